abbrev R_X3_stillWith : Room := { frames := 1, cells := 0, slots := 0, locals := 13 }
def j_X3_stillWith_38_s0 (x : Int32) (y : Int32) (S : SS) : Int32 := if 0 < (S.1 21) then (if 1 < (iabs (x - (S.1 10))) then 0 else (if 1 < (iabs (y - (S.1 11))) then 0 else 1)) else 0
def r_X3_stillWith_at38 (x : Int32) (y : Int32) (S : SS) : Int32 := if (j_X3_stillWith_38_s0 x y S) = 0 then 0 else ((S.1 12) + 1)
def r_X3_stillWith (x : Int32) (y : Int32) (S : SS) : Int32 := r_X3_stillWith_at38 x y S
set_option maxHeartbeats 1000000 in
set_option maxRecDepth 100000 in
theorem s_X3_stillWith_38 (d : gD) (a : Nat → Nat) (x : Int32) (y : Int32) (S : SS)   {X : gX} (E : gE d X RX3 cX3_stillWith 4 R_X3_stillWith) (RET : ∀ (pc_ : Nat) (lv_ : List (Nat × Value)) (v_ : Int32) (u_ : va_W), decode cX3_stillWith pc_ = .ok (.ireturn, 1) → narrow .int (.int v_) = .int v_ → v_ = r_X3_stillWith_at38 x y S → u_ = SK d a S → G d X u_ R_X3_stillWith.cells R_X3_stillWith.slots pc_ lv_ [.int v_]) : G d X (SK d a S) 0 0 38 [(0, .ref (a 0)), (1, .int x), (2, .int y)] [.int (j_X3_stillWith_38_s0 x y S)] := by
  obtain ⟨J1_, hJ1_⟩ : ∃ z, j_X3_stillWith_38_s0 x y S = z := ⟨_, rfl⟩
  rw [hJ1_]
  refine g_istore_n E (lv' := [(3, .int J1_), (0, .ref (a 0)), (1, .int x), (2, .int y)]) dX3_stillWith_38 rfl (by decide) rfl ?_
  refine g_iload_n E 0 dX3_stillWith_39 rfl rfl ?_
  refine g_ifeq E 52 dX3_stillWith_40 (by decide) (fun c_40 => ?_) (fun c_40 => ?_)
  · skip
    refine g_iconst E 0 dX3_stillWith_52 (by decide) ?_
    subst hJ1_
    exact RET 53 _ 0 _ dX3_stillWith_53 rfl (by rw [r_X3_stillWith_at38, if_pos c_40]) rfl
  · skip
    refine g_aload_n E 1 dX3_stillWith_43 rfl rfl ?_
    refine g_get E (ci := 3) inlX3 4 rfl rfl 9 (by decide) fl_X3_62 rfl (.int (S.1 12)) rfl dX3_stillWith_44 ?_
    refine g_iconst E 1 dX3_stillWith_47 (by decide) ?_
    refine g_iadd E dX3_stillWith_48 ?_
    refine g_goto E 53 dX3_stillWith_49 (by decide) ?_
    subst hJ1_
    exact RET 53 _ ((S.1 12) + 1) _ dX3_stillWith_53 rfl (by rw [r_X3_stillWith_at38, if_neg c_40]) rfl
set_option maxHeartbeats 1000000 in
set_option maxRecDepth 100000 in
theorem s_X3_stillWith_0 (d : gD) (a : Nat → Nat) (x : Int32) (y : Int32) (S : SS)   {X : gX} (E : gE d X RX3 cX3_stillWith 4 R_X3_stillWith) (RET : ∀ (pc_ : Nat) (lv_ : List (Nat × Value)) (v_ : Int32) (u_ : va_W), decode cX3_stillWith pc_ = .ok (.ireturn, 1) → narrow .int (.int v_) = .int v_ → v_ = r_X3_stillWith x y S → u_ = SK d a S → G d X u_ R_X3_stillWith.cells R_X3_stillWith.slots pc_ lv_ [.int v_]) : G d X (SK d a S) 0 0 0 [(0, .ref (a 0)), (1, .int x), (2, .int y)] [] := by
  refine g_aload_n E 0 dX3_stillWith_0 rfl rfl ?_
  refine g_get E (ci := 3) inlX3 4 rfl rfl 11 (by decide) fl_X3_68 rfl (.int (S.1 21)) rfl dX3_stillWith_1 ?_
  refine g_ifle E 37 dX3_stillWith_4 (by decide) (fun c_4 => ?_) (fun c_4 => ?_)
  · skip
    refine g_iconst E 0 dX3_stillWith_37 (by decide) ?_
    have J := s_X3_stillWith_38 d a x y S   E (fun pc_ lv_ v_ u_ h1_ h2_ h3_ h4_ => RET pc_ lv_ v_ u_ h1_ h2_ (h3_.trans (by rw [r_X3_stillWith])) h4_)
    rw [j_X3_stillWith_38_s0, if_neg c_4] at J
    exact J
  · skip
    refine g_iload_n E 1 dX3_stillWith_7 rfl rfl ?_
    refine g_aload_n E 0 dX3_stillWith_8 rfl rfl ?_
    refine g_get E (ci := 3) inlX3 4 rfl rfl 7 (by decide) fl_X3_56 rfl (.int (S.1 10)) rfl dX3_stillWith_9 ?_
    refine g_isub E dX3_stillWith_12 ?_
    refine g_abs E ml_X3_86 (ok_le rfl) (ok_le rfl) (ok_le rfl) (ok_le rfl) dX3_stillWith_13 ?_
    refine g_top (b := iabs (x - (S.1 10))) rfl ?_
    refine g_iconst E 1 dX3_stillWith_16 (by decide) ?_
    refine g_icmpgt E 37 dX3_stillWith_17 (by decide) (fun c_17 => ?_) (fun c_17 => ?_)
    · skip
      refine g_iconst E 0 dX3_stillWith_37 (by decide) ?_
      have J := s_X3_stillWith_38 d a x y S   E (fun pc_ lv_ v_ u_ h1_ h2_ h3_ h4_ => RET pc_ lv_ v_ u_ h1_ h2_ (h3_.trans (by rw [r_X3_stillWith])) h4_)
      rw [j_X3_stillWith_38_s0, if_pos c_4, if_pos c_17] at J
      exact J
    · skip
      refine g_iload_n E 2 dX3_stillWith_20 rfl rfl ?_
      refine g_aload_n E 0 dX3_stillWith_21 rfl rfl ?_
      refine g_get E (ci := 3) inlX3 4 rfl rfl 8 (by decide) fl_X3_59 rfl (.int (S.1 11)) rfl dX3_stillWith_22 ?_
      refine g_isub E dX3_stillWith_25 ?_
      refine g_abs E ml_X3_86 (ok_le rfl) (ok_le rfl) (ok_le rfl) (ok_le rfl) dX3_stillWith_26 ?_
      refine g_top (b := iabs (y - (S.1 11))) rfl ?_
      refine g_iconst E 1 dX3_stillWith_29 (by decide) ?_
      refine g_icmpgt E 37 dX3_stillWith_30 (by decide) (fun c_30 => ?_) (fun c_30 => ?_)
      · skip
        refine g_iconst E 0 dX3_stillWith_37 (by decide) ?_
        have J := s_X3_stillWith_38 d a x y S   E (fun pc_ lv_ v_ u_ h1_ h2_ h3_ h4_ => RET pc_ lv_ v_ u_ h1_ h2_ (h3_.trans (by rw [r_X3_stillWith])) h4_)
        rw [j_X3_stillWith_38_s0, if_pos c_4, if_neg c_17, if_pos c_30] at J
        exact J
      · skip
        refine g_iconst E 1 dX3_stillWith_33 (by decide) ?_
        refine g_goto E 38 dX3_stillWith_34 (by decide) ?_
        have J := s_X3_stillWith_38 d a x y S   E (fun pc_ lv_ v_ u_ h1_ h2_ h3_ h4_ => RET pc_ lv_ v_ u_ h1_ h2_ (h3_.trans (by rw [r_X3_stillWith])) h4_)
        rw [j_X3_stillWith_38_s0, if_pos c_4, if_neg c_17, if_neg c_30] at J
        exact J
set_option maxHeartbeats 1000000 in
set_option maxRecDepth 100000 in
theorem t_X3_stillWith (d : gD) (a : Nat → Nat) (x : Int32) (y : Int32) (S : SS)  : gMi d yX3_stillWith cX3_stillWith 4 (some .int) R_X3_stillWith [.ref (a 0), .int x, .int y] (SK d a S) (fun r_ u_ => r_ = r_X3_stillWith x y S ∧ u_ = SK d a S) :=
  g_met_i RX3 rfl (by decide +kernel) (Nat.le_of_ble_eq_true rfl) [(0, .ref (a 0)), (1, .int x), (2, .int y)] rfl (fun X E RET => s_X3_stillWith_0 d a x y S  E (fun pc_ lv_ v_ u_ h1_ h2_ h3_ h4_ => RET pc_ lv_ v_ u_ h1_ h2_ ⟨h3_, h4_⟩))
abbrev R_X3_wouldDrift : Room := { frames := 2, cells := 0, slots := 0, locals := 42 }
def r_X3_wouldDrift (x : Int32) (y : Int32) (S : SS) : Int32 := if (S.1 13) = 0 then (if (S.1 9) < (r_X3_farthestOff x y S) then (if ((S.1 9) + 8) < (r_X3_farthestOff x y S) then 0 else (if (r_X3_stillWith x y S) < (S.2.1 5) then 0 else 1)) else 0) else 0
set_option maxHeartbeats 1000000 in
set_option maxRecDepth 100000 in
theorem s_X3_wouldDrift_0 (d : gD) (a : Nat → Nat) (x : Int32) (y : Int32) (S : SS)   {X : gX} (E : gE d X RX3 cX3_wouldDrift 4 R_X3_wouldDrift) (RET : ∀ (pc_ : Nat) (lv_ : List (Nat × Value)) (v_ : Int32) (u_ : va_W), decode cX3_wouldDrift pc_ = .ok (.ireturn, 1) → narrow .boolean (.int v_) = .int v_ → v_ = r_X3_wouldDrift x y S → u_ = SK d a S → G d X u_ R_X3_wouldDrift.cells R_X3_wouldDrift.slots pc_ lv_ [.int v_]) : G d X (SK d a S) 0 0 0 [(0, .ref (a 0)), (1, .int x), (2, .int y)] [] := by
  refine g_aload_n E 0 dX3_wouldDrift_0 rfl rfl ?_
  refine g_iload_n E 1 dX3_wouldDrift_1 rfl rfl ?_
  refine g_iload_n E 2 dX3_wouldDrift_2 rfl rfl ?_
  refine g_callVi0 E gc_X3_farthestOff ml_X3_114 (t_X3_farthestOff d a x y S ) rfl rfl (ci := 3) 4 rfl rfl rfl rfl (ok_le rfl) ⟨ok_le rfl, ok_le rfl, ok_le rfl, ok_le rfl⟩ rfl rfl dX3_wouldDrift_3 ?_
  refine g_nm (fun v1_ hv1_ => ?_)
  refine g_istore_n E (lv' := [(3, .int v1_), (0, .ref (a 0)), (1, .int x), (2, .int y)]) dX3_wouldDrift_6 rfl (by decide) rfl ?_
  refine g_aload_n E 1 dX3_wouldDrift_7 rfl rfl ?_
  refine g_get E (ci := 3) inlX3 4 rfl rfl 10 (by decide) fl_X3_65 rfl (.int (S.1 13)) rfl dX3_wouldDrift_8 ?_
  refine g_ifne E 52 dX3_wouldDrift_11 (by decide) (fun c_11 => ?_) (fun c_11 => ?_)
  · skip
    refine g_iconst E 0 dX3_wouldDrift_52 (by decide) ?_
    subst hv1_
    exact RET 53 _ 0 _ dX3_wouldDrift_53 rfl (by rw [r_X3_wouldDrift, if_neg c_11]) rfl
  · skip
    refine g_iload_n E 0 dX3_wouldDrift_14 rfl rfl ?_
    refine g_aload_n E 1 dX3_wouldDrift_15 rfl rfl ?_
    refine g_get E (ci := 3) inlX3 4 rfl rfl 4 (by decide) fl_X3_37 rfl (.int (S.1 9)) rfl dX3_wouldDrift_16 ?_
    refine g_icmple E 52 dX3_wouldDrift_19 (by decide) (fun c_19 => ?_) (fun c_19 => ?_)
    · skip
      refine g_iconst E 0 dX3_wouldDrift_52 (by decide) ?_
      subst hv1_
      exact RET 53 _ 0 _ dX3_wouldDrift_53 rfl (by rw [r_X3_wouldDrift, if_pos c_11, if_neg c_19]) rfl
    · skip
      refine g_iload_n E 0 dX3_wouldDrift_22 rfl rfl ?_
      refine g_aload_n E 1 dX3_wouldDrift_23 rfl rfl ?_
      refine g_get E (ci := 3) inlX3 4 rfl rfl 4 (by decide) fl_X3_37 rfl (.int (S.1 9)) rfl dX3_wouldDrift_24 ?_
      refine g_bipush E 8 dX3_wouldDrift_27 (by decide) ?_
      refine g_iadd E dX3_wouldDrift_29 ?_
      refine g_icmpgt E 52 dX3_wouldDrift_30 (by decide) (fun c_30 => ?_) (fun c_30 => ?_)
      · skip
        refine g_iconst E 0 dX3_wouldDrift_52 (by decide) ?_
        subst hv1_
        exact RET 53 _ 0 _ dX3_wouldDrift_53 rfl (by rw [r_X3_wouldDrift, if_pos c_11, if_pos c_19, if_pos c_30]) rfl
      · skip
        refine g_aload_n E 1 dX3_wouldDrift_33 rfl rfl ?_
        refine g_iload_n E 2 dX3_wouldDrift_34 rfl rfl ?_
        refine g_iload_n E 3 dX3_wouldDrift_35 rfl rfl ?_
        refine g_callVi0 E gc_X3_stillWith ml_X3_117 (t_X3_stillWith d a x y S ) rfl rfl (ci := 3) 4 rfl rfl rfl rfl (ok_le rfl) ⟨ok_le rfl, ok_le rfl, ok_le rfl, ok_le rfl⟩ rfl rfl dX3_wouldDrift_36 ?_
        refine g_nm (fun v2_ hv2_ => ?_)
        refine g_aload_n E 1 dX3_wouldDrift_39 rfl rfl ?_
        refine g_get E (ci := 3) inlX3 4 rfl rfl 0 (by decide) fl_X3_18 rfl (.ref (a 1)) rfl dX3_wouldDrift_40 ?_
        refine g_iconst E 5 dX3_wouldDrift_43 (by decide) ?_
        refine g_iald E 5 rfl rfl 5 rfl (by decide) (by decide) dX3_wouldDrift_44 ?_
        refine g_icmplt E 52 dX3_wouldDrift_45 (by decide) (fun c_45 => ?_) (fun c_45 => ?_)
        · skip
          refine g_iconst E 0 dX3_wouldDrift_52 (by decide) ?_
          subst hv2_
          subst hv1_
          exact RET 53 _ 0 _ dX3_wouldDrift_53 rfl (by rw [r_X3_wouldDrift, if_pos c_11, if_pos c_19, if_neg c_30, if_pos c_45]) rfl
        · skip
          refine g_iconst E 1 dX3_wouldDrift_48 (by decide) ?_
          refine g_goto E 53 dX3_wouldDrift_49 (by decide) ?_
          subst hv2_
          subst hv1_
          exact RET 53 _ 1 _ dX3_wouldDrift_53 rfl (by rw [r_X3_wouldDrift, if_pos c_11, if_pos c_19, if_neg c_30, if_neg c_45]) rfl
set_option maxHeartbeats 1000000 in
set_option maxRecDepth 100000 in
theorem t_X3_wouldDrift (d : gD) (a : Nat → Nat) (x : Int32) (y : Int32) (S : SS)  : gMi d yX3_wouldDrift cX3_wouldDrift 4 (some .boolean) R_X3_wouldDrift [.ref (a 0), .int x, .int y] (SK d a S) (fun r_ u_ => r_ = r_X3_wouldDrift x y S ∧ u_ = SK d a S) :=
  g_met_i RX3 rfl (by decide +kernel) (Nat.le_of_ble_eq_true rfl) [(0, .ref (a 0)), (1, .int x), (2, .int y)] rfl (fun X E RET => s_X3_wouldDrift_0 d a x y S  E (fun pc_ lv_ v_ u_ h1_ h2_ h3_ h4_ => RET pc_ lv_ v_ u_ h1_ h2_ ⟨h3_, h4_⟩))
abbrev R_X3_leanOf : Room := { frames := 1, cells := 0, slots := 0, locals := 21 }
def r_X3_leanOf (off : Int32) (S : SS) : Int32 := if 0 < ((iabs off) - (S.1 9)) then (if off < 0 then (-(imin 100 (r_X4_quotient (((iabs off) - (S.1 9)) * 100) ((S.2.1 3) - (S.1 9))))) else (imin 100 (r_X4_quotient (((iabs off) - (S.1 9)) * 100) ((S.2.1 3) - (S.1 9))))) else 0
set_option maxHeartbeats 1000000 in
set_option maxRecDepth 100000 in
theorem s_X3_leanOf_0 (d : gD) (a : Nat → Nat) (off : Int32) (S : SS)   {X : gX} (E : gE d X RX3 cX3_leanOf 4 R_X3_leanOf) (RET : ∀ (pc_ : Nat) (lv_ : List (Nat × Value)) (v_ : Int32) (u_ : va_W), decode cX3_leanOf pc_ = .ok (.ireturn, 1) → narrow .int (.int v_) = .int v_ → v_ = r_X3_leanOf off S → u_ = SK d a S → G d X u_ R_X3_leanOf.cells R_X3_leanOf.slots pc_ lv_ [.int v_]) : G d X (SK d a S) 0 0 0 [(0, .ref (a 0)), (1, .int off)] [] := by
  refine g_iload_n E 1 dX3_leanOf_0 rfl rfl ?_
  refine g_abs E ml_X3_86 (ok_le rfl) (ok_le rfl) (ok_le rfl) (ok_le rfl) dX3_leanOf_1 ?_
  refine g_top (b := iabs off) rfl ?_
  refine g_aload_n E 0 dX3_leanOf_4 rfl rfl ?_
  refine g_get E (ci := 3) inlX3 4 rfl rfl 4 (by decide) fl_X3_37 rfl (.int (S.1 9)) rfl dX3_leanOf_5 ?_
  refine g_isub E dX3_leanOf_8 ?_
  refine g_istore_n E (lv' := [(2, .int ((iabs off) - (S.1 9))), (0, .ref (a 0)), (1, .int off)]) dX3_leanOf_9 rfl (by decide) rfl ?_
  refine g_iload_n E 0 dX3_leanOf_10 rfl rfl ?_
  refine g_ifgt E 16 dX3_leanOf_11 (by decide) (fun c_11 => ?_) (fun c_11 => ?_)
  · skip
    refine g_bipush E 100 dX3_leanOf_16 (by decide) ?_
    refine g_iload_n E 0 dX3_leanOf_18 rfl rfl ?_
    refine g_bipush E 100 dX3_leanOf_19 (by decide) ?_
    refine g_imul E dX3_leanOf_21 ?_
    refine g_aload_n E 1 dX3_leanOf_22 rfl rfl ?_
    refine g_get E (ci := 3) inlX3 4 rfl rfl 0 (by decide) fl_X3_18 rfl (.ref (a 1)) rfl dX3_leanOf_23 ?_
    refine g_iconst E 3 dX3_leanOf_26 (by decide) ?_
    refine g_iald E 5 rfl rfl 3 rfl (by decide) (by decide) dX3_leanOf_27 ?_
    refine g_aload_n E 1 dX3_leanOf_28 rfl rfl ?_
    refine g_get E (ci := 3) inlX3 4 rfl rfl 4 (by decide) fl_X3_37 rfl (.int (S.1 9)) rfl dX3_leanOf_29 ?_
    refine g_isub E dX3_leanOf_32 ?_
    refine g_callSNp E gc_X4_quotient (List.mem_of_getElem? (i := 8) rfl) (t_X4_quotient d (((iabs off) - (S.1 9)) * 100) ((S.2.1 3) - (S.1 9)) ) rfl rfl rfl (ok_le rfl) ⟨ok_le rfl, ok_le rfl, ok_le rfl, ok_le rfl⟩ rfl rfl dX3_leanOf_33 ?_
    refine g_nm (fun v1_ hv1_ => ?_)
    refine g_min E ml_X3_132 (ok_le rfl) (ok_le rfl) (ok_le rfl) (ok_le rfl) dX3_leanOf_36 ?_
    refine g_top (b := imin 100 v1_) rfl ?_
    refine g_istore_n E (lv' := [(3, .int (imin 100 v1_)), (2, .int ((iabs off) - (S.1 9))), (0, .ref (a 0)), (1, .int off)]) dX3_leanOf_39 rfl (by decide) rfl ?_
    refine g_iload_n E 3 dX3_leanOf_40 rfl rfl ?_
    refine g_ifge E 49 dX3_leanOf_41 (by decide) (fun c_41 => ?_) (fun c_41 => ?_)
    · skip
      refine g_iload_n E 0 dX3_leanOf_49 rfl rfl ?_
      subst hv1_
      exact RET 50 _ (imin 100 (r_X4_quotient (((iabs off) - (S.1 9)) * 100) ((S.2.1 3) - (S.1 9)))) _ dX3_leanOf_50 rfl (by rw [r_X3_leanOf, if_pos c_11, if_neg c_41]) rfl
    · skip
      refine g_iload_n E 0 dX3_leanOf_44 rfl rfl ?_
      refine g_ineg E dX3_leanOf_45 ?_
      refine g_goto E 50 dX3_leanOf_46 (by decide) ?_
      subst hv1_
      exact RET 50 _ (-(imin 100 (r_X4_quotient (((iabs off) - (S.1 9)) * 100) ((S.2.1 3) - (S.1 9))))) _ dX3_leanOf_50 rfl (by rw [r_X3_leanOf, if_pos c_11, if_pos c_41]) rfl
  · skip
    refine g_iconst E 0 dX3_leanOf_14 (by decide) ?_
    exact RET 15 _ 0 _ dX3_leanOf_15 rfl (by rw [r_X3_leanOf, if_neg c_11]) rfl
set_option maxHeartbeats 1000000 in
set_option maxRecDepth 100000 in
theorem t_X3_leanOf (d : gD) (a : Nat → Nat) (off : Int32) (S : SS)  : gMi d yX3_leanOf cX3_leanOf 4 (some .int) R_X3_leanOf [.ref (a 0), .int off] (SK d a S) (fun r_ u_ => r_ = r_X3_leanOf off S ∧ u_ = SK d a S) :=
  g_met_i RX3 rfl (by decide +kernel) (Nat.le_of_ble_eq_true rfl) [(0, .ref (a 0)), (1, .int off)] rfl (fun X E RET => s_X3_leanOf_0 d a off S  E (fun pc_ lv_ v_ u_ h1_ h2_ h3_ h4_ => RET pc_ lv_ v_ u_ h1_ h2_ ⟨h3_, h4_⟩))
