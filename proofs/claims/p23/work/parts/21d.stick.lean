abbrev R_X3_tellingAt : Room := { frames := 3, cells := 0, slots := 0, locals := 65 }
def r_X3_tellingAt (x : Int32) (y : Int32) (S : SS) : Int32 := if (S.1 9) < (r_X3_farthestOff x y S) then (if (r_X3_wouldDrift x y S) = 0 then (if (S.2.1 4) < ((iabs (r_X3_leanOf (x - (r_X3_restPlaceX S)) S)) + (iabs (r_X3_leanOf (y - (r_X3_restPlaceY S)) S))) then (r_X4_packed (r_X4_quotient ((r_X3_leanOf (x - (r_X3_restPlaceX S)) S) * (S.2.1 4)) ((iabs (r_X3_leanOf (x - (r_X3_restPlaceX S)) S)) + (iabs (r_X3_leanOf (y - (r_X3_restPlaceY S)) S)))) (r_X4_quotient ((r_X3_leanOf (y - (r_X3_restPlaceY S)) S) * (S.2.1 4)) ((iabs (r_X3_leanOf (x - (r_X3_restPlaceX S)) S)) + (iabs (r_X3_leanOf (y - (r_X3_restPlaceY S)) S))))) else (r_X4_packed (r_X3_leanOf (x - (r_X3_restPlaceX S)) S) (r_X3_leanOf (y - (r_X3_restPlaceY S)) S))) else (r_X4_packed 0 0)) else (r_X4_packed 0 0)
set_option maxHeartbeats 1000000 in
set_option maxRecDepth 100000 in
theorem s_X3_tellingAt_0 (d : gD) (a : Nat → Nat) (x : Int32) (y : Int32) (S : SS)   {X : gX} (E : gE d X RX3 cX3_tellingAt 7 R_X3_tellingAt) (RET : ∀ (pc_ : Nat) (lv_ : List (Nat × Value)) (v_ : Int32) (u_ : va_W), decode cX3_tellingAt pc_ = .ok (.ireturn, 1) → narrow .int (.int v_) = .int v_ → v_ = r_X3_tellingAt x y S → u_ = SK d a S → G d X u_ R_X3_tellingAt.cells R_X3_tellingAt.slots pc_ lv_ [.int v_]) : G d X (SK d a S) 0 0 0 [(0, .ref (a 0)), (1, .int x), (2, .int y)] [] := by
  refine g_aload_n E 0 dX3_tellingAt_0 rfl rfl ?_
  refine g_iload_n E 1 dX3_tellingAt_1 rfl rfl ?_
  refine g_iload_n E 2 dX3_tellingAt_2 rfl rfl ?_
  refine g_callVi0 E gc_X3_farthestOff ml_X3_114 (t_X3_farthestOff d a x y S ) rfl rfl (ci := 3) 4 rfl rfl rfl rfl (ok_le rfl) ⟨ok_le rfl, ok_le rfl, ok_le rfl, ok_le rfl⟩ rfl rfl dX3_tellingAt_3 ?_
  refine g_nm (fun v1_ hv1_ => ?_)
  refine g_aload_n E 0 dX3_tellingAt_6 rfl rfl ?_
  refine g_get E (ci := 3) inlX3 4 rfl rfl 4 (by decide) fl_X3_37 rfl (.int (S.1 9)) rfl dX3_tellingAt_7 ?_
  refine g_icmple E 22 dX3_tellingAt_10 (by decide) (fun c_10 => ?_) (fun c_10 => ?_)
  · skip
    refine g_iconst E 0 dX3_tellingAt_22 (by decide) ?_
    refine g_iconst E 0 dX3_tellingAt_23 (by decide) ?_
    refine g_callSNp E gc_X4_packed (List.mem_of_getElem? (i := 7) rfl) (t_X4_packed d 0 0 ) rfl rfl rfl (ok_le rfl) ⟨ok_le rfl, ok_le rfl, ok_le rfl, ok_le rfl⟩ rfl rfl dX3_tellingAt_24 ?_
    refine g_nm (fun v2_ hv2_ => ?_)
    subst hv2_
    subst hv1_
    exact RET 27 _ (r_X4_packed 0 0) _ dX3_tellingAt_27 rfl (by rw [r_X3_tellingAt, if_neg c_10]) rfl
  · skip
    refine g_aload_n E 0 dX3_tellingAt_13 rfl rfl ?_
    refine g_iload_n E 1 dX3_tellingAt_14 rfl rfl ?_
    refine g_iload_n E 2 dX3_tellingAt_15 rfl rfl ?_
    refine g_callVi0 E gc_X3_wouldDrift ml_X3_120 (t_X3_wouldDrift d a x y S ) rfl rfl (ci := 3) 4 rfl rfl rfl rfl (ok_le rfl) ⟨ok_le rfl, ok_le rfl, ok_le rfl, ok_le rfl⟩ rfl rfl dX3_tellingAt_16 ?_
    refine g_nm (fun v3_ hv3_ => ?_)
    refine g_ifeq E 28 dX3_tellingAt_19 (by decide) (fun c_19 => ?_) (fun c_19 => ?_)
    · skip
      refine g_aload_n E 0 dX3_tellingAt_28 rfl rfl ?_
      refine g_iload_n E 1 dX3_tellingAt_29 rfl rfl ?_
      refine g_aload_n E 0 dX3_tellingAt_30 rfl rfl ?_
      refine g_callVi0 E gc_X3_restPlaceX ml_X3_103 (t_X3_restPlaceX d a S ) rfl rfl (ci := 3) 4 rfl rfl rfl rfl (ok_le rfl) ⟨ok_le rfl, ok_le rfl, ok_le rfl, ok_le rfl⟩ rfl rfl dX3_tellingAt_31 ?_
      refine g_nm (fun v4_ hv4_ => ?_)
      refine g_isub E dX3_tellingAt_34 ?_
      refine g_callVi0 E gc_X3_leanOf ml_X3_126 (t_X3_leanOf d a (x - v4_) S ) rfl rfl (ci := 3) 4 rfl rfl rfl rfl (ok_le rfl) ⟨ok_le rfl, ok_le rfl, ok_le rfl, ok_le rfl⟩ rfl rfl dX3_tellingAt_35 ?_
      refine g_nm (fun v5_ hv5_ => ?_)
      refine g_istore_n E (lv' := [(3, .int v5_), (0, .ref (a 0)), (1, .int x), (2, .int y)]) dX3_tellingAt_38 rfl (by decide) rfl ?_
      refine g_aload_n E 1 dX3_tellingAt_39 rfl rfl ?_
      refine g_iload_n E 3 dX3_tellingAt_40 rfl rfl ?_
      refine g_aload_n E 1 dX3_tellingAt_41 rfl rfl ?_
      refine g_callVi0 E gc_X3_restPlaceY ml_X3_107 (t_X3_restPlaceY d a S ) rfl rfl (ci := 3) 4 rfl rfl rfl rfl (ok_le rfl) ⟨ok_le rfl, ok_le rfl, ok_le rfl, ok_le rfl⟩ rfl rfl dX3_tellingAt_42 ?_
      refine g_nm (fun v6_ hv6_ => ?_)
      refine g_isub E dX3_tellingAt_45 ?_
      refine g_callVi0 E gc_X3_leanOf ml_X3_126 (t_X3_leanOf d a (y - v6_) S ) rfl rfl (ci := 3) 4 rfl rfl rfl rfl (ok_le rfl) ⟨ok_le rfl, ok_le rfl, ok_le rfl, ok_le rfl⟩ rfl rfl dX3_tellingAt_46 ?_
      refine g_nm (fun v7_ hv7_ => ?_)
      refine g_istore E (lv' := [(4, .int v7_), (3, .int v5_), (0, .ref (a 0)), (1, .int x), (2, .int y)]) dX3_tellingAt_49 (by decide) rfl ?_
      refine g_iload_n E 1 dX3_tellingAt_51 rfl rfl ?_
      refine g_abs E ml_X3_86 (ok_le rfl) (ok_le rfl) (ok_le rfl) (ok_le rfl) dX3_tellingAt_52 ?_
      refine g_top (b := iabs v5_) rfl ?_
      refine g_iload E 0 dX3_tellingAt_55 rfl ?_
      refine g_abs E ml_X3_86 (ok_le rfl) (ok_le rfl) (ok_le rfl) (ok_le rfl) dX3_tellingAt_57 ?_
      refine g_top (b := iabs v7_) rfl ?_
      refine g_iadd E dX3_tellingAt_60 ?_
      refine g_istore E (lv' := [(5, .int ((iabs v5_) + (iabs v7_))), (4, .int v7_), (3, .int v5_), (0, .ref (a 0)), (1, .int x), (2, .int y)]) dX3_tellingAt_61 (by decide) rfl ?_
      refine g_aload_n E 3 dX3_tellingAt_63 rfl rfl ?_
      refine g_get E (ci := 3) inlX3 4 rfl rfl 0 (by decide) fl_X3_18 rfl (.ref (a 1)) rfl dX3_tellingAt_64 ?_
      refine g_iconst E 4 dX3_tellingAt_67 (by decide) ?_
      refine g_iald E 5 rfl rfl 4 rfl (by decide) (by decide) dX3_tellingAt_68 ?_
      refine g_istore E (lv' := [(6, .int (S.2.1 4)), (5, .int ((iabs v5_) + (iabs v7_))), (4, .int v7_), (3, .int v5_), (0, .ref (a 0)), (1, .int x), (2, .int y)]) dX3_tellingAt_69 (by decide) rfl ?_
      refine g_iload E 1 dX3_tellingAt_71 rfl ?_
      refine g_iload E 0 dX3_tellingAt_73 rfl ?_
      refine g_icmple E 101 dX3_tellingAt_75 (by decide) (fun c_75 => ?_) (fun c_75 => ?_)
      · skip
        refine g_iload_n E 3 dX3_tellingAt_101 rfl rfl ?_
        refine g_iload E 2 dX3_tellingAt_102 rfl ?_
        refine g_callSNp E gc_X4_packed (List.mem_of_getElem? (i := 7) rfl) (t_X4_packed d v5_ v7_ ) rfl rfl rfl (ok_le rfl) ⟨ok_le rfl, ok_le rfl, ok_le rfl, ok_le rfl⟩ rfl rfl dX3_tellingAt_104 ?_
        refine g_nm (fun v8_ hv8_ => ?_)
        subst hv8_
        subst hv7_
        subst hv6_
        subst hv5_
        subst hv4_
        subst hv3_
        subst hv1_
        exact RET 107 _ (r_X4_packed (r_X3_leanOf (x - (r_X3_restPlaceX S)) S) (r_X3_leanOf (y - (r_X3_restPlaceY S)) S)) _ dX3_tellingAt_107 rfl (by rw [r_X3_tellingAt, if_pos c_10, if_pos c_19, if_neg c_75]) rfl
      · skip
        refine g_iload_n E 3 dX3_tellingAt_78 rfl rfl ?_
        refine g_iload E 0 dX3_tellingAt_79 rfl ?_
        refine g_imul E dX3_tellingAt_81 ?_
        refine g_iload E 1 dX3_tellingAt_82 rfl ?_
        refine g_callSNp E gc_X4_quotient (List.mem_of_getElem? (i := 8) rfl) (t_X4_quotient d (v5_ * (S.2.1 4)) ((iabs v5_) + (iabs v7_)) ) rfl rfl rfl (ok_le rfl) ⟨ok_le rfl, ok_le rfl, ok_le rfl, ok_le rfl⟩ rfl rfl dX3_tellingAt_84 ?_
        refine g_nm (fun v9_ hv9_ => ?_)
        refine g_iload E 2 dX3_tellingAt_87 rfl ?_
        refine g_iload E 0 dX3_tellingAt_89 rfl ?_
        refine g_imul E dX3_tellingAt_91 ?_
        refine g_iload E 1 dX3_tellingAt_92 rfl ?_
        refine g_callSNp E gc_X4_quotient (List.mem_of_getElem? (i := 8) rfl) (t_X4_quotient d (v7_ * (S.2.1 4)) ((iabs v5_) + (iabs v7_)) ) rfl rfl rfl (ok_le rfl) ⟨ok_le rfl, ok_le rfl, ok_le rfl, ok_le rfl⟩ rfl rfl dX3_tellingAt_94 ?_
        refine g_nm (fun v10_ hv10_ => ?_)
        refine g_callSNp E gc_X4_packed (List.mem_of_getElem? (i := 7) rfl) (t_X4_packed d v9_ v10_ ) rfl rfl rfl (ok_le rfl) ⟨ok_le rfl, ok_le rfl, ok_le rfl, ok_le rfl⟩ rfl rfl dX3_tellingAt_97 ?_
        refine g_nm (fun v11_ hv11_ => ?_)
        subst hv11_
        subst hv10_
        subst hv9_
        subst hv7_
        subst hv6_
        subst hv5_
        subst hv4_
        subst hv3_
        subst hv1_
        exact RET 100 _ (r_X4_packed (r_X4_quotient ((r_X3_leanOf (x - (r_X3_restPlaceX S)) S) * (S.2.1 4)) ((iabs (r_X3_leanOf (x - (r_X3_restPlaceX S)) S)) + (iabs (r_X3_leanOf (y - (r_X3_restPlaceY S)) S)))) (r_X4_quotient ((r_X3_leanOf (y - (r_X3_restPlaceY S)) S) * (S.2.1 4)) ((iabs (r_X3_leanOf (x - (r_X3_restPlaceX S)) S)) + (iabs (r_X3_leanOf (y - (r_X3_restPlaceY S)) S))))) _ dX3_tellingAt_100 rfl (by rw [r_X3_tellingAt, if_pos c_10, if_pos c_19, if_pos c_75]) rfl
    · skip
      refine g_iconst E 0 dX3_tellingAt_22 (by decide) ?_
      refine g_iconst E 0 dX3_tellingAt_23 (by decide) ?_
      refine g_callSNp E gc_X4_packed (List.mem_of_getElem? (i := 7) rfl) (t_X4_packed d 0 0 ) rfl rfl rfl (ok_le rfl) ⟨ok_le rfl, ok_le rfl, ok_le rfl, ok_le rfl⟩ rfl rfl dX3_tellingAt_24 ?_
      refine g_nm (fun v12_ hv12_ => ?_)
      subst hv12_
      subst hv3_
      subst hv1_
      exact RET 27 _ (r_X4_packed 0 0) _ dX3_tellingAt_27 rfl (by rw [r_X3_tellingAt, if_pos c_10, if_neg c_19]) rfl
set_option maxHeartbeats 1000000 in
set_option maxRecDepth 100000 in
theorem t_X3_tellingAt (d : gD) (a : Nat → Nat) (x : Int32) (y : Int32) (S : SS)  : gMi d yX3_tellingAt cX3_tellingAt 7 (some .int) R_X3_tellingAt [.ref (a 0), .int x, .int y] (SK d a S) (fun r_ u_ => r_ = r_X3_tellingAt x y S ∧ u_ = SK d a S) :=
  g_met_i RX3 rfl (by decide +kernel) (Nat.le_of_ble_eq_true rfl) [(0, .ref (a 0)), (1, .int x), (2, .int y)] rfl (fun X E RET => s_X3_tellingAt_0 d a x y S  E (fun pc_ lv_ v_ u_ h1_ h2_ h3_ h4_ => RET pc_ lv_ v_ u_ h1_ h2_ ⟨h3_, h4_⟩))
abbrev R_X3_telling : Room := { frames := 1, cells := 0, slots := 0, locals := 21 }
def r_X3_telling (S : SS) : Int32 := (r_X4_packed (S.1 14) (S.1 15))
set_option maxHeartbeats 1000000 in
set_option maxRecDepth 100000 in
theorem s_X3_telling_0 (d : gD) (a : Nat → Nat) (S : SS)   {X : gX} (E : gE d X RX3 cX3_telling 1 R_X3_telling) (RET : ∀ (pc_ : Nat) (lv_ : List (Nat × Value)) (v_ : Int32) (u_ : va_W), decode cX3_telling pc_ = .ok (.ireturn, 1) → narrow .int (.int v_) = .int v_ → v_ = r_X3_telling S → u_ = SK d a S → G d X u_ R_X3_telling.cells R_X3_telling.slots pc_ lv_ [.int v_]) : G d X (SK d a S) 0 0 0 [(0, .ref (a 0))] [] := by
  refine g_aload_n E 0 dX3_telling_0 rfl rfl ?_
  refine g_get E (ci := 3) inlX3 4 rfl rfl 5 (by decide) fl_X3_50 rfl (.int (S.1 14)) rfl dX3_telling_1 ?_
  refine g_aload_n E 0 dX3_telling_4 rfl rfl ?_
  refine g_get E (ci := 3) inlX3 4 rfl rfl 6 (by decide) fl_X3_53 rfl (.int (S.1 15)) rfl dX3_telling_5 ?_
  refine g_callSNp E gc_X4_packed (List.mem_of_getElem? (i := 7) rfl) (t_X4_packed d (S.1 14) (S.1 15) ) rfl rfl rfl (ok_le rfl) ⟨ok_le rfl, ok_le rfl, ok_le rfl, ok_le rfl⟩ rfl rfl dX3_telling_8 ?_
  refine g_nm (fun v1_ hv1_ => ?_)
  subst hv1_
  exact RET 11 _ (r_X4_packed (S.1 14) (S.1 15)) _ dX3_telling_11 rfl (by rw [r_X3_telling]) rfl
set_option maxHeartbeats 1000000 in
set_option maxRecDepth 100000 in
theorem t_X3_telling (d : gD) (a : Nat → Nat) (S : SS)  : gMi d yX3_telling cX3_telling 1 (some .int) R_X3_telling [.ref (a 0)] (SK d a S) (fun r_ u_ => r_ = r_X3_telling S ∧ u_ = SK d a S) :=
  g_met_i RX3 rfl (by decide +kernel) (Nat.le_of_ble_eq_true rfl) [(0, .ref (a 0))] rfl (fun X E RET => s_X3_telling_0 d a S  E (fun pc_ lv_ v_ u_ h1_ h2_ h3_ h4_ => RET pc_ lv_ v_ u_ h1_ h2_ ⟨h3_, h4_⟩))
abbrev R_X3_tellsSomething : Room := { frames := 0, cells := 0, slots := 0, locals := 0 }
def r_X3_tellsSomething (S : SS) : Int32 := if (S.1 14) = 0 then (if (S.1 15) = 0 then 0 else 1) else 1
set_option maxHeartbeats 1000000 in
set_option maxRecDepth 100000 in
theorem s_X3_tellsSomething_0 (d : gD) (a : Nat → Nat) (S : SS)   {X : gX} (E : gE d X RX3 cX3_tellsSomething 1 R_X3_tellsSomething) (RET : ∀ (pc_ : Nat) (lv_ : List (Nat × Value)) (v_ : Int32) (u_ : va_W), decode cX3_tellsSomething pc_ = .ok (.ireturn, 1) → narrow .boolean (.int v_) = .int v_ → v_ = r_X3_tellsSomething S → u_ = SK d a S → G d X u_ R_X3_tellsSomething.cells R_X3_tellsSomething.slots pc_ lv_ [.int v_]) : G d X (SK d a S) 0 0 0 [(0, .ref (a 0))] [] := by
  refine g_aload_n E 0 dX3_tellsSomething_0 rfl rfl ?_
  refine g_get E (ci := 3) inlX3 4 rfl rfl 5 (by decide) fl_X3_50 rfl (.int (S.1 14)) rfl dX3_tellsSomething_1 ?_
  refine g_ifne E 14 dX3_tellsSomething_4 (by decide) (fun c_4 => ?_) (fun c_4 => ?_)
  · skip
    refine g_iconst E 1 dX3_tellsSomething_14 (by decide) ?_
    refine g_goto E 19 dX3_tellsSomething_15 (by decide) ?_
    exact RET 19 _ 1 _ dX3_tellsSomething_19 rfl (by rw [r_X3_tellsSomething, if_neg c_4]) rfl
  · skip
    refine g_aload_n E 0 dX3_tellsSomething_7 rfl rfl ?_
    refine g_get E (ci := 3) inlX3 4 rfl rfl 6 (by decide) fl_X3_53 rfl (.int (S.1 15)) rfl dX3_tellsSomething_8 ?_
    refine g_ifeq E 18 dX3_tellsSomething_11 (by decide) (fun c_11 => ?_) (fun c_11 => ?_)
    · skip
      refine g_iconst E 0 dX3_tellsSomething_18 (by decide) ?_
      exact RET 19 _ 0 _ dX3_tellsSomething_19 rfl (by rw [r_X3_tellsSomething, if_pos c_4, if_pos c_11]) rfl
    · skip
      refine g_iconst E 1 dX3_tellsSomething_14 (by decide) ?_
      refine g_goto E 19 dX3_tellsSomething_15 (by decide) ?_
      exact RET 19 _ 1 _ dX3_tellsSomething_19 rfl (by rw [r_X3_tellsSomething, if_pos c_4, if_neg c_11]) rfl
set_option maxHeartbeats 1000000 in
set_option maxRecDepth 100000 in
theorem t_X3_tellsSomething (d : gD) (a : Nat → Nat) (S : SS)  : gMi d yX3_tellsSomething cX3_tellsSomething 1 (some .boolean) R_X3_tellsSomething [.ref (a 0)] (SK d a S) (fun r_ u_ => r_ = r_X3_tellsSomething S ∧ u_ = SK d a S) :=
  g_met_i RX3 rfl (by decide +kernel) (Nat.le_of_ble_eq_true rfl) [(0, .ref (a 0))] rfl (fun X E RET => s_X3_tellsSomething_0 d a S  E (fun pc_ lv_ v_ u_ h1_ h2_ h3_ h4_ => RET pc_ lv_ v_ u_ h1_ h2_ ⟨h3_, h4_⟩))
abbrev R_X3_driftTo : Room := { frames := 0, cells := 0, slots := 0, locals := 0 }
def c_X3_driftTo (x : Int32) (y : Int32) (S : SS) : SS := (upd (upd (upd (upd S.1 7 (16 * x)) 8 (16 * y)) 12 0) 17 ((S.1 17) + 1), S.2)
set_option maxHeartbeats 1000000 in
set_option maxRecDepth 100000 in
theorem s_X3_driftTo_0 (d : gD) (a : Nat → Nat) (x : Int32) (y : Int32) (S : SS)   {X : gX} (E : gE d X RX3 cX3_driftTo 3 R_X3_driftTo) (RET : ∀ (pc_ : Nat) (lv_ : List (Nat × Value)) (u_ : va_W), decode cX3_driftTo pc_ = .ok (.return_, 1) → u_ = SK d a (c_X3_driftTo x y S) → G d X u_ R_X3_driftTo.cells R_X3_driftTo.slots pc_ lv_ []) : G d X (SK d a S) 0 0 0 [(0, .ref (a 0)), (1, .int x), (2, .int y)] [] := by
  refine g_aload_n E 0 dX3_driftTo_0 rfl rfl ?_
  refine g_bipush E 16 dX3_driftTo_1 (by decide) ?_
  refine g_iload_n E 1 dX3_driftTo_3 rfl rfl ?_
  refine g_imul E dX3_driftTo_4 ?_
  refine g_put E (ci := 3) inlX3 4 rfl rfl 2 (by decide) tyX3 tyX3_ok nmX3 fl_X3_30 rfl rfl rfl rfl (ok_lt rfl) (ws' := SK d a (upd S.1 7 (16 * x), S.2)) rfl dX3_driftTo_5 ?_
  refine g_aload_n E 0 dX3_driftTo_8 rfl rfl ?_
  refine g_bipush E 16 dX3_driftTo_9 (by decide) ?_
  refine g_iload_n E 2 dX3_driftTo_11 rfl rfl ?_
  refine g_imul E dX3_driftTo_12 ?_
  refine g_put E (ci := 3) inlX3 4 rfl rfl 3 (by decide) tyX3 tyX3_ok nmX3 fl_X3_34 rfl rfl rfl rfl (ok_lt rfl) (ws' := SK d a (upd (upd S.1 7 (16 * x)) 8 (16 * y), S.2)) rfl dX3_driftTo_13 ?_
  refine g_aload_n E 0 dX3_driftTo_16 rfl rfl ?_
  refine g_iconst E 0 dX3_driftTo_17 (by decide) ?_
  refine g_put E (ci := 3) inlX3 4 rfl rfl 9 (by decide) tyX3 tyX3_ok nmX3 fl_X3_62 rfl rfl rfl rfl (ok_lt rfl) (ws' := SK d a (upd (upd (upd S.1 7 (16 * x)) 8 (16 * y)) 12 0, S.2)) rfl dX3_driftTo_18 ?_
  refine g_aload_n E 0 dX3_driftTo_21 rfl rfl ?_
  refine g_dup E dX3_driftTo_22 rfl ?_
  refine g_get E (ci := 3) inlX3 4 rfl rfl 13 (by decide) fl_X3_74 rfl (.int (S.1 17)) rfl dX3_driftTo_23 ?_
  refine g_iconst E 1 dX3_driftTo_26 (by decide) ?_
  refine g_iadd E dX3_driftTo_27 ?_
  refine g_put E (ci := 3) inlX3 4 rfl rfl 13 (by decide) tyX3 tyX3_ok nmX3 fl_X3_74 rfl rfl rfl rfl (ok_lt rfl) (ws' := SK d a (upd (upd (upd (upd S.1 7 (16 * x)) 8 (16 * y)) 12 0) 17 ((S.1 17) + 1), S.2)) rfl dX3_driftTo_28 ?_
  exact RET 31 _ _ dX3_driftTo_31 (by rw [c_X3_driftTo])
set_option maxHeartbeats 1000000 in
set_option maxRecDepth 100000 in
theorem t_X3_driftTo (d : gD) (a : Nat → Nat) (x : Int32) (y : Int32) (S : SS)  : gMv d yX3_driftTo cX3_driftTo 3 R_X3_driftTo [.ref (a 0), .int x, .int y] (SK d a S) (fun u_ => u_ = SK d a (c_X3_driftTo x y S)) :=
  g_met_v RX3 rfl (by decide +kernel) (Nat.le_of_ble_eq_true rfl) [(0, .ref (a 0)), (1, .int x), (2, .int y)] rfl (fun X E _ RET => s_X3_driftTo_0 d a x y S  E (fun pc_ lv_ u_ h1_ h2_ => RET pc_ lv_ u_ h1_ h2_))
abbrev R_X3_fitZone : Room := { frames := 1, cells := 0, slots := 0, locals := 14 }
def c_X3_fitZone (off : Int32) (S : SS) : SS := if (S.1 9) < (2 * off) then (upd S.1 9 (imin ((S.1 9) + 1) ((S.2.1 1) + (S.2.1 2))), S.2) else (if (S.1 9) < (4 * off) then S else (upd S.1 9 (imax ((S.1 9) - 1) (S.2.1 1)), S.2))
set_option maxHeartbeats 1000000 in
set_option maxRecDepth 100000 in
theorem s_X3_fitZone_0 (d : gD) (a : Nat → Nat) (off : Int32) (S : SS)   {X : gX} (E : gE d X RX3 cX3_fitZone 2 R_X3_fitZone) (RET : ∀ (pc_ : Nat) (lv_ : List (Nat × Value)) (u_ : va_W), decode cX3_fitZone pc_ = .ok (.return_, 1) → u_ = SK d a (c_X3_fitZone off S) → G d X u_ R_X3_fitZone.cells R_X3_fitZone.slots pc_ lv_ []) : G d X (SK d a S) 0 0 0 [(0, .ref (a 0)), (1, .int off)] [] := by
  refine g_iconst E 2 dX3_fitZone_0 (by decide) ?_
  refine g_iload_n E 1 dX3_fitZone_1 rfl rfl ?_
  refine g_imul E dX3_fitZone_2 ?_
  refine g_aload_n E 0 dX3_fitZone_3 rfl rfl ?_
  refine g_get E (ci := 3) inlX3 4 rfl rfl 4 (by decide) fl_X3_37 rfl (.int (S.1 9)) rfl dX3_fitZone_4 ?_
  refine g_icmple E 39 dX3_fitZone_7 (by decide) (fun c_7 => ?_) (fun c_7 => ?_)
  · skip
    refine g_iconst E 4 dX3_fitZone_39 (by decide) ?_
    refine g_iload_n E 1 dX3_fitZone_40 rfl rfl ?_
    refine g_imul E dX3_fitZone_41 ?_
    refine g_aload_n E 0 dX3_fitZone_42 rfl rfl ?_
    refine g_get E (ci := 3) inlX3 4 rfl rfl 4 (by decide) fl_X3_37 rfl (.int (S.1 9)) rfl dX3_fitZone_43 ?_
    refine g_icmpgt E 68 dX3_fitZone_46 (by decide) (fun c_46 => ?_) (fun c_46 => ?_)
    · skip
      exact RET 68 _ _ dX3_fitZone_68 (by rw [c_X3_fitZone, if_neg c_7, if_pos c_46])
    · skip
      refine g_aload_n E 0 dX3_fitZone_49 rfl rfl ?_
      refine g_aload_n E 0 dX3_fitZone_50 rfl rfl ?_
      refine g_get E (ci := 3) inlX3 4 rfl rfl 4 (by decide) fl_X3_37 rfl (.int (S.1 9)) rfl dX3_fitZone_51 ?_
      refine g_iconst E 1 dX3_fitZone_54 (by decide) ?_
      refine g_isub E dX3_fitZone_55 ?_
      refine g_aload_n E 0 dX3_fitZone_56 rfl rfl ?_
      refine g_get E (ci := 3) inlX3 4 rfl rfl 0 (by decide) fl_X3_18 rfl (.ref (a 1)) rfl dX3_fitZone_57 ?_
      refine g_iconst E 1 dX3_fitZone_60 (by decide) ?_
      refine g_iald E 5 rfl rfl 1 rfl (by decide) (by decide) dX3_fitZone_61 ?_
      refine g_max E ml_X3_110 (ok_le rfl) (ok_le rfl) (ok_le rfl) (ok_le rfl) dX3_fitZone_62 ?_
      refine g_top (b := imax ((S.1 9) - 1) (S.2.1 1)) rfl ?_
      refine g_put E (ci := 3) inlX3 4 rfl rfl 4 (by decide) tyX3 tyX3_ok nmX3 fl_X3_37 rfl rfl rfl rfl (ok_lt rfl) (ws' := SK d a (upd S.1 9 (imax ((S.1 9) - 1) (S.2.1 1)), S.2)) rfl dX3_fitZone_65 ?_
      exact RET 68 _ _ dX3_fitZone_68 (by rw [c_X3_fitZone, if_neg c_7, if_neg c_46])
  · skip
    refine g_aload_n E 0 dX3_fitZone_10 rfl rfl ?_
    refine g_aload_n E 0 dX3_fitZone_11 rfl rfl ?_
    refine g_get E (ci := 3) inlX3 4 rfl rfl 4 (by decide) fl_X3_37 rfl (.int (S.1 9)) rfl dX3_fitZone_12 ?_
    refine g_iconst E 1 dX3_fitZone_15 (by decide) ?_
    refine g_iadd E dX3_fitZone_16 ?_
    refine g_aload_n E 0 dX3_fitZone_17 rfl rfl ?_
    refine g_get E (ci := 3) inlX3 4 rfl rfl 0 (by decide) fl_X3_18 rfl (.ref (a 1)) rfl dX3_fitZone_18 ?_
    refine g_iconst E 1 dX3_fitZone_21 (by decide) ?_
    refine g_iald E 5 rfl rfl 1 rfl (by decide) (by decide) dX3_fitZone_22 ?_
    refine g_aload_n E 0 dX3_fitZone_23 rfl rfl ?_
    refine g_get E (ci := 3) inlX3 4 rfl rfl 0 (by decide) fl_X3_18 rfl (.ref (a 1)) rfl dX3_fitZone_24 ?_
    refine g_iconst E 2 dX3_fitZone_27 (by decide) ?_
    refine g_iald E 5 rfl rfl 2 rfl (by decide) (by decide) dX3_fitZone_28 ?_
    refine g_iadd E dX3_fitZone_29 ?_
    refine g_min E ml_X3_132 (ok_le rfl) (ok_le rfl) (ok_le rfl) (ok_le rfl) dX3_fitZone_30 ?_
    refine g_top (b := imin ((S.1 9) + 1) ((S.2.1 1) + (S.2.1 2))) rfl ?_
    refine g_put E (ci := 3) inlX3 4 rfl rfl 4 (by decide) tyX3 tyX3_ok nmX3 fl_X3_37 rfl rfl rfl rfl (ok_lt rfl) (ws' := SK d a (upd S.1 9 (imin ((S.1 9) + 1) ((S.2.1 1) + (S.2.1 2))), S.2)) rfl dX3_fitZone_33 ?_
    refine g_goto E 68 dX3_fitZone_36 (by decide) ?_
    exact RET 68 _ _ dX3_fitZone_68 (by rw [c_X3_fitZone, if_pos c_7])
set_option maxHeartbeats 1000000 in
set_option maxRecDepth 100000 in
theorem t_X3_fitZone (d : gD) (a : Nat → Nat) (off : Int32) (S : SS)  : gMv d yX3_fitZone cX3_fitZone 2 R_X3_fitZone [.ref (a 0), .int off] (SK d a S) (fun u_ => u_ = SK d a (c_X3_fitZone off S)) :=
  g_met_v RX3 rfl (by decide +kernel) (Nat.le_of_ble_eq_true rfl) [(0, .ref (a 0)), (1, .int off)] rfl (fun X E _ RET => s_X3_fitZone_0 d a off S  E (fun pc_ lv_ u_ h1_ h2_ => RET pc_ lv_ u_ h1_ h2_))
