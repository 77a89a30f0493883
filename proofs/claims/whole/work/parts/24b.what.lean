/-- what a sample wants of a row -/
def SH (r : Nat → Int32) : Prop := ¬ r 0 = 0 ∧ ¬ (r 3) - (r 9) = 0 ∧ ¬ r 4 < 0 ∧ ∃ nd, dirOK r nd
def it (x y : Int32) : Nat → (Nat → Int32) → (Nat → Int32)
  | 0, r => r
  | k + 1, r => c_X5_samples_s x y (it x y k r)
theorem t2_X5_samples (d : gD) (a : Nat → Nat) (p : Nat) (x y : Int32) (r f : Nat → Int32) (Z : MR) (hp : p ≤ 61) (h : SH r) : gMv d yX5_samples cX5_samples 5 R_X5_samples [.ref (a 0), .int (nI p), .int x, .int y] (MW d a (pr p r f) Z) (fun u_ => u_ = MW d a (pr p (c_X5_samples_s x y r) f) Z) := by
  obtain ⟨h1, h2, h3, nd, h4⟩ := h
  exact t_X5_samples d a p x y r f Z nd hp h1 h2 h3 h4
theorem pr_swap (u r f : Nat → Int32) : pr 61 u (pr 0 r f) = pr 0 r (pr 61 u f) := by
  funext j
  unfold pr
  by_cases h : 61 ≤ j ∧ j < 61 + 61
  · rw [if_pos h, if_neg (by omega), if_pos h]
  · rw [if_neg h]
    by_cases h2 : 0 ≤ j ∧ j < 0 + 61
    · rw [if_pos h2, if_pos h2]
    · rw [if_neg h2, if_neg h2, if_neg h]
theorem rank_lt {v : Int32} {nd : Nat} (h0 : ¬ v < 0) (h : ¬ nI nd - 1 < v) (hnd : nd ≤ 9) : v.toNatClampNeg < nd := by
  obtain ⟨j, hj, rfl⟩ := nI_of h0
  rw [nI_clamp hj]
  rcases Nat.eq_zero_or_pos nd with e | e
  · subst e
    exact absurd (show nI 0 - 1 < nI j from ti_lt.mpr (by
      have := nI_toInt hj
      have e2 : (nI 0 - 1).toInt = -1 := by decide
      omega)) h
  · obtain ⟨q, rfl⟩ : ∃ q, nd = q + 1 := ⟨nd - 1, by omega⟩
    rw [nI_pred] at h
    have := mt (nI_ltI (a := q) (b := j) (by omega) hj).mpr h
    omega
theorem sub10 {v : Int32} (h0 : ¬ v < 10) (h : ¬ 16 < v) : v - 10 = nI (v.toNatClampNeg - 10) ∧ v.toNatClampNeg - 10 < 7 := by
  have h0' : ¬ v < 0 := fun q => h0 (ti_lt.mpr (by
    have := ti_lt.mp q
    have e1 : (0 : Int32).toInt = 0 := rfl
    have e2 : (10 : Int32).toInt = 10 := rfl
    omega))
  obtain ⟨j, hj, rfl⟩ := nI_of h0'
  rw [nI_clamp hj]
  have h1 := mt (nI_ltI (a := j) (b := 10) hj (by omega)).mpr h0
  have h2 := mt (nI_ltI (a := 16) (b := j) (by omega) hj).mpr h
  refine ⟨?_, by omega⟩
  obtain ⟨q, rfl⟩ : ∃ q, j = q + 10 := ⟨j - 10, by omega⟩
  rw [Nat.add_sub_cancel]
  refine ti_eq.mpr ?_
  have e1 := nI_toInt (n := q + 10) hj
  have e2 := nI_toInt (n := q) (by omega)
  have e3 : (10 : Int32).toInt = 10 := rfl
  rw [ti_sub (by omega) (by omega)]
  omega
abbrev R_X5_of : Room := { frames := 1, cells := 0, slots := 0, locals := 23 }
def r_X5_of (axis : Int32) (what : Int32) (r : Nat → Int32) : Int32 := if (r_X5_in axis 0 1) = 0 then (-1) else (if what = 0 then (r (7 + axis.toNatClampNeg)) else (if what = 1 then ((r (14 + axis.toNatClampNeg)) + 100) else (if what = 2 then (if (r (10 + axis.toNatClampNeg)) < 0 then (-6) else (r (10 + axis.toNatClampNeg))) else (if what = 3 then (if (r (10 + axis.toNatClampNeg)) < 0 then (-6) else ((r_X5_off axis.toNatClampNeg (r (10 + axis.toNatClampNeg)) r) + 1000)) else (-2)))))
set_option maxHeartbeats 1000000 in
set_option maxRecDepth 100000 in
theorem s_X5_of_0 (d : gD) (a : Nat → Nat) (axis : Int32) (what : Int32) (r : Nat → Int32) (f : Nat → Int32) (Z : MR)   {X : gX} (E : gE d X RX5 cX5_of 4 R_X5_of) (RET : ∀ (pc_ : Nat) (lv_ : List (Nat × Value)) (v_ : Int32) (u_ : va_W), decode cX5_of pc_ = .ok (.ireturn, 1) → narrow .int (.int v_) = .int v_ → v_ = r_X5_of axis what r → u_ = MW d a (pr 0 r f) Z → G d X u_ R_X5_of.cells R_X5_of.slots pc_ lv_ [.int v_]) : G d X (MW d a (pr 0 r f) Z) 0 0 0 [(0, .ref (a 0)), (1, .int axis), (2, .int what)] [] := by
  refine g_iload_n E 1 dX5_of_0 rfl rfl ?_
  refine g_iconst E 0 dX5_of_1 (by decide) ?_
  refine g_iconst E 1 dX5_of_2 (by decide) ?_
  refine g_callSp E gc_X5_in ml_X5_26 (t_X5_in d axis 0 1 ) rfl rfl rfl (ok_le rfl) ⟨ok_le rfl, ok_le rfl, ok_le rfl, ok_le rfl⟩ rfl rfl dX5_of_3 ?_
  refine g_nm (fun v1_ hv1_ => ?_)
  refine g_ifne E 11 dX5_of_6 (by decide) (fun c_6 => ?_) (fun c_6 => ?_)
  · skip
    have hi7 := in_lo (v := axis) (lo := 0) (hi := 1) (by rw [hv1_]; exact c_6)
    have ks := ix_le (N := 1) hi7.1 hi7.2
    refine g_aload_n E 0 dX5_of_11 rfl rfl ?_
    refine g_get E (ci := 5) inlX5 0 rfl rfl 0 (by decide) fl_X5_7 rfl (.ref (a 1)) rfl dX5_of_12 ?_
    refine g_bipush E 10 dX5_of_15 (by decide) ?_
    refine g_iload_n E 1 dX5_of_17 rfl rfl ?_
    refine g_top (b := (nI axis.toNatClampNeg)) (ix_eq hi7.1) ?_
    refine g_iadd E dX5_of_18 ?_
    refine g_top (nI_add 10 axis.toNatClampNeg) ?_
    refine g_mget E (p := 0) (r := r) (f := f) 1 rfl rfl (10 + axis.toNatClampNeg) (by rw [Nat.zero_add]) (by omega) (by omega) dX5_of_19 ?_
    refine g_top (b := r (10 + axis.toNatClampNeg)) rfl ?_
    refine g_istore_n E (lv' := [(3, .int (r (10 + axis.toNatClampNeg))), (0, .ref (a 0)), (1, .int axis), (2, .int what)]) dX5_of_20 rfl (by decide) rfl ?_
    refine g_iload_n E 3 dX5_of_21 rfl rfl ?_
    by_cases w_22_0 : what = 0
    · skip
      refine g_tableIn E 52 dX5_of_22 (by rw [w_22_0]; decide) (by rw [w_22_0]; decide) (by rw [w_22_0]; rfl) (by decide) ?_
      refine g_aload_n E 1 dX5_of_52 rfl rfl ?_
      refine g_get E (ci := 5) inlX5 0 rfl rfl 0 (by decide) fl_X5_7 rfl (.ref (a 1)) rfl dX5_of_53 ?_
      refine g_bipush E 7 dX5_of_56 (by decide) ?_
      refine g_iload_n E 2 dX5_of_58 rfl rfl ?_
      refine g_top (b := (nI axis.toNatClampNeg)) (ix_eq hi7.1) ?_
      refine g_iadd E dX5_of_59 ?_
      refine g_top (nI_add 7 axis.toNatClampNeg) ?_
      refine g_mget E (p := 0) (r := r) (f := f) 1 rfl rfl (7 + axis.toNatClampNeg) (by rw [Nat.zero_add]) (by omega) (by omega) dX5_of_60 ?_
      refine g_top (b := r (7 + axis.toNatClampNeg)) rfl ?_
      subst hv1_
      exact RET 61 _ (r (7 + axis.toNatClampNeg)) _ dX5_of_61 rfl (by rw [r_X5_of, if_neg c_6, if_pos w_22_0]) rfl
    · skip
      by_cases w_22_1 : what = 1
      · skip
        refine g_tableIn E 62 dX5_of_22 (by rw [w_22_1]; decide) (by rw [w_22_1]; decide) (by rw [w_22_1]; rfl) (by decide) ?_
        refine g_aload_n E 1 dX5_of_62 rfl rfl ?_
        refine g_get E (ci := 5) inlX5 0 rfl rfl 0 (by decide) fl_X5_7 rfl (.ref (a 1)) rfl dX5_of_63 ?_
        refine g_bipush E 14 dX5_of_66 (by decide) ?_
        refine g_iload_n E 2 dX5_of_68 rfl rfl ?_
        refine g_top (b := (nI axis.toNatClampNeg)) (ix_eq hi7.1) ?_
        refine g_iadd E dX5_of_69 ?_
        refine g_top (nI_add 14 axis.toNatClampNeg) ?_
        refine g_mget E (p := 0) (r := r) (f := f) 1 rfl rfl (14 + axis.toNatClampNeg) (by rw [Nat.zero_add]) (by omega) (by omega) dX5_of_70 ?_
        refine g_top (b := r (14 + axis.toNatClampNeg)) rfl ?_
        refine g_bipush E 100 dX5_of_71 (by decide) ?_
        refine g_iadd E dX5_of_73 ?_
        subst hv1_
        exact RET 74 _ ((r (14 + axis.toNatClampNeg)) + 100) _ dX5_of_74 rfl (by rw [r_X5_of, if_neg c_6, if_neg w_22_0, if_pos w_22_1]) rfl
      · skip
        by_cases w_22_2 : what = 2
        · skip
          refine g_tableIn E 75 dX5_of_22 (by rw [w_22_2]; decide) (by rw [w_22_2]; decide) (by rw [w_22_2]; rfl) (by decide) ?_
          refine g_iload_n E 0 dX5_of_75 rfl rfl ?_
          refine g_ifge E 84 dX5_of_76 (by decide) (fun c_76 => ?_) (fun c_76 => ?_)
          · skip
            refine g_iload_n E 0 dX5_of_84 rfl rfl ?_
            subst hv1_
            exact RET 85 _ (r (10 + axis.toNatClampNeg)) _ dX5_of_85 rfl (by rw [r_X5_of, if_neg c_6, if_neg w_22_0, if_neg w_22_1, if_pos w_22_2, if_neg c_76]) rfl
          · skip
            refine g_bipush E (-6) dX5_of_79 (by decide) ?_
            refine g_goto E 85 dX5_of_81 (by decide) ?_
            subst hv1_
            exact RET 85 _ (-6) _ dX5_of_85 rfl (by rw [r_X5_of, if_neg c_6, if_neg w_22_0, if_neg w_22_1, if_pos w_22_2, if_pos c_76]) rfl
        · skip
          by_cases w_22_3 : what = 3
          · skip
            refine g_tableIn E 86 dX5_of_22 (by rw [w_22_3]; decide) (by rw [w_22_3]; decide) (by rw [w_22_3]; rfl) (by decide) ?_
            refine g_iload_n E 0 dX5_of_86 rfl rfl ?_
            refine g_ifge E 95 dX5_of_87 (by decide) (fun c_87 => ?_) (fun c_87 => ?_)
            · skip
              refine g_aload_n E 1 dX5_of_95 rfl rfl ?_
              refine g_iconst E 0 dX5_of_96 (by decide) ?_
              refine g_iload_n E 2 dX5_of_97 rfl rfl ?_
              refine g_top (b := (nI axis.toNatClampNeg)) (ix_eq hi7.1) ?_
              refine g_iload_n E 0 dX5_of_98 rfl rfl ?_
              refine g_callVi0 E gc_X5_off ml_X5_34 (t_X5_off d a 0 axis.toNatClampNeg (r (10 + axis.toNatClampNeg)) r f Z (by first | assumption | omega) (by first | assumption | omega)) rfl rfl (ci := 5) 0 rfl rfl rfl rfl (ok_le rfl) ⟨ok_le rfl, ok_le rfl, ok_le rfl, ok_le rfl⟩ rfl rfl dX5_of_99 ?_
              refine g_nm (fun v2_ hv2_ => ?_)
              refine g_sipush E 1000 dX5_of_102 (by decide) ?_
              refine g_iadd E dX5_of_105 ?_
              subst hv2_
              subst hv1_
              exact RET 106 _ ((r_X5_off axis.toNatClampNeg (r (10 + axis.toNatClampNeg)) r) + 1000) _ dX5_of_106 rfl (by rw [r_X5_of, if_neg c_6, if_neg w_22_0, if_neg w_22_1, if_neg w_22_2, if_pos w_22_3, if_neg c_87]) rfl
            · skip
              refine g_bipush E (-6) dX5_of_90 (by decide) ?_
              refine g_goto E 106 dX5_of_92 (by decide) ?_
              subst hv1_
              exact RET 106 _ (-6) _ dX5_of_106 rfl (by rw [r_X5_of, if_neg c_6, if_neg w_22_0, if_neg w_22_1, if_neg w_22_2, if_pos w_22_3, if_pos c_87]) rfl
          · skip
            refine g_tableOut E 107 dX5_of_22 (by have z0 := lv_neT (x := what) (k := 0) (a := 0) w_22_0 (by decide); have z1 := lv_neT (x := what) (k := 1) (a := 1) w_22_1 (by decide); have z2 := lv_neT (x := what) (k := 2) (a := 2) w_22_2 (by decide); have z3 := lv_neT (x := what) (k := 3) (a := 3) w_22_3 (by decide); omega) (by decide) ?_
            refine g_bipush E (-2) dX5_of_107 (by decide) ?_
            subst hv1_
            exact RET 109 _ (-2) _ dX5_of_109 rfl (by rw [r_X5_of, if_neg c_6, if_neg w_22_0, if_neg w_22_1, if_neg w_22_2, if_neg w_22_3]) rfl
  · skip
    refine g_iconst E (-1) dX5_of_9 (by decide) ?_
    subst hv1_
    exact RET 10 _ (-1) _ dX5_of_10 rfl (by rw [r_X5_of, if_pos c_6]) rfl
set_option maxHeartbeats 1000000 in
set_option maxRecDepth 100000 in
theorem t_X5_of (d : gD) (a : Nat → Nat) (axis : Int32) (what : Int32) (r : Nat → Int32) (f : Nat → Int32) (Z : MR)  : gMi d yX5_of cX5_of 4 (some .int) R_X5_of [.ref (a 0), .int axis, .int what] (MW d a (pr 0 r f) Z) (fun r_ u_ => r_ = r_X5_of axis what r ∧ u_ = MW d a (pr 0 r f) Z) :=
  g_met_i RX5 rfl (by decide +kernel) (Nat.le_of_ble_eq_true rfl) [(0, .ref (a 0)), (1, .int axis), (2, .int what)] rfl (fun X E RET => s_X5_of_0 d a axis what r f Z  E (fun pc_ lv_ v_ u_ h1_ h2_ h3_ h4_ => RET pc_ lv_ v_ u_ h1_ h2_ ⟨h3_, h4_⟩))
abbrev R_X5_direction : Room := { frames := 1, cells := 0, slots := 0, locals := 22 }
def r_X5_direction (rank : Int32) (what : Int32) (r : Nat → Int32) : Int32 := if (r_X5_in rank 0 ((r 22) - 1)) = 0 then (-1) else (if (r_X5_in what 0 3) = 0 then (-2) else (r (25 + (4 * rank.toNatClampNeg) + what.toNatClampNeg)))
set_option maxHeartbeats 1000000 in
set_option maxRecDepth 100000 in
theorem s_X5_direction_0 (d : gD) (a : Nat → Nat) (rank : Int32) (what : Int32) (r : Nat → Int32) (f : Nat → Int32) (Z : MR) (nd : Nat) (hd : dirOK r nd)  {X : gX} (E : gE d X RX5 cX5_direction 3 R_X5_direction) (RET : ∀ (pc_ : Nat) (lv_ : List (Nat × Value)) (v_ : Int32) (u_ : va_W), decode cX5_direction pc_ = .ok (.ireturn, 1) → narrow .int (.int v_) = .int v_ → v_ = r_X5_direction rank what r → u_ = MW d a (pr 0 r f) Z → G d X u_ R_X5_direction.cells R_X5_direction.slots pc_ lv_ [.int v_]) : G d X (MW d a (pr 0 r f) Z) 0 0 0 [(0, .ref (a 0)), (1, .int rank), (2, .int what)] [] := by
  refine g_iload_n E 1 dX5_direction_0 rfl rfl ?_
  refine g_iconst E 0 dX5_direction_1 (by decide) ?_
  refine g_aload_n E 0 dX5_direction_2 rfl rfl ?_
  refine g_get E (ci := 5) inlX5 0 rfl rfl 0 (by decide) fl_X5_7 rfl (.ref (a 1)) rfl dX5_direction_3 ?_
  refine g_bipush E 22 dX5_direction_6 (by decide) ?_
  refine g_mget E (p := 0) (r := r) (f := f) 1 rfl rfl 22 (show (22 : Int32) = nI (0 + 22) from by rw [Nat.zero_add]; rfl) (by decide) (by omega) dX5_direction_8 ?_
  refine g_top (b := r 22) rfl ?_
  refine g_iconst E 1 dX5_direction_9 (by decide) ?_
  refine g_isub E dX5_direction_10 ?_
  refine g_callSp E gc_X5_in ml_X5_26 (t_X5_in d rank 0 ((r 22) - 1) ) rfl rfl rfl (ok_le rfl) ⟨ok_le rfl, ok_le rfl, ok_le rfl, ok_le rfl⟩ rfl rfl dX5_direction_11 ?_
  refine g_nm (fun v1_ hv1_ => ?_)
  refine g_ifne E 19 dX5_direction_14 (by decide) (fun c_14 => ?_) (fun c_14 => ?_)
  · skip
    have hi7 := in_lo (v := rank) (lo := 0) (hi := r 22 - 1) (by rw [hv1_]; exact c_14)
    have ks : rank.toNatClampNeg < nd := rank_lt hi7.1 (by have q := hi7.2; rw [hd.1] at q; exact q) hd.2.1
    have hd9 : nd ≤ 9 := hd.2.1
    refine g_iload_n E 2 dX5_direction_19 rfl rfl ?_
    refine g_iconst E 0 dX5_direction_20 (by decide) ?_
    refine g_iconst E 3 dX5_direction_21 (by decide) ?_
    refine g_callSp E gc_X5_in ml_X5_26 (t_X5_in d what 0 3 ) rfl rfl rfl (ok_le rfl) ⟨ok_le rfl, ok_le rfl, ok_le rfl, ok_le rfl⟩ rfl rfl dX5_direction_22 ?_
    refine g_nm (fun v2_ hv2_ => ?_)
    refine g_ifeq E 44 dX5_direction_25 (by decide) (fun c_25 => ?_) (fun c_25 => ?_)
    · skip
      refine g_bipush E (-2) dX5_direction_44 (by decide) ?_
      subst hv2_
      subst hv1_
      exact RET 46 _ (-2) _ dX5_direction_46 rfl (by rw [r_X5_direction, if_neg c_14, if_pos c_25]) rfl
    · skip
      have hi8 := in_lo (v := what) (lo := 0) (hi := 3) (by rw [hv2_]; exact c_25)
      have ks2 := ix_le (N := 3) hi8.1 hi8.2
      refine g_aload_n E 0 dX5_direction_28 rfl rfl ?_
      refine g_get E (ci := 5) inlX5 0 rfl rfl 0 (by decide) fl_X5_7 rfl (.ref (a 1)) rfl dX5_direction_29 ?_
      refine g_bipush E 25 dX5_direction_32 (by decide) ?_
      refine g_iconst E 4 dX5_direction_34 (by decide) ?_
      refine g_iload_n E 1 dX5_direction_35 rfl rfl ?_
      refine g_top (b := (nI rank.toNatClampNeg)) (ix_eq hi7.1) ?_
      refine g_imul E dX5_direction_36 ?_
      refine g_top (pk_mul 4 rank.toNatClampNeg) ?_
      refine g_iadd E dX5_direction_37 ?_
      refine g_top (nI_add 25 (4 * rank.toNatClampNeg)) ?_
      refine g_iload_n E 2 dX5_direction_38 rfl rfl ?_
      refine g_top (b := (nI what.toNatClampNeg)) (ix_eq hi8.1) ?_
      refine g_iadd E dX5_direction_39 ?_
      refine g_top (nI_add (25 + (4 * rank.toNatClampNeg)) what.toNatClampNeg) ?_
      refine g_mget E (p := 0) (r := r) (f := f) 1 rfl rfl (25 + (4 * rank.toNatClampNeg) + what.toNatClampNeg) (by rw [Nat.zero_add]) (by omega) (by omega) dX5_direction_40 ?_
      refine g_top (b := r (25 + (4 * rank.toNatClampNeg) + what.toNatClampNeg)) rfl ?_
      refine g_goto E 46 dX5_direction_41 (by decide) ?_
      subst hv2_
      subst hv1_
      exact RET 46 _ (r (25 + (4 * rank.toNatClampNeg) + what.toNatClampNeg)) _ dX5_direction_46 rfl (by rw [r_X5_direction, if_neg c_14, if_neg c_25]) rfl
  · skip
    refine g_iconst E (-1) dX5_direction_17 (by decide) ?_
    subst hv1_
    exact RET 18 _ (-1) _ dX5_direction_18 rfl (by rw [r_X5_direction, if_pos c_14]) rfl
set_option maxHeartbeats 1000000 in
set_option maxRecDepth 100000 in
theorem t_X5_direction (d : gD) (a : Nat → Nat) (rank : Int32) (what : Int32) (r : Nat → Int32) (f : Nat → Int32) (Z : MR) (nd : Nat) (hd : dirOK r nd) : gMi d yX5_direction cX5_direction 3 (some .int) R_X5_direction [.ref (a 0), .int rank, .int what] (MW d a (pr 0 r f) Z) (fun r_ u_ => r_ = r_X5_direction rank what r ∧ u_ = MW d a (pr 0 r f) Z) :=
  g_met_i RX5 rfl (by decide +kernel) (Nat.le_of_ble_eq_true rfl) [(0, .ref (a 0)), (1, .int rank), (2, .int what)] rfl (fun X E RET => s_X5_direction_0 d a rank what r f Z nd hd E (fun pc_ lv_ v_ u_ h1_ h2_ h3_ h4_ => RET pc_ lv_ v_ u_ h1_ h2_ ⟨h3_, h4_⟩))
abbrev R_X5_count : Room := { frames := 1, cells := 0, slots := 0, locals := 22 }
def r_X5_count_at182 (what : Int32) (r : Nat → Int32) (Z : MR) : Int32 := if (r_X5_in what 10 16) = 0 then (-2) else (r (what.toNatClampNeg - 10))
def r_X5_count (what : Int32) (r : Nat → Int32) (Z : MR) : Int32 := if what = 0 then (r 21) else (if what = 1 then (r 9) else (if what = 2 then (r 12) else (if what = 3 then (r 13) else (if what = 4 then (r 16) else (if what = 5 then (r 17) else (if what = 6 then (r 18) else (if what = 7 then (r 19) else (if what = 8 then (r 22) else (if what = 9 then (r 20) else (if what = 10 then (r_X5_count_at182 what r Z) else (if what = 11 then (r_X5_count_at182 what r Z) else (if what = 12 then (r_X5_count_at182 what r Z) else (if what = 13 then (r_X5_count_at182 what r Z) else (if what = 14 then (r_X5_count_at182 what r Z) else (if what = 15 then (r_X5_count_at182 what r Z) else (if what = 16 then (r_X5_count_at182 what r Z) else (if what = 17 then Z.2.2.2.2.2 else (if what = 18 then Z.2.1 else (r_X5_count_at182 what r Z)))))))))))))))))))
set_option maxHeartbeats 1000000 in
set_option maxRecDepth 100000 in
theorem s_X5_count_182 (d : gD) (a : Nat → Nat) (what : Int32) (r : Nat → Int32) (f : Nat → Int32) (Z : MR)   {X : gX} (E : gE d X RX5 cX5_count 2 R_X5_count) (RET : ∀ (pc_ : Nat) (lv_ : List (Nat × Value)) (v_ : Int32) (u_ : va_W), decode cX5_count pc_ = .ok (.ireturn, 1) → narrow .int (.int v_) = .int v_ → v_ = r_X5_count_at182 what r Z → u_ = MW d a (pr 0 r f) Z → G d X u_ R_X5_count.cells R_X5_count.slots pc_ lv_ [.int v_]) : G d X (MW d a (pr 0 r f) Z) 0 0 182 [(0, .ref (a 0)), (1, .int what)] [] := by
  refine g_iload_n E 1 dX5_count_182 rfl rfl ?_
  refine g_bipush E 10 dX5_count_183 (by decide) ?_
  refine g_bipush E 16 dX5_count_185 (by decide) ?_
  refine g_callSp E gc_X5_in ml_X5_26 (t_X5_in d what 10 16 ) rfl rfl rfl (ok_le rfl) ⟨ok_le rfl, ok_le rfl, ok_le rfl, ok_le rfl⟩ rfl rfl dX5_count_187 ?_
  refine g_nm (fun v1_ hv1_ => ?_)
  refine g_ifeq E 205 dX5_count_190 (by decide) (fun c_190 => ?_) (fun c_190 => ?_)
  · skip
    refine g_bipush E (-2) dX5_count_205 (by decide) ?_
    subst hv1_
    exact RET 207 _ (-2) _ dX5_count_207 rfl (by rw [r_X5_count_at182, if_pos c_190]) rfl
  · skip
    have hi7 := in_lo (v := what) (lo := 10) (hi := 16) (by rw [hv1_]; exact c_190)
    have k10 := sub10 hi7.1 hi7.2
    have k11 := k10.2
    refine g_aload_n E 0 dX5_count_193 rfl rfl ?_
    refine g_get E (ci := 5) inlX5 0 rfl rfl 0 (by decide) fl_X5_7 rfl (.ref (a 1)) rfl dX5_count_194 ?_
    refine g_iload_n E 1 dX5_count_197 rfl rfl ?_
    refine g_bipush E 10 dX5_count_198 (by decide) ?_
    refine g_isub E dX5_count_200 ?_
    refine g_mget E (p := 0) (r := r) (f := f) 1 rfl rfl (what.toNatClampNeg - 10) (by rw [Nat.zero_add]; exact k10.1) (by omega) (by omega) dX5_count_201 ?_
    refine g_top (b := r (what.toNatClampNeg - 10)) rfl ?_
    refine g_goto E 207 dX5_count_202 (by decide) ?_
    subst hv1_
    exact RET 207 _ (r (what.toNatClampNeg - 10)) _ dX5_count_207 rfl (by rw [r_X5_count_at182, if_neg c_190]) rfl
set_option maxHeartbeats 1000000 in
set_option maxRecDepth 100000 in
theorem s_X5_count_0 (d : gD) (a : Nat → Nat) (what : Int32) (r : Nat → Int32) (f : Nat → Int32) (Z : MR)   {X : gX} (E : gE d X RX5 cX5_count 2 R_X5_count) (RET : ∀ (pc_ : Nat) (lv_ : List (Nat × Value)) (v_ : Int32) (u_ : va_W), decode cX5_count pc_ = .ok (.ireturn, 1) → narrow .int (.int v_) = .int v_ → v_ = r_X5_count what r Z → u_ = MW d a (pr 0 r f) Z → G d X u_ R_X5_count.cells R_X5_count.slots pc_ lv_ [.int v_]) : G d X (MW d a (pr 0 r f) Z) 0 0 0 [(0, .ref (a 0)), (1, .int what)] [] := by
  refine g_iload_n E 1 dX5_count_0 rfl rfl ?_
  by_cases w_1_0 : what = 0
  · skip
    refine g_tableIn E 92 dX5_count_1 (by rw [w_1_0]; decide) (by rw [w_1_0]; decide) (by rw [w_1_0]; rfl) (by decide) ?_
    refine g_aload_n E 0 dX5_count_92 rfl rfl ?_
    refine g_get E (ci := 5) inlX5 0 rfl rfl 0 (by decide) fl_X5_7 rfl (.ref (a 1)) rfl dX5_count_93 ?_
    refine g_bipush E 21 dX5_count_96 (by decide) ?_
    refine g_mget E (p := 0) (r := r) (f := f) 1 rfl rfl 21 (show (21 : Int32) = nI (0 + 21) from by rw [Nat.zero_add]; rfl) (by decide) (by omega) dX5_count_98 ?_
    refine g_top (b := r 21) rfl ?_
    exact RET 99 _ (r 21) _ dX5_count_99 rfl (by rw [r_X5_count, if_pos w_1_0]) rfl
  · skip
    by_cases w_1_1 : what = 1
    · skip
      refine g_tableIn E 100 dX5_count_1 (by rw [w_1_1]; decide) (by rw [w_1_1]; decide) (by rw [w_1_1]; rfl) (by decide) ?_
      refine g_aload_n E 0 dX5_count_100 rfl rfl ?_
      refine g_get E (ci := 5) inlX5 0 rfl rfl 0 (by decide) fl_X5_7 rfl (.ref (a 1)) rfl dX5_count_101 ?_
      refine g_bipush E 9 dX5_count_104 (by decide) ?_
      refine g_mget E (p := 0) (r := r) (f := f) 1 rfl rfl 9 (show (9 : Int32) = nI (0 + 9) from by rw [Nat.zero_add]; rfl) (by decide) (by omega) dX5_count_106 ?_
      refine g_top (b := r 9) rfl ?_
      exact RET 107 _ (r 9) _ dX5_count_107 rfl (by rw [r_X5_count, if_neg w_1_0, if_pos w_1_1]) rfl
    · skip
      by_cases w_1_2 : what = 2
      · skip
        refine g_tableIn E 108 dX5_count_1 (by rw [w_1_2]; decide) (by rw [w_1_2]; decide) (by rw [w_1_2]; rfl) (by decide) ?_
        refine g_aload_n E 0 dX5_count_108 rfl rfl ?_
        refine g_get E (ci := 5) inlX5 0 rfl rfl 0 (by decide) fl_X5_7 rfl (.ref (a 1)) rfl dX5_count_109 ?_
        refine g_bipush E 12 dX5_count_112 (by decide) ?_
        refine g_mget E (p := 0) (r := r) (f := f) 1 rfl rfl 12 (show (12 : Int32) = nI (0 + 12) from by rw [Nat.zero_add]; rfl) (by decide) (by omega) dX5_count_114 ?_
        refine g_top (b := r 12) rfl ?_
        exact RET 115 _ (r 12) _ dX5_count_115 rfl (by rw [r_X5_count, if_neg w_1_0, if_neg w_1_1, if_pos w_1_2]) rfl
      · skip
        by_cases w_1_3 : what = 3
        · skip
          refine g_tableIn E 116 dX5_count_1 (by rw [w_1_3]; decide) (by rw [w_1_3]; decide) (by rw [w_1_3]; rfl) (by decide) ?_
          refine g_aload_n E 0 dX5_count_116 rfl rfl ?_
          refine g_get E (ci := 5) inlX5 0 rfl rfl 0 (by decide) fl_X5_7 rfl (.ref (a 1)) rfl dX5_count_117 ?_
          refine g_bipush E 13 dX5_count_120 (by decide) ?_
          refine g_mget E (p := 0) (r := r) (f := f) 1 rfl rfl 13 (show (13 : Int32) = nI (0 + 13) from by rw [Nat.zero_add]; rfl) (by decide) (by omega) dX5_count_122 ?_
          refine g_top (b := r 13) rfl ?_
          exact RET 123 _ (r 13) _ dX5_count_123 rfl (by rw [r_X5_count, if_neg w_1_0, if_neg w_1_1, if_neg w_1_2, if_pos w_1_3]) rfl
        · skip
          by_cases w_1_4 : what = 4
          · skip
            refine g_tableIn E 124 dX5_count_1 (by rw [w_1_4]; decide) (by rw [w_1_4]; decide) (by rw [w_1_4]; rfl) (by decide) ?_
            refine g_aload_n E 0 dX5_count_124 rfl rfl ?_
            refine g_get E (ci := 5) inlX5 0 rfl rfl 0 (by decide) fl_X5_7 rfl (.ref (a 1)) rfl dX5_count_125 ?_
            refine g_bipush E 16 dX5_count_128 (by decide) ?_
            refine g_mget E (p := 0) (r := r) (f := f) 1 rfl rfl 16 (show (16 : Int32) = nI (0 + 16) from by rw [Nat.zero_add]; rfl) (by decide) (by omega) dX5_count_130 ?_
            refine g_top (b := r 16) rfl ?_
            exact RET 131 _ (r 16) _ dX5_count_131 rfl (by rw [r_X5_count, if_neg w_1_0, if_neg w_1_1, if_neg w_1_2, if_neg w_1_3, if_pos w_1_4]) rfl
          · skip
            by_cases w_1_5 : what = 5
            · skip
              refine g_tableIn E 132 dX5_count_1 (by rw [w_1_5]; decide) (by rw [w_1_5]; decide) (by rw [w_1_5]; rfl) (by decide) ?_
              refine g_aload_n E 0 dX5_count_132 rfl rfl ?_
              refine g_get E (ci := 5) inlX5 0 rfl rfl 0 (by decide) fl_X5_7 rfl (.ref (a 1)) rfl dX5_count_133 ?_
              refine g_bipush E 17 dX5_count_136 (by decide) ?_
              refine g_mget E (p := 0) (r := r) (f := f) 1 rfl rfl 17 (show (17 : Int32) = nI (0 + 17) from by rw [Nat.zero_add]; rfl) (by decide) (by omega) dX5_count_138 ?_
              refine g_top (b := r 17) rfl ?_
              exact RET 139 _ (r 17) _ dX5_count_139 rfl (by rw [r_X5_count, if_neg w_1_0, if_neg w_1_1, if_neg w_1_2, if_neg w_1_3, if_neg w_1_4, if_pos w_1_5]) rfl
            · skip
              by_cases w_1_6 : what = 6
              · skip
                refine g_tableIn E 140 dX5_count_1 (by rw [w_1_6]; decide) (by rw [w_1_6]; decide) (by rw [w_1_6]; rfl) (by decide) ?_
                refine g_aload_n E 0 dX5_count_140 rfl rfl ?_
                refine g_get E (ci := 5) inlX5 0 rfl rfl 0 (by decide) fl_X5_7 rfl (.ref (a 1)) rfl dX5_count_141 ?_
                refine g_bipush E 18 dX5_count_144 (by decide) ?_
                refine g_mget E (p := 0) (r := r) (f := f) 1 rfl rfl 18 (show (18 : Int32) = nI (0 + 18) from by rw [Nat.zero_add]; rfl) (by decide) (by omega) dX5_count_146 ?_
                refine g_top (b := r 18) rfl ?_
                exact RET 147 _ (r 18) _ dX5_count_147 rfl (by rw [r_X5_count, if_neg w_1_0, if_neg w_1_1, if_neg w_1_2, if_neg w_1_3, if_neg w_1_4, if_neg w_1_5, if_pos w_1_6]) rfl
              · skip
                by_cases w_1_7 : what = 7
                · skip
                  refine g_tableIn E 148 dX5_count_1 (by rw [w_1_7]; decide) (by rw [w_1_7]; decide) (by rw [w_1_7]; rfl) (by decide) ?_
                  refine g_aload_n E 0 dX5_count_148 rfl rfl ?_
                  refine g_get E (ci := 5) inlX5 0 rfl rfl 0 (by decide) fl_X5_7 rfl (.ref (a 1)) rfl dX5_count_149 ?_
                  refine g_bipush E 19 dX5_count_152 (by decide) ?_
                  refine g_mget E (p := 0) (r := r) (f := f) 1 rfl rfl 19 (show (19 : Int32) = nI (0 + 19) from by rw [Nat.zero_add]; rfl) (by decide) (by omega) dX5_count_154 ?_
                  refine g_top (b := r 19) rfl ?_
                  exact RET 155 _ (r 19) _ dX5_count_155 rfl (by rw [r_X5_count, if_neg w_1_0, if_neg w_1_1, if_neg w_1_2, if_neg w_1_3, if_neg w_1_4, if_neg w_1_5, if_neg w_1_6, if_pos w_1_7]) rfl
                · skip
                  by_cases w_1_8 : what = 8
                  · skip
                    refine g_tableIn E 156 dX5_count_1 (by rw [w_1_8]; decide) (by rw [w_1_8]; decide) (by rw [w_1_8]; rfl) (by decide) ?_
                    refine g_aload_n E 0 dX5_count_156 rfl rfl ?_
                    refine g_get E (ci := 5) inlX5 0 rfl rfl 0 (by decide) fl_X5_7 rfl (.ref (a 1)) rfl dX5_count_157 ?_
                    refine g_bipush E 22 dX5_count_160 (by decide) ?_
                    refine g_mget E (p := 0) (r := r) (f := f) 1 rfl rfl 22 (show (22 : Int32) = nI (0 + 22) from by rw [Nat.zero_add]; rfl) (by decide) (by omega) dX5_count_162 ?_
                    refine g_top (b := r 22) rfl ?_
                    exact RET 163 _ (r 22) _ dX5_count_163 rfl (by rw [r_X5_count, if_neg w_1_0, if_neg w_1_1, if_neg w_1_2, if_neg w_1_3, if_neg w_1_4, if_neg w_1_5, if_neg w_1_6, if_neg w_1_7, if_pos w_1_8]) rfl
                  · skip
                    by_cases w_1_9 : what = 9
                    · skip
                      refine g_tableIn E 164 dX5_count_1 (by rw [w_1_9]; decide) (by rw [w_1_9]; decide) (by rw [w_1_9]; rfl) (by decide) ?_
                      refine g_aload_n E 0 dX5_count_164 rfl rfl ?_
                      refine g_get E (ci := 5) inlX5 0 rfl rfl 0 (by decide) fl_X5_7 rfl (.ref (a 1)) rfl dX5_count_165 ?_
                      refine g_bipush E 20 dX5_count_168 (by decide) ?_
                      refine g_mget E (p := 0) (r := r) (f := f) 1 rfl rfl 20 (show (20 : Int32) = nI (0 + 20) from by rw [Nat.zero_add]; rfl) (by decide) (by omega) dX5_count_170 ?_
                      refine g_top (b := r 20) rfl ?_
                      exact RET 171 _ (r 20) _ dX5_count_171 rfl (by rw [r_X5_count, if_neg w_1_0, if_neg w_1_1, if_neg w_1_2, if_neg w_1_3, if_neg w_1_4, if_neg w_1_5, if_neg w_1_6, if_neg w_1_7, if_neg w_1_8, if_pos w_1_9]) rfl
                    · skip
                      by_cases w_1_10 : what = 10
                      · skip
                        refine g_tableIn E 182 dX5_count_1 (by rw [w_1_10]; decide) (by rw [w_1_10]; decide) (by rw [w_1_10]; rfl) (by decide) ?_
                        have J := s_X5_count_182 d a what r f Z   E (fun pc_ lv_ v_ u_ h1_ h2_ h3_ h4_ => RET pc_ lv_ v_ u_ h1_ h2_ (h3_.trans (by rw [r_X5_count, if_neg w_1_0, if_neg w_1_1, if_neg w_1_2, if_neg w_1_3, if_neg w_1_4, if_neg w_1_5, if_neg w_1_6, if_neg w_1_7, if_neg w_1_8, if_neg w_1_9, if_pos w_1_10])) h4_)
                        exact J
                      · skip
                        by_cases w_1_11 : what = 11
                        · skip
                          refine g_tableIn E 182 dX5_count_1 (by rw [w_1_11]; decide) (by rw [w_1_11]; decide) (by rw [w_1_11]; rfl) (by decide) ?_
                          have J := s_X5_count_182 d a what r f Z   E (fun pc_ lv_ v_ u_ h1_ h2_ h3_ h4_ => RET pc_ lv_ v_ u_ h1_ h2_ (h3_.trans (by rw [r_X5_count, if_neg w_1_0, if_neg w_1_1, if_neg w_1_2, if_neg w_1_3, if_neg w_1_4, if_neg w_1_5, if_neg w_1_6, if_neg w_1_7, if_neg w_1_8, if_neg w_1_9, if_neg w_1_10, if_pos w_1_11])) h4_)
                          exact J
                        · skip
                          by_cases w_1_12 : what = 12
                          · skip
                            refine g_tableIn E 182 dX5_count_1 (by rw [w_1_12]; decide) (by rw [w_1_12]; decide) (by rw [w_1_12]; rfl) (by decide) ?_
                            have J := s_X5_count_182 d a what r f Z   E (fun pc_ lv_ v_ u_ h1_ h2_ h3_ h4_ => RET pc_ lv_ v_ u_ h1_ h2_ (h3_.trans (by rw [r_X5_count, if_neg w_1_0, if_neg w_1_1, if_neg w_1_2, if_neg w_1_3, if_neg w_1_4, if_neg w_1_5, if_neg w_1_6, if_neg w_1_7, if_neg w_1_8, if_neg w_1_9, if_neg w_1_10, if_neg w_1_11, if_pos w_1_12])) h4_)
                            exact J
                          · skip
                            by_cases w_1_13 : what = 13
                            · skip
                              refine g_tableIn E 182 dX5_count_1 (by rw [w_1_13]; decide) (by rw [w_1_13]; decide) (by rw [w_1_13]; rfl) (by decide) ?_
                              have J := s_X5_count_182 d a what r f Z   E (fun pc_ lv_ v_ u_ h1_ h2_ h3_ h4_ => RET pc_ lv_ v_ u_ h1_ h2_ (h3_.trans (by rw [r_X5_count, if_neg w_1_0, if_neg w_1_1, if_neg w_1_2, if_neg w_1_3, if_neg w_1_4, if_neg w_1_5, if_neg w_1_6, if_neg w_1_7, if_neg w_1_8, if_neg w_1_9, if_neg w_1_10, if_neg w_1_11, if_neg w_1_12, if_pos w_1_13])) h4_)
                              exact J
                            · skip
                              by_cases w_1_14 : what = 14
                              · skip
                                refine g_tableIn E 182 dX5_count_1 (by rw [w_1_14]; decide) (by rw [w_1_14]; decide) (by rw [w_1_14]; rfl) (by decide) ?_
                                have J := s_X5_count_182 d a what r f Z   E (fun pc_ lv_ v_ u_ h1_ h2_ h3_ h4_ => RET pc_ lv_ v_ u_ h1_ h2_ (h3_.trans (by rw [r_X5_count, if_neg w_1_0, if_neg w_1_1, if_neg w_1_2, if_neg w_1_3, if_neg w_1_4, if_neg w_1_5, if_neg w_1_6, if_neg w_1_7, if_neg w_1_8, if_neg w_1_9, if_neg w_1_10, if_neg w_1_11, if_neg w_1_12, if_neg w_1_13, if_pos w_1_14])) h4_)
                                exact J
                              · skip
                                by_cases w_1_15 : what = 15
                                · skip
                                  refine g_tableIn E 182 dX5_count_1 (by rw [w_1_15]; decide) (by rw [w_1_15]; decide) (by rw [w_1_15]; rfl) (by decide) ?_
                                  have J := s_X5_count_182 d a what r f Z   E (fun pc_ lv_ v_ u_ h1_ h2_ h3_ h4_ => RET pc_ lv_ v_ u_ h1_ h2_ (h3_.trans (by rw [r_X5_count, if_neg w_1_0, if_neg w_1_1, if_neg w_1_2, if_neg w_1_3, if_neg w_1_4, if_neg w_1_5, if_neg w_1_6, if_neg w_1_7, if_neg w_1_8, if_neg w_1_9, if_neg w_1_10, if_neg w_1_11, if_neg w_1_12, if_neg w_1_13, if_neg w_1_14, if_pos w_1_15])) h4_)
                                  exact J
                                · skip
                                  by_cases w_1_16 : what = 16
                                  · skip
                                    refine g_tableIn E 182 dX5_count_1 (by rw [w_1_16]; decide) (by rw [w_1_16]; decide) (by rw [w_1_16]; rfl) (by decide) ?_
                                    have J := s_X5_count_182 d a what r f Z   E (fun pc_ lv_ v_ u_ h1_ h2_ h3_ h4_ => RET pc_ lv_ v_ u_ h1_ h2_ (h3_.trans (by rw [r_X5_count, if_neg w_1_0, if_neg w_1_1, if_neg w_1_2, if_neg w_1_3, if_neg w_1_4, if_neg w_1_5, if_neg w_1_6, if_neg w_1_7, if_neg w_1_8, if_neg w_1_9, if_neg w_1_10, if_neg w_1_11, if_neg w_1_12, if_neg w_1_13, if_neg w_1_14, if_neg w_1_15, if_pos w_1_16])) h4_)
                                    exact J
                                  · skip
                                    by_cases w_1_17 : what = 17
                                    · skip
                                      refine g_tableIn E 172 dX5_count_1 (by rw [w_1_17]; decide) (by rw [w_1_17]; decide) (by rw [w_1_17]; rfl) (by decide) ?_
                                      refine g_aload_n E 0 dX5_count_172 rfl rfl ?_
                                      refine g_get E (ci := 5) inlX5 0 rfl rfl 6 (by decide) fl_X5_108 rfl (.int Z.2.2.2.2.2) rfl dX5_count_173 ?_
                                      exact RET 176 _ Z.2.2.2.2.2 _ dX5_count_176 rfl (by rw [r_X5_count, if_neg w_1_0, if_neg w_1_1, if_neg w_1_2, if_neg w_1_3, if_neg w_1_4, if_neg w_1_5, if_neg w_1_6, if_neg w_1_7, if_neg w_1_8, if_neg w_1_9, if_neg w_1_10, if_neg w_1_11, if_neg w_1_12, if_neg w_1_13, if_neg w_1_14, if_neg w_1_15, if_neg w_1_16, if_pos w_1_17]) rfl
                                    · skip
                                      by_cases w_1_18 : what = 18
                                      · skip
                                        refine g_tableIn E 177 dX5_count_1 (by rw [w_1_18]; decide) (by rw [w_1_18]; decide) (by rw [w_1_18]; rfl) (by decide) ?_
                                        refine g_aload_n E 0 dX5_count_177 rfl rfl ?_
                                        refine g_get E (ci := 5) inlX5 0 rfl rfl 2 (by decide) fl_X5_30 rfl (.int Z.2.1) rfl dX5_count_178 ?_
                                        exact RET 181 _ Z.2.1 _ dX5_count_181 rfl (by rw [r_X5_count, if_neg w_1_0, if_neg w_1_1, if_neg w_1_2, if_neg w_1_3, if_neg w_1_4, if_neg w_1_5, if_neg w_1_6, if_neg w_1_7, if_neg w_1_8, if_neg w_1_9, if_neg w_1_10, if_neg w_1_11, if_neg w_1_12, if_neg w_1_13, if_neg w_1_14, if_neg w_1_15, if_neg w_1_16, if_neg w_1_17, if_pos w_1_18]) rfl
                                      · skip
                                        refine g_tableOut E 182 dX5_count_1 (by have z0 := lv_neT (x := what) (k := 0) (a := 0) w_1_0 (by decide); have z1 := lv_neT (x := what) (k := 1) (a := 1) w_1_1 (by decide); have z2 := lv_neT (x := what) (k := 2) (a := 2) w_1_2 (by decide); have z3 := lv_neT (x := what) (k := 3) (a := 3) w_1_3 (by decide); have z4 := lv_neT (x := what) (k := 4) (a := 4) w_1_4 (by decide); have z5 := lv_neT (x := what) (k := 5) (a := 5) w_1_5 (by decide); have z6 := lv_neT (x := what) (k := 6) (a := 6) w_1_6 (by decide); have z7 := lv_neT (x := what) (k := 7) (a := 7) w_1_7 (by decide); have z8 := lv_neT (x := what) (k := 8) (a := 8) w_1_8 (by decide); have z9 := lv_neT (x := what) (k := 9) (a := 9) w_1_9 (by decide); have z10 := lv_neT (x := what) (k := 10) (a := 10) w_1_10 (by decide); have z11 := lv_neT (x := what) (k := 11) (a := 11) w_1_11 (by decide); have z12 := lv_neT (x := what) (k := 12) (a := 12) w_1_12 (by decide); have z13 := lv_neT (x := what) (k := 13) (a := 13) w_1_13 (by decide); have z14 := lv_neT (x := what) (k := 14) (a := 14) w_1_14 (by decide); have z15 := lv_neT (x := what) (k := 15) (a := 15) w_1_15 (by decide); have z16 := lv_neT (x := what) (k := 16) (a := 16) w_1_16 (by decide); have z17 := lv_neT (x := what) (k := 17) (a := 17) w_1_17 (by decide); have z18 := lv_neT (x := what) (k := 18) (a := 18) w_1_18 (by decide); omega) (by decide) ?_
                                        have J := s_X5_count_182 d a what r f Z   E (fun pc_ lv_ v_ u_ h1_ h2_ h3_ h4_ => RET pc_ lv_ v_ u_ h1_ h2_ (h3_.trans (by rw [r_X5_count, if_neg w_1_0, if_neg w_1_1, if_neg w_1_2, if_neg w_1_3, if_neg w_1_4, if_neg w_1_5, if_neg w_1_6, if_neg w_1_7, if_neg w_1_8, if_neg w_1_9, if_neg w_1_10, if_neg w_1_11, if_neg w_1_12, if_neg w_1_13, if_neg w_1_14, if_neg w_1_15, if_neg w_1_16, if_neg w_1_17, if_neg w_1_18])) h4_)
                                        exact J
set_option maxHeartbeats 1000000 in
set_option maxRecDepth 100000 in
theorem t_X5_count (d : gD) (a : Nat → Nat) (what : Int32) (r : Nat → Int32) (f : Nat → Int32) (Z : MR)  : gMi d yX5_count cX5_count 2 (some .int) R_X5_count [.ref (a 0), .int what] (MW d a (pr 0 r f) Z) (fun r_ u_ => r_ = r_X5_count what r Z ∧ u_ = MW d a (pr 0 r f) Z) :=
  g_met_i RX5 rfl (by decide +kernel) (Nat.le_of_ble_eq_true rfl) [(0, .ref (a 0)), (1, .int what)] rfl (fun X E RET => s_X5_count_0 d a what r f Z  E (fun pc_ lv_ v_ u_ h1_ h2_ h3_ h4_ => RET pc_ lv_ v_ u_ h1_ h2_ ⟨h3_, h4_⟩))
abbrev R_X5_copies : Room := { frames := 0, cells := 0, slots := 0, locals := 0 }
def c_X5_copies_s_at2 (s : Nat → Int32) : Nat → (Nat) → (Nat → Int32) → Nat → Int32
  | 0, _, s1 => s1
  | n + 1, k, s1 => if (nI k) < 61 then (c_X5_copies_s_at2 s n (k + 1) (upd s1 (61 + k) (s1 k))) else s1
def c_X5_copies_s (s : Nat → Int32) : Nat → Int32 := c_X5_copies_s_at2 s 62 0 s
set_option maxHeartbeats 1000000 in
set_option maxRecDepth 100000 in
theorem s_X5_copies_2 (d : gD) (a : Nat → Nat) (s : Nat → Int32) (Z : MR)  {X : gX} (E : gE d X RX5 cX5_copies 2 R_X5_copies) : ∀ (n : Nat) (k : Nat) (s1 : Nat → Int32) (hk : k ≤ 61) (hm : 61 - k < n) (RET : ∀ (pc_ : Nat) (lv_ : List (Nat × Value)) (u_ : va_W), decode cX5_copies pc_ = .ok (.return_, 1) → u_ = MW d a (c_X5_copies_s_at2 s n k s1) Z → G d X u_ R_X5_copies.cells R_X5_copies.slots pc_ lv_ []), G d X (MW d a s1 Z) 0 0 2 [(0, .ref (a 0)), (1, .int (nI k))] [] := by
  intro n
  induction n with
  | zero => intro k s1 hk hm; omega
  | succ n ih =>
    intro k s1 hk hm RET
    refine g_iload_n E 1 dX5_copies_2 rfl rfl ?_
    refine g_bipush E 61 dX5_copies_3 (by decide) ?_
    refine g_icmpge E 29 dX5_copies_5 (by decide) (fun c_5 => ?_) (fun c_5 => ?_)
    · skip
      exact RET 29 _ _ dX5_copies_29 (by rw [c_X5_copies_s_at2, if_neg c_5])
    · skip
      have k5 : k < 61 := (nI_ltI (a := k) (b := 61) (by omega) (by omega)).mp c_5
      refine g_aload_n E 0 dX5_copies_8 rfl rfl ?_
      refine g_get E (ci := 5) inlX5 0 rfl rfl 0 (by decide) fl_X5_7 rfl (.ref (a 1)) rfl dX5_copies_9 ?_
      refine g_bipush E 61 dX5_copies_12 (by decide) ?_
      refine g_iload_n E 1 dX5_copies_14 rfl rfl ?_
      refine g_iadd E dX5_copies_15 ?_
      refine g_top (nI_add 61 k) ?_
      refine g_aload_n E 0 dX5_copies_16 rfl rfl ?_
      refine g_get E (ci := 5) inlX5 0 rfl rfl 0 (by decide) fl_X5_7 rfl (.ref (a 1)) rfl dX5_copies_17 ?_
      refine g_iload_n E 1 dX5_copies_20 rfl rfl ?_
      refine g_iald E 1 rfl rfl k rfl (by omega) (by decide) dX5_copies_21 ?_
      refine g_iast E 1 rfl rfl (61 + k) rfl (by omega) (by decide) (ws' := MW d a (upd s1 (61 + k) (s1 k)) Z) rfl dX5_copies_22 ?_
      refine g_iinc E (j := 1) (v := (nI (k + 1))) (lv' := [(1, .int (nI (k + 1))), (0, .ref (a 0))]) dX5_copies_23 rfl (nI_1 _) (by decide) rfl ?_
      refine g_goto E 2 dX5_copies_26 (by decide) ?_
      refine g_lvs (lv' := [(0, .ref (a 0)), (1, .int (nI (k + 1)))]) [1, 0] rfl ?_
      exact ih (k + 1) (upd s1 (61 + k) (s1 k)) (by omega) (by omega) (fun pc_ lv_ u_ h1_ h2_ => RET pc_ lv_ u_ h1_ (h2_.trans (by rw [c_X5_copies_s_at2, if_pos c_5])))
set_option maxHeartbeats 1000000 in
set_option maxRecDepth 100000 in
theorem s_X5_copies_0 (d : gD) (a : Nat → Nat) (s : Nat → Int32) (Z : MR)   {X : gX} (E : gE d X RX5 cX5_copies 2 R_X5_copies) (RET : ∀ (pc_ : Nat) (lv_ : List (Nat × Value)) (u_ : va_W), decode cX5_copies pc_ = .ok (.return_, 1) → u_ = MW d a (c_X5_copies_s s) Z → G d X u_ R_X5_copies.cells R_X5_copies.slots pc_ lv_ []) : G d X (MW d a s Z) 0 0 0 [(0, .ref (a 0))] [] := by
  refine g_iconst E 0 dX5_copies_0 (by decide) ?_
  refine g_istore_n E (lv' := [(1, .int 0), (0, .ref (a 0))]) dX5_copies_1 rfl (by decide) rfl ?_
  refine g_lvs (lv' := [(0, .ref (a 0)), (1, .int 0)]) [1, 0] rfl ?_
  exact s_X5_copies_2 d a s Z  E 62 0 s (by omega) (by omega) (fun pc_ lv_ u_ h1_ h2_ => RET pc_ lv_ u_ h1_ (h2_.trans (by rw [c_X5_copies_s])))
set_option maxHeartbeats 1000000 in
set_option maxRecDepth 100000 in
theorem t_X5_copies (d : gD) (a : Nat → Nat) (s : Nat → Int32) (Z : MR)  : gMv d yX5_copies cX5_copies 2 R_X5_copies [.ref (a 0)] (MW d a s Z) (fun u_ => u_ = MW d a (c_X5_copies_s s) Z) :=
  g_met_v RX5 rfl (by decide +kernel) (Nat.le_of_ble_eq_true rfl) [(0, .ref (a 0))] rfl (fun X E _ RET => s_X5_copies_0 d a s Z  E (fun pc_ lv_ u_ h1_ h2_ => RET pc_ lv_ u_ h1_ h2_))
theorem cop2 (s : Nat → Int32) : ∀ (n k : Nat) (s1 : Nat → Int32), k ≤ 61 → 61 - k < n → (∀ j, j < 61 → s1 j = s j) → c_X5_copies_s_at2 s n k s1 = fun j => if 61 + k ≤ j ∧ j < 122 then s (j - 61) else s1 j := by
  intro n
  induction n with
  | zero => intro k s1 hk h; omega
  | succ n ih =>
    intro k s1 hk h e
    rw [c_X5_copies_s_at2]
    by_cases c : nI k < 61
    · have hk2 : k < 61 := (nI_ltI (a := k) (b := 61) (by omega) (by omega)).mp c
      rw [if_pos c, ih (k + 1) (upd s1 (61 + k) (s1 k)) (by omega) (by omega) (fun j hj => (if_neg (show ¬ j = 61 + k by omega)).trans (e j hj))]
      funext j
      by_cases h1 : 61 + (k + 1) ≤ j ∧ j < 122
      · rw [if_pos h1, if_pos (by omega)]
      · rw [if_neg h1]
        by_cases h2 : j = 61 + k
        · subst h2
          rw [if_pos (by omega), Nat.add_sub_cancel_left, ← e k hk2]
          exact if_pos rfl
        · rw [if_neg (by omega)]
          exact if_neg h2
    · have hk2 : ¬ k < 61 := fun q => c ((nI_ltI (a := k) (b := 61) (by omega) (by omega)).mpr q)
      rw [if_neg c]
      funext j
      rw [if_neg (by omega)]
theorem cop_eq (r f : Nat → Int32) : c_X5_copies_s (pr 0 r f) = pr 61 r (pr 0 r f) := by
  unfold c_X5_copies_s
  rw [cop2 _ 62 0 _ (by omega) (by omega) (fun _ _ => rfl)]
  funext j
  show (if 61 + 0 ≤ j ∧ j < 122 then pr 0 r f (j - 61) else pr 0 r f j) = if 61 ≤ j ∧ j < 61 + 61 then r (j - 61) else pr 0 r f j
  by_cases h : 61 ≤ j ∧ j < 61 + 61
  · rw [if_pos h, if_pos (by omega)]
    exact if_pos (by omega)
  · rw [if_neg h, if_neg (by omega)]
theorem t2_X5_copies (d : gD) (a : Nat → Nat) (r f : Nat → Int32) (Z : MR) : gMv d yX5_copies cX5_copies 2 R_X5_copies [.ref (a 0)] (MW d a (pr 0 r f) Z) (fun u_ => u_ = MW d a (pr 61 r (pr 0 r f)) Z) := by
  have h := t_X5_copies d a (pr 0 r f) Z
  rw [cop_eq] at h
  exact h
abbrev R_X5_wouldTell : Room := { frames := 4, cells := 0, slots := 0, locals := 98 }
def r_X5_wouldTell (x : Int32) (y : Int32) (r : Nat → Int32) (f : Nat → Int32) : Int32 := if (r_X5_areRight x y) = 0 then (-2) else (r_X5_told (c_X5_samples_s x y r))
def c_X5_wouldTell_s (x : Int32) (y : Int32) (r : Nat → Int32) (f : Nat → Int32) : Nat → Int32 := if (r_X5_areRight x y) = 0 then f else (pr 61 (c_X5_samples_s x y r) f)
set_option maxHeartbeats 1000000 in
set_option maxRecDepth 100000 in
theorem s_X5_wouldTell_0 (d : gD) (a : Nat → Nat) (x : Int32) (y : Int32) (r : Nat → Int32) (f : Nat → Int32) (Z : MR) (hs : SH r)  {X : gX} (E : gE d X RX5 cX5_wouldTell 3 R_X5_wouldTell) (RET : ∀ (pc_ : Nat) (lv_ : List (Nat × Value)) (v_ : Int32) (u_ : va_W), decode cX5_wouldTell pc_ = .ok (.ireturn, 1) → narrow .int (.int v_) = .int v_ → v_ = r_X5_wouldTell x y r f → u_ = MW d a (pr 0 r (c_X5_wouldTell_s x y r f)) Z → G d X u_ R_X5_wouldTell.cells R_X5_wouldTell.slots pc_ lv_ [.int v_]) : G d X (MW d a (pr 0 r f) Z) 0 0 0 [(0, .ref (a 0)), (1, .int x), (2, .int y)] [] := by
  refine g_iload_n E 1 dX5_wouldTell_0 rfl rfl ?_
  refine g_iload_n E 2 dX5_wouldTell_1 rfl rfl ?_
  refine g_callSp E gc_X5_areRight ml_X5_82 (t_X5_areRight d x y ) rfl rfl rfl (ok_le rfl) ⟨ok_le rfl, ok_le rfl, ok_le rfl, ok_le rfl⟩ rfl rfl dX5_wouldTell_2 ?_
  refine g_nm (fun v1_ hv1_ => ?_)
  refine g_ifne E 11 dX5_wouldTell_5 (by decide) (fun c_5 => ?_) (fun c_5 => ?_)
  · skip
    refine g_aload_n E 0 dX5_wouldTell_11 rfl rfl ?_
    refine g_callVv0 E gc_X5_copies ml_X5_111 (t2_X5_copies d a r f Z ) rfl rfl (ci := 5) 0 rfl rfl rfl rfl (ok_le rfl) ⟨ok_le rfl, ok_le rfl, ok_le rfl, ok_le rfl⟩ rfl rfl dX5_wouldTell_12 ?_
    refine g_aload_n E 0 dX5_wouldTell_15 rfl rfl ?_
    refine g_bipush E 61 dX5_wouldTell_16 (by decide) ?_
    refine g_iload_n E 1 dX5_wouldTell_18 rfl rfl ?_
    refine g_iload_n E 2 dX5_wouldTell_19 rfl rfl ?_
    refine g_callVv0 E gc_X5_samples ml_X5_89 (t2_X5_samples d a 61 x y r (pr 0 r f) Z (by omega) hs) rfl rfl (ci := 5) 0 rfl rfl rfl rfl (ok_le rfl) ⟨ok_le rfl, ok_le rfl, ok_le rfl, ok_le rfl⟩ rfl rfl dX5_wouldTell_20 ?_
    obtain ⟨S2_, hS2_⟩ : ∃ z, c_X5_samples_s x y r = z := ⟨_, rfl⟩
    rw [hS2_]
    refine g_aload_n E 0 dX5_wouldTell_23 rfl rfl ?_
    refine g_bipush E 61 dX5_wouldTell_24 (by decide) ?_
    refine g_callVi0 E gc_X5_told ml_X5_92 (t_X5_told d a 61 S2_ (pr 0 r f) Z (by omega)) rfl rfl (ci := 5) 0 rfl rfl rfl rfl (ok_le rfl) ⟨ok_le rfl, ok_le rfl, ok_le rfl, ok_le rfl⟩ rfl rfl dX5_wouldTell_26 ?_
    refine g_nm (fun v3_ hv3_ => ?_)
    refine g_eq (ws' := MW d a (pr 0 r (pr 61 S2_ f)) Z) (by rw [pr_swap]) ?_
    subst hv3_
    subst hS2_
    subst hv1_
    exact RET 29 _ (r_X5_told (c_X5_samples_s x y r)) _ dX5_wouldTell_29 rfl (by rw [r_X5_wouldTell, if_neg c_5]) (by rw [c_X5_wouldTell_s, if_neg c_5])
  · skip
    refine g_bipush E (-2) dX5_wouldTell_8 (by decide) ?_
    subst hv1_
    exact RET 10 _ (-2) _ dX5_wouldTell_10 rfl (by rw [r_X5_wouldTell, if_pos c_5]) (by rw [c_X5_wouldTell_s, if_pos c_5])
set_option maxHeartbeats 1000000 in
set_option maxRecDepth 100000 in
theorem t_X5_wouldTell (d : gD) (a : Nat → Nat) (x : Int32) (y : Int32) (r : Nat → Int32) (f : Nat → Int32) (Z : MR) (hs : SH r) : gMi d yX5_wouldTell cX5_wouldTell 3 (some .int) R_X5_wouldTell [.ref (a 0), .int x, .int y] (MW d a (pr 0 r f) Z) (fun r_ u_ => r_ = r_X5_wouldTell x y r f ∧ u_ = MW d a (pr 0 r (c_X5_wouldTell_s x y r f)) Z) :=
  g_met_i RX5 rfl (by decide +kernel) (Nat.le_of_ble_eq_true rfl) [(0, .ref (a 0)), (1, .int x), (2, .int y)] rfl (fun X E RET => s_X5_wouldTell_0 d a x y r f Z hs E (fun pc_ lv_ v_ u_ h1_ h2_ h3_ h4_ => RET pc_ lv_ v_ u_ h1_ h2_ ⟨h3_, h4_⟩))
abbrev R_X5_learnedIn : Room := { frames := 4, cells := 0, slots := 0, locals := 98 }
def r_X5_learnedIn_at17 (x : Int32) (y : Int32) (r : Nat → Int32) (f : Nat → Int32) : Nat → (Nat) → (Nat → Int32) → Int32
  | 0, _, _ => 0
  | n + 1, k, r1 => if 500 < (nI k) then (-6) else (if (r_X5_far x y r1) = 0 then (nI k) else (r_X5_learnedIn_at17 x y r f n (k + 1) (c_X5_samples_s x y r1)))
def c_X5_learnedIn_s_at17 (x : Int32) (y : Int32) (r : Nat → Int32) (f : Nat → Int32) : Nat → (Nat) → (Nat → Int32) → Nat → Int32
  | 0, _, _ => f
  | n + 1, k, r1 => if 500 < (nI k) then (pr 61 r1 f) else (if (r_X5_far x y r1) = 0 then (pr 61 r1 f) else (c_X5_learnedIn_s_at17 x y r f n (k + 1) (c_X5_samples_s x y r1)))
def r_X5_learnedIn (x : Int32) (y : Int32) (r : Nat → Int32) (f : Nat → Int32) : Int32 := if (r_X5_areRight x y) = 0 then (-2) else (r_X5_learnedIn_at17 x y r f 502 0 r)
def c_X5_learnedIn_s (x : Int32) (y : Int32) (r : Nat → Int32) (f : Nat → Int32) : Nat → Int32 := if (r_X5_areRight x y) = 0 then f else (c_X5_learnedIn_s_at17 x y r f 502 0 r)
set_option maxHeartbeats 1000000 in
set_option maxRecDepth 100000 in
theorem s_X5_learnedIn_17 (d : gD) (a : Nat → Nat) (x : Int32) (y : Int32) (r : Nat → Int32) (f : Nat → Int32) (Z : MR) (hall : ¬ r_X5_areRight x y = 0 → ∀ j, j ≤ 501 → SH (it x y j r)) {X : gX} (E : gE d X RX5 cX5_learnedIn 4 R_X5_learnedIn) : ∀ (n : Nat) (k : Nat) (r1 : Nat → Int32) (hk : k ≤ 501) (h1 : r1 = it x y k r) (hr : ¬ r_X5_areRight x y = 0) (hm : 501 - k < n) (RET : ∀ (pc_ : Nat) (lv_ : List (Nat × Value)) (v_ : Int32) (u_ : va_W), decode cX5_learnedIn pc_ = .ok (.ireturn, 1) → narrow .int (.int v_) = .int v_ → v_ = r_X5_learnedIn_at17 x y r f n k r1 → u_ = MW d a (pr 0 r (c_X5_learnedIn_s_at17 x y r f n k r1)) Z → G d X u_ R_X5_learnedIn.cells R_X5_learnedIn.slots pc_ lv_ [.int v_]), G d X (MW d a (pr 61 r1 (pr 0 r f)) Z) 0 0 17 [(0, .ref (a 0)), (1, .int x), (2, .int y), (3, .int (nI k))] [] := by
  intro n
  induction n with
  | zero => intro k r1 hk h1 hr hm; omega
  | succ n ih =>
    intro k r1 hk h1 hr hm RET
    refine g_iload_n E 3 dX5_learnedIn_17 rfl rfl ?_
    refine g_sipush E 500 dX5_learnedIn_18 (by decide) ?_
    refine g_icmpgt E 51 dX5_learnedIn_21 (by decide) (fun c_21 => ?_) (fun c_21 => ?_)
    · skip
      refine g_bipush E (-6) dX5_learnedIn_51 (by decide) ?_
      refine g_eq (ws' := MW d a (pr 0 r (pr 61 r1 f)) Z) (by rw [pr_swap]) ?_
      exact RET 53 _ (-6) _ dX5_learnedIn_53 rfl (by rw [r_X5_learnedIn_at17, if_pos c_21]) (by rw [c_X5_learnedIn_s_at17, if_pos c_21])
    · skip
      have k21 : ¬ 500 < k := fun q => c_21 ((nI_ltI (a := 500) (b := k) (by omega) (by omega)).mpr q)
      refine g_aload_n E 0 dX5_learnedIn_24 rfl rfl ?_
      refine g_bipush E 61 dX5_learnedIn_25 (by decide) ?_
      refine g_iload_n E 1 dX5_learnedIn_27 rfl rfl ?_
      refine g_iload_n E 2 dX5_learnedIn_28 rfl rfl ?_
      refine g_callVi0 E gc_X5_far ml_X5_50 (t_X5_far d a 61 x y r1 (pr 0 r f) Z (by omega)) rfl rfl (ci := 5) 0 rfl rfl rfl rfl (ok_le rfl) ⟨ok_le rfl, ok_le rfl, ok_le rfl, ok_le rfl⟩ rfl rfl dX5_learnedIn_29 ?_
      refine g_nm (fun v2_ hv2_ => ?_)
      refine g_ifne E 37 dX5_learnedIn_32 (by decide) (fun c_32 => ?_) (fun c_32 => ?_)
      · skip
        refine g_aload_n E 0 dX5_learnedIn_37 rfl rfl ?_
        refine g_bipush E 61 dX5_learnedIn_38 (by decide) ?_
        refine g_iload_n E 1 dX5_learnedIn_40 rfl rfl ?_
        refine g_iload_n E 2 dX5_learnedIn_41 rfl rfl ?_
        refine g_callVv0 E gc_X5_samples ml_X5_89 (t2_X5_samples d a 61 x y r1 (pr 0 r f) Z (by omega) (by rw [h1]; exact hall hr k (by omega))) rfl rfl (ci := 5) 0 rfl rfl rfl rfl (ok_le rfl) ⟨ok_le rfl, ok_le rfl, ok_le rfl, ok_le rfl⟩ rfl rfl dX5_learnedIn_42 ?_
        obtain ⟨S3_, hS3_⟩ : ∃ z, c_X5_samples_s x y r1 = z := ⟨_, rfl⟩
        rw [hS3_]
        refine g_iinc E (j := 3) (v := (nI (k + 1))) (lv' := [(3, .int (nI (k + 1))), (0, .ref (a 0)), (1, .int x), (2, .int y)]) dX5_learnedIn_45 rfl (nI_1 _) (by decide) rfl ?_
        refine g_goto E 17 dX5_learnedIn_48 (by decide) ?_
        refine g_lvs (lv' := [(0, .ref (a 0)), (1, .int x), (2, .int y), (3, .int (nI (k + 1)))]) [1, 2, 3, 0] rfl ?_
        subst hS3_
        subst hv2_
        exact ih (k + 1) (c_X5_samples_s x y r1) (by omega) (by rw [h1]; rfl) hr (by omega) (fun pc_ lv_ v_ u_ h1_ h2_ h3_ h4_ => RET pc_ lv_ v_ u_ h1_ h2_ (h3_.trans (by rw [r_X5_learnedIn_at17, if_neg c_21, if_neg c_32])) (h4_.trans (by rw [c_X5_learnedIn_s_at17, if_neg c_21, if_neg c_32])))
      · skip
        refine g_iload_n E 3 dX5_learnedIn_35 rfl rfl ?_
        refine g_eq (ws' := MW d a (pr 0 r (pr 61 r1 f)) Z) (by rw [pr_swap]) ?_
        subst hv2_
        exact RET 36 _ (nI k) _ dX5_learnedIn_36 rfl (by rw [r_X5_learnedIn_at17, if_neg c_21, if_pos c_32]) (by rw [c_X5_learnedIn_s_at17, if_neg c_21, if_pos c_32])
set_option maxHeartbeats 1000000 in
set_option maxRecDepth 100000 in
theorem s_X5_learnedIn_0 (d : gD) (a : Nat → Nat) (x : Int32) (y : Int32) (r : Nat → Int32) (f : Nat → Int32) (Z : MR) (hall : ¬ r_X5_areRight x y = 0 → ∀ j, j ≤ 501 → SH (it x y j r))  {X : gX} (E : gE d X RX5 cX5_learnedIn 4 R_X5_learnedIn) (RET : ∀ (pc_ : Nat) (lv_ : List (Nat × Value)) (v_ : Int32) (u_ : va_W), decode cX5_learnedIn pc_ = .ok (.ireturn, 1) → narrow .int (.int v_) = .int v_ → v_ = r_X5_learnedIn x y r f → u_ = MW d a (pr 0 r (c_X5_learnedIn_s x y r f)) Z → G d X u_ R_X5_learnedIn.cells R_X5_learnedIn.slots pc_ lv_ [.int v_]) : G d X (MW d a (pr 0 r f) Z) 0 0 0 [(0, .ref (a 0)), (1, .int x), (2, .int y)] [] := by
  refine g_iload_n E 1 dX5_learnedIn_0 rfl rfl ?_
  refine g_iload_n E 2 dX5_learnedIn_1 rfl rfl ?_
  refine g_callSp E gc_X5_areRight ml_X5_82 (t_X5_areRight d x y ) rfl rfl rfl (ok_le rfl) ⟨ok_le rfl, ok_le rfl, ok_le rfl, ok_le rfl⟩ rfl rfl dX5_learnedIn_2 ?_
  refine g_nm (fun v1_ hv1_ => ?_)
  refine g_ifne E 11 dX5_learnedIn_5 (by decide) (fun c_5 => ?_) (fun c_5 => ?_)
  · skip
    refine g_aload_n E 0 dX5_learnedIn_11 rfl rfl ?_
    refine g_callVv0 E gc_X5_copies ml_X5_111 (t2_X5_copies d a r f Z ) rfl rfl (ci := 5) 0 rfl rfl rfl rfl (ok_le rfl) ⟨ok_le rfl, ok_le rfl, ok_le rfl, ok_le rfl⟩ rfl rfl dX5_learnedIn_12 ?_
    refine g_iconst E 0 dX5_learnedIn_15 (by decide) ?_
    refine g_istore_n E (lv' := [(3, .int 0), (0, .ref (a 0)), (1, .int x), (2, .int y)]) dX5_learnedIn_16 rfl (by decide) rfl ?_
    refine g_lvs (lv' := [(0, .ref (a 0)), (1, .int x), (2, .int y), (3, .int 0)]) [1, 2, 3, 0] rfl ?_
    subst hv1_
    exact s_X5_learnedIn_17 d a x y r f Z hall E 502 0 r (by omega) rfl c_5 (by omega) (fun pc_ lv_ v_ u_ h1_ h2_ h3_ h4_ => RET pc_ lv_ v_ u_ h1_ h2_ (h3_.trans (by rw [r_X5_learnedIn, if_neg c_5])) (h4_.trans (by rw [c_X5_learnedIn_s, if_neg c_5])))
  · skip
    refine g_bipush E (-2) dX5_learnedIn_8 (by decide) ?_
    subst hv1_
    exact RET 10 _ (-2) _ dX5_learnedIn_10 rfl (by rw [r_X5_learnedIn, if_pos c_5]) (by rw [c_X5_learnedIn_s, if_pos c_5])
set_option maxHeartbeats 1000000 in
set_option maxRecDepth 100000 in
theorem t_X5_learnedIn (d : gD) (a : Nat → Nat) (x : Int32) (y : Int32) (r : Nat → Int32) (f : Nat → Int32) (Z : MR) (hall : ¬ r_X5_areRight x y = 0 → ∀ j, j ≤ 501 → SH (it x y j r)) : gMi d yX5_learnedIn cX5_learnedIn 4 (some .int) R_X5_learnedIn [.ref (a 0), .int x, .int y] (MW d a (pr 0 r f) Z) (fun r_ u_ => r_ = r_X5_learnedIn x y r f ∧ u_ = MW d a (pr 0 r (c_X5_learnedIn_s x y r f)) Z) :=
  g_met_i RX5 rfl (by decide +kernel) (Nat.le_of_ble_eq_true rfl) [(0, .ref (a 0)), (1, .int x), (2, .int y)] rfl (fun X E RET => s_X5_learnedIn_0 d a x y r f Z hall E (fun pc_ lv_ v_ u_ h1_ h2_ h3_ h4_ => RET pc_ lv_ v_ u_ h1_ h2_ ⟨h3_, h4_⟩))
abbrev R_X5_driftsIn : Room := { frames := 4, cells := 0, slots := 0, locals := 98 }
def r_X5_driftsIn_at17 (x : Int32) (y : Int32) (r : Nat → Int32) (f : Nat → Int32) : Nat → (Nat) → (Nat → Int32) → Int32
  | 0, _, _ => 0
  | n + 1, k, r1 => if 200 < (nI k) then (-6) else (if (r 17) < ((c_X5_samples_s x y r1) 17) then (nI k) else (r_X5_driftsIn_at17 x y r f n (k + 1) (c_X5_samples_s x y r1)))
def c_X5_driftsIn_s_at17 (x : Int32) (y : Int32) (r : Nat → Int32) (f : Nat → Int32) : Nat → (Nat) → (Nat → Int32) → Nat → Int32
  | 0, _, _ => f
  | n + 1, k, r1 => if 200 < (nI k) then (pr 61 r1 f) else (if (r 17) < ((c_X5_samples_s x y r1) 17) then (pr 61 (c_X5_samples_s x y r1) f) else (c_X5_driftsIn_s_at17 x y r f n (k + 1) (c_X5_samples_s x y r1)))
def r_X5_driftsIn (x : Int32) (y : Int32) (r : Nat → Int32) (f : Nat → Int32) : Int32 := if (r_X5_areRight x y) = 0 then (-2) else (r_X5_driftsIn_at17 x y r f 202 1 r)
def c_X5_driftsIn_s (x : Int32) (y : Int32) (r : Nat → Int32) (f : Nat → Int32) : Nat → Int32 := if (r_X5_areRight x y) = 0 then f else (c_X5_driftsIn_s_at17 x y r f 202 1 r)
set_option maxHeartbeats 1000000 in
set_option maxRecDepth 100000 in
theorem s_X5_driftsIn_17 (d : gD) (a : Nat → Nat) (x : Int32) (y : Int32) (r : Nat → Int32) (f : Nat → Int32) (Z : MR) (hall : ¬ r_X5_areRight x y = 0 → ∀ j, j ≤ 501 → SH (it x y j r)) {X : gX} (E : gE d X RX5 cX5_driftsIn 4 R_X5_driftsIn) : ∀ (n : Nat) (k : Nat) (r1 : Nat → Int32) (hk : k ≤ 201) (hk1 : 1 ≤ k) (h1 : r1 = it x y (k - 1) r) (hr : ¬ r_X5_areRight x y = 0) (hm : 201 - k < n) (RET : ∀ (pc_ : Nat) (lv_ : List (Nat × Value)) (v_ : Int32) (u_ : va_W), decode cX5_driftsIn pc_ = .ok (.ireturn, 1) → narrow .int (.int v_) = .int v_ → v_ = r_X5_driftsIn_at17 x y r f n k r1 → u_ = MW d a (pr 0 r (c_X5_driftsIn_s_at17 x y r f n k r1)) Z → G d X u_ R_X5_driftsIn.cells R_X5_driftsIn.slots pc_ lv_ [.int v_]), G d X (MW d a (pr 61 r1 (pr 0 r f)) Z) 0 0 17 [(0, .ref (a 0)), (1, .int x), (2, .int y), (3, .int (nI k))] [] := by
  intro n
  induction n with
  | zero => intro k r1 hk hk1 h1 hr hm; omega
  | succ n ih =>
    intro k r1 hk hk1 h1 hr hm RET
    refine g_iload_n E 3 dX5_driftsIn_17 rfl rfl ?_
    refine g_sipush E 200 dX5_driftsIn_18 (by decide) ?_
    refine g_icmpgt E 57 dX5_driftsIn_21 (by decide) (fun c_21 => ?_) (fun c_21 => ?_)
    · skip
      refine g_bipush E (-6) dX5_driftsIn_57 (by decide) ?_
      refine g_eq (ws' := MW d a (pr 0 r (pr 61 r1 f)) Z) (by rw [pr_swap]) ?_
      exact RET 59 _ (-6) _ dX5_driftsIn_59 rfl (by rw [r_X5_driftsIn_at17, if_pos c_21]) (by rw [c_X5_driftsIn_s_at17, if_pos c_21])
    · skip
      have k21 : ¬ 200 < k := fun q => c_21 ((nI_ltI (a := 200) (b := k) (by omega) (by omega)).mpr q)
      refine g_aload_n E 0 dX5_driftsIn_24 rfl rfl ?_
      refine g_bipush E 61 dX5_driftsIn_25 (by decide) ?_
      refine g_iload_n E 1 dX5_driftsIn_27 rfl rfl ?_
      refine g_iload_n E 2 dX5_driftsIn_28 rfl rfl ?_
      refine g_callVv0 E gc_X5_samples ml_X5_89 (t2_X5_samples d a 61 x y r1 (pr 0 r f) Z (by omega) (by rw [h1]; exact hall hr (k - 1) (by omega))) rfl rfl (ci := 5) 0 rfl rfl rfl rfl (ok_le rfl) ⟨ok_le rfl, ok_le rfl, ok_le rfl, ok_le rfl⟩ rfl rfl dX5_driftsIn_29 ?_
      obtain ⟨S2_, hS2_⟩ : ∃ z, c_X5_samples_s x y r1 = z := ⟨_, rfl⟩
      rw [hS2_]
      refine g_aload_n E 0 dX5_driftsIn_32 rfl rfl ?_
      refine g_get E (ci := 5) inlX5 0 rfl rfl 0 (by decide) fl_X5_7 rfl (.ref (a 1)) rfl dX5_driftsIn_33 ?_
      refine g_bipush E 78 dX5_driftsIn_36 (by decide) ?_
      refine g_mget E (p := 61) (r := S2_) (f := (pr 0 r f)) 1 rfl rfl 17 (show (78 : Int32) = nI (61 + 17) from rfl) (by decide) (by omega) dX5_driftsIn_38 ?_
      refine g_top (b := S2_ 17) rfl ?_
      refine g_aload_n E 0 dX5_driftsIn_39 rfl rfl ?_
      refine g_get E (ci := 5) inlX5 0 rfl rfl 0 (by decide) fl_X5_7 rfl (.ref (a 1)) rfl dX5_driftsIn_40 ?_
      refine g_bipush E 17 dX5_driftsIn_43 (by decide) ?_
      refine g_iald E 1 rfl rfl 17 rfl (by decide) (by decide) dX5_driftsIn_45 ?_
      refine g_top (b := r 17) rfl ?_
      refine g_icmple E 51 dX5_driftsIn_46 (by decide) (fun c_46 => ?_) (fun c_46 => ?_)
      · skip
        refine g_iinc E (j := 3) (v := (nI (k + 1))) (lv' := [(3, .int (nI (k + 1))), (0, .ref (a 0)), (1, .int x), (2, .int y)]) dX5_driftsIn_51 rfl (nI_1 _) (by decide) rfl ?_
        refine g_goto E 17 dX5_driftsIn_54 (by decide) ?_
        refine g_lvs (lv' := [(0, .ref (a 0)), (1, .int x), (2, .int y), (3, .int (nI (k + 1)))]) [1, 2, 3, 0] rfl ?_
        subst hS2_
        exact ih (k + 1) (c_X5_samples_s x y r1) (by omega) (by omega) (by rw [h1, Nat.add_sub_cancel]; obtain ⟨q, rfl⟩ : ∃ q, k = q + 1 := ⟨k - 1, by omega⟩; rfl) hr (by omega) (fun pc_ lv_ v_ u_ h1_ h2_ h3_ h4_ => RET pc_ lv_ v_ u_ h1_ h2_ (h3_.trans (by rw [r_X5_driftsIn_at17, if_neg c_21, if_neg c_46])) (h4_.trans (by rw [c_X5_driftsIn_s_at17, if_neg c_21, if_neg c_46])))
      · skip
        refine g_iload_n E 3 dX5_driftsIn_49 rfl rfl ?_
        refine g_eq (ws' := MW d a (pr 0 r (pr 61 S2_ f)) Z) (by rw [pr_swap]) ?_
        subst hS2_
        exact RET 50 _ (nI k) _ dX5_driftsIn_50 rfl (by rw [r_X5_driftsIn_at17, if_neg c_21, if_pos c_46]) (by rw [c_X5_driftsIn_s_at17, if_neg c_21, if_pos c_46])
set_option maxHeartbeats 1000000 in
set_option maxRecDepth 100000 in
theorem s_X5_driftsIn_0 (d : gD) (a : Nat → Nat) (x : Int32) (y : Int32) (r : Nat → Int32) (f : Nat → Int32) (Z : MR) (hall : ¬ r_X5_areRight x y = 0 → ∀ j, j ≤ 501 → SH (it x y j r))  {X : gX} (E : gE d X RX5 cX5_driftsIn 4 R_X5_driftsIn) (RET : ∀ (pc_ : Nat) (lv_ : List (Nat × Value)) (v_ : Int32) (u_ : va_W), decode cX5_driftsIn pc_ = .ok (.ireturn, 1) → narrow .int (.int v_) = .int v_ → v_ = r_X5_driftsIn x y r f → u_ = MW d a (pr 0 r (c_X5_driftsIn_s x y r f)) Z → G d X u_ R_X5_driftsIn.cells R_X5_driftsIn.slots pc_ lv_ [.int v_]) : G d X (MW d a (pr 0 r f) Z) 0 0 0 [(0, .ref (a 0)), (1, .int x), (2, .int y)] [] := by
  refine g_iload_n E 1 dX5_driftsIn_0 rfl rfl ?_
  refine g_iload_n E 2 dX5_driftsIn_1 rfl rfl ?_
  refine g_callSp E gc_X5_areRight ml_X5_82 (t_X5_areRight d x y ) rfl rfl rfl (ok_le rfl) ⟨ok_le rfl, ok_le rfl, ok_le rfl, ok_le rfl⟩ rfl rfl dX5_driftsIn_2 ?_
  refine g_nm (fun v1_ hv1_ => ?_)
  refine g_ifne E 11 dX5_driftsIn_5 (by decide) (fun c_5 => ?_) (fun c_5 => ?_)
  · skip
    refine g_aload_n E 0 dX5_driftsIn_11 rfl rfl ?_
    refine g_callVv0 E gc_X5_copies ml_X5_111 (t2_X5_copies d a r f Z ) rfl rfl (ci := 5) 0 rfl rfl rfl rfl (ok_le rfl) ⟨ok_le rfl, ok_le rfl, ok_le rfl, ok_le rfl⟩ rfl rfl dX5_driftsIn_12 ?_
    refine g_iconst E 1 dX5_driftsIn_15 (by decide) ?_
    refine g_istore_n E (lv' := [(3, .int 1), (0, .ref (a 0)), (1, .int x), (2, .int y)]) dX5_driftsIn_16 rfl (by decide) rfl ?_
    refine g_lvs (lv' := [(0, .ref (a 0)), (1, .int x), (2, .int y), (3, .int 1)]) [1, 2, 3, 0] rfl ?_
    subst hv1_
    exact s_X5_driftsIn_17 d a x y r f Z hall E 202 1 r (by omega) (by omega) rfl c_5 (by omega) (fun pc_ lv_ v_ u_ h1_ h2_ h3_ h4_ => RET pc_ lv_ v_ u_ h1_ h2_ (h3_.trans (by rw [r_X5_driftsIn, if_neg c_5])) (h4_.trans (by rw [c_X5_driftsIn_s, if_neg c_5])))
  · skip
    refine g_bipush E (-2) dX5_driftsIn_8 (by decide) ?_
    subst hv1_
    exact RET 10 _ (-2) _ dX5_driftsIn_10 rfl (by rw [r_X5_driftsIn, if_pos c_5]) (by rw [c_X5_driftsIn_s, if_pos c_5])
set_option maxHeartbeats 1000000 in
set_option maxRecDepth 100000 in
theorem t_X5_driftsIn (d : gD) (a : Nat → Nat) (x : Int32) (y : Int32) (r : Nat → Int32) (f : Nat → Int32) (Z : MR) (hall : ¬ r_X5_areRight x y = 0 → ∀ j, j ≤ 501 → SH (it x y j r)) : gMi d yX5_driftsIn cX5_driftsIn 4 (some .int) R_X5_driftsIn [.ref (a 0), .int x, .int y] (MW d a (pr 0 r f) Z) (fun r_ u_ => r_ = r_X5_driftsIn x y r f ∧ u_ = MW d a (pr 0 r (c_X5_driftsIn_s x y r f)) Z) :=
  g_met_i RX5 rfl (by decide +kernel) (Nat.le_of_ble_eq_true rfl) [(0, .ref (a 0)), (1, .int x), (2, .int y)] rfl (fun X E RET => s_X5_driftsIn_0 d a x y r f Z hall E (fun pc_ lv_ v_ u_ h1_ h2_ h3_ h4_ => RET pc_ lv_ v_ u_ h1_ h2_ ⟨h3_, h4_⟩))
abbrev R_X5_edge : Room := { frames := 4, cells := 0, slots := 0, locals := 98 }
def r_X5_edge_at49 (axis : Int32) (up : Int32) (r : Nat → Int32) (f : Nat → Int32) : Nat → (Nat) → (Nat → Int32) → Int32
  | 0, _, _ => 0
  | n + 1, k, f1 => if 255 < (nI k) then (-6) else (if up = 1 then (if axis = 0 then (if axis = 1 then (if (r_X5_areRight (((r 7) / 16) + (nI k)) (((r 8) / 16) + (nI k))) = 0 then (r_X5_edge_at49 axis up r f n (k + 1) f1) else (if (r_X5_isTelling (c_X5_samples_s (((r 7) / 16) + (nI k)) (((r 8) / 16) + (nI k)) r)) = 0 then (r_X5_edge_at49 axis up r f n (k + 1) (pr 61 (c_X5_samples_s (((r 7) / 16) + (nI k)) (((r 8) / 16) + (nI k)) r) f1)) else (nI k))) else (if (r_X5_areRight (((r 7) / 16) + (nI k)) ((r 8) / 16)) = 0 then (r_X5_edge_at49 axis up r f n (k + 1) f1) else (if (r_X5_isTelling (c_X5_samples_s (((r 7) / 16) + (nI k)) ((r 8) / 16) r)) = 0 then (r_X5_edge_at49 axis up r f n (k + 1) (pr 61 (c_X5_samples_s (((r 7) / 16) + (nI k)) ((r 8) / 16) r) f1)) else (nI k)))) else (if axis = 1 then (if (r_X5_areRight ((r 7) / 16) (((r 8) / 16) + (nI k))) = 0 then (r_X5_edge_at49 axis up r f n (k + 1) f1) else (if (r_X5_isTelling (c_X5_samples_s ((r 7) / 16) (((r 8) / 16) + (nI k)) r)) = 0 then (r_X5_edge_at49 axis up r f n (k + 1) (pr 61 (c_X5_samples_s ((r 7) / 16) (((r 8) / 16) + (nI k)) r) f1)) else (nI k))) else (if (r_X5_areRight ((r 7) / 16) ((r 8) / 16)) = 0 then (r_X5_edge_at49 axis up r f n (k + 1) f1) else (if (r_X5_isTelling (c_X5_samples_s ((r 7) / 16) ((r 8) / 16) r)) = 0 then (r_X5_edge_at49 axis up r f n (k + 1) (pr 61 (c_X5_samples_s ((r 7) / 16) ((r 8) / 16) r) f1)) else (nI k))))) else (if axis = 0 then (if axis = 1 then (if (r_X5_areRight (((r 7) / 16) + (-(nI k))) (((r 8) / 16) + (-(nI k)))) = 0 then (r_X5_edge_at49 axis up r f n (k + 1) f1) else (if (r_X5_isTelling (c_X5_samples_s (((r 7) / 16) + (-(nI k))) (((r 8) / 16) + (-(nI k))) r)) = 0 then (r_X5_edge_at49 axis up r f n (k + 1) (pr 61 (c_X5_samples_s (((r 7) / 16) + (-(nI k))) (((r 8) / 16) + (-(nI k))) r) f1)) else (nI k))) else (if (r_X5_areRight (((r 7) / 16) + (-(nI k))) ((r 8) / 16)) = 0 then (r_X5_edge_at49 axis up r f n (k + 1) f1) else (if (r_X5_isTelling (c_X5_samples_s (((r 7) / 16) + (-(nI k))) ((r 8) / 16) r)) = 0 then (r_X5_edge_at49 axis up r f n (k + 1) (pr 61 (c_X5_samples_s (((r 7) / 16) + (-(nI k))) ((r 8) / 16) r) f1)) else (nI k)))) else (if axis = 1 then (if (r_X5_areRight ((r 7) / 16) (((r 8) / 16) + (-(nI k)))) = 0 then (r_X5_edge_at49 axis up r f n (k + 1) f1) else (if (r_X5_isTelling (c_X5_samples_s ((r 7) / 16) (((r 8) / 16) + (-(nI k))) r)) = 0 then (r_X5_edge_at49 axis up r f n (k + 1) (pr 61 (c_X5_samples_s ((r 7) / 16) (((r 8) / 16) + (-(nI k))) r) f1)) else (nI k))) else (if (r_X5_areRight ((r 7) / 16) ((r 8) / 16)) = 0 then (r_X5_edge_at49 axis up r f n (k + 1) f1) else (if (r_X5_isTelling (c_X5_samples_s ((r 7) / 16) ((r 8) / 16) r)) = 0 then (r_X5_edge_at49 axis up r f n (k + 1) (pr 61 (c_X5_samples_s ((r 7) / 16) ((r 8) / 16) r) f1)) else (nI k))))))
def c_X5_edge_s_at49 (axis : Int32) (up : Int32) (r : Nat → Int32) (f : Nat → Int32) : Nat → (Nat) → (Nat → Int32) → Nat → Int32
  | 0, _, f1 => f1
  | n + 1, k, f1 => if 255 < (nI k) then f1 else (if up = 1 then (if axis = 0 then (if axis = 1 then (if (r_X5_areRight (((r 7) / 16) + (nI k)) (((r 8) / 16) + (nI k))) = 0 then (c_X5_edge_s_at49 axis up r f n (k + 1) f1) else (if (r_X5_isTelling (c_X5_samples_s (((r 7) / 16) + (nI k)) (((r 8) / 16) + (nI k)) r)) = 0 then (c_X5_edge_s_at49 axis up r f n (k + 1) (pr 61 (c_X5_samples_s (((r 7) / 16) + (nI k)) (((r 8) / 16) + (nI k)) r) f1)) else (pr 61 (c_X5_samples_s (((r 7) / 16) + (nI k)) (((r 8) / 16) + (nI k)) r) f1))) else (if (r_X5_areRight (((r 7) / 16) + (nI k)) ((r 8) / 16)) = 0 then (c_X5_edge_s_at49 axis up r f n (k + 1) f1) else (if (r_X5_isTelling (c_X5_samples_s (((r 7) / 16) + (nI k)) ((r 8) / 16) r)) = 0 then (c_X5_edge_s_at49 axis up r f n (k + 1) (pr 61 (c_X5_samples_s (((r 7) / 16) + (nI k)) ((r 8) / 16) r) f1)) else (pr 61 (c_X5_samples_s (((r 7) / 16) + (nI k)) ((r 8) / 16) r) f1)))) else (if axis = 1 then (if (r_X5_areRight ((r 7) / 16) (((r 8) / 16) + (nI k))) = 0 then (c_X5_edge_s_at49 axis up r f n (k + 1) f1) else (if (r_X5_isTelling (c_X5_samples_s ((r 7) / 16) (((r 8) / 16) + (nI k)) r)) = 0 then (c_X5_edge_s_at49 axis up r f n (k + 1) (pr 61 (c_X5_samples_s ((r 7) / 16) (((r 8) / 16) + (nI k)) r) f1)) else (pr 61 (c_X5_samples_s ((r 7) / 16) (((r 8) / 16) + (nI k)) r) f1))) else (if (r_X5_areRight ((r 7) / 16) ((r 8) / 16)) = 0 then (c_X5_edge_s_at49 axis up r f n (k + 1) f1) else (if (r_X5_isTelling (c_X5_samples_s ((r 7) / 16) ((r 8) / 16) r)) = 0 then (c_X5_edge_s_at49 axis up r f n (k + 1) (pr 61 (c_X5_samples_s ((r 7) / 16) ((r 8) / 16) r) f1)) else (pr 61 (c_X5_samples_s ((r 7) / 16) ((r 8) / 16) r) f1))))) else (if axis = 0 then (if axis = 1 then (if (r_X5_areRight (((r 7) / 16) + (-(nI k))) (((r 8) / 16) + (-(nI k)))) = 0 then (c_X5_edge_s_at49 axis up r f n (k + 1) f1) else (if (r_X5_isTelling (c_X5_samples_s (((r 7) / 16) + (-(nI k))) (((r 8) / 16) + (-(nI k))) r)) = 0 then (c_X5_edge_s_at49 axis up r f n (k + 1) (pr 61 (c_X5_samples_s (((r 7) / 16) + (-(nI k))) (((r 8) / 16) + (-(nI k))) r) f1)) else (pr 61 (c_X5_samples_s (((r 7) / 16) + (-(nI k))) (((r 8) / 16) + (-(nI k))) r) f1))) else (if (r_X5_areRight (((r 7) / 16) + (-(nI k))) ((r 8) / 16)) = 0 then (c_X5_edge_s_at49 axis up r f n (k + 1) f1) else (if (r_X5_isTelling (c_X5_samples_s (((r 7) / 16) + (-(nI k))) ((r 8) / 16) r)) = 0 then (c_X5_edge_s_at49 axis up r f n (k + 1) (pr 61 (c_X5_samples_s (((r 7) / 16) + (-(nI k))) ((r 8) / 16) r) f1)) else (pr 61 (c_X5_samples_s (((r 7) / 16) + (-(nI k))) ((r 8) / 16) r) f1)))) else (if axis = 1 then (if (r_X5_areRight ((r 7) / 16) (((r 8) / 16) + (-(nI k)))) = 0 then (c_X5_edge_s_at49 axis up r f n (k + 1) f1) else (if (r_X5_isTelling (c_X5_samples_s ((r 7) / 16) (((r 8) / 16) + (-(nI k))) r)) = 0 then (c_X5_edge_s_at49 axis up r f n (k + 1) (pr 61 (c_X5_samples_s ((r 7) / 16) (((r 8) / 16) + (-(nI k))) r) f1)) else (pr 61 (c_X5_samples_s ((r 7) / 16) (((r 8) / 16) + (-(nI k))) r) f1))) else (if (r_X5_areRight ((r 7) / 16) ((r 8) / 16)) = 0 then (c_X5_edge_s_at49 axis up r f n (k + 1) f1) else (if (r_X5_isTelling (c_X5_samples_s ((r 7) / 16) ((r 8) / 16) r)) = 0 then (c_X5_edge_s_at49 axis up r f n (k + 1) (pr 61 (c_X5_samples_s ((r 7) / 16) ((r 8) / 16) r) f1)) else (pr 61 (c_X5_samples_s ((r 7) / 16) ((r 8) / 16) r) f1))))))
def r_X5_edge (axis : Int32) (up : Int32) (r : Nat → Int32) (f : Nat → Int32) : Int32 := if (r_X5_in axis 0 1) = 0 then (-1) else (if (r_X5_in up 0 1) = 0 then (-2) else (r_X5_edge_at49 axis up r f 257 1 f))
def c_X5_edge_s (axis : Int32) (up : Int32) (r : Nat → Int32) (f : Nat → Int32) : Nat → Int32 := if (r_X5_in axis 0 1) = 0 then f else (if (r_X5_in up 0 1) = 0 then f else (c_X5_edge_s_at49 axis up r f 257 1 f))
set_option maxHeartbeats 1000000 in
set_option maxRecDepth 100000 in
theorem s_X5_edge_49 (d : gD) (a : Nat → Nat) (axis : Int32) (up : Int32) (r : Nat → Int32) (f : Nat → Int32) (Z : MR) (hs : SH r) {X : gX} (E : gE d X RX5 cX5_edge 9 R_X5_edge) : ∀ (n : Nat) (k : Nat) (f1 : Nat → Int32) (hk : k ≤ 256) (hm : 256 - k < n) (RET : ∀ (pc_ : Nat) (lv_ : List (Nat × Value)) (v_ : Int32) (u_ : va_W), decode cX5_edge pc_ = .ok (.ireturn, 1) → narrow .int (.int v_) = .int v_ → v_ = r_X5_edge_at49 axis up r f n k f1 → u_ = MW d a (pr 0 r (c_X5_edge_s_at49 axis up r f n k f1)) Z → G d X u_ R_X5_edge.cells R_X5_edge.slots pc_ lv_ [.int v_]), G d X (MW d a (pr 0 r f1) Z) 0 0 49 [(0, .ref (a 0)), (1, .int axis), (2, .int up), (3, .int ((r 7) / 16)), (4, .int ((r 8) / 16)), (5, .int (nI k))] [] := by
  intro n
  induction n with
  | zero => intro k f1 hk hm; omega
  | succ n ih =>
    intro k f1 hk hm RET
    refine g_iload E 5 dX5_edge_49 rfl ?_
    refine g_sipush E 255 dX5_edge_51 (by decide) ?_
    refine g_icmpgt E 145 dX5_edge_54 (by decide) (fun c_54 => ?_) (fun c_54 => ?_)
    · skip
      refine g_bipush E (-6) dX5_edge_145 (by decide) ?_
      exact RET 147 _ (-6) _ dX5_edge_147 rfl (by rw [r_X5_edge_at49, if_pos c_54]) (by rw [c_X5_edge_s_at49, if_pos c_54])
    · skip
      have k54 : ¬ 255 < k := fun q => c_54 ((nI_ltI (a := 255) (b := k) (by omega) (by omega)).mpr q)
      refine g_iload_n E 2 dX5_edge_57 rfl rfl ?_
      refine g_iconst E 1 dX5_edge_58 (by decide) ?_
      refine g_icmpne E 67 dX5_edge_59 (by decide) (fun c_59 => ?_) (fun c_59 => ?_)
      · skip
        refine g_iload E 5 dX5_edge_67 rfl ?_
        refine g_ineg E dX5_edge_69 ?_
        refine g_istore E (lv' := [(6, .int (-(nI k))), (0, .ref (a 0)), (1, .int axis), (2, .int up), (3, .int ((r 7) / 16)), (4, .int ((r 8) / 16)), (5, .int (nI k))]) dX5_edge_70 (by decide) rfl ?_
        refine g_iload_n E 2 dX5_edge_72 rfl rfl ?_
        refine g_ifne E 83 dX5_edge_73 (by decide) (fun c_73 => ?_) (fun c_73 => ?_)
        · skip
          refine g_iload_n E 4 dX5_edge_83 rfl rfl ?_
          refine g_istore E (lv' := [(7, .int ((r 7) / 16)), (6, .int (-(nI k))), (0, .ref (a 0)), (1, .int axis), (2, .int up), (3, .int ((r 7) / 16)), (4, .int ((r 8) / 16)), (5, .int (nI k))]) dX5_edge_84 (by decide) rfl ?_
          refine g_iload_n E 3 dX5_edge_86 rfl rfl ?_
          refine g_iconst E 1 dX5_edge_87 (by decide) ?_
          refine g_icmpne E 99 dX5_edge_88 (by decide) (fun c_88 => ?_) (fun c_88 => ?_)
          · skip
            refine g_iload E 6 dX5_edge_99 rfl ?_
            refine g_istore E (lv' := [(8, .int ((r 8) / 16)), (7, .int ((r 7) / 16)), (6, .int (-(nI k))), (0, .ref (a 0)), (1, .int axis), (2, .int up), (3, .int ((r 7) / 16)), (4, .int ((r 8) / 16)), (5, .int (nI k))]) dX5_edge_101 (by decide) rfl ?_
            refine g_iload E 1 dX5_edge_103 rfl ?_
            refine g_iload E 0 dX5_edge_105 rfl ?_
            refine g_callSp E gc_X5_areRight ml_X5_82 (t_X5_areRight d ((r 7) / 16) ((r 8) / 16) ) rfl rfl rfl (ok_le rfl) ⟨ok_le rfl, ok_le rfl, ok_le rfl, ok_le rfl⟩ rfl rfl dX5_edge_107 ?_
            refine g_nm (fun v3_ hv3_ => ?_)
            refine g_ifeq E 139 dX5_edge_110 (by decide) (fun c_110 => ?_) (fun c_110 => ?_)
            · skip
              refine g_iinc E (j := 8) (v := (nI (k + 1))) (lv' := [(5, .int (nI (k + 1))), (8, .int ((r 8) / 16)), (7, .int ((r 7) / 16)), (6, .int (-(nI k))), (0, .ref (a 0)), (1, .int axis), (2, .int up), (3, .int ((r 7) / 16)), (4, .int ((r 8) / 16))]) dX5_edge_139 rfl (nI_1 _) (by decide) rfl ?_
              refine g_goto E 49 dX5_edge_142 (by decide) ?_
              refine g_lvs (lv' := [(0, .ref (a 0)), (1, .int axis), (2, .int up), (3, .int ((r 7) / 16)), (4, .int ((r 8) / 16)), (5, .int (nI (k + 1)))]) [4, 5, 6, 7, 8, 0] rfl ?_
              subst hv3_
              exact ih (k + 1) f1 (by omega) (by omega) (fun pc_ lv_ v_ u_ h1_ h2_ h3_ h4_ => RET pc_ lv_ v_ u_ h1_ h2_ (h3_.trans (by rw [r_X5_edge_at49, if_neg c_54, if_neg c_59, if_neg c_73, if_neg c_88, if_pos c_110])) (h4_.trans (by rw [c_X5_edge_s_at49, if_neg c_54, if_neg c_59, if_neg c_73, if_neg c_88, if_pos c_110])))
            · skip
              refine g_aload_n E 3 dX5_edge_113 rfl rfl ?_
              refine g_callVv0 E gc_X5_copies ml_X5_111 (t2_X5_copies d a r f1 Z ) rfl rfl (ci := 5) 0 rfl rfl rfl rfl (ok_le rfl) ⟨ok_le rfl, ok_le rfl, ok_le rfl, ok_le rfl⟩ rfl rfl dX5_edge_114 ?_
              refine g_aload_n E 3 dX5_edge_117 rfl rfl ?_
              refine g_bipush E 61 dX5_edge_118 (by decide) ?_
              refine g_iload E 1 dX5_edge_120 rfl ?_
              refine g_iload E 0 dX5_edge_122 rfl ?_
              refine g_callVv0 E gc_X5_samples ml_X5_89 (t2_X5_samples d a 61 ((r 7) / 16) ((r 8) / 16) r (pr 0 r f1) Z (by omega) hs) rfl rfl (ci := 5) 0 rfl rfl rfl rfl (ok_le rfl) ⟨ok_le rfl, ok_le rfl, ok_le rfl, ok_le rfl⟩ rfl rfl dX5_edge_124 ?_
              obtain ⟨S4_, hS4_⟩ : ∃ z, c_X5_samples_s ((r 7) / 16) ((r 8) / 16) r = z := ⟨_, rfl⟩
              rw [hS4_]
              refine g_aload_n E 3 dX5_edge_127 rfl rfl ?_
              refine g_bipush E 61 dX5_edge_128 (by decide) ?_
              refine g_callVi0 E gc_X5_isTelling ml_X5_46 (t_X5_isTelling d a 61 S4_ (pr 0 r f1) Z (by omega)) rfl rfl (ci := 5) 0 rfl rfl rfl rfl (ok_le rfl) ⟨ok_le rfl, ok_le rfl, ok_le rfl, ok_le rfl⟩ rfl rfl dX5_edge_130 ?_
              refine g_nm (fun v5_ hv5_ => ?_)
              refine g_ifeq E 139 dX5_edge_133 (by decide) (fun c_133 => ?_) (fun c_133 => ?_)
              · skip
                refine g_eq (ws' := MW d a (pr 0 r (pr 61 S4_ f1)) Z) (by rw [pr_swap]) ?_
                refine g_iinc E (j := 8) (v := (nI (k + 1))) (lv' := [(5, .int (nI (k + 1))), (8, .int ((r 8) / 16)), (7, .int ((r 7) / 16)), (6, .int (-(nI k))), (0, .ref (a 0)), (1, .int axis), (2, .int up), (3, .int ((r 7) / 16)), (4, .int ((r 8) / 16))]) dX5_edge_139 rfl (nI_1 _) (by decide) rfl ?_
                refine g_goto E 49 dX5_edge_142 (by decide) ?_
                refine g_lvs (lv' := [(0, .ref (a 0)), (1, .int axis), (2, .int up), (3, .int ((r 7) / 16)), (4, .int ((r 8) / 16)), (5, .int (nI (k + 1)))]) [4, 5, 6, 7, 8, 0] rfl ?_
                subst hv5_
                subst hS4_
                subst hv3_
                exact ih (k + 1) (pr 61 (c_X5_samples_s ((r 7) / 16) ((r 8) / 16) r) f1) (by omega) (by omega) (fun pc_ lv_ v_ u_ h1_ h2_ h3_ h4_ => RET pc_ lv_ v_ u_ h1_ h2_ (h3_.trans (by rw [r_X5_edge_at49, if_neg c_54, if_neg c_59, if_neg c_73, if_neg c_88, if_neg c_110, if_pos c_133])) (h4_.trans (by rw [c_X5_edge_s_at49, if_neg c_54, if_neg c_59, if_neg c_73, if_neg c_88, if_neg c_110, if_pos c_133])))
              · skip
                refine g_eq (ws' := MW d a (pr 0 r (pr 61 S4_ f1)) Z) (by rw [pr_swap]) ?_
                refine g_iload E 8 dX5_edge_136 rfl ?_
                subst hv5_
                subst hS4_
                subst hv3_
                exact RET 138 _ (nI k) _ dX5_edge_138 rfl (by rw [r_X5_edge_at49, if_neg c_54, if_neg c_59, if_neg c_73, if_neg c_88, if_neg c_110, if_neg c_133]) (by rw [c_X5_edge_s_at49, if_neg c_54, if_neg c_59, if_neg c_73, if_neg c_88, if_neg c_110, if_neg c_133])
          · skip
            refine g_iload E 6 dX5_edge_91 rfl ?_
            refine g_iload E 1 dX5_edge_93 rfl ?_
            refine g_iadd E dX5_edge_95 ?_
            refine g_goto E 101 dX5_edge_96 (by decide) ?_
            refine g_istore E (lv' := [(8, .int (((r 8) / 16) + (-(nI k)))), (7, .int ((r 7) / 16)), (6, .int (-(nI k))), (0, .ref (a 0)), (1, .int axis), (2, .int up), (3, .int ((r 7) / 16)), (4, .int ((r 8) / 16)), (5, .int (nI k))]) dX5_edge_101 (by decide) rfl ?_
            refine g_iload E 1 dX5_edge_103 rfl ?_
            refine g_iload E 0 dX5_edge_105 rfl ?_
            refine g_callSp E gc_X5_areRight ml_X5_82 (t_X5_areRight d ((r 7) / 16) (((r 8) / 16) + (-(nI k))) ) rfl rfl rfl (ok_le rfl) ⟨ok_le rfl, ok_le rfl, ok_le rfl, ok_le rfl⟩ rfl rfl dX5_edge_107 ?_
            refine g_nm (fun v6_ hv6_ => ?_)
            refine g_ifeq E 139 dX5_edge_110 (by decide) (fun c_110 => ?_) (fun c_110 => ?_)
            · skip
              refine g_iinc E (j := 8) (v := (nI (k + 1))) (lv' := [(5, .int (nI (k + 1))), (8, .int (((r 8) / 16) + (-(nI k)))), (7, .int ((r 7) / 16)), (6, .int (-(nI k))), (0, .ref (a 0)), (1, .int axis), (2, .int up), (3, .int ((r 7) / 16)), (4, .int ((r 8) / 16))]) dX5_edge_139 rfl (nI_1 _) (by decide) rfl ?_
              refine g_goto E 49 dX5_edge_142 (by decide) ?_
              refine g_lvs (lv' := [(0, .ref (a 0)), (1, .int axis), (2, .int up), (3, .int ((r 7) / 16)), (4, .int ((r 8) / 16)), (5, .int (nI (k + 1)))]) [4, 5, 6, 7, 8, 0] rfl ?_
              subst hv6_
              exact ih (k + 1) f1 (by omega) (by omega) (fun pc_ lv_ v_ u_ h1_ h2_ h3_ h4_ => RET pc_ lv_ v_ u_ h1_ h2_ (h3_.trans (by rw [r_X5_edge_at49, if_neg c_54, if_neg c_59, if_neg c_73, if_pos c_88, if_pos c_110])) (h4_.trans (by rw [c_X5_edge_s_at49, if_neg c_54, if_neg c_59, if_neg c_73, if_pos c_88, if_pos c_110])))
            · skip
              refine g_aload_n E 3 dX5_edge_113 rfl rfl ?_
              refine g_callVv0 E gc_X5_copies ml_X5_111 (t2_X5_copies d a r f1 Z ) rfl rfl (ci := 5) 0 rfl rfl rfl rfl (ok_le rfl) ⟨ok_le rfl, ok_le rfl, ok_le rfl, ok_le rfl⟩ rfl rfl dX5_edge_114 ?_
              refine g_aload_n E 3 dX5_edge_117 rfl rfl ?_
              refine g_bipush E 61 dX5_edge_118 (by decide) ?_
              refine g_iload E 1 dX5_edge_120 rfl ?_
              refine g_iload E 0 dX5_edge_122 rfl ?_
              refine g_callVv0 E gc_X5_samples ml_X5_89 (t2_X5_samples d a 61 ((r 7) / 16) (((r 8) / 16) + (-(nI k))) r (pr 0 r f1) Z (by omega) hs) rfl rfl (ci := 5) 0 rfl rfl rfl rfl (ok_le rfl) ⟨ok_le rfl, ok_le rfl, ok_le rfl, ok_le rfl⟩ rfl rfl dX5_edge_124 ?_
              obtain ⟨S7_, hS7_⟩ : ∃ z, c_X5_samples_s ((r 7) / 16) (((r 8) / 16) + (-(nI k))) r = z := ⟨_, rfl⟩
              rw [hS7_]
              refine g_aload_n E 3 dX5_edge_127 rfl rfl ?_
              refine g_bipush E 61 dX5_edge_128 (by decide) ?_
              refine g_callVi0 E gc_X5_isTelling ml_X5_46 (t_X5_isTelling d a 61 S7_ (pr 0 r f1) Z (by omega)) rfl rfl (ci := 5) 0 rfl rfl rfl rfl (ok_le rfl) ⟨ok_le rfl, ok_le rfl, ok_le rfl, ok_le rfl⟩ rfl rfl dX5_edge_130 ?_
              refine g_nm (fun v8_ hv8_ => ?_)
              refine g_ifeq E 139 dX5_edge_133 (by decide) (fun c_133 => ?_) (fun c_133 => ?_)
              · skip
                refine g_eq (ws' := MW d a (pr 0 r (pr 61 S7_ f1)) Z) (by rw [pr_swap]) ?_
                refine g_iinc E (j := 8) (v := (nI (k + 1))) (lv' := [(5, .int (nI (k + 1))), (8, .int (((r 8) / 16) + (-(nI k)))), (7, .int ((r 7) / 16)), (6, .int (-(nI k))), (0, .ref (a 0)), (1, .int axis), (2, .int up), (3, .int ((r 7) / 16)), (4, .int ((r 8) / 16))]) dX5_edge_139 rfl (nI_1 _) (by decide) rfl ?_
                refine g_goto E 49 dX5_edge_142 (by decide) ?_
                refine g_lvs (lv' := [(0, .ref (a 0)), (1, .int axis), (2, .int up), (3, .int ((r 7) / 16)), (4, .int ((r 8) / 16)), (5, .int (nI (k + 1)))]) [4, 5, 6, 7, 8, 0] rfl ?_
                subst hv8_
                subst hS7_
                subst hv6_
                exact ih (k + 1) (pr 61 (c_X5_samples_s ((r 7) / 16) (((r 8) / 16) + (-(nI k))) r) f1) (by omega) (by omega) (fun pc_ lv_ v_ u_ h1_ h2_ h3_ h4_ => RET pc_ lv_ v_ u_ h1_ h2_ (h3_.trans (by rw [r_X5_edge_at49, if_neg c_54, if_neg c_59, if_neg c_73, if_pos c_88, if_neg c_110, if_pos c_133])) (h4_.trans (by rw [c_X5_edge_s_at49, if_neg c_54, if_neg c_59, if_neg c_73, if_pos c_88, if_neg c_110, if_pos c_133])))
              · skip
                refine g_eq (ws' := MW d a (pr 0 r (pr 61 S7_ f1)) Z) (by rw [pr_swap]) ?_
                refine g_iload E 8 dX5_edge_136 rfl ?_
                subst hv8_
                subst hS7_
                subst hv6_
                exact RET 138 _ (nI k) _ dX5_edge_138 rfl (by rw [r_X5_edge_at49, if_neg c_54, if_neg c_59, if_neg c_73, if_pos c_88, if_neg c_110, if_neg c_133]) (by rw [c_X5_edge_s_at49, if_neg c_54, if_neg c_59, if_neg c_73, if_pos c_88, if_neg c_110, if_neg c_133])
        · skip
          refine g_iload_n E 4 dX5_edge_76 rfl rfl ?_
          refine g_iload E 0 dX5_edge_77 rfl ?_
          refine g_iadd E dX5_edge_79 ?_
          refine g_goto E 84 dX5_edge_80 (by decide) ?_
          refine g_istore E (lv' := [(7, .int (((r 7) / 16) + (-(nI k)))), (6, .int (-(nI k))), (0, .ref (a 0)), (1, .int axis), (2, .int up), (3, .int ((r 7) / 16)), (4, .int ((r 8) / 16)), (5, .int (nI k))]) dX5_edge_84 (by decide) rfl ?_
          refine g_iload_n E 3 dX5_edge_86 rfl rfl ?_
          refine g_iconst E 1 dX5_edge_87 (by decide) ?_
          refine g_icmpne E 99 dX5_edge_88 (by decide) (fun c_88 => ?_) (fun c_88 => ?_)
          · skip
            refine g_iload E 6 dX5_edge_99 rfl ?_
            refine g_istore E (lv' := [(8, .int ((r 8) / 16)), (7, .int (((r 7) / 16) + (-(nI k)))), (6, .int (-(nI k))), (0, .ref (a 0)), (1, .int axis), (2, .int up), (3, .int ((r 7) / 16)), (4, .int ((r 8) / 16)), (5, .int (nI k))]) dX5_edge_101 (by decide) rfl ?_
            refine g_iload E 1 dX5_edge_103 rfl ?_
            refine g_iload E 0 dX5_edge_105 rfl ?_
            refine g_callSp E gc_X5_areRight ml_X5_82 (t_X5_areRight d (((r 7) / 16) + (-(nI k))) ((r 8) / 16) ) rfl rfl rfl (ok_le rfl) ⟨ok_le rfl, ok_le rfl, ok_le rfl, ok_le rfl⟩ rfl rfl dX5_edge_107 ?_
            refine g_nm (fun v9_ hv9_ => ?_)
            refine g_ifeq E 139 dX5_edge_110 (by decide) (fun c_110 => ?_) (fun c_110 => ?_)
            · skip
              refine g_iinc E (j := 8) (v := (nI (k + 1))) (lv' := [(5, .int (nI (k + 1))), (8, .int ((r 8) / 16)), (7, .int (((r 7) / 16) + (-(nI k)))), (6, .int (-(nI k))), (0, .ref (a 0)), (1, .int axis), (2, .int up), (3, .int ((r 7) / 16)), (4, .int ((r 8) / 16))]) dX5_edge_139 rfl (nI_1 _) (by decide) rfl ?_
              refine g_goto E 49 dX5_edge_142 (by decide) ?_
              refine g_lvs (lv' := [(0, .ref (a 0)), (1, .int axis), (2, .int up), (3, .int ((r 7) / 16)), (4, .int ((r 8) / 16)), (5, .int (nI (k + 1)))]) [4, 5, 6, 7, 8, 0] rfl ?_
              subst hv9_
              exact ih (k + 1) f1 (by omega) (by omega) (fun pc_ lv_ v_ u_ h1_ h2_ h3_ h4_ => RET pc_ lv_ v_ u_ h1_ h2_ (h3_.trans (by rw [r_X5_edge_at49, if_neg c_54, if_neg c_59, if_pos c_73, if_neg c_88, if_pos c_110])) (h4_.trans (by rw [c_X5_edge_s_at49, if_neg c_54, if_neg c_59, if_pos c_73, if_neg c_88, if_pos c_110])))
            · skip
              refine g_aload_n E 3 dX5_edge_113 rfl rfl ?_
              refine g_callVv0 E gc_X5_copies ml_X5_111 (t2_X5_copies d a r f1 Z ) rfl rfl (ci := 5) 0 rfl rfl rfl rfl (ok_le rfl) ⟨ok_le rfl, ok_le rfl, ok_le rfl, ok_le rfl⟩ rfl rfl dX5_edge_114 ?_
              refine g_aload_n E 3 dX5_edge_117 rfl rfl ?_
              refine g_bipush E 61 dX5_edge_118 (by decide) ?_
              refine g_iload E 1 dX5_edge_120 rfl ?_
              refine g_iload E 0 dX5_edge_122 rfl ?_
              refine g_callVv0 E gc_X5_samples ml_X5_89 (t2_X5_samples d a 61 (((r 7) / 16) + (-(nI k))) ((r 8) / 16) r (pr 0 r f1) Z (by omega) hs) rfl rfl (ci := 5) 0 rfl rfl rfl rfl (ok_le rfl) ⟨ok_le rfl, ok_le rfl, ok_le rfl, ok_le rfl⟩ rfl rfl dX5_edge_124 ?_
              obtain ⟨S10_, hS10_⟩ : ∃ z, c_X5_samples_s (((r 7) / 16) + (-(nI k))) ((r 8) / 16) r = z := ⟨_, rfl⟩
              rw [hS10_]
              refine g_aload_n E 3 dX5_edge_127 rfl rfl ?_
              refine g_bipush E 61 dX5_edge_128 (by decide) ?_
              refine g_callVi0 E gc_X5_isTelling ml_X5_46 (t_X5_isTelling d a 61 S10_ (pr 0 r f1) Z (by omega)) rfl rfl (ci := 5) 0 rfl rfl rfl rfl (ok_le rfl) ⟨ok_le rfl, ok_le rfl, ok_le rfl, ok_le rfl⟩ rfl rfl dX5_edge_130 ?_
              refine g_nm (fun v11_ hv11_ => ?_)
              refine g_ifeq E 139 dX5_edge_133 (by decide) (fun c_133 => ?_) (fun c_133 => ?_)
              · skip
                refine g_eq (ws' := MW d a (pr 0 r (pr 61 S10_ f1)) Z) (by rw [pr_swap]) ?_
                refine g_iinc E (j := 8) (v := (nI (k + 1))) (lv' := [(5, .int (nI (k + 1))), (8, .int ((r 8) / 16)), (7, .int (((r 7) / 16) + (-(nI k)))), (6, .int (-(nI k))), (0, .ref (a 0)), (1, .int axis), (2, .int up), (3, .int ((r 7) / 16)), (4, .int ((r 8) / 16))]) dX5_edge_139 rfl (nI_1 _) (by decide) rfl ?_
                refine g_goto E 49 dX5_edge_142 (by decide) ?_
                refine g_lvs (lv' := [(0, .ref (a 0)), (1, .int axis), (2, .int up), (3, .int ((r 7) / 16)), (4, .int ((r 8) / 16)), (5, .int (nI (k + 1)))]) [4, 5, 6, 7, 8, 0] rfl ?_
                subst hv11_
                subst hS10_
                subst hv9_
                exact ih (k + 1) (pr 61 (c_X5_samples_s (((r 7) / 16) + (-(nI k))) ((r 8) / 16) r) f1) (by omega) (by omega) (fun pc_ lv_ v_ u_ h1_ h2_ h3_ h4_ => RET pc_ lv_ v_ u_ h1_ h2_ (h3_.trans (by rw [r_X5_edge_at49, if_neg c_54, if_neg c_59, if_pos c_73, if_neg c_88, if_neg c_110, if_pos c_133])) (h4_.trans (by rw [c_X5_edge_s_at49, if_neg c_54, if_neg c_59, if_pos c_73, if_neg c_88, if_neg c_110, if_pos c_133])))
              · skip
                refine g_eq (ws' := MW d a (pr 0 r (pr 61 S10_ f1)) Z) (by rw [pr_swap]) ?_
                refine g_iload E 8 dX5_edge_136 rfl ?_
                subst hv11_
                subst hS10_
                subst hv9_
                exact RET 138 _ (nI k) _ dX5_edge_138 rfl (by rw [r_X5_edge_at49, if_neg c_54, if_neg c_59, if_pos c_73, if_neg c_88, if_neg c_110, if_neg c_133]) (by rw [c_X5_edge_s_at49, if_neg c_54, if_neg c_59, if_pos c_73, if_neg c_88, if_neg c_110, if_neg c_133])
          · skip
            refine g_iload E 6 dX5_edge_91 rfl ?_
            refine g_iload E 1 dX5_edge_93 rfl ?_
            refine g_iadd E dX5_edge_95 ?_
            refine g_goto E 101 dX5_edge_96 (by decide) ?_
            refine g_istore E (lv' := [(8, .int (((r 8) / 16) + (-(nI k)))), (7, .int (((r 7) / 16) + (-(nI k)))), (6, .int (-(nI k))), (0, .ref (a 0)), (1, .int axis), (2, .int up), (3, .int ((r 7) / 16)), (4, .int ((r 8) / 16)), (5, .int (nI k))]) dX5_edge_101 (by decide) rfl ?_
            refine g_iload E 1 dX5_edge_103 rfl ?_
            refine g_iload E 0 dX5_edge_105 rfl ?_
            refine g_callSp E gc_X5_areRight ml_X5_82 (t_X5_areRight d (((r 7) / 16) + (-(nI k))) (((r 8) / 16) + (-(nI k))) ) rfl rfl rfl (ok_le rfl) ⟨ok_le rfl, ok_le rfl, ok_le rfl, ok_le rfl⟩ rfl rfl dX5_edge_107 ?_
            refine g_nm (fun v12_ hv12_ => ?_)
            refine g_ifeq E 139 dX5_edge_110 (by decide) (fun c_110 => ?_) (fun c_110 => ?_)
            · skip
              refine g_iinc E (j := 8) (v := (nI (k + 1))) (lv' := [(5, .int (nI (k + 1))), (8, .int (((r 8) / 16) + (-(nI k)))), (7, .int (((r 7) / 16) + (-(nI k)))), (6, .int (-(nI k))), (0, .ref (a 0)), (1, .int axis), (2, .int up), (3, .int ((r 7) / 16)), (4, .int ((r 8) / 16))]) dX5_edge_139 rfl (nI_1 _) (by decide) rfl ?_
              refine g_goto E 49 dX5_edge_142 (by decide) ?_
              refine g_lvs (lv' := [(0, .ref (a 0)), (1, .int axis), (2, .int up), (3, .int ((r 7) / 16)), (4, .int ((r 8) / 16)), (5, .int (nI (k + 1)))]) [4, 5, 6, 7, 8, 0] rfl ?_
              subst hv12_
              exact ih (k + 1) f1 (by omega) (by omega) (fun pc_ lv_ v_ u_ h1_ h2_ h3_ h4_ => RET pc_ lv_ v_ u_ h1_ h2_ (h3_.trans (by rw [r_X5_edge_at49, if_neg c_54, if_neg c_59, if_pos c_73, if_pos c_88, if_pos c_110])) (h4_.trans (by rw [c_X5_edge_s_at49, if_neg c_54, if_neg c_59, if_pos c_73, if_pos c_88, if_pos c_110])))
            · skip
              refine g_aload_n E 3 dX5_edge_113 rfl rfl ?_
              refine g_callVv0 E gc_X5_copies ml_X5_111 (t2_X5_copies d a r f1 Z ) rfl rfl (ci := 5) 0 rfl rfl rfl rfl (ok_le rfl) ⟨ok_le rfl, ok_le rfl, ok_le rfl, ok_le rfl⟩ rfl rfl dX5_edge_114 ?_
              refine g_aload_n E 3 dX5_edge_117 rfl rfl ?_
              refine g_bipush E 61 dX5_edge_118 (by decide) ?_
              refine g_iload E 1 dX5_edge_120 rfl ?_
              refine g_iload E 0 dX5_edge_122 rfl ?_
              refine g_callVv0 E gc_X5_samples ml_X5_89 (t2_X5_samples d a 61 (((r 7) / 16) + (-(nI k))) (((r 8) / 16) + (-(nI k))) r (pr 0 r f1) Z (by omega) hs) rfl rfl (ci := 5) 0 rfl rfl rfl rfl (ok_le rfl) ⟨ok_le rfl, ok_le rfl, ok_le rfl, ok_le rfl⟩ rfl rfl dX5_edge_124 ?_
              obtain ⟨S13_, hS13_⟩ : ∃ z, c_X5_samples_s (((r 7) / 16) + (-(nI k))) (((r 8) / 16) + (-(nI k))) r = z := ⟨_, rfl⟩
              rw [hS13_]
              refine g_aload_n E 3 dX5_edge_127 rfl rfl ?_
              refine g_bipush E 61 dX5_edge_128 (by decide) ?_
              refine g_callVi0 E gc_X5_isTelling ml_X5_46 (t_X5_isTelling d a 61 S13_ (pr 0 r f1) Z (by omega)) rfl rfl (ci := 5) 0 rfl rfl rfl rfl (ok_le rfl) ⟨ok_le rfl, ok_le rfl, ok_le rfl, ok_le rfl⟩ rfl rfl dX5_edge_130 ?_
              refine g_nm (fun v14_ hv14_ => ?_)
              refine g_ifeq E 139 dX5_edge_133 (by decide) (fun c_133 => ?_) (fun c_133 => ?_)
              · skip
                refine g_eq (ws' := MW d a (pr 0 r (pr 61 S13_ f1)) Z) (by rw [pr_swap]) ?_
                refine g_iinc E (j := 8) (v := (nI (k + 1))) (lv' := [(5, .int (nI (k + 1))), (8, .int (((r 8) / 16) + (-(nI k)))), (7, .int (((r 7) / 16) + (-(nI k)))), (6, .int (-(nI k))), (0, .ref (a 0)), (1, .int axis), (2, .int up), (3, .int ((r 7) / 16)), (4, .int ((r 8) / 16))]) dX5_edge_139 rfl (nI_1 _) (by decide) rfl ?_
                refine g_goto E 49 dX5_edge_142 (by decide) ?_
                refine g_lvs (lv' := [(0, .ref (a 0)), (1, .int axis), (2, .int up), (3, .int ((r 7) / 16)), (4, .int ((r 8) / 16)), (5, .int (nI (k + 1)))]) [4, 5, 6, 7, 8, 0] rfl ?_
                subst hv14_
                subst hS13_
                subst hv12_
                exact ih (k + 1) (pr 61 (c_X5_samples_s (((r 7) / 16) + (-(nI k))) (((r 8) / 16) + (-(nI k))) r) f1) (by omega) (by omega) (fun pc_ lv_ v_ u_ h1_ h2_ h3_ h4_ => RET pc_ lv_ v_ u_ h1_ h2_ (h3_.trans (by rw [r_X5_edge_at49, if_neg c_54, if_neg c_59, if_pos c_73, if_pos c_88, if_neg c_110, if_pos c_133])) (h4_.trans (by rw [c_X5_edge_s_at49, if_neg c_54, if_neg c_59, if_pos c_73, if_pos c_88, if_neg c_110, if_pos c_133])))
              · skip
                refine g_eq (ws' := MW d a (pr 0 r (pr 61 S13_ f1)) Z) (by rw [pr_swap]) ?_
                refine g_iload E 8 dX5_edge_136 rfl ?_
                subst hv14_
                subst hS13_
                subst hv12_
                exact RET 138 _ (nI k) _ dX5_edge_138 rfl (by rw [r_X5_edge_at49, if_neg c_54, if_neg c_59, if_pos c_73, if_pos c_88, if_neg c_110, if_neg c_133]) (by rw [c_X5_edge_s_at49, if_neg c_54, if_neg c_59, if_pos c_73, if_pos c_88, if_neg c_110, if_neg c_133])
      · skip
        refine g_iload E 5 dX5_edge_62 rfl ?_
        refine g_goto E 70 dX5_edge_64 (by decide) ?_
        refine g_istore E (lv' := [(6, .int (nI k)), (0, .ref (a 0)), (1, .int axis), (2, .int up), (3, .int ((r 7) / 16)), (4, .int ((r 8) / 16)), (5, .int (nI k))]) dX5_edge_70 (by decide) rfl ?_
        refine g_iload_n E 2 dX5_edge_72 rfl rfl ?_
        refine g_ifne E 83 dX5_edge_73 (by decide) (fun c_73 => ?_) (fun c_73 => ?_)
        · skip
          refine g_iload_n E 4 dX5_edge_83 rfl rfl ?_
          refine g_istore E (lv' := [(7, .int ((r 7) / 16)), (6, .int (nI k)), (0, .ref (a 0)), (1, .int axis), (2, .int up), (3, .int ((r 7) / 16)), (4, .int ((r 8) / 16)), (5, .int (nI k))]) dX5_edge_84 (by decide) rfl ?_
          refine g_iload_n E 3 dX5_edge_86 rfl rfl ?_
          refine g_iconst E 1 dX5_edge_87 (by decide) ?_
          refine g_icmpne E 99 dX5_edge_88 (by decide) (fun c_88 => ?_) (fun c_88 => ?_)
          · skip
            refine g_iload E 6 dX5_edge_99 rfl ?_
            refine g_istore E (lv' := [(8, .int ((r 8) / 16)), (7, .int ((r 7) / 16)), (6, .int (nI k)), (0, .ref (a 0)), (1, .int axis), (2, .int up), (3, .int ((r 7) / 16)), (4, .int ((r 8) / 16)), (5, .int (nI k))]) dX5_edge_101 (by decide) rfl ?_
            refine g_iload E 1 dX5_edge_103 rfl ?_
            refine g_iload E 0 dX5_edge_105 rfl ?_
            refine g_callSp E gc_X5_areRight ml_X5_82 (t_X5_areRight d ((r 7) / 16) ((r 8) / 16) ) rfl rfl rfl (ok_le rfl) ⟨ok_le rfl, ok_le rfl, ok_le rfl, ok_le rfl⟩ rfl rfl dX5_edge_107 ?_
            refine g_nm (fun v15_ hv15_ => ?_)
            refine g_ifeq E 139 dX5_edge_110 (by decide) (fun c_110 => ?_) (fun c_110 => ?_)
            · skip
              refine g_iinc E (j := 8) (v := (nI (k + 1))) (lv' := [(5, .int (nI (k + 1))), (8, .int ((r 8) / 16)), (7, .int ((r 7) / 16)), (6, .int (nI k)), (0, .ref (a 0)), (1, .int axis), (2, .int up), (3, .int ((r 7) / 16)), (4, .int ((r 8) / 16))]) dX5_edge_139 rfl (nI_1 _) (by decide) rfl ?_
              refine g_goto E 49 dX5_edge_142 (by decide) ?_
              refine g_lvs (lv' := [(0, .ref (a 0)), (1, .int axis), (2, .int up), (3, .int ((r 7) / 16)), (4, .int ((r 8) / 16)), (5, .int (nI (k + 1)))]) [4, 5, 6, 7, 8, 0] rfl ?_
              subst hv15_
              exact ih (k + 1) f1 (by omega) (by omega) (fun pc_ lv_ v_ u_ h1_ h2_ h3_ h4_ => RET pc_ lv_ v_ u_ h1_ h2_ (h3_.trans (by rw [r_X5_edge_at49, if_neg c_54, if_pos c_59, if_neg c_73, if_neg c_88, if_pos c_110])) (h4_.trans (by rw [c_X5_edge_s_at49, if_neg c_54, if_pos c_59, if_neg c_73, if_neg c_88, if_pos c_110])))
            · skip
              refine g_aload_n E 3 dX5_edge_113 rfl rfl ?_
              refine g_callVv0 E gc_X5_copies ml_X5_111 (t2_X5_copies d a r f1 Z ) rfl rfl (ci := 5) 0 rfl rfl rfl rfl (ok_le rfl) ⟨ok_le rfl, ok_le rfl, ok_le rfl, ok_le rfl⟩ rfl rfl dX5_edge_114 ?_
              refine g_aload_n E 3 dX5_edge_117 rfl rfl ?_
              refine g_bipush E 61 dX5_edge_118 (by decide) ?_
              refine g_iload E 1 dX5_edge_120 rfl ?_
              refine g_iload E 0 dX5_edge_122 rfl ?_
              refine g_callVv0 E gc_X5_samples ml_X5_89 (t2_X5_samples d a 61 ((r 7) / 16) ((r 8) / 16) r (pr 0 r f1) Z (by omega) hs) rfl rfl (ci := 5) 0 rfl rfl rfl rfl (ok_le rfl) ⟨ok_le rfl, ok_le rfl, ok_le rfl, ok_le rfl⟩ rfl rfl dX5_edge_124 ?_
              obtain ⟨S16_, hS16_⟩ : ∃ z, c_X5_samples_s ((r 7) / 16) ((r 8) / 16) r = z := ⟨_, rfl⟩
              rw [hS16_]
              refine g_aload_n E 3 dX5_edge_127 rfl rfl ?_
              refine g_bipush E 61 dX5_edge_128 (by decide) ?_
              refine g_callVi0 E gc_X5_isTelling ml_X5_46 (t_X5_isTelling d a 61 S16_ (pr 0 r f1) Z (by omega)) rfl rfl (ci := 5) 0 rfl rfl rfl rfl (ok_le rfl) ⟨ok_le rfl, ok_le rfl, ok_le rfl, ok_le rfl⟩ rfl rfl dX5_edge_130 ?_
              refine g_nm (fun v17_ hv17_ => ?_)
              refine g_ifeq E 139 dX5_edge_133 (by decide) (fun c_133 => ?_) (fun c_133 => ?_)
              · skip
                refine g_eq (ws' := MW d a (pr 0 r (pr 61 S16_ f1)) Z) (by rw [pr_swap]) ?_
                refine g_iinc E (j := 8) (v := (nI (k + 1))) (lv' := [(5, .int (nI (k + 1))), (8, .int ((r 8) / 16)), (7, .int ((r 7) / 16)), (6, .int (nI k)), (0, .ref (a 0)), (1, .int axis), (2, .int up), (3, .int ((r 7) / 16)), (4, .int ((r 8) / 16))]) dX5_edge_139 rfl (nI_1 _) (by decide) rfl ?_
                refine g_goto E 49 dX5_edge_142 (by decide) ?_
                refine g_lvs (lv' := [(0, .ref (a 0)), (1, .int axis), (2, .int up), (3, .int ((r 7) / 16)), (4, .int ((r 8) / 16)), (5, .int (nI (k + 1)))]) [4, 5, 6, 7, 8, 0] rfl ?_
                subst hv17_
                subst hS16_
                subst hv15_
                exact ih (k + 1) (pr 61 (c_X5_samples_s ((r 7) / 16) ((r 8) / 16) r) f1) (by omega) (by omega) (fun pc_ lv_ v_ u_ h1_ h2_ h3_ h4_ => RET pc_ lv_ v_ u_ h1_ h2_ (h3_.trans (by rw [r_X5_edge_at49, if_neg c_54, if_pos c_59, if_neg c_73, if_neg c_88, if_neg c_110, if_pos c_133])) (h4_.trans (by rw [c_X5_edge_s_at49, if_neg c_54, if_pos c_59, if_neg c_73, if_neg c_88, if_neg c_110, if_pos c_133])))
              · skip
                refine g_eq (ws' := MW d a (pr 0 r (pr 61 S16_ f1)) Z) (by rw [pr_swap]) ?_
                refine g_iload E 8 dX5_edge_136 rfl ?_
                subst hv17_
                subst hS16_
                subst hv15_
                exact RET 138 _ (nI k) _ dX5_edge_138 rfl (by rw [r_X5_edge_at49, if_neg c_54, if_pos c_59, if_neg c_73, if_neg c_88, if_neg c_110, if_neg c_133]) (by rw [c_X5_edge_s_at49, if_neg c_54, if_pos c_59, if_neg c_73, if_neg c_88, if_neg c_110, if_neg c_133])
          · skip
            refine g_iload E 6 dX5_edge_91 rfl ?_
            refine g_iload E 1 dX5_edge_93 rfl ?_
            refine g_iadd E dX5_edge_95 ?_
            refine g_goto E 101 dX5_edge_96 (by decide) ?_
            refine g_istore E (lv' := [(8, .int (((r 8) / 16) + (nI k))), (7, .int ((r 7) / 16)), (6, .int (nI k)), (0, .ref (a 0)), (1, .int axis), (2, .int up), (3, .int ((r 7) / 16)), (4, .int ((r 8) / 16)), (5, .int (nI k))]) dX5_edge_101 (by decide) rfl ?_
            refine g_iload E 1 dX5_edge_103 rfl ?_
            refine g_iload E 0 dX5_edge_105 rfl ?_
            refine g_callSp E gc_X5_areRight ml_X5_82 (t_X5_areRight d ((r 7) / 16) (((r 8) / 16) + (nI k)) ) rfl rfl rfl (ok_le rfl) ⟨ok_le rfl, ok_le rfl, ok_le rfl, ok_le rfl⟩ rfl rfl dX5_edge_107 ?_
            refine g_nm (fun v18_ hv18_ => ?_)
            refine g_ifeq E 139 dX5_edge_110 (by decide) (fun c_110 => ?_) (fun c_110 => ?_)
            · skip
              refine g_iinc E (j := 8) (v := (nI (k + 1))) (lv' := [(5, .int (nI (k + 1))), (8, .int (((r 8) / 16) + (nI k))), (7, .int ((r 7) / 16)), (6, .int (nI k)), (0, .ref (a 0)), (1, .int axis), (2, .int up), (3, .int ((r 7) / 16)), (4, .int ((r 8) / 16))]) dX5_edge_139 rfl (nI_1 _) (by decide) rfl ?_
              refine g_goto E 49 dX5_edge_142 (by decide) ?_
              refine g_lvs (lv' := [(0, .ref (a 0)), (1, .int axis), (2, .int up), (3, .int ((r 7) / 16)), (4, .int ((r 8) / 16)), (5, .int (nI (k + 1)))]) [4, 5, 6, 7, 8, 0] rfl ?_
              subst hv18_
              exact ih (k + 1) f1 (by omega) (by omega) (fun pc_ lv_ v_ u_ h1_ h2_ h3_ h4_ => RET pc_ lv_ v_ u_ h1_ h2_ (h3_.trans (by rw [r_X5_edge_at49, if_neg c_54, if_pos c_59, if_neg c_73, if_pos c_88, if_pos c_110])) (h4_.trans (by rw [c_X5_edge_s_at49, if_neg c_54, if_pos c_59, if_neg c_73, if_pos c_88, if_pos c_110])))
            · skip
              refine g_aload_n E 3 dX5_edge_113 rfl rfl ?_
              refine g_callVv0 E gc_X5_copies ml_X5_111 (t2_X5_copies d a r f1 Z ) rfl rfl (ci := 5) 0 rfl rfl rfl rfl (ok_le rfl) ⟨ok_le rfl, ok_le rfl, ok_le rfl, ok_le rfl⟩ rfl rfl dX5_edge_114 ?_
              refine g_aload_n E 3 dX5_edge_117 rfl rfl ?_
              refine g_bipush E 61 dX5_edge_118 (by decide) ?_
              refine g_iload E 1 dX5_edge_120 rfl ?_
              refine g_iload E 0 dX5_edge_122 rfl ?_
              refine g_callVv0 E gc_X5_samples ml_X5_89 (t2_X5_samples d a 61 ((r 7) / 16) (((r 8) / 16) + (nI k)) r (pr 0 r f1) Z (by omega) hs) rfl rfl (ci := 5) 0 rfl rfl rfl rfl (ok_le rfl) ⟨ok_le rfl, ok_le rfl, ok_le rfl, ok_le rfl⟩ rfl rfl dX5_edge_124 ?_
              obtain ⟨S19_, hS19_⟩ : ∃ z, c_X5_samples_s ((r 7) / 16) (((r 8) / 16) + (nI k)) r = z := ⟨_, rfl⟩
              rw [hS19_]
              refine g_aload_n E 3 dX5_edge_127 rfl rfl ?_
              refine g_bipush E 61 dX5_edge_128 (by decide) ?_
              refine g_callVi0 E gc_X5_isTelling ml_X5_46 (t_X5_isTelling d a 61 S19_ (pr 0 r f1) Z (by omega)) rfl rfl (ci := 5) 0 rfl rfl rfl rfl (ok_le rfl) ⟨ok_le rfl, ok_le rfl, ok_le rfl, ok_le rfl⟩ rfl rfl dX5_edge_130 ?_
              refine g_nm (fun v20_ hv20_ => ?_)
              refine g_ifeq E 139 dX5_edge_133 (by decide) (fun c_133 => ?_) (fun c_133 => ?_)
              · skip
                refine g_eq (ws' := MW d a (pr 0 r (pr 61 S19_ f1)) Z) (by rw [pr_swap]) ?_
                refine g_iinc E (j := 8) (v := (nI (k + 1))) (lv' := [(5, .int (nI (k + 1))), (8, .int (((r 8) / 16) + (nI k))), (7, .int ((r 7) / 16)), (6, .int (nI k)), (0, .ref (a 0)), (1, .int axis), (2, .int up), (3, .int ((r 7) / 16)), (4, .int ((r 8) / 16))]) dX5_edge_139 rfl (nI_1 _) (by decide) rfl ?_
                refine g_goto E 49 dX5_edge_142 (by decide) ?_
                refine g_lvs (lv' := [(0, .ref (a 0)), (1, .int axis), (2, .int up), (3, .int ((r 7) / 16)), (4, .int ((r 8) / 16)), (5, .int (nI (k + 1)))]) [4, 5, 6, 7, 8, 0] rfl ?_
                subst hv20_
                subst hS19_
                subst hv18_
                exact ih (k + 1) (pr 61 (c_X5_samples_s ((r 7) / 16) (((r 8) / 16) + (nI k)) r) f1) (by omega) (by omega) (fun pc_ lv_ v_ u_ h1_ h2_ h3_ h4_ => RET pc_ lv_ v_ u_ h1_ h2_ (h3_.trans (by rw [r_X5_edge_at49, if_neg c_54, if_pos c_59, if_neg c_73, if_pos c_88, if_neg c_110, if_pos c_133])) (h4_.trans (by rw [c_X5_edge_s_at49, if_neg c_54, if_pos c_59, if_neg c_73, if_pos c_88, if_neg c_110, if_pos c_133])))
              · skip
                refine g_eq (ws' := MW d a (pr 0 r (pr 61 S19_ f1)) Z) (by rw [pr_swap]) ?_
                refine g_iload E 8 dX5_edge_136 rfl ?_
                subst hv20_
                subst hS19_
                subst hv18_
                exact RET 138 _ (nI k) _ dX5_edge_138 rfl (by rw [r_X5_edge_at49, if_neg c_54, if_pos c_59, if_neg c_73, if_pos c_88, if_neg c_110, if_neg c_133]) (by rw [c_X5_edge_s_at49, if_neg c_54, if_pos c_59, if_neg c_73, if_pos c_88, if_neg c_110, if_neg c_133])
        · skip
          refine g_iload_n E 4 dX5_edge_76 rfl rfl ?_
          refine g_iload E 0 dX5_edge_77 rfl ?_
          refine g_iadd E dX5_edge_79 ?_
          refine g_goto E 84 dX5_edge_80 (by decide) ?_
          refine g_istore E (lv' := [(7, .int (((r 7) / 16) + (nI k))), (6, .int (nI k)), (0, .ref (a 0)), (1, .int axis), (2, .int up), (3, .int ((r 7) / 16)), (4, .int ((r 8) / 16)), (5, .int (nI k))]) dX5_edge_84 (by decide) rfl ?_
          refine g_iload_n E 3 dX5_edge_86 rfl rfl ?_
          refine g_iconst E 1 dX5_edge_87 (by decide) ?_
          refine g_icmpne E 99 dX5_edge_88 (by decide) (fun c_88 => ?_) (fun c_88 => ?_)
          · skip
            refine g_iload E 6 dX5_edge_99 rfl ?_
            refine g_istore E (lv' := [(8, .int ((r 8) / 16)), (7, .int (((r 7) / 16) + (nI k))), (6, .int (nI k)), (0, .ref (a 0)), (1, .int axis), (2, .int up), (3, .int ((r 7) / 16)), (4, .int ((r 8) / 16)), (5, .int (nI k))]) dX5_edge_101 (by decide) rfl ?_
            refine g_iload E 1 dX5_edge_103 rfl ?_
            refine g_iload E 0 dX5_edge_105 rfl ?_
            refine g_callSp E gc_X5_areRight ml_X5_82 (t_X5_areRight d (((r 7) / 16) + (nI k)) ((r 8) / 16) ) rfl rfl rfl (ok_le rfl) ⟨ok_le rfl, ok_le rfl, ok_le rfl, ok_le rfl⟩ rfl rfl dX5_edge_107 ?_
            refine g_nm (fun v21_ hv21_ => ?_)
            refine g_ifeq E 139 dX5_edge_110 (by decide) (fun c_110 => ?_) (fun c_110 => ?_)
            · skip
              refine g_iinc E (j := 8) (v := (nI (k + 1))) (lv' := [(5, .int (nI (k + 1))), (8, .int ((r 8) / 16)), (7, .int (((r 7) / 16) + (nI k))), (6, .int (nI k)), (0, .ref (a 0)), (1, .int axis), (2, .int up), (3, .int ((r 7) / 16)), (4, .int ((r 8) / 16))]) dX5_edge_139 rfl (nI_1 _) (by decide) rfl ?_
              refine g_goto E 49 dX5_edge_142 (by decide) ?_
              refine g_lvs (lv' := [(0, .ref (a 0)), (1, .int axis), (2, .int up), (3, .int ((r 7) / 16)), (4, .int ((r 8) / 16)), (5, .int (nI (k + 1)))]) [4, 5, 6, 7, 8, 0] rfl ?_
              subst hv21_
              exact ih (k + 1) f1 (by omega) (by omega) (fun pc_ lv_ v_ u_ h1_ h2_ h3_ h4_ => RET pc_ lv_ v_ u_ h1_ h2_ (h3_.trans (by rw [r_X5_edge_at49, if_neg c_54, if_pos c_59, if_pos c_73, if_neg c_88, if_pos c_110])) (h4_.trans (by rw [c_X5_edge_s_at49, if_neg c_54, if_pos c_59, if_pos c_73, if_neg c_88, if_pos c_110])))
            · skip
              refine g_aload_n E 3 dX5_edge_113 rfl rfl ?_
              refine g_callVv0 E gc_X5_copies ml_X5_111 (t2_X5_copies d a r f1 Z ) rfl rfl (ci := 5) 0 rfl rfl rfl rfl (ok_le rfl) ⟨ok_le rfl, ok_le rfl, ok_le rfl, ok_le rfl⟩ rfl rfl dX5_edge_114 ?_
              refine g_aload_n E 3 dX5_edge_117 rfl rfl ?_
              refine g_bipush E 61 dX5_edge_118 (by decide) ?_
              refine g_iload E 1 dX5_edge_120 rfl ?_
              refine g_iload E 0 dX5_edge_122 rfl ?_
              refine g_callVv0 E gc_X5_samples ml_X5_89 (t2_X5_samples d a 61 (((r 7) / 16) + (nI k)) ((r 8) / 16) r (pr 0 r f1) Z (by omega) hs) rfl rfl (ci := 5) 0 rfl rfl rfl rfl (ok_le rfl) ⟨ok_le rfl, ok_le rfl, ok_le rfl, ok_le rfl⟩ rfl rfl dX5_edge_124 ?_
              obtain ⟨S22_, hS22_⟩ : ∃ z, c_X5_samples_s (((r 7) / 16) + (nI k)) ((r 8) / 16) r = z := ⟨_, rfl⟩
              rw [hS22_]
              refine g_aload_n E 3 dX5_edge_127 rfl rfl ?_
              refine g_bipush E 61 dX5_edge_128 (by decide) ?_
              refine g_callVi0 E gc_X5_isTelling ml_X5_46 (t_X5_isTelling d a 61 S22_ (pr 0 r f1) Z (by omega)) rfl rfl (ci := 5) 0 rfl rfl rfl rfl (ok_le rfl) ⟨ok_le rfl, ok_le rfl, ok_le rfl, ok_le rfl⟩ rfl rfl dX5_edge_130 ?_
              refine g_nm (fun v23_ hv23_ => ?_)
              refine g_ifeq E 139 dX5_edge_133 (by decide) (fun c_133 => ?_) (fun c_133 => ?_)
              · skip
                refine g_eq (ws' := MW d a (pr 0 r (pr 61 S22_ f1)) Z) (by rw [pr_swap]) ?_
                refine g_iinc E (j := 8) (v := (nI (k + 1))) (lv' := [(5, .int (nI (k + 1))), (8, .int ((r 8) / 16)), (7, .int (((r 7) / 16) + (nI k))), (6, .int (nI k)), (0, .ref (a 0)), (1, .int axis), (2, .int up), (3, .int ((r 7) / 16)), (4, .int ((r 8) / 16))]) dX5_edge_139 rfl (nI_1 _) (by decide) rfl ?_
                refine g_goto E 49 dX5_edge_142 (by decide) ?_
                refine g_lvs (lv' := [(0, .ref (a 0)), (1, .int axis), (2, .int up), (3, .int ((r 7) / 16)), (4, .int ((r 8) / 16)), (5, .int (nI (k + 1)))]) [4, 5, 6, 7, 8, 0] rfl ?_
                subst hv23_
                subst hS22_
                subst hv21_
                exact ih (k + 1) (pr 61 (c_X5_samples_s (((r 7) / 16) + (nI k)) ((r 8) / 16) r) f1) (by omega) (by omega) (fun pc_ lv_ v_ u_ h1_ h2_ h3_ h4_ => RET pc_ lv_ v_ u_ h1_ h2_ (h3_.trans (by rw [r_X5_edge_at49, if_neg c_54, if_pos c_59, if_pos c_73, if_neg c_88, if_neg c_110, if_pos c_133])) (h4_.trans (by rw [c_X5_edge_s_at49, if_neg c_54, if_pos c_59, if_pos c_73, if_neg c_88, if_neg c_110, if_pos c_133])))
              · skip
                refine g_eq (ws' := MW d a (pr 0 r (pr 61 S22_ f1)) Z) (by rw [pr_swap]) ?_
                refine g_iload E 8 dX5_edge_136 rfl ?_
                subst hv23_
                subst hS22_
                subst hv21_
                exact RET 138 _ (nI k) _ dX5_edge_138 rfl (by rw [r_X5_edge_at49, if_neg c_54, if_pos c_59, if_pos c_73, if_neg c_88, if_neg c_110, if_neg c_133]) (by rw [c_X5_edge_s_at49, if_neg c_54, if_pos c_59, if_pos c_73, if_neg c_88, if_neg c_110, if_neg c_133])
          · skip
            refine g_iload E 6 dX5_edge_91 rfl ?_
            refine g_iload E 1 dX5_edge_93 rfl ?_
            refine g_iadd E dX5_edge_95 ?_
            refine g_goto E 101 dX5_edge_96 (by decide) ?_
            refine g_istore E (lv' := [(8, .int (((r 8) / 16) + (nI k))), (7, .int (((r 7) / 16) + (nI k))), (6, .int (nI k)), (0, .ref (a 0)), (1, .int axis), (2, .int up), (3, .int ((r 7) / 16)), (4, .int ((r 8) / 16)), (5, .int (nI k))]) dX5_edge_101 (by decide) rfl ?_
            refine g_iload E 1 dX5_edge_103 rfl ?_
            refine g_iload E 0 dX5_edge_105 rfl ?_
            refine g_callSp E gc_X5_areRight ml_X5_82 (t_X5_areRight d (((r 7) / 16) + (nI k)) (((r 8) / 16) + (nI k)) ) rfl rfl rfl (ok_le rfl) ⟨ok_le rfl, ok_le rfl, ok_le rfl, ok_le rfl⟩ rfl rfl dX5_edge_107 ?_
            refine g_nm (fun v24_ hv24_ => ?_)
            refine g_ifeq E 139 dX5_edge_110 (by decide) (fun c_110 => ?_) (fun c_110 => ?_)
            · skip
              refine g_iinc E (j := 8) (v := (nI (k + 1))) (lv' := [(5, .int (nI (k + 1))), (8, .int (((r 8) / 16) + (nI k))), (7, .int (((r 7) / 16) + (nI k))), (6, .int (nI k)), (0, .ref (a 0)), (1, .int axis), (2, .int up), (3, .int ((r 7) / 16)), (4, .int ((r 8) / 16))]) dX5_edge_139 rfl (nI_1 _) (by decide) rfl ?_
              refine g_goto E 49 dX5_edge_142 (by decide) ?_
              refine g_lvs (lv' := [(0, .ref (a 0)), (1, .int axis), (2, .int up), (3, .int ((r 7) / 16)), (4, .int ((r 8) / 16)), (5, .int (nI (k + 1)))]) [4, 5, 6, 7, 8, 0] rfl ?_
              subst hv24_
              exact ih (k + 1) f1 (by omega) (by omega) (fun pc_ lv_ v_ u_ h1_ h2_ h3_ h4_ => RET pc_ lv_ v_ u_ h1_ h2_ (h3_.trans (by rw [r_X5_edge_at49, if_neg c_54, if_pos c_59, if_pos c_73, if_pos c_88, if_pos c_110])) (h4_.trans (by rw [c_X5_edge_s_at49, if_neg c_54, if_pos c_59, if_pos c_73, if_pos c_88, if_pos c_110])))
            · skip
              refine g_aload_n E 3 dX5_edge_113 rfl rfl ?_
              refine g_callVv0 E gc_X5_copies ml_X5_111 (t2_X5_copies d a r f1 Z ) rfl rfl (ci := 5) 0 rfl rfl rfl rfl (ok_le rfl) ⟨ok_le rfl, ok_le rfl, ok_le rfl, ok_le rfl⟩ rfl rfl dX5_edge_114 ?_
              refine g_aload_n E 3 dX5_edge_117 rfl rfl ?_
              refine g_bipush E 61 dX5_edge_118 (by decide) ?_
              refine g_iload E 1 dX5_edge_120 rfl ?_
              refine g_iload E 0 dX5_edge_122 rfl ?_
              refine g_callVv0 E gc_X5_samples ml_X5_89 (t2_X5_samples d a 61 (((r 7) / 16) + (nI k)) (((r 8) / 16) + (nI k)) r (pr 0 r f1) Z (by omega) hs) rfl rfl (ci := 5) 0 rfl rfl rfl rfl (ok_le rfl) ⟨ok_le rfl, ok_le rfl, ok_le rfl, ok_le rfl⟩ rfl rfl dX5_edge_124 ?_
              obtain ⟨S25_, hS25_⟩ : ∃ z, c_X5_samples_s (((r 7) / 16) + (nI k)) (((r 8) / 16) + (nI k)) r = z := ⟨_, rfl⟩
              rw [hS25_]
              refine g_aload_n E 3 dX5_edge_127 rfl rfl ?_
              refine g_bipush E 61 dX5_edge_128 (by decide) ?_
              refine g_callVi0 E gc_X5_isTelling ml_X5_46 (t_X5_isTelling d a 61 S25_ (pr 0 r f1) Z (by omega)) rfl rfl (ci := 5) 0 rfl rfl rfl rfl (ok_le rfl) ⟨ok_le rfl, ok_le rfl, ok_le rfl, ok_le rfl⟩ rfl rfl dX5_edge_130 ?_
              refine g_nm (fun v26_ hv26_ => ?_)
              refine g_ifeq E 139 dX5_edge_133 (by decide) (fun c_133 => ?_) (fun c_133 => ?_)
              · skip
                refine g_eq (ws' := MW d a (pr 0 r (pr 61 S25_ f1)) Z) (by rw [pr_swap]) ?_
                refine g_iinc E (j := 8) (v := (nI (k + 1))) (lv' := [(5, .int (nI (k + 1))), (8, .int (((r 8) / 16) + (nI k))), (7, .int (((r 7) / 16) + (nI k))), (6, .int (nI k)), (0, .ref (a 0)), (1, .int axis), (2, .int up), (3, .int ((r 7) / 16)), (4, .int ((r 8) / 16))]) dX5_edge_139 rfl (nI_1 _) (by decide) rfl ?_
                refine g_goto E 49 dX5_edge_142 (by decide) ?_
                refine g_lvs (lv' := [(0, .ref (a 0)), (1, .int axis), (2, .int up), (3, .int ((r 7) / 16)), (4, .int ((r 8) / 16)), (5, .int (nI (k + 1)))]) [4, 5, 6, 7, 8, 0] rfl ?_
                subst hv26_
                subst hS25_
                subst hv24_
                exact ih (k + 1) (pr 61 (c_X5_samples_s (((r 7) / 16) + (nI k)) (((r 8) / 16) + (nI k)) r) f1) (by omega) (by omega) (fun pc_ lv_ v_ u_ h1_ h2_ h3_ h4_ => RET pc_ lv_ v_ u_ h1_ h2_ (h3_.trans (by rw [r_X5_edge_at49, if_neg c_54, if_pos c_59, if_pos c_73, if_pos c_88, if_neg c_110, if_pos c_133])) (h4_.trans (by rw [c_X5_edge_s_at49, if_neg c_54, if_pos c_59, if_pos c_73, if_pos c_88, if_neg c_110, if_pos c_133])))
              · skip
                refine g_eq (ws' := MW d a (pr 0 r (pr 61 S25_ f1)) Z) (by rw [pr_swap]) ?_
                refine g_iload E 8 dX5_edge_136 rfl ?_
                subst hv26_
                subst hS25_
                subst hv24_
                exact RET 138 _ (nI k) _ dX5_edge_138 rfl (by rw [r_X5_edge_at49, if_neg c_54, if_pos c_59, if_pos c_73, if_pos c_88, if_neg c_110, if_neg c_133]) (by rw [c_X5_edge_s_at49, if_neg c_54, if_pos c_59, if_pos c_73, if_pos c_88, if_neg c_110, if_neg c_133])
set_option maxHeartbeats 1000000 in
set_option maxRecDepth 100000 in
theorem s_X5_edge_0 (d : gD) (a : Nat → Nat) (axis : Int32) (up : Int32) (r : Nat → Int32) (f : Nat → Int32) (Z : MR) (hs : SH r)  {X : gX} (E : gE d X RX5 cX5_edge 9 R_X5_edge) (RET : ∀ (pc_ : Nat) (lv_ : List (Nat × Value)) (v_ : Int32) (u_ : va_W), decode cX5_edge pc_ = .ok (.ireturn, 1) → narrow .int (.int v_) = .int v_ → v_ = r_X5_edge axis up r f → u_ = MW d a (pr 0 r (c_X5_edge_s axis up r f)) Z → G d X u_ R_X5_edge.cells R_X5_edge.slots pc_ lv_ [.int v_]) : G d X (MW d a (pr 0 r f) Z) 0 0 0 [(0, .ref (a 0)), (1, .int axis), (2, .int up)] [] := by
  refine g_iload_n E 1 dX5_edge_0 rfl rfl ?_
  refine g_iconst E 0 dX5_edge_1 (by decide) ?_
  refine g_iconst E 1 dX5_edge_2 (by decide) ?_
  refine g_callSp E gc_X5_in ml_X5_26 (t_X5_in d axis 0 1 ) rfl rfl rfl (ok_le rfl) ⟨ok_le rfl, ok_le rfl, ok_le rfl, ok_le rfl⟩ rfl rfl dX5_edge_3 ?_
  refine g_nm (fun v1_ hv1_ => ?_)
  refine g_ifne E 11 dX5_edge_6 (by decide) (fun c_6 => ?_) (fun c_6 => ?_)
  · skip
    refine g_iload_n E 2 dX5_edge_11 rfl rfl ?_
    refine g_iconst E 0 dX5_edge_12 (by decide) ?_
    refine g_iconst E 1 dX5_edge_13 (by decide) ?_
    refine g_callSp E gc_X5_in ml_X5_26 (t_X5_in d up 0 1 ) rfl rfl rfl (ok_le rfl) ⟨ok_le rfl, ok_le rfl, ok_le rfl, ok_le rfl⟩ rfl rfl dX5_edge_14 ?_
    refine g_nm (fun v2_ hv2_ => ?_)
    refine g_ifne E 23 dX5_edge_17 (by decide) (fun c_17 => ?_) (fun c_17 => ?_)
    · skip
      refine g_aload_n E 0 dX5_edge_23 rfl rfl ?_
      refine g_get E (ci := 5) inlX5 0 rfl rfl 0 (by decide) fl_X5_7 rfl (.ref (a 1)) rfl dX5_edge_24 ?_
      refine g_bipush E 7 dX5_edge_27 (by decide) ?_
      refine g_mget E (p := 0) (r := r) (f := f) 1 rfl rfl 7 (show (7 : Int32) = nI (0 + 7) from by rw [Nat.zero_add]; rfl) (by decide) (by omega) dX5_edge_29 ?_
      refine g_top (b := r 7) rfl ?_
      refine g_bipush E 16 dX5_edge_30 (by decide) ?_
      refine g_idiv E dX5_edge_32 (by decide) ?_
      refine g_istore_n E (lv' := [(3, .int ((r 7) / 16)), (0, .ref (a 0)), (1, .int axis), (2, .int up)]) dX5_edge_33 rfl (by decide) rfl ?_
      refine g_aload_n E 1 dX5_edge_34 rfl rfl ?_
      refine g_get E (ci := 5) inlX5 0 rfl rfl 0 (by decide) fl_X5_7 rfl (.ref (a 1)) rfl dX5_edge_35 ?_
      refine g_bipush E 8 dX5_edge_38 (by decide) ?_
      refine g_mget E (p := 0) (r := r) (f := f) 1 rfl rfl 8 (show (8 : Int32) = nI (0 + 8) from by rw [Nat.zero_add]; rfl) (by decide) (by omega) dX5_edge_40 ?_
      refine g_top (b := r 8) rfl ?_
      refine g_bipush E 16 dX5_edge_41 (by decide) ?_
      refine g_idiv E dX5_edge_43 (by decide) ?_
      refine g_istore E (lv' := [(4, .int ((r 8) / 16)), (3, .int ((r 7) / 16)), (0, .ref (a 0)), (1, .int axis), (2, .int up)]) dX5_edge_44 (by decide) rfl ?_
      refine g_iconst E 1 dX5_edge_46 (by decide) ?_
      refine g_istore E (lv' := [(5, .int 1), (4, .int ((r 8) / 16)), (3, .int ((r 7) / 16)), (0, .ref (a 0)), (1, .int axis), (2, .int up)]) dX5_edge_47 (by decide) rfl ?_
      refine g_lvs (lv' := [(0, .ref (a 0)), (1, .int axis), (2, .int up), (3, .int ((r 7) / 16)), (4, .int ((r 8) / 16)), (5, .int 1)]) [3, 4, 5, 2, 1, 0] rfl ?_
      subst hv2_
      subst hv1_
      exact s_X5_edge_49 d a axis up r f Z hs E 257 1 f (by omega) (by omega) (fun pc_ lv_ v_ u_ h1_ h2_ h3_ h4_ => RET pc_ lv_ v_ u_ h1_ h2_ (h3_.trans (by rw [r_X5_edge, if_neg c_6, if_neg c_17])) (h4_.trans (by rw [c_X5_edge_s, if_neg c_6, if_neg c_17])))
    · skip
      refine g_bipush E (-2) dX5_edge_20 (by decide) ?_
      subst hv2_
      subst hv1_
      exact RET 22 _ (-2) _ dX5_edge_22 rfl (by rw [r_X5_edge, if_neg c_6, if_pos c_17]) (by rw [c_X5_edge_s, if_neg c_6, if_pos c_17])
  · skip
    refine g_iconst E (-1) dX5_edge_9 (by decide) ?_
    subst hv1_
    exact RET 10 _ (-1) _ dX5_edge_10 rfl (by rw [r_X5_edge, if_pos c_6]) (by rw [c_X5_edge_s, if_pos c_6])
set_option maxHeartbeats 1000000 in
set_option maxRecDepth 100000 in
theorem t_X5_edge (d : gD) (a : Nat → Nat) (axis : Int32) (up : Int32) (r : Nat → Int32) (f : Nat → Int32) (Z : MR) (hs : SH r) : gMi d yX5_edge cX5_edge 9 (some .int) R_X5_edge [.ref (a 0), .int axis, .int up] (MW d a (pr 0 r f) Z) (fun r_ u_ => r_ = r_X5_edge axis up r f ∧ u_ = MW d a (pr 0 r (c_X5_edge_s axis up r f)) Z) :=
  g_met_i RX5 rfl (by decide +kernel) (Nat.le_of_ble_eq_true rfl) [(0, .ref (a 0)), (1, .int axis), (2, .int up)] rfl (fun X E RET => s_X5_edge_0 d a axis up r f Z hs E (fun pc_ lv_ v_ u_ h1_ h2_ h3_ h4_ => RET pc_ lv_ v_ u_ h1_ h2_ ⟨h3_, h4_⟩))
abbrev R_X5_hold : Room := { frames := 4, cells := 0, slots := 0, locals := 98 }
def r_X5_hold_at40 (x : Int32) (y : Int32) (many : Int32) (r : Nat → Int32) (past : Nat → Int32) (kk : Nat) : Nat → (Nat) → (Nat → Int32) → Int32
  | 0, _, _ => 0
  | n + 1, k, r1 => if (nI k) < many then (r_X5_hold_at40 x y many r past kk n (k + 1) (c_X5_samples_s x y r1)) else (r_X5_told r1)
def c_X5_hold_s_at40 (x : Int32) (y : Int32) (many : Int32) (r : Nat → Int32) (past : Nat → Int32) (kk : Nat) : Nat → (Nat) → (Nat → Int32) → Nat → Int32
  | 0, _, r1 => r1
  | n + 1, k, r1 => if (nI k) < many then (c_X5_hold_s_at40 x y many r past kk n (k + 1) (c_X5_samples_s x y r1)) else r1
def c_X5_hold_past_at40 (x : Int32) (y : Int32) (many : Int32) (r : Nat → Int32) (past : Nat → Int32) (kk : Nat) : Nat → (Nat) → (Nat → Int32) → Nat → Int32
  | 0, _, _ => (pastK r past kk)
  | n + 1, k, r1 => if (nI k) < many then (c_X5_hold_past_at40 x y many r past kk n (k + 1) (c_X5_samples_s x y r1)) else (pastK r past kk)
def c_X5_hold_kn_at40 (x : Int32) (y : Int32) (many : Int32) (r : Nat → Int32) (past : Nat → Int32) (kk : Nat) : Nat → (Nat) → (Nat → Int32) → Int32
  | 0, _, _ => 0
  | n + 1, k, r1 => if (nI k) < many then (c_X5_hold_kn_at40 x y many r past kk n (k + 1) (c_X5_samples_s x y r1)) else (nI (kn1 kk))
def r_X5_hold (x : Int32) (y : Int32) (many : Int32) (r : Nat → Int32) (past : Nat → Int32) (kk : Nat) : Int32 := if (r_X5_in many 1 200) = 0 then (-2) else (if (r_X5_whyNot x y many r) < 0 then (r_X5_whyNot x y many r) else (r_X5_hold_at40 x y many r past kk 201 0 r))
def c_X5_hold_s (x : Int32) (y : Int32) (many : Int32) (r : Nat → Int32) (past : Nat → Int32) (kk : Nat) : Nat → Int32 := if (r_X5_in many 1 200) = 0 then r else (if (r_X5_whyNot x y many r) < 0 then r else (c_X5_hold_s_at40 x y many r past kk 201 0 r))
def c_X5_hold_past (x : Int32) (y : Int32) (many : Int32) (r : Nat → Int32) (past : Nat → Int32) (kk : Nat) : Nat → Int32 := if (r_X5_in many 1 200) = 0 then past else (if (r_X5_whyNot x y many r) < 0 then past else (c_X5_hold_past_at40 x y many r past kk 201 0 r))
def c_X5_hold_kn (x : Int32) (y : Int32) (many : Int32) (r : Nat → Int32) (past : Nat → Int32) (kk : Nat) : Int32 := if (r_X5_in many 1 200) = 0 then (nI kk) else (if (r_X5_whyNot x y many r) < 0 then (nI kk) else (c_X5_hold_kn_at40 x y many r past kk 201 0 r))
theorem many_ok {v : Int32} (h0 : ¬ v < 1) (h : ¬ 200 < v) : v.toNatClampNeg ≤ 200 ∧ ¬ v < 0 := by
  have h0' : ¬ v < 0 := fun q => h0 (ti_lt.mpr (by
    have := ti_lt.mp q
    have e1 : (0 : Int32).toInt = 0 := rfl
    have e2 : (1 : Int32).toInt = 1 := rfl
    omega))
  exact ⟨Nat.lt_succ_iff.mp (ix_le (N := 200) h0' h), h0'⟩
set_option maxHeartbeats 1000000 in
set_option maxRecDepth 100000 in
theorem s_X5_hold_40 (d : gD) (a : Nat → Nat) (x : Int32) (y : Int32) (many : Int32) (r : Nat → Int32) (f : Nat → Int32) (past : Nat → Int32) (kk : Nat) (sl : Nat → Int32) (sv : Nat → Int32) (pd : Nat → Int32) (ln : Int32) (hkk : kk ≤ 6) (hall : ¬ r_X5_whyNot x y many r < 0 → ∀ j, j ≤ 501 → SH (it x y j r)) {X : gX} (E : gE d X RX5 cX5_hold 6 R_X5_hold) : ∀ (n : Nat) (k : Nat) (r1 : Nat → Int32) (hk : k ≤ many.toNatClampNeg) (hm200 : many.toNatClampNeg ≤ 200 ∧ ¬ many < 0) (h1 : r1 = it x y k r) (hr : ¬ r_X5_whyNot x y many r < 0) (hm : many.toNatClampNeg - k < n) (RET : ∀ (pc_ : Nat) (lv_ : List (Nat × Value)) (v_ : Int32) (u_ : va_W), decode cX5_hold pc_ = .ok (.ireturn, 1) → narrow .int (.int v_) = .int v_ → v_ = r_X5_hold_at40 x y many r past kk n k r1 → u_ = MW d a (pr 0 (c_X5_hold_s_at40 x y many r past kk n k r1) f) ((c_X5_hold_past_at40 x y many r past kk n k r1), (c_X5_hold_kn_at40 x y many r past kk n k r1), sl, sv, pd, ln) → G d X u_ R_X5_hold.cells R_X5_hold.slots pc_ lv_ [.int v_]), G d X (MW d a (pr 0 r1 f) ((pastK r past kk), nI (kn1 kk), sl, sv, pd, ln)) 0 0 40 [(0, .ref (a 0)), (1, .int x), (2, .int y), (3, .int many), (5, .int (nI k))] [] := by
  intro n
  induction n with
  | zero => intro k r1 hk hm200 h1 hr hm; omega
  | succ n ih =>
    intro k r1 hk hm200 h1 hr hm RET
    refine g_iload E 4 dX5_hold_40 rfl ?_
    refine g_iload_n E 3 dX5_hold_42 rfl rfl ?_
    refine g_icmpge E 59 dX5_hold_43 (by decide) (fun c_43 => ?_) (fun c_43 => ?_)
    · skip
      refine g_aload_n E 0 dX5_hold_59 rfl rfl ?_
      refine g_iconst E 0 dX5_hold_60 (by decide) ?_
      refine g_callVi0 E gc_X5_told ml_X5_92 (t_X5_told d a 0 r1 f ((pastK r past kk), nI (kn1 kk), sl, sv, pd, ln) (by omega)) rfl rfl (ci := 5) 0 rfl rfl rfl rfl (ok_le rfl) ⟨ok_le rfl, ok_le rfl, ok_le rfl, ok_le rfl⟩ rfl rfl dX5_hold_61 ?_
      refine g_nm (fun v3_ hv3_ => ?_)
      subst hv3_
      exact RET 64 _ (r_X5_told r1) _ dX5_hold_64 rfl (by rw [r_X5_hold_at40, if_neg c_43]) (by rw [c_X5_hold_s_at40, if_neg c_43, c_X5_hold_past_at40, if_neg c_43, c_X5_hold_kn_at40, if_neg c_43])
    · skip
      have k43 : k < many.toNatClampNeg := by have q := c_43; rw [ix_eq hm200.2] at q; exact (nI_ltI (by omega) (by omega)).mp q
      have hm3 := hm200.1
      refine g_aload_n E 0 dX5_hold_46 rfl rfl ?_
      refine g_iconst E 0 dX5_hold_47 (by decide) ?_
      refine g_iload_n E 1 dX5_hold_48 rfl rfl ?_
      refine g_iload_n E 2 dX5_hold_49 rfl rfl ?_
      refine g_callVv0 E gc_X5_samples ml_X5_89 (t2_X5_samples d a 0 x y r1 f ((pastK r past kk), nI (kn1 kk), sl, sv, pd, ln) (by omega) (by rw [h1]; exact hall hr k (by omega))) rfl rfl (ci := 5) 0 rfl rfl rfl rfl (ok_le rfl) ⟨ok_le rfl, ok_le rfl, ok_le rfl, ok_le rfl⟩ rfl rfl dX5_hold_50 ?_
      obtain ⟨S4_, hS4_⟩ : ∃ z, c_X5_samples_s x y r1 = z := ⟨_, rfl⟩
      rw [hS4_]
      refine g_iinc E (j := 4) (v := (nI (k + 1))) (lv' := [(5, .int (nI (k + 1))), (0, .ref (a 0)), (1, .int x), (2, .int y), (3, .int many)]) dX5_hold_53 rfl (nI_1 _) (by decide) rfl ?_
      refine g_goto E 40 dX5_hold_56 (by decide) ?_
      refine g_lvs (lv' := [(0, .ref (a 0)), (1, .int x), (2, .int y), (3, .int many), (5, .int (nI (k + 1)))]) [1, 2, 3, 4, 0] rfl ?_
      subst hS4_
      exact ih (k + 1) (c_X5_samples_s x y r1) (by omega) hm200 (by rw [h1]; rfl) hr (by omega) (fun pc_ lv_ v_ u_ h1_ h2_ h3_ h4_ => RET pc_ lv_ v_ u_ h1_ h2_ (h3_.trans (by rw [r_X5_hold_at40, if_pos c_43])) (h4_.trans (by rw [c_X5_hold_s_at40, if_pos c_43, c_X5_hold_past_at40, if_pos c_43, c_X5_hold_kn_at40, if_pos c_43])))
set_option maxHeartbeats 1000000 in
set_option maxRecDepth 100000 in
theorem s_X5_hold_0 (d : gD) (a : Nat → Nat) (x : Int32) (y : Int32) (many : Int32) (r : Nat → Int32) (f : Nat → Int32) (past : Nat → Int32) (kk : Nat) (sl : Nat → Int32) (sv : Nat → Int32) (pd : Nat → Int32) (ln : Int32) (hkk : kk ≤ 6) (hall : ¬ r_X5_whyNot x y many r < 0 → ∀ j, j ≤ 501 → SH (it x y j r))  {X : gX} (E : gE d X RX5 cX5_hold 6 R_X5_hold) (RET : ∀ (pc_ : Nat) (lv_ : List (Nat × Value)) (v_ : Int32) (u_ : va_W), decode cX5_hold pc_ = .ok (.ireturn, 1) → narrow .int (.int v_) = .int v_ → v_ = r_X5_hold x y many r past kk → u_ = MW d a (pr 0 (c_X5_hold_s x y many r past kk) f) ((c_X5_hold_past x y many r past kk), (c_X5_hold_kn x y many r past kk), sl, sv, pd, ln) → G d X u_ R_X5_hold.cells R_X5_hold.slots pc_ lv_ [.int v_]) : G d X (MW d a (pr 0 r f) (past, nI kk, sl, sv, pd, ln)) 0 0 0 [(0, .ref (a 0)), (1, .int x), (2, .int y), (3, .int many)] [] := by
  refine g_iload_n E 3 dX5_hold_0 rfl rfl ?_
  refine g_iconst E 1 dX5_hold_1 (by decide) ?_
  refine g_sipush E 200 dX5_hold_2 (by decide) ?_
  refine g_callSp E gc_X5_in ml_X5_26 (t_X5_in d many 1 200 ) rfl rfl rfl (ok_le rfl) ⟨ok_le rfl, ok_le rfl, ok_le rfl, ok_le rfl⟩ rfl rfl dX5_hold_5 ?_
  refine g_nm (fun v1_ hv1_ => ?_)
  refine g_ifeq E 21 dX5_hold_8 (by decide) (fun c_8 => ?_) (fun c_8 => ?_)
  · skip
    refine g_bipush E (-2) dX5_hold_21 (by decide) ?_
    refine g_istore E (lv' := [(4, .int (-2)), (0, .ref (a 0)), (1, .int x), (2, .int y), (3, .int many)]) dX5_hold_23 (by decide) rfl ?_
    refine g_iload E 0 dX5_hold_25 rfl ?_
    refine g_ifge E 33 dX5_hold_27 (by decide) (fun q_ => absurd q_ (by decide)) (fun _ => ?_)
    refine g_iload E 0 dX5_hold_30 rfl ?_
    subst hv1_
    exact RET 32 _ (-2) _ dX5_hold_32 rfl (by rw [r_X5_hold, if_pos c_8]) (by rw [c_X5_hold_s, if_pos c_8, c_X5_hold_past, if_pos c_8, c_X5_hold_kn, if_pos c_8])
  · skip
    have hi7 := in_lo (v := many) (lo := 1) (hi := 200) (by rw [hv1_]; exact c_8)
    have hm2 := many_ok hi7.1 hi7.2
    refine g_aload_n E 0 dX5_hold_11 rfl rfl ?_
    refine g_iload_n E 1 dX5_hold_12 rfl rfl ?_
    refine g_iload_n E 2 dX5_hold_13 rfl rfl ?_
    refine g_iload_n E 3 dX5_hold_14 rfl rfl ?_
    refine g_callVi0 E gc_X5_whyNot ml_X5_86 (t_X5_whyNot d a x y many r f (past, nI kk, sl, sv, pd, ln) ) rfl rfl (ci := 5) 0 rfl rfl rfl rfl (ok_le rfl) ⟨ok_le rfl, ok_le rfl, ok_le rfl, ok_le rfl⟩ rfl rfl dX5_hold_15 ?_
    refine g_nm (fun v2_ hv2_ => ?_)
    refine g_goto E 23 dX5_hold_18 (by decide) ?_
    refine g_istore E (lv' := [(4, .int v2_), (0, .ref (a 0)), (1, .int x), (2, .int y), (3, .int many)]) dX5_hold_23 (by decide) rfl ?_
    refine g_iload E 0 dX5_hold_25 rfl ?_
    refine g_ifge E 33 dX5_hold_27 (by decide) (fun c_27 => ?_) (fun c_27 => ?_)
    · skip
      refine g_aload_n E 1 dX5_hold_33 rfl rfl ?_
      refine g_callVv0 E gc_X5_remembers ml_X5_79 (t2_X5_remembers d a r f past kk sl sv pd ln (by first | assumption | omega)) rfl rfl (ci := 5) 0 rfl rfl rfl rfl (ok_le rfl) ⟨ok_le rfl, ok_le rfl, ok_le rfl, ok_le rfl⟩ rfl rfl dX5_hold_34 ?_
      refine g_iconst E 0 dX5_hold_37 (by decide) ?_
      refine g_istore E (lv' := [(5, .int 0), (4, .int v2_), (0, .ref (a 0)), (1, .int x), (2, .int y), (3, .int many)]) dX5_hold_38 (by decide) rfl ?_
      refine g_lvs (lv' := [(0, .ref (a 0)), (1, .int x), (2, .int y), (3, .int many), (5, .int 0)]) [2, 3, 4, 5, 0] rfl ?_
      subst hv2_
      subst hv1_
      exact s_X5_hold_40 d a x y many r f past kk sl sv pd ln hkk hall E 201 0 r (by omega) hm2 rfl c_27 (by omega) (fun pc_ lv_ v_ u_ h1_ h2_ h3_ h4_ => RET pc_ lv_ v_ u_ h1_ h2_ (h3_.trans (by rw [r_X5_hold, if_neg c_8, if_neg c_27])) (h4_.trans (by rw [c_X5_hold_s, if_neg c_8, if_neg c_27, c_X5_hold_past, if_neg c_8, if_neg c_27, c_X5_hold_kn, if_neg c_8, if_neg c_27])))
    · skip
      refine g_iload E 0 dX5_hold_30 rfl ?_
      subst hv2_
      subst hv1_
      exact RET 32 _ (r_X5_whyNot x y many r) _ dX5_hold_32 rfl (by rw [r_X5_hold, if_neg c_8, if_pos c_27]) (by rw [c_X5_hold_s, if_neg c_8, if_pos c_27, c_X5_hold_past, if_neg c_8, if_pos c_27, c_X5_hold_kn, if_neg c_8, if_pos c_27])
set_option maxHeartbeats 1000000 in
set_option maxRecDepth 100000 in
theorem t_X5_hold (d : gD) (a : Nat → Nat) (x : Int32) (y : Int32) (many : Int32) (r : Nat → Int32) (f : Nat → Int32) (past : Nat → Int32) (kk : Nat) (sl : Nat → Int32) (sv : Nat → Int32) (pd : Nat → Int32) (ln : Int32) (hkk : kk ≤ 6) (hall : ¬ r_X5_whyNot x y many r < 0 → ∀ j, j ≤ 501 → SH (it x y j r)) : gMi d yX5_hold cX5_hold 6 (some .int) R_X5_hold [.ref (a 0), .int x, .int y, .int many] (MW d a (pr 0 r f) (past, nI kk, sl, sv, pd, ln)) (fun r_ u_ => r_ = r_X5_hold x y many r past kk ∧ u_ = MW d a (pr 0 (c_X5_hold_s x y many r past kk) f) ((c_X5_hold_past x y many r past kk), (c_X5_hold_kn x y many r past kk), sl, sv, pd, ln)) :=
  g_met_i RX5 rfl (by decide +kernel) (Nat.le_of_ble_eq_true rfl) [(0, .ref (a 0)), (1, .int x), (2, .int y), (3, .int many)] rfl (fun X E RET => s_X5_hold_0 d a x y many r f past kk sl sv pd ln hkk hall E (fun pc_ lv_ v_ u_ h1_ h2_ h3_ h4_ => RET pc_ lv_ v_ u_ h1_ h2_ ⟨h3_, h4_⟩))
