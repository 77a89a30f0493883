abbrev R_X5_off : Room := { frames := 0, cells := 0, slots := 0, locals := 0 }
def r_X5_off (ax : Nat) (its : Int32) (r : Nat → Int32) : Int32 := (its - ((r (7 + ax)) / 16))
set_option maxHeartbeats 1000000 in
set_option maxRecDepth 100000 in
theorem s_X5_off_0 (d : gD) (a : Nat → Nat) (p : Nat) (ax : Nat) (its : Int32) (r : Nat → Int32) (f : Nat → Int32) (Z : MR) (hp : p ≤ 61) (hax : ax ≤ 1)  {X : gX} (E : gE d X RX5 cX5_off 4 R_X5_off) (RET : ∀ (pc_ : Nat) (lv_ : List (Nat × Value)) (v_ : Int32) (u_ : va_W), decode cX5_off pc_ = .ok (.ireturn, 1) → narrow .int (.int v_) = .int v_ → v_ = r_X5_off ax its r → u_ = MW d a (pr p r f) Z → G d X u_ R_X5_off.cells R_X5_off.slots pc_ lv_ [.int v_]) : G d X (MW d a (pr p r f) Z) 0 0 0 [(0, .ref (a 0)), (1, .int (nI p)), (2, .int (nI ax)), (3, .int its)] [] := by
  refine g_iload_n E 3 dX5_off_0 rfl rfl ?_
  refine g_aload_n E 0 dX5_off_1 rfl rfl ?_
  refine g_get E (ci := 5) inlX5 0 rfl rfl 0 (by decide) fl_X5_7 rfl (.ref (a 1)) rfl dX5_off_2 ?_
  refine g_iload_n E 1 dX5_off_5 rfl rfl ?_
  refine g_bipush E 7 dX5_off_6 (by decide) ?_
  refine g_iadd E dX5_off_8 ?_
  refine g_top (nI_add p 7) ?_
  refine g_iload_n E 2 dX5_off_9 rfl rfl ?_
  refine g_iadd E dX5_off_10 ?_
  refine g_top (nI_add (p + 7) ax) ?_
  refine g_mget E (p := p) (r := r) (f := f) 1 rfl rfl (7 + ax) (congrArg nI (by omega)) (by omega) (by omega) dX5_off_11 ?_
  refine g_top (b := r (7 + ax)) rfl ?_
  refine g_bipush E 16 dX5_off_12 (by decide) ?_
  refine g_idiv E dX5_off_14 (by decide) ?_
  refine g_isub E dX5_off_15 ?_
  exact RET 16 _ (its - ((r (7 + ax)) / 16)) _ dX5_off_16 rfl (by rw [r_X5_off]) rfl
set_option maxHeartbeats 1000000 in
set_option maxRecDepth 100000 in
theorem t_X5_off (d : gD) (a : Nat → Nat) (p : Nat) (ax : Nat) (its : Int32) (r : Nat → Int32) (f : Nat → Int32) (Z : MR) (hp : p ≤ 61) (hax : ax ≤ 1) : gMi d yX5_off cX5_off 4 (some .int) R_X5_off [.ref (a 0), .int (nI p), .int (nI ax), .int its] (MW d a (pr p r f) Z) (fun r_ u_ => r_ = r_X5_off ax its r ∧ u_ = MW d a (pr p r f) Z) :=
  g_met_i RX5 rfl (by decide +kernel) (Nat.le_of_ble_eq_true rfl) [(0, .ref (a 0)), (1, .int (nI p)), (2, .int (nI ax)), (3, .int its)] rfl (fun X E RET => s_X5_off_0 d a p ax its r f Z hp hax E (fun pc_ lv_ v_ u_ h1_ h2_ h3_ h4_ => RET pc_ lv_ v_ u_ h1_ h2_ ⟨h3_, h4_⟩))
abbrev R_X5_far : Room := { frames := 1, cells := 0, slots := 0, locals := 23 }
def r_X5_far (x : Int32) (y : Int32) (r : Nat → Int32) : Int32 := (r_X5_greater (r_X5_size (r_X5_off 0 x r)) (r_X5_size (r_X5_off 1 y r)))
set_option maxHeartbeats 1000000 in
set_option maxRecDepth 100000 in
theorem s_X5_far_0 (d : gD) (a : Nat → Nat) (p : Nat) (x : Int32) (y : Int32) (r : Nat → Int32) (f : Nat → Int32) (Z : MR) (hp : p ≤ 61)  {X : gX} (E : gE d X RX5 cX5_far 4 R_X5_far) (RET : ∀ (pc_ : Nat) (lv_ : List (Nat × Value)) (v_ : Int32) (u_ : va_W), decode cX5_far pc_ = .ok (.ireturn, 1) → narrow .int (.int v_) = .int v_ → v_ = r_X5_far x y r → u_ = MW d a (pr p r f) Z → G d X u_ R_X5_far.cells R_X5_far.slots pc_ lv_ [.int v_]) : G d X (MW d a (pr p r f) Z) 0 0 0 [(0, .ref (a 0)), (1, .int (nI p)), (2, .int x), (3, .int y)] [] := by
  refine g_aload_n E 0 dX5_far_0 rfl rfl ?_
  refine g_iload_n E 1 dX5_far_1 rfl rfl ?_
  refine g_iconst E 0 dX5_far_2 (by decide) ?_
  refine g_iload_n E 2 dX5_far_3 rfl rfl ?_
  refine g_callVi0 E gc_X5_off ml_X5_34 (t_X5_off d a p 0 x r f Z hp (by omega)) rfl rfl (ci := 5) 0 rfl rfl rfl rfl (ok_le rfl) ⟨ok_le rfl, ok_le rfl, ok_le rfl, ok_le rfl⟩ rfl rfl dX5_far_4 ?_
  refine g_nm (fun v1_ hv1_ => ?_)
  refine g_callSp E gc_X5_size ml_X5_38 (t_X5_size d v1_ ) rfl rfl rfl (ok_le rfl) ⟨ok_le rfl, ok_le rfl, ok_le rfl, ok_le rfl⟩ rfl rfl dX5_far_7 ?_
  refine g_nm (fun v2_ hv2_ => ?_)
  refine g_aload_n E 0 dX5_far_10 rfl rfl ?_
  refine g_iload_n E 1 dX5_far_11 rfl rfl ?_
  refine g_iconst E 1 dX5_far_12 (by decide) ?_
  refine g_iload_n E 3 dX5_far_13 rfl rfl ?_
  refine g_callVi0 E gc_X5_off ml_X5_34 (t_X5_off d a p 1 y r f Z hp (by omega)) rfl rfl (ci := 5) 0 rfl rfl rfl rfl (ok_le rfl) ⟨ok_le rfl, ok_le rfl, ok_le rfl, ok_le rfl⟩ rfl rfl dX5_far_14 ?_
  refine g_nm (fun v3_ hv3_ => ?_)
  refine g_callSp E gc_X5_size ml_X5_38 (t_X5_size d v3_ ) rfl rfl rfl (ok_le rfl) ⟨ok_le rfl, ok_le rfl, ok_le rfl, ok_le rfl⟩ rfl rfl dX5_far_17 ?_
  refine g_nm (fun v4_ hv4_ => ?_)
  refine g_callSp E gc_X5_greater ml_X5_42 (t_X5_greater d v2_ v4_ ) rfl rfl rfl (ok_le rfl) ⟨ok_le rfl, ok_le rfl, ok_le rfl, ok_le rfl⟩ rfl rfl dX5_far_20 ?_
  refine g_nm (fun v5_ hv5_ => ?_)
  subst hv5_
  subst hv4_
  subst hv3_
  subst hv2_
  subst hv1_
  exact RET 23 _ (r_X5_greater (r_X5_size (r_X5_off 0 x r)) (r_X5_size (r_X5_off 1 y r))) _ dX5_far_23 rfl (by rw [r_X5_far]) rfl
set_option maxHeartbeats 1000000 in
set_option maxRecDepth 100000 in
theorem t_X5_far (d : gD) (a : Nat → Nat) (p : Nat) (x : Int32) (y : Int32) (r : Nat → Int32) (f : Nat → Int32) (Z : MR) (hp : p ≤ 61) : gMi d yX5_far cX5_far 4 (some .int) R_X5_far [.ref (a 0), .int (nI p), .int x, .int y] (MW d a (pr p r f) Z) (fun r_ u_ => r_ = r_X5_far x y r ∧ u_ = MW d a (pr p r f) Z) :=
  g_met_i RX5 rfl (by decide +kernel) (Nat.le_of_ble_eq_true rfl) [(0, .ref (a 0)), (1, .int (nI p)), (2, .int x), (3, .int y)] rfl (fun X E RET => s_X5_far_0 d a p x y r f Z hp E (fun pc_ lv_ v_ u_ h1_ h2_ h3_ h4_ => RET pc_ lv_ v_ u_ h1_ h2_ ⟨h3_, h4_⟩))
abbrev R_X5_isTelling : Room := { frames := 0, cells := 0, slots := 0, locals := 0 }
def r_X5_isTelling (r : Nat → Int32) : Int32 := if (r 14) = 0 then (if (r 15) = 0 then 0 else 1) else 1
set_option maxHeartbeats 1000000 in
set_option maxRecDepth 100000 in
theorem s_X5_isTelling_0 (d : gD) (a : Nat → Nat) (p : Nat) (r : Nat → Int32) (f : Nat → Int32) (Z : MR) (hp : p ≤ 61)  {X : gX} (E : gE d X RX5 cX5_isTelling 2 R_X5_isTelling) (RET : ∀ (pc_ : Nat) (lv_ : List (Nat × Value)) (v_ : Int32) (u_ : va_W), decode cX5_isTelling pc_ = .ok (.ireturn, 1) → narrow .boolean (.int v_) = .int v_ → v_ = r_X5_isTelling r → u_ = MW d a (pr p r f) Z → G d X u_ R_X5_isTelling.cells R_X5_isTelling.slots pc_ lv_ [.int v_]) : G d X (MW d a (pr p r f) Z) 0 0 0 [(0, .ref (a 0)), (1, .int (nI p))] [] := by
  refine g_aload_n E 0 dX5_isTelling_0 rfl rfl ?_
  refine g_get E (ci := 5) inlX5 0 rfl rfl 0 (by decide) fl_X5_7 rfl (.ref (a 1)) rfl dX5_isTelling_1 ?_
  refine g_iload_n E 1 dX5_isTelling_4 rfl rfl ?_
  refine g_bipush E 14 dX5_isTelling_5 (by decide) ?_
  refine g_iadd E dX5_isTelling_7 ?_
  refine g_top (nI_add p 14) ?_
  refine g_mget E (p := p) (r := r) (f := f) 1 rfl rfl 14 (congrArg nI (by omega)) (by omega) (by omega) dX5_isTelling_8 ?_
  refine g_top (b := r 14) rfl ?_
  refine g_ifne E 26 dX5_isTelling_9 (by decide) (fun c_9 => ?_) (fun c_9 => ?_)
  · skip
    refine g_iconst E 1 dX5_isTelling_26 (by decide) ?_
    refine g_goto E 31 dX5_isTelling_27 (by decide) ?_
    exact RET 31 _ 1 _ dX5_isTelling_31 rfl (by rw [r_X5_isTelling, if_neg c_9]) rfl
  · skip
    refine g_aload_n E 0 dX5_isTelling_12 rfl rfl ?_
    refine g_get E (ci := 5) inlX5 0 rfl rfl 0 (by decide) fl_X5_7 rfl (.ref (a 1)) rfl dX5_isTelling_13 ?_
    refine g_iload_n E 1 dX5_isTelling_16 rfl rfl ?_
    refine g_bipush E 14 dX5_isTelling_17 (by decide) ?_
    refine g_iadd E dX5_isTelling_19 ?_
    refine g_top (nI_add p 14) ?_
    refine g_iconst E 1 dX5_isTelling_20 (by decide) ?_
    refine g_iadd E dX5_isTelling_21 ?_
    refine g_top (nI_add (p + 14) 1) ?_
    refine g_mget E (p := p) (r := r) (f := f) 1 rfl rfl 15 (congrArg nI (by omega)) (by omega) (by omega) dX5_isTelling_22 ?_
    refine g_top (b := r 15) rfl ?_
    refine g_ifeq E 30 dX5_isTelling_23 (by decide) (fun c_23 => ?_) (fun c_23 => ?_)
    · skip
      refine g_iconst E 0 dX5_isTelling_30 (by decide) ?_
      exact RET 31 _ 0 _ dX5_isTelling_31 rfl (by rw [r_X5_isTelling, if_pos c_9, if_pos c_23]) rfl
    · skip
      refine g_iconst E 1 dX5_isTelling_26 (by decide) ?_
      refine g_goto E 31 dX5_isTelling_27 (by decide) ?_
      exact RET 31 _ 1 _ dX5_isTelling_31 rfl (by rw [r_X5_isTelling, if_pos c_9, if_neg c_23]) rfl
set_option maxHeartbeats 1000000 in
set_option maxRecDepth 100000 in
theorem t_X5_isTelling (d : gD) (a : Nat → Nat) (p : Nat) (r : Nat → Int32) (f : Nat → Int32) (Z : MR) (hp : p ≤ 61) : gMi d yX5_isTelling cX5_isTelling 2 (some .boolean) R_X5_isTelling [.ref (a 0), .int (nI p)] (MW d a (pr p r f) Z) (fun r_ u_ => r_ = r_X5_isTelling r ∧ u_ = MW d a (pr p r f) Z) :=
  g_met_i RX5 rfl (by decide +kernel) (Nat.le_of_ble_eq_true rfl) [(0, .ref (a 0)), (1, .int (nI p))] rfl (fun X E RET => s_X5_isTelling_0 d a p r f Z hp E (fun pc_ lv_ v_ u_ h1_ h2_ h3_ h4_ => RET pc_ lv_ v_ u_ h1_ h2_ ⟨h3_, h4_⟩))
abbrev R_X5_learns : Room := { frames := 0, cells := 0, slots := 0, locals := 0 }
def c_X5_learns_s (ax : Nat) (its : Int32) (r : Nat → Int32) : Nat → Int32 := upd r (7 + ax) ((r (7 + ax)) + (((16 * its) - (r (7 + ax))) / (r 0)))
set_option maxHeartbeats 1000000 in
set_option maxRecDepth 100000 in
theorem s_X5_learns_0 (d : gD) (a : Nat → Nat) (p : Nat) (ax : Nat) (its : Int32) (r : Nat → Int32) (f : Nat → Int32) (Z : MR) (hp : p ≤ 61) (hax : ax ≤ 1) (hs : ¬ r 0 = 0)  {X : gX} (E : gE d X RX5 cX5_learns 4 R_X5_learns) (RET : ∀ (pc_ : Nat) (lv_ : List (Nat × Value)) (u_ : va_W), decode cX5_learns pc_ = .ok (.return_, 1) → u_ = MW d a (pr p (c_X5_learns_s ax its r) f) Z → G d X u_ R_X5_learns.cells R_X5_learns.slots pc_ lv_ []) : G d X (MW d a (pr p r f) Z) 0 0 0 [(0, .ref (a 0)), (1, .int (nI p)), (2, .int (nI ax)), (3, .int its)] [] := by
  refine g_aload_n E 0 dX5_learns_0 rfl rfl ?_
  refine g_get E (ci := 5) inlX5 0 rfl rfl 0 (by decide) fl_X5_7 rfl (.ref (a 1)) rfl dX5_learns_1 ?_
  refine g_iload_n E 1 dX5_learns_4 rfl rfl ?_
  refine g_bipush E 7 dX5_learns_5 (by decide) ?_
  refine g_iadd E dX5_learns_7 ?_
  refine g_top (nI_add p 7) ?_
  refine g_iload_n E 2 dX5_learns_8 rfl rfl ?_
  refine g_iadd E dX5_learns_9 ?_
  refine g_top (nI_add (p + 7) ax) ?_
  refine g_dup2 E dX5_learns_10 rfl rfl ?_
  refine g_mget E (p := p) (r := r) (f := f) 1 rfl rfl (7 + ax) (congrArg nI (by omega)) (by omega) (by omega) dX5_learns_11 ?_
  refine g_top (b := r (7 + ax)) rfl ?_
  refine g_bipush E 16 dX5_learns_12 (by decide) ?_
  refine g_iload_n E 3 dX5_learns_14 rfl rfl ?_
  refine g_imul E dX5_learns_15 ?_
  refine g_aload_n E 0 dX5_learns_16 rfl rfl ?_
  refine g_get E (ci := 5) inlX5 0 rfl rfl 0 (by decide) fl_X5_7 rfl (.ref (a 1)) rfl dX5_learns_17 ?_
  refine g_iload_n E 1 dX5_learns_20 rfl rfl ?_
  refine g_bipush E 7 dX5_learns_21 (by decide) ?_
  refine g_iadd E dX5_learns_23 ?_
  refine g_top (nI_add p 7) ?_
  refine g_iload_n E 2 dX5_learns_24 rfl rfl ?_
  refine g_iadd E dX5_learns_25 ?_
  refine g_top (nI_add (p + 7) ax) ?_
  refine g_mget E (p := p) (r := r) (f := f) 1 rfl rfl (7 + ax) (congrArg nI (by omega)) (by omega) (by omega) dX5_learns_26 ?_
  refine g_top (b := r (7 + ax)) rfl ?_
  refine g_isub E dX5_learns_27 ?_
  refine g_aload_n E 0 dX5_learns_28 rfl rfl ?_
  refine g_get E (ci := 5) inlX5 0 rfl rfl 0 (by decide) fl_X5_7 rfl (.ref (a 1)) rfl dX5_learns_29 ?_
  refine g_iload_n E 1 dX5_learns_32 rfl rfl ?_
  refine g_iconst E 0 dX5_learns_33 (by decide) ?_
  refine g_iadd E dX5_learns_34 ?_
  refine g_top (nI_add p 0) ?_
  refine g_mget E (p := p) (r := r) (f := f) 1 rfl rfl 0 (congrArg nI (by omega)) (by omega) (by omega) dX5_learns_35 ?_
  refine g_top (b := r 0) rfl ?_
  refine g_idiv E dX5_learns_36 hs ?_
  refine g_iadd E dX5_learns_37 ?_
  refine g_mput E (p := p) (r := r) (f := f) 1 rfl rfl (7 + ax) (congrArg nI (by omega)) (by omega) (by omega) (ws' := MW d a (pr p (upd r (7 + ax) ((r (7 + ax)) + (((16 * its) - (r (7 + ax))) / (r 0)))) f) Z) rfl dX5_learns_38 ?_
  exact RET 39 _ _ dX5_learns_39 (by rw [c_X5_learns_s])
set_option maxHeartbeats 1000000 in
set_option maxRecDepth 100000 in
theorem t_X5_learns (d : gD) (a : Nat → Nat) (p : Nat) (ax : Nat) (its : Int32) (r : Nat → Int32) (f : Nat → Int32) (Z : MR) (hp : p ≤ 61) (hax : ax ≤ 1) (hs : ¬ r 0 = 0) : gMv d yX5_learns cX5_learns 4 R_X5_learns [.ref (a 0), .int (nI p), .int (nI ax), .int its] (MW d a (pr p r f) Z) (fun u_ => u_ = MW d a (pr p (c_X5_learns_s ax its r) f) Z) :=
  g_met_v RX5 rfl (by decide +kernel) (Nat.le_of_ble_eq_true rfl) [(0, .ref (a 0)), (1, .int (nI p)), (2, .int (nI ax)), (3, .int its)] rfl (fun X E _ RET => s_X5_learns_0 d a p ax its r f Z hp hax hs E (fun pc_ lv_ u_ h1_ h2_ => RET pc_ lv_ u_ h1_ h2_))
abbrev R_X5_rests : Room := { frames := 2, cells := 0, slots := 0, locals := 46 }
def j_X5_rests_21_s (x : Int32) (y : Int32) (r : Nat → Int32) : Nat → Int32 := if (r_X5_isTelling r) = 0 then r else (upd r 16 ((r 16) + 1))
def j_X5_rests_133_s (x : Int32) (y : Int32) (r : Nat → Int32) : Nat → Int32 := if 0 < ((j_X5_rests_21_s x y r) 13) then (upd (upd (j_X5_rests_21_s x y r) 14 0) 15 0) else (if ((j_X5_rests_21_s x y r) 9) < (2 * (r_X5_far x y (upd (upd (j_X5_rests_21_s x y r) 14 0) 15 0))) then (if ((j_X5_rests_21_s x y r) 9) < (((j_X5_rests_21_s x y r) 1) + ((j_X5_rests_21_s x y r) 2)) then (upd (upd (upd (j_X5_rests_21_s x y r) 14 0) 15 0) 9 (((j_X5_rests_21_s x y r) 9) + 1)) else (upd (upd (j_X5_rests_21_s x y r) 14 0) 15 0)) else (upd (upd (j_X5_rests_21_s x y r) 14 0) 15 0))
def j_X5_rests_168_s (x : Int32) (y : Int32) (r : Nat → Int32) : Nat → Int32 := if ((j_X5_rests_21_s x y r) 9) < (4 * (r_X5_far x y (upd (upd (j_X5_rests_21_s x y r) 14 0) 15 0))) then (j_X5_rests_133_s x y r) else (if ((j_X5_rests_133_s x y r) 1) < ((j_X5_rests_21_s x y r) 9) then (upd (j_X5_rests_133_s x y r) 9 (((j_X5_rests_133_s x y r) 9) - 1)) else (j_X5_rests_133_s x y r))
def c_X5_rests_s_at168 (x : Int32) (y : Int32) (r : Nat → Int32) : Nat → Int32 := (c_X5_learns_s 1 y (c_X5_learns_s 0 x (j_X5_rests_168_s x y r)))
def c_X5_rests_s_at133 (x : Int32) (y : Int32) (r : Nat → Int32) : Nat → Int32 := c_X5_rests_s_at168 x y r
def c_X5_rests_s_at21 (x : Int32) (y : Int32) (r : Nat → Int32) : Nat → Int32 := if 0 < ((j_X5_rests_21_s x y r) 13) then (upd (upd (upd (j_X5_rests_21_s x y r) 14 0) 15 0) 20 (((j_X5_rests_21_s x y r) 20) + 1)) else (c_X5_rests_s_at133 x y r)
def c_X5_rests_s (x : Int32) (y : Int32) (r : Nat → Int32) : Nat → Int32 := c_X5_rests_s_at21 x y r
theorem upd_lo {r : Nat → Int32} {i : Nat} {v : Int32} {k : Nat} (h : k ≠ i) : upd r i v k = r k := if_neg h
theorem j21_k (x y : Int32) (r : Nat → Int32) {k : Nat} (h : k ≠ 16) : j_X5_rests_21_s x y r k = r k := by
  unfold j_X5_rests_21_s
  split
  · rfl
  · exact upd_lo h
theorem j133_k (x y : Int32) (r : Nat → Int32) {k : Nat} (h : k ≠ 16) (h2 : k ≠ 14) (h3 : k ≠ 15) (h4 : k ≠ 9) : j_X5_rests_133_s x y r k = r k := by
  unfold j_X5_rests_133_s
  repeat' split
  all_goals simp (disch := assumption) only [upd_lo, j21_k]
theorem j168_k (x y : Int32) (r : Nat → Int32) {k : Nat} (h : k ≠ 16) (h2 : k ≠ 14) (h3 : k ≠ 15) (h4 : k ≠ 9) : j_X5_rests_168_s x y r k = r k := by
  unfold j_X5_rests_168_s
  repeat' split
  all_goals simp (disch := assumption) only [upd_lo, j133_k]
theorem j168_0 (x y : Int32) (r : Nat → Int32) : j_X5_rests_168_s x y r 0 = r 0 := j168_k x y r (by decide) (by decide) (by decide) (by decide)
theorem learns_k (ax : Nat) (its : Int32) (r : Nat → Int32) {k : Nat} (h : k ≠ 7 + ax) : c_X5_learns_s ax its r k = r k := upd_lo h
theorem learns_0 (its : Int32) (r : Nat → Int32) : c_X5_learns_s 0 its r 0 = r 0 := learns_k 0 its r (by decide)
set_option maxHeartbeats 1000000 in
set_option maxRecDepth 100000 in
theorem s_X5_rests_168 (d : gD) (a : Nat → Nat) (p : Nat) (x : Int32) (y : Int32) (r : Nat → Int32) (f : Nat → Int32) (Z : MR) (hp : p ≤ 61) (hs : ¬ r 0 = 0)  {X : gX} (E : gE d X RX5 cX5_rests 6 R_X5_rests) (RET : ∀ (pc_ : Nat) (lv_ : List (Nat × Value)) (u_ : va_W), decode cX5_rests pc_ = .ok (.return_, 1) → u_ = MW d a (pr p (c_X5_rests_s_at168 x y r) f) Z → G d X u_ R_X5_rests.cells R_X5_rests.slots pc_ lv_ []) : G d X (MW d a (pr p (j_X5_rests_168_s x y r) f) Z) 0 0 168 [(0, .ref (a 0)), (1, .int (nI p)), (2, .int x), (3, .int y), (4, .int (r_X5_far x y (upd (upd (j_X5_rests_21_s x y r) 14 0) 15 0))), (5, .int ((j_X5_rests_21_s x y r) 9))] [] := by
  obtain ⟨J2_, hJ2_⟩ : ∃ z, j_X5_rests_21_s x y r = z := ⟨_, rfl⟩
  rw [hJ2_]
  obtain ⟨v3_, hv3_⟩ : ∃ z, r_X5_far x y (upd (upd J2_ 14 0) 15 0) = z := ⟨_, rfl⟩
  rw [hv3_]
  obtain ⟨J5_, hJ5_⟩ : ∃ z, j_X5_rests_168_s x y r = z := ⟨_, rfl⟩
  rw [hJ5_]
  refine g_aload_n E 0 dX5_rests_168 rfl rfl ?_
  refine g_iload_n E 1 dX5_rests_169 rfl rfl ?_
  refine g_iconst E 0 dX5_rests_170 (by decide) ?_
  refine g_iload_n E 2 dX5_rests_171 rfl rfl ?_
  refine g_callVv0 E gc_X5_learns ml_X5_53 (t_X5_learns d a p 0 x J5_ f Z hp (by omega) (by subst_vars; rw [j168_0]; exact hs)) rfl rfl (ci := 5) 0 rfl rfl rfl rfl (ok_le rfl) ⟨ok_le rfl, ok_le rfl, ok_le rfl, ok_le rfl⟩ rfl rfl dX5_rests_172 ?_
  obtain ⟨S6_, hS6_⟩ : ∃ z, c_X5_learns_s 0 x J5_ = z := ⟨_, rfl⟩
  rw [hS6_]
  refine g_aload_n E 0 dX5_rests_175 rfl rfl ?_
  refine g_iload_n E 1 dX5_rests_176 rfl rfl ?_
  refine g_iconst E 1 dX5_rests_177 (by decide) ?_
  refine g_iload_n E 3 dX5_rests_178 rfl rfl ?_
  refine g_callVv0 E gc_X5_learns ml_X5_53 (t_X5_learns d a p 1 y S6_ f Z hp (by omega) (by subst_vars; rw [learns_0, j168_0]; exact hs)) rfl rfl (ci := 5) 0 rfl rfl rfl rfl (ok_le rfl) ⟨ok_le rfl, ok_le rfl, ok_le rfl, ok_le rfl⟩ rfl rfl dX5_rests_179 ?_
  obtain ⟨S7_, hS7_⟩ : ∃ z, c_X5_learns_s 1 y S6_ = z := ⟨_, rfl⟩
  rw [hS7_]
  subst hS7_
  subst hS6_
  subst hJ5_
  subst hv3_
  subst hJ2_
  exact RET 182 _ _ dX5_rests_182 (by rw [c_X5_rests_s_at168])
set_option maxHeartbeats 1000000 in
set_option maxRecDepth 100000 in
theorem s_X5_rests_133 (d : gD) (a : Nat → Nat) (p : Nat) (x : Int32) (y : Int32) (r : Nat → Int32) (f : Nat → Int32) (Z : MR) (hp : p ≤ 61) (hs : ¬ r 0 = 0)  {X : gX} (E : gE d X RX5 cX5_rests 6 R_X5_rests) (RET : ∀ (pc_ : Nat) (lv_ : List (Nat × Value)) (u_ : va_W), decode cX5_rests pc_ = .ok (.return_, 1) → u_ = MW d a (pr p (c_X5_rests_s_at133 x y r) f) Z → G d X u_ R_X5_rests.cells R_X5_rests.slots pc_ lv_ []) : G d X (MW d a (pr p (j_X5_rests_133_s x y r) f) Z) 0 0 133 [(0, .ref (a 0)), (1, .int (nI p)), (2, .int x), (3, .int y), (4, .int (r_X5_far x y (upd (upd (j_X5_rests_21_s x y r) 14 0) 15 0))), (5, .int ((j_X5_rests_21_s x y r) 9))] [] := by
  obtain ⟨J2_, hJ2_⟩ : ∃ z, j_X5_rests_21_s x y r = z := ⟨_, rfl⟩
  rw [hJ2_]
  obtain ⟨v3_, hv3_⟩ : ∃ z, r_X5_far x y (upd (upd J2_ 14 0) 15 0) = z := ⟨_, rfl⟩
  rw [hv3_]
  obtain ⟨J4_, hJ4_⟩ : ∃ z, j_X5_rests_133_s x y r = z := ⟨_, rfl⟩
  rw [hJ4_]
  refine g_iconst E 4 dX5_rests_133 (by decide) ?_
  refine g_iload E 4 dX5_rests_134 rfl ?_
  refine g_imul E dX5_rests_136 ?_
  refine g_iload E 5 dX5_rests_137 rfl ?_
  refine g_icmpgt E 168 dX5_rests_139 (by decide) (fun c_139 => ?_) (fun c_139 => ?_)
  · skip
    subst hJ4_
    subst hv3_
    subst hJ2_
    have J := s_X5_rests_168 d a p x y r f Z hp hs  E (fun pc_ lv_ u_ h1_ h2_ => RET pc_ lv_ u_ h1_ (h2_.trans (by rw [c_X5_rests_s_at133])))
    rw [j_X5_rests_168_s, if_pos c_139] at J
    exact J
  · skip
    refine g_iload E 5 dX5_rests_142 rfl ?_
    refine g_aload_n E 0 dX5_rests_144 rfl rfl ?_
    refine g_get E (ci := 5) inlX5 0 rfl rfl 0 (by decide) fl_X5_7 rfl (.ref (a 1)) rfl dX5_rests_145 ?_
    refine g_iload_n E 1 dX5_rests_148 rfl rfl ?_
    refine g_iconst E 1 dX5_rests_149 (by decide) ?_
    refine g_iadd E dX5_rests_150 ?_
    refine g_top (nI_add p 1) ?_
    refine g_mget E (p := p) (r := J4_) (f := f) 1 rfl rfl 1 (congrArg nI (by omega)) (by omega) (by omega) dX5_rests_151 ?_
    refine g_top (b := J4_ 1) rfl ?_
    refine g_icmple E 168 dX5_rests_152 (by decide) (fun c_152 => ?_) (fun c_152 => ?_)
    · skip
      subst hJ4_
      subst hv3_
      subst hJ2_
      have J := s_X5_rests_168 d a p x y r f Z hp hs  E (fun pc_ lv_ u_ h1_ h2_ => RET pc_ lv_ u_ h1_ (h2_.trans (by rw [c_X5_rests_s_at133])))
      rw [j_X5_rests_168_s, if_neg c_139, if_neg c_152] at J
      exact J
    · skip
      refine g_aload_n E 0 dX5_rests_155 rfl rfl ?_
      refine g_get E (ci := 5) inlX5 0 rfl rfl 0 (by decide) fl_X5_7 rfl (.ref (a 1)) rfl dX5_rests_156 ?_
      refine g_iload_n E 1 dX5_rests_159 rfl rfl ?_
      refine g_bipush E 9 dX5_rests_160 (by decide) ?_
      refine g_iadd E dX5_rests_162 ?_
      refine g_top (nI_add p 9) ?_
      refine g_dup2 E dX5_rests_163 rfl rfl ?_
      refine g_mget E (p := p) (r := J4_) (f := f) 1 rfl rfl 9 (congrArg nI (by omega)) (by omega) (by omega) dX5_rests_164 ?_
      refine g_top (b := J4_ 9) rfl ?_
      refine g_iconst E 1 dX5_rests_165 (by decide) ?_
      refine g_isub E dX5_rests_166 ?_
      refine g_mput E (p := p) (r := J4_) (f := f) 1 rfl rfl 9 (congrArg nI (by omega)) (by omega) (by omega) (ws' := MW d a (pr p (upd J4_ 9 ((J4_ 9) - 1)) f) Z) rfl dX5_rests_167 ?_
      subst hJ4_
      subst hv3_
      subst hJ2_
      have J := s_X5_rests_168 d a p x y r f Z hp hs  E (fun pc_ lv_ u_ h1_ h2_ => RET pc_ lv_ u_ h1_ (h2_.trans (by rw [c_X5_rests_s_at133])))
      rw [j_X5_rests_168_s, if_neg c_139, if_pos c_152] at J
      exact J
set_option maxHeartbeats 1000000 in
set_option maxRecDepth 100000 in
theorem s_X5_rests_21 (d : gD) (a : Nat → Nat) (p : Nat) (x : Int32) (y : Int32) (r : Nat → Int32) (f : Nat → Int32) (Z : MR) (hp : p ≤ 61) (hs : ¬ r 0 = 0)  {X : gX} (E : gE d X RX5 cX5_rests 6 R_X5_rests) (RET : ∀ (pc_ : Nat) (lv_ : List (Nat × Value)) (u_ : va_W), decode cX5_rests pc_ = .ok (.return_, 1) → u_ = MW d a (pr p (c_X5_rests_s_at21 x y r) f) Z → G d X u_ R_X5_rests.cells R_X5_rests.slots pc_ lv_ []) : G d X (MW d a (pr p (j_X5_rests_21_s x y r) f) Z) 0 0 21 [(0, .ref (a 0)), (1, .int (nI p)), (2, .int x), (3, .int y)] [] := by
  obtain ⟨J2_, hJ2_⟩ : ∃ z, j_X5_rests_21_s x y r = z := ⟨_, rfl⟩
  rw [hJ2_]
  refine g_aload_n E 0 dX5_rests_21 rfl rfl ?_
  refine g_get E (ci := 5) inlX5 0 rfl rfl 0 (by decide) fl_X5_7 rfl (.ref (a 1)) rfl dX5_rests_22 ?_
  refine g_iload_n E 1 dX5_rests_25 rfl rfl ?_
  refine g_bipush E 14 dX5_rests_26 (by decide) ?_
  refine g_iadd E dX5_rests_28 ?_
  refine g_top (nI_add p 14) ?_
  refine g_iconst E 0 dX5_rests_29 (by decide) ?_
  refine g_mput E (p := p) (r := J2_) (f := f) 1 rfl rfl 14 (congrArg nI (by omega)) (by omega) (by omega) (ws' := MW d a (pr p (upd J2_ 14 0) f) Z) rfl dX5_rests_30 ?_
  refine g_aload_n E 0 dX5_rests_31 rfl rfl ?_
  refine g_get E (ci := 5) inlX5 0 rfl rfl 0 (by decide) fl_X5_7 rfl (.ref (a 1)) rfl dX5_rests_32 ?_
  refine g_iload_n E 1 dX5_rests_35 rfl rfl ?_
  refine g_bipush E 14 dX5_rests_36 (by decide) ?_
  refine g_iadd E dX5_rests_38 ?_
  refine g_top (nI_add p 14) ?_
  refine g_iconst E 1 dX5_rests_39 (by decide) ?_
  refine g_iadd E dX5_rests_40 ?_
  refine g_top (nI_add (p + 14) 1) ?_
  refine g_iconst E 0 dX5_rests_41 (by decide) ?_
  refine g_mput E (p := p) (r := (upd J2_ 14 0)) (f := f) 1 rfl rfl 15 (congrArg nI (by omega)) (by omega) (by omega) (ws' := MW d a (pr p (upd (upd J2_ 14 0) 15 0) f) Z) rfl dX5_rests_42 ?_
  refine g_aload_n E 0 dX5_rests_43 rfl rfl ?_
  refine g_get E (ci := 5) inlX5 0 rfl rfl 0 (by decide) fl_X5_7 rfl (.ref (a 1)) rfl dX5_rests_44 ?_
  refine g_iload_n E 1 dX5_rests_47 rfl rfl ?_
  refine g_bipush E 13 dX5_rests_48 (by decide) ?_
  refine g_iadd E dX5_rests_50 ?_
  refine g_top (nI_add p 13) ?_
  refine g_mget E (p := p) (r := (upd (upd J2_ 14 0) 15 0)) (f := f) 1 rfl rfl 13 (congrArg nI (by omega)) (by omega) (by omega) dX5_rests_51 ?_
  refine g_top (b := J2_ 13) rfl ?_
  refine g_ifle E 69 dX5_rests_52 (by decide) (fun c_52 => ?_) (fun c_52 => ?_)
  · skip
    refine g_aload_n E 0 dX5_rests_69 rfl rfl ?_
    refine g_iload_n E 1 dX5_rests_70 rfl rfl ?_
    refine g_iload_n E 2 dX5_rests_71 rfl rfl ?_
    refine g_iload_n E 3 dX5_rests_72 rfl rfl ?_
    refine g_callVi0 E gc_X5_far ml_X5_50 (t_X5_far d a p x y (upd (upd J2_ 14 0) 15 0) f Z (by first | assumption | omega)) rfl rfl (ci := 5) 0 rfl rfl rfl rfl (ok_le rfl) ⟨ok_le rfl, ok_le rfl, ok_le rfl, ok_le rfl⟩ rfl rfl dX5_rests_73 ?_
    refine g_nm (fun v3_ hv3_ => ?_)
    refine g_istore E (lv' := [(4, .int v3_), (0, .ref (a 0)), (1, .int (nI p)), (2, .int x), (3, .int y)]) dX5_rests_76 (by decide) rfl ?_
    refine g_aload_n E 1 dX5_rests_78 rfl rfl ?_
    refine g_get E (ci := 5) inlX5 0 rfl rfl 0 (by decide) fl_X5_7 rfl (.ref (a 1)) rfl dX5_rests_79 ?_
    refine g_iload_n E 2 dX5_rests_82 rfl rfl ?_
    refine g_bipush E 9 dX5_rests_83 (by decide) ?_
    refine g_iadd E dX5_rests_85 ?_
    refine g_top (nI_add p 9) ?_
    refine g_mget E (p := p) (r := (upd (upd J2_ 14 0) 15 0)) (f := f) 1 rfl rfl 9 (congrArg nI (by omega)) (by omega) (by omega) dX5_rests_86 ?_
    refine g_top (b := J2_ 9) rfl ?_
    refine g_istore E (lv' := [(5, .int (J2_ 9)), (4, .int v3_), (0, .ref (a 0)), (1, .int (nI p)), (2, .int x), (3, .int y)]) dX5_rests_87 (by decide) rfl ?_
    refine g_iconst E 2 dX5_rests_89 (by decide) ?_
    refine g_iload E 1 dX5_rests_90 rfl ?_
    refine g_imul E dX5_rests_92 ?_
    refine g_iload E 0 dX5_rests_93 rfl ?_
    refine g_icmple E 133 dX5_rests_95 (by decide) (fun c_95 => ?_) (fun c_95 => ?_)
    · skip
      refine g_lvs (lv' := [(0, .ref (a 0)), (1, .int (nI p)), (2, .int x), (3, .int y), (4, .int v3_), (5, .int (J2_ 9))]) [2, 3, 4, 5, 1, 0] rfl ?_
      subst hv3_
      subst hJ2_
      have J := s_X5_rests_133 d a p x y r f Z hp hs  E (fun pc_ lv_ u_ h1_ h2_ => RET pc_ lv_ u_ h1_ (h2_.trans (by rw [c_X5_rests_s_at21, if_neg c_52])))
      rw [j_X5_rests_133_s, if_neg c_52, if_neg c_95] at J
      exact J
    · skip
      refine g_iload E 0 dX5_rests_98 rfl ?_
      refine g_aload_n E 2 dX5_rests_100 rfl rfl ?_
      refine g_get E (ci := 5) inlX5 0 rfl rfl 0 (by decide) fl_X5_7 rfl (.ref (a 1)) rfl dX5_rests_101 ?_
      refine g_iload_n E 3 dX5_rests_104 rfl rfl ?_
      refine g_iconst E 1 dX5_rests_105 (by decide) ?_
      refine g_iadd E dX5_rests_106 ?_
      refine g_top (nI_add p 1) ?_
      refine g_mget E (p := p) (r := (upd (upd J2_ 14 0) 15 0)) (f := f) 1 rfl rfl 1 (congrArg nI (by omega)) (by omega) (by omega) dX5_rests_107 ?_
      refine g_top (b := J2_ 1) rfl ?_
      refine g_aload_n E 2 dX5_rests_108 rfl rfl ?_
      refine g_get E (ci := 5) inlX5 0 rfl rfl 0 (by decide) fl_X5_7 rfl (.ref (a 1)) rfl dX5_rests_109 ?_
      refine g_iload_n E 3 dX5_rests_112 rfl rfl ?_
      refine g_iconst E 2 dX5_rests_113 (by decide) ?_
      refine g_iadd E dX5_rests_114 ?_
      refine g_top (nI_add p 2) ?_
      refine g_mget E (p := p) (r := (upd (upd J2_ 14 0) 15 0)) (f := f) 1 rfl rfl 2 (congrArg nI (by omega)) (by omega) (by omega) dX5_rests_115 ?_
      refine g_top (b := J2_ 2) rfl ?_
      refine g_iadd E dX5_rests_116 ?_
      refine g_icmpge E 133 dX5_rests_117 (by decide) (fun c_117 => ?_) (fun c_117 => ?_)
      · skip
        refine g_lvs (lv' := [(0, .ref (a 0)), (1, .int (nI p)), (2, .int x), (3, .int y), (4, .int v3_), (5, .int (J2_ 9))]) [2, 3, 4, 5, 1, 0] rfl ?_
        subst hv3_
        subst hJ2_
        have J := s_X5_rests_133 d a p x y r f Z hp hs  E (fun pc_ lv_ u_ h1_ h2_ => RET pc_ lv_ u_ h1_ (h2_.trans (by rw [c_X5_rests_s_at21, if_neg c_52])))
        rw [j_X5_rests_133_s, if_neg c_52, if_pos c_95, if_neg c_117] at J
        exact J
      · skip
        refine g_aload_n E 2 dX5_rests_120 rfl rfl ?_
        refine g_get E (ci := 5) inlX5 0 rfl rfl 0 (by decide) fl_X5_7 rfl (.ref (a 1)) rfl dX5_rests_121 ?_
        refine g_iload_n E 3 dX5_rests_124 rfl rfl ?_
        refine g_bipush E 9 dX5_rests_125 (by decide) ?_
        refine g_iadd E dX5_rests_127 ?_
        refine g_top (nI_add p 9) ?_
        refine g_dup2 E dX5_rests_128 rfl rfl ?_
        refine g_mget E (p := p) (r := (upd (upd J2_ 14 0) 15 0)) (f := f) 1 rfl rfl 9 (congrArg nI (by omega)) (by omega) (by omega) dX5_rests_129 ?_
        refine g_top (b := J2_ 9) rfl ?_
        refine g_iconst E 1 dX5_rests_130 (by decide) ?_
        refine g_iadd E dX5_rests_131 ?_
        refine g_mput E (p := p) (r := (upd (upd J2_ 14 0) 15 0)) (f := f) 1 rfl rfl 9 (congrArg nI (by omega)) (by omega) (by omega) (ws' := MW d a (pr p (upd (upd (upd J2_ 14 0) 15 0) 9 ((J2_ 9) + 1)) f) Z) rfl dX5_rests_132 ?_
        refine g_lvs (lv' := [(0, .ref (a 0)), (1, .int (nI p)), (2, .int x), (3, .int y), (4, .int v3_), (5, .int (J2_ 9))]) [2, 3, 4, 5, 1, 0] rfl ?_
        subst hv3_
        subst hJ2_
        have J := s_X5_rests_133 d a p x y r f Z hp hs  E (fun pc_ lv_ u_ h1_ h2_ => RET pc_ lv_ u_ h1_ (h2_.trans (by rw [c_X5_rests_s_at21, if_neg c_52])))
        rw [j_X5_rests_133_s, if_neg c_52, if_pos c_95, if_pos c_117] at J
        exact J
  · skip
    refine g_aload_n E 0 dX5_rests_55 rfl rfl ?_
    refine g_get E (ci := 5) inlX5 0 rfl rfl 0 (by decide) fl_X5_7 rfl (.ref (a 1)) rfl dX5_rests_56 ?_
    refine g_iload_n E 1 dX5_rests_59 rfl rfl ?_
    refine g_bipush E 20 dX5_rests_60 (by decide) ?_
    refine g_iadd E dX5_rests_62 ?_
    refine g_top (nI_add p 20) ?_
    refine g_dup2 E dX5_rests_63 rfl rfl ?_
    refine g_mget E (p := p) (r := (upd (upd J2_ 14 0) 15 0)) (f := f) 1 rfl rfl 20 (congrArg nI (by omega)) (by omega) (by omega) dX5_rests_64 ?_
    refine g_top (b := J2_ 20) rfl ?_
    refine g_iconst E 1 dX5_rests_65 (by decide) ?_
    refine g_iadd E dX5_rests_66 ?_
    refine g_mput E (p := p) (r := (upd (upd J2_ 14 0) 15 0)) (f := f) 1 rfl rfl 20 (congrArg nI (by omega)) (by omega) (by omega) (ws' := MW d a (pr p (upd (upd (upd J2_ 14 0) 15 0) 20 ((J2_ 20) + 1)) f) Z) rfl dX5_rests_67 ?_
    subst hJ2_
    exact RET 68 _ _ dX5_rests_68 (by rw [c_X5_rests_s_at21, if_pos c_52])
set_option maxHeartbeats 1000000 in
set_option maxRecDepth 100000 in
theorem s_X5_rests_0 (d : gD) (a : Nat → Nat) (p : Nat) (x : Int32) (y : Int32) (r : Nat → Int32) (f : Nat → Int32) (Z : MR) (hp : p ≤ 61) (hs : ¬ r 0 = 0)  {X : gX} (E : gE d X RX5 cX5_rests 6 R_X5_rests) (RET : ∀ (pc_ : Nat) (lv_ : List (Nat × Value)) (u_ : va_W), decode cX5_rests pc_ = .ok (.return_, 1) → u_ = MW d a (pr p (c_X5_rests_s x y r) f) Z → G d X u_ R_X5_rests.cells R_X5_rests.slots pc_ lv_ []) : G d X (MW d a (pr p r f) Z) 0 0 0 [(0, .ref (a 0)), (1, .int (nI p)), (2, .int x), (3, .int y)] [] := by
  refine g_aload_n E 0 dX5_rests_0 rfl rfl ?_
  refine g_iload_n E 1 dX5_rests_1 rfl rfl ?_
  refine g_callVi0 E gc_X5_isTelling ml_X5_46 (t_X5_isTelling d a p r f Z (by first | assumption | omega)) rfl rfl (ci := 5) 0 rfl rfl rfl rfl (ok_le rfl) ⟨ok_le rfl, ok_le rfl, ok_le rfl, ok_le rfl⟩ rfl rfl dX5_rests_2 ?_
  refine g_nm (fun v1_ hv1_ => ?_)
  refine g_ifeq E 21 dX5_rests_5 (by decide) (fun c_5 => ?_) (fun c_5 => ?_)
  · skip
    subst hv1_
    have J := s_X5_rests_21 d a p x y r f Z hp hs  E (fun pc_ lv_ u_ h1_ h2_ => RET pc_ lv_ u_ h1_ (h2_.trans (by rw [c_X5_rests_s])))
    rw [j_X5_rests_21_s, if_pos c_5] at J
    exact J
  · skip
    refine g_aload_n E 0 dX5_rests_8 rfl rfl ?_
    refine g_get E (ci := 5) inlX5 0 rfl rfl 0 (by decide) fl_X5_7 rfl (.ref (a 1)) rfl dX5_rests_9 ?_
    refine g_iload_n E 1 dX5_rests_12 rfl rfl ?_
    refine g_bipush E 16 dX5_rests_13 (by decide) ?_
    refine g_iadd E dX5_rests_15 ?_
    refine g_top (nI_add p 16) ?_
    refine g_dup2 E dX5_rests_16 rfl rfl ?_
    refine g_mget E (p := p) (r := r) (f := f) 1 rfl rfl 16 (congrArg nI (by omega)) (by omega) (by omega) dX5_rests_17 ?_
    refine g_top (b := r 16) rfl ?_
    refine g_iconst E 1 dX5_rests_18 (by decide) ?_
    refine g_iadd E dX5_rests_19 ?_
    refine g_mput E (p := p) (r := r) (f := f) 1 rfl rfl 16 (congrArg nI (by omega)) (by omega) (by omega) (ws' := MW d a (pr p (upd r 16 ((r 16) + 1)) f) Z) rfl dX5_rests_20 ?_
    subst hv1_
    have J := s_X5_rests_21 d a p x y r f Z hp hs  E (fun pc_ lv_ u_ h1_ h2_ => RET pc_ lv_ u_ h1_ (h2_.trans (by rw [c_X5_rests_s])))
    rw [j_X5_rests_21_s, if_neg c_5] at J
    exact J
set_option maxHeartbeats 1000000 in
set_option maxRecDepth 100000 in
theorem t_X5_rests (d : gD) (a : Nat → Nat) (p : Nat) (x : Int32) (y : Int32) (r : Nat → Int32) (f : Nat → Int32) (Z : MR) (hp : p ≤ 61) (hs : ¬ r 0 = 0) : gMv d yX5_rests cX5_rests 6 R_X5_rests [.ref (a 0), .int (nI p), .int x, .int y] (MW d a (pr p r f) Z) (fun u_ => u_ = MW d a (pr p (c_X5_rests_s x y r) f) Z) :=
  g_met_v RX5 rfl (by decide +kernel) (Nat.le_of_ble_eq_true rfl) [(0, .ref (a 0)), (1, .int (nI p)), (2, .int x), (3, .int y)] rfl (fun X E _ RET => s_X5_rests_0 d a p x y r f Z hp hs E (fun pc_ lv_ u_ h1_ h2_ => RET pc_ lv_ u_ h1_ h2_))
abbrev R_X5_axis : Room := { frames := 1, cells := 0, slots := 0, locals := 20 }
def r_X5_axis (off : Int32) (r : Nat → Int32) : Int32 := if (r 9) < (r_X5_size off) then (if 100 < ((((r_X5_size off) - (r 9)) * 100) / ((r 3) - (r 9))) then (if off < 0 then (-100) else 100) else (if off < 0 then (-((((r_X5_size off) - (r 9)) * 100) / ((r 3) - (r 9)))) else ((((r_X5_size off) - (r 9)) * 100) / ((r 3) - (r 9))))) else 0
set_option maxHeartbeats 1000000 in
set_option maxRecDepth 100000 in
theorem s_X5_axis_0 (d : gD) (a : Nat → Nat) (p : Nat) (off : Int32) (r : Nat → Int32) (f : Nat → Int32) (Z : MR) (hp : p ≤ 61) (hz : ¬ (r 3) - (r 9) = 0)  {X : gX} (E : gE d X RX5 cX5_axis 5 R_X5_axis) (RET : ∀ (pc_ : Nat) (lv_ : List (Nat × Value)) (v_ : Int32) (u_ : va_W), decode cX5_axis pc_ = .ok (.ireturn, 1) → narrow .int (.int v_) = .int v_ → v_ = r_X5_axis off r → u_ = MW d a (pr p r f) Z → G d X u_ R_X5_axis.cells R_X5_axis.slots pc_ lv_ [.int v_]) : G d X (MW d a (pr p r f) Z) 0 0 0 [(0, .ref (a 0)), (1, .int (nI p)), (2, .int off)] [] := by
  refine g_aload_n E 0 dX5_axis_0 rfl rfl ?_
  refine g_get E (ci := 5) inlX5 0 rfl rfl 0 (by decide) fl_X5_7 rfl (.ref (a 1)) rfl dX5_axis_1 ?_
  refine g_iload_n E 1 dX5_axis_4 rfl rfl ?_
  refine g_bipush E 9 dX5_axis_5 (by decide) ?_
  refine g_iadd E dX5_axis_7 ?_
  refine g_top (nI_add p 9) ?_
  refine g_mget E (p := p) (r := r) (f := f) 1 rfl rfl 9 (congrArg nI (by omega)) (by omega) (by omega) dX5_axis_8 ?_
  refine g_top (b := r 9) rfl ?_
  refine g_istore_n E (lv' := [(3, .int (r 9)), (0, .ref (a 0)), (1, .int (nI p)), (2, .int off)]) dX5_axis_9 rfl (by decide) rfl ?_
  refine g_iload_n E 3 dX5_axis_10 rfl rfl ?_
  refine g_callSp E gc_X5_size ml_X5_38 (t_X5_size d off ) rfl rfl rfl (ok_le rfl) ⟨ok_le rfl, ok_le rfl, ok_le rfl, ok_le rfl⟩ rfl rfl dX5_axis_11 ?_
  refine g_nm (fun v1_ hv1_ => ?_)
  refine g_iload_n E 0 dX5_axis_14 rfl rfl ?_
  refine g_icmpgt E 20 dX5_axis_15 (by decide) (fun c_15 => ?_) (fun c_15 => ?_)
  · skip
    refine g_iload_n E 3 dX5_axis_20 rfl rfl ?_
    refine g_callSp E gc_X5_size ml_X5_38 (t_X5_size d off ) rfl rfl rfl (ok_le rfl) ⟨ok_le rfl, ok_le rfl, ok_le rfl, ok_le rfl⟩ rfl rfl dX5_axis_21 ?_
    refine g_nm (fun v2_ hv2_ => ?_)
    refine g_iload_n E 0 dX5_axis_24 rfl rfl ?_
    refine g_isub E dX5_axis_25 ?_
    refine g_bipush E 100 dX5_axis_26 (by decide) ?_
    refine g_imul E dX5_axis_28 ?_
    refine g_aload_n E 1 dX5_axis_29 rfl rfl ?_
    refine g_get E (ci := 5) inlX5 0 rfl rfl 0 (by decide) fl_X5_7 rfl (.ref (a 1)) rfl dX5_axis_30 ?_
    refine g_iload_n E 2 dX5_axis_33 rfl rfl ?_
    refine g_iconst E 3 dX5_axis_34 (by decide) ?_
    refine g_iadd E dX5_axis_35 ?_
    refine g_top (nI_add p 3) ?_
    refine g_mget E (p := p) (r := r) (f := f) 1 rfl rfl 3 (congrArg nI (by omega)) (by omega) (by omega) dX5_axis_36 ?_
    refine g_top (b := r 3) rfl ?_
    refine g_iload_n E 0 dX5_axis_37 rfl rfl ?_
    refine g_isub E dX5_axis_38 ?_
    refine g_idiv E dX5_axis_39 hz ?_
    refine g_istore E (lv' := [(4, .int (((v2_ - (r 9)) * 100) / ((r 3) - (r 9)))), (3, .int (r 9)), (0, .ref (a 0)), (1, .int (nI p)), (2, .int off)]) dX5_axis_40 (by decide) rfl ?_
    refine g_iload E 0 dX5_axis_42 rfl ?_
    refine g_bipush E 100 dX5_axis_44 (by decide) ?_
    refine g_icmple E 54 dX5_axis_46 (by decide) (fun c_46 => ?_) (fun c_46 => ?_)
    · skip
      refine g_iload E 0 dX5_axis_54 rfl ?_
      refine g_istore E (lv' := [(4, .int (((v2_ - (r 9)) * 100) / ((r 3) - (r 9)))), (3, .int (r 9)), (0, .ref (a 0)), (1, .int (nI p)), (2, .int off)]) dX5_axis_56 (by decide) rfl ?_
      refine g_iload_n E 4 dX5_axis_58 rfl rfl ?_
      refine g_ifge E 68 dX5_axis_59 (by decide) (fun c_59 => ?_) (fun c_59 => ?_)
      · skip
        refine g_iload E 0 dX5_axis_68 rfl ?_
        subst hv2_
        subst hv1_
        exact RET 70 _ ((((r_X5_size off) - (r 9)) * 100) / ((r 3) - (r 9))) _ dX5_axis_70 rfl (by rw [r_X5_axis, if_pos c_15, if_neg c_46, if_neg c_59]) rfl
      · skip
        refine g_iload E 0 dX5_axis_62 rfl ?_
        refine g_ineg E dX5_axis_64 ?_
        refine g_goto E 70 dX5_axis_65 (by decide) ?_
        subst hv2_
        subst hv1_
        exact RET 70 _ (-((((r_X5_size off) - (r 9)) * 100) / ((r 3) - (r 9)))) _ dX5_axis_70 rfl (by rw [r_X5_axis, if_pos c_15, if_neg c_46, if_pos c_59]) rfl
    · skip
      refine g_bipush E 100 dX5_axis_49 (by decide) ?_
      refine g_goto E 56 dX5_axis_51 (by decide) ?_
      refine g_istore E (lv' := [(4, .int 100), (3, .int (r 9)), (0, .ref (a 0)), (1, .int (nI p)), (2, .int off)]) dX5_axis_56 (by decide) rfl ?_
      refine g_iload_n E 4 dX5_axis_58 rfl rfl ?_
      refine g_ifge E 68 dX5_axis_59 (by decide) (fun c_59 => ?_) (fun c_59 => ?_)
      · skip
        refine g_iload E 0 dX5_axis_68 rfl ?_
        subst hv2_
        subst hv1_
        exact RET 70 _ 100 _ dX5_axis_70 rfl (by rw [r_X5_axis, if_pos c_15, if_pos c_46, if_neg c_59]) rfl
      · skip
        refine g_iload E 0 dX5_axis_62 rfl ?_
        refine g_ineg E dX5_axis_64 ?_
        refine g_goto E 70 dX5_axis_65 (by decide) ?_
        subst hv2_
        subst hv1_
        exact RET 70 _ (-100) _ dX5_axis_70 rfl (by rw [r_X5_axis, if_pos c_15, if_pos c_46, if_pos c_59]) rfl
  · skip
    refine g_iconst E 0 dX5_axis_18 (by decide) ?_
    subst hv1_
    exact RET 19 _ 0 _ dX5_axis_19 rfl (by rw [r_X5_axis, if_neg c_15]) rfl
set_option maxHeartbeats 1000000 in
set_option maxRecDepth 100000 in
theorem t_X5_axis (d : gD) (a : Nat → Nat) (p : Nat) (off : Int32) (r : Nat → Int32) (f : Nat → Int32) (Z : MR) (hp : p ≤ 61) (hz : ¬ (r 3) - (r 9) = 0) : gMi d yX5_axis cX5_axis 5 (some .int) R_X5_axis [.ref (a 0), .int (nI p), .int off] (MW d a (pr p r f) Z) (fun r_ u_ => r_ = r_X5_axis off r ∧ u_ = MW d a (pr p r f) Z) :=
  g_met_i RX5 rfl (by decide +kernel) (Nat.le_of_ble_eq_true rfl) [(0, .ref (a 0)), (1, .int (nI p)), (2, .int off)] rfl (fun X E RET => s_X5_axis_0 d a p off r f Z hp hz E (fun pc_ lv_ v_ u_ h1_ h2_ h3_ h4_ => RET pc_ lv_ v_ u_ h1_ h2_ ⟨h3_, h4_⟩))
