theorem in_lo {v lo hi : Int32} (h : ¬ r_X5_in v lo hi = 0) : ¬ v < lo ∧ ¬ hi < v := by
  unfold r_X5_in at h
  repeat' split at h
  all_goals first | exact absurd rfl h | exact ⟨by assumption, by assumption⟩
theorem i_nle {a b : Int32} (h : ¬ b < a) : a.toInt ≤ b.toInt := by
  have := mt ti_lt.mpr h
  omega
theorem ix_le {e : Int32} {N : Nat} (h0 : ¬ e < 0) (h : ¬ nI N < e) (hN : N < 2 ^ 31 := by decide) : e.toNatClampNeg < N + 1 := by
  obtain ⟨j, hj, rfl⟩ := nI_of h0
  rw [nI_clamp hj]
  have := mt (nI_ltI hN hj).mpr h
  omega
theorem ne6 {kk : Nat} (h : kk ≤ 6) (c : ¬ nI kk = 6) : kk ≤ 5 := by
  rcases Nat.lt_or_ge kk 6 with q | q
  · omega
  · exact absurd (by rw [show kk = 6 by omega]; rfl) c
theorem eq6 {kk : Nat} (h : kk ≤ 6) (c : nI kk = 6) : kk = 6 := (nI_eq (a := kk) (b := 6) (by omega) (by omega)).mp c
abbrev R_X5_whyNot : Room := { frames := 2, cells := 0, slots := 0, locals := 43 }
def r_X5_whyNot (x : Int32) (y : Int32) (many : Int32) (r : Nat → Int32) : Int32 := if (r_X5_areRight x y) = 0 then (-2) else (if 9999 < ((r 21) + many) then (-5) else 0)
set_option maxHeartbeats 1000000 in
set_option maxRecDepth 100000 in
theorem s_X5_whyNot_0 (d : gD) (a : Nat → Nat) (x : Int32) (y : Int32) (many : Int32) (r : Nat → Int32) (f : Nat → Int32) (Z : MR)   {X : gX} (E : gE d X RX5 cX5_whyNot 4 R_X5_whyNot) (RET : ∀ (pc_ : Nat) (lv_ : List (Nat × Value)) (v_ : Int32) (u_ : va_W), decode cX5_whyNot pc_ = .ok (.ireturn, 1) → narrow .int (.int v_) = .int v_ → v_ = r_X5_whyNot x y many r → u_ = MW d a (pr 0 r f) Z → G d X u_ R_X5_whyNot.cells R_X5_whyNot.slots pc_ lv_ [.int v_]) : G d X (MW d a (pr 0 r f) Z) 0 0 0 [(0, .ref (a 0)), (1, .int x), (2, .int y), (3, .int many)] [] := by
  refine g_iload_n E 1 dX5_whyNot_0 rfl rfl ?_
  refine g_iload_n E 2 dX5_whyNot_1 rfl rfl ?_
  refine g_callSp E gc_X5_areRight ml_X5_82 (t_X5_areRight d x y ) rfl rfl rfl (ok_le rfl) ⟨ok_le rfl, ok_le rfl, ok_le rfl, ok_le rfl⟩ rfl rfl dX5_whyNot_2 ?_
  refine g_nm (fun v1_ hv1_ => ?_)
  refine g_ifne E 13 dX5_whyNot_5 (by decide) (fun c_5 => ?_) (fun c_5 => ?_)
  · skip
    refine g_aload_n E 0 dX5_whyNot_13 rfl rfl ?_
    refine g_get E (ci := 5) inlX5 0 rfl rfl 0 (by decide) fl_X5_7 rfl (.ref (a 1)) rfl dX5_whyNot_14 ?_
    refine g_bipush E 21 dX5_whyNot_17 (by decide) ?_
    refine g_mget E (p := 0) (r := r) (f := f) 1 rfl rfl 21 (show (21 : Int32) = nI (0 + 21) from by rw [Nat.zero_add]; rfl) (by decide) (by omega) dX5_whyNot_19 ?_
    refine g_top (b := r 21) rfl ?_
    refine g_iload_n E 3 dX5_whyNot_20 rfl rfl ?_
    refine g_iadd E dX5_whyNot_21 ?_
    refine g_sipush E 9999 dX5_whyNot_22 (by decide) ?_
    refine g_icmple E 33 dX5_whyNot_25 (by decide) (fun c_25 => ?_) (fun c_25 => ?_)
    · skip
      refine g_iconst E 0 dX5_whyNot_33 (by decide) ?_
      subst hv1_
      exact RET 34 _ 0 _ dX5_whyNot_34 rfl (by rw [r_X5_whyNot, if_neg c_5, if_neg c_25]) rfl
    · skip
      refine g_bipush E (-5) dX5_whyNot_28 (by decide) ?_
      refine g_goto E 34 dX5_whyNot_30 (by decide) ?_
      subst hv1_
      exact RET 34 _ (-5) _ dX5_whyNot_34 rfl (by rw [r_X5_whyNot, if_neg c_5, if_pos c_25]) rfl
  · skip
    refine g_bipush E (-2) dX5_whyNot_8 (by decide) ?_
    refine g_goto E 34 dX5_whyNot_10 (by decide) ?_
    subst hv1_
    exact RET 34 _ (-2) _ dX5_whyNot_34 rfl (by rw [r_X5_whyNot, if_pos c_5]) rfl
set_option maxHeartbeats 1000000 in
set_option maxRecDepth 100000 in
theorem t_X5_whyNot (d : gD) (a : Nat → Nat) (x : Int32) (y : Int32) (many : Int32) (r : Nat → Int32) (f : Nat → Int32) (Z : MR)  : gMi d yX5_whyNot cX5_whyNot 4 (some .int) R_X5_whyNot [.ref (a 0), .int x, .int y, .int many] (MW d a (pr 0 r f) Z) (fun r_ u_ => r_ = r_X5_whyNot x y many r ∧ u_ = MW d a (pr 0 r f) Z) :=
  g_met_i RX5 rfl (by decide +kernel) (Nat.le_of_ble_eq_true rfl) [(0, .ref (a 0)), (1, .int x), (2, .int y), (3, .int many)] rfl (fun X E RET => s_X5_whyNot_0 d a x y many r f Z  E (fun pc_ lv_ v_ u_ h1_ h2_ h3_ h4_ => RET pc_ lv_ v_ u_ h1_ h2_ ⟨h3_, h4_⟩))
abbrev R_X5_isDown : Room := { frames := 0, cells := 0, slots := 0, locals := 0 }
def r_X5_isDown (button : Int32) (r : Nat → Int32) : Int32 := if (((r 18) >>> (button &&& 31)) &&& 1) = 1 then 1 else 0
set_option maxHeartbeats 1000000 in
set_option maxRecDepth 100000 in
theorem s_X5_isDown_0 (d : gD) (a : Nat → Nat) (button : Int32) (r : Nat → Int32) (f : Nat → Int32) (Z : MR)   {X : gX} (E : gE d X RX5 cX5_isDown 2 R_X5_isDown) (RET : ∀ (pc_ : Nat) (lv_ : List (Nat × Value)) (v_ : Int32) (u_ : va_W), decode cX5_isDown pc_ = .ok (.ireturn, 1) → narrow .boolean (.int v_) = .int v_ → v_ = r_X5_isDown button r → u_ = MW d a (pr 0 r f) Z → G d X u_ R_X5_isDown.cells R_X5_isDown.slots pc_ lv_ [.int v_]) : G d X (MW d a (pr 0 r f) Z) 0 0 0 [(0, .ref (a 0)), (1, .int button)] [] := by
  refine g_aload_n E 0 dX5_isDown_0 rfl rfl ?_
  refine g_get E (ci := 5) inlX5 0 rfl rfl 0 (by decide) fl_X5_7 rfl (.ref (a 1)) rfl dX5_isDown_1 ?_
  refine g_bipush E 18 dX5_isDown_4 (by decide) ?_
  refine g_mget E (p := 0) (r := r) (f := f) 1 rfl rfl 18 (show (18 : Int32) = nI (0 + 18) from by rw [Nat.zero_add]; rfl) (by decide) (by omega) dX5_isDown_6 ?_
  refine g_top (b := r 18) rfl ?_
  refine g_iload_n E 1 dX5_isDown_7 rfl rfl ?_
  refine g_ishr E dX5_isDown_8 ?_
  refine g_iconst E 1 dX5_isDown_9 (by decide) ?_
  refine g_iand E dX5_isDown_10 ?_
  refine g_iconst E 1 dX5_isDown_11 (by decide) ?_
  refine g_icmpne E 19 dX5_isDown_12 (by decide) (fun c_12 => ?_) (fun c_12 => ?_)
  · skip
    refine g_iconst E 0 dX5_isDown_19 (by decide) ?_
    exact RET 20 _ 0 _ dX5_isDown_20 rfl (by rw [r_X5_isDown, if_neg c_12]) rfl
  · skip
    refine g_iconst E 1 dX5_isDown_15 (by decide) ?_
    refine g_goto E 20 dX5_isDown_16 (by decide) ?_
    exact RET 20 _ 1 _ dX5_isDown_20 rfl (by rw [r_X5_isDown, if_pos c_12]) rfl
set_option maxHeartbeats 1000000 in
set_option maxRecDepth 100000 in
theorem t_X5_isDown (d : gD) (a : Nat → Nat) (button : Int32) (r : Nat → Int32) (f : Nat → Int32) (Z : MR)  : gMi d yX5_isDown cX5_isDown 2 (some .boolean) R_X5_isDown [.ref (a 0), .int button] (MW d a (pr 0 r f) Z) (fun r_ u_ => r_ = r_X5_isDown button r ∧ u_ = MW d a (pr 0 r f) Z) :=
  g_met_i RX5 rfl (by decide +kernel) (Nat.le_of_ble_eq_true rfl) [(0, .ref (a 0)), (1, .int button)] rfl (fun X E RET => s_X5_isDown_0 d a button r f Z  E (fun pc_ lv_ v_ u_ h1_ h2_ h3_ h4_ => RET pc_ lv_ v_ u_ h1_ h2_ ⟨h3_, h4_⟩))
abbrev R_X5_whyNotPress : Room := { frames := 1, cells := 0, slots := 0, locals := 22 }
def r_X5_whyNotPress (button : Int32) (dn : Int32) (r : Nat → Int32) : Int32 := if (r_X5_in button 0 7) = 0 then (-1) else (if (r_X5_isDown button r) = dn then (-5) else 0)
set_option maxHeartbeats 1000000 in
set_option maxRecDepth 100000 in
theorem s_X5_whyNotPress_0 (d : gD) (a : Nat → Nat) (button : Int32) (dn : Int32) (r : Nat → Int32) (f : Nat → Int32) (Z : MR)   {X : gX} (E : gE d X RX5 cX5_whyNotPress 3 R_X5_whyNotPress) (RET : ∀ (pc_ : Nat) (lv_ : List (Nat × Value)) (v_ : Int32) (u_ : va_W), decode cX5_whyNotPress pc_ = .ok (.ireturn, 1) → narrow .int (.int v_) = .int v_ → v_ = r_X5_whyNotPress button dn r → u_ = MW d a (pr 0 r f) Z → G d X u_ R_X5_whyNotPress.cells R_X5_whyNotPress.slots pc_ lv_ [.int v_]) : G d X (MW d a (pr 0 r f) Z) 0 0 0 [(0, .ref (a 0)), (1, .int button), (2, .int dn)] [] := by
  refine g_iload_n E 1 dX5_whyNotPress_0 rfl rfl ?_
  refine g_iconst E 0 dX5_whyNotPress_1 (by decide) ?_
  refine g_bipush E 7 dX5_whyNotPress_2 (by decide) ?_
  refine g_callSp E gc_X5_in ml_X5_26 (t_X5_in d button 0 7 ) rfl rfl rfl (ok_le rfl) ⟨ok_le rfl, ok_le rfl, ok_le rfl, ok_le rfl⟩ rfl rfl dX5_whyNotPress_4 ?_
  refine g_nm (fun v1_ hv1_ => ?_)
  refine g_ifne E 14 dX5_whyNotPress_7 (by decide) (fun c_7 => ?_) (fun c_7 => ?_)
  · skip
    refine g_aload_n E 0 dX5_whyNotPress_14 rfl rfl ?_
    refine g_iload_n E 1 dX5_whyNotPress_15 rfl rfl ?_
    refine g_callVi0 E gc_X5_isDown ml_X5_95 (t_X5_isDown d a button r f Z ) rfl rfl (ci := 5) 0 rfl rfl rfl rfl (ok_le rfl) ⟨ok_le rfl, ok_le rfl, ok_le rfl, ok_le rfl⟩ rfl rfl dX5_whyNotPress_16 ?_
    refine g_nm (fun v2_ hv2_ => ?_)
    refine g_iload_n E 2 dX5_whyNotPress_19 rfl rfl ?_
    refine g_icmpne E 28 dX5_whyNotPress_20 (by decide) (fun c_20 => ?_) (fun c_20 => ?_)
    · skip
      refine g_iconst E 0 dX5_whyNotPress_28 (by decide) ?_
      subst hv2_
      subst hv1_
      exact RET 29 _ 0 _ dX5_whyNotPress_29 rfl (by rw [r_X5_whyNotPress, if_neg c_7, if_neg c_20]) rfl
    · skip
      refine g_bipush E (-5) dX5_whyNotPress_23 (by decide) ?_
      refine g_goto E 29 dX5_whyNotPress_25 (by decide) ?_
      subst hv2_
      subst hv1_
      exact RET 29 _ (-5) _ dX5_whyNotPress_29 rfl (by rw [r_X5_whyNotPress, if_neg c_7, if_pos c_20]) rfl
  · skip
    refine g_iconst E (-1) dX5_whyNotPress_10 (by decide) ?_
    refine g_goto E 29 dX5_whyNotPress_11 (by decide) ?_
    subst hv1_
    exact RET 29 _ (-1) _ dX5_whyNotPress_29 rfl (by rw [r_X5_whyNotPress, if_pos c_7]) rfl
set_option maxHeartbeats 1000000 in
set_option maxRecDepth 100000 in
theorem t_X5_whyNotPress (d : gD) (a : Nat → Nat) (button : Int32) (dn : Int32) (r : Nat → Int32) (f : Nat → Int32) (Z : MR)  : gMi d yX5_whyNotPress cX5_whyNotPress 3 (some .int) R_X5_whyNotPress [.ref (a 0), .int button, .int dn] (MW d a (pr 0 r f) Z) (fun r_ u_ => r_ = r_X5_whyNotPress button dn r ∧ u_ = MW d a (pr 0 r f) Z) :=
  g_met_i RX5 rfl (by decide +kernel) (Nat.le_of_ble_eq_true rfl) [(0, .ref (a 0)), (1, .int button), (2, .int dn)] rfl (fun X E RET => s_X5_whyNotPress_0 d a button dn r f Z  E (fun pc_ lv_ v_ u_ h1_ h2_ h3_ h4_ => RET pc_ lv_ v_ u_ h1_ h2_ ⟨h3_, h4_⟩))
abbrev R_X5_presses : Room := { frames := 0, cells := 0, slots := 0, locals := 0 }
def r_X5_presses (button : Int32) (r : Nat → Int32) : Int32 := ((r 18) ||| (1 <<< (button &&& 31)))
def c_X5_presses_s (button : Int32) (r : Nat → Int32) : Nat → Int32 := upd (upd r 18 ((r 18) ||| (1 <<< (button &&& 31)))) 13 (r 6)
set_option maxHeartbeats 1000000 in
set_option maxRecDepth 100000 in
theorem s_X5_presses_0 (d : gD) (a : Nat → Nat) (button : Int32) (r : Nat → Int32) (f : Nat → Int32) (Z : MR)   {X : gX} (E : gE d X RX5 cX5_presses 2 R_X5_presses) (RET : ∀ (pc_ : Nat) (lv_ : List (Nat × Value)) (v_ : Int32) (u_ : va_W), decode cX5_presses pc_ = .ok (.ireturn, 1) → narrow .int (.int v_) = .int v_ → v_ = r_X5_presses button r → u_ = MW d a (pr 0 (c_X5_presses_s button r) f) Z → G d X u_ R_X5_presses.cells R_X5_presses.slots pc_ lv_ [.int v_]) : G d X (MW d a (pr 0 r f) Z) 0 0 0 [(0, .ref (a 0)), (1, .int button)] [] := by
  refine g_aload_n E 0 dX5_presses_0 rfl rfl ?_
  refine g_get E (ci := 5) inlX5 0 rfl rfl 0 (by decide) fl_X5_7 rfl (.ref (a 1)) rfl dX5_presses_1 ?_
  refine g_bipush E 18 dX5_presses_4 (by decide) ?_
  refine g_dup2 E dX5_presses_6 rfl rfl ?_
  refine g_mget E (p := 0) (r := r) (f := f) 1 rfl rfl 18 (show (18 : Int32) = nI (0 + 18) from by rw [Nat.zero_add]; rfl) (by decide) (by omega) dX5_presses_7 ?_
  refine g_top (b := r 18) rfl ?_
  refine g_iconst E 1 dX5_presses_8 (by decide) ?_
  refine g_iload_n E 1 dX5_presses_9 rfl rfl ?_
  refine g_ishl E dX5_presses_10 ?_
  refine g_ior E dX5_presses_11 ?_
  refine g_mput E (p := 0) (r := r) (f := f) 1 rfl rfl 18 (show (18 : Int32) = nI (0 + 18) from by rw [Nat.zero_add]; rfl) (by decide) (by omega) (ws' := MW d a (pr 0 (upd r 18 ((r 18) ||| (1 <<< (button &&& 31)))) f) Z) rfl dX5_presses_12 ?_
  refine g_aload_n E 0 dX5_presses_13 rfl rfl ?_
  refine g_get E (ci := 5) inlX5 0 rfl rfl 0 (by decide) fl_X5_7 rfl (.ref (a 1)) rfl dX5_presses_14 ?_
  refine g_bipush E 13 dX5_presses_17 (by decide) ?_
  refine g_aload_n E 0 dX5_presses_19 rfl rfl ?_
  refine g_get E (ci := 5) inlX5 0 rfl rfl 0 (by decide) fl_X5_7 rfl (.ref (a 1)) rfl dX5_presses_20 ?_
  refine g_bipush E 6 dX5_presses_23 (by decide) ?_
  refine g_mget E (p := 0) (r := (upd r 18 ((r 18) ||| (1 <<< (button &&& 31))))) (f := f) 1 rfl rfl 6 (show (6 : Int32) = nI (0 + 6) from by rw [Nat.zero_add]; rfl) (by decide) (by omega) dX5_presses_25 ?_
  refine g_top (b := r 6) rfl ?_
  refine g_mput E (p := 0) (r := (upd r 18 ((r 18) ||| (1 <<< (button &&& 31))))) (f := f) 1 rfl rfl 13 (show (13 : Int32) = nI (0 + 13) from by rw [Nat.zero_add]; rfl) (by decide) (by omega) (ws' := MW d a (pr 0 (upd (upd r 18 ((r 18) ||| (1 <<< (button &&& 31)))) 13 (r 6)) f) Z) rfl dX5_presses_26 ?_
  refine g_aload_n E 0 dX5_presses_27 rfl rfl ?_
  refine g_get E (ci := 5) inlX5 0 rfl rfl 0 (by decide) fl_X5_7 rfl (.ref (a 1)) rfl dX5_presses_28 ?_
  refine g_bipush E 18 dX5_presses_31 (by decide) ?_
  refine g_mget E (p := 0) (r := (upd (upd r 18 ((r 18) ||| (1 <<< (button &&& 31)))) 13 (r 6))) (f := f) 1 rfl rfl 18 (show (18 : Int32) = nI (0 + 18) from by rw [Nat.zero_add]; rfl) (by decide) (by omega) dX5_presses_33 ?_
  refine g_top (b := ((r 18) ||| (1 <<< (button &&& 31)))) rfl ?_
  exact RET 34 _ ((r 18) ||| (1 <<< (button &&& 31))) _ dX5_presses_34 rfl (by rw [r_X5_presses]) (by rw [c_X5_presses_s])
set_option maxHeartbeats 1000000 in
set_option maxRecDepth 100000 in
theorem t_X5_presses (d : gD) (a : Nat → Nat) (button : Int32) (r : Nat → Int32) (f : Nat → Int32) (Z : MR)  : gMi d yX5_presses cX5_presses 2 (some .int) R_X5_presses [.ref (a 0), .int button] (MW d a (pr 0 r f) Z) (fun r_ u_ => r_ = r_X5_presses button r ∧ u_ = MW d a (pr 0 (c_X5_presses_s button r) f) Z) :=
  g_met_i RX5 rfl (by decide +kernel) (Nat.le_of_ble_eq_true rfl) [(0, .ref (a 0)), (1, .int button)] rfl (fun X E RET => s_X5_presses_0 d a button r f Z  E (fun pc_ lv_ v_ u_ h1_ h2_ h3_ h4_ => RET pc_ lv_ v_ u_ h1_ h2_ ⟨h3_, h4_⟩))
abbrev R_X5_letsUp : Room := { frames := 0, cells := 0, slots := 0, locals := 0 }
def r_X5_letsUp (button : Int32) (r : Nat → Int32) : Int32 := ((r 18) &&& ((1 <<< (button &&& 31)) ^^^ (-1)))
def c_X5_letsUp_s (button : Int32) (r : Nat → Int32) : Nat → Int32 := upd r 18 ((r 18) &&& ((1 <<< (button &&& 31)) ^^^ (-1)))
set_option maxHeartbeats 1000000 in
set_option maxRecDepth 100000 in
theorem s_X5_letsUp_0 (d : gD) (a : Nat → Nat) (button : Int32) (r : Nat → Int32) (f : Nat → Int32) (Z : MR)   {X : gX} (E : gE d X RX5 cX5_letsUp 2 R_X5_letsUp) (RET : ∀ (pc_ : Nat) (lv_ : List (Nat × Value)) (v_ : Int32) (u_ : va_W), decode cX5_letsUp pc_ = .ok (.ireturn, 1) → narrow .int (.int v_) = .int v_ → v_ = r_X5_letsUp button r → u_ = MW d a (pr 0 (c_X5_letsUp_s button r) f) Z → G d X u_ R_X5_letsUp.cells R_X5_letsUp.slots pc_ lv_ [.int v_]) : G d X (MW d a (pr 0 r f) Z) 0 0 0 [(0, .ref (a 0)), (1, .int button)] [] := by
  refine g_aload_n E 0 dX5_letsUp_0 rfl rfl ?_
  refine g_get E (ci := 5) inlX5 0 rfl rfl 0 (by decide) fl_X5_7 rfl (.ref (a 1)) rfl dX5_letsUp_1 ?_
  refine g_bipush E 18 dX5_letsUp_4 (by decide) ?_
  refine g_dup2 E dX5_letsUp_6 rfl rfl ?_
  refine g_mget E (p := 0) (r := r) (f := f) 1 rfl rfl 18 (show (18 : Int32) = nI (0 + 18) from by rw [Nat.zero_add]; rfl) (by decide) (by omega) dX5_letsUp_7 ?_
  refine g_top (b := r 18) rfl ?_
  refine g_iconst E 1 dX5_letsUp_8 (by decide) ?_
  refine g_iload_n E 1 dX5_letsUp_9 rfl rfl ?_
  refine g_ishl E dX5_letsUp_10 ?_
  refine g_iconst E (-1) dX5_letsUp_11 (by decide) ?_
  refine g_ixor E dX5_letsUp_12 ?_
  refine g_iand E dX5_letsUp_13 ?_
  refine g_mput E (p := 0) (r := r) (f := f) 1 rfl rfl 18 (show (18 : Int32) = nI (0 + 18) from by rw [Nat.zero_add]; rfl) (by decide) (by omega) (ws' := MW d a (pr 0 (upd r 18 ((r 18) &&& ((1 <<< (button &&& 31)) ^^^ (-1)))) f) Z) rfl dX5_letsUp_14 ?_
  refine g_aload_n E 0 dX5_letsUp_15 rfl rfl ?_
  refine g_get E (ci := 5) inlX5 0 rfl rfl 0 (by decide) fl_X5_7 rfl (.ref (a 1)) rfl dX5_letsUp_16 ?_
  refine g_bipush E 18 dX5_letsUp_19 (by decide) ?_
  refine g_mget E (p := 0) (r := (upd r 18 ((r 18) &&& ((1 <<< (button &&& 31)) ^^^ (-1))))) (f := f) 1 rfl rfl 18 (show (18 : Int32) = nI (0 + 18) from by rw [Nat.zero_add]; rfl) (by decide) (by omega) dX5_letsUp_21 ?_
  refine g_top (b := ((r 18) &&& ((1 <<< (button &&& 31)) ^^^ (-1)))) rfl ?_
  exact RET 22 _ ((r 18) &&& ((1 <<< (button &&& 31)) ^^^ (-1))) _ dX5_letsUp_22 rfl (by rw [r_X5_letsUp]) (by rw [c_X5_letsUp_s])
set_option maxHeartbeats 1000000 in
set_option maxRecDepth 100000 in
theorem t_X5_letsUp (d : gD) (a : Nat → Nat) (button : Int32) (r : Nat → Int32) (f : Nat → Int32) (Z : MR)  : gMi d yX5_letsUp cX5_letsUp 2 (some .int) R_X5_letsUp [.ref (a 0), .int button] (MW d a (pr 0 r f) Z) (fun r_ u_ => r_ = r_X5_letsUp button r ∧ u_ = MW d a (pr 0 (c_X5_letsUp_s button r) f) Z) :=
  g_met_i RX5 rfl (by decide +kernel) (Nat.le_of_ble_eq_true rfl) [(0, .ref (a 0)), (1, .int button)] rfl (fun X E RET => s_X5_letsUp_0 d a button r f Z  E (fun pc_ lv_ v_ u_ h1_ h2_ h3_ h4_ => RET pc_ lv_ v_ u_ h1_ h2_ ⟨h3_, h4_⟩))
abbrev R_X5_remembers : Room := { frames := 0, cells := 0, slots := 0, locals := 0 }
def c_X5_remembers_past_at51 (r : Nat → Int32) (past : Nat → Int32) (kk : Nat) : Nat → (Nat) → (Nat → Int32) → (Nat) → Nat → Int32
  | 0, _, past1, _ => past1
  | n + 1, k, past1, k1 => if (nI k) < 61 then (c_X5_remembers_past_at51 r past kk n (k + 1) (upd past1 (61 * k1 + k) (r k)) k1) else past1
def c_X5_remembers_kn_at51 (r : Nat → Int32) (past : Nat → Int32) (kk : Nat) : Nat → (Nat) → (Nat → Int32) → (Nat) → Int32
  | 0, _, _, _ => 0
  | n + 1, k, past1, k1 => if (nI k) < 61 then (c_X5_remembers_kn_at51 r past kk n (k + 1) (upd past1 (61 * k1 + k) (r k)) k1) else (nI (k1 + 1))
def c_X5_remembers_past_at11 (r : Nat → Int32) (past : Nat → Int32) (kk : Nat) : Nat → (Nat) → (Nat → Int32) → Nat → Int32
  | 0, _, past1 => past1
  | n + 1, k, past1 => if (nI k) < 305 then (c_X5_remembers_past_at11 r past kk n (k + 1) (upd past1 k (past1 (61 + k)))) else (c_X5_remembers_past_at51 r past kk 62 0 past1 5)
def c_X5_remembers_kn_at11 (r : Nat → Int32) (past : Nat → Int32) (kk : Nat) : Nat → (Nat) → (Nat → Int32) → Int32
  | 0, _, _ => 0
  | n + 1, k, past1 => if (nI k) < 305 then (c_X5_remembers_kn_at11 r past kk n (k + 1) (upd past1 k (past1 (61 + k)))) else (c_X5_remembers_kn_at51 r past kk 62 0 past1 5)
def c_X5_remembers_past (r : Nat → Int32) (past : Nat → Int32) (kk : Nat) : Nat → Int32 := if (nI kk) = 6 then (c_X5_remembers_past_at11 r past kk 306 0 past) else (c_X5_remembers_past_at51 r past kk 62 0 past kk)
def c_X5_remembers_kn (r : Nat → Int32) (past : Nat → Int32) (kk : Nat) : Int32 := if (nI kk) = 6 then (c_X5_remembers_kn_at11 r past kk 306 0 past) else (c_X5_remembers_kn_at51 r past kk 62 0 past kk)
set_option maxHeartbeats 1000000 in
set_option maxRecDepth 100000 in
theorem s_X5_remembers_51 (d : gD) (a : Nat → Nat) (r : Nat → Int32) (f : Nat → Int32) (past : Nat → Int32) (kk : Nat) (sl : Nat → Int32) (sv : Nat → Int32) (pd : Nat → Int32) (ln : Int32) (hkk : kk ≤ 6) {X : gX} (E : gE d X RX5 cX5_remembers 2 R_X5_remembers) : ∀ (n : Nat) (k : Nat) (past1 : Nat → Int32) (k1 : Nat) (hk : k ≤ 61) (hk1 : k1 ≤ 5) (hm : 61 - k < n) (RET : ∀ (pc_ : Nat) (lv_ : List (Nat × Value)) (u_ : va_W), decode cX5_remembers pc_ = .ok (.return_, 1) → u_ = MW d a (pr 0 r f) ((c_X5_remembers_past_at51 r past kk n k past1 k1), (c_X5_remembers_kn_at51 r past kk n k past1 k1), sl, sv, pd, ln) → G d X u_ R_X5_remembers.cells R_X5_remembers.slots pc_ lv_ []), G d X (MW d a (pr 0 r f) (past1, nI k1, sl, sv, pd, ln)) 0 0 51 [(0, .ref (a 0)), (1, .int (nI k))] [] := by
  intro n
  induction n with
  | zero => intro k past1 k1 hk hk1 hm; omega
  | succ n ih =>
    intro k past1 k1 hk hk1 hm RET
    refine g_iload_n E 1 dX5_remembers_51 rfl rfl ?_
    refine g_bipush E 61 dX5_remembers_52 (by decide) ?_
    refine g_icmpge E 83 dX5_remembers_54 (by decide) (fun c_54 => ?_) (fun c_54 => ?_)
    · skip
      refine g_aload_n E 0 dX5_remembers_83 rfl rfl ?_
      refine g_dup E dX5_remembers_84 rfl ?_
      refine g_get E (ci := 5) inlX5 0 rfl rfl 2 (by decide) fl_X5_30 rfl (.int (nI k1)) rfl dX5_remembers_85 ?_
      refine g_iconst E 1 dX5_remembers_88 (by decide) ?_
      refine g_iadd E dX5_remembers_89 ?_
      refine g_top (nI_add k1 1) ?_
      refine g_put E (ci := 5) inlX5 0 rfl rfl 2 (by decide) tyX5 tyX5_ok nmX5 fl_X5_30 rfl rfl rfl rfl (ok_lt rfl) (ws' := MW d a (pr 0 r f) (past1, nI (k1 + 1), sl, sv, pd, ln)) rfl dX5_remembers_90 ?_
      exact RET 93 _ _ dX5_remembers_93 (by rw [c_X5_remembers_past_at51, if_neg c_54, c_X5_remembers_kn_at51, if_neg c_54])
    · skip
      have k54 : k < 61 := (nI_ltI (a := k) (b := 61) (by omega) (by omega)).mp c_54
      refine g_aload_n E 0 dX5_remembers_57 rfl rfl ?_
      refine g_get E (ci := 5) inlX5 0 rfl rfl 1 (by decide) fl_X5_13 rfl (.ref (a 2)) rfl dX5_remembers_58 ?_
      refine g_bipush E 61 dX5_remembers_61 (by decide) ?_
      refine g_aload_n E 0 dX5_remembers_63 rfl rfl ?_
      refine g_get E (ci := 5) inlX5 0 rfl rfl 2 (by decide) fl_X5_30 rfl (.int (nI k1)) rfl dX5_remembers_64 ?_
      refine g_imul E dX5_remembers_67 ?_
      refine g_top (pk_mul 61 k1) ?_
      refine g_iload_n E 1 dX5_remembers_68 rfl rfl ?_
      refine g_iadd E dX5_remembers_69 ?_
      refine g_top (nI_add (61 * k1) k) ?_
      refine g_aload_n E 0 dX5_remembers_70 rfl rfl ?_
      refine g_get E (ci := 5) inlX5 0 rfl rfl 0 (by decide) fl_X5_7 rfl (.ref (a 1)) rfl dX5_remembers_71 ?_
      refine g_iload_n E 1 dX5_remembers_74 rfl rfl ?_
      refine g_mget E (p := 0) (r := r) (f := f) 1 rfl rfl k (by rw [Nat.zero_add]) (by omega) (by omega) dX5_remembers_75 ?_
      refine g_top (b := r k) rfl ?_
      refine g_iast E 2 rfl rfl (61 * k1 + k) rfl (by omega) (by decide) (ws' := MW d a (pr 0 r f) (upd past1 (61 * k1 + k) (r k), nI k1, sl, sv, pd, ln)) rfl dX5_remembers_76 ?_
      refine g_iinc E (j := 1) (v := (nI (k + 1))) (lv' := [(1, .int (nI (k + 1))), (0, .ref (a 0))]) dX5_remembers_77 rfl (nI_1 _) (by decide) rfl ?_
      refine g_goto E 51 dX5_remembers_80 (by decide) ?_
      refine g_lvs (lv' := [(0, .ref (a 0)), (1, .int (nI (k + 1)))]) [1, 0] rfl ?_
      exact ih (k + 1) (upd past1 (61 * k1 + k) (r k)) k1 (by omega) hk1 (by omega) (fun pc_ lv_ u_ h1_ h2_ => RET pc_ lv_ u_ h1_ (h2_.trans (by rw [c_X5_remembers_past_at51, if_pos c_54, c_X5_remembers_kn_at51, if_pos c_54])))
set_option maxHeartbeats 1000000 in
set_option maxRecDepth 100000 in
theorem s_X5_remembers_11 (d : gD) (a : Nat → Nat) (r : Nat → Int32) (f : Nat → Int32) (past : Nat → Int32) (kk : Nat) (sl : Nat → Int32) (sv : Nat → Int32) (pd : Nat → Int32) (ln : Int32) (hkk : kk ≤ 6) {X : gX} (E : gE d X RX5 cX5_remembers 2 R_X5_remembers) : ∀ (n : Nat) (k : Nat) (past1 : Nat → Int32) (hk : k ≤ 305) (h6 : kk = 6) (hm : 305 - k < n) (RET : ∀ (pc_ : Nat) (lv_ : List (Nat × Value)) (u_ : va_W), decode cX5_remembers pc_ = .ok (.return_, 1) → u_ = MW d a (pr 0 r f) ((c_X5_remembers_past_at11 r past kk n k past1), (c_X5_remembers_kn_at11 r past kk n k past1), sl, sv, pd, ln) → G d X u_ R_X5_remembers.cells R_X5_remembers.slots pc_ lv_ []), G d X (MW d a (pr 0 r f) (past1, nI kk, sl, sv, pd, ln)) 0 0 11 [(0, .ref (a 0)), (1, .int (nI k))] [] := by
  intro n
  induction n with
  | zero => intro k past1 hk h6 hm; omega
  | succ n ih =>
    intro k past1 hk h6 hm RET
    refine g_iload_n E 1 dX5_remembers_11 rfl rfl ?_
    refine g_sipush E 305 dX5_remembers_12 (by decide) ?_
    refine g_icmpge E 39 dX5_remembers_15 (by decide) (fun c_15 => ?_) (fun c_15 => ?_)
    · skip
      refine g_aload_n E 0 dX5_remembers_39 rfl rfl ?_
      refine g_dup E dX5_remembers_40 rfl ?_
      refine g_get E (ci := 5) inlX5 0 rfl rfl 2 (by decide) fl_X5_30 rfl (.int (nI kk)) rfl dX5_remembers_41 ?_
      refine g_iconst E 1 dX5_remembers_44 (by decide) ?_
      refine g_isub E dX5_remembers_45 ?_
      refine g_top (b := (nI 5)) (by rw [h6]; rfl) ?_
      refine g_put E (ci := 5) inlX5 0 rfl rfl 2 (by decide) tyX5 tyX5_ok nmX5 fl_X5_30 rfl rfl rfl rfl (ok_lt rfl) (ws' := MW d a (pr 0 r f) (past1, nI 5, sl, sv, pd, ln)) rfl dX5_remembers_46 ?_
      refine g_iconst E 0 dX5_remembers_49 (by decide) ?_
      refine g_istore_n E (lv' := [(1, .int 0), (0, .ref (a 0))]) dX5_remembers_50 rfl (by decide) rfl ?_
      refine g_lvs (lv' := [(0, .ref (a 0)), (1, .int 0)]) [1, 0] rfl ?_
      exact s_X5_remembers_51 d a r f past kk sl sv pd ln hkk E 62 0 past1 5 (by omega) (by first | exact ne6 hkk c_6 | omega) (by omega) (fun pc_ lv_ u_ h1_ h2_ => RET pc_ lv_ u_ h1_ (h2_.trans (by rw [c_X5_remembers_past_at11, if_neg c_15, c_X5_remembers_kn_at11, if_neg c_15])))
    · skip
      have k15 : k < 305 := (nI_ltI (a := k) (b := 305) (by omega) (by omega)).mp c_15
      refine g_aload_n E 0 dX5_remembers_18 rfl rfl ?_
      refine g_get E (ci := 5) inlX5 0 rfl rfl 1 (by decide) fl_X5_13 rfl (.ref (a 2)) rfl dX5_remembers_19 ?_
      refine g_iload_n E 1 dX5_remembers_22 rfl rfl ?_
      refine g_aload_n E 0 dX5_remembers_23 rfl rfl ?_
      refine g_get E (ci := 5) inlX5 0 rfl rfl 1 (by decide) fl_X5_13 rfl (.ref (a 2)) rfl dX5_remembers_24 ?_
      refine g_bipush E 61 dX5_remembers_27 (by decide) ?_
      refine g_iload_n E 1 dX5_remembers_29 rfl rfl ?_
      refine g_iadd E dX5_remembers_30 ?_
      refine g_top (nI_add 61 k) ?_
      refine g_iald E 2 rfl rfl (61 + k) rfl (by omega) (by decide) dX5_remembers_31 ?_
      refine g_iast E 2 rfl rfl k rfl (by omega) (by decide) (ws' := MW d a (pr 0 r f) (upd past1 k (past1 (61 + k)), nI kk, sl, sv, pd, ln)) rfl dX5_remembers_32 ?_
      refine g_iinc E (j := 1) (v := (nI (k + 1))) (lv' := [(1, .int (nI (k + 1))), (0, .ref (a 0))]) dX5_remembers_33 rfl (nI_1 _) (by decide) rfl ?_
      refine g_goto E 11 dX5_remembers_36 (by decide) ?_
      refine g_lvs (lv' := [(0, .ref (a 0)), (1, .int (nI (k + 1)))]) [1, 0] rfl ?_
      exact ih (k + 1) (upd past1 k (past1 (61 + k))) (by omega) h6 (by omega) (fun pc_ lv_ u_ h1_ h2_ => RET pc_ lv_ u_ h1_ (h2_.trans (by rw [c_X5_remembers_past_at11, if_pos c_15, c_X5_remembers_kn_at11, if_pos c_15])))
set_option maxHeartbeats 1000000 in
set_option maxRecDepth 100000 in
theorem s_X5_remembers_0 (d : gD) (a : Nat → Nat) (r : Nat → Int32) (f : Nat → Int32) (past : Nat → Int32) (kk : Nat) (sl : Nat → Int32) (sv : Nat → Int32) (pd : Nat → Int32) (ln : Int32) (hkk : kk ≤ 6)  {X : gX} (E : gE d X RX5 cX5_remembers 2 R_X5_remembers) (RET : ∀ (pc_ : Nat) (lv_ : List (Nat × Value)) (u_ : va_W), decode cX5_remembers pc_ = .ok (.return_, 1) → u_ = MW d a (pr 0 r f) ((c_X5_remembers_past r past kk), (c_X5_remembers_kn r past kk), sl, sv, pd, ln) → G d X u_ R_X5_remembers.cells R_X5_remembers.slots pc_ lv_ []) : G d X (MW d a (pr 0 r f) (past, nI kk, sl, sv, pd, ln)) 0 0 0 [(0, .ref (a 0))] [] := by
  refine g_aload_n E 0 dX5_remembers_0 rfl rfl ?_
  refine g_get E (ci := 5) inlX5 0 rfl rfl 2 (by decide) fl_X5_30 rfl (.int (nI kk)) rfl dX5_remembers_1 ?_
  refine g_bipush E 6 dX5_remembers_4 (by decide) ?_
  refine g_icmpne E 49 dX5_remembers_6 (by decide) (fun c_6 => ?_) (fun c_6 => ?_)
  · skip
    refine g_iconst E 0 dX5_remembers_49 (by decide) ?_
    refine g_istore_n E (lv' := [(1, .int 0), (0, .ref (a 0))]) dX5_remembers_50 rfl (by decide) rfl ?_
    refine g_lvs (lv' := [(0, .ref (a 0)), (1, .int 0)]) [1, 0] rfl ?_
    exact s_X5_remembers_51 d a r f past kk sl sv pd ln hkk E 62 0 past kk (by omega) (by first | exact ne6 hkk c_6 | omega) (by omega) (fun pc_ lv_ u_ h1_ h2_ => RET pc_ lv_ u_ h1_ (h2_.trans (by rw [c_X5_remembers_past, if_neg c_6, c_X5_remembers_kn, if_neg c_6])))
  · skip
    refine g_iconst E 0 dX5_remembers_9 (by decide) ?_
    refine g_istore_n E (lv' := [(1, .int 0), (0, .ref (a 0))]) dX5_remembers_10 rfl (by decide) rfl ?_
    refine g_lvs (lv' := [(0, .ref (a 0)), (1, .int 0)]) [1, 0] rfl ?_
    exact s_X5_remembers_11 d a r f past kk sl sv pd ln hkk E 306 0 past (by omega) (eq6 hkk c_6) (by omega) (fun pc_ lv_ u_ h1_ h2_ => RET pc_ lv_ u_ h1_ (h2_.trans (by rw [c_X5_remembers_past, if_pos c_6, c_X5_remembers_kn, if_pos c_6])))
set_option maxHeartbeats 1000000 in
set_option maxRecDepth 100000 in
theorem t_X5_remembers (d : gD) (a : Nat → Nat) (r : Nat → Int32) (f : Nat → Int32) (past : Nat → Int32) (kk : Nat) (sl : Nat → Int32) (sv : Nat → Int32) (pd : Nat → Int32) (ln : Int32) (hkk : kk ≤ 6) : gMv d yX5_remembers cX5_remembers 2 R_X5_remembers [.ref (a 0)] (MW d a (pr 0 r f) (past, nI kk, sl, sv, pd, ln)) (fun u_ => u_ = MW d a (pr 0 r f) ((c_X5_remembers_past r past kk), (c_X5_remembers_kn r past kk), sl, sv, pd, ln)) :=
  g_met_v RX5 rfl (by decide +kernel) (Nat.le_of_ble_eq_true rfl) [(0, .ref (a 0))] rfl (fun X E _ RET => s_X5_remembers_0 d a r f past kk sl sv pd ln hkk E (fun pc_ lv_ u_ h1_ h2_ => RET pc_ lv_ u_ h1_ h2_))
/-- what 'past' is behind remembers() -/
def pastK (r past : Nat → Int32) (kk : Nat) : Nat → Int32 := fun j => if kk = 6 then (if j < 305 then past (61 + j) else if j < 366 then r (j - 305) else past j) else if 61 * kk ≤ j ∧ j < 61 * kk + 61 then r (j - 61 * kk) else past j
def kn1 (kk : Nat) : Nat := if kk = 6 then 6 else kk + 1
theorem rem51 (r past : Nat → Int32) (kk : Nat) : ∀ (n k : Nat) (P : Nat → Int32) (k1 : Nat), k ≤ 61 → 61 - k < n → c_X5_remembers_past_at51 r past kk n k P k1 = (fun j => if 61 * k1 + k ≤ j ∧ j < 61 * k1 + 61 then r (j - 61 * k1) else P j) ∧ c_X5_remembers_kn_at51 r past kk n k P k1 = nI (k1 + 1) := by
  intro n
  induction n with
  | zero => intro k P k1 hk h; omega
  | succ n ih =>
    intro k P k1 hk h
    rw [c_X5_remembers_past_at51, c_X5_remembers_kn_at51]
    by_cases c : nI k < 61
    · have hk2 : k < 61 := (nI_ltI (a := k) (b := 61) (by omega) (by omega)).mp c
      rw [if_pos c, if_pos c]
      obtain ⟨e1, e2⟩ := ih (k + 1) (upd P ((61 * k1) + k) (r k)) k1 (by omega) (by omega)
      refine ⟨?_, e2⟩
      rw [e1]
      funext j
      by_cases h1 : 61 * k1 + (k + 1) ≤ j ∧ j < 61 * k1 + 61
      · rw [if_pos h1, if_pos (by omega)]
      · rw [if_neg h1]
        by_cases h2 : j = 61 * k1 + k
        · subst h2
          rw [if_pos (by omega), Nat.add_sub_cancel_left]
          exact if_pos rfl
        · rw [if_neg (by omega)]
          exact if_neg h2
    · have hk2 : ¬ k < 61 := fun q => c ((nI_ltI (a := k) (b := 61) (by omega) (by omega)).mpr q)
      rw [if_neg c, if_neg c]
      refine ⟨?_, rfl⟩
      funext j
      rw [if_neg (by omega)]
theorem rem11 (r past : Nat → Int32) : ∀ (n k : Nat) (P : Nat → Int32), k ≤ 305 → 305 - k < n → c_X5_remembers_past_at11 r past 6 n k P = (fun j => if j < k then P j else if j < 305 then P (61 + j) else if j < 366 then r (j - 305) else P j) ∧ c_X5_remembers_kn_at11 r past 6 n k P = nI 6 := by
  intro n
  induction n with
  | zero => intro k P hk h; omega
  | succ n ih =>
    intro k P hk h
    rw [c_X5_remembers_past_at11, c_X5_remembers_kn_at11]
    by_cases c : nI k < 305
    · have hk2 : k < 305 := (nI_ltI (a := k) (b := 305) (by omega) (by omega)).mp c
      rw [if_pos c, if_pos c]
      obtain ⟨e1, e2⟩ := ih (k + 1) (upd P k (P (61 + k))) (by omega) (by omega)
      refine ⟨?_, e2⟩
      rw [e1]
      funext j
      by_cases h1 : j < k + 1
      · rw [if_pos h1]
        by_cases h2 : j = k
        · subst h2
          rw [if_neg (by omega), if_pos hk2]
          exact if_pos rfl
        · rw [if_pos (by omega)]
          exact if_neg h2
      · rw [if_neg h1, if_neg (show ¬ j < k by omega)]
        by_cases h3 : j < 305
        · rw [if_pos h3, if_pos h3]
          exact if_neg (by omega)
        · rw [if_neg h3, if_neg h3]
          by_cases h4 : j < 366
          · rw [if_pos h4, if_pos h4]
          · rw [if_neg h4, if_neg h4]
            exact if_neg (by omega)
    · have hk2 : ¬ k < 305 := fun q => c ((nI_ltI (a := k) (b := 305) (by omega) (by omega)).mpr q)
      rw [if_neg c, if_neg c]
      obtain ⟨e1, e2⟩ := rem51 r past 6 62 0 P 5 (by omega) (by omega)
      refine ⟨?_, e2⟩
      rw [e1]
      funext j
      by_cases h1 : j < k
      · rw [if_pos h1, if_neg (by omega)]
      · rw [if_neg h1, if_neg (show ¬ j < 305 by omega)]
        by_cases h4 : j < 366
        · rw [if_pos h4, if_pos (by omega)]
        · rw [if_neg h4, if_neg (by omega)]
theorem rem_eq (r past : Nat → Int32) {kk : Nat} (hkk : kk ≤ 6) : c_X5_remembers_past r past kk = pastK r past kk ∧ c_X5_remembers_kn r past kk = nI (kn1 kk) := by
  unfold c_X5_remembers_past c_X5_remembers_kn pastK kn1
  by_cases c : nI kk = 6
  · have h6 := eq6 hkk c
    subst h6
    rw [if_pos c, if_pos c]
    obtain ⟨e1, e2⟩ := rem11 r past 306 0 past (by omega) (by omega)
    refine ⟨?_, by rw [e2, if_pos rfl]⟩
    rw [e1]
    funext j
    rw [if_neg (by omega), if_pos rfl]
  · have h5 := ne6 hkk c
    rw [if_neg c, if_neg c]
    obtain ⟨e1, e2⟩ := rem51 r past kk 62 0 past kk (by omega) (by omega)
    refine ⟨?_, by rw [e2, if_neg (by omega)]⟩
    rw [e1]
    funext j
    show (if 61 * kk + 0 ≤ j ∧ j < 61 * kk + 61 then r (j - 61 * kk) else past j) = _
    rw [if_neg (show ¬ kk = 6 by omega)]
    rfl
theorem t2_X5_remembers (d : gD) (a : Nat → Nat) (r f past : Nat → Int32) (kk : Nat) (sl sv pd : Nat → Int32) (ln : Int32) (hkk : kk ≤ 6) : gMv d yX5_remembers cX5_remembers 2 R_X5_remembers [.ref (a 0)] (MW d a (pr 0 r f) (past, nI kk, sl, sv, pd, ln)) (fun u_ => u_ = MW d a (pr 0 r f) (pastK r past kk, nI (kn1 kk), sl, sv, pd, ln)) := by
  have h := t_X5_remembers d a r f past kk sl sv pd ln hkk
  rw [(rem_eq r past hkk).1, (rem_eq r past hkk).2] at h
  exact h
abbrev R_X5_set : Room := { frames := 1, cells := 0, slots := 0, locals := 22 }
def r_X5_set (setting : Int32) (value : Int32) (r : Nat → Int32) (past : Nat → Int32) (kk : Nat) : Int32 := if (r_X5_in setting 0 6) = 0 then (-2) else (if (r_X5_in value (r_X5_lowOf setting) (r_X5_highOf setting)) = 0 then (-2) else (r setting.toNatClampNeg))
def c_X5_set_s (setting : Int32) (value : Int32) (r : Nat → Int32) (past : Nat → Int32) (kk : Nat) : Nat → Int32 := if (r_X5_in setting 0 6) = 0 then r else (if (r_X5_in value (r_X5_lowOf setting) (r_X5_highOf setting)) = 0 then r else (if setting = 1 then (upd (upd r setting.toNatClampNeg value) 9 ((upd r setting.toNatClampNeg value) 1)) else (if setting = 2 then (upd (upd r setting.toNatClampNeg value) 9 ((upd r setting.toNatClampNeg value) 1)) else (upd r setting.toNatClampNeg value))))
def c_X5_set_past (setting : Int32) (value : Int32) (r : Nat → Int32) (past : Nat → Int32) (kk : Nat) : Nat → Int32 := if (r_X5_in setting 0 6) = 0 then past else (if (r_X5_in value (r_X5_lowOf setting) (r_X5_highOf setting)) = 0 then past else (pastK r past kk))
def c_X5_set_kn (setting : Int32) (value : Int32) (r : Nat → Int32) (past : Nat → Int32) (kk : Nat) : Int32 := if (r_X5_in setting 0 6) = 0 then (nI kk) else (if (r_X5_in value (r_X5_lowOf setting) (r_X5_highOf setting)) = 0 then (nI kk) else (nI (kn1 kk)))
set_option maxHeartbeats 1000000 in
set_option maxRecDepth 100000 in
theorem s_X5_set_0 (d : gD) (a : Nat → Nat) (setting : Int32) (value : Int32) (r : Nat → Int32) (f : Nat → Int32) (past : Nat → Int32) (kk : Nat) (sl : Nat → Int32) (sv : Nat → Int32) (pd : Nat → Int32) (ln : Int32) (hkk : kk ≤ 6)  {X : gX} (E : gE d X RX5 cX5_set 4 R_X5_set) (RET : ∀ (pc_ : Nat) (lv_ : List (Nat × Value)) (v_ : Int32) (u_ : va_W), decode cX5_set pc_ = .ok (.ireturn, 1) → narrow .int (.int v_) = .int v_ → v_ = r_X5_set setting value r past kk → u_ = MW d a (pr 0 (c_X5_set_s setting value r past kk) f) ((c_X5_set_past setting value r past kk), (c_X5_set_kn setting value r past kk), sl, sv, pd, ln) → G d X u_ R_X5_set.cells R_X5_set.slots pc_ lv_ [.int v_]) : G d X (MW d a (pr 0 r f) (past, nI kk, sl, sv, pd, ln)) 0 0 0 [(0, .ref (a 0)), (1, .int setting), (2, .int value)] [] := by
  refine g_iload_n E 1 dX5_set_0 rfl rfl ?_
  refine g_iconst E 0 dX5_set_1 (by decide) ?_
  refine g_bipush E 6 dX5_set_2 (by decide) ?_
  refine g_callSp E gc_X5_in ml_X5_26 (t_X5_in d setting 0 6 ) rfl rfl rfl (ok_le rfl) ⟨ok_le rfl, ok_le rfl, ok_le rfl, ok_le rfl⟩ rfl rfl dX5_set_4 ?_
  refine g_nm (fun v1_ hv1_ => ?_)
  refine g_ifeq E 25 dX5_set_7 (by decide) (fun c_7 => ?_) (fun c_7 => ?_)
  · skip
    refine g_bipush E (-2) dX5_set_25 (by decide) ?_
    subst hv1_
    exact RET 27 _ (-2) _ dX5_set_27 rfl (by rw [r_X5_set, if_pos c_7]) (by rw [c_X5_set_s, if_pos c_7, c_X5_set_past, if_pos c_7, c_X5_set_kn, if_pos c_7])
  · skip
    refine g_iload_n E 2 dX5_set_10 rfl rfl ?_
    refine g_iload_n E 1 dX5_set_11 rfl rfl ?_
    refine g_callSp E gc_X5_lowOf ml_X5_73 (t_X5_lowOf d setting ) rfl rfl rfl (ok_le rfl) ⟨ok_le rfl, ok_le rfl, ok_le rfl, ok_le rfl⟩ rfl rfl dX5_set_12 ?_
    refine g_nm (fun v2_ hv2_ => ?_)
    refine g_iload_n E 1 dX5_set_15 rfl rfl ?_
    refine g_callSp E gc_X5_highOf ml_X5_76 (t_X5_highOf d setting ) rfl rfl rfl (ok_le rfl) ⟨ok_le rfl, ok_le rfl, ok_le rfl, ok_le rfl⟩ rfl rfl dX5_set_16 ?_
    refine g_nm (fun v3_ hv3_ => ?_)
    refine g_callSp E gc_X5_in ml_X5_26 (t_X5_in d value v2_ v3_ ) rfl rfl rfl (ok_le rfl) ⟨ok_le rfl, ok_le rfl, ok_le rfl, ok_le rfl⟩ rfl rfl dX5_set_19 ?_
    refine g_nm (fun v4_ hv4_ => ?_)
    refine g_ifne E 28 dX5_set_22 (by decide) (fun c_22 => ?_) (fun c_22 => ?_)
    · skip
      have hi7 := in_lo (v := setting) (lo := 0) (hi := 6) (by rw [hv1_]; exact c_7)
      have ks := ix_le (N := 6) hi7.1 hi7.2
      refine g_aload_n E 0 dX5_set_28 rfl rfl ?_
      refine g_callVv0 E gc_X5_remembers ml_X5_79 (t2_X5_remembers d a r f past kk sl sv pd ln (by first | assumption | omega)) rfl rfl (ci := 5) 0 rfl rfl rfl rfl (ok_le rfl) ⟨ok_le rfl, ok_le rfl, ok_le rfl, ok_le rfl⟩ rfl rfl dX5_set_29 ?_
      refine g_aload_n E 0 dX5_set_32 rfl rfl ?_
      refine g_get E (ci := 5) inlX5 0 rfl rfl 0 (by decide) fl_X5_7 rfl (.ref (a 1)) rfl dX5_set_33 ?_
      refine g_iload_n E 1 dX5_set_36 rfl rfl ?_
      refine g_mget E (p := 0) (r := r) (f := f) 1 rfl rfl setting.toNatClampNeg (by rw [Nat.zero_add]; exact ix_eq hi7.1) (by omega) (by omega) dX5_set_37 ?_
      refine g_top (b := r setting.toNatClampNeg) rfl ?_
      refine g_istore_n E (lv' := [(3, .int (r setting.toNatClampNeg)), (0, .ref (a 0)), (1, .int setting), (2, .int value)]) dX5_set_38 rfl (by decide) rfl ?_
      refine g_aload_n E 1 dX5_set_39 rfl rfl ?_
      refine g_get E (ci := 5) inlX5 0 rfl rfl 0 (by decide) fl_X5_7 rfl (.ref (a 1)) rfl dX5_set_40 ?_
      refine g_iload_n E 2 dX5_set_43 rfl rfl ?_
      refine g_iload_n E 3 dX5_set_44 rfl rfl ?_
      refine g_mput E (p := 0) (r := r) (f := f) 1 rfl rfl setting.toNatClampNeg (by rw [Nat.zero_add]; exact ix_eq hi7.1) (by omega) (by omega) (ws' := MW d a (pr 0 (upd r setting.toNatClampNeg value) f) ((pastK r past kk), nI (kn1 kk), sl, sv, pd, ln)) rfl dX5_set_45 ?_
      refine g_iload_n E 2 dX5_set_46 rfl rfl ?_
      refine g_iconst E 1 dX5_set_47 (by decide) ?_
      refine g_icmpeq E 56 dX5_set_48 (by decide) (fun c_48 => ?_) (fun c_48 => ?_)
      · skip
        refine g_aload_n E 1 dX5_set_56 rfl rfl ?_
        refine g_get E (ci := 5) inlX5 0 rfl rfl 0 (by decide) fl_X5_7 rfl (.ref (a 1)) rfl dX5_set_57 ?_
        refine g_bipush E 9 dX5_set_60 (by decide) ?_
        refine g_aload_n E 1 dX5_set_62 rfl rfl ?_
        refine g_get E (ci := 5) inlX5 0 rfl rfl 0 (by decide) fl_X5_7 rfl (.ref (a 1)) rfl dX5_set_63 ?_
        refine g_iconst E 1 dX5_set_66 (by decide) ?_
        refine g_mget E (p := 0) (r := (upd r setting.toNatClampNeg value)) (f := f) 1 rfl rfl 1 (show (1 : Int32) = nI (0 + 1) from by rw [Nat.zero_add]; rfl) (by decide) (by omega) dX5_set_67 ?_
        refine g_top (b := (upd r setting.toNatClampNeg value) 1) rfl ?_
        refine g_mput E (p := 0) (r := (upd r setting.toNatClampNeg value)) (f := f) 1 rfl rfl 9 (show (9 : Int32) = nI (0 + 9) from by rw [Nat.zero_add]; rfl) (by decide) (by omega) (ws' := MW d a (pr 0 (upd (upd r setting.toNatClampNeg value) 9 ((upd r setting.toNatClampNeg value) 1)) f) ((pastK r past kk), nI (kn1 kk), sl, sv, pd, ln)) rfl dX5_set_68 ?_
        refine g_iload_n E 0 dX5_set_69 rfl rfl ?_
        subst hv4_
        subst hv3_
        subst hv2_
        subst hv1_
        exact RET 70 _ (r setting.toNatClampNeg) _ dX5_set_70 rfl (by rw [r_X5_set, if_neg c_7, if_neg c_22]) (by rw [c_X5_set_s, if_neg c_7, if_neg c_22, if_pos c_48, c_X5_set_past, if_neg c_7, if_neg c_22, c_X5_set_kn, if_neg c_7, if_neg c_22])
      · skip
        refine g_iload_n E 2 dX5_set_51 rfl rfl ?_
        refine g_iconst E 2 dX5_set_52 (by decide) ?_
        refine g_icmpne E 69 dX5_set_53 (by decide) (fun c_53 => ?_) (fun c_53 => ?_)
        · skip
          refine g_iload_n E 0 dX5_set_69 rfl rfl ?_
          subst hv4_
          subst hv3_
          subst hv2_
          subst hv1_
          exact RET 70 _ (r setting.toNatClampNeg) _ dX5_set_70 rfl (by rw [r_X5_set, if_neg c_7, if_neg c_22]) (by rw [c_X5_set_s, if_neg c_7, if_neg c_22, if_neg c_48, if_neg c_53, c_X5_set_past, if_neg c_7, if_neg c_22, c_X5_set_kn, if_neg c_7, if_neg c_22])
        · skip
          refine g_aload_n E 1 dX5_set_56 rfl rfl ?_
          refine g_get E (ci := 5) inlX5 0 rfl rfl 0 (by decide) fl_X5_7 rfl (.ref (a 1)) rfl dX5_set_57 ?_
          refine g_bipush E 9 dX5_set_60 (by decide) ?_
          refine g_aload_n E 1 dX5_set_62 rfl rfl ?_
          refine g_get E (ci := 5) inlX5 0 rfl rfl 0 (by decide) fl_X5_7 rfl (.ref (a 1)) rfl dX5_set_63 ?_
          refine g_iconst E 1 dX5_set_66 (by decide) ?_
          refine g_mget E (p := 0) (r := (upd r setting.toNatClampNeg value)) (f := f) 1 rfl rfl 1 (show (1 : Int32) = nI (0 + 1) from by rw [Nat.zero_add]; rfl) (by decide) (by omega) dX5_set_67 ?_
          refine g_top (b := (upd r setting.toNatClampNeg value) 1) rfl ?_
          refine g_mput E (p := 0) (r := (upd r setting.toNatClampNeg value)) (f := f) 1 rfl rfl 9 (show (9 : Int32) = nI (0 + 9) from by rw [Nat.zero_add]; rfl) (by decide) (by omega) (ws' := MW d a (pr 0 (upd (upd r setting.toNatClampNeg value) 9 ((upd r setting.toNatClampNeg value) 1)) f) ((pastK r past kk), nI (kn1 kk), sl, sv, pd, ln)) rfl dX5_set_68 ?_
          refine g_iload_n E 0 dX5_set_69 rfl rfl ?_
          subst hv4_
          subst hv3_
          subst hv2_
          subst hv1_
          exact RET 70 _ (r setting.toNatClampNeg) _ dX5_set_70 rfl (by rw [r_X5_set, if_neg c_7, if_neg c_22]) (by rw [c_X5_set_s, if_neg c_7, if_neg c_22, if_neg c_48, if_pos c_53, c_X5_set_past, if_neg c_7, if_neg c_22, c_X5_set_kn, if_neg c_7, if_neg c_22])
    · skip
      refine g_bipush E (-2) dX5_set_25 (by decide) ?_
      subst hv4_
      subst hv3_
      subst hv2_
      subst hv1_
      exact RET 27 _ (-2) _ dX5_set_27 rfl (by rw [r_X5_set, if_neg c_7, if_pos c_22]) (by rw [c_X5_set_s, if_neg c_7, if_pos c_22, c_X5_set_past, if_neg c_7, if_pos c_22, c_X5_set_kn, if_neg c_7, if_pos c_22])
set_option maxHeartbeats 1000000 in
set_option maxRecDepth 100000 in
theorem t_X5_set (d : gD) (a : Nat → Nat) (setting : Int32) (value : Int32) (r : Nat → Int32) (f : Nat → Int32) (past : Nat → Int32) (kk : Nat) (sl : Nat → Int32) (sv : Nat → Int32) (pd : Nat → Int32) (ln : Int32) (hkk : kk ≤ 6) : gMi d yX5_set cX5_set 4 (some .int) R_X5_set [.ref (a 0), .int setting, .int value] (MW d a (pr 0 r f) (past, nI kk, sl, sv, pd, ln)) (fun r_ u_ => r_ = r_X5_set setting value r past kk ∧ u_ = MW d a (pr 0 (c_X5_set_s setting value r past kk) f) ((c_X5_set_past setting value r past kk), (c_X5_set_kn setting value r past kk), sl, sv, pd, ln)) :=
  g_met_i RX5 rfl (by decide +kernel) (Nat.le_of_ble_eq_true rfl) [(0, .ref (a 0)), (1, .int setting), (2, .int value)] rfl (fun X E RET => s_X5_set_0 d a setting value r f past kk sl sv pd ln hkk E (fun pc_ lv_ v_ u_ h1_ h2_ h3_ h4_ => RET pc_ lv_ v_ u_ h1_ h2_ ⟨h3_, h4_⟩))
abbrev R_X5_sample : Room := { frames := 4, cells := 0, slots := 0, locals := 98 }
def r_X5_sample (x : Int32) (y : Int32) (r : Nat → Int32) (past : Nat → Int32) (kk : Nat) : Int32 := if (r_X5_whyNot x y 1 r) < 0 then (r_X5_whyNot x y 1 r) else (r_X5_told (c_X5_samples_s x y r))
def c_X5_sample_s (x : Int32) (y : Int32) (r : Nat → Int32) (past : Nat → Int32) (kk : Nat) : Nat → Int32 := if (r_X5_whyNot x y 1 r) < 0 then r else (c_X5_samples_s x y r)
def c_X5_sample_past (x : Int32) (y : Int32) (r : Nat → Int32) (past : Nat → Int32) (kk : Nat) : Nat → Int32 := if (r_X5_whyNot x y 1 r) < 0 then past else (pastK r past kk)
def c_X5_sample_kn (x : Int32) (y : Int32) (r : Nat → Int32) (past : Nat → Int32) (kk : Nat) : Int32 := if (r_X5_whyNot x y 1 r) < 0 then (nI kk) else (nI (kn1 kk))
set_option maxHeartbeats 1000000 in
set_option maxRecDepth 100000 in
theorem s_X5_sample_0 (d : gD) (a : Nat → Nat) (x : Int32) (y : Int32) (r : Nat → Int32) (f : Nat → Int32) (past : Nat → Int32) (kk : Nat) (sl : Nat → Int32) (sv : Nat → Int32) (pd : Nat → Int32) (ln : Int32) (nd : Nat) (hkk : kk ≤ 6) (hs : ¬ r 0 = 0) (hz : ¬ (r 3) - (r 9) = 0) (hc4 : ¬ r 4 < 0) (hd : dirOK r nd)  {X : gX} (E : gE d X RX5 cX5_sample 4 R_X5_sample) (RET : ∀ (pc_ : Nat) (lv_ : List (Nat × Value)) (v_ : Int32) (u_ : va_W), decode cX5_sample pc_ = .ok (.ireturn, 1) → narrow .int (.int v_) = .int v_ → v_ = r_X5_sample x y r past kk → u_ = MW d a (pr 0 (c_X5_sample_s x y r past kk) f) ((c_X5_sample_past x y r past kk), (c_X5_sample_kn x y r past kk), sl, sv, pd, ln) → G d X u_ R_X5_sample.cells R_X5_sample.slots pc_ lv_ [.int v_]) : G d X (MW d a (pr 0 r f) (past, nI kk, sl, sv, pd, ln)) 0 0 0 [(0, .ref (a 0)), (1, .int x), (2, .int y)] [] := by
  refine g_aload_n E 0 dX5_sample_0 rfl rfl ?_
  refine g_iload_n E 1 dX5_sample_1 rfl rfl ?_
  refine g_iload_n E 2 dX5_sample_2 rfl rfl ?_
  refine g_iconst E 1 dX5_sample_3 (by decide) ?_
  refine g_callVi0 E gc_X5_whyNot ml_X5_86 (t_X5_whyNot d a x y 1 r f (past, nI kk, sl, sv, pd, ln) ) rfl rfl (ci := 5) 0 rfl rfl rfl rfl (ok_le rfl) ⟨ok_le rfl, ok_le rfl, ok_le rfl, ok_le rfl⟩ rfl rfl dX5_sample_4 ?_
  refine g_nm (fun v1_ hv1_ => ?_)
  refine g_istore_n E (lv' := [(3, .int v1_), (0, .ref (a 0)), (1, .int x), (2, .int y)]) dX5_sample_7 rfl (by decide) rfl ?_
  refine g_iload_n E 0 dX5_sample_8 rfl rfl ?_
  refine g_ifge E 14 dX5_sample_9 (by decide) (fun c_9 => ?_) (fun c_9 => ?_)
  · skip
    refine g_aload_n E 1 dX5_sample_14 rfl rfl ?_
    refine g_callVv0 E gc_X5_remembers ml_X5_79 (t2_X5_remembers d a r f past kk sl sv pd ln (by first | assumption | omega)) rfl rfl (ci := 5) 0 rfl rfl rfl rfl (ok_le rfl) ⟨ok_le rfl, ok_le rfl, ok_le rfl, ok_le rfl⟩ rfl rfl dX5_sample_15 ?_
    refine g_aload_n E 1 dX5_sample_18 rfl rfl ?_
    refine g_iconst E 0 dX5_sample_19 (by decide) ?_
    refine g_iload_n E 2 dX5_sample_20 rfl rfl ?_
    refine g_iload_n E 3 dX5_sample_21 rfl rfl ?_
    refine g_callVv0 E gc_X5_samples ml_X5_89 (t_X5_samples d a 0 x y r f ((pastK r past kk), nI (kn1 kk), sl, sv, pd, ln) nd (by first | assumption | omega) (by first | assumption | omega) (by first | assumption | omega) (by first | assumption | omega) (by first | assumption | omega)) rfl rfl (ci := 5) 0 rfl rfl rfl rfl (ok_le rfl) ⟨ok_le rfl, ok_le rfl, ok_le rfl, ok_le rfl⟩ rfl rfl dX5_sample_22 ?_
    obtain ⟨S2_, hS2_⟩ : ∃ z, c_X5_samples_s x y r = z := ⟨_, rfl⟩
    rw [hS2_]
    refine g_aload_n E 1 dX5_sample_25 rfl rfl ?_
    refine g_iconst E 0 dX5_sample_26 (by decide) ?_
    refine g_callVi0 E gc_X5_told ml_X5_92 (t_X5_told d a 0 S2_ f ((pastK r past kk), nI (kn1 kk), sl, sv, pd, ln) (by first | assumption | omega)) rfl rfl (ci := 5) 0 rfl rfl rfl rfl (ok_le rfl) ⟨ok_le rfl, ok_le rfl, ok_le rfl, ok_le rfl⟩ rfl rfl dX5_sample_27 ?_
    refine g_nm (fun v3_ hv3_ => ?_)
    subst hv3_
    subst hS2_
    subst hv1_
    exact RET 30 _ (r_X5_told (c_X5_samples_s x y r)) _ dX5_sample_30 rfl (by rw [r_X5_sample, if_neg c_9]) (by rw [c_X5_sample_s, if_neg c_9, c_X5_sample_past, if_neg c_9, c_X5_sample_kn, if_neg c_9])
  · skip
    refine g_iload_n E 0 dX5_sample_12 rfl rfl ?_
    subst hv1_
    exact RET 13 _ (r_X5_whyNot x y 1 r) _ dX5_sample_13 rfl (by rw [r_X5_sample, if_pos c_9]) (by rw [c_X5_sample_s, if_pos c_9, c_X5_sample_past, if_pos c_9, c_X5_sample_kn, if_pos c_9])
set_option maxHeartbeats 1000000 in
set_option maxRecDepth 100000 in
theorem t_X5_sample (d : gD) (a : Nat → Nat) (x : Int32) (y : Int32) (r : Nat → Int32) (f : Nat → Int32) (past : Nat → Int32) (kk : Nat) (sl : Nat → Int32) (sv : Nat → Int32) (pd : Nat → Int32) (ln : Int32) (nd : Nat) (hkk : kk ≤ 6) (hs : ¬ r 0 = 0) (hz : ¬ (r 3) - (r 9) = 0) (hc4 : ¬ r 4 < 0) (hd : dirOK r nd) : gMi d yX5_sample cX5_sample 4 (some .int) R_X5_sample [.ref (a 0), .int x, .int y] (MW d a (pr 0 r f) (past, nI kk, sl, sv, pd, ln)) (fun r_ u_ => r_ = r_X5_sample x y r past kk ∧ u_ = MW d a (pr 0 (c_X5_sample_s x y r past kk) f) ((c_X5_sample_past x y r past kk), (c_X5_sample_kn x y r past kk), sl, sv, pd, ln)) :=
  g_met_i RX5 rfl (by decide +kernel) (Nat.le_of_ble_eq_true rfl) [(0, .ref (a 0)), (1, .int x), (2, .int y)] rfl (fun X E RET => s_X5_sample_0 d a x y r f past kk sl sv pd ln nd hkk hs hz hc4 hd E (fun pc_ lv_ v_ u_ h1_ h2_ h3_ h4_ => RET pc_ lv_ v_ u_ h1_ h2_ ⟨h3_, h4_⟩))
abbrev R_X5_press : Room := { frames := 2, cells := 0, slots := 0, locals := 44 }
def r_X5_press (button : Int32) (r : Nat → Int32) (past : Nat → Int32) (kk : Nat) : Int32 := if (r_X5_whyNotPress button 1 r) < 0 then (r_X5_whyNotPress button 1 r) else (r_X5_presses button r)
def c_X5_press_s (button : Int32) (r : Nat → Int32) (past : Nat → Int32) (kk : Nat) : Nat → Int32 := if (r_X5_whyNotPress button 1 r) < 0 then r else (c_X5_presses_s button r)
def c_X5_press_past (button : Int32) (r : Nat → Int32) (past : Nat → Int32) (kk : Nat) : Nat → Int32 := if (r_X5_whyNotPress button 1 r) < 0 then past else (pastK r past kk)
def c_X5_press_kn (button : Int32) (r : Nat → Int32) (past : Nat → Int32) (kk : Nat) : Int32 := if (r_X5_whyNotPress button 1 r) < 0 then (nI kk) else (nI (kn1 kk))
set_option maxHeartbeats 1000000 in
set_option maxRecDepth 100000 in
theorem s_X5_press_0 (d : gD) (a : Nat → Nat) (button : Int32) (r : Nat → Int32) (f : Nat → Int32) (past : Nat → Int32) (kk : Nat) (sl : Nat → Int32) (sv : Nat → Int32) (pd : Nat → Int32) (ln : Int32) (hkk : kk ≤ 6)  {X : gX} (E : gE d X RX5 cX5_press 3 R_X5_press) (RET : ∀ (pc_ : Nat) (lv_ : List (Nat × Value)) (v_ : Int32) (u_ : va_W), decode cX5_press pc_ = .ok (.ireturn, 1) → narrow .int (.int v_) = .int v_ → v_ = r_X5_press button r past kk → u_ = MW d a (pr 0 (c_X5_press_s button r past kk) f) ((c_X5_press_past button r past kk), (c_X5_press_kn button r past kk), sl, sv, pd, ln) → G d X u_ R_X5_press.cells R_X5_press.slots pc_ lv_ [.int v_]) : G d X (MW d a (pr 0 r f) (past, nI kk, sl, sv, pd, ln)) 0 0 0 [(0, .ref (a 0)), (1, .int button)] [] := by
  refine g_aload_n E 0 dX5_press_0 rfl rfl ?_
  refine g_iload_n E 1 dX5_press_1 rfl rfl ?_
  refine g_iconst E 1 dX5_press_2 (by decide) ?_
  refine g_callVi0 E gc_X5_whyNotPress ml_X5_98 (t_X5_whyNotPress d a button 1 r f (past, nI kk, sl, sv, pd, ln) ) rfl rfl (ci := 5) 0 rfl rfl rfl rfl (ok_le rfl) ⟨ok_le rfl, ok_le rfl, ok_le rfl, ok_le rfl⟩ rfl rfl dX5_press_3 ?_
  refine g_nm (fun v1_ hv1_ => ?_)
  refine g_istore_n E (lv' := [(2, .int v1_), (0, .ref (a 0)), (1, .int button)]) dX5_press_6 rfl (by decide) rfl ?_
  refine g_iload_n E 0 dX5_press_7 rfl rfl ?_
  refine g_ifge E 13 dX5_press_8 (by decide) (fun c_8 => ?_) (fun c_8 => ?_)
  · skip
    refine g_aload_n E 1 dX5_press_13 rfl rfl ?_
    refine g_callVv0 E gc_X5_remembers ml_X5_79 (t2_X5_remembers d a r f past kk sl sv pd ln (by first | assumption | omega)) rfl rfl (ci := 5) 0 rfl rfl rfl rfl (ok_le rfl) ⟨ok_le rfl, ok_le rfl, ok_le rfl, ok_le rfl⟩ rfl rfl dX5_press_14 ?_
    refine g_aload_n E 1 dX5_press_17 rfl rfl ?_
    refine g_iload_n E 2 dX5_press_18 rfl rfl ?_
    refine g_callVi0 E gc_X5_presses ml_X5_102 (t_X5_presses d a button r f ((pastK r past kk), nI (kn1 kk), sl, sv, pd, ln) ) rfl rfl (ci := 5) 0 rfl rfl rfl rfl (ok_le rfl) ⟨ok_le rfl, ok_le rfl, ok_le rfl, ok_le rfl⟩ rfl rfl dX5_press_19 ?_
    obtain ⟨S2_, hS2_⟩ : ∃ z, c_X5_presses_s button r = z := ⟨_, rfl⟩
    rw [hS2_]
    refine g_nm (fun v3_ hv3_ => ?_)
    subst hv3_
    subst hS2_
    subst hv1_
    exact RET 22 _ (r_X5_presses button r) _ dX5_press_22 rfl (by rw [r_X5_press, if_neg c_8]) (by rw [c_X5_press_s, if_neg c_8, c_X5_press_past, if_neg c_8, c_X5_press_kn, if_neg c_8])
  · skip
    refine g_iload_n E 0 dX5_press_11 rfl rfl ?_
    subst hv1_
    exact RET 12 _ (r_X5_whyNotPress button 1 r) _ dX5_press_12 rfl (by rw [r_X5_press, if_pos c_8]) (by rw [c_X5_press_s, if_pos c_8, c_X5_press_past, if_pos c_8, c_X5_press_kn, if_pos c_8])
set_option maxHeartbeats 1000000 in
set_option maxRecDepth 100000 in
theorem t_X5_press (d : gD) (a : Nat → Nat) (button : Int32) (r : Nat → Int32) (f : Nat → Int32) (past : Nat → Int32) (kk : Nat) (sl : Nat → Int32) (sv : Nat → Int32) (pd : Nat → Int32) (ln : Int32) (hkk : kk ≤ 6) : gMi d yX5_press cX5_press 3 (some .int) R_X5_press [.ref (a 0), .int button] (MW d a (pr 0 r f) (past, nI kk, sl, sv, pd, ln)) (fun r_ u_ => r_ = r_X5_press button r past kk ∧ u_ = MW d a (pr 0 (c_X5_press_s button r past kk) f) ((c_X5_press_past button r past kk), (c_X5_press_kn button r past kk), sl, sv, pd, ln)) :=
  g_met_i RX5 rfl (by decide +kernel) (Nat.le_of_ble_eq_true rfl) [(0, .ref (a 0)), (1, .int button)] rfl (fun X E RET => s_X5_press_0 d a button r f past kk sl sv pd ln hkk E (fun pc_ lv_ v_ u_ h1_ h2_ h3_ h4_ => RET pc_ lv_ v_ u_ h1_ h2_ ⟨h3_, h4_⟩))
abbrev R_X5_letUp : Room := { frames := 2, cells := 0, slots := 0, locals := 44 }
def r_X5_letUp (button : Int32) (r : Nat → Int32) (past : Nat → Int32) (kk : Nat) : Int32 := if (r_X5_whyNotPress button 0 r) < 0 then (r_X5_whyNotPress button 0 r) else (r_X5_letsUp button r)
def c_X5_letUp_s (button : Int32) (r : Nat → Int32) (past : Nat → Int32) (kk : Nat) : Nat → Int32 := if (r_X5_whyNotPress button 0 r) < 0 then r else (c_X5_letsUp_s button r)
def c_X5_letUp_past (button : Int32) (r : Nat → Int32) (past : Nat → Int32) (kk : Nat) : Nat → Int32 := if (r_X5_whyNotPress button 0 r) < 0 then past else (pastK r past kk)
def c_X5_letUp_kn (button : Int32) (r : Nat → Int32) (past : Nat → Int32) (kk : Nat) : Int32 := if (r_X5_whyNotPress button 0 r) < 0 then (nI kk) else (nI (kn1 kk))
set_option maxHeartbeats 1000000 in
set_option maxRecDepth 100000 in
theorem s_X5_letUp_0 (d : gD) (a : Nat → Nat) (button : Int32) (r : Nat → Int32) (f : Nat → Int32) (past : Nat → Int32) (kk : Nat) (sl : Nat → Int32) (sv : Nat → Int32) (pd : Nat → Int32) (ln : Int32) (hkk : kk ≤ 6)  {X : gX} (E : gE d X RX5 cX5_letUp 3 R_X5_letUp) (RET : ∀ (pc_ : Nat) (lv_ : List (Nat × Value)) (v_ : Int32) (u_ : va_W), decode cX5_letUp pc_ = .ok (.ireturn, 1) → narrow .int (.int v_) = .int v_ → v_ = r_X5_letUp button r past kk → u_ = MW d a (pr 0 (c_X5_letUp_s button r past kk) f) ((c_X5_letUp_past button r past kk), (c_X5_letUp_kn button r past kk), sl, sv, pd, ln) → G d X u_ R_X5_letUp.cells R_X5_letUp.slots pc_ lv_ [.int v_]) : G d X (MW d a (pr 0 r f) (past, nI kk, sl, sv, pd, ln)) 0 0 0 [(0, .ref (a 0)), (1, .int button)] [] := by
  refine g_aload_n E 0 dX5_letUp_0 rfl rfl ?_
  refine g_iload_n E 1 dX5_letUp_1 rfl rfl ?_
  refine g_iconst E 0 dX5_letUp_2 (by decide) ?_
  refine g_callVi0 E gc_X5_whyNotPress ml_X5_98 (t_X5_whyNotPress d a button 0 r f (past, nI kk, sl, sv, pd, ln) ) rfl rfl (ci := 5) 0 rfl rfl rfl rfl (ok_le rfl) ⟨ok_le rfl, ok_le rfl, ok_le rfl, ok_le rfl⟩ rfl rfl dX5_letUp_3 ?_
  refine g_nm (fun v1_ hv1_ => ?_)
  refine g_istore_n E (lv' := [(2, .int v1_), (0, .ref (a 0)), (1, .int button)]) dX5_letUp_6 rfl (by decide) rfl ?_
  refine g_iload_n E 0 dX5_letUp_7 rfl rfl ?_
  refine g_ifge E 13 dX5_letUp_8 (by decide) (fun c_8 => ?_) (fun c_8 => ?_)
  · skip
    refine g_aload_n E 1 dX5_letUp_13 rfl rfl ?_
    refine g_callVv0 E gc_X5_remembers ml_X5_79 (t2_X5_remembers d a r f past kk sl sv pd ln (by first | assumption | omega)) rfl rfl (ci := 5) 0 rfl rfl rfl rfl (ok_le rfl) ⟨ok_le rfl, ok_le rfl, ok_le rfl, ok_le rfl⟩ rfl rfl dX5_letUp_14 ?_
    refine g_aload_n E 1 dX5_letUp_17 rfl rfl ?_
    refine g_iload_n E 2 dX5_letUp_18 rfl rfl ?_
    refine g_callVi0 E gc_X5_letsUp ml_X5_105 (t_X5_letsUp d a button r f ((pastK r past kk), nI (kn1 kk), sl, sv, pd, ln) ) rfl rfl (ci := 5) 0 rfl rfl rfl rfl (ok_le rfl) ⟨ok_le rfl, ok_le rfl, ok_le rfl, ok_le rfl⟩ rfl rfl dX5_letUp_19 ?_
    obtain ⟨S2_, hS2_⟩ : ∃ z, c_X5_letsUp_s button r = z := ⟨_, rfl⟩
    rw [hS2_]
    refine g_nm (fun v3_ hv3_ => ?_)
    subst hv3_
    subst hS2_
    subst hv1_
    exact RET 22 _ (r_X5_letsUp button r) _ dX5_letUp_22 rfl (by rw [r_X5_letUp, if_neg c_8]) (by rw [c_X5_letUp_s, if_neg c_8, c_X5_letUp_past, if_neg c_8, c_X5_letUp_kn, if_neg c_8])
  · skip
    refine g_iload_n E 0 dX5_letUp_11 rfl rfl ?_
    subst hv1_
    exact RET 12 _ (r_X5_whyNotPress button 0 r) _ dX5_letUp_12 rfl (by rw [r_X5_letUp, if_pos c_8]) (by rw [c_X5_letUp_s, if_pos c_8, c_X5_letUp_past, if_pos c_8, c_X5_letUp_kn, if_pos c_8])
set_option maxHeartbeats 1000000 in
set_option maxRecDepth 100000 in
theorem t_X5_letUp (d : gD) (a : Nat → Nat) (button : Int32) (r : Nat → Int32) (f : Nat → Int32) (past : Nat → Int32) (kk : Nat) (sl : Nat → Int32) (sv : Nat → Int32) (pd : Nat → Int32) (ln : Int32) (hkk : kk ≤ 6) : gMi d yX5_letUp cX5_letUp 3 (some .int) R_X5_letUp [.ref (a 0), .int button] (MW d a (pr 0 r f) (past, nI kk, sl, sv, pd, ln)) (fun r_ u_ => r_ = r_X5_letUp button r past kk ∧ u_ = MW d a (pr 0 (c_X5_letUp_s button r past kk) f) ((c_X5_letUp_past button r past kk), (c_X5_letUp_kn button r past kk), sl, sv, pd, ln)) :=
  g_met_i RX5 rfl (by decide +kernel) (Nat.le_of_ble_eq_true rfl) [(0, .ref (a 0)), (1, .int button)] rfl (fun X E RET => s_X5_letUp_0 d a button r f past kk sl sv pd ln hkk E (fun pc_ lv_ v_ u_ h1_ h2_ h3_ h4_ => RET pc_ lv_ v_ u_ h1_ h2_ ⟨h3_, h4_⟩))
abbrev R_X5_reset : Room := { frames := 1, cells := 0, slots := 0, locals := 21 }
def r_X5_reset (r : Nat → Int32) (past : Nat → Int32) (kk : Nat) : Int32 := ((r_X5_size ((r 7) - 2048)) + (r_X5_size ((r 8) - 2048)))
def c_X5_reset_s (r : Nat → Int32) (past : Nat → Int32) (kk : Nat) : Nat → Int32 := upd (upd (upd (upd r 7 2048) 8 2048) 9 (r 1)) 12 0
def c_X5_reset_past (r : Nat → Int32) (past : Nat → Int32) (kk : Nat) : Nat → Int32 := (pastK r past kk)
def c_X5_reset_kn (r : Nat → Int32) (past : Nat → Int32) (kk : Nat) : Int32 := nI (kn1 kk)
set_option maxHeartbeats 1000000 in
set_option maxRecDepth 100000 in
theorem s_X5_reset_0 (d : gD) (a : Nat → Nat) (r : Nat → Int32) (f : Nat → Int32) (past : Nat → Int32) (kk : Nat) (sl : Nat → Int32) (sv : Nat → Int32) (pd : Nat → Int32) (ln : Int32) (hkk : kk ≤ 6)  {X : gX} (E : gE d X RX5 cX5_reset 2 R_X5_reset) (RET : ∀ (pc_ : Nat) (lv_ : List (Nat × Value)) (v_ : Int32) (u_ : va_W), decode cX5_reset pc_ = .ok (.ireturn, 1) → narrow .int (.int v_) = .int v_ → v_ = r_X5_reset r past kk → u_ = MW d a (pr 0 (c_X5_reset_s r past kk) f) ((c_X5_reset_past r past kk), (c_X5_reset_kn r past kk), sl, sv, pd, ln) → G d X u_ R_X5_reset.cells R_X5_reset.slots pc_ lv_ [.int v_]) : G d X (MW d a (pr 0 r f) (past, nI kk, sl, sv, pd, ln)) 0 0 0 [(0, .ref (a 0))] [] := by
  refine g_aload_n E 0 dX5_reset_0 rfl rfl ?_
  refine g_callVv0 E gc_X5_remembers ml_X5_79 (t2_X5_remembers d a r f past kk sl sv pd ln (by first | assumption | omega)) rfl rfl (ci := 5) 0 rfl rfl rfl rfl (ok_le rfl) ⟨ok_le rfl, ok_le rfl, ok_le rfl, ok_le rfl⟩ rfl rfl dX5_reset_1 ?_
  refine g_aload_n E 0 dX5_reset_4 rfl rfl ?_
  refine g_get E (ci := 5) inlX5 0 rfl rfl 0 (by decide) fl_X5_7 rfl (.ref (a 1)) rfl dX5_reset_5 ?_
  refine g_bipush E 7 dX5_reset_8 (by decide) ?_
  refine g_mget E (p := 0) (r := r) (f := f) 1 rfl rfl 7 (show (7 : Int32) = nI (0 + 7) from by rw [Nat.zero_add]; rfl) (by decide) (by omega) dX5_reset_10 ?_
  refine g_top (b := r 7) rfl ?_
  refine g_sipush E 2048 dX5_reset_11 (by decide) ?_
  refine g_isub E dX5_reset_14 ?_
  refine g_callSp E gc_X5_size ml_X5_38 (t_X5_size d ((r 7) - 2048) ) rfl rfl rfl (ok_le rfl) ⟨ok_le rfl, ok_le rfl, ok_le rfl, ok_le rfl⟩ rfl rfl dX5_reset_15 ?_
  refine g_nm (fun v1_ hv1_ => ?_)
  refine g_aload_n E 0 dX5_reset_18 rfl rfl ?_
  refine g_get E (ci := 5) inlX5 0 rfl rfl 0 (by decide) fl_X5_7 rfl (.ref (a 1)) rfl dX5_reset_19 ?_
  refine g_bipush E 8 dX5_reset_22 (by decide) ?_
  refine g_mget E (p := 0) (r := r) (f := f) 1 rfl rfl 8 (show (8 : Int32) = nI (0 + 8) from by rw [Nat.zero_add]; rfl) (by decide) (by omega) dX5_reset_24 ?_
  refine g_top (b := r 8) rfl ?_
  refine g_sipush E 2048 dX5_reset_25 (by decide) ?_
  refine g_isub E dX5_reset_28 ?_
  refine g_callSp E gc_X5_size ml_X5_38 (t_X5_size d ((r 8) - 2048) ) rfl rfl rfl (ok_le rfl) ⟨ok_le rfl, ok_le rfl, ok_le rfl, ok_le rfl⟩ rfl rfl dX5_reset_29 ?_
  refine g_nm (fun v2_ hv2_ => ?_)
  refine g_iadd E dX5_reset_32 ?_
  refine g_istore_n E (lv' := [(1, .int (v1_ + v2_)), (0, .ref (a 0))]) dX5_reset_33 rfl (by decide) rfl ?_
  refine g_aload_n E 1 dX5_reset_34 rfl rfl ?_
  refine g_get E (ci := 5) inlX5 0 rfl rfl 0 (by decide) fl_X5_7 rfl (.ref (a 1)) rfl dX5_reset_35 ?_
  refine g_bipush E 7 dX5_reset_38 (by decide) ?_
  refine g_sipush E 2048 dX5_reset_40 (by decide) ?_
  refine g_mput E (p := 0) (r := r) (f := f) 1 rfl rfl 7 (show (7 : Int32) = nI (0 + 7) from by rw [Nat.zero_add]; rfl) (by decide) (by omega) (ws' := MW d a (pr 0 (upd r 7 2048) f) ((pastK r past kk), nI (kn1 kk), sl, sv, pd, ln)) rfl dX5_reset_43 ?_
  refine g_aload_n E 1 dX5_reset_44 rfl rfl ?_
  refine g_get E (ci := 5) inlX5 0 rfl rfl 0 (by decide) fl_X5_7 rfl (.ref (a 1)) rfl dX5_reset_45 ?_
  refine g_bipush E 8 dX5_reset_48 (by decide) ?_
  refine g_sipush E 2048 dX5_reset_50 (by decide) ?_
  refine g_mput E (p := 0) (r := (upd r 7 2048)) (f := f) 1 rfl rfl 8 (show (8 : Int32) = nI (0 + 8) from by rw [Nat.zero_add]; rfl) (by decide) (by omega) (ws' := MW d a (pr 0 (upd (upd r 7 2048) 8 2048) f) ((pastK r past kk), nI (kn1 kk), sl, sv, pd, ln)) rfl dX5_reset_53 ?_
  refine g_aload_n E 1 dX5_reset_54 rfl rfl ?_
  refine g_get E (ci := 5) inlX5 0 rfl rfl 0 (by decide) fl_X5_7 rfl (.ref (a 1)) rfl dX5_reset_55 ?_
  refine g_bipush E 9 dX5_reset_58 (by decide) ?_
  refine g_aload_n E 1 dX5_reset_60 rfl rfl ?_
  refine g_get E (ci := 5) inlX5 0 rfl rfl 0 (by decide) fl_X5_7 rfl (.ref (a 1)) rfl dX5_reset_61 ?_
  refine g_iconst E 1 dX5_reset_64 (by decide) ?_
  refine g_mget E (p := 0) (r := (upd (upd r 7 2048) 8 2048)) (f := f) 1 rfl rfl 1 (show (1 : Int32) = nI (0 + 1) from by rw [Nat.zero_add]; rfl) (by decide) (by omega) dX5_reset_65 ?_
  refine g_top (b := r 1) rfl ?_
  refine g_mput E (p := 0) (r := (upd (upd r 7 2048) 8 2048)) (f := f) 1 rfl rfl 9 (show (9 : Int32) = nI (0 + 9) from by rw [Nat.zero_add]; rfl) (by decide) (by omega) (ws' := MW d a (pr 0 (upd (upd (upd r 7 2048) 8 2048) 9 (r 1)) f) ((pastK r past kk), nI (kn1 kk), sl, sv, pd, ln)) rfl dX5_reset_66 ?_
  refine g_aload_n E 1 dX5_reset_67 rfl rfl ?_
  refine g_get E (ci := 5) inlX5 0 rfl rfl 0 (by decide) fl_X5_7 rfl (.ref (a 1)) rfl dX5_reset_68 ?_
  refine g_bipush E 12 dX5_reset_71 (by decide) ?_
  refine g_iconst E 0 dX5_reset_73 (by decide) ?_
  refine g_mput E (p := 0) (r := (upd (upd (upd r 7 2048) 8 2048) 9 (r 1))) (f := f) 1 rfl rfl 12 (show (12 : Int32) = nI (0 + 12) from by rw [Nat.zero_add]; rfl) (by decide) (by omega) (ws' := MW d a (pr 0 (upd (upd (upd (upd r 7 2048) 8 2048) 9 (r 1)) 12 0) f) ((pastK r past kk), nI (kn1 kk), sl, sv, pd, ln)) rfl dX5_reset_74 ?_
  refine g_iload_n E 0 dX5_reset_75 rfl rfl ?_
  subst hv2_
  subst hv1_
  exact RET 76 _ ((r_X5_size ((r 7) - 2048)) + (r_X5_size ((r 8) - 2048))) _ dX5_reset_76 rfl (by rw [r_X5_reset]) (by rw [c_X5_reset_s, c_X5_reset_past, c_X5_reset_kn])
set_option maxHeartbeats 1000000 in
set_option maxRecDepth 100000 in
theorem t_X5_reset (d : gD) (a : Nat → Nat) (r : Nat → Int32) (f : Nat → Int32) (past : Nat → Int32) (kk : Nat) (sl : Nat → Int32) (sv : Nat → Int32) (pd : Nat → Int32) (ln : Int32) (hkk : kk ≤ 6) : gMi d yX5_reset cX5_reset 2 (some .int) R_X5_reset [.ref (a 0)] (MW d a (pr 0 r f) (past, nI kk, sl, sv, pd, ln)) (fun r_ u_ => r_ = r_X5_reset r past kk ∧ u_ = MW d a (pr 0 (c_X5_reset_s r past kk) f) ((c_X5_reset_past r past kk), (c_X5_reset_kn r past kk), sl, sv, pd, ln)) :=
  g_met_i RX5 rfl (by decide +kernel) (Nat.le_of_ble_eq_true rfl) [(0, .ref (a 0))] rfl (fun X E RET => s_X5_reset_0 d a r f past kk sl sv pd ln hkk E (fun pc_ lv_ v_ u_ h1_ h2_ h3_ h4_ => RET pc_ lv_ v_ u_ h1_ h2_ ⟨h3_, h4_⟩))
