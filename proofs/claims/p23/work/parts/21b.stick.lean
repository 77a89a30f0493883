theorem ix_sub10 {w : Int32} (h1 : ¬ w < 10) (h2 : w - 10 < 7) : ¬ w - 10 < 0 := by
  grind
abbrev R_X3_isButton : Room := { frames := 0, cells := 0, slots := 0, locals := 0 }
def r_X3_isButton (button : Int32) : Int32 := if button < 0 then 0 else (if button < 8 then 1 else 0)
set_option maxHeartbeats 1000000 in
set_option maxRecDepth 100000 in
theorem s_X3_isButton_0 (d : gD) (button : Int32)   {X : gX} (E : gE d X RX3 cX3_isButton 1 R_X3_isButton) (RET : ∀ (pc_ : Nat) (lv_ : List (Nat × Value)) (v_ : Int32) (u_ : va_W), decode cX3_isButton pc_ = .ok (.ireturn, 1) → narrow .boolean (.int v_) = .int v_ → v_ = r_X3_isButton button → u_ = [] → G d X u_ R_X3_isButton.cells R_X3_isButton.slots pc_ lv_ [.int v_]) : G d X ([]) 0 0 0 [(0, .int button)] [] := by
  refine g_iload_n E 0 dX3_isButton_0 rfl rfl ?_
  refine g_iflt E 14 dX3_isButton_1 (by decide) (fun c_1 => ?_) (fun c_1 => ?_)
  · skip
    refine g_iconst E 0 dX3_isButton_14 (by decide) ?_
    exact RET 15 _ 0 _ dX3_isButton_15 rfl (by rw [r_X3_isButton, if_pos c_1]) rfl
  · skip
    refine g_iload_n E 0 dX3_isButton_4 rfl rfl ?_
    refine g_bipush E 8 dX3_isButton_5 (by decide) ?_
    refine g_icmpge E 14 dX3_isButton_7 (by decide) (fun c_7 => ?_) (fun c_7 => ?_)
    · skip
      refine g_iconst E 0 dX3_isButton_14 (by decide) ?_
      exact RET 15 _ 0 _ dX3_isButton_15 rfl (by rw [r_X3_isButton, if_neg c_1, if_neg c_7]) rfl
    · skip
      refine g_iconst E 1 dX3_isButton_10 (by decide) ?_
      refine g_goto E 15 dX3_isButton_11 (by decide) ?_
      exact RET 15 _ 1 _ dX3_isButton_15 rfl (by rw [r_X3_isButton, if_neg c_1, if_pos c_7]) rfl
set_option maxHeartbeats 1000000 in
set_option maxRecDepth 100000 in
theorem t_X3_isButton (d : gD) (button : Int32)  : gMi d yX3_isButton cX3_isButton 1 (some .boolean) R_X3_isButton [.int button] ([]) (fun r_ u_ => r_ = r_X3_isButton button ∧ u_ = []) :=
  g_met_i RX3 rfl (by decide +kernel) (Nat.le_of_ble_eq_true rfl) [(0, .int button)] rfl (fun X E RET => s_X3_isButton_0 d button  E (fun pc_ lv_ v_ u_ h1_ h2_ h3_ h4_ => RET pc_ lv_ v_ u_ h1_ h2_ ⟨h3_, h4_⟩))
abbrev R_X3_isDown : Room := { frames := 0, cells := 0, slots := 0, locals := 0 }
def r_X3_isDown (button : Int32) (S : SS) : Int32 := if (((S.1 18) >>> (button &&& 31)) &&& 1) = 1 then 1 else 0
set_option maxHeartbeats 1000000 in
set_option maxRecDepth 100000 in
theorem s_X3_isDown_0 (d : gD) (a : Nat → Nat) (button : Int32) (S : SS)   {X : gX} (E : gE d X RX3 cX3_isDown 2 R_X3_isDown) (RET : ∀ (pc_ : Nat) (lv_ : List (Nat × Value)) (v_ : Int32) (u_ : va_W), decode cX3_isDown pc_ = .ok (.ireturn, 1) → narrow .boolean (.int v_) = .int v_ → v_ = r_X3_isDown button S → u_ = SK d a S → G d X u_ R_X3_isDown.cells R_X3_isDown.slots pc_ lv_ [.int v_]) : G d X (SK d a S) 0 0 0 [(0, .ref (a 0)), (1, .int button)] [] := by
  refine g_aload_n E 0 dX3_isDown_0 rfl rfl ?_
  refine g_get E (ci := 3) inlX3 4 rfl rfl 14 (by decide) fl_X3_77 rfl (.int (S.1 18)) rfl dX3_isDown_1 ?_
  refine g_iload_n E 1 dX3_isDown_4 rfl rfl ?_
  refine g_ishr E dX3_isDown_5 ?_
  refine g_iconst E 1 dX3_isDown_6 (by decide) ?_
  refine g_iand E dX3_isDown_7 ?_
  refine g_iconst E 1 dX3_isDown_8 (by decide) ?_
  refine g_icmpne E 16 dX3_isDown_9 (by decide) (fun c_9 => ?_) (fun c_9 => ?_)
  · skip
    refine g_iconst E 0 dX3_isDown_16 (by decide) ?_
    exact RET 17 _ 0 _ dX3_isDown_17 rfl (by rw [r_X3_isDown, if_neg c_9]) rfl
  · skip
    refine g_iconst E 1 dX3_isDown_12 (by decide) ?_
    refine g_goto E 17 dX3_isDown_13 (by decide) ?_
    exact RET 17 _ 1 _ dX3_isDown_17 rfl (by rw [r_X3_isDown, if_pos c_9]) rfl
set_option maxHeartbeats 1000000 in
set_option maxRecDepth 100000 in
theorem t_X3_isDown (d : gD) (a : Nat → Nat) (button : Int32) (S : SS)  : gMi d yX3_isDown cX3_isDown 2 (some .boolean) R_X3_isDown [.ref (a 0), .int button] (SK d a S) (fun r_ u_ => r_ = r_X3_isDown button S ∧ u_ = SK d a S) :=
  g_met_i RX3 rfl (by decide +kernel) (Nat.le_of_ble_eq_true rfl) [(0, .ref (a 0)), (1, .int button)] rfl (fun X E RET => s_X3_isDown_0 d a button S  E (fun pc_ lv_ v_ u_ h1_ h2_ h3_ h4_ => RET pc_ lv_ v_ u_ h1_ h2_ ⟨h3_, h4_⟩))
abbrev R_X3_refusalOfPress : Room := { frames := 1, cells := 0, slots := 0, locals := 21 }
def r_X3_refusalOfPress (button : Int32) (S : SS) : Int32 := if (r_X3_isButton button) = 0 then (-1) else (if (r_X3_isDown button S) = 0 then 0 else (-5))
set_option maxHeartbeats 1000000 in
set_option maxRecDepth 100000 in
theorem s_X3_refusalOfPress_0 (d : gD) (a : Nat → Nat) (button : Int32) (S : SS)   {X : gX} (E : gE d X RX3 cX3_refusalOfPress 2 R_X3_refusalOfPress) (RET : ∀ (pc_ : Nat) (lv_ : List (Nat × Value)) (v_ : Int32) (u_ : va_W), decode cX3_refusalOfPress pc_ = .ok (.ireturn, 1) → narrow .int (.int v_) = .int v_ → v_ = r_X3_refusalOfPress button S → u_ = SK d a S → G d X u_ R_X3_refusalOfPress.cells R_X3_refusalOfPress.slots pc_ lv_ [.int v_]) : G d X (SK d a S) 0 0 0 [(0, .ref (a 0)), (1, .int button)] [] := by
  refine g_iload_n E 1 dX3_refusalOfPress_0 rfl rfl ?_
  refine g_callSp E gc_X3_isButton ml_X3_92 (t_X3_isButton d button ) rfl rfl rfl (ok_le rfl) ⟨ok_le rfl, ok_le rfl, ok_le rfl, ok_le rfl⟩ rfl rfl dX3_refusalOfPress_1 ?_
  refine g_nm (fun v1_ hv1_ => ?_)
  refine g_ifne E 9 dX3_refusalOfPress_4 (by decide) (fun c_4 => ?_) (fun c_4 => ?_)
  · skip
    refine g_aload_n E 0 dX3_refusalOfPress_9 rfl rfl ?_
    refine g_iload_n E 1 dX3_refusalOfPress_10 rfl rfl ?_
    refine g_callVi0 E gc_X3_isDown ml_X3_96 (t_X3_isDown d a button S ) rfl rfl (ci := 3) 4 rfl rfl rfl rfl (ok_le rfl) ⟨ok_le rfl, ok_le rfl, ok_le rfl, ok_le rfl⟩ rfl rfl dX3_refusalOfPress_11 ?_
    refine g_nm (fun v2_ hv2_ => ?_)
    refine g_ifeq E 22 dX3_refusalOfPress_14 (by decide) (fun c_14 => ?_) (fun c_14 => ?_)
    · skip
      refine g_iconst E 0 dX3_refusalOfPress_22 (by decide) ?_
      subst hv2_
      subst hv1_
      exact RET 23 _ 0 _ dX3_refusalOfPress_23 rfl (by rw [r_X3_refusalOfPress, if_neg c_4, if_pos c_14]) rfl
    · skip
      refine g_bipush E (-5) dX3_refusalOfPress_17 (by decide) ?_
      refine g_goto E 23 dX3_refusalOfPress_19 (by decide) ?_
      subst hv2_
      subst hv1_
      exact RET 23 _ (-5) _ dX3_refusalOfPress_23 rfl (by rw [r_X3_refusalOfPress, if_neg c_4, if_neg c_14]) rfl
  · skip
    refine g_iconst E (-1) dX3_refusalOfPress_7 (by decide) ?_
    subst hv1_
    exact RET 8 _ (-1) _ dX3_refusalOfPress_8 rfl (by rw [r_X3_refusalOfPress, if_pos c_4]) rfl
set_option maxHeartbeats 1000000 in
set_option maxRecDepth 100000 in
theorem t_X3_refusalOfPress (d : gD) (a : Nat → Nat) (button : Int32) (S : SS)  : gMi d yX3_refusalOfPress cX3_refusalOfPress 2 (some .int) R_X3_refusalOfPress [.ref (a 0), .int button] (SK d a S) (fun r_ u_ => r_ = r_X3_refusalOfPress button S ∧ u_ = SK d a S) :=
  g_met_i RX3 rfl (by decide +kernel) (Nat.le_of_ble_eq_true rfl) [(0, .ref (a 0)), (1, .int button)] rfl (fun X E RET => s_X3_refusalOfPress_0 d a button S  E (fun pc_ lv_ v_ u_ h1_ h2_ h3_ h4_ => RET pc_ lv_ v_ u_ h1_ h2_ ⟨h3_, h4_⟩))
abbrev R_X3_refusalOfLetUp : Room := { frames := 1, cells := 0, slots := 0, locals := 21 }
def r_X3_refusalOfLetUp (button : Int32) (S : SS) : Int32 := if (r_X3_isButton button) = 0 then (-1) else (if (r_X3_isDown button S) = 0 then (-5) else 0)
set_option maxHeartbeats 1000000 in
set_option maxRecDepth 100000 in
theorem s_X3_refusalOfLetUp_0 (d : gD) (a : Nat → Nat) (button : Int32) (S : SS)   {X : gX} (E : gE d X RX3 cX3_refusalOfLetUp 2 R_X3_refusalOfLetUp) (RET : ∀ (pc_ : Nat) (lv_ : List (Nat × Value)) (v_ : Int32) (u_ : va_W), decode cX3_refusalOfLetUp pc_ = .ok (.ireturn, 1) → narrow .int (.int v_) = .int v_ → v_ = r_X3_refusalOfLetUp button S → u_ = SK d a S → G d X u_ R_X3_refusalOfLetUp.cells R_X3_refusalOfLetUp.slots pc_ lv_ [.int v_]) : G d X (SK d a S) 0 0 0 [(0, .ref (a 0)), (1, .int button)] [] := by
  refine g_iload_n E 1 dX3_refusalOfLetUp_0 rfl rfl ?_
  refine g_callSp E gc_X3_isButton ml_X3_92 (t_X3_isButton d button ) rfl rfl rfl (ok_le rfl) ⟨ok_le rfl, ok_le rfl, ok_le rfl, ok_le rfl⟩ rfl rfl dX3_refusalOfLetUp_1 ?_
  refine g_nm (fun v1_ hv1_ => ?_)
  refine g_ifne E 9 dX3_refusalOfLetUp_4 (by decide) (fun c_4 => ?_) (fun c_4 => ?_)
  · skip
    refine g_aload_n E 0 dX3_refusalOfLetUp_9 rfl rfl ?_
    refine g_iload_n E 1 dX3_refusalOfLetUp_10 rfl rfl ?_
    refine g_callVi0 E gc_X3_isDown ml_X3_96 (t_X3_isDown d a button S ) rfl rfl (ci := 3) 4 rfl rfl rfl rfl (ok_le rfl) ⟨ok_le rfl, ok_le rfl, ok_le rfl, ok_le rfl⟩ rfl rfl dX3_refusalOfLetUp_11 ?_
    refine g_nm (fun v2_ hv2_ => ?_)
    refine g_ifeq E 21 dX3_refusalOfLetUp_14 (by decide) (fun c_14 => ?_) (fun c_14 => ?_)
    · skip
      refine g_bipush E (-5) dX3_refusalOfLetUp_21 (by decide) ?_
      subst hv2_
      subst hv1_
      exact RET 23 _ (-5) _ dX3_refusalOfLetUp_23 rfl (by rw [r_X3_refusalOfLetUp, if_neg c_4, if_pos c_14]) rfl
    · skip
      refine g_iconst E 0 dX3_refusalOfLetUp_17 (by decide) ?_
      refine g_goto E 23 dX3_refusalOfLetUp_18 (by decide) ?_
      subst hv2_
      subst hv1_
      exact RET 23 _ 0 _ dX3_refusalOfLetUp_23 rfl (by rw [r_X3_refusalOfLetUp, if_neg c_4, if_neg c_14]) rfl
  · skip
    refine g_iconst E (-1) dX3_refusalOfLetUp_7 (by decide) ?_
    subst hv1_
    exact RET 8 _ (-1) _ dX3_refusalOfLetUp_8 rfl (by rw [r_X3_refusalOfLetUp, if_pos c_4]) rfl
set_option maxHeartbeats 1000000 in
set_option maxRecDepth 100000 in
theorem t_X3_refusalOfLetUp (d : gD) (a : Nat → Nat) (button : Int32) (S : SS)  : gMi d yX3_refusalOfLetUp cX3_refusalOfLetUp 2 (some .int) R_X3_refusalOfLetUp [.ref (a 0), .int button] (SK d a S) (fun r_ u_ => r_ = r_X3_refusalOfLetUp button S ∧ u_ = SK d a S) :=
  g_met_i RX3 rfl (by decide +kernel) (Nat.le_of_ble_eq_true rfl) [(0, .ref (a 0)), (1, .int button)] rfl (fun X E RET => s_X3_refusalOfLetUp_0 d a button S  E (fun pc_ lv_ v_ u_ h1_ h2_ h3_ h4_ => RET pc_ lv_ v_ u_ h1_ h2_ ⟨h3_, h4_⟩))
abbrev R_X3_pushDown : Room := { frames := 0, cells := 0, slots := 0, locals := 0 }
def r_X3_pushDown (button : Int32) (S : SS) : Int32 := ((S.1 18) ||| (1 <<< (button &&& 31)))
def c_X3_pushDown (button : Int32) (S : SS) : SS := (upd (upd S.1 18 ((S.1 18) ||| (1 <<< (button &&& 31)))) 13 (S.2.1 6), S.2)
set_option maxHeartbeats 1000000 in
set_option maxRecDepth 100000 in
theorem s_X3_pushDown_0 (d : gD) (a : Nat → Nat) (button : Int32) (S : SS)   {X : gX} (E : gE d X RX3 cX3_pushDown 2 R_X3_pushDown) (RET : ∀ (pc_ : Nat) (lv_ : List (Nat × Value)) (v_ : Int32) (u_ : va_W), decode cX3_pushDown pc_ = .ok (.ireturn, 1) → narrow .int (.int v_) = .int v_ → v_ = r_X3_pushDown button S → u_ = SK d a (c_X3_pushDown button S) → G d X u_ R_X3_pushDown.cells R_X3_pushDown.slots pc_ lv_ [.int v_]) : G d X (SK d a S) 0 0 0 [(0, .ref (a 0)), (1, .int button)] [] := by
  refine g_aload_n E 0 dX3_pushDown_0 rfl rfl ?_
  refine g_dup E dX3_pushDown_1 rfl ?_
  refine g_get E (ci := 3) inlX3 4 rfl rfl 14 (by decide) fl_X3_77 rfl (.int (S.1 18)) rfl dX3_pushDown_2 ?_
  refine g_iconst E 1 dX3_pushDown_5 (by decide) ?_
  refine g_iload_n E 1 dX3_pushDown_6 rfl rfl ?_
  refine g_ishl E dX3_pushDown_7 ?_
  refine g_ior E dX3_pushDown_8 ?_
  refine g_put E (ci := 3) inlX3 4 rfl rfl 14 (by decide) tyX3 tyX3_ok nmX3 fl_X3_77 rfl rfl rfl rfl (ok_lt rfl) (ws' := SK d a (upd S.1 18 ((S.1 18) ||| (1 <<< (button &&& 31))), S.2)) rfl dX3_pushDown_9 ?_
  refine g_aload_n E 0 dX3_pushDown_12 rfl rfl ?_
  refine g_aload_n E 0 dX3_pushDown_13 rfl rfl ?_
  refine g_get E (ci := 3) inlX3 4 rfl rfl 0 (by decide) fl_X3_18 rfl (.ref (a 1)) rfl dX3_pushDown_14 ?_
  refine g_bipush E 6 dX3_pushDown_17 (by decide) ?_
  refine g_iald E 5 rfl rfl 6 rfl (by decide) (by decide) dX3_pushDown_19 ?_
  refine g_put E (ci := 3) inlX3 4 rfl rfl 10 (by decide) tyX3 tyX3_ok nmX3 fl_X3_65 rfl rfl rfl rfl (ok_lt rfl) (ws' := SK d a (upd (upd S.1 18 ((S.1 18) ||| (1 <<< (button &&& 31)))) 13 (S.2.1 6), S.2)) rfl dX3_pushDown_20 ?_
  refine g_aload_n E 0 dX3_pushDown_23 rfl rfl ?_
  refine g_get E (ci := 3) inlX3 4 rfl rfl 14 (by decide) fl_X3_77 rfl (.int ((S.1 18) ||| (1 <<< (button &&& 31)))) rfl dX3_pushDown_24 ?_
  exact RET 27 _ ((S.1 18) ||| (1 <<< (button &&& 31))) _ dX3_pushDown_27 rfl (by rw [r_X3_pushDown]) (by rw [c_X3_pushDown])
set_option maxHeartbeats 1000000 in
set_option maxRecDepth 100000 in
theorem t_X3_pushDown (d : gD) (a : Nat → Nat) (button : Int32) (S : SS)  : gMi d yX3_pushDown cX3_pushDown 2 (some .int) R_X3_pushDown [.ref (a 0), .int button] (SK d a S) (fun r_ u_ => r_ = r_X3_pushDown button S ∧ u_ = SK d a (c_X3_pushDown button S)) :=
  g_met_i RX3 rfl (by decide +kernel) (Nat.le_of_ble_eq_true rfl) [(0, .ref (a 0)), (1, .int button)] rfl (fun X E RET => s_X3_pushDown_0 d a button S  E (fun pc_ lv_ v_ u_ h1_ h2_ h3_ h4_ => RET pc_ lv_ v_ u_ h1_ h2_ ⟨h3_, h4_⟩))
abbrev R_X3_release : Room := { frames := 0, cells := 0, slots := 0, locals := 0 }
def r_X3_release (button : Int32) (S : SS) : Int32 := ((S.1 18) &&& ((1 <<< (button &&& 31)) ^^^ (-1)))
def c_X3_release (button : Int32) (S : SS) : SS := (upd S.1 18 ((S.1 18) &&& ((1 <<< (button &&& 31)) ^^^ (-1))), S.2)
set_option maxHeartbeats 1000000 in
set_option maxRecDepth 100000 in
theorem s_X3_release_0 (d : gD) (a : Nat → Nat) (button : Int32) (S : SS)   {X : gX} (E : gE d X RX3 cX3_release 2 R_X3_release) (RET : ∀ (pc_ : Nat) (lv_ : List (Nat × Value)) (v_ : Int32) (u_ : va_W), decode cX3_release pc_ = .ok (.ireturn, 1) → narrow .int (.int v_) = .int v_ → v_ = r_X3_release button S → u_ = SK d a (c_X3_release button S) → G d X u_ R_X3_release.cells R_X3_release.slots pc_ lv_ [.int v_]) : G d X (SK d a S) 0 0 0 [(0, .ref (a 0)), (1, .int button)] [] := by
  refine g_aload_n E 0 dX3_release_0 rfl rfl ?_
  refine g_dup E dX3_release_1 rfl ?_
  refine g_get E (ci := 3) inlX3 4 rfl rfl 14 (by decide) fl_X3_77 rfl (.int (S.1 18)) rfl dX3_release_2 ?_
  refine g_iconst E 1 dX3_release_5 (by decide) ?_
  refine g_iload_n E 1 dX3_release_6 rfl rfl ?_
  refine g_ishl E dX3_release_7 ?_
  refine g_iconst E (-1) dX3_release_8 (by decide) ?_
  refine g_ixor E dX3_release_9 ?_
  refine g_iand E dX3_release_10 ?_
  refine g_put E (ci := 3) inlX3 4 rfl rfl 14 (by decide) tyX3 tyX3_ok nmX3 fl_X3_77 rfl rfl rfl rfl (ok_lt rfl) (ws' := SK d a (upd S.1 18 ((S.1 18) &&& ((1 <<< (button &&& 31)) ^^^ (-1))), S.2)) rfl dX3_release_11 ?_
  refine g_aload_n E 0 dX3_release_14 rfl rfl ?_
  refine g_get E (ci := 3) inlX3 4 rfl rfl 14 (by decide) fl_X3_77 rfl (.int ((S.1 18) &&& ((1 <<< (button &&& 31)) ^^^ (-1)))) rfl dX3_release_15 ?_
  exact RET 18 _ ((S.1 18) &&& ((1 <<< (button &&& 31)) ^^^ (-1))) _ dX3_release_18 rfl (by rw [r_X3_release]) (by rw [c_X3_release])
set_option maxHeartbeats 1000000 in
set_option maxRecDepth 100000 in
theorem t_X3_release (d : gD) (a : Nat → Nat) (button : Int32) (S : SS)  : gMi d yX3_release cX3_release 2 (some .int) R_X3_release [.ref (a 0), .int button] (SK d a S) (fun r_ u_ => r_ = r_X3_release button S ∧ u_ = SK d a (c_X3_release button S)) :=
  g_met_i RX3 rfl (by decide +kernel) (Nat.le_of_ble_eq_true rfl) [(0, .ref (a 0)), (1, .int button)] rfl (fun X E RET => s_X3_release_0 d a button S  E (fun pc_ lv_ v_ u_ h1_ h2_ h3_ h4_ => RET pc_ lv_ v_ u_ h1_ h2_ ⟨h3_, h4_⟩))
abbrev R_X3_refusalOfSamples : Room := { frames := 1, cells := 0, slots := 0, locals := 21 }
def r_X3_refusalOfSamples (x : Int32) (y : Int32) (many : Int32) (S : SS) : Int32 := if (r_X4_isSample x y) = 0 then (-2) else (if 9999 < ((S.1 21) + many) then (-5) else 0)
set_option maxHeartbeats 1000000 in
set_option maxRecDepth 100000 in
theorem s_X3_refusalOfSamples_0 (d : gD) (a : Nat → Nat) (x : Int32) (y : Int32) (many : Int32) (S : SS)   {X : gX} (E : gE d X RX3 cX3_refusalOfSamples 4 R_X3_refusalOfSamples) (RET : ∀ (pc_ : Nat) (lv_ : List (Nat × Value)) (v_ : Int32) (u_ : va_W), decode cX3_refusalOfSamples pc_ = .ok (.ireturn, 1) → narrow .int (.int v_) = .int v_ → v_ = r_X3_refusalOfSamples x y many S → u_ = SK d a S → G d X u_ R_X3_refusalOfSamples.cells R_X3_refusalOfSamples.slots pc_ lv_ [.int v_]) : G d X (SK d a S) 0 0 0 [(0, .ref (a 0)), (1, .int x), (2, .int y), (3, .int many)] [] := by
  refine g_iload_n E 1 dX3_refusalOfSamples_0 rfl rfl ?_
  refine g_iload_n E 2 dX3_refusalOfSamples_1 rfl rfl ?_
  refine g_callSNp E gc_X4_isSample (List.mem_of_getElem? (i := 6) rfl) (t_X4_isSample d x y ) rfl rfl rfl (ok_le rfl) ⟨ok_le rfl, ok_le rfl, ok_le rfl, ok_le rfl⟩ rfl rfl dX3_refusalOfSamples_2 ?_
  refine g_nm (fun v1_ hv1_ => ?_)
  refine g_ifne E 11 dX3_refusalOfSamples_5 (by decide) (fun c_5 => ?_) (fun c_5 => ?_)
  · skip
    refine g_aload_n E 0 dX3_refusalOfSamples_11 rfl rfl ?_
    refine g_get E (ci := 3) inlX3 4 rfl rfl 11 (by decide) fl_X3_68 rfl (.int (S.1 21)) rfl dX3_refusalOfSamples_12 ?_
    refine g_iload_n E 3 dX3_refusalOfSamples_15 rfl rfl ?_
    refine g_iadd E dX3_refusalOfSamples_16 ?_
    refine g_sipush E 9999 dX3_refusalOfSamples_17 (by decide) ?_
    refine g_icmple E 28 dX3_refusalOfSamples_20 (by decide) (fun c_20 => ?_) (fun c_20 => ?_)
    · skip
      refine g_iconst E 0 dX3_refusalOfSamples_28 (by decide) ?_
      subst hv1_
      exact RET 29 _ 0 _ dX3_refusalOfSamples_29 rfl (by rw [r_X3_refusalOfSamples, if_neg c_5, if_neg c_20]) rfl
    · skip
      refine g_bipush E (-5) dX3_refusalOfSamples_23 (by decide) ?_
      refine g_goto E 29 dX3_refusalOfSamples_25 (by decide) ?_
      subst hv1_
      exact RET 29 _ (-5) _ dX3_refusalOfSamples_29 rfl (by rw [r_X3_refusalOfSamples, if_neg c_5, if_pos c_20]) rfl
  · skip
    refine g_bipush E (-2) dX3_refusalOfSamples_8 (by decide) ?_
    subst hv1_
    exact RET 10 _ (-2) _ dX3_refusalOfSamples_10 rfl (by rw [r_X3_refusalOfSamples, if_pos c_5]) rfl
set_option maxHeartbeats 1000000 in
set_option maxRecDepth 100000 in
theorem t_X3_refusalOfSamples (d : gD) (a : Nat → Nat) (x : Int32) (y : Int32) (many : Int32) (S : SS)  : gMi d yX3_refusalOfSamples cX3_refusalOfSamples 4 (some .int) R_X3_refusalOfSamples [.ref (a 0), .int x, .int y, .int many] (SK d a S) (fun r_ u_ => r_ = r_X3_refusalOfSamples x y many S ∧ u_ = SK d a S) :=
  g_met_i RX3 rfl (by decide +kernel) (Nat.le_of_ble_eq_true rfl) [(0, .ref (a 0)), (1, .int x), (2, .int y), (3, .int many)] rfl (fun X E RET => s_X3_refusalOfSamples_0 d a x y many S  E (fun pc_ lv_ v_ u_ h1_ h2_ h3_ h4_ => RET pc_ lv_ v_ u_ h1_ h2_ ⟨h3_, h4_⟩))
abbrev R_X3_restPlaceX : Room := { frames := 0, cells := 0, slots := 0, locals := 0 }
def r_X3_restPlaceX (S : SS) : Int32 := ((S.1 7) / 16)
set_option maxHeartbeats 1000000 in
set_option maxRecDepth 100000 in
theorem s_X3_restPlaceX_0 (d : gD) (a : Nat → Nat) (S : SS)   {X : gX} (E : gE d X RX3 cX3_restPlaceX 1 R_X3_restPlaceX) (RET : ∀ (pc_ : Nat) (lv_ : List (Nat × Value)) (v_ : Int32) (u_ : va_W), decode cX3_restPlaceX pc_ = .ok (.ireturn, 1) → narrow .int (.int v_) = .int v_ → v_ = r_X3_restPlaceX S → u_ = SK d a S → G d X u_ R_X3_restPlaceX.cells R_X3_restPlaceX.slots pc_ lv_ [.int v_]) : G d X (SK d a S) 0 0 0 [(0, .ref (a 0))] [] := by
  refine g_aload_n E 0 dX3_restPlaceX_0 rfl rfl ?_
  refine g_get E (ci := 3) inlX3 4 rfl rfl 2 (by decide) fl_X3_30 rfl (.int (S.1 7)) rfl dX3_restPlaceX_1 ?_
  refine g_bipush E 16 dX3_restPlaceX_4 (by decide) ?_
  refine g_idiv E dX3_restPlaceX_6 (by decide) ?_
  exact RET 7 _ ((S.1 7) / 16) _ dX3_restPlaceX_7 rfl (by rw [r_X3_restPlaceX]) rfl
set_option maxHeartbeats 1000000 in
set_option maxRecDepth 100000 in
theorem t_X3_restPlaceX (d : gD) (a : Nat → Nat) (S : SS)  : gMi d yX3_restPlaceX cX3_restPlaceX 1 (some .int) R_X3_restPlaceX [.ref (a 0)] (SK d a S) (fun r_ u_ => r_ = r_X3_restPlaceX S ∧ u_ = SK d a S) :=
  g_met_i RX3 rfl (by decide +kernel) (Nat.le_of_ble_eq_true rfl) [(0, .ref (a 0))] rfl (fun X E RET => s_X3_restPlaceX_0 d a S  E (fun pc_ lv_ v_ u_ h1_ h2_ h3_ h4_ => RET pc_ lv_ v_ u_ h1_ h2_ ⟨h3_, h4_⟩))
abbrev R_X3_restPlaceY : Room := { frames := 0, cells := 0, slots := 0, locals := 0 }
def r_X3_restPlaceY (S : SS) : Int32 := ((S.1 8) / 16)
set_option maxHeartbeats 1000000 in
set_option maxRecDepth 100000 in
theorem s_X3_restPlaceY_0 (d : gD) (a : Nat → Nat) (S : SS)   {X : gX} (E : gE d X RX3 cX3_restPlaceY 1 R_X3_restPlaceY) (RET : ∀ (pc_ : Nat) (lv_ : List (Nat × Value)) (v_ : Int32) (u_ : va_W), decode cX3_restPlaceY pc_ = .ok (.ireturn, 1) → narrow .int (.int v_) = .int v_ → v_ = r_X3_restPlaceY S → u_ = SK d a S → G d X u_ R_X3_restPlaceY.cells R_X3_restPlaceY.slots pc_ lv_ [.int v_]) : G d X (SK d a S) 0 0 0 [(0, .ref (a 0))] [] := by
  refine g_aload_n E 0 dX3_restPlaceY_0 rfl rfl ?_
  refine g_get E (ci := 3) inlX3 4 rfl rfl 3 (by decide) fl_X3_34 rfl (.int (S.1 8)) rfl dX3_restPlaceY_1 ?_
  refine g_bipush E 16 dX3_restPlaceY_4 (by decide) ?_
  refine g_idiv E dX3_restPlaceY_6 (by decide) ?_
  exact RET 7 _ ((S.1 8) / 16) _ dX3_restPlaceY_7 rfl (by rw [r_X3_restPlaceY]) rfl
set_option maxHeartbeats 1000000 in
set_option maxRecDepth 100000 in
theorem t_X3_restPlaceY (d : gD) (a : Nat → Nat) (S : SS)  : gMi d yX3_restPlaceY cX3_restPlaceY 1 (some .int) R_X3_restPlaceY [.ref (a 0)] (SK d a S) (fun r_ u_ => r_ = r_X3_restPlaceY S ∧ u_ = SK d a S) :=
  g_met_i RX3 rfl (by decide +kernel) (Nat.le_of_ble_eq_true rfl) [(0, .ref (a 0))] rfl (fun X E RET => s_X3_restPlaceY_0 d a S  E (fun pc_ lv_ v_ u_ h1_ h2_ h3_ h4_ => RET pc_ lv_ v_ u_ h1_ h2_ ⟨h3_, h4_⟩))
abbrev R_X3_isOffByNothing : Room := { frames := 1, cells := 0, slots := 0, locals := 20 }
def r_X3_isOffByNothing (x : Int32) (y : Int32) (S : SS) : Int32 := if x = (r_X3_restPlaceX S) then (if y = (r_X3_restPlaceY S) then 1 else 0) else 0
set_option maxHeartbeats 1000000 in
set_option maxRecDepth 100000 in
theorem s_X3_isOffByNothing_0 (d : gD) (a : Nat → Nat) (x : Int32) (y : Int32) (S : SS)   {X : gX} (E : gE d X RX3 cX3_isOffByNothing 3 R_X3_isOffByNothing) (RET : ∀ (pc_ : Nat) (lv_ : List (Nat × Value)) (v_ : Int32) (u_ : va_W), decode cX3_isOffByNothing pc_ = .ok (.ireturn, 1) → narrow .boolean (.int v_) = .int v_ → v_ = r_X3_isOffByNothing x y S → u_ = SK d a S → G d X u_ R_X3_isOffByNothing.cells R_X3_isOffByNothing.slots pc_ lv_ [.int v_]) : G d X (SK d a S) 0 0 0 [(0, .ref (a 0)), (1, .int x), (2, .int y)] [] := by
  refine g_iload_n E 1 dX3_isOffByNothing_0 rfl rfl ?_
  refine g_aload_n E 0 dX3_isOffByNothing_1 rfl rfl ?_
  refine g_callVi0 E gc_X3_restPlaceX ml_X3_103 (t_X3_restPlaceX d a S ) rfl rfl (ci := 3) 4 rfl rfl rfl rfl (ok_le rfl) ⟨ok_le rfl, ok_le rfl, ok_le rfl, ok_le rfl⟩ rfl rfl dX3_isOffByNothing_2 ?_
  refine g_nm (fun v1_ hv1_ => ?_)
  refine g_icmpne E 20 dX3_isOffByNothing_5 (by decide) (fun c_5 => ?_) (fun c_5 => ?_)
  · skip
    refine g_iconst E 0 dX3_isOffByNothing_20 (by decide) ?_
    subst hv1_
    exact RET 21 _ 0 _ dX3_isOffByNothing_21 rfl (by rw [r_X3_isOffByNothing, if_neg c_5]) rfl
  · skip
    refine g_iload_n E 2 dX3_isOffByNothing_8 rfl rfl ?_
    refine g_aload_n E 0 dX3_isOffByNothing_9 rfl rfl ?_
    refine g_callVi0 E gc_X3_restPlaceY ml_X3_107 (t_X3_restPlaceY d a S ) rfl rfl (ci := 3) 4 rfl rfl rfl rfl (ok_le rfl) ⟨ok_le rfl, ok_le rfl, ok_le rfl, ok_le rfl⟩ rfl rfl dX3_isOffByNothing_10 ?_
    refine g_nm (fun v2_ hv2_ => ?_)
    refine g_icmpne E 20 dX3_isOffByNothing_13 (by decide) (fun c_13 => ?_) (fun c_13 => ?_)
    · skip
      refine g_iconst E 0 dX3_isOffByNothing_20 (by decide) ?_
      subst hv2_
      subst hv1_
      exact RET 21 _ 0 _ dX3_isOffByNothing_21 rfl (by rw [r_X3_isOffByNothing, if_pos c_5, if_neg c_13]) rfl
    · skip
      refine g_iconst E 1 dX3_isOffByNothing_16 (by decide) ?_
      refine g_goto E 21 dX3_isOffByNothing_17 (by decide) ?_
      subst hv2_
      subst hv1_
      exact RET 21 _ 1 _ dX3_isOffByNothing_21 rfl (by rw [r_X3_isOffByNothing, if_pos c_5, if_pos c_13]) rfl
set_option maxHeartbeats 1000000 in
set_option maxRecDepth 100000 in
theorem t_X3_isOffByNothing (d : gD) (a : Nat → Nat) (x : Int32) (y : Int32) (S : SS)  : gMi d yX3_isOffByNothing cX3_isOffByNothing 3 (some .boolean) R_X3_isOffByNothing [.ref (a 0), .int x, .int y] (SK d a S) (fun r_ u_ => r_ = r_X3_isOffByNothing x y S ∧ u_ = SK d a S) :=
  g_met_i RX3 rfl (by decide +kernel) (Nat.le_of_ble_eq_true rfl) [(0, .ref (a 0)), (1, .int x), (2, .int y)] rfl (fun X E RET => s_X3_isOffByNothing_0 d a x y S  E (fun pc_ lv_ v_ u_ h1_ h2_ h3_ h4_ => RET pc_ lv_ v_ u_ h1_ h2_ ⟨h3_, h4_⟩))
abbrev R_X3_farthestOff : Room := { frames := 1, cells := 0, slots := 0, locals := 20 }
def r_X3_farthestOff (x : Int32) (y : Int32) (S : SS) : Int32 := (imax (iabs (x - (r_X3_restPlaceX S))) (iabs (y - (r_X3_restPlaceY S))))
set_option maxHeartbeats 1000000 in
set_option maxRecDepth 100000 in
theorem s_X3_farthestOff_0 (d : gD) (a : Nat → Nat) (x : Int32) (y : Int32) (S : SS)   {X : gX} (E : gE d X RX3 cX3_farthestOff 3 R_X3_farthestOff) (RET : ∀ (pc_ : Nat) (lv_ : List (Nat × Value)) (v_ : Int32) (u_ : va_W), decode cX3_farthestOff pc_ = .ok (.ireturn, 1) → narrow .int (.int v_) = .int v_ → v_ = r_X3_farthestOff x y S → u_ = SK d a S → G d X u_ R_X3_farthestOff.cells R_X3_farthestOff.slots pc_ lv_ [.int v_]) : G d X (SK d a S) 0 0 0 [(0, .ref (a 0)), (1, .int x), (2, .int y)] [] := by
  refine g_iload_n E 1 dX3_farthestOff_0 rfl rfl ?_
  refine g_aload_n E 0 dX3_farthestOff_1 rfl rfl ?_
  refine g_callVi0 E gc_X3_restPlaceX ml_X3_103 (t_X3_restPlaceX d a S ) rfl rfl (ci := 3) 4 rfl rfl rfl rfl (ok_le rfl) ⟨ok_le rfl, ok_le rfl, ok_le rfl, ok_le rfl⟩ rfl rfl dX3_farthestOff_2 ?_
  refine g_nm (fun v1_ hv1_ => ?_)
  refine g_isub E dX3_farthestOff_5 ?_
  refine g_abs E ml_X3_86 (ok_le rfl) (ok_le rfl) (ok_le rfl) (ok_le rfl) dX3_farthestOff_6 ?_
  refine g_top (b := iabs (x - v1_)) rfl ?_
  refine g_iload_n E 2 dX3_farthestOff_9 rfl rfl ?_
  refine g_aload_n E 0 dX3_farthestOff_10 rfl rfl ?_
  refine g_callVi0 E gc_X3_restPlaceY ml_X3_107 (t_X3_restPlaceY d a S ) rfl rfl (ci := 3) 4 rfl rfl rfl rfl (ok_le rfl) ⟨ok_le rfl, ok_le rfl, ok_le rfl, ok_le rfl⟩ rfl rfl dX3_farthestOff_11 ?_
  refine g_nm (fun v2_ hv2_ => ?_)
  refine g_isub E dX3_farthestOff_14 ?_
  refine g_abs E ml_X3_86 (ok_le rfl) (ok_le rfl) (ok_le rfl) (ok_le rfl) dX3_farthestOff_15 ?_
  refine g_top (b := iabs (y - v2_)) rfl ?_
  refine g_max E ml_X3_110 (ok_le rfl) (ok_le rfl) (ok_le rfl) (ok_le rfl) dX3_farthestOff_18 ?_
  refine g_top (b := imax (iabs (x - v1_)) (iabs (y - v2_))) rfl ?_
  subst hv2_
  subst hv1_
  exact RET 21 _ (imax (iabs (x - (r_X3_restPlaceX S))) (iabs (y - (r_X3_restPlaceY S)))) _ dX3_farthestOff_21 rfl (by rw [r_X3_farthestOff]) rfl
set_option maxHeartbeats 1000000 in
set_option maxRecDepth 100000 in
theorem t_X3_farthestOff (d : gD) (a : Nat → Nat) (x : Int32) (y : Int32) (S : SS)  : gMi d yX3_farthestOff cX3_farthestOff 3 (some .int) R_X3_farthestOff [.ref (a 0), .int x, .int y] (SK d a S) (fun r_ u_ => r_ = r_X3_farthestOff x y S ∧ u_ = SK d a S) :=
  g_met_i RX3 rfl (by decide +kernel) (Nat.le_of_ble_eq_true rfl) [(0, .ref (a 0)), (1, .int x), (2, .int y)] rfl (fun X E RET => s_X3_farthestOff_0 d a x y S  E (fun pc_ lv_ v_ u_ h1_ h2_ h3_ h4_ => RET pc_ lv_ v_ u_ h1_ h2_ ⟨h3_, h4_⟩))
