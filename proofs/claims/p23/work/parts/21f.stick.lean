abbrev R_X3_tell : Room := { frames := 2, cells := 0, slots := 0, locals := 38 }
def j_X3_tell_41_g (telling : Int32) (S : SS) : Nat → Int32 := if (r_X3_tellsSomething (upd (upd S.1 14 ((telling / 1000) - 100)) 15 ((telling - telling / 1000 * 1000) - 100), S.2)) = 0 then (upd (upd S.1 14 ((telling / 1000) - 100)) 15 ((telling - telling / 1000 * 1000) - 100)) else (upd (upd (upd S.1 14 ((telling / 1000) - 100)) 15 ((telling - telling / 1000 * 1000) - 100)) 19 ((S.1 19) + 1))
def c_X3_tell_at41 (telling : Int32) (S : SS) : SS := ((j_X3_tell_41_g telling S), S.2.1, (c_X0_note (r_J6_compare_7cf53 ((j_X3_tell_41_g telling S) 14) 0) (r_J6_compare_7cf53 ((j_X3_tell_41_g telling S) 15) 0) S.2.2))
def c_X3_tell (telling : Int32) (S : SS) : SS := c_X3_tell_at41 telling S
set_option maxHeartbeats 1000000 in
set_option maxRecDepth 100000 in
theorem s_X3_tell_41 (d : gD) (a : Nat → Nat) (telling : Int32) (S : SS) (hu : ¬ S.2.2.1 0 < 0)  {X : gX} (E : gE d X RX3 cX3_tell 2 R_X3_tell) (RET : ∀ (pc_ : Nat) (lv_ : List (Nat × Value)) (u_ : va_W), decode cX3_tell pc_ = .ok (.return_, 1) → u_ = SK d a (c_X3_tell_at41 telling S) → G d X u_ R_X3_tell.cells R_X3_tell.slots pc_ lv_ []) : G d X (SK d a ((j_X3_tell_41_g telling S), S.2)) 0 0 41 [(0, .ref (a 0)), (1, .int telling)] [] := by
  obtain ⟨J2_, hJ2_⟩ : ∃ z, j_X3_tell_41_g telling S = z := ⟨_, rfl⟩
  rw [hJ2_]
  refine g_aload_n E 0 dX3_tell_41 rfl rfl ?_
  refine g_get E (ci := 3) inlX3 4 rfl rfl 1 (by decide) fl_X3_26 rfl (.ref (a 2)) rfl dX3_tell_42 ?_
  refine g_aload_n E 0 dX3_tell_45 rfl rfl ?_
  refine g_get E (ci := 3) inlX3 4 rfl rfl 5 (by decide) fl_X3_50 rfl (.int (J2_ 14)) rfl dX3_tell_46 ?_
  refine g_iconst E 0 dX3_tell_49 (by decide) ?_
  refine g_callSp E gc_J6_compare_7cf53 ml_X3_153 (t_J6_compare_7cf53 d (J2_ 14) 0 ) rfl rfl rfl (ok_le rfl) ⟨ok_le rfl, ok_le rfl, ok_le rfl, ok_le rfl⟩ rfl rfl dX3_tell_50 ?_
  refine g_nm (fun v3_ hv3_ => ?_)
  refine g_aload_n E 0 dX3_tell_53 rfl rfl ?_
  refine g_get E (ci := 3) inlX3 4 rfl rfl 6 (by decide) fl_X3_53 rfl (.int (J2_ 15)) rfl dX3_tell_54 ?_
  refine g_iconst E 0 dX3_tell_57 (by decide) ?_
  refine g_callSp E gc_J6_compare_7cf53 ml_X3_153 (t_J6_compare_7cf53 d (J2_ 15) 0 ) rfl rfl rfl (ok_le rfl) ⟨ok_le rfl, ok_le rfl, ok_le rfl, ok_le rfl⟩ rfl rfl dX3_tell_58 ?_
  refine g_nm (fun v4_ hv4_ => ?_)
  refine g_callVvD E gc_X0_note ml_X3_158 (t_X0_note d a v3_ v4_ S.2.2 (by first | assumption | omega)) rfl (wr := SO d a J2_ S.2.1) rfl (ci := 0) 0 rfl rfl rfl rfl (ok_le rfl) ⟨ok_le rfl, ok_le rfl, ok_le rfl, ok_le rfl⟩ rfl rfl dX3_tell_61 ?_
  refine g_eq (ws' := SK d a (J2_, S.2.1, (c_X0_note v3_ v4_ S.2.2))) (SK_mk d a J2_ S.2.1 (c_X0_note v3_ v4_ S.2.2)) ?_
  obtain ⟨S5_, hS5_⟩ : ∃ z, c_X0_note v3_ v4_ S.2.2 = z := ⟨_, rfl⟩
  rw [hS5_]
  subst hS5_
  subst hv4_
  subst hv3_
  subst hJ2_
  exact RET 64 _ _ dX3_tell_64 (by rw [c_X3_tell_at41])
set_option maxHeartbeats 1000000 in
set_option maxRecDepth 100000 in
theorem s_X3_tell_0 (d : gD) (a : Nat → Nat) (telling : Int32) (S : SS) (hu : ¬ S.2.2.1 0 < 0)  {X : gX} (E : gE d X RX3 cX3_tell 2 R_X3_tell) (RET : ∀ (pc_ : Nat) (lv_ : List (Nat × Value)) (u_ : va_W), decode cX3_tell pc_ = .ok (.return_, 1) → u_ = SK d a (c_X3_tell telling S) → G d X u_ R_X3_tell.cells R_X3_tell.slots pc_ lv_ []) : G d X (SK d a S) 0 0 0 [(0, .ref (a 0)), (1, .int telling)] [] := by
  refine g_aload_n E 0 dX3_tell_0 rfl rfl ?_
  refine g_iload_n E 1 dX3_tell_1 rfl rfl ?_
  refine g_sipush E 1000 dX3_tell_2 (by decide) ?_
  refine g_idiv E dX3_tell_5 (by decide) ?_
  refine g_bipush E 100 dX3_tell_6 (by decide) ?_
  refine g_isub E dX3_tell_8 ?_
  refine g_put E (ci := 3) inlX3 4 rfl rfl 5 (by decide) tyX3 tyX3_ok nmX3 fl_X3_50 rfl rfl rfl rfl (ok_lt rfl) (ws' := SK d a (upd S.1 14 ((telling / 1000) - 100), S.2)) rfl dX3_tell_9 ?_
  refine g_aload_n E 0 dX3_tell_12 rfl rfl ?_
  refine g_iload_n E 1 dX3_tell_13 rfl rfl ?_
  refine g_sipush E 1000 dX3_tell_14 (by decide) ?_
  refine g_irem E dX3_tell_17 (by decide) ?_
  refine g_bipush E 100 dX3_tell_18 (by decide) ?_
  refine g_isub E dX3_tell_20 ?_
  refine g_put E (ci := 3) inlX3 4 rfl rfl 6 (by decide) tyX3 tyX3_ok nmX3 fl_X3_53 rfl rfl rfl rfl (ok_lt rfl) (ws' := SK d a (upd (upd S.1 14 ((telling / 1000) - 100)) 15 ((telling - telling / 1000 * 1000) - 100), S.2)) rfl dX3_tell_21 ?_
  refine g_aload_n E 0 dX3_tell_24 rfl rfl ?_
  refine g_callVi0 E gc_X3_tellsSomething ml_X3_149 (t_X3_tellsSomething d a (upd (upd S.1 14 ((telling / 1000) - 100)) 15 ((telling - telling / 1000 * 1000) - 100), S.2) ) rfl rfl (ci := 3) 4 rfl rfl rfl rfl (ok_le rfl) ⟨ok_le rfl, ok_le rfl, ok_le rfl, ok_le rfl⟩ rfl rfl dX3_tell_25 ?_
  refine g_nm (fun v1_ hv1_ => ?_)
  refine g_ifeq E 41 dX3_tell_28 (by decide) (fun c_28 => ?_) (fun c_28 => ?_)
  · skip
    subst hv1_
    have J := s_X3_tell_41 d a telling S hu  E (fun pc_ lv_ u_ h1_ h2_ => RET pc_ lv_ u_ h1_ (h2_.trans (by rw [c_X3_tell])))
    rw [j_X3_tell_41_g, if_pos c_28] at J
    exact J
  · skip
    refine g_aload_n E 0 dX3_tell_31 rfl rfl ?_
    refine g_dup E dX3_tell_32 rfl ?_
    refine g_get E (ci := 3) inlX3 4 rfl rfl 15 (by decide) fl_X3_80 rfl (.int (S.1 19)) rfl dX3_tell_33 ?_
    refine g_iconst E 1 dX3_tell_36 (by decide) ?_
    refine g_iadd E dX3_tell_37 ?_
    refine g_put E (ci := 3) inlX3 4 rfl rfl 15 (by decide) tyX3 tyX3_ok nmX3 fl_X3_80 rfl rfl rfl rfl (ok_lt rfl) (ws' := SK d a (upd (upd (upd S.1 14 ((telling / 1000) - 100)) 15 ((telling - telling / 1000 * 1000) - 100)) 19 ((S.1 19) + 1), S.2)) rfl dX3_tell_38 ?_
    subst hv1_
    have J := s_X3_tell_41 d a telling S hu  E (fun pc_ lv_ u_ h1_ h2_ => RET pc_ lv_ u_ h1_ (h2_.trans (by rw [c_X3_tell])))
    rw [j_X3_tell_41_g, if_neg c_28] at J
    exact J
set_option maxHeartbeats 1000000 in
set_option maxRecDepth 100000 in
theorem t_X3_tell (d : gD) (a : Nat → Nat) (telling : Int32) (S : SS) (hu : ¬ S.2.2.1 0 < 0) : gMv d yX3_tell cX3_tell 2 R_X3_tell [.ref (a 0), .int telling] (SK d a S) (fun u_ => u_ = SK d a (c_X3_tell telling S)) :=
  g_met_v RX3 rfl (by decide +kernel) (Nat.le_of_ble_eq_true rfl) [(0, .ref (a 0)), (1, .int telling)] rfl (fun X E _ RET => s_X3_tell_0 d a telling S hu E (fun pc_ lv_ u_ h1_ h2_ => RET pc_ lv_ u_ h1_ h2_))
