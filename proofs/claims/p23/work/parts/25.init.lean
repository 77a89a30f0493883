abbrev dfX0 : List Value := [.null, .null, .null, .int 0, .int 0, .int 0]
theorem dvX0 : ∀ j, j < 6 → defaultValue (tyX0 j) = vp_V dfX0 j := by
  intro j hj
  match j, hj with
  | 0, _ => rfl
  | 1, _ => rfl
  | 2, _ => rfl
  | 3, _ => rfl
  | 4, _ => rfl
  | 5, _ => rfl
  | _ + 6, h => exact absurd h (by omega)
abbrev dfX1 : List Value := [.null, .int 0, .int 0]
theorem dvX1 : ∀ j, j < 3 → defaultValue (tyX1 j) = vp_V dfX1 j := by
  intro j hj
  match j, hj with
  | 0, _ => rfl
  | 1, _ => rfl
  | 2, _ => rfl
  | _ + 3, h => exact absurd h (by omega)
abbrev dfX2 : List Value := [.null, .int 0, .int 0, .int 0, .int 0, .int 0, .int 0]
theorem dvX2 : ∀ j, j < 7 → defaultValue (tyX2 j) = vp_V dfX2 j := by
  intro j hj
  match j, hj with
  | 0, _ => rfl
  | 1, _ => rfl
  | 2, _ => rfl
  | 3, _ => rfl
  | 4, _ => rfl
  | 5, _ => rfl
  | 6, _ => rfl
  | _ + 7, h => exact absurd h (by omega)
abbrev dfX3 : List Value := [.null, .null, .int 0, .int 0, .int 0, .int 0, .int 0, .int 0, .int 0, .int 0, .int 0, .int 0, .int 0, .int 0, .int 0, .int 0, .int 0]
theorem dvX3 : ∀ j, j < 17 → defaultValue (tyX3 j) = vp_V dfX3 j := by
  intro j hj
  match j, hj with
  | 0, _ => rfl
  | 1, _ => rfl
  | 2, _ => rfl
  | 3, _ => rfl
  | 4, _ => rfl
  | 5, _ => rfl
  | 6, _ => rfl
  | 7, _ => rfl
  | 8, _ => rfl
  | 9, _ => rfl
  | 10, _ => rfl
  | 11, _ => rfl
  | 12, _ => rfl
  | 13, _ => rfl
  | 14, _ => rfl
  | 15, _ => rfl
  | 16, _ => rfl
  | _ + 17, h => exact absurd h (by omega)
abbrev dfX4 : List Value := [.null, .null, .null, .null, .null]
theorem dvX4 : ∀ j, j < 5 → defaultValue (tyX4 j) = vp_V dfX4 j := by
  intro j hj
  match j, hj with
  | 0, _ => rfl
  | 1, _ => rfl
  | 2, _ => rfl
  | 3, _ => rfl
  | 4, _ => rfl
  | _ + 5, h => exact absurd h (by omega)
theorem lr5 {α : Type} (a b c e f : List α) : (a ++ (b ++ (c ++ (e ++ f)))).Perm (f ++ (e ++ (c ++ (b ++ a)))) := by
  have h1 : (a ++ (b ++ (c ++ (e ++ f)))).Perm ((b ++ (c ++ (e ++ f))) ++ a) := List.perm_append_comm
  have h2 : (b ++ (c ++ (e ++ f))).Perm ((c ++ (e ++ f)) ++ b) := List.perm_append_comm
  have h3 : (c ++ (e ++ f)).Perm ((e ++ f) ++ c) := List.perm_append_comm
  have h4 : (e ++ f).Perm (f ++ e) := List.perm_append_comm
  have h5 := h4.append_right c
  have h6 := (h3.trans h5).append_right b
  have h7 := (h2.trans h6).append_right a
  have h8 := h1.trans h7
  simp only [List.append_assoc] at h8
  exact h8
def DD0 : DD := (fun k => match k with | 1 => -6 | _ => 0, fun _ => 0, fun _ => 0, fun _ => 0)
def S0 : SS := (fun k => match k with | 7 => 2048 | 8 => 2048 | 9 => 6 | _ => 0, tabF, DD0)
/-- History's own cells: the object, its row of sticks -/
def HB (d : gD) (e : Nat → Nat) (ol sz : Int32) (qf : Nat → Option Nat) : va_W := [(e 0, .inr (1, [.ref (e 1), .int ol, .int sz])), (e 1, .inl (d.2.2.2.2, 6, .inr (.inr (.inr (.inr qf)))))]
/-- sticks that there are, one by one -/
def PL (d : gD) (p : Nat → Nat → Nat) (s : Nat → Option SS) : Nat → va_W
  | 0 => []
  | n + 1 => PL d p s n ++ (match s n with | none => [] | some T => SK d (p n) T)
def qf (p : Nat → Nat → Nat) (s : Nat → Option SS) : Nat → Option Nat := fun j => (s j).map (fun _ => p j 0)
/-- the class's object and its row of slots -/
def XO (d : gD) (x a b c e : Nat → Nat) (q : Nat → Option Nat) : va_W := [(x 0, .inr (4, [.ref (a 0), .ref (b 0), .ref (c 0), .ref (e 0), .ref (x 1)])), (x 1, .inl (d.2.2.2.2, 2, .inr (.inr (.inr (.inr q)))))]
/-- addresses: the object, stick, trial, pad, history; the history's sticks, the slots' -/
abbrev AD : Type := (Nat → Nat) × (Nat → Nat) × (Nat → Nat) × (Nat → Nat) × (Nat → Nat)
/-- History's state: oldest, size, states -/
abbrev HS : Type := Nat × Nat × (Nat → Option SS)
def HP (d : gD) (e : Nat → Nat) (p : Nat → Nat → Nat) (h : HS) : va_W := HB d e (nI h.1) (nI h.2.1) (qf p h.2.2) ++ PL d p h.2.2 6
def XW (d : gD) (A : AD) (p q : Nat → Nat → Nat) (S T : SS) (h t : Nat → Int32) (y : HS) (ss : Nat → Option SS) : va_W := XO d A.1 A.2.1 A.2.2.1 A.2.2.2.1 A.2.2.2.2 (qf q ss) ++ (SK d A.2.1 S ++ (SK d A.2.2.1 T ++ (PK d A.2.2.2.1 h t ++ (HP d A.2.2.2.2 p y ++ PL d q ss 2))))
abbrev R_X0_init : Room := { frames := 1, cells := 3, slots := 27, locals := 12 }
set_option maxHeartbeats 2000000 in
set_option maxRecDepth 100000 in
theorem t_X0_init (d : gD) (q0 : Nat) : gMv d yX0_init cX0_init 1 R_X0_init [.ref q0] [(q0, .inr (0, dfX0))] (fun u => ∃ b : Nat → Nat, b 2 = q0 ∧ u = DK d b DD0) := by
  refine g_met_v RX0 rfl (by decide +kernel) (Nat.le_of_ble_eq_true rfl) [(0, .ref q0)] rfl (fun X E hi0 RET => ?_)
  have hi := hi0 rfl
  refine g_aload_n E 0 dX0_init_0 rfl rfl ?_
  refine g_objInit E ml_X0_3 (ok_le rfl) (ok_le rfl) dX0_init_1 ?_
  refine g_aload_n E 0 dX0_init_4 rfl rfl ?_
  refine g_bipush E 9 dX0_init_5 (by decide) ?_
  refine g_newi E ac_int rfl (N := 9) (by decide) (by decide) (ok_le rfl) (ok_le rfl) dX0_init_7 (fun r0 _ => ?_)
  refine g_eq (ws' := [(q0, .inr (0, [.null, .null, .null, .int 0, .int 0, .int 0])), (r0, .inl (d.2.1, 9, .inl (fun _ => 0)))]) rfl ?_
  refine g_putF E (ci := 0) inlX0 0 rfl rfl 0 (by decide) tyX0 tyX0_ok nmX0 hi fl_X0_9 rfl rfl rfl rfl rfl (ok_lt rfl) (ws' := [(q0, .inr (0, [.ref r0, .null, .null, .int 0, .int 0, .int 0])), (r0, .inl (d.2.1, 9, .inl (fun _ => 0)))]) rfl dX0_init_9 ?_
  refine g_aload_n E 0 dX0_init_12 rfl rfl ?_
  refine g_bipush E 9 dX0_init_13 (by decide) ?_
  refine g_newi E ac_int rfl (N := 9) (by decide) (by decide) (ok_le rfl) (ok_le rfl) dX0_init_15 (fun r1 _ => ?_)
  refine g_eq (ws' := [(q0, .inr (0, [.ref r0, .null, .null, .int 0, .int 0, .int 0])), (r0, .inl (d.2.1, 9, .inl (fun _ => 0))), (r1, .inl (d.2.1, 9, .inl (fun _ => 0)))]) rfl ?_
  refine g_putF E (ci := 0) inlX0 0 rfl rfl 1 (by decide) tyX0 tyX0_ok nmX0 hi fl_X0_15 rfl rfl rfl rfl rfl (ok_lt rfl) (ws' := [(q0, .inr (0, [.ref r0, .ref r1, .null, .int 0, .int 0, .int 0])), (r0, .inl (d.2.1, 9, .inl (fun _ => 0))), (r1, .inl (d.2.1, 9, .inl (fun _ => 0)))]) rfl dX0_init_17 ?_
  refine g_aload_n E 0 dX0_init_20 rfl rfl ?_
  refine g_bipush E 9 dX0_init_21 (by decide) ?_
  refine g_newi E ac_int rfl (N := 9) (by decide) (by decide) (ok_le rfl) (ok_le rfl) dX0_init_23 (fun r2 _ => ?_)
  refine g_eq (ws' := [(q0, .inr (0, [.ref r0, .ref r1, .null, .int 0, .int 0, .int 0])), (r0, .inl (d.2.1, 9, .inl (fun _ => 0))), (r1, .inl (d.2.1, 9, .inl (fun _ => 0))), (r2, .inl (d.2.1, 9, .inl (fun _ => 0)))]) rfl ?_
  refine g_putF E (ci := 0) inlX0 0 rfl rfl 2 (by decide) tyX0 tyX0_ok nmX0 hi fl_X0_18 rfl rfl rfl rfl rfl (ok_lt rfl) (ws' := [(q0, .inr (0, [.ref r0, .ref r1, .ref r2, .int 0, .int 0, .int 0])), (r0, .inl (d.2.1, 9, .inl (fun _ => 0))), (r1, .inl (d.2.1, 9, .inl (fun _ => 0))), (r2, .inl (d.2.1, 9, .inl (fun _ => 0)))]) rfl dX0_init_25 ?_
  refine g_aload_n E 0 dX0_init_28 rfl rfl ?_
  refine g_bipush E (-6) dX0_init_29 (by decide) ?_
  refine g_put E (ci := 0) inlX0 0 rfl rfl 4 (by decide) tyX0 tyX0_ok nmX0 fl_X0_21 rfl rfl rfl rfl (ok_lt rfl) (ws' := [(q0, .inr (0, [.ref r0, .ref r1, .ref r2, .int 0, .int (-6), .int 0])), (r0, .inl (d.2.1, 9, .inl (fun _ => 0))), (r1, .inl (d.2.1, 9, .inl (fun _ => 0))), (r2, .inl (d.2.1, 9, .inl (fun _ => 0)))]) rfl dX0_init_31 ?_
  exact RET 34 _ _ dX0_init_34 ⟨(fun k => match k with | 0 => q0 | 1 => q0 | 2 => q0 | 3 => r0 | 4 => r1 | _ => r2), rfl, rfl⟩
abbrev R_X1_init : Room := { frames := 1, cells := 1, slots := 6, locals := 12 }
set_option maxHeartbeats 2000000 in
set_option maxRecDepth 100000 in
theorem t_X1_init (d : gD) (q0 : Nat) : gMv d yX1_init cX1_init 1 R_X1_init [.ref q0] [(q0, .inr (1, dfX1))] (fun u => ∃ b : Nat → Nat, b 0 = q0 ∧ u = HB d b 0 0 (fun _ => none)) := by
  refine g_met_v RX1 rfl (by decide +kernel) (Nat.le_of_ble_eq_true rfl) [(0, .ref q0)] rfl (fun X E hi0 RET => ?_)
  have hi := hi0 rfl
  refine g_aload_n E 0 dX1_init_0 rfl rfl ?_
  refine g_objInit E ml_X1_3 (ok_le rfl) (ok_le rfl) dX1_init_1 ?_
  refine g_aload_n E 0 dX1_init_4 rfl rfl ?_
  refine g_bipush E 6 dX1_init_5 (by decide) ?_
  refine g_newq E cl_X1_9 rfl (N := 6) (by decide) (by decide) (ok_le rfl) (ok_le rfl) dX1_init_7 (fun r0 _ => ?_)
  refine g_eq (ws' := [(q0, .inr (1, [.null, .int 0, .int 0])), (r0, .inl (d.2.2.2.2, 6, .inr (.inr (.inr (.inr (fun _ => none))))))]) rfl ?_
  refine g_putF E (ci := 1) inlX1 0 rfl rfl 0 (by decide) tyX1 tyX1_ok nmX1 hi fl_X1_11 rfl rfl rfl rfl rfl (ok_lt rfl) (ws' := [(q0, .inr (1, [.ref r0, .int 0, .int 0])), (r0, .inl (d.2.2.2.2, 6, .inr (.inr (.inr (.inr (fun _ => none))))))]) rfl dX1_init_10 ?_
  exact RET 13 _ _ dX1_init_13 ⟨(fun k => match k with | 0 => q0 | _ => r0), rfl, rfl⟩
abbrev R_X2_init : Room := { frames := 1, cells := 1, slots := 80, locals := 12 }
set_option maxHeartbeats 2000000 in
set_option maxRecDepth 100000 in
theorem t_X2_init (d : gD) (q0 : Nat) : gMv d yX2_init cX2_init 1 R_X2_init [.ref q0] [(q0, .inr (2, dfX2))] (fun u => ∃ b : Nat → Nat, b 0 = q0 ∧ u = PK d b (fun _ => 0) (fun _ => 0)) := by
  refine g_met_v RX2 rfl (by decide +kernel) (Nat.le_of_ble_eq_true rfl) [(0, .ref q0)] rfl (fun X E hi0 RET => ?_)
  have hi := hi0 rfl
  refine g_aload_n E 0 dX2_init_0 rfl rfl ?_
  refine g_objInit E ml_X2_3 (ok_le rfl) (ok_le rfl) dX2_init_1 ?_
  refine g_aload_n E 0 dX2_init_4 rfl rfl ?_
  refine g_bipush E 80 dX2_init_5 (by decide) ?_
  refine g_newc E ac_char rfl (N := 80) (by decide) (by decide) (ok_le rfl) (ok_le rfl) dX2_init_7 (fun r0 _ => ?_)
  refine g_eq (ws' := [(q0, .inr (2, [.null, .int 0, .int 0, .int 0, .int 0, .int 0, .int 0])), (r0, .inl (d.2.2.1, 80, .inl (fun _ => 0)))]) rfl ?_
  refine g_putF E (ci := 2) inlX2 0 rfl rfl 0 (by decide) tyX2 tyX2_ok nmX2 hi fl_X2_9 rfl rfl rfl rfl rfl (ok_lt rfl) (ws' := [(q0, .inr (2, [.ref r0, .int 0, .int 0, .int 0, .int 0, .int 0, .int 0])), (r0, .inl (d.2.2.1, 80, .inl (fun _ => 0)))]) rfl dX2_init_9 ?_
  exact RET 12 _ _ dX2_init_12 ⟨(fun k => match k with | 0 => q0 | _ => r0), rfl, rfl⟩
abbrev R_X3_init : Room := { frames := 2, cells := 5, slots := 40, locals := 32 }
set_option maxHeartbeats 2000000 in
set_option maxRecDepth 100000 in
theorem t_X3_init (d : gD) (q0 : Nat) : gMv d yX3_init cX3_init 1 R_X3_init [.ref q0] [(q0, .inr (3, dfX3))] (fun u => ∃ b : Nat → Nat, b 0 = q0 ∧ u = SK d b S0) := by
  refine g_met_v RX3 rfl (by decide +kernel) (Nat.le_of_ble_eq_true rfl) [(0, .ref q0)] rfl (fun X E hi0 RET => ?_)
  have hi := hi0 rfl
  refine g_aload_n E 0 dX3_init_0 rfl rfl ?_
  refine g_objInit E ml_X3_3 (ok_le rfl) (ok_le rfl) dX3_init_1 ?_
  refine g_aload_n E 0 dX3_init_4 rfl rfl ?_
  refine g_getsF E (List.mem_of_getElem? (i := 0) rfl) dX3_init_5 (fun tF hTF => ?_)
  refine g_cloneF E hTF ml_X3_13 (ok_le rfl) (ok_le rfl) (ok_le rfl) (ok_le rfl) dX3_init_8 (fun r0 _ => ?_)
  refine g_eq (ws' := [(q0, .inr (3, [.null, .null, .int 0, .int 0, .int 0, .int 0, .int 0, .int 0, .int 0, .int 0, .int 0, .int 0, .int 0, .int 0, .int 0, .int 0, .int 0])), (r0, .inl (d.2.1, 7, .inl tabF))]) rfl ?_
  refine g_castI E 1 rfl hTF cl_X3_14 dX3_init_11 ?_
  refine g_putF E (ci := 3) inlX3 0 rfl rfl 0 (by decide) tyX3 tyX3_ok nmX3 hi fl_X3_18 rfl rfl rfl rfl rfl (ok_lt rfl) (ws' := [(q0, .inr (3, [.ref r0, .null, .int 0, .int 0, .int 0, .int 0, .int 0, .int 0, .int 0, .int 0, .int 0, .int 0, .int 0, .int 0, .int 0, .int 0, .int 0])), (r0, .inl (d.2.1, 7, .inl tabF))]) rfl dX3_init_14 ?_
  refine g_aload_n E 0 dX3_init_17 rfl rfl ?_
  refine g_new E (T := TX0) (N := 6) (ci := 0) inlX0 tyX0 tyX0_ok cl_X3_23 ib_RX0 it_RX0 rfl dfX0 dvX0 (ok_le rfl) (ok_le rfl) dX3_init_18 (fun r1 _ => ?_)
  refine g_dup E dX3_init_21 rfl ?_
  refine g_perm (ws' := [(r1, .inr (0, dfX0))] ++ ([(q0, .inr (3, [.ref r0, .null, .int 0, .int 0, .int 0, .int 0, .int 0, .int 0, .int 0, .int 0, .int 0, .int 0, .int 0, .int 0, .int 0, .int 0, .int 0])), (r0, .inl (d.2.1, 7, .inl tabF))])) List.perm_append_comm ?_
  refine g_callIv E gc_X0_init ml_X3_25 (t_X0_init d r1) rfl rfl rfl rfl (ok_le rfl) ⟨ok_le rfl, ok_le rfl, ok_le rfl, ok_le rfl⟩ rfl rfl dX3_init_22 ?_
  rintro u ⟨a, ea, rfl⟩
  subst ea
  refine g_putF E (ci := 3) inlX3 4 rfl rfl 1 (by decide) tyX3 tyX3_ok nmX3 hi fl_X3_26 rfl rfl rfl rfl rfl (ok_lt rfl) (ws' := DK d a DD0 ++ [(q0, .inr (3, [.ref r0, .ref (a 2), .int 0, .int 0, .int 0, .int 0, .int 0, .int 0, .int 0, .int 0, .int 0, .int 0, .int 0, .int 0, .int 0, .int 0, .int 0])), (r0, .inl (d.2.1, 7, .inl tabF))]) rfl dX3_init_25 ?_
  refine g_aload_n E 0 dX3_init_28 rfl rfl ?_
  refine g_sipush E 2048 dX3_init_29 (by decide) ?_
  refine g_put E (ci := 3) inlX3 4 rfl rfl 2 (by decide) tyX3 tyX3_ok nmX3 fl_X3_30 rfl rfl rfl rfl (ok_lt rfl) (ws' := DK d a DD0 ++ [(q0, .inr (3, [.ref r0, .ref (a 2), .int 2048, .int 0, .int 0, .int 0, .int 0, .int 0, .int 0, .int 0, .int 0, .int 0, .int 0, .int 0, .int 0, .int 0, .int 0])), (r0, .inl (d.2.1, 7, .inl tabF))]) rfl dX3_init_32 ?_
  refine g_aload_n E 0 dX3_init_35 rfl rfl ?_
  refine g_sipush E 2048 dX3_init_36 (by decide) ?_
  refine g_put E (ci := 3) inlX3 4 rfl rfl 3 (by decide) tyX3 tyX3_ok nmX3 fl_X3_34 rfl rfl rfl rfl (ok_lt rfl) (ws' := DK d a DD0 ++ [(q0, .inr (3, [.ref r0, .ref (a 2), .int 2048, .int 2048, .int 0, .int 0, .int 0, .int 0, .int 0, .int 0, .int 0, .int 0, .int 0, .int 0, .int 0, .int 0, .int 0])), (r0, .inl (d.2.1, 7, .inl tabF))]) rfl dX3_init_39 ?_
  refine g_aload_n E 0 dX3_init_42 rfl rfl ?_
  refine g_aload_n E 0 dX3_init_43 rfl rfl ?_
  refine g_get E (ci := 3) inlX3 4 rfl rfl 0 (by decide) fl_X3_18 rfl (.ref r0) rfl dX3_init_44 ?_
  refine g_iconst E 1 dX3_init_47 (by decide) ?_
  refine g_iald E 5 rfl rfl 1 rfl (by decide) (by decide) dX3_init_48 ?_
  refine g_top (b := 6) rfl ?_
  refine g_put E (ci := 3) inlX3 4 rfl rfl 4 (by decide) tyX3 tyX3_ok nmX3 fl_X3_37 rfl rfl rfl rfl (ok_lt rfl) (ws' := DK d a DD0 ++ [(q0, .inr (3, [.ref r0, .ref (a 2), .int 2048, .int 2048, .int 6, .int 0, .int 0, .int 0, .int 0, .int 0, .int 0, .int 0, .int 0, .int 0, .int 0, .int 0, .int 0])), (r0, .inl (d.2.1, 7, .inl tabF))]) rfl dX3_init_49 ?_
  exact RET 52 _ _ dX3_init_52 ⟨(fun k => match k with | 0 => q0 | 1 => r0 | 2 => a 2 | 3 => a 3 | 4 => a 4 | _ => a 5), rfl, rfl⟩
abbrev R_X4_init : Room := { frames := 3, cells := 17, slots := 212, locals := 52 }
set_option maxHeartbeats 2000000 in
set_option maxRecDepth 100000 in
theorem t_X4_init (d : gD) (q0 : Nat) : gMv d yX4_init cX4_init 1 R_X4_init [.ref q0] [(q0, .inr (4, dfX4))] (fun u => ∃ (x a b c e : Nat → Nat) (p q : Nat → Nat → Nat), x 0 = q0 ∧ u = XW d (x, a, b, c, e) p q S0 S0 (fun _ => 0) (fun _ => 0) (0, 0, fun _ => none) (fun _ => none)) := by
  refine g_met_v RX4 rfl (by decide +kernel) (Nat.le_of_ble_eq_true rfl) [(0, .ref q0)] rfl (fun X E hi0 RET => ?_)
  have hi := hi0 rfl
  refine g_aload_n E 0 dX4_init_0 rfl rfl ?_
  refine g_objInit E ml_X4_1 (ok_le rfl) (ok_le rfl) dX4_init_1 ?_
  refine g_aload_n E 0 dX4_init_4 rfl rfl ?_
  refine g_new E (T := TX3) (N := 17) (ci := 3) inlX3 tyX3 tyX3_ok cl_X4_7 ib_RX3 it_RX3 rfl dfX3 dvX3 (ok_le rfl) (ok_le rfl) dX4_init_5 (fun r0 _ => ?_)
  refine g_dup E dX4_init_8 rfl ?_
  refine g_perm (ws' := [(r0, .inr (3, dfX3))] ++ ([(q0, .inr (4, [.null, .null, .null, .null, .null]))])) List.perm_append_comm ?_
  refine g_callIv E gc_X3_init ml_X4_9 (t_X3_init d r0) rfl rfl rfl rfl (ok_le rfl) ⟨ok_le rfl, ok_le rfl, ok_le rfl, ok_le rfl⟩ rfl rfl dX4_init_9 ?_
  rintro u ⟨a, ea, rfl⟩
  subst ea
  refine g_putF E (ci := 4) inlX4 6 rfl rfl 0 (by decide) tyX4 tyX4_ok nmX4 hi fl_X4_10 rfl rfl rfl rfl rfl (ok_lt rfl) (ws' := SK d a S0 ++ [(q0, .inr (4, [.ref (a 0), .null, .null, .null, .null]))]) rfl dX4_init_12 ?_
  refine g_aload_n E 0 dX4_init_15 rfl rfl ?_
  refine g_new E (T := TX3) (N := 17) (ci := 3) inlX3 tyX3 tyX3_ok cl_X4_7 ib_RX3 it_RX3 rfl dfX3 dvX3 (ok_le rfl) (ok_le rfl) dX4_init_16 (fun r1 _ => ?_)
  refine g_dup E dX4_init_19 rfl ?_
  refine g_perm (ws' := [(r1, .inr (3, dfX3))] ++ (SK d a S0 ++ [(q0, .inr (4, [.ref (a 0), .null, .null, .null, .null]))])) List.perm_append_comm ?_
  refine g_callIv E gc_X3_init ml_X4_9 (t_X3_init d r1) rfl rfl rfl rfl (ok_le rfl) ⟨ok_le rfl, ok_le rfl, ok_le rfl, ok_le rfl⟩ rfl rfl dX4_init_20 ?_
  rintro u ⟨b, eb, rfl⟩
  subst eb
  refine g_putF E (ci := 4) inlX4 12 rfl rfl 1 (by decide) tyX4 tyX4_ok nmX4 hi fl_X4_16 rfl rfl rfl rfl rfl (ok_lt rfl) (ws' := SK d b S0 ++ (SK d a S0 ++ [(q0, .inr (4, [.ref (a 0), .ref (b 0), .null, .null, .null]))])) rfl dX4_init_23 ?_
  refine g_aload_n E 0 dX4_init_26 rfl rfl ?_
  refine g_new E (T := TX2) (N := 7) (ci := 2) inlX2 tyX2 tyX2_ok cl_X4_19 ib_RX2 it_RX2 rfl dfX2 dvX2 (ok_le rfl) (ok_le rfl) dX4_init_27 (fun r2 _ => ?_)
  refine g_dup E dX4_init_30 rfl ?_
  refine g_perm (ws' := [(r2, .inr (2, dfX2))] ++ (SK d b S0 ++ (SK d a S0 ++ [(q0, .inr (4, [.ref (a 0), .ref (b 0), .null, .null, .null]))]))) List.perm_append_comm ?_
  refine g_callIv E gc_X2_init ml_X4_21 (t_X2_init d r2) rfl rfl rfl rfl (ok_le rfl) ⟨ok_le rfl, ok_le rfl, ok_le rfl, ok_le rfl⟩ rfl rfl dX4_init_31 ?_
  rintro u ⟨c, ec, rfl⟩
  subst ec
  refine g_putF E (ci := 4) inlX4 14 rfl rfl 2 (by decide) tyX4 tyX4_ok nmX4 hi fl_X4_22 rfl rfl rfl rfl rfl (ok_lt rfl) (ws' := PK d c (fun _ => 0) (fun _ => 0) ++ (SK d b S0 ++ (SK d a S0 ++ [(q0, .inr (4, [.ref (a 0), .ref (b 0), .ref (c 0), .null, .null]))]))) rfl dX4_init_34 ?_
  refine g_aload_n E 0 dX4_init_37 rfl rfl ?_
  refine g_new E (T := TX1) (N := 3) (ci := 1) inlX1 tyX1 tyX1_ok cl_X4_26 ib_RX1 it_RX1 rfl dfX1 dvX1 (ok_le rfl) (ok_le rfl) dX4_init_38 (fun r3 _ => ?_)
  refine g_dup E dX4_init_41 rfl ?_
  refine g_perm (ws' := [(r3, .inr (1, dfX1))] ++ (PK d c (fun _ => 0) (fun _ => 0) ++ (SK d b S0 ++ (SK d a S0 ++ [(q0, .inr (4, [.ref (a 0), .ref (b 0), .ref (c 0), .null, .null]))])))) List.perm_append_comm ?_
  refine g_callIv E gc_X1_init ml_X4_28 (t_X1_init d r3) rfl rfl rfl rfl (ok_le rfl) ⟨ok_le rfl, ok_le rfl, ok_le rfl, ok_le rfl⟩ rfl rfl dX4_init_42 ?_
  rintro u ⟨e, ee, rfl⟩
  subst ee
  refine g_putF E (ci := 4) inlX4 16 rfl rfl 3 (by decide) tyX4 tyX4_ok nmX4 hi fl_X4_29 rfl rfl rfl rfl rfl (ok_lt rfl) (ws' := HB d e 0 0 (fun _ => none) ++ (PK d c (fun _ => 0) (fun _ => 0) ++ (SK d b S0 ++ (SK d a S0 ++ [(q0, .inr (4, [.ref (a 0), .ref (b 0), .ref (c 0), .ref (e 0), .null]))])))) rfl dX4_init_45 ?_
  refine g_aload_n E 0 dX4_init_48 rfl rfl ?_
  refine g_iconst E 2 dX4_init_49 (by decide) ?_
  refine g_newq E cl_X4_7 rfl (N := 2) (by decide) (by decide) (ok_le rfl) (ok_le rfl) dX4_init_50 (fun r4 _ => ?_)
  refine g_eq (ws' := HB d e 0 0 (fun _ => none) ++ (PK d c (fun _ => 0) (fun _ => 0) ++ (SK d b S0 ++ (SK d a S0 ++ [(q0, .inr (4, [.ref (a 0), .ref (b 0), .ref (c 0), .ref (e 0), .null])), (r4, .inl (d.2.2.2.2, 2, .inr (.inr (.inr (.inr (fun _ => none))))))])))) rfl ?_
  refine g_putF E (ci := 4) inlX4 16 rfl rfl 4 (by decide) tyX4 tyX4_ok nmX4 hi fl_X4_33 rfl rfl rfl rfl rfl (ok_lt rfl) (ws' := HB d e 0 0 (fun _ => none) ++ (PK d c (fun _ => 0) (fun _ => 0) ++ (SK d b S0 ++ (SK d a S0 ++ [(q0, .inr (4, [.ref (a 0), .ref (b 0), .ref (c 0), .ref (e 0), .ref r4])), (r4, .inl (d.2.2.2.2, 2, .inr (.inr (.inr (.inr (fun _ => none))))))])))) rfl dX4_init_53 ?_
  refine g_perm (ws' := [(q0, .inr (4, [.ref (a 0), .ref (b 0), .ref (c 0), .ref (e 0), .ref r4])), (r4, .inl (d.2.2.2.2, 2, .inr (.inr (.inr (.inr (fun _ => none))))))] ++ (SK d a S0 ++ (SK d b S0 ++ (PK d c (fun _ => 0) (fun _ => 0) ++ (HB d e 0 0 (fun _ => none)))))) (lr5 _ _ _ _ _) ?_
  exact RET 56 _ _ dX4_init_56 ⟨(fun k => match k with | 0 => q0 | _ => r4), a, b, c, e, fun _ _ => 0, fun _ _ => 0, rfl, rfl⟩
