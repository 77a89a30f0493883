def c_X1_keep_y (y : HS) (S : SS) : HS := keepY y.1 y.2.1 y.2.2 S
theorem t2_X1_keep (d : gD) (e a : Nat → Nat) (p : Nat → Nat → Nat) (y : HS) (S : SS) (ho : y.1 < 6) (hn : y.2.1 ≤ 6) : gMv d yX1_keep cX1_keep 4 R_X1_keep [.ref (e 0), .ref (a 0)] (HP d e p y ++ SK d a S) (fun u => ∃ p', u = HP d e p' (c_X1_keep_y y S) ++ SK d a S) := t_X1_keep d e a p y.1 y.2.1 y.2.2 S ho hn
def r_X1_takeBack (y : HS) (S : SS) : Int32 := tbR y.2.1 (tbT y.1 y.2.1 y.2.2)
def c_X1_takeBack_y (y : HS) (S : SS) : HS := (y.1, tbN y.2.1 (tbT y.1 y.2.1 y.2.2), y.2.2)
def c_X1_takeBack_S (y : HS) (S : SS) : SS := tbS S (tbT y.1 y.2.1 y.2.2)
theorem t2_X1_takeBack (d : gD) (e a : Nat → Nat) (p : Nat → Nat → Nat) (y : HS) (S : SS) (ho : y.1 < 6) (hn : y.2.1 ≤ 6) : gMi d yX1_takeBack cX1_takeBack 4 (some .int) R_X1_takeBack [.ref (e 0), .ref (a 0)] (HP d e p y ++ SK d a S) (fun r u => r = r_X1_takeBack y S ∧ u = HP d e p (c_X1_takeBack_y y S) ++ SK d a (c_X1_takeBack_S y S)) := t_X1_takeBack d e a p y.1 y.2.1 y.2.2 S ho hn
section PX
variable {α : Type} {A B C D E F R K O : List α}
theorem px1 : (A ++ (B ++ R)).Perm (B ++ (A ++ R)) := List.perm_append_comm_assoc A B R
theorem px2 : (A ++ (B ++ (C ++ R))).Perm (C ++ (A ++ (B ++ R))) := ((List.perm_append_comm_assoc B C R).append_left A).trans px1
theorem px3 : (A ++ (B ++ (C ++ (D ++ R)))).Perm (D ++ (A ++ (B ++ (C ++ R)))) := ((px2 (A := B) (B := C) (C := D) (R := R)).append_left A).trans px1
theorem px4 : (A ++ (B ++ (C ++ (D ++ (E ++ R))))).Perm (E ++ (A ++ (B ++ (C ++ (D ++ R))))) := ((px3 (A := B) (B := C) (C := D) (D := E) (R := R)).append_left A).trans px1
theorem px21 : (A ++ (B ++ (C ++ R))).Perm ((C ++ B) ++ (A ++ R)) := by
  rw [List.append_assoc]
  exact px2.trans (px1.append_left C)
theorem px41 : (A ++ (B ++ (C ++ (D ++ (E ++ F))))).Perm ((E ++ B) ++ (A ++ (C ++ (D ++ F)))) := by
  rw [List.append_assoc]
  exact px4.trans (px1.append_left E)
theorem pxD : (A ++ ((K ++ O) ++ R)).Perm (K ++ (O ++ (A ++ R))) := by
  rw [List.append_assoc]
  exact px1.trans ((px1 (A := A) (B := O) (R := R)).append_left K)
end PX
theorem note_0 (x y : Int32) (D : DD) (h : ¬ D.1 0 < 0) : ¬ (c_X0_note x y D).1 0 < 0 := by
  have hg : ¬ (j_X0_note_59_g x y D) 0 < 0 := by
    unfold j_X0_note_59_g
    repeat' split
    all_goals first | exact h | skip
    next c =>
      have c' := ti_lt.mp c
      have h' := i_nn' h
      have e9 : (9 : Int32).toInt = 9 := rfl
      refine i_nn ?_
      show 0 ≤ (D.1 0 + 1).toInt
      rw [i_1 (by omega)]
      omega
  unfold c_X0_note
  split
  · exact h
  · split
    · exact hg
    · exact h
theorem tell_D (w : Int32) (S : SS) : (c_X3_tell w S).2.2 = c_X0_note (r_J6_compare_7cf53 ((j_X3_tell_41_g w S) 14) 0) (r_J6_compare_7cf53 ((j_X3_tell_41_g w S) 15) 0) S.2.2 := by
  unfold c_X3_tell c_X3_tell_at41
  with_reducible rfl
theorem take_D (x y : Int32) (S : SS) : (c_X3_take x y S).2.2 = (c_X3_tell (r_X3_tellingAt x y S) ((j_X3_take_80_g x y S), (j_X3_take_80_st x y S), (j_X3_take_80_D x y S))).2.2 := by
  unfold c_X3_take c_X3_take_at25 c_X3_take_at80 c_X3_take_at102
  with_reducible rfl
theorem KU_take {x y : Int32} {S : SS} (h : ¬ S.2.2.1 0 < 0) : ¬ (c_X3_take x y S).2.2.1 0 < 0 := by
  rw [take_D, tell_D]
  refine note_0 _ _ _ ?_
  rw [j80D]
  exact h
abbrev R_X4_set : Room := { frames := 4, cells := 6, slots := 57, locals := 86 }
def r_X4_set (setting : Int32) (value : Int32) (S : SS) (y : HS) : Int32 := if setting < 0 then (-2) else (if setting < 7 then (if value < (tabL setting.toNatClampNeg) then (-2) else (if (tabM setting.toNatClampNeg) < value then (-2) else (r_X3_changeSetting setting value S))) else (-2))
def c_X4_set_1 (setting : Int32) (value : Int32) (S : SS) (y : HS) : SS := if setting < 0 then S else (if setting < 7 then (if value < (tabL setting.toNatClampNeg) then S else (if (tabM setting.toNatClampNeg) < value then S else (c_X3_changeSetting setting value S))) else S)
def c_X4_set_y (setting : Int32) (value : Int32) (S : SS) (y : HS) : HS := if setting < 0 then y else (if setting < 7 then (if value < (tabL setting.toNatClampNeg) then y else (if (tabM setting.toNatClampNeg) < value then y else (c_X1_keep_y y S))) else y)
set_option maxHeartbeats 1000000 in
set_option maxRecDepth 100000 in
theorem s_X4_set_0 (d : gD) (x : Nat → Nat) (a : Nat → Nat) (b : Nat → Nat) (c : Nat → Nat) (e : Nat → Nat) (setting : Int32) (value : Int32) (p : Nat → Nat → Nat) (q : Nat → Nat → Nat) (S : SS) (T : SS) (h : Nat → Int32) (t : Nat → Int32) (y : HS) (ss : Nat → Option SS) (hy : y.1 < 6 ∧ y.2.1 ≤ 6)  {X : gX} (E : gE d X RX4 cX4_set 3 R_X4_set) (RET : ∀ (pc_ : Nat) (lv_ : List (Nat × Value)) (v_ : Int32) (u_ : va_W), decode cX4_set pc_ = .ok (.ireturn, 1) → narrow .int (.int v_) = .int v_ → v_ = r_X4_set setting value S y → (∃ p_ : Nat → Nat → Nat, u_ = XW d (x, a, b, c, e) p_ q (c_X4_set_1 setting value S y) T h t (c_X4_set_y setting value S y) ss) → G d X u_ R_X4_set.cells R_X4_set.slots pc_ lv_ [.int v_]) : G d X (XW d (x, a, b, c, e) p q S T h t y ss) 0 0 0 [(0, .ref (x 0)), (1, .int setting), (2, .int value)] [] := by
  refine g_iload_n E 1 dX4_set_0 rfl rfl ?_
  refine g_iflt E 28 dX4_set_1 (by decide) (fun c_1 => ?_) (fun c_1 => ?_)
  · skip
    refine g_bipush E (-2) dX4_set_28 (by decide) ?_
    refine g_widen (k1 := R_X4_set.cells) (n1 := R_X4_set.slots) (ok_le rfl) (ok_le rfl) ?_
    exact RET 30 _ (-2) _ dX4_set_30 rfl (by rw [r_X4_set, if_pos c_1]) ⟨p, (by rw [c_X4_set_1, if_pos c_1, c_X4_set_y, if_pos c_1])⟩
  · skip
    refine g_iload_n E 1 dX4_set_4 rfl rfl ?_
    refine g_bipush E 7 dX4_set_5 (by decide) ?_
    refine g_icmpge E 28 dX4_set_7 (by decide) (fun c_7 => ?_) (fun c_7 => ?_)
    · skip
      refine g_bipush E (-2) dX4_set_28 (by decide) ?_
      refine g_widen (k1 := R_X4_set.cells) (n1 := R_X4_set.slots) (ok_le rfl) (ok_le rfl) ?_
      exact RET 30 _ (-2) _ dX4_set_30 rfl (by rw [r_X4_set, if_neg c_1, if_neg c_7]) ⟨p, (by rw [c_X4_set_1, if_neg c_1, if_neg c_7, c_X4_set_y, if_neg c_1, if_neg c_7])⟩
    · skip
      refine g_iload_n E 2 dX4_set_10 rfl rfl ?_
      refine g_getsL E fl_X4_37 dX4_set_11 (fun t_11 ht_11 => ?_)
      refine g_iload_n E 1 dX4_set_14 rfl rfl ?_
      refine g_tald E ht_11 setting.toNatClampNeg (ix_eq c_1) (ix_lt (N := 7) c_1 c_7) dX4_set_15 ?_
      refine g_icmplt E 28 dX4_set_16 (by decide) (fun c_16 => ?_) (fun c_16 => ?_)
      · skip
        refine g_bipush E (-2) dX4_set_28 (by decide) ?_
        refine g_widen (k1 := R_X4_set.cells) (n1 := R_X4_set.slots) (ok_le rfl) (ok_le rfl) ?_
        exact RET 30 _ (-2) _ dX4_set_30 rfl (by rw [r_X4_set, if_neg c_1, if_pos c_7, if_pos c_16]) ⟨p, (by rw [c_X4_set_1, if_neg c_1, if_pos c_7, if_pos c_16, c_X4_set_y, if_neg c_1, if_pos c_7, if_pos c_16])⟩
      · skip
        refine g_iload_n E 2 dX4_set_19 rfl rfl ?_
        refine g_getsM E fl_X4_41 dX4_set_20 (fun t_20 ht_20 => ?_)
        refine g_iload_n E 1 dX4_set_23 rfl rfl ?_
        refine g_tald E ht_20 setting.toNatClampNeg (ix_eq c_1) (ix_lt (N := 7) c_1 c_7) dX4_set_24 ?_
        refine g_icmple E 31 dX4_set_25 (by decide) (fun c_25 => ?_) (fun c_25 => ?_)
        · skip
          refine g_aload_n E 0 dX4_set_31 rfl rfl ?_
          refine g_get E (ci := 4) inlX4 0 rfl rfl 3 (by decide) fl_X4_29 rfl (.ref (e 0)) rfl dX4_set_32 ?_
          refine g_aload_n E 0 dX4_set_35 rfl rfl ?_
          refine g_get E (ci := 4) inlX4 0 rfl rfl 0 (by decide) fl_X4_10 rfl (.ref (a 0)) rfl dX4_set_36 ?_
          refine g_eq (ws' := XO d x a b c e (qf q ss) ++ (SK d a S ++ (SK d b T ++ (PK d c h t ++ (HP d e p y ++ PL d q ss 2))))) rfl ?_
          refine g_perm (ws' := (HP d e p y ++ SK d a S) ++ (XO d x a b c e (qf q ss) ++ (SK d b T ++ (PK d c h t ++ PL d q ss 2)))) px41 ?_
          refine g_callVv E (wr := XO d x a b c e (qf q ss) ++ (SK d b T ++ (PK d c h t ++ PL d q ss 2))) gc_X1_keep ml_X4_44 (t2_X1_keep d e a p y S hy.1 hy.2) rfl rfl (ci := 1) 0 rfl rfl rfl rfl (ok_le rfl) ⟨ok_le rfl, ok_le rfl, ok_le rfl, ok_le rfl⟩ rfl rfl dX4_set_39 ?_
          rintro u_ ⟨p1, rfl⟩
          refine g_perm (ws' := XO d x a b c e (qf q ss) ++ (SK d a S ++ (SK d b T ++ (PK d c h t ++ (HP d e p1 (c_X1_keep_y y S) ++ PL d q ss 2))))) px41.symm ?_
          refine g_eq (ws' := XW d (x, a, b, c, e) p1 q S T h t (c_X1_keep_y y S) ss) rfl ?_
          obtain ⟨S1_, hS1_⟩ : ∃ z, c_X1_keep_y y S = z := ⟨_, rfl⟩
          rw [hS1_]
          refine g_aload_n E 0 dX4_set_42 rfl rfl ?_
          refine g_get E (ci := 4) inlX4 0 rfl rfl 0 (by decide) fl_X4_10 rfl (.ref (a 0)) rfl dX4_set_43 ?_
          refine g_iload_n E 1 dX4_set_46 rfl rfl ?_
          refine g_iload_n E 2 dX4_set_47 rfl rfl ?_
          refine g_eq (ws' := XO d x a b c e (qf q ss) ++ (SK d a S ++ (SK d b T ++ (PK d c h t ++ (HP d e p1 S1_ ++ PL d q ss 2))))) rfl ?_
          refine g_perm (ws' := (SK d a S) ++ (XO d x a b c e (qf q ss) ++ (SK d b T ++ (PK d c h t ++ (HP d e p1 S1_ ++ PL d q ss 2))))) px1 ?_
          refine g_callViD E (wr := XO d x a b c e (qf q ss) ++ (SK d b T ++ (PK d c h t ++ (HP d e p1 S1_ ++ PL d q ss 2)))) gc_X3_changeSetting ml_X4_48 (t_X3_changeSetting d a setting value S ) rfl rfl (ci := 3) 4 rfl rfl rfl rfl (ok_le rfl) ⟨ok_le rfl, ok_le rfl, ok_le rfl, ok_le rfl⟩ rfl rfl dX4_set_48 ?_
          refine g_perm (ws' := XO d x a b c e (qf q ss) ++ (SK d a (c_X3_changeSetting setting value S) ++ (SK d b T ++ (PK d c h t ++ (HP d e p1 S1_ ++ PL d q ss 2))))) px1.symm ?_
          refine g_eq (ws' := XW d (x, a, b, c, e) p1 q (c_X3_changeSetting setting value S) T h t S1_ ss) rfl ?_
          obtain ⟨S2_, hS2_⟩ : ∃ z, c_X3_changeSetting setting value S = z := ⟨_, rfl⟩
          rw [hS2_]
          refine g_nm (fun v3_ hv3_ => ?_)
          subst hv3_
          subst hS2_
          subst hS1_
          exact RET 51 _ (r_X3_changeSetting setting value S) _ dX4_set_51 rfl (by rw [r_X4_set, if_neg c_1, if_pos c_7, if_neg c_16, if_neg c_25]) ⟨p1, (by rw [c_X4_set_1, if_neg c_1, if_pos c_7, if_neg c_16, if_neg c_25, c_X4_set_y, if_neg c_1, if_pos c_7, if_neg c_16, if_neg c_25])⟩
        · skip
          refine g_bipush E (-2) dX4_set_28 (by decide) ?_
          refine g_widen (k1 := R_X4_set.cells) (n1 := R_X4_set.slots) (ok_le rfl) (ok_le rfl) ?_
          exact RET 30 _ (-2) _ dX4_set_30 rfl (by rw [r_X4_set, if_neg c_1, if_pos c_7, if_neg c_16, if_pos c_25]) ⟨p, (by rw [c_X4_set_1, if_neg c_1, if_pos c_7, if_neg c_16, if_pos c_25, c_X4_set_y, if_neg c_1, if_pos c_7, if_neg c_16, if_pos c_25])⟩
set_option maxHeartbeats 1000000 in
set_option maxRecDepth 100000 in
theorem t_X4_set (d : gD) (x : Nat → Nat) (a : Nat → Nat) (b : Nat → Nat) (c : Nat → Nat) (e : Nat → Nat) (setting : Int32) (value : Int32) (p : Nat → Nat → Nat) (q : Nat → Nat → Nat) (S : SS) (T : SS) (h : Nat → Int32) (t : Nat → Int32) (y : HS) (ss : Nat → Option SS) (hy : y.1 < 6 ∧ y.2.1 ≤ 6) : gMi d yX4_set cX4_set 3 (some .int) R_X4_set [.ref (x 0), .int setting, .int value] (XW d (x, a, b, c, e) p q S T h t y ss) (fun r_ u_ => r_ = r_X4_set setting value S y ∧ (∃ p_ : Nat → Nat → Nat, u_ = XW d (x, a, b, c, e) p_ q (c_X4_set_1 setting value S y) T h t (c_X4_set_y setting value S y) ss)) :=
  g_met_i RX4 rfl (by decide +kernel) (Nat.le_of_ble_eq_true rfl) [(0, .ref (x 0)), (1, .int setting), (2, .int value)] rfl (fun X E RET => s_X4_set_0 d x a b c e setting value p q S T h t y ss hy E (fun pc_ lv_ v_ u_ h1_ h2_ h3_ h4_ => RET pc_ lv_ v_ u_ h1_ h2_ ⟨h3_, h4_⟩))
abbrev R_X4_takeAlike : Room := { frames := 5, cells := 6, slots := 57, locals := 116 }
def r_X4_takeAlike_at34 (x1 : Int32) (y1 : Int32) (many : Int32) (S : SS) (y : HS) : Nat → (Nat) → (SS) → Int32
  | 0, _, _ => 0
  | n + 1, k, S1 => if (nI k) < many then (r_X4_takeAlike_at34 x1 y1 many S y n (k + 1) (c_X3_take x1 y1 S1)) else (r_X3_telling S1)
def c_X4_takeAlike_1_at34 (x1 : Int32) (y1 : Int32) (many : Int32) (S : SS) (y : HS) : Nat → (Nat) → (SS) → SS
  | 0, _, S1 => S1
  | n + 1, k, S1 => if (nI k) < many then (c_X4_takeAlike_1_at34 x1 y1 many S y n (k + 1) (c_X3_take x1 y1 S1)) else S1
def c_X4_takeAlike_y_at34 (x1 : Int32) (y1 : Int32) (many : Int32) (S : SS) (y : HS) : Nat → (Nat) → (SS) → HS
  | 0, _, _ => (c_X1_keep_y y S)
  | n + 1, k, S1 => if (nI k) < many then (c_X4_takeAlike_y_at34 x1 y1 many S y n (k + 1) (c_X3_take x1 y1 S1)) else (c_X1_keep_y y S)
def r_X4_takeAlike (x1 : Int32) (y1 : Int32) (many : Int32) (S : SS) (y : HS) : Int32 := if (r_X3_refusalOfSamples x1 y1 many S) = 0 then (r_X4_takeAlike_at34 x1 y1 many S y 201 0 S) else (r_X3_refusalOfSamples x1 y1 many S)
def c_X4_takeAlike_1 (x1 : Int32) (y1 : Int32) (many : Int32) (S : SS) (y : HS) : SS := if (r_X3_refusalOfSamples x1 y1 many S) = 0 then (c_X4_takeAlike_1_at34 x1 y1 many S y 201 0 S) else S
def c_X4_takeAlike_y (x1 : Int32) (y1 : Int32) (many : Int32) (S : SS) (y : HS) : HS := if (r_X3_refusalOfSamples x1 y1 many S) = 0 then (c_X4_takeAlike_y_at34 x1 y1 many S y 201 0 S) else y
set_option maxHeartbeats 1000000 in
set_option maxRecDepth 100000 in
theorem s_X4_takeAlike_34 (d : gD) (x : Nat → Nat) (a : Nat → Nat) (b : Nat → Nat) (c : Nat → Nat) (e : Nat → Nat) (x1 : Int32) (y1 : Int32) (many : Int32) (p : Nat → Nat → Nat) (q : Nat → Nat → Nat) (S : SS) (T : SS) (h : Nat → Int32) (t : Nat → Int32) (y : HS) (ss : Nat → Option SS) (hy : y.1 < 6 ∧ y.2.1 ≤ 6) (hu : ¬ S.2.2.1 0 < 0) (hm2 : many.toNatClampNeg ≤ 200 ∧ ¬ many < 0) {X : gX} (E : gE d X RX4 cX4_takeAlike 6 R_X4_takeAlike) : ∀ (n : Nat) (k : Nat) (S1 : SS) (p1 : Nat → Nat → Nat) (hk : k ≤ many.toNatClampNeg) (hu1 : ¬ S1.2.2.1 0 < 0) (hm : many.toNatClampNeg - k < n) (RET : ∀ (pc_ : Nat) (lv_ : List (Nat × Value)) (v_ : Int32) (u_ : va_W), decode cX4_takeAlike pc_ = .ok (.ireturn, 1) → narrow .int (.int v_) = .int v_ → v_ = r_X4_takeAlike_at34 x1 y1 many S y n k S1 → (∃ p_ : Nat → Nat → Nat, u_ = XW d (x, a, b, c, e) p_ q (c_X4_takeAlike_1_at34 x1 y1 many S y n k S1) T h t (c_X4_takeAlike_y_at34 x1 y1 many S y n k S1) ss) → G d X u_ R_X4_takeAlike.cells R_X4_takeAlike.slots pc_ lv_ [.int v_]), G d X (XW d (x, a, b, c, e) p1 q S1 T h t (c_X1_keep_y y S) ss) 6 57 34 [(0, .ref (x 0)), (1, .int x1), (2, .int y1), (3, .int many), (5, .int (nI k))] [] := by
  intro n
  induction n with
  | zero => intro k S1 p1 hk hu1 hm; omega
  | succ n ih =>
    intro k S1 p1 hk hu1 hm RET
    obtain ⟨S2_, hS2_⟩ : ∃ z, c_X1_keep_y y S = z := ⟨_, rfl⟩
    rw [hS2_]
    refine g_iload E 4 dX4_takeAlike_34 rfl ?_
    refine g_iload_n E 3 dX4_takeAlike_36 rfl rfl ?_
    refine g_icmpge E 55 dX4_takeAlike_37 (by decide) (fun c_37 => ?_) (fun c_37 => ?_)
    · skip
      refine g_aload_n E 0 dX4_takeAlike_55 rfl rfl ?_
      refine g_get E (ci := 4) inlX4 0 rfl rfl 0 (by decide) fl_X4_10 rfl (.ref (a 0)) rfl dX4_takeAlike_56 ?_
      refine g_eq (ws' := XO d x a b c e (qf q ss) ++ (SK d a S1 ++ (SK d b T ++ (PK d c h t ++ (HP d e p1 S2_ ++ PL d q ss 2))))) rfl ?_
      refine g_perm (ws' := (SK d a S1) ++ (XO d x a b c e (qf q ss) ++ (SK d b T ++ (PK d c h t ++ (HP d e p1 S2_ ++ PL d q ss 2))))) px1 ?_
      refine g_callViD E (wr := XO d x a b c e (qf q ss) ++ (SK d b T ++ (PK d c h t ++ (HP d e p1 S2_ ++ PL d q ss 2)))) gc_X3_telling ml_X4_63 (t_X3_telling d a S1 ) rfl rfl (ci := 3) 4 rfl rfl rfl rfl (ok_le rfl) ⟨ok_le rfl, ok_le rfl, ok_le rfl, ok_le rfl⟩ rfl rfl dX4_takeAlike_59 ?_
      refine g_perm (ws' := XO d x a b c e (qf q ss) ++ (SK d a S1 ++ (SK d b T ++ (PK d c h t ++ (HP d e p1 S2_ ++ PL d q ss 2))))) px1.symm ?_
      refine g_eq (ws' := XW d (x, a, b, c, e) p1 q S1 T h t S2_ ss) rfl ?_
      refine g_nm (fun v3_ hv3_ => ?_)
      subst hv3_
      subst hS2_
      exact RET 62 _ (r_X3_telling S1) _ dX4_takeAlike_62 rfl (by rw [r_X4_takeAlike_at34, if_neg c_37]) ⟨p1, (by rw [c_X4_takeAlike_1_at34, if_neg c_37, c_X4_takeAlike_y_at34, if_neg c_37])⟩
    · skip
      have k37 : k < many.toNatClampNeg := by have q := c_37; rw [ix_eq hm2.2] at q; exact (nI_ltI (by omega) (by omega)).mp q
      refine g_aload_n E 0 dX4_takeAlike_40 rfl rfl ?_
      refine g_get E (ci := 4) inlX4 0 rfl rfl 0 (by decide) fl_X4_10 rfl (.ref (a 0)) rfl dX4_takeAlike_41 ?_
      refine g_iload_n E 1 dX4_takeAlike_44 rfl rfl ?_
      refine g_iload_n E 2 dX4_takeAlike_45 rfl rfl ?_
      refine g_eq (ws' := XO d x a b c e (qf q ss) ++ (SK d a S1 ++ (SK d b T ++ (PK d c h t ++ (HP d e p1 S2_ ++ PL d q ss 2))))) rfl ?_
      refine g_perm (ws' := (SK d a S1) ++ (XO d x a b c e (qf q ss) ++ (SK d b T ++ (PK d c h t ++ (HP d e p1 S2_ ++ PL d q ss 2))))) px1 ?_
      refine g_callVvD E (wr := XO d x a b c e (qf q ss) ++ (SK d b T ++ (PK d c h t ++ (HP d e p1 S2_ ++ PL d q ss 2)))) gc_X3_take ml_X4_59 (t_X3_take d a x1 y1 S1 (by first | assumption | omega)) rfl rfl (ci := 3) 4 rfl rfl rfl rfl (ok_le rfl) ⟨ok_le rfl, ok_le rfl, ok_le rfl, ok_le rfl⟩ rfl rfl dX4_takeAlike_46 ?_
      refine g_perm (ws' := XO d x a b c e (qf q ss) ++ (SK d a (c_X3_take x1 y1 S1) ++ (SK d b T ++ (PK d c h t ++ (HP d e p1 S2_ ++ PL d q ss 2))))) px1.symm ?_
      refine g_eq (ws' := XW d (x, a, b, c, e) p1 q (c_X3_take x1 y1 S1) T h t S2_ ss) rfl ?_
      obtain ⟨S4_, hS4_⟩ : ∃ z, c_X3_take x1 y1 S1 = z := ⟨_, rfl⟩
      rw [hS4_]
      refine g_iinc E (j := 4) (v := (nI (k + 1))) (lv' := [(5, .int (nI (k + 1))), (0, .ref (x 0)), (1, .int x1), (2, .int y1), (3, .int many)]) dX4_takeAlike_49 rfl (nI_1 _) (by decide) rfl ?_
      refine g_goto E 34 dX4_takeAlike_52 (by decide) ?_
      refine g_lvs (lv' := [(0, .ref (x 0)), (1, .int x1), (2, .int y1), (3, .int many), (5, .int (nI (k + 1)))]) [1, 2, 3, 4, 0] rfl ?_
      subst hS4_
      subst hS2_
      exact ih (k + 1) (c_X3_take x1 y1 S1) p1 (by omega) (by subst_vars; with_reducible exact KU_take hu1) (by omega) (fun pc_ lv_ v_ u_ h1_ h2_ h3_ h4_ => RET pc_ lv_ v_ u_ h1_ h2_ (h3_.trans (by rw [r_X4_takeAlike_at34, if_pos c_37])) (h4_.imp (fun _ h5_ => h5_.trans (by rw [c_X4_takeAlike_1_at34, if_pos c_37, c_X4_takeAlike_y_at34, if_pos c_37]))))
set_option maxHeartbeats 1000000 in
set_option maxRecDepth 100000 in
theorem s_X4_takeAlike_0 (d : gD) (x : Nat → Nat) (a : Nat → Nat) (b : Nat → Nat) (c : Nat → Nat) (e : Nat → Nat) (x1 : Int32) (y1 : Int32) (many : Int32) (p : Nat → Nat → Nat) (q : Nat → Nat → Nat) (S : SS) (T : SS) (h : Nat → Int32) (t : Nat → Int32) (y : HS) (ss : Nat → Option SS) (hy : y.1 < 6 ∧ y.2.1 ≤ 6) (hu : ¬ S.2.2.1 0 < 0) (hm2 : many.toNatClampNeg ≤ 200 ∧ ¬ many < 0)  {X : gX} (E : gE d X RX4 cX4_takeAlike 6 R_X4_takeAlike) (RET : ∀ (pc_ : Nat) (lv_ : List (Nat × Value)) (v_ : Int32) (u_ : va_W), decode cX4_takeAlike pc_ = .ok (.ireturn, 1) → narrow .int (.int v_) = .int v_ → v_ = r_X4_takeAlike x1 y1 many S y → (∃ p_ : Nat → Nat → Nat, u_ = XW d (x, a, b, c, e) p_ q (c_X4_takeAlike_1 x1 y1 many S y) T h t (c_X4_takeAlike_y x1 y1 many S y) ss) → G d X u_ R_X4_takeAlike.cells R_X4_takeAlike.slots pc_ lv_ [.int v_]) : G d X (XW d (x, a, b, c, e) p q S T h t y ss) 0 0 0 [(0, .ref (x 0)), (1, .int x1), (2, .int y1), (3, .int many)] [] := by
  refine g_aload_n E 0 dX4_takeAlike_0 rfl rfl ?_
  refine g_get E (ci := 4) inlX4 0 rfl rfl 0 (by decide) fl_X4_10 rfl (.ref (a 0)) rfl dX4_takeAlike_1 ?_
  refine g_iload_n E 1 dX4_takeAlike_4 rfl rfl ?_
  refine g_iload_n E 2 dX4_takeAlike_5 rfl rfl ?_
  refine g_iload_n E 3 dX4_takeAlike_6 rfl rfl ?_
  refine g_eq (ws' := XO d x a b c e (qf q ss) ++ (SK d a S ++ (SK d b T ++ (PK d c h t ++ (HP d e p y ++ PL d q ss 2))))) rfl ?_
  refine g_perm (ws' := (SK d a S) ++ (XO d x a b c e (qf q ss) ++ (SK d b T ++ (PK d c h t ++ (HP d e p y ++ PL d q ss 2))))) px1 ?_
  refine g_callViD E (wr := XO d x a b c e (qf q ss) ++ (SK d b T ++ (PK d c h t ++ (HP d e p y ++ PL d q ss 2)))) gc_X3_refusalOfSamples ml_X4_56 (t_X3_refusalOfSamples d a x1 y1 many S ) rfl rfl (ci := 3) 4 rfl rfl rfl rfl (ok_le rfl) ⟨ok_le rfl, ok_le rfl, ok_le rfl, ok_le rfl⟩ rfl rfl dX4_takeAlike_7 ?_
  refine g_perm (ws' := XO d x a b c e (qf q ss) ++ (SK d a S ++ (SK d b T ++ (PK d c h t ++ (HP d e p y ++ PL d q ss 2))))) px1.symm ?_
  refine g_eq (ws' := XW d (x, a, b, c, e) p q S T h t y ss) rfl ?_
  refine g_nm (fun v1_ hv1_ => ?_)
  refine g_istore E (lv' := [(4, .int v1_), (0, .ref (x 0)), (1, .int x1), (2, .int y1), (3, .int many)]) dX4_takeAlike_10 (by decide) rfl ?_
  refine g_iload E 0 dX4_takeAlike_12 rfl ?_
  refine g_ifeq E 20 dX4_takeAlike_14 (by decide) (fun c_14 => ?_) (fun c_14 => ?_)
  · skip
    refine g_aload_n E 1 dX4_takeAlike_20 rfl rfl ?_
    refine g_get E (ci := 4) inlX4 0 rfl rfl 3 (by decide) fl_X4_29 rfl (.ref (e 0)) rfl dX4_takeAlike_21 ?_
    refine g_aload_n E 1 dX4_takeAlike_24 rfl rfl ?_
    refine g_get E (ci := 4) inlX4 0 rfl rfl 0 (by decide) fl_X4_10 rfl (.ref (a 0)) rfl dX4_takeAlike_25 ?_
    refine g_eq (ws' := XO d x a b c e (qf q ss) ++ (SK d a S ++ (SK d b T ++ (PK d c h t ++ (HP d e p y ++ PL d q ss 2))))) rfl ?_
    refine g_perm (ws' := (HP d e p y ++ SK d a S) ++ (XO d x a b c e (qf q ss) ++ (SK d b T ++ (PK d c h t ++ PL d q ss 2)))) px41 ?_
    refine g_callVv E (wr := XO d x a b c e (qf q ss) ++ (SK d b T ++ (PK d c h t ++ PL d q ss 2))) gc_X1_keep ml_X4_44 (t2_X1_keep d e a p y S hy.1 hy.2) rfl rfl (ci := 1) 0 rfl rfl rfl rfl (ok_le rfl) ⟨ok_le rfl, ok_le rfl, ok_le rfl, ok_le rfl⟩ rfl rfl dX4_takeAlike_28 ?_
    rintro u_ ⟨p1, rfl⟩
    refine g_perm (ws' := XO d x a b c e (qf q ss) ++ (SK d a S ++ (SK d b T ++ (PK d c h t ++ (HP d e p1 (c_X1_keep_y y S) ++ PL d q ss 2))))) px41.symm ?_
    refine g_eq (ws' := XW d (x, a, b, c, e) p1 q S T h t (c_X1_keep_y y S) ss) rfl ?_
    obtain ⟨S2_, hS2_⟩ : ∃ z, c_X1_keep_y y S = z := ⟨_, rfl⟩
    rw [hS2_]
    refine g_iconst E 0 dX4_takeAlike_31 (by decide) ?_
    refine g_istore E (lv' := [(5, .int 0), (4, .int v1_), (0, .ref (x 0)), (1, .int x1), (2, .int y1), (3, .int many)]) dX4_takeAlike_32 (by decide) rfl ?_
    refine g_lvs (lv' := [(0, .ref (x 0)), (1, .int x1), (2, .int y1), (3, .int many), (5, .int 0)]) [2, 3, 4, 5, 0] rfl ?_
    subst hS2_
    subst hv1_
    exact s_X4_takeAlike_34 d x a b c e x1 y1 many p q S T h t y ss hy hu hm2 E 201 0 S p1 (by omega) hu (by omega) (fun pc_ lv_ v_ u_ h1_ h2_ h3_ h4_ => RET pc_ lv_ v_ u_ h1_ h2_ (h3_.trans (by rw [r_X4_takeAlike, if_pos c_14])) (h4_.imp (fun _ h5_ => h5_.trans (by rw [c_X4_takeAlike_1, if_pos c_14, c_X4_takeAlike_y, if_pos c_14]))))
  · skip
    refine g_iload E 0 dX4_takeAlike_17 rfl ?_
    subst hv1_
    refine g_widen (k1 := R_X4_takeAlike.cells) (n1 := R_X4_takeAlike.slots) (ok_le rfl) (ok_le rfl) ?_
    exact RET 19 _ (r_X3_refusalOfSamples x1 y1 many S) _ dX4_takeAlike_19 rfl (by rw [r_X4_takeAlike, if_neg c_14]) ⟨p, (by rw [c_X4_takeAlike_1, if_neg c_14, c_X4_takeAlike_y, if_neg c_14])⟩
set_option maxHeartbeats 1000000 in
set_option maxRecDepth 100000 in
theorem t_X4_takeAlike (d : gD) (x : Nat → Nat) (a : Nat → Nat) (b : Nat → Nat) (c : Nat → Nat) (e : Nat → Nat) (x1 : Int32) (y1 : Int32) (many : Int32) (p : Nat → Nat → Nat) (q : Nat → Nat → Nat) (S : SS) (T : SS) (h : Nat → Int32) (t : Nat → Int32) (y : HS) (ss : Nat → Option SS) (hy : y.1 < 6 ∧ y.2.1 ≤ 6) (hu : ¬ S.2.2.1 0 < 0) (hm2 : many.toNatClampNeg ≤ 200 ∧ ¬ many < 0) : gMi d yX4_takeAlike cX4_takeAlike 6 (some .int) R_X4_takeAlike [.ref (x 0), .int x1, .int y1, .int many] (XW d (x, a, b, c, e) p q S T h t y ss) (fun r_ u_ => r_ = r_X4_takeAlike x1 y1 many S y ∧ (∃ p_ : Nat → Nat → Nat, u_ = XW d (x, a, b, c, e) p_ q (c_X4_takeAlike_1 x1 y1 many S y) T h t (c_X4_takeAlike_y x1 y1 many S y) ss)) :=
  g_met_i RX4 rfl (by decide +kernel) (Nat.le_of_ble_eq_true rfl) [(0, .ref (x 0)), (1, .int x1), (2, .int y1), (3, .int many)] rfl (fun X E RET => s_X4_takeAlike_0 d x a b c e x1 y1 many p q S T h t y ss hy hu hm2 E (fun pc_ lv_ v_ u_ h1_ h2_ h3_ h4_ => RET pc_ lv_ v_ u_ h1_ h2_ ⟨h3_, h4_⟩))
abbrev R_X4_sample : Room := { frames := 6, cells := 6, slots := 57, locals := 141 }
def r_X4_sample (x1 : Int32) (y1 : Int32) (S : SS) (y : HS) : Int32 := (r_X4_takeAlike x1 y1 1 S y)
def c_X4_sample_1 (x1 : Int32) (y1 : Int32) (S : SS) (y : HS) : SS := (c_X4_takeAlike_1 x1 y1 1 S y)
def c_X4_sample_y (x1 : Int32) (y1 : Int32) (S : SS) (y : HS) : HS := (c_X4_takeAlike_y x1 y1 1 S y)
set_option maxHeartbeats 1000000 in
set_option maxRecDepth 100000 in
theorem s_X4_sample_0 (d : gD) (x : Nat → Nat) (a : Nat → Nat) (b : Nat → Nat) (c : Nat → Nat) (e : Nat → Nat) (x1 : Int32) (y1 : Int32) (p : Nat → Nat → Nat) (q : Nat → Nat → Nat) (S : SS) (T : SS) (h : Nat → Int32) (t : Nat → Int32) (y : HS) (ss : Nat → Option SS) (hy : y.1 < 6 ∧ y.2.1 ≤ 6) (hu : ¬ S.2.2.1 0 < 0)  {X : gX} (E : gE d X RX4 cX4_sample 3 R_X4_sample) (RET : ∀ (pc_ : Nat) (lv_ : List (Nat × Value)) (v_ : Int32) (u_ : va_W), decode cX4_sample pc_ = .ok (.ireturn, 1) → narrow .int (.int v_) = .int v_ → v_ = r_X4_sample x1 y1 S y → (∃ p_ : Nat → Nat → Nat, u_ = XW d (x, a, b, c, e) p_ q (c_X4_sample_1 x1 y1 S y) T h t (c_X4_sample_y x1 y1 S y) ss) → G d X u_ R_X4_sample.cells R_X4_sample.slots pc_ lv_ [.int v_]) : G d X (XW d (x, a, b, c, e) p q S T h t y ss) 0 0 0 [(0, .ref (x 0)), (1, .int x1), (2, .int y1)] [] := by
  refine g_aload_n E 0 dX4_sample_0 rfl rfl ?_
  refine g_iload_n E 1 dX4_sample_1 rfl rfl ?_
  refine g_iload_n E 2 dX4_sample_2 rfl rfl ?_
  refine g_iconst E 1 dX4_sample_3 (by decide) ?_
  refine g_callVi E (wr := []) gc_X4_takeAlike ml_X4_52 (t_X4_takeAlike d x a b c e x1 y1 1 p q S T h t y ss hy hu (by decide)) rfl (List.append_nil _).symm (ci := 4) 0 rfl rfl rfl rfl (ok_le rfl) ⟨ok_le rfl, ok_le rfl, ok_le rfl, ok_le rfl⟩ rfl rfl dX4_sample_4 ?_
  rintro v_ u_ ⟨rfl, ⟨p1, rfl⟩⟩
  refine g_eq (ws' := XW d (x, a, b, c, e) p1 q (c_X4_takeAlike_1 x1 y1 1 S y) T h t (c_X4_takeAlike_y x1 y1 1 S y) ss) (List.append_nil _) ?_
  obtain ⟨S1_, hS1_⟩ : ∃ z, c_X4_takeAlike_1 x1 y1 1 S y = z := ⟨_, rfl⟩
  rw [hS1_]
  obtain ⟨S2_, hS2_⟩ : ∃ z, c_X4_takeAlike_y x1 y1 1 S y = z := ⟨_, rfl⟩
  rw [hS2_]
  refine g_nm (fun v3_ hv3_ => ?_)
  subst hv3_
  subst hS2_
  subst hS1_
  exact RET 7 _ (r_X4_takeAlike x1 y1 1 S y) _ dX4_sample_7 rfl (by rw [r_X4_sample]) ⟨p1, (by rw [c_X4_sample_1, c_X4_sample_y])⟩
set_option maxHeartbeats 1000000 in
set_option maxRecDepth 100000 in
theorem t_X4_sample (d : gD) (x : Nat → Nat) (a : Nat → Nat) (b : Nat → Nat) (c : Nat → Nat) (e : Nat → Nat) (x1 : Int32) (y1 : Int32) (p : Nat → Nat → Nat) (q : Nat → Nat → Nat) (S : SS) (T : SS) (h : Nat → Int32) (t : Nat → Int32) (y : HS) (ss : Nat → Option SS) (hy : y.1 < 6 ∧ y.2.1 ≤ 6) (hu : ¬ S.2.2.1 0 < 0) : gMi d yX4_sample cX4_sample 3 (some .int) R_X4_sample [.ref (x 0), .int x1, .int y1] (XW d (x, a, b, c, e) p q S T h t y ss) (fun r_ u_ => r_ = r_X4_sample x1 y1 S y ∧ (∃ p_ : Nat → Nat → Nat, u_ = XW d (x, a, b, c, e) p_ q (c_X4_sample_1 x1 y1 S y) T h t (c_X4_sample_y x1 y1 S y) ss)) :=
  g_met_i RX4 rfl (by decide +kernel) (Nat.le_of_ble_eq_true rfl) [(0, .ref (x 0)), (1, .int x1), (2, .int y1)] rfl (fun X E RET => s_X4_sample_0 d x a b c e x1 y1 p q S T h t y ss hy hu E (fun pc_ lv_ v_ u_ h1_ h2_ h3_ h4_ => RET pc_ lv_ v_ u_ h1_ h2_ ⟨h3_, h4_⟩))
abbrev R_X4_hold : Room := { frames := 6, cells := 6, slots := 57, locals := 141 }
def r_X4_hold (x1 : Int32) (y1 : Int32) (many : Int32) (S : SS) (y : HS) : Int32 := if many < 1 then (-2) else (if 200 < many then (-2) else (r_X4_takeAlike x1 y1 many S y))
def c_X4_hold_1 (x1 : Int32) (y1 : Int32) (many : Int32) (S : SS) (y : HS) : SS := if many < 1 then S else (if 200 < many then S else (c_X4_takeAlike_1 x1 y1 many S y))
def c_X4_hold_y (x1 : Int32) (y1 : Int32) (many : Int32) (S : SS) (y : HS) : HS := if many < 1 then y else (if 200 < many then y else (c_X4_takeAlike_y x1 y1 many S y))
set_option maxHeartbeats 1000000 in
set_option maxRecDepth 100000 in
theorem s_X4_hold_0 (d : gD) (x : Nat → Nat) (a : Nat → Nat) (b : Nat → Nat) (c : Nat → Nat) (e : Nat → Nat) (x1 : Int32) (y1 : Int32) (many : Int32) (p : Nat → Nat → Nat) (q : Nat → Nat → Nat) (S : SS) (T : SS) (h : Nat → Int32) (t : Nat → Int32) (y : HS) (ss : Nat → Option SS) (hy : y.1 < 6 ∧ y.2.1 ≤ 6) (hu : ¬ S.2.2.1 0 < 0)  {X : gX} (E : gE d X RX4 cX4_hold 4 R_X4_hold) (RET : ∀ (pc_ : Nat) (lv_ : List (Nat × Value)) (v_ : Int32) (u_ : va_W), decode cX4_hold pc_ = .ok (.ireturn, 1) → narrow .int (.int v_) = .int v_ → v_ = r_X4_hold x1 y1 many S y → (∃ p_ : Nat → Nat → Nat, u_ = XW d (x, a, b, c, e) p_ q (c_X4_hold_1 x1 y1 many S y) T h t (c_X4_hold_y x1 y1 many S y) ss) → G d X u_ R_X4_hold.cells R_X4_hold.slots pc_ lv_ [.int v_]) : G d X (XW d (x, a, b, c, e) p q S T h t y ss) 0 0 0 [(0, .ref (x 0)), (1, .int x1), (2, .int y1), (3, .int many)] [] := by
  refine g_iload_n E 3 dX4_hold_0 rfl rfl ?_
  refine g_iconst E 1 dX4_hold_1 (by decide) ?_
  refine g_icmplt E 12 dX4_hold_2 (by decide) (fun c_2 => ?_) (fun c_2 => ?_)
  · skip
    refine g_bipush E (-2) dX4_hold_12 (by decide) ?_
    refine g_widen (k1 := R_X4_hold.cells) (n1 := R_X4_hold.slots) (ok_le rfl) (ok_le rfl) ?_
    exact RET 14 _ (-2) _ dX4_hold_14 rfl (by rw [r_X4_hold, if_pos c_2]) ⟨p, (by rw [c_X4_hold_1, if_pos c_2, c_X4_hold_y, if_pos c_2])⟩
  · skip
    refine g_iload_n E 3 dX4_hold_5 rfl rfl ?_
    refine g_sipush E 200 dX4_hold_6 (by decide) ?_
    refine g_icmple E 15 dX4_hold_9 (by decide) (fun c_9 => ?_) (fun c_9 => ?_)
    · skip
      refine g_aload_n E 0 dX4_hold_15 rfl rfl ?_
      refine g_iload_n E 1 dX4_hold_16 rfl rfl ?_
      refine g_iload_n E 2 dX4_hold_17 rfl rfl ?_
      refine g_iload_n E 3 dX4_hold_18 rfl rfl ?_
      refine g_callVi E (wr := []) gc_X4_takeAlike ml_X4_52 (t_X4_takeAlike d x a b c e x1 y1 many p q S T h t y ss hy hu (many_ok c_2 c_9)) rfl (List.append_nil _).symm (ci := 4) 0 rfl rfl rfl rfl (ok_le rfl) ⟨ok_le rfl, ok_le rfl, ok_le rfl, ok_le rfl⟩ rfl rfl dX4_hold_19 ?_
      rintro v_ u_ ⟨rfl, ⟨p1, rfl⟩⟩
      refine g_eq (ws' := XW d (x, a, b, c, e) p1 q (c_X4_takeAlike_1 x1 y1 many S y) T h t (c_X4_takeAlike_y x1 y1 many S y) ss) (List.append_nil _) ?_
      obtain ⟨S1_, hS1_⟩ : ∃ z, c_X4_takeAlike_1 x1 y1 many S y = z := ⟨_, rfl⟩
      rw [hS1_]
      obtain ⟨S2_, hS2_⟩ : ∃ z, c_X4_takeAlike_y x1 y1 many S y = z := ⟨_, rfl⟩
      rw [hS2_]
      refine g_nm (fun v3_ hv3_ => ?_)
      subst hv3_
      subst hS2_
      subst hS1_
      exact RET 22 _ (r_X4_takeAlike x1 y1 many S y) _ dX4_hold_22 rfl (by rw [r_X4_hold, if_neg c_2, if_neg c_9]) ⟨p1, (by rw [c_X4_hold_1, if_neg c_2, if_neg c_9, c_X4_hold_y, if_neg c_2, if_neg c_9])⟩
    · skip
      refine g_bipush E (-2) dX4_hold_12 (by decide) ?_
      refine g_widen (k1 := R_X4_hold.cells) (n1 := R_X4_hold.slots) (ok_le rfl) (ok_le rfl) ?_
      exact RET 14 _ (-2) _ dX4_hold_14 rfl (by rw [r_X4_hold, if_neg c_2, if_pos c_9]) ⟨p, (by rw [c_X4_hold_1, if_neg c_2, if_pos c_9, c_X4_hold_y, if_neg c_2, if_pos c_9])⟩
set_option maxHeartbeats 1000000 in
set_option maxRecDepth 100000 in
theorem t_X4_hold (d : gD) (x : Nat → Nat) (a : Nat → Nat) (b : Nat → Nat) (c : Nat → Nat) (e : Nat → Nat) (x1 : Int32) (y1 : Int32) (many : Int32) (p : Nat → Nat → Nat) (q : Nat → Nat → Nat) (S : SS) (T : SS) (h : Nat → Int32) (t : Nat → Int32) (y : HS) (ss : Nat → Option SS) (hy : y.1 < 6 ∧ y.2.1 ≤ 6) (hu : ¬ S.2.2.1 0 < 0) : gMi d yX4_hold cX4_hold 4 (some .int) R_X4_hold [.ref (x 0), .int x1, .int y1, .int many] (XW d (x, a, b, c, e) p q S T h t y ss) (fun r_ u_ => r_ = r_X4_hold x1 y1 many S y ∧ (∃ p_ : Nat → Nat → Nat, u_ = XW d (x, a, b, c, e) p_ q (c_X4_hold_1 x1 y1 many S y) T h t (c_X4_hold_y x1 y1 many S y) ss)) :=
  g_met_i RX4 rfl (by decide +kernel) (Nat.le_of_ble_eq_true rfl) [(0, .ref (x 0)), (1, .int x1), (2, .int y1), (3, .int many)] rfl (fun X E RET => s_X4_hold_0 d x a b c e x1 y1 many p q S T h t y ss hy hu E (fun pc_ lv_ v_ u_ h1_ h2_ h3_ h4_ => RET pc_ lv_ v_ u_ h1_ h2_ ⟨h3_, h4_⟩))
abbrev R_X4_press : Room := { frames := 4, cells := 6, slots := 57, locals := 86 }
def r_X4_press (button : Int32) (S : SS) (y : HS) : Int32 := if (r_X3_refusalOfPress button S) = 0 then (r_X3_pushDown button S) else (r_X3_refusalOfPress button S)
def c_X4_press_1 (button : Int32) (S : SS) (y : HS) : SS := if (r_X3_refusalOfPress button S) = 0 then (c_X3_pushDown button S) else S
def c_X4_press_y (button : Int32) (S : SS) (y : HS) : HS := if (r_X3_refusalOfPress button S) = 0 then (c_X1_keep_y y S) else y
set_option maxHeartbeats 1000000 in
set_option maxRecDepth 100000 in
theorem s_X4_press_0 (d : gD) (x : Nat → Nat) (a : Nat → Nat) (b : Nat → Nat) (c : Nat → Nat) (e : Nat → Nat) (button : Int32) (p : Nat → Nat → Nat) (q : Nat → Nat → Nat) (S : SS) (T : SS) (h : Nat → Int32) (t : Nat → Int32) (y : HS) (ss : Nat → Option SS) (hy : y.1 < 6 ∧ y.2.1 ≤ 6)  {X : gX} (E : gE d X RX4 cX4_press 3 R_X4_press) (RET : ∀ (pc_ : Nat) (lv_ : List (Nat × Value)) (v_ : Int32) (u_ : va_W), decode cX4_press pc_ = .ok (.ireturn, 1) → narrow .int (.int v_) = .int v_ → v_ = r_X4_press button S y → (∃ p_ : Nat → Nat → Nat, u_ = XW d (x, a, b, c, e) p_ q (c_X4_press_1 button S y) T h t (c_X4_press_y button S y) ss) → G d X u_ R_X4_press.cells R_X4_press.slots pc_ lv_ [.int v_]) : G d X (XW d (x, a, b, c, e) p q S T h t y ss) 0 0 0 [(0, .ref (x 0)), (1, .int button)] [] := by
  refine g_aload_n E 0 dX4_press_0 rfl rfl ?_
  refine g_get E (ci := 4) inlX4 0 rfl rfl 0 (by decide) fl_X4_10 rfl (.ref (a 0)) rfl dX4_press_1 ?_
  refine g_iload_n E 1 dX4_press_4 rfl rfl ?_
  refine g_eq (ws' := XO d x a b c e (qf q ss) ++ (SK d a S ++ (SK d b T ++ (PK d c h t ++ (HP d e p y ++ PL d q ss 2))))) rfl ?_
  refine g_perm (ws' := (SK d a S) ++ (XO d x a b c e (qf q ss) ++ (SK d b T ++ (PK d c h t ++ (HP d e p y ++ PL d q ss 2))))) px1 ?_
  refine g_callViD E (wr := XO d x a b c e (qf q ss) ++ (SK d b T ++ (PK d c h t ++ (HP d e p y ++ PL d q ss 2)))) gc_X3_refusalOfPress ml_X4_67 (t_X3_refusalOfPress d a button S ) rfl rfl (ci := 3) 4 rfl rfl rfl rfl (ok_le rfl) ⟨ok_le rfl, ok_le rfl, ok_le rfl, ok_le rfl⟩ rfl rfl dX4_press_5 ?_
  refine g_perm (ws' := XO d x a b c e (qf q ss) ++ (SK d a S ++ (SK d b T ++ (PK d c h t ++ (HP d e p y ++ PL d q ss 2))))) px1.symm ?_
  refine g_eq (ws' := XW d (x, a, b, c, e) p q S T h t y ss) rfl ?_
  refine g_nm (fun v1_ hv1_ => ?_)
  refine g_istore_n E (lv' := [(2, .int v1_), (0, .ref (x 0)), (1, .int button)]) dX4_press_8 rfl (by decide) rfl ?_
  refine g_iload_n E 0 dX4_press_9 rfl rfl ?_
  refine g_ifeq E 15 dX4_press_10 (by decide) (fun c_10 => ?_) (fun c_10 => ?_)
  · skip
    refine g_aload_n E 1 dX4_press_15 rfl rfl ?_
    refine g_get E (ci := 4) inlX4 0 rfl rfl 3 (by decide) fl_X4_29 rfl (.ref (e 0)) rfl dX4_press_16 ?_
    refine g_aload_n E 1 dX4_press_19 rfl rfl ?_
    refine g_get E (ci := 4) inlX4 0 rfl rfl 0 (by decide) fl_X4_10 rfl (.ref (a 0)) rfl dX4_press_20 ?_
    refine g_eq (ws' := XO d x a b c e (qf q ss) ++ (SK d a S ++ (SK d b T ++ (PK d c h t ++ (HP d e p y ++ PL d q ss 2))))) rfl ?_
    refine g_perm (ws' := (HP d e p y ++ SK d a S) ++ (XO d x a b c e (qf q ss) ++ (SK d b T ++ (PK d c h t ++ PL d q ss 2)))) px41 ?_
    refine g_callVv E (wr := XO d x a b c e (qf q ss) ++ (SK d b T ++ (PK d c h t ++ PL d q ss 2))) gc_X1_keep ml_X4_44 (t2_X1_keep d e a p y S hy.1 hy.2) rfl rfl (ci := 1) 0 rfl rfl rfl rfl (ok_le rfl) ⟨ok_le rfl, ok_le rfl, ok_le rfl, ok_le rfl⟩ rfl rfl dX4_press_23 ?_
    rintro u_ ⟨p1, rfl⟩
    refine g_perm (ws' := XO d x a b c e (qf q ss) ++ (SK d a S ++ (SK d b T ++ (PK d c h t ++ (HP d e p1 (c_X1_keep_y y S) ++ PL d q ss 2))))) px41.symm ?_
    refine g_eq (ws' := XW d (x, a, b, c, e) p1 q S T h t (c_X1_keep_y y S) ss) rfl ?_
    obtain ⟨S2_, hS2_⟩ : ∃ z, c_X1_keep_y y S = z := ⟨_, rfl⟩
    rw [hS2_]
    refine g_aload_n E 1 dX4_press_26 rfl rfl ?_
    refine g_get E (ci := 4) inlX4 0 rfl rfl 0 (by decide) fl_X4_10 rfl (.ref (a 0)) rfl dX4_press_27 ?_
    refine g_iload_n E 2 dX4_press_30 rfl rfl ?_
    refine g_eq (ws' := XO d x a b c e (qf q ss) ++ (SK d a S ++ (SK d b T ++ (PK d c h t ++ (HP d e p1 S2_ ++ PL d q ss 2))))) rfl ?_
    refine g_perm (ws' := (SK d a S) ++ (XO d x a b c e (qf q ss) ++ (SK d b T ++ (PK d c h t ++ (HP d e p1 S2_ ++ PL d q ss 2))))) px1 ?_
    refine g_callViD E (wr := XO d x a b c e (qf q ss) ++ (SK d b T ++ (PK d c h t ++ (HP d e p1 S2_ ++ PL d q ss 2)))) gc_X3_pushDown ml_X4_71 (t_X3_pushDown d a button S ) rfl rfl (ci := 3) 4 rfl rfl rfl rfl (ok_le rfl) ⟨ok_le rfl, ok_le rfl, ok_le rfl, ok_le rfl⟩ rfl rfl dX4_press_31 ?_
    refine g_perm (ws' := XO d x a b c e (qf q ss) ++ (SK d a (c_X3_pushDown button S) ++ (SK d b T ++ (PK d c h t ++ (HP d e p1 S2_ ++ PL d q ss 2))))) px1.symm ?_
    refine g_eq (ws' := XW d (x, a, b, c, e) p1 q (c_X3_pushDown button S) T h t S2_ ss) rfl ?_
    obtain ⟨S3_, hS3_⟩ : ∃ z, c_X3_pushDown button S = z := ⟨_, rfl⟩
    rw [hS3_]
    refine g_nm (fun v4_ hv4_ => ?_)
    subst hv4_
    subst hS3_
    subst hS2_
    subst hv1_
    exact RET 34 _ (r_X3_pushDown button S) _ dX4_press_34 rfl (by rw [r_X4_press, if_pos c_10]) ⟨p1, (by rw [c_X4_press_1, if_pos c_10, c_X4_press_y, if_pos c_10])⟩
  · skip
    refine g_iload_n E 0 dX4_press_13 rfl rfl ?_
    subst hv1_
    refine g_widen (k1 := R_X4_press.cells) (n1 := R_X4_press.slots) (ok_le rfl) (ok_le rfl) ?_
    exact RET 14 _ (r_X3_refusalOfPress button S) _ dX4_press_14 rfl (by rw [r_X4_press, if_neg c_10]) ⟨p, (by rw [c_X4_press_1, if_neg c_10, c_X4_press_y, if_neg c_10])⟩
set_option maxHeartbeats 1000000 in
set_option maxRecDepth 100000 in
theorem t_X4_press (d : gD) (x : Nat → Nat) (a : Nat → Nat) (b : Nat → Nat) (c : Nat → Nat) (e : Nat → Nat) (button : Int32) (p : Nat → Nat → Nat) (q : Nat → Nat → Nat) (S : SS) (T : SS) (h : Nat → Int32) (t : Nat → Int32) (y : HS) (ss : Nat → Option SS) (hy : y.1 < 6 ∧ y.2.1 ≤ 6) : gMi d yX4_press cX4_press 3 (some .int) R_X4_press [.ref (x 0), .int button] (XW d (x, a, b, c, e) p q S T h t y ss) (fun r_ u_ => r_ = r_X4_press button S y ∧ (∃ p_ : Nat → Nat → Nat, u_ = XW d (x, a, b, c, e) p_ q (c_X4_press_1 button S y) T h t (c_X4_press_y button S y) ss)) :=
  g_met_i RX4 rfl (by decide +kernel) (Nat.le_of_ble_eq_true rfl) [(0, .ref (x 0)), (1, .int button)] rfl (fun X E RET => s_X4_press_0 d x a b c e button p q S T h t y ss hy E (fun pc_ lv_ v_ u_ h1_ h2_ h3_ h4_ => RET pc_ lv_ v_ u_ h1_ h2_ ⟨h3_, h4_⟩))
abbrev R_X4_letUp : Room := { frames := 4, cells := 6, slots := 57, locals := 86 }
def r_X4_letUp (button : Int32) (S : SS) (y : HS) : Int32 := if (r_X3_refusalOfLetUp button S) = 0 then (r_X3_release button S) else (r_X3_refusalOfLetUp button S)
def c_X4_letUp_1 (button : Int32) (S : SS) (y : HS) : SS := if (r_X3_refusalOfLetUp button S) = 0 then (c_X3_release button S) else S
def c_X4_letUp_y (button : Int32) (S : SS) (y : HS) : HS := if (r_X3_refusalOfLetUp button S) = 0 then (c_X1_keep_y y S) else y
set_option maxHeartbeats 1000000 in
set_option maxRecDepth 100000 in
theorem s_X4_letUp_0 (d : gD) (x : Nat → Nat) (a : Nat → Nat) (b : Nat → Nat) (c : Nat → Nat) (e : Nat → Nat) (button : Int32) (p : Nat → Nat → Nat) (q : Nat → Nat → Nat) (S : SS) (T : SS) (h : Nat → Int32) (t : Nat → Int32) (y : HS) (ss : Nat → Option SS) (hy : y.1 < 6 ∧ y.2.1 ≤ 6)  {X : gX} (E : gE d X RX4 cX4_letUp 3 R_X4_letUp) (RET : ∀ (pc_ : Nat) (lv_ : List (Nat × Value)) (v_ : Int32) (u_ : va_W), decode cX4_letUp pc_ = .ok (.ireturn, 1) → narrow .int (.int v_) = .int v_ → v_ = r_X4_letUp button S y → (∃ p_ : Nat → Nat → Nat, u_ = XW d (x, a, b, c, e) p_ q (c_X4_letUp_1 button S y) T h t (c_X4_letUp_y button S y) ss) → G d X u_ R_X4_letUp.cells R_X4_letUp.slots pc_ lv_ [.int v_]) : G d X (XW d (x, a, b, c, e) p q S T h t y ss) 0 0 0 [(0, .ref (x 0)), (1, .int button)] [] := by
  refine g_aload_n E 0 dX4_letUp_0 rfl rfl ?_
  refine g_get E (ci := 4) inlX4 0 rfl rfl 0 (by decide) fl_X4_10 rfl (.ref (a 0)) rfl dX4_letUp_1 ?_
  refine g_iload_n E 1 dX4_letUp_4 rfl rfl ?_
  refine g_eq (ws' := XO d x a b c e (qf q ss) ++ (SK d a S ++ (SK d b T ++ (PK d c h t ++ (HP d e p y ++ PL d q ss 2))))) rfl ?_
  refine g_perm (ws' := (SK d a S) ++ (XO d x a b c e (qf q ss) ++ (SK d b T ++ (PK d c h t ++ (HP d e p y ++ PL d q ss 2))))) px1 ?_
  refine g_callViD E (wr := XO d x a b c e (qf q ss) ++ (SK d b T ++ (PK d c h t ++ (HP d e p y ++ PL d q ss 2)))) gc_X3_refusalOfLetUp ml_X4_74 (t_X3_refusalOfLetUp d a button S ) rfl rfl (ci := 3) 4 rfl rfl rfl rfl (ok_le rfl) ⟨ok_le rfl, ok_le rfl, ok_le rfl, ok_le rfl⟩ rfl rfl dX4_letUp_5 ?_
  refine g_perm (ws' := XO d x a b c e (qf q ss) ++ (SK d a S ++ (SK d b T ++ (PK d c h t ++ (HP d e p y ++ PL d q ss 2))))) px1.symm ?_
  refine g_eq (ws' := XW d (x, a, b, c, e) p q S T h t y ss) rfl ?_
  refine g_nm (fun v1_ hv1_ => ?_)
  refine g_istore_n E (lv' := [(2, .int v1_), (0, .ref (x 0)), (1, .int button)]) dX4_letUp_8 rfl (by decide) rfl ?_
  refine g_iload_n E 0 dX4_letUp_9 rfl rfl ?_
  refine g_ifeq E 15 dX4_letUp_10 (by decide) (fun c_10 => ?_) (fun c_10 => ?_)
  · skip
    refine g_aload_n E 1 dX4_letUp_15 rfl rfl ?_
    refine g_get E (ci := 4) inlX4 0 rfl rfl 3 (by decide) fl_X4_29 rfl (.ref (e 0)) rfl dX4_letUp_16 ?_
    refine g_aload_n E 1 dX4_letUp_19 rfl rfl ?_
    refine g_get E (ci := 4) inlX4 0 rfl rfl 0 (by decide) fl_X4_10 rfl (.ref (a 0)) rfl dX4_letUp_20 ?_
    refine g_eq (ws' := XO d x a b c e (qf q ss) ++ (SK d a S ++ (SK d b T ++ (PK d c h t ++ (HP d e p y ++ PL d q ss 2))))) rfl ?_
    refine g_perm (ws' := (HP d e p y ++ SK d a S) ++ (XO d x a b c e (qf q ss) ++ (SK d b T ++ (PK d c h t ++ PL d q ss 2)))) px41 ?_
    refine g_callVv E (wr := XO d x a b c e (qf q ss) ++ (SK d b T ++ (PK d c h t ++ PL d q ss 2))) gc_X1_keep ml_X4_44 (t2_X1_keep d e a p y S hy.1 hy.2) rfl rfl (ci := 1) 0 rfl rfl rfl rfl (ok_le rfl) ⟨ok_le rfl, ok_le rfl, ok_le rfl, ok_le rfl⟩ rfl rfl dX4_letUp_23 ?_
    rintro u_ ⟨p1, rfl⟩
    refine g_perm (ws' := XO d x a b c e (qf q ss) ++ (SK d a S ++ (SK d b T ++ (PK d c h t ++ (HP d e p1 (c_X1_keep_y y S) ++ PL d q ss 2))))) px41.symm ?_
    refine g_eq (ws' := XW d (x, a, b, c, e) p1 q S T h t (c_X1_keep_y y S) ss) rfl ?_
    obtain ⟨S2_, hS2_⟩ : ∃ z, c_X1_keep_y y S = z := ⟨_, rfl⟩
    rw [hS2_]
    refine g_aload_n E 1 dX4_letUp_26 rfl rfl ?_
    refine g_get E (ci := 4) inlX4 0 rfl rfl 0 (by decide) fl_X4_10 rfl (.ref (a 0)) rfl dX4_letUp_27 ?_
    refine g_iload_n E 2 dX4_letUp_30 rfl rfl ?_
    refine g_eq (ws' := XO d x a b c e (qf q ss) ++ (SK d a S ++ (SK d b T ++ (PK d c h t ++ (HP d e p1 S2_ ++ PL d q ss 2))))) rfl ?_
    refine g_perm (ws' := (SK d a S) ++ (XO d x a b c e (qf q ss) ++ (SK d b T ++ (PK d c h t ++ (HP d e p1 S2_ ++ PL d q ss 2))))) px1 ?_
    refine g_callViD E (wr := XO d x a b c e (qf q ss) ++ (SK d b T ++ (PK d c h t ++ (HP d e p1 S2_ ++ PL d q ss 2)))) gc_X3_release ml_X4_77 (t_X3_release d a button S ) rfl rfl (ci := 3) 4 rfl rfl rfl rfl (ok_le rfl) ⟨ok_le rfl, ok_le rfl, ok_le rfl, ok_le rfl⟩ rfl rfl dX4_letUp_31 ?_
    refine g_perm (ws' := XO d x a b c e (qf q ss) ++ (SK d a (c_X3_release button S) ++ (SK d b T ++ (PK d c h t ++ (HP d e p1 S2_ ++ PL d q ss 2))))) px1.symm ?_
    refine g_eq (ws' := XW d (x, a, b, c, e) p1 q (c_X3_release button S) T h t S2_ ss) rfl ?_
    obtain ⟨S3_, hS3_⟩ : ∃ z, c_X3_release button S = z := ⟨_, rfl⟩
    rw [hS3_]
    refine g_nm (fun v4_ hv4_ => ?_)
    subst hv4_
    subst hS3_
    subst hS2_
    subst hv1_
    exact RET 34 _ (r_X3_release button S) _ dX4_letUp_34 rfl (by rw [r_X4_letUp, if_pos c_10]) ⟨p1, (by rw [c_X4_letUp_1, if_pos c_10, c_X4_letUp_y, if_pos c_10])⟩
  · skip
    refine g_iload_n E 0 dX4_letUp_13 rfl rfl ?_
    subst hv1_
    refine g_widen (k1 := R_X4_letUp.cells) (n1 := R_X4_letUp.slots) (ok_le rfl) (ok_le rfl) ?_
    exact RET 14 _ (r_X3_refusalOfLetUp button S) _ dX4_letUp_14 rfl (by rw [r_X4_letUp, if_neg c_10]) ⟨p, (by rw [c_X4_letUp_1, if_neg c_10, c_X4_letUp_y, if_neg c_10])⟩
set_option maxHeartbeats 1000000 in
set_option maxRecDepth 100000 in
theorem t_X4_letUp (d : gD) (x : Nat → Nat) (a : Nat → Nat) (b : Nat → Nat) (c : Nat → Nat) (e : Nat → Nat) (button : Int32) (p : Nat → Nat → Nat) (q : Nat → Nat → Nat) (S : SS) (T : SS) (h : Nat → Int32) (t : Nat → Int32) (y : HS) (ss : Nat → Option SS) (hy : y.1 < 6 ∧ y.2.1 ≤ 6) : gMi d yX4_letUp cX4_letUp 3 (some .int) R_X4_letUp [.ref (x 0), .int button] (XW d (x, a, b, c, e) p q S T h t y ss) (fun r_ u_ => r_ = r_X4_letUp button S y ∧ (∃ p_ : Nat → Nat → Nat, u_ = XW d (x, a, b, c, e) p_ q (c_X4_letUp_1 button S y) T h t (c_X4_letUp_y button S y) ss)) :=
  g_met_i RX4 rfl (by decide +kernel) (Nat.le_of_ble_eq_true rfl) [(0, .ref (x 0)), (1, .int button)] rfl (fun X E RET => s_X4_letUp_0 d x a b c e button p q S T h t y ss hy E (fun pc_ lv_ v_ u_ h1_ h2_ h3_ h4_ => RET pc_ lv_ v_ u_ h1_ h2_ ⟨h3_, h4_⟩))
abbrev R_X4_reset : Room := { frames := 4, cells := 6, slots := 57, locals := 86 }
def r_X4_reset (S : SS) (y : HS) : Int32 := (r_X3_toMiddle S)
def c_X4_reset_1 (S : SS) (y : HS) : SS := (c_X3_toMiddle S)
def c_X4_reset_y (S : SS) (y : HS) : HS := (c_X1_keep_y y S)
set_option maxHeartbeats 1000000 in
set_option maxRecDepth 100000 in
theorem s_X4_reset_0 (d : gD) (x : Nat → Nat) (a : Nat → Nat) (b : Nat → Nat) (c : Nat → Nat) (e : Nat → Nat) (p : Nat → Nat → Nat) (q : Nat → Nat → Nat) (S : SS) (T : SS) (h : Nat → Int32) (t : Nat → Int32) (y : HS) (ss : Nat → Option SS) (hy : y.1 < 6 ∧ y.2.1 ≤ 6)  {X : gX} (E : gE d X RX4 cX4_reset 1 R_X4_reset) (RET : ∀ (pc_ : Nat) (lv_ : List (Nat × Value)) (v_ : Int32) (u_ : va_W), decode cX4_reset pc_ = .ok (.ireturn, 1) → narrow .int (.int v_) = .int v_ → v_ = r_X4_reset S y → (∃ p_ : Nat → Nat → Nat, u_ = XW d (x, a, b, c, e) p_ q (c_X4_reset_1 S y) T h t (c_X4_reset_y S y) ss) → G d X u_ R_X4_reset.cells R_X4_reset.slots pc_ lv_ [.int v_]) : G d X (XW d (x, a, b, c, e) p q S T h t y ss) 0 0 0 [(0, .ref (x 0))] [] := by
  refine g_aload_n E 0 dX4_reset_0 rfl rfl ?_
  refine g_get E (ci := 4) inlX4 0 rfl rfl 3 (by decide) fl_X4_29 rfl (.ref (e 0)) rfl dX4_reset_1 ?_
  refine g_aload_n E 0 dX4_reset_4 rfl rfl ?_
  refine g_get E (ci := 4) inlX4 0 rfl rfl 0 (by decide) fl_X4_10 rfl (.ref (a 0)) rfl dX4_reset_5 ?_
  refine g_eq (ws' := XO d x a b c e (qf q ss) ++ (SK d a S ++ (SK d b T ++ (PK d c h t ++ (HP d e p y ++ PL d q ss 2))))) rfl ?_
  refine g_perm (ws' := (HP d e p y ++ SK d a S) ++ (XO d x a b c e (qf q ss) ++ (SK d b T ++ (PK d c h t ++ PL d q ss 2)))) px41 ?_
  refine g_callVv E (wr := XO d x a b c e (qf q ss) ++ (SK d b T ++ (PK d c h t ++ PL d q ss 2))) gc_X1_keep ml_X4_44 (t2_X1_keep d e a p y S hy.1 hy.2) rfl rfl (ci := 1) 0 rfl rfl rfl rfl (ok_le rfl) ⟨ok_le rfl, ok_le rfl, ok_le rfl, ok_le rfl⟩ rfl rfl dX4_reset_8 ?_
  rintro u_ ⟨p1, rfl⟩
  refine g_perm (ws' := XO d x a b c e (qf q ss) ++ (SK d a S ++ (SK d b T ++ (PK d c h t ++ (HP d e p1 (c_X1_keep_y y S) ++ PL d q ss 2))))) px41.symm ?_
  refine g_eq (ws' := XW d (x, a, b, c, e) p1 q S T h t (c_X1_keep_y y S) ss) rfl ?_
  obtain ⟨S1_, hS1_⟩ : ∃ z, c_X1_keep_y y S = z := ⟨_, rfl⟩
  rw [hS1_]
  refine g_aload_n E 0 dX4_reset_11 rfl rfl ?_
  refine g_get E (ci := 4) inlX4 0 rfl rfl 0 (by decide) fl_X4_10 rfl (.ref (a 0)) rfl dX4_reset_12 ?_
  refine g_eq (ws' := XO d x a b c e (qf q ss) ++ (SK d a S ++ (SK d b T ++ (PK d c h t ++ (HP d e p1 S1_ ++ PL d q ss 2))))) rfl ?_
  refine g_perm (ws' := (SK d a S) ++ (XO d x a b c e (qf q ss) ++ (SK d b T ++ (PK d c h t ++ (HP d e p1 S1_ ++ PL d q ss 2))))) px1 ?_
  refine g_callViD E (wr := XO d x a b c e (qf q ss) ++ (SK d b T ++ (PK d c h t ++ (HP d e p1 S1_ ++ PL d q ss 2)))) gc_X3_toMiddle ml_X4_80 (t_X3_toMiddle d a S ) rfl rfl (ci := 3) 4 rfl rfl rfl rfl (ok_le rfl) ⟨ok_le rfl, ok_le rfl, ok_le rfl, ok_le rfl⟩ rfl rfl dX4_reset_15 ?_
  refine g_perm (ws' := XO d x a b c e (qf q ss) ++ (SK d a (c_X3_toMiddle S) ++ (SK d b T ++ (PK d c h t ++ (HP d e p1 S1_ ++ PL d q ss 2))))) px1.symm ?_
  refine g_eq (ws' := XW d (x, a, b, c, e) p1 q (c_X3_toMiddle S) T h t S1_ ss) rfl ?_
  obtain ⟨S2_, hS2_⟩ : ∃ z, c_X3_toMiddle S = z := ⟨_, rfl⟩
  rw [hS2_]
  refine g_nm (fun v3_ hv3_ => ?_)
  subst hv3_
  subst hS2_
  subst hS1_
  exact RET 18 _ (r_X3_toMiddle S) _ dX4_reset_18 rfl (by rw [r_X4_reset]) ⟨p1, (by rw [c_X4_reset_1, c_X4_reset_y])⟩
set_option maxHeartbeats 1000000 in
set_option maxRecDepth 100000 in
theorem t_X4_reset (d : gD) (x : Nat → Nat) (a : Nat → Nat) (b : Nat → Nat) (c : Nat → Nat) (e : Nat → Nat) (p : Nat → Nat → Nat) (q : Nat → Nat → Nat) (S : SS) (T : SS) (h : Nat → Int32) (t : Nat → Int32) (y : HS) (ss : Nat → Option SS) (hy : y.1 < 6 ∧ y.2.1 ≤ 6) : gMi d yX4_reset cX4_reset 1 (some .int) R_X4_reset [.ref (x 0)] (XW d (x, a, b, c, e) p q S T h t y ss) (fun r_ u_ => r_ = r_X4_reset S y ∧ (∃ p_ : Nat → Nat → Nat, u_ = XW d (x, a, b, c, e) p_ q (c_X4_reset_1 S y) T h t (c_X4_reset_y S y) ss)) :=
  g_met_i RX4 rfl (by decide +kernel) (Nat.le_of_ble_eq_true rfl) [(0, .ref (x 0))] rfl (fun X E RET => s_X4_reset_0 d x a b c e p q S T h t y ss hy E (fun pc_ lv_ v_ u_ h1_ h2_ h3_ h4_ => RET pc_ lv_ v_ u_ h1_ h2_ ⟨h3_, h4_⟩))
abbrev R_X4_of : Room := { frames := 2, cells := 0, slots := 0, locals := 45 }
def r_X4_of (axis : Int32) (what : Int32) (S : SS) : Int32 := if axis = 0 then (if axis = 0 then (r_X3_aboutX what S) else (r_X3_aboutY what S)) else (if axis = 1 then (if axis = 0 then (r_X3_aboutX what S) else (r_X3_aboutY what S)) else (-1))
set_option maxHeartbeats 1000000 in
set_option maxRecDepth 100000 in
theorem s_X4_of_0 (d : gD) (x : Nat → Nat) (a : Nat → Nat) (b : Nat → Nat) (c : Nat → Nat) (e : Nat → Nat) (axis : Int32) (what : Int32) (p : Nat → Nat → Nat) (q : Nat → Nat → Nat) (S : SS) (T : SS) (h : Nat → Int32) (t : Nat → Int32) (y : HS) (ss : Nat → Option SS)   {X : gX} (E : gE d X RX4 cX4_of 3 R_X4_of) (RET : ∀ (pc_ : Nat) (lv_ : List (Nat × Value)) (v_ : Int32) (u_ : va_W), decode cX4_of pc_ = .ok (.ireturn, 1) → narrow .int (.int v_) = .int v_ → v_ = r_X4_of axis what S → u_ = XW d (x, a, b, c, e) p q S T h t y ss → G d X u_ R_X4_of.cells R_X4_of.slots pc_ lv_ [.int v_]) : G d X (XW d (x, a, b, c, e) p q S T h t y ss) 0 0 0 [(0, .ref (x 0)), (1, .int axis), (2, .int what)] [] := by
  refine g_iload_n E 1 dX4_of_0 rfl rfl ?_
  refine g_ifeq E 11 dX4_of_1 (by decide) (fun c_1 => ?_) (fun c_1 => ?_)
  · skip
    refine g_iload_n E 1 dX4_of_11 rfl rfl ?_
    refine g_ifne E 26 dX4_of_12 (by decide) (fun c_12 => ?_) (fun c_12 => ?_)
    · skip
      refine g_aload_n E 0 dX4_of_26 rfl rfl ?_
      refine g_get E (ci := 4) inlX4 0 rfl rfl 0 (by decide) fl_X4_10 rfl (.ref (a 0)) rfl dX4_of_27 ?_
      refine g_iload_n E 2 dX4_of_30 rfl rfl ?_
      refine g_eq (ws' := XO d x a b c e (qf q ss) ++ (SK d a S ++ (SK d b T ++ (PK d c h t ++ (HP d e p y ++ PL d q ss 2))))) rfl ?_
      refine g_perm (ws' := (SK d a S) ++ (XO d x a b c e (qf q ss) ++ (SK d b T ++ (PK d c h t ++ (HP d e p y ++ PL d q ss 2))))) px1 ?_
      refine g_callViD E (wr := XO d x a b c e (qf q ss) ++ (SK d b T ++ (PK d c h t ++ (HP d e p y ++ PL d q ss 2)))) gc_X3_aboutY ml_X4_86 (t_X3_aboutY d a what S ) rfl rfl (ci := 3) 4 rfl rfl rfl rfl (ok_le rfl) ⟨ok_le rfl, ok_le rfl, ok_le rfl, ok_le rfl⟩ rfl rfl dX4_of_31 ?_
      refine g_perm (ws' := XO d x a b c e (qf q ss) ++ (SK d a S ++ (SK d b T ++ (PK d c h t ++ (HP d e p y ++ PL d q ss 2))))) px1.symm ?_
      refine g_eq (ws' := XW d (x, a, b, c, e) p q S T h t y ss) rfl ?_
      refine g_nm (fun v1_ hv1_ => ?_)
      subst hv1_
      exact RET 34 _ (r_X3_aboutY what S) _ dX4_of_34 rfl (by rw [r_X4_of, if_pos c_1, if_neg c_12]) rfl
    · skip
      refine g_aload_n E 0 dX4_of_15 rfl rfl ?_
      refine g_get E (ci := 4) inlX4 0 rfl rfl 0 (by decide) fl_X4_10 rfl (.ref (a 0)) rfl dX4_of_16 ?_
      refine g_iload_n E 2 dX4_of_19 rfl rfl ?_
      refine g_eq (ws' := XO d x a b c e (qf q ss) ++ (SK d a S ++ (SK d b T ++ (PK d c h t ++ (HP d e p y ++ PL d q ss 2))))) rfl ?_
      refine g_perm (ws' := (SK d a S) ++ (XO d x a b c e (qf q ss) ++ (SK d b T ++ (PK d c h t ++ (HP d e p y ++ PL d q ss 2))))) px1 ?_
      refine g_callViD E (wr := XO d x a b c e (qf q ss) ++ (SK d b T ++ (PK d c h t ++ (HP d e p y ++ PL d q ss 2)))) gc_X3_aboutX ml_X4_83 (t_X3_aboutX d a what S ) rfl rfl (ci := 3) 4 rfl rfl rfl rfl (ok_le rfl) ⟨ok_le rfl, ok_le rfl, ok_le rfl, ok_le rfl⟩ rfl rfl dX4_of_20 ?_
      refine g_perm (ws' := XO d x a b c e (qf q ss) ++ (SK d a S ++ (SK d b T ++ (PK d c h t ++ (HP d e p y ++ PL d q ss 2))))) px1.symm ?_
      refine g_eq (ws' := XW d (x, a, b, c, e) p q S T h t y ss) rfl ?_
      refine g_nm (fun v2_ hv2_ => ?_)
      refine g_goto E 34 dX4_of_23 (by decide) ?_
      subst hv2_
      exact RET 34 _ (r_X3_aboutX what S) _ dX4_of_34 rfl (by rw [r_X4_of, if_pos c_1, if_pos c_12]) rfl
  · skip
    refine g_iload_n E 1 dX4_of_4 rfl rfl ?_
    refine g_iconst E 1 dX4_of_5 (by decide) ?_
    refine g_icmpeq E 11 dX4_of_6 (by decide) (fun c_6 => ?_) (fun c_6 => ?_)
    · skip
      refine g_iload_n E 1 dX4_of_11 rfl rfl ?_
      refine g_ifne E 26 dX4_of_12 (by decide) (fun c_12 => ?_) (fun c_12 => ?_)
      · skip
        refine g_aload_n E 0 dX4_of_26 rfl rfl ?_
        refine g_get E (ci := 4) inlX4 0 rfl rfl 0 (by decide) fl_X4_10 rfl (.ref (a 0)) rfl dX4_of_27 ?_
        refine g_iload_n E 2 dX4_of_30 rfl rfl ?_
        refine g_eq (ws' := XO d x a b c e (qf q ss) ++ (SK d a S ++ (SK d b T ++ (PK d c h t ++ (HP d e p y ++ PL d q ss 2))))) rfl ?_
        refine g_perm (ws' := (SK d a S) ++ (XO d x a b c e (qf q ss) ++ (SK d b T ++ (PK d c h t ++ (HP d e p y ++ PL d q ss 2))))) px1 ?_
        refine g_callViD E (wr := XO d x a b c e (qf q ss) ++ (SK d b T ++ (PK d c h t ++ (HP d e p y ++ PL d q ss 2)))) gc_X3_aboutY ml_X4_86 (t_X3_aboutY d a what S ) rfl rfl (ci := 3) 4 rfl rfl rfl rfl (ok_le rfl) ⟨ok_le rfl, ok_le rfl, ok_le rfl, ok_le rfl⟩ rfl rfl dX4_of_31 ?_
        refine g_perm (ws' := XO d x a b c e (qf q ss) ++ (SK d a S ++ (SK d b T ++ (PK d c h t ++ (HP d e p y ++ PL d q ss 2))))) px1.symm ?_
        refine g_eq (ws' := XW d (x, a, b, c, e) p q S T h t y ss) rfl ?_
        refine g_nm (fun v3_ hv3_ => ?_)
        subst hv3_
        exact RET 34 _ (r_X3_aboutY what S) _ dX4_of_34 rfl (by rw [r_X4_of, if_neg c_1, if_pos c_6, if_neg c_12]) rfl
      · skip
        refine g_aload_n E 0 dX4_of_15 rfl rfl ?_
        refine g_get E (ci := 4) inlX4 0 rfl rfl 0 (by decide) fl_X4_10 rfl (.ref (a 0)) rfl dX4_of_16 ?_
        refine g_iload_n E 2 dX4_of_19 rfl rfl ?_
        refine g_eq (ws' := XO d x a b c e (qf q ss) ++ (SK d a S ++ (SK d b T ++ (PK d c h t ++ (HP d e p y ++ PL d q ss 2))))) rfl ?_
        refine g_perm (ws' := (SK d a S) ++ (XO d x a b c e (qf q ss) ++ (SK d b T ++ (PK d c h t ++ (HP d e p y ++ PL d q ss 2))))) px1 ?_
        refine g_callViD E (wr := XO d x a b c e (qf q ss) ++ (SK d b T ++ (PK d c h t ++ (HP d e p y ++ PL d q ss 2)))) gc_X3_aboutX ml_X4_83 (t_X3_aboutX d a what S ) rfl rfl (ci := 3) 4 rfl rfl rfl rfl (ok_le rfl) ⟨ok_le rfl, ok_le rfl, ok_le rfl, ok_le rfl⟩ rfl rfl dX4_of_20 ?_
        refine g_perm (ws' := XO d x a b c e (qf q ss) ++ (SK d a S ++ (SK d b T ++ (PK d c h t ++ (HP d e p y ++ PL d q ss 2))))) px1.symm ?_
        refine g_eq (ws' := XW d (x, a, b, c, e) p q S T h t y ss) rfl ?_
        refine g_nm (fun v4_ hv4_ => ?_)
        refine g_goto E 34 dX4_of_23 (by decide) ?_
        subst hv4_
        exact RET 34 _ (r_X3_aboutX what S) _ dX4_of_34 rfl (by rw [r_X4_of, if_neg c_1, if_pos c_6, if_pos c_12]) rfl
    · skip
      refine g_iconst E (-1) dX4_of_9 (by decide) ?_
      exact RET 10 _ (-1) _ dX4_of_10 rfl (by rw [r_X4_of, if_neg c_1, if_neg c_6]) rfl
set_option maxHeartbeats 1000000 in
set_option maxRecDepth 100000 in
theorem t_X4_of (d : gD) (x : Nat → Nat) (a : Nat → Nat) (b : Nat → Nat) (c : Nat → Nat) (e : Nat → Nat) (axis : Int32) (what : Int32) (p : Nat → Nat → Nat) (q : Nat → Nat → Nat) (S : SS) (T : SS) (h : Nat → Int32) (t : Nat → Int32) (y : HS) (ss : Nat → Option SS)  : gMi d yX4_of cX4_of 3 (some .int) R_X4_of [.ref (x 0), .int axis, .int what] (XW d (x, a, b, c, e) p q S T h t y ss) (fun r_ u_ => r_ = r_X4_of axis what S ∧ u_ = XW d (x, a, b, c, e) p q S T h t y ss) :=
  g_met_i RX4 rfl (by decide +kernel) (Nat.le_of_ble_eq_true rfl) [(0, .ref (x 0)), (1, .int axis), (2, .int what)] rfl (fun X E RET => s_X4_of_0 d x a b c e axis what p q S T h t y ss  E (fun pc_ lv_ v_ u_ h1_ h2_ h3_ h4_ => RET pc_ lv_ v_ u_ h1_ h2_ ⟨h3_, h4_⟩))
abbrev R_X4_direction : Room := { frames := 1, cells := 0, slots := 0, locals := 23 }
def r_X4_direction (rank : Int32) (what : Int32) (S : SS) : Int32 := (r_X0_about rank what S.2.2)
set_option maxHeartbeats 1000000 in
set_option maxRecDepth 100000 in
theorem s_X4_direction_0 (d : gD) (x : Nat → Nat) (a : Nat → Nat) (b : Nat → Nat) (c : Nat → Nat) (e : Nat → Nat) (rank : Int32) (what : Int32) (p : Nat → Nat → Nat) (q : Nat → Nat → Nat) (S : SS) (T : SS) (h : Nat → Int32) (t : Nat → Int32) (y : HS) (ss : Nat → Option SS)   {X : gX} (E : gE d X RX4 cX4_direction 3 R_X4_direction) (RET : ∀ (pc_ : Nat) (lv_ : List (Nat × Value)) (v_ : Int32) (u_ : va_W), decode cX4_direction pc_ = .ok (.ireturn, 1) → narrow .int (.int v_) = .int v_ → v_ = r_X4_direction rank what S → u_ = XW d (x, a, b, c, e) p q S T h t y ss → G d X u_ R_X4_direction.cells R_X4_direction.slots pc_ lv_ [.int v_]) : G d X (XW d (x, a, b, c, e) p q S T h t y ss) 0 0 0 [(0, .ref (x 0)), (1, .int rank), (2, .int what)] [] := by
  refine g_aload_n E 0 dX4_direction_0 rfl rfl ?_
  refine g_get E (ci := 4) inlX4 0 rfl rfl 0 (by decide) fl_X4_10 rfl (.ref (a 0)) rfl dX4_direction_1 ?_
  refine g_getN E (ci := 3) inlX3 6 rfl rfl 1 (by decide) (List.mem_of_getElem? (i := 2) rfl) rfl (.ref (a 2)) rfl dX4_direction_4 ?_
  refine g_iload_n E 1 dX4_direction_7 rfl rfl ?_
  refine g_iload_n E 2 dX4_direction_8 rfl rfl ?_
  refine g_eq (ws' := XO d x a b c e (qf q ss) ++ (SK d a S ++ (SK d b T ++ (PK d c h t ++ (HP d e p y ++ PL d q ss 2))))) rfl ?_
  refine g_perm (ws' := (DK d a S.2.2) ++ (SO d a S.1 S.2.1 ++ (XO d x a b c e (qf q ss) ++ (SK d b T ++ (PK d c h t ++ (HP d e p y ++ PL d q ss 2)))))) pxD ?_
  refine g_callViD E (wr := SO d a S.1 S.2.1 ++ (XO d x a b c e (qf q ss) ++ (SK d b T ++ (PK d c h t ++ (HP d e p y ++ PL d q ss 2))))) gc_X0_about ml_X4_93 (t_X0_about d a rank what S.2.2 ) rfl rfl (ci := 0) 0 rfl rfl rfl rfl (ok_le rfl) ⟨ok_le rfl, ok_le rfl, ok_le rfl, ok_le rfl⟩ rfl rfl dX4_direction_9 ?_
  refine g_perm (ws' := XO d x a b c e (qf q ss) ++ (SK d a S ++ (SK d b T ++ (PK d c h t ++ (HP d e p y ++ PL d q ss 2))))) pxD.symm ?_
  refine g_eq (ws' := XW d (x, a, b, c, e) p q S T h t y ss) rfl ?_
  refine g_nm (fun v1_ hv1_ => ?_)
  subst hv1_
  exact RET 12 _ (r_X0_about rank what S.2.2) _ dX4_direction_12 rfl (by rw [r_X4_direction]) rfl
set_option maxHeartbeats 1000000 in
set_option maxRecDepth 100000 in
theorem t_X4_direction (d : gD) (x : Nat → Nat) (a : Nat → Nat) (b : Nat → Nat) (c : Nat → Nat) (e : Nat → Nat) (rank : Int32) (what : Int32) (p : Nat → Nat → Nat) (q : Nat → Nat → Nat) (S : SS) (T : SS) (h : Nat → Int32) (t : Nat → Int32) (y : HS) (ss : Nat → Option SS)  : gMi d yX4_direction cX4_direction 3 (some .int) R_X4_direction [.ref (x 0), .int rank, .int what] (XW d (x, a, b, c, e) p q S T h t y ss) (fun r_ u_ => r_ = r_X4_direction rank what S ∧ u_ = XW d (x, a, b, c, e) p q S T h t y ss) :=
  g_met_i RX4 rfl (by decide +kernel) (Nat.le_of_ble_eq_true rfl) [(0, .ref (x 0)), (1, .int rank), (2, .int what)] rfl (fun X E RET => s_X4_direction_0 d x a b c e rank what p q S T h t y ss  E (fun pc_ lv_ v_ u_ h1_ h2_ h3_ h4_ => RET pc_ lv_ v_ u_ h1_ h2_ ⟨h3_, h4_⟩))
abbrev R_X4_count : Room := { frames := 1, cells := 0, slots := 0, locals := 21 }
def r_X4_count (what : Int32) (S : SS) (h : Nat → Int32) (y : HS) : Int32 := if what = 17 then (h 0) else (if what = 18 then (nI y.2.1) else (r_X3_number what S))
set_option maxHeartbeats 1000000 in
set_option maxRecDepth 100000 in
theorem s_X4_count_0 (d : gD) (x : Nat → Nat) (a : Nat → Nat) (b : Nat → Nat) (c : Nat → Nat) (e : Nat → Nat) (what : Int32) (p : Nat → Nat → Nat) (q : Nat → Nat → Nat) (S : SS) (T : SS) (h : Nat → Int32) (t : Nat → Int32) (y : HS) (ss : Nat → Option SS)   {X : gX} (E : gE d X RX4 cX4_count 2 R_X4_count) (RET : ∀ (pc_ : Nat) (lv_ : List (Nat × Value)) (v_ : Int32) (u_ : va_W), decode cX4_count pc_ = .ok (.ireturn, 1) → narrow .int (.int v_) = .int v_ → v_ = r_X4_count what S h y → u_ = XW d (x, a, b, c, e) p q S T h t y ss → G d X u_ R_X4_count.cells R_X4_count.slots pc_ lv_ [.int v_]) : G d X (XW d (x, a, b, c, e) p q S T h t y ss) 0 0 0 [(0, .ref (x 0)), (1, .int what)] [] := by
  refine g_iload_n E 1 dX4_count_0 rfl rfl ?_
  by_cases w_1_17 : what = 17
  · skip
    refine g_lookup E (off := 27) 28 dX4_count_1 (by decide) (by rw [w_1_17] <;> rfl) (by decide) ?_
    refine g_aload_n E 0 dX4_count_28 rfl rfl ?_
    refine g_get E (ci := 4) inlX4 0 rfl rfl 2 (by decide) fl_X4_22 rfl (.ref (c 0)) rfl dX4_count_29 ?_
    refine g_getN E (ci := 2) inlX2 14 rfl rfl 1 (by decide) (List.mem_of_getElem? (i := 4) rfl) rfl (.int (h 0)) rfl dX4_count_32 ?_
    exact RET 35 _ (h 0) _ dX4_count_35 rfl (by rw [r_X4_count, if_pos w_1_17]) rfl
  · skip
    by_cases w_1_18 : what = 18
    · skip
      refine g_lookup E (off := 35) 36 dX4_count_1 (by decide) (by rw [w_1_18] <;> rfl) (by decide) ?_
      refine g_aload_n E 0 dX4_count_36 rfl rfl ?_
      refine g_get E (ci := 4) inlX4 0 rfl rfl 3 (by decide) fl_X4_29 rfl (.ref (e 0)) rfl dX4_count_37 ?_
      refine g_getN E (ci := 1) inlX1 16 rfl rfl 2 (by decide) (List.mem_of_getElem? (i := 5) rfl) rfl (.int (nI y.2.1)) rfl dX4_count_40 ?_
      exact RET 43 _ (nI y.2.1) _ dX4_count_43 rfl (by rw [r_X4_count, if_neg w_1_17, if_pos w_1_18]) rfl
    · skip
      refine g_lookup E (off := 43) 44 dX4_count_1 (by decide) (by show (if (17 : Int) = Int32.toInt what then (27 : Int) else (if (18 : Int) = Int32.toInt what then (35 : Int) else (43))) = 43; rw [if_neg (Ne.symm (lv_neT (x := what) (k := 17) (a := 17) w_1_17 (by decide))), if_neg (Ne.symm (lv_neT (x := what) (k := 18) (a := 18) w_1_18 (by decide)))]) (by decide) ?_
      refine g_aload_n E 0 dX4_count_44 rfl rfl ?_
      refine g_get E (ci := 4) inlX4 0 rfl rfl 0 (by decide) fl_X4_10 rfl (.ref (a 0)) rfl dX4_count_45 ?_
      refine g_iload_n E 1 dX4_count_48 rfl rfl ?_
      refine g_eq (ws' := XO d x a b c e (qf q ss) ++ (SK d a S ++ (SK d b T ++ (PK d c h t ++ (HP d e p y ++ PL d q ss 2))))) rfl ?_
      refine g_perm (ws' := (SK d a S) ++ (XO d x a b c e (qf q ss) ++ (SK d b T ++ (PK d c h t ++ (HP d e p y ++ PL d q ss 2))))) px1 ?_
      refine g_callViD E (wr := XO d x a b c e (qf q ss) ++ (SK d b T ++ (PK d c h t ++ (HP d e p y ++ PL d q ss 2)))) gc_X3_number ml_X4_105 (t_X3_number d a what S ) rfl rfl (ci := 3) 4 rfl rfl rfl rfl (ok_le rfl) ⟨ok_le rfl, ok_le rfl, ok_le rfl, ok_le rfl⟩ rfl rfl dX4_count_49 ?_
      refine g_perm (ws' := XO d x a b c e (qf q ss) ++ (SK d a S ++ (SK d b T ++ (PK d c h t ++ (HP d e p y ++ PL d q ss 2))))) px1.symm ?_
      refine g_eq (ws' := XW d (x, a, b, c, e) p q S T h t y ss) rfl ?_
      refine g_nm (fun v1_ hv1_ => ?_)
      subst hv1_
      exact RET 52 _ (r_X3_number what S) _ dX4_count_52 rfl (by rw [r_X4_count, if_neg w_1_17, if_neg w_1_18]) rfl
set_option maxHeartbeats 1000000 in
set_option maxRecDepth 100000 in
theorem t_X4_count (d : gD) (x : Nat → Nat) (a : Nat → Nat) (b : Nat → Nat) (c : Nat → Nat) (e : Nat → Nat) (what : Int32) (p : Nat → Nat → Nat) (q : Nat → Nat → Nat) (S : SS) (T : SS) (h : Nat → Int32) (t : Nat → Int32) (y : HS) (ss : Nat → Option SS)  : gMi d yX4_count cX4_count 2 (some .int) R_X4_count [.ref (x 0), .int what] (XW d (x, a, b, c, e) p q S T h t y ss) (fun r_ u_ => r_ = r_X4_count what S h y ∧ u_ = XW d (x, a, b, c, e) p q S T h t y ss) :=
  g_met_i RX4 rfl (by decide +kernel) (Nat.le_of_ble_eq_true rfl) [(0, .ref (x 0)), (1, .int what)] rfl (fun X E RET => s_X4_count_0 d x a b c e what p q S T h t y ss  E (fun pc_ lv_ v_ u_ h1_ h2_ h3_ h4_ => RET pc_ lv_ v_ u_ h1_ h2_ ⟨h3_, h4_⟩))
abbrev R_X4_wouldTell : Room := { frames := 4, cells := 0, slots := 0, locals := 91 }
def r_X4_wouldTell (x1 : Int32) (y1 : Int32) (S : SS) : Int32 := if (r_X4_isSample x1 y1) = 0 then (-2) else (r_X3_tellingAt x1 y1 S)
set_option maxHeartbeats 1000000 in
set_option maxRecDepth 100000 in
theorem s_X4_wouldTell_0 (d : gD) (x : Nat → Nat) (a : Nat → Nat) (b : Nat → Nat) (c : Nat → Nat) (e : Nat → Nat) (x1 : Int32) (y1 : Int32) (p : Nat → Nat → Nat) (q : Nat → Nat → Nat) (S : SS) (T : SS) (h : Nat → Int32) (t : Nat → Int32) (y : HS) (ss : Nat → Option SS)   {X : gX} (E : gE d X RX4 cX4_wouldTell 3 R_X4_wouldTell) (RET : ∀ (pc_ : Nat) (lv_ : List (Nat × Value)) (v_ : Int32) (u_ : va_W), decode cX4_wouldTell pc_ = .ok (.ireturn, 1) → narrow .int (.int v_) = .int v_ → v_ = r_X4_wouldTell x1 y1 S → u_ = XW d (x, a, b, c, e) p q S T h t y ss → G d X u_ R_X4_wouldTell.cells R_X4_wouldTell.slots pc_ lv_ [.int v_]) : G d X (XW d (x, a, b, c, e) p q S T h t y ss) 0 0 0 [(0, .ref (x 0)), (1, .int x1), (2, .int y1)] [] := by
  refine g_iload_n E 1 dX4_wouldTell_0 rfl rfl ?_
  refine g_iload_n E 2 dX4_wouldTell_1 rfl rfl ?_
  refine g_callSp E gc_X4_isSample ml_X4_108 (t_X4_isSample d x1 y1 ) rfl rfl rfl (ok_le rfl) ⟨ok_le rfl, ok_le rfl, ok_le rfl, ok_le rfl⟩ rfl rfl dX4_wouldTell_2 ?_
  refine g_nm (fun v1_ hv1_ => ?_)
  refine g_ifeq E 20 dX4_wouldTell_5 (by decide) (fun c_5 => ?_) (fun c_5 => ?_)
  · skip
    refine g_bipush E (-2) dX4_wouldTell_20 (by decide) ?_
    subst hv1_
    exact RET 22 _ (-2) _ dX4_wouldTell_22 rfl (by rw [r_X4_wouldTell, if_pos c_5]) rfl
  · skip
    refine g_aload_n E 0 dX4_wouldTell_8 rfl rfl ?_
    refine g_get E (ci := 4) inlX4 0 rfl rfl 0 (by decide) fl_X4_10 rfl (.ref (a 0)) rfl dX4_wouldTell_9 ?_
    refine g_iload_n E 1 dX4_wouldTell_12 rfl rfl ?_
    refine g_iload_n E 2 dX4_wouldTell_13 rfl rfl ?_
    refine g_eq (ws' := XO d x a b c e (qf q ss) ++ (SK d a S ++ (SK d b T ++ (PK d c h t ++ (HP d e p y ++ PL d q ss 2))))) rfl ?_
    refine g_perm (ws' := (SK d a S) ++ (XO d x a b c e (qf q ss) ++ (SK d b T ++ (PK d c h t ++ (HP d e p y ++ PL d q ss 2))))) px1 ?_
    refine g_callViD E (wr := XO d x a b c e (qf q ss) ++ (SK d b T ++ (PK d c h t ++ (HP d e p y ++ PL d q ss 2)))) gc_X3_tellingAt ml_X4_112 (t_X3_tellingAt d a x1 y1 S ) rfl rfl (ci := 3) 4 rfl rfl rfl rfl (ok_le rfl) ⟨ok_le rfl, ok_le rfl, ok_le rfl, ok_le rfl⟩ rfl rfl dX4_wouldTell_14 ?_
    refine g_perm (ws' := XO d x a b c e (qf q ss) ++ (SK d a S ++ (SK d b T ++ (PK d c h t ++ (HP d e p y ++ PL d q ss 2))))) px1.symm ?_
    refine g_eq (ws' := XW d (x, a, b, c, e) p q S T h t y ss) rfl ?_
    refine g_nm (fun v2_ hv2_ => ?_)
    refine g_goto E 22 dX4_wouldTell_17 (by decide) ?_
    subst hv2_
    subst hv1_
    exact RET 22 _ (r_X3_tellingAt x1 y1 S) _ dX4_wouldTell_22 rfl (by rw [r_X4_wouldTell, if_neg c_5]) rfl
set_option maxHeartbeats 1000000 in
set_option maxRecDepth 100000 in
theorem t_X4_wouldTell (d : gD) (x : Nat → Nat) (a : Nat → Nat) (b : Nat → Nat) (c : Nat → Nat) (e : Nat → Nat) (x1 : Int32) (y1 : Int32) (p : Nat → Nat → Nat) (q : Nat → Nat → Nat) (S : SS) (T : SS) (h : Nat → Int32) (t : Nat → Int32) (y : HS) (ss : Nat → Option SS)  : gMi d yX4_wouldTell cX4_wouldTell 3 (some .int) R_X4_wouldTell [.ref (x 0), .int x1, .int y1] (XW d (x, a, b, c, e) p q S T h t y ss) (fun r_ u_ => r_ = r_X4_wouldTell x1 y1 S ∧ u_ = XW d (x, a, b, c, e) p q S T h t y ss) :=
  g_met_i RX4 rfl (by decide +kernel) (Nat.le_of_ble_eq_true rfl) [(0, .ref (x 0)), (1, .int x1), (2, .int y1)] rfl (fun X E RET => s_X4_wouldTell_0 d x a b c e x1 y1 p q S T h t y ss  E (fun pc_ lv_ v_ u_ h1_ h2_ h3_ h4_ => RET pc_ lv_ v_ u_ h1_ h2_ ⟨h3_, h4_⟩))
abbrev R_X4_learnedIn : Room := { frames := 5, cells := 0, slots := 0, locals := 116 }
def r_X4_learnedIn_at24 (x1 : Int32) (y1 : Int32) (S : SS) (T : SS) : Nat → (Nat) → (SS) → Int32
  | 0, _, _ => 0
  | n + 1, k, T1 => if 500 < (nI k) then (-6) else (if (r_X3_isOffByNothing x1 y1 T1) = 0 then (r_X4_learnedIn_at24 x1 y1 S T n (k + 1) (c_X3_take x1 y1 T1)) else (nI k))
def c_X4_learnedIn_2_at24 (x1 : Int32) (y1 : Int32) (S : SS) (T : SS) : Nat → (Nat) → (SS) → SS
  | 0, _, T1 => T1
  | n + 1, k, T1 => if 500 < (nI k) then T1 else (if (r_X3_isOffByNothing x1 y1 T1) = 0 then (c_X4_learnedIn_2_at24 x1 y1 S T n (k + 1) (c_X3_take x1 y1 T1)) else T1)
def r_X4_learnedIn (x1 : Int32) (y1 : Int32) (S : SS) (T : SS) : Int32 := if (r_X4_isSample x1 y1) = 0 then (-2) else (r_X4_learnedIn_at24 x1 y1 S T 502 0 S)
def c_X4_learnedIn_2 (x1 : Int32) (y1 : Int32) (S : SS) (T : SS) : SS := if (r_X4_isSample x1 y1) = 0 then T else (c_X4_learnedIn_2_at24 x1 y1 S T 502 0 S)
set_option maxHeartbeats 1000000 in
set_option maxRecDepth 100000 in
theorem s_X4_learnedIn_24 (d : gD) (x : Nat → Nat) (a : Nat → Nat) (b : Nat → Nat) (c : Nat → Nat) (e : Nat → Nat) (x1 : Int32) (y1 : Int32) (p : Nat → Nat → Nat) (q : Nat → Nat → Nat) (S : SS) (T : SS) (h : Nat → Int32) (t : Nat → Int32) (y : HS) (ss : Nat → Option SS) (hu : ¬ S.2.2.1 0 < 0) {X : gX} (E : gE d X RX4 cX4_learnedIn 4 R_X4_learnedIn) : ∀ (n : Nat) (k : Nat) (T1 : SS) (hk : k ≤ 501) (hu1 : ¬ T1.2.2.1 0 < 0) (hm : 501 - k < n) (RET : ∀ (pc_ : Nat) (lv_ : List (Nat × Value)) (v_ : Int32) (u_ : va_W), decode cX4_learnedIn pc_ = .ok (.ireturn, 1) → narrow .int (.int v_) = .int v_ → v_ = r_X4_learnedIn_at24 x1 y1 S T n k T1 → u_ = XW d (x, a, b, c, e) p q S (c_X4_learnedIn_2_at24 x1 y1 S T n k T1) h t y ss → G d X u_ R_X4_learnedIn.cells R_X4_learnedIn.slots pc_ lv_ [.int v_]), G d X (XW d (x, a, b, c, e) p q S T1 h t y ss) 0 0 24 [(0, .ref (x 0)), (1, .int x1), (2, .int y1), (3, .int (nI k))] [] := by
  intro n
  induction n with
  | zero => intro k T1 hk hu1 hm; omega
  | succ n ih =>
    intro k T1 hk hu1 hm RET
    refine g_iload_n E 3 dX4_learnedIn_24 rfl rfl ?_
    refine g_sipush E 500 dX4_learnedIn_25 (by decide) ?_
    refine g_icmpgt E 60 dX4_learnedIn_28 (by decide) (fun c_28 => ?_) (fun c_28 => ?_)
    · skip
      refine g_bipush E (-6) dX4_learnedIn_60 (by decide) ?_
      exact RET 62 _ (-6) _ dX4_learnedIn_62 rfl (by rw [r_X4_learnedIn_at24, if_pos c_28]) (by rw [c_X4_learnedIn_2_at24, if_pos c_28])
    · skip
      have k28 : ¬ 500 < k := fun q => c_28 ((nI_ltI (a := 500) (b := k) (by omega) (by omega)).mpr q)
      refine g_aload_n E 0 dX4_learnedIn_31 rfl rfl ?_
      refine g_get E (ci := 4) inlX4 0 rfl rfl 1 (by decide) fl_X4_16 rfl (.ref (b 0)) rfl dX4_learnedIn_32 ?_
      refine g_iload_n E 1 dX4_learnedIn_35 rfl rfl ?_
      refine g_iload_n E 2 dX4_learnedIn_36 rfl rfl ?_
      refine g_eq (ws' := XO d x a b c e (qf q ss) ++ (SK d a S ++ (SK d b T1 ++ (PK d c h t ++ (HP d e p y ++ PL d q ss 2))))) rfl ?_
      refine g_perm (ws' := (SK d b T1) ++ (XO d x a b c e (qf q ss) ++ (SK d a S ++ (PK d c h t ++ (HP d e p y ++ PL d q ss 2))))) px2 ?_
      refine g_callViD E (wr := XO d x a b c e (qf q ss) ++ (SK d a S ++ (PK d c h t ++ (HP d e p y ++ PL d q ss 2)))) gc_X3_isOffByNothing ml_X4_118 (t_X3_isOffByNothing d b x1 y1 T1 ) rfl rfl (ci := 3) 4 rfl rfl rfl rfl (ok_le rfl) ⟨ok_le rfl, ok_le rfl, ok_le rfl, ok_le rfl⟩ rfl rfl dX4_learnedIn_37 ?_
      refine g_perm (ws' := XO d x a b c e (qf q ss) ++ (SK d a S ++ (SK d b T1 ++ (PK d c h t ++ (HP d e p y ++ PL d q ss 2))))) px2.symm ?_
      refine g_eq (ws' := XW d (x, a, b, c, e) p q S T1 h t y ss) rfl ?_
      refine g_nm (fun v2_ hv2_ => ?_)
      refine g_ifeq E 45 dX4_learnedIn_40 (by decide) (fun c_40 => ?_) (fun c_40 => ?_)
      · skip
        refine g_aload_n E 0 dX4_learnedIn_45 rfl rfl ?_
        refine g_get E (ci := 4) inlX4 0 rfl rfl 1 (by decide) fl_X4_16 rfl (.ref (b 0)) rfl dX4_learnedIn_46 ?_
        refine g_iload_n E 1 dX4_learnedIn_49 rfl rfl ?_
        refine g_iload_n E 2 dX4_learnedIn_50 rfl rfl ?_
        refine g_eq (ws' := XO d x a b c e (qf q ss) ++ (SK d a S ++ (SK d b T1 ++ (PK d c h t ++ (HP d e p y ++ PL d q ss 2))))) rfl ?_
        refine g_perm (ws' := (SK d b T1) ++ (XO d x a b c e (qf q ss) ++ (SK d a S ++ (PK d c h t ++ (HP d e p y ++ PL d q ss 2))))) px2 ?_
        refine g_callVvD E (wr := XO d x a b c e (qf q ss) ++ (SK d a S ++ (PK d c h t ++ (HP d e p y ++ PL d q ss 2)))) gc_X3_take ml_X4_59 (t_X3_take d b x1 y1 T1 (by first | assumption | omega)) rfl rfl (ci := 3) 4 rfl rfl rfl rfl (ok_le rfl) ⟨ok_le rfl, ok_le rfl, ok_le rfl, ok_le rfl⟩ rfl rfl dX4_learnedIn_51 ?_
        refine g_perm (ws' := XO d x a b c e (qf q ss) ++ (SK d a S ++ (SK d b (c_X3_take x1 y1 T1) ++ (PK d c h t ++ (HP d e p y ++ PL d q ss 2))))) px2.symm ?_
        refine g_eq (ws' := XW d (x, a, b, c, e) p q S (c_X3_take x1 y1 T1) h t y ss) rfl ?_
        obtain ⟨S3_, hS3_⟩ : ∃ z, c_X3_take x1 y1 T1 = z := ⟨_, rfl⟩
        rw [hS3_]
        refine g_iinc E (j := 3) (v := (nI (k + 1))) (lv' := [(3, .int (nI (k + 1))), (0, .ref (x 0)), (1, .int x1), (2, .int y1)]) dX4_learnedIn_54 rfl (nI_1 _) (by decide) rfl ?_
        refine g_goto E 24 dX4_learnedIn_57 (by decide) ?_
        refine g_lvs (lv' := [(0, .ref (x 0)), (1, .int x1), (2, .int y1), (3, .int (nI (k + 1)))]) [1, 2, 3, 0] rfl ?_
        subst hS3_
        subst hv2_
        exact ih (k + 1) (c_X3_take x1 y1 T1) (by omega) (by subst_vars; with_reducible exact KU_take hu1) (by omega) (fun pc_ lv_ v_ u_ h1_ h2_ h3_ h4_ => RET pc_ lv_ v_ u_ h1_ h2_ (h3_.trans (by rw [r_X4_learnedIn_at24, if_neg c_28, if_pos c_40])) (h4_.trans (by rw [c_X4_learnedIn_2_at24, if_neg c_28, if_pos c_40])))
      · skip
        refine g_iload_n E 3 dX4_learnedIn_43 rfl rfl ?_
        subst hv2_
        exact RET 44 _ (nI k) _ dX4_learnedIn_44 rfl (by rw [r_X4_learnedIn_at24, if_neg c_28, if_neg c_40]) (by rw [c_X4_learnedIn_2_at24, if_neg c_28, if_neg c_40])
set_option maxHeartbeats 1000000 in
set_option maxRecDepth 100000 in
theorem s_X4_learnedIn_0 (d : gD) (x : Nat → Nat) (a : Nat → Nat) (b : Nat → Nat) (c : Nat → Nat) (e : Nat → Nat) (x1 : Int32) (y1 : Int32) (p : Nat → Nat → Nat) (q : Nat → Nat → Nat) (S : SS) (T : SS) (h : Nat → Int32) (t : Nat → Int32) (y : HS) (ss : Nat → Option SS) (hu : ¬ S.2.2.1 0 < 0)  {X : gX} (E : gE d X RX4 cX4_learnedIn 4 R_X4_learnedIn) (RET : ∀ (pc_ : Nat) (lv_ : List (Nat × Value)) (v_ : Int32) (u_ : va_W), decode cX4_learnedIn pc_ = .ok (.ireturn, 1) → narrow .int (.int v_) = .int v_ → v_ = r_X4_learnedIn x1 y1 S T → u_ = XW d (x, a, b, c, e) p q S (c_X4_learnedIn_2 x1 y1 S T) h t y ss → G d X u_ R_X4_learnedIn.cells R_X4_learnedIn.slots pc_ lv_ [.int v_]) : G d X (XW d (x, a, b, c, e) p q S T h t y ss) 0 0 0 [(0, .ref (x 0)), (1, .int x1), (2, .int y1)] [] := by
  refine g_iload_n E 1 dX4_learnedIn_0 rfl rfl ?_
  refine g_iload_n E 2 dX4_learnedIn_1 rfl rfl ?_
  refine g_callSp E gc_X4_isSample ml_X4_108 (t_X4_isSample d x1 y1 ) rfl rfl rfl (ok_le rfl) ⟨ok_le rfl, ok_le rfl, ok_le rfl, ok_le rfl⟩ rfl rfl dX4_learnedIn_2 ?_
  refine g_nm (fun v1_ hv1_ => ?_)
  refine g_ifne E 11 dX4_learnedIn_5 (by decide) (fun c_5 => ?_) (fun c_5 => ?_)
  · skip
    refine g_aload_n E 0 dX4_learnedIn_11 rfl rfl ?_
    refine g_get E (ci := 4) inlX4 0 rfl rfl 1 (by decide) fl_X4_16 rfl (.ref (b 0)) rfl dX4_learnedIn_12 ?_
    refine g_aload_n E 0 dX4_learnedIn_15 rfl rfl ?_
    refine g_get E (ci := 4) inlX4 0 rfl rfl 0 (by decide) fl_X4_10 rfl (.ref (a 0)) rfl dX4_learnedIn_16 ?_
    refine g_eq (ws' := XO d x a b c e (qf q ss) ++ (SK d a S ++ (SK d b T ++ (PK d c h t ++ (HP d e p y ++ PL d q ss 2))))) rfl ?_
    refine g_perm (ws' := (SK d b T ++ SK d a S) ++ (XO d x a b c e (qf q ss) ++ (PK d c h t ++ (HP d e p y ++ PL d q ss 2)))) px21 ?_
    refine g_callVvD E (wr := XO d x a b c e (qf q ss) ++ (PK d c h t ++ (HP d e p y ++ PL d q ss 2))) gc_X3_becomeLike ml_X4_115 (t2_X3_becomeLike d b a T S ) rfl rfl (ci := 3) 4 rfl rfl rfl rfl (ok_le rfl) ⟨ok_le rfl, ok_le rfl, ok_le rfl, ok_le rfl⟩ rfl rfl dX4_learnedIn_19 ?_
    refine g_perm (ws' := XO d x a b c e (qf q ss) ++ (SK d a S ++ (SK d b S ++ (PK d c h t ++ (HP d e p y ++ PL d q ss 2))))) px21.symm ?_
    refine g_eq (ws' := XW d (x, a, b, c, e) p q S S h t y ss) rfl ?_
    refine g_iconst E 0 dX4_learnedIn_22 (by decide) ?_
    refine g_istore_n E (lv' := [(3, .int 0), (0, .ref (x 0)), (1, .int x1), (2, .int y1)]) dX4_learnedIn_23 rfl (by decide) rfl ?_
    refine g_lvs (lv' := [(0, .ref (x 0)), (1, .int x1), (2, .int y1), (3, .int 0)]) [1, 2, 3, 0] rfl ?_
    subst hv1_
    exact s_X4_learnedIn_24 d x a b c e x1 y1 p q S T h t y ss hu E 502 0 S (by omega) hu (by omega) (fun pc_ lv_ v_ u_ h1_ h2_ h3_ h4_ => RET pc_ lv_ v_ u_ h1_ h2_ (h3_.trans (by rw [r_X4_learnedIn, if_neg c_5])) (h4_.trans (by rw [c_X4_learnedIn_2, if_neg c_5])))
  · skip
    refine g_bipush E (-2) dX4_learnedIn_8 (by decide) ?_
    subst hv1_
    exact RET 10 _ (-2) _ dX4_learnedIn_10 rfl (by rw [r_X4_learnedIn, if_pos c_5]) (by rw [c_X4_learnedIn_2, if_pos c_5])
set_option maxHeartbeats 1000000 in
set_option maxRecDepth 100000 in
theorem t_X4_learnedIn (d : gD) (x : Nat → Nat) (a : Nat → Nat) (b : Nat → Nat) (c : Nat → Nat) (e : Nat → Nat) (x1 : Int32) (y1 : Int32) (p : Nat → Nat → Nat) (q : Nat → Nat → Nat) (S : SS) (T : SS) (h : Nat → Int32) (t : Nat → Int32) (y : HS) (ss : Nat → Option SS) (hu : ¬ S.2.2.1 0 < 0) : gMi d yX4_learnedIn cX4_learnedIn 4 (some .int) R_X4_learnedIn [.ref (x 0), .int x1, .int y1] (XW d (x, a, b, c, e) p q S T h t y ss) (fun r_ u_ => r_ = r_X4_learnedIn x1 y1 S T ∧ u_ = XW d (x, a, b, c, e) p q S (c_X4_learnedIn_2 x1 y1 S T) h t y ss) :=
  g_met_i RX4 rfl (by decide +kernel) (Nat.le_of_ble_eq_true rfl) [(0, .ref (x 0)), (1, .int x1), (2, .int y1)] rfl (fun X E RET => s_X4_learnedIn_0 d x a b c e x1 y1 p q S T h t y ss hu E (fun pc_ lv_ v_ u_ h1_ h2_ h3_ h4_ => RET pc_ lv_ v_ u_ h1_ h2_ ⟨h3_, h4_⟩))
abbrev R_X4_driftsIn : Room := { frames := 5, cells := 0, slots := 0, locals := 116 }
def r_X4_driftsIn_at24 (x1 : Int32) (y1 : Int32) (S : SS) (T : SS) : Nat → (Nat) → (SS) → Int32
  | 0, _, _ => 0
  | n + 1, k, T1 => if 200 < (nI k) then (-6) else (if (r_X3_wouldDrift x1 y1 T1) = 0 then (r_X4_driftsIn_at24 x1 y1 S T n (k + 1) (c_X3_take x1 y1 T1)) else (nI k))
def c_X4_driftsIn_2_at24 (x1 : Int32) (y1 : Int32) (S : SS) (T : SS) : Nat → (Nat) → (SS) → SS
  | 0, _, T1 => T1
  | n + 1, k, T1 => if 200 < (nI k) then T1 else (if (r_X3_wouldDrift x1 y1 T1) = 0 then (c_X4_driftsIn_2_at24 x1 y1 S T n (k + 1) (c_X3_take x1 y1 T1)) else T1)
def r_X4_driftsIn (x1 : Int32) (y1 : Int32) (S : SS) (T : SS) : Int32 := if (r_X4_isSample x1 y1) = 0 then (-2) else (r_X4_driftsIn_at24 x1 y1 S T 202 1 S)
def c_X4_driftsIn_2 (x1 : Int32) (y1 : Int32) (S : SS) (T : SS) : SS := if (r_X4_isSample x1 y1) = 0 then T else (c_X4_driftsIn_2_at24 x1 y1 S T 202 1 S)
set_option maxHeartbeats 1000000 in
set_option maxRecDepth 100000 in
theorem s_X4_driftsIn_24 (d : gD) (x : Nat → Nat) (a : Nat → Nat) (b : Nat → Nat) (c : Nat → Nat) (e : Nat → Nat) (x1 : Int32) (y1 : Int32) (p : Nat → Nat → Nat) (q : Nat → Nat → Nat) (S : SS) (T : SS) (h : Nat → Int32) (t : Nat → Int32) (y : HS) (ss : Nat → Option SS) (hu : ¬ S.2.2.1 0 < 0) {X : gX} (E : gE d X RX4 cX4_driftsIn 4 R_X4_driftsIn) : ∀ (n : Nat) (k : Nat) (T1 : SS) (hk : k ≤ 201) (hu1 : ¬ T1.2.2.1 0 < 0) (hm : 201 - k < n) (RET : ∀ (pc_ : Nat) (lv_ : List (Nat × Value)) (v_ : Int32) (u_ : va_W), decode cX4_driftsIn pc_ = .ok (.ireturn, 1) → narrow .int (.int v_) = .int v_ → v_ = r_X4_driftsIn_at24 x1 y1 S T n k T1 → u_ = XW d (x, a, b, c, e) p q S (c_X4_driftsIn_2_at24 x1 y1 S T n k T1) h t y ss → G d X u_ R_X4_driftsIn.cells R_X4_driftsIn.slots pc_ lv_ [.int v_]), G d X (XW d (x, a, b, c, e) p q S T1 h t y ss) 0 0 24 [(0, .ref (x 0)), (1, .int x1), (2, .int y1), (3, .int (nI k))] [] := by
  intro n
  induction n with
  | zero => intro k T1 hk hu1 hm; omega
  | succ n ih =>
    intro k T1 hk hu1 hm RET
    refine g_iload_n E 3 dX4_driftsIn_24 rfl rfl ?_
    refine g_sipush E 200 dX4_driftsIn_25 (by decide) ?_
    refine g_icmpgt E 60 dX4_driftsIn_28 (by decide) (fun c_28 => ?_) (fun c_28 => ?_)
    · skip
      refine g_bipush E (-6) dX4_driftsIn_60 (by decide) ?_
      exact RET 62 _ (-6) _ dX4_driftsIn_62 rfl (by rw [r_X4_driftsIn_at24, if_pos c_28]) (by rw [c_X4_driftsIn_2_at24, if_pos c_28])
    · skip
      have k28 : ¬ 200 < k := fun q => c_28 ((nI_ltI (a := 200) (b := k) (by omega) (by omega)).mpr q)
      refine g_aload_n E 0 dX4_driftsIn_31 rfl rfl ?_
      refine g_get E (ci := 4) inlX4 0 rfl rfl 1 (by decide) fl_X4_16 rfl (.ref (b 0)) rfl dX4_driftsIn_32 ?_
      refine g_iload_n E 1 dX4_driftsIn_35 rfl rfl ?_
      refine g_iload_n E 2 dX4_driftsIn_36 rfl rfl ?_
      refine g_eq (ws' := XO d x a b c e (qf q ss) ++ (SK d a S ++ (SK d b T1 ++ (PK d c h t ++ (HP d e p y ++ PL d q ss 2))))) rfl ?_
      refine g_perm (ws' := (SK d b T1) ++ (XO d x a b c e (qf q ss) ++ (SK d a S ++ (PK d c h t ++ (HP d e p y ++ PL d q ss 2))))) px2 ?_
      refine g_callViD E (wr := XO d x a b c e (qf q ss) ++ (SK d a S ++ (PK d c h t ++ (HP d e p y ++ PL d q ss 2)))) gc_X3_wouldDrift ml_X4_130 (t_X3_wouldDrift d b x1 y1 T1 ) rfl rfl (ci := 3) 4 rfl rfl rfl rfl (ok_le rfl) ⟨ok_le rfl, ok_le rfl, ok_le rfl, ok_le rfl⟩ rfl rfl dX4_driftsIn_37 ?_
      refine g_perm (ws' := XO d x a b c e (qf q ss) ++ (SK d a S ++ (SK d b T1 ++ (PK d c h t ++ (HP d e p y ++ PL d q ss 2))))) px2.symm ?_
      refine g_eq (ws' := XW d (x, a, b, c, e) p q S T1 h t y ss) rfl ?_
      refine g_nm (fun v2_ hv2_ => ?_)
      refine g_ifeq E 45 dX4_driftsIn_40 (by decide) (fun c_40 => ?_) (fun c_40 => ?_)
      · skip
        refine g_aload_n E 0 dX4_driftsIn_45 rfl rfl ?_
        refine g_get E (ci := 4) inlX4 0 rfl rfl 1 (by decide) fl_X4_16 rfl (.ref (b 0)) rfl dX4_driftsIn_46 ?_
        refine g_iload_n E 1 dX4_driftsIn_49 rfl rfl ?_
        refine g_iload_n E 2 dX4_driftsIn_50 rfl rfl ?_
        refine g_eq (ws' := XO d x a b c e (qf q ss) ++ (SK d a S ++ (SK d b T1 ++ (PK d c h t ++ (HP d e p y ++ PL d q ss 2))))) rfl ?_
        refine g_perm (ws' := (SK d b T1) ++ (XO d x a b c e (qf q ss) ++ (SK d a S ++ (PK d c h t ++ (HP d e p y ++ PL d q ss 2))))) px2 ?_
        refine g_callVvD E (wr := XO d x a b c e (qf q ss) ++ (SK d a S ++ (PK d c h t ++ (HP d e p y ++ PL d q ss 2)))) gc_X3_take ml_X4_59 (t_X3_take d b x1 y1 T1 (by first | assumption | omega)) rfl rfl (ci := 3) 4 rfl rfl rfl rfl (ok_le rfl) ⟨ok_le rfl, ok_le rfl, ok_le rfl, ok_le rfl⟩ rfl rfl dX4_driftsIn_51 ?_
        refine g_perm (ws' := XO d x a b c e (qf q ss) ++ (SK d a S ++ (SK d b (c_X3_take x1 y1 T1) ++ (PK d c h t ++ (HP d e p y ++ PL d q ss 2))))) px2.symm ?_
        refine g_eq (ws' := XW d (x, a, b, c, e) p q S (c_X3_take x1 y1 T1) h t y ss) rfl ?_
        obtain ⟨S3_, hS3_⟩ : ∃ z, c_X3_take x1 y1 T1 = z := ⟨_, rfl⟩
        rw [hS3_]
        refine g_iinc E (j := 3) (v := (nI (k + 1))) (lv' := [(3, .int (nI (k + 1))), (0, .ref (x 0)), (1, .int x1), (2, .int y1)]) dX4_driftsIn_54 rfl (nI_1 _) (by decide) rfl ?_
        refine g_goto E 24 dX4_driftsIn_57 (by decide) ?_
        refine g_lvs (lv' := [(0, .ref (x 0)), (1, .int x1), (2, .int y1), (3, .int (nI (k + 1)))]) [1, 2, 3, 0] rfl ?_
        subst hS3_
        subst hv2_
        exact ih (k + 1) (c_X3_take x1 y1 T1) (by omega) (by subst_vars; with_reducible exact KU_take hu1) (by omega) (fun pc_ lv_ v_ u_ h1_ h2_ h3_ h4_ => RET pc_ lv_ v_ u_ h1_ h2_ (h3_.trans (by rw [r_X4_driftsIn_at24, if_neg c_28, if_pos c_40])) (h4_.trans (by rw [c_X4_driftsIn_2_at24, if_neg c_28, if_pos c_40])))
      · skip
        refine g_iload_n E 3 dX4_driftsIn_43 rfl rfl ?_
        subst hv2_
        exact RET 44 _ (nI k) _ dX4_driftsIn_44 rfl (by rw [r_X4_driftsIn_at24, if_neg c_28, if_neg c_40]) (by rw [c_X4_driftsIn_2_at24, if_neg c_28, if_neg c_40])
set_option maxHeartbeats 1000000 in
set_option maxRecDepth 100000 in
theorem s_X4_driftsIn_0 (d : gD) (x : Nat → Nat) (a : Nat → Nat) (b : Nat → Nat) (c : Nat → Nat) (e : Nat → Nat) (x1 : Int32) (y1 : Int32) (p : Nat → Nat → Nat) (q : Nat → Nat → Nat) (S : SS) (T : SS) (h : Nat → Int32) (t : Nat → Int32) (y : HS) (ss : Nat → Option SS) (hu : ¬ S.2.2.1 0 < 0)  {X : gX} (E : gE d X RX4 cX4_driftsIn 4 R_X4_driftsIn) (RET : ∀ (pc_ : Nat) (lv_ : List (Nat × Value)) (v_ : Int32) (u_ : va_W), decode cX4_driftsIn pc_ = .ok (.ireturn, 1) → narrow .int (.int v_) = .int v_ → v_ = r_X4_driftsIn x1 y1 S T → u_ = XW d (x, a, b, c, e) p q S (c_X4_driftsIn_2 x1 y1 S T) h t y ss → G d X u_ R_X4_driftsIn.cells R_X4_driftsIn.slots pc_ lv_ [.int v_]) : G d X (XW d (x, a, b, c, e) p q S T h t y ss) 0 0 0 [(0, .ref (x 0)), (1, .int x1), (2, .int y1)] [] := by
  refine g_iload_n E 1 dX4_driftsIn_0 rfl rfl ?_
  refine g_iload_n E 2 dX4_driftsIn_1 rfl rfl ?_
  refine g_callSp E gc_X4_isSample ml_X4_108 (t_X4_isSample d x1 y1 ) rfl rfl rfl (ok_le rfl) ⟨ok_le rfl, ok_le rfl, ok_le rfl, ok_le rfl⟩ rfl rfl dX4_driftsIn_2 ?_
  refine g_nm (fun v1_ hv1_ => ?_)
  refine g_ifne E 11 dX4_driftsIn_5 (by decide) (fun c_5 => ?_) (fun c_5 => ?_)
  · skip
    refine g_aload_n E 0 dX4_driftsIn_11 rfl rfl ?_
    refine g_get E (ci := 4) inlX4 0 rfl rfl 1 (by decide) fl_X4_16 rfl (.ref (b 0)) rfl dX4_driftsIn_12 ?_
    refine g_aload_n E 0 dX4_driftsIn_15 rfl rfl ?_
    refine g_get E (ci := 4) inlX4 0 rfl rfl 0 (by decide) fl_X4_10 rfl (.ref (a 0)) rfl dX4_driftsIn_16 ?_
    refine g_eq (ws' := XO d x a b c e (qf q ss) ++ (SK d a S ++ (SK d b T ++ (PK d c h t ++ (HP d e p y ++ PL d q ss 2))))) rfl ?_
    refine g_perm (ws' := (SK d b T ++ SK d a S) ++ (XO d x a b c e (qf q ss) ++ (PK d c h t ++ (HP d e p y ++ PL d q ss 2)))) px21 ?_
    refine g_callVvD E (wr := XO d x a b c e (qf q ss) ++ (PK d c h t ++ (HP d e p y ++ PL d q ss 2))) gc_X3_becomeLike ml_X4_115 (t2_X3_becomeLike d b a T S ) rfl rfl (ci := 3) 4 rfl rfl rfl rfl (ok_le rfl) ⟨ok_le rfl, ok_le rfl, ok_le rfl, ok_le rfl⟩ rfl rfl dX4_driftsIn_19 ?_
    refine g_perm (ws' := XO d x a b c e (qf q ss) ++ (SK d a S ++ (SK d b S ++ (PK d c h t ++ (HP d e p y ++ PL d q ss 2))))) px21.symm ?_
    refine g_eq (ws' := XW d (x, a, b, c, e) p q S S h t y ss) rfl ?_
    refine g_iconst E 1 dX4_driftsIn_22 (by decide) ?_
    refine g_istore_n E (lv' := [(3, .int 1), (0, .ref (x 0)), (1, .int x1), (2, .int y1)]) dX4_driftsIn_23 rfl (by decide) rfl ?_
    refine g_lvs (lv' := [(0, .ref (x 0)), (1, .int x1), (2, .int y1), (3, .int 1)]) [1, 2, 3, 0] rfl ?_
    subst hv1_
    exact s_X4_driftsIn_24 d x a b c e x1 y1 p q S T h t y ss hu E 202 1 S (by omega) hu (by omega) (fun pc_ lv_ v_ u_ h1_ h2_ h3_ h4_ => RET pc_ lv_ v_ u_ h1_ h2_ (h3_.trans (by rw [r_X4_driftsIn, if_neg c_5])) (h4_.trans (by rw [c_X4_driftsIn_2, if_neg c_5])))
  · skip
    refine g_bipush E (-2) dX4_driftsIn_8 (by decide) ?_
    subst hv1_
    exact RET 10 _ (-2) _ dX4_driftsIn_10 rfl (by rw [r_X4_driftsIn, if_pos c_5]) (by rw [c_X4_driftsIn_2, if_pos c_5])
set_option maxHeartbeats 1000000 in
set_option maxRecDepth 100000 in
theorem t_X4_driftsIn (d : gD) (x : Nat → Nat) (a : Nat → Nat) (b : Nat → Nat) (c : Nat → Nat) (e : Nat → Nat) (x1 : Int32) (y1 : Int32) (p : Nat → Nat → Nat) (q : Nat → Nat → Nat) (S : SS) (T : SS) (h : Nat → Int32) (t : Nat → Int32) (y : HS) (ss : Nat → Option SS) (hu : ¬ S.2.2.1 0 < 0) : gMi d yX4_driftsIn cX4_driftsIn 4 (some .int) R_X4_driftsIn [.ref (x 0), .int x1, .int y1] (XW d (x, a, b, c, e) p q S T h t y ss) (fun r_ u_ => r_ = r_X4_driftsIn x1 y1 S T ∧ u_ = XW d (x, a, b, c, e) p q S (c_X4_driftsIn_2 x1 y1 S T) h t y ss) :=
  g_met_i RX4 rfl (by decide +kernel) (Nat.le_of_ble_eq_true rfl) [(0, .ref (x 0)), (1, .int x1), (2, .int y1)] rfl (fun X E RET => s_X4_driftsIn_0 d x a b c e x1 y1 p q S T h t y ss hu E (fun pc_ lv_ v_ u_ h1_ h2_ h3_ h4_ => RET pc_ lv_ v_ u_ h1_ h2_ ⟨h3_, h4_⟩))
abbrev R_X4_edge : Room := { frames := 4, cells := 0, slots := 0, locals := 91 }
def r_X4_edge_at37 (axis : Int32) (up : Int32) (S : SS) : Nat → (Nat) → (Int32) → Int32
  | 0, _, _ => 0
  | n + 1, k, step => if 255 < (nI k) then (-6) else (if axis = 0 then (if axis = 1 then (if (r_X4_isSample ((r_X3_restPlaceX S) + (step * (nI k))) ((r_X3_restPlaceY S) + (step * (nI k)))) = 0 then (r_X4_edge_at37 axis up S n (k + 1) step) else (if (r_X3_tellingAt ((r_X3_restPlaceX S) + (step * (nI k))) ((r_X3_restPlaceY S) + (step * (nI k))) S) = (r_X4_packed 0 0) then (r_X4_edge_at37 axis up S n (k + 1) step) else (nI k))) else (if (r_X4_isSample ((r_X3_restPlaceX S) + (step * (nI k))) ((r_X3_restPlaceY S) + 0)) = 0 then (r_X4_edge_at37 axis up S n (k + 1) step) else (if (r_X3_tellingAt ((r_X3_restPlaceX S) + (step * (nI k))) ((r_X3_restPlaceY S) + 0) S) = (r_X4_packed 0 0) then (r_X4_edge_at37 axis up S n (k + 1) step) else (nI k)))) else (if axis = 1 then (if (r_X4_isSample ((r_X3_restPlaceX S) + 0) ((r_X3_restPlaceY S) + (step * (nI k)))) = 0 then (r_X4_edge_at37 axis up S n (k + 1) step) else (if (r_X3_tellingAt ((r_X3_restPlaceX S) + 0) ((r_X3_restPlaceY S) + (step * (nI k))) S) = (r_X4_packed 0 0) then (r_X4_edge_at37 axis up S n (k + 1) step) else (nI k))) else (if (r_X4_isSample ((r_X3_restPlaceX S) + 0) ((r_X3_restPlaceY S) + 0)) = 0 then (r_X4_edge_at37 axis up S n (k + 1) step) else (if (r_X3_tellingAt ((r_X3_restPlaceX S) + 0) ((r_X3_restPlaceY S) + 0) S) = (r_X4_packed 0 0) then (r_X4_edge_at37 axis up S n (k + 1) step) else (nI k)))))
def r_X4_edge (axis : Int32) (up : Int32) (S : SS) : Int32 := if axis = 0 then (if up = 0 then (if up = 1 then (r_X4_edge_at37 axis up S 257 1 1) else (r_X4_edge_at37 axis up S 257 1 (-1))) else (if up = 1 then (if up = 1 then (r_X4_edge_at37 axis up S 257 1 1) else (r_X4_edge_at37 axis up S 257 1 (-1))) else (-2))) else (if axis = 1 then (if up = 0 then (if up = 1 then (r_X4_edge_at37 axis up S 257 1 1) else (r_X4_edge_at37 axis up S 257 1 (-1))) else (if up = 1 then (if up = 1 then (r_X4_edge_at37 axis up S 257 1 1) else (r_X4_edge_at37 axis up S 257 1 (-1))) else (-2))) else (-1))
set_option maxHeartbeats 1000000 in
set_option maxRecDepth 100000 in
theorem s_X4_edge_37 (d : gD) (x : Nat → Nat) (a : Nat → Nat) (b : Nat → Nat) (c : Nat → Nat) (e : Nat → Nat) (axis : Int32) (up : Int32) (p : Nat → Nat → Nat) (q : Nat → Nat → Nat) (S : SS) (T : SS) (h : Nat → Int32) (t : Nat → Int32) (y : HS) (ss : Nat → Option SS)  {X : gX} (E : gE d X RX4 cX4_edge 7 R_X4_edge) : ∀ (n : Nat) (k : Nat) (step : Int32) (hk : k ≤ 256) (hm : 256 - k < n) (RET : ∀ (pc_ : Nat) (lv_ : List (Nat × Value)) (v_ : Int32) (u_ : va_W), decode cX4_edge pc_ = .ok (.ireturn, 1) → narrow .int (.int v_) = .int v_ → v_ = r_X4_edge_at37 axis up S n k step → u_ = XW d (x, a, b, c, e) p q S T h t y ss → G d X u_ R_X4_edge.cells R_X4_edge.slots pc_ lv_ [.int v_]), G d X (XW d (x, a, b, c, e) p q S T h t y ss) 0 0 37 [(0, .ref (x 0)), (1, .int axis), (2, .int up), (3, .int step), (4, .int (nI k))] [] := by
  intro n
  induction n with
  | zero => intro k step hk hm; omega
  | succ n ih =>
    intro k step hk hm RET
    refine g_iload E 4 dX4_edge_37 rfl ?_
    refine g_sipush E 255 dX4_edge_39 (by decide) ?_
    refine g_icmpgt E 128 dX4_edge_42 (by decide) (fun c_42 => ?_) (fun c_42 => ?_)
    · skip
      refine g_bipush E (-6) dX4_edge_128 (by decide) ?_
      exact RET 130 _ (-6) _ dX4_edge_130 rfl (by rw [r_X4_edge_at37, if_pos c_42]) rfl
    · skip
      have k42 : ¬ 255 < k := fun q => c_42 ((nI_ltI (a := 255) (b := k) (by omega) (by omega)).mpr q)
      refine g_aload_n E 0 dX4_edge_45 rfl rfl ?_
      refine g_get E (ci := 4) inlX4 0 rfl rfl 0 (by decide) fl_X4_10 rfl (.ref (a 0)) rfl dX4_edge_46 ?_
      refine g_eq (ws' := XO d x a b c e (qf q ss) ++ (SK d a S ++ (SK d b T ++ (PK d c h t ++ (HP d e p y ++ PL d q ss 2))))) rfl ?_
      refine g_perm (ws' := (SK d a S) ++ (XO d x a b c e (qf q ss) ++ (SK d b T ++ (PK d c h t ++ (HP d e p y ++ PL d q ss 2))))) px1 ?_
      refine g_callViD E (wr := XO d x a b c e (qf q ss) ++ (SK d b T ++ (PK d c h t ++ (HP d e p y ++ PL d q ss 2)))) gc_X3_restPlaceX ml_X4_121 (t_X3_restPlaceX d a S ) rfl rfl (ci := 3) 4 rfl rfl rfl rfl (ok_le rfl) ⟨ok_le rfl, ok_le rfl, ok_le rfl, ok_le rfl⟩ rfl rfl dX4_edge_49 ?_
      refine g_perm (ws' := XO d x a b c e (qf q ss) ++ (SK d a S ++ (SK d b T ++ (PK d c h t ++ (HP d e p y ++ PL d q ss 2))))) px1.symm ?_
      refine g_eq (ws' := XW d (x, a, b, c, e) p q S T h t y ss) rfl ?_
      refine g_nm (fun v1_ hv1_ => ?_)
      refine g_iload_n E 1 dX4_edge_52 rfl rfl ?_
      refine g_ifne E 63 dX4_edge_53 (by decide) (fun c_53 => ?_) (fun c_53 => ?_)
      · skip
        refine g_iconst E 0 dX4_edge_63 (by decide) ?_
        refine g_iadd E dX4_edge_64 ?_
        refine g_istore E (lv' := [(5, .int (v1_ + 0)), (0, .ref (x 0)), (1, .int axis), (2, .int up), (3, .int step), (4, .int (nI k))]) dX4_edge_65 (by decide) rfl ?_
        refine g_aload_n E 1 dX4_edge_67 rfl rfl ?_
        refine g_get E (ci := 4) inlX4 0 rfl rfl 0 (by decide) fl_X4_10 rfl (.ref (a 0)) rfl dX4_edge_68 ?_
        refine g_eq (ws' := XO d x a b c e (qf q ss) ++ (SK d a S ++ (SK d b T ++ (PK d c h t ++ (HP d e p y ++ PL d q ss 2))))) rfl ?_
        refine g_perm (ws' := (SK d a S) ++ (XO d x a b c e (qf q ss) ++ (SK d b T ++ (PK d c h t ++ (HP d e p y ++ PL d q ss 2))))) px1 ?_
        refine g_callViD E (wr := XO d x a b c e (qf q ss) ++ (SK d b T ++ (PK d c h t ++ (HP d e p y ++ PL d q ss 2)))) gc_X3_restPlaceY ml_X4_124 (t_X3_restPlaceY d a S ) rfl rfl (ci := 3) 4 rfl rfl rfl rfl (ok_le rfl) ⟨ok_le rfl, ok_le rfl, ok_le rfl, ok_le rfl⟩ rfl rfl dX4_edge_71 ?_
        refine g_perm (ws' := XO d x a b c e (qf q ss) ++ (SK d a S ++ (SK d b T ++ (PK d c h t ++ (HP d e p y ++ PL d q ss 2))))) px1.symm ?_
        refine g_eq (ws' := XW d (x, a, b, c, e) p q S T h t y ss) rfl ?_
        refine g_nm (fun v2_ hv2_ => ?_)
        refine g_iload_n E 2 dX4_edge_74 rfl rfl ?_
        refine g_iconst E 1 dX4_edge_75 (by decide) ?_
        refine g_icmpne E 86 dX4_edge_76 (by decide) (fun c_76 => ?_) (fun c_76 => ?_)
        · skip
          refine g_iconst E 0 dX4_edge_86 (by decide) ?_
          refine g_iadd E dX4_edge_87 ?_
          refine g_istore E (lv' := [(6, .int (v2_ + 0)), (5, .int (v1_ + 0)), (0, .ref (x 0)), (1, .int axis), (2, .int up), (3, .int step), (4, .int (nI k))]) dX4_edge_88 (by decide) rfl ?_
          refine g_iload E 1 dX4_edge_90 rfl ?_
          refine g_iload E 0 dX4_edge_92 rfl ?_
          refine g_callSp E gc_X4_isSample ml_X4_108 (t_X4_isSample d (v1_ + 0) (v2_ + 0) ) rfl rfl rfl (ok_le rfl) ⟨ok_le rfl, ok_le rfl, ok_le rfl, ok_le rfl⟩ rfl rfl dX4_edge_94 ?_
          refine g_nm (fun v3_ hv3_ => ?_)
          refine g_ifeq E 122 dX4_edge_97 (by decide) (fun c_97 => ?_) (fun c_97 => ?_)
          · skip
            refine g_iinc E (j := 6) (v := (nI (k + 1))) (lv' := [(4, .int (nI (k + 1))), (6, .int (v2_ + 0)), (5, .int (v1_ + 0)), (0, .ref (x 0)), (1, .int axis), (2, .int up), (3, .int step)]) dX4_edge_122 rfl (nI_1 _) (by decide) rfl ?_
            refine g_goto E 37 dX4_edge_125 (by decide) ?_
            refine g_lvs (lv' := [(0, .ref (x 0)), (1, .int axis), (2, .int up), (3, .int step), (4, .int (nI (k + 1)))]) [3, 4, 5, 6, 0] rfl ?_
            subst hv3_
            subst hv2_
            subst hv1_
            exact ih (k + 1) step (by omega) (by omega) (fun pc_ lv_ v_ u_ h1_ h2_ h3_ h4_ => RET pc_ lv_ v_ u_ h1_ h2_ (h3_.trans (by rw [r_X4_edge_at37, if_neg c_42, if_neg c_53, if_neg c_76, if_pos c_97])) h4_)
          · skip
            refine g_aload_n E 2 dX4_edge_100 rfl rfl ?_
            refine g_get E (ci := 4) inlX4 0 rfl rfl 0 (by decide) fl_X4_10 rfl (.ref (a 0)) rfl dX4_edge_101 ?_
            refine g_iload E 1 dX4_edge_104 rfl ?_
            refine g_iload E 0 dX4_edge_106 rfl ?_
            refine g_eq (ws' := XO d x a b c e (qf q ss) ++ (SK d a S ++ (SK d b T ++ (PK d c h t ++ (HP d e p y ++ PL d q ss 2))))) rfl ?_
            refine g_perm (ws' := (SK d a S) ++ (XO d x a b c e (qf q ss) ++ (SK d b T ++ (PK d c h t ++ (HP d e p y ++ PL d q ss 2))))) px1 ?_
            refine g_callViD E (wr := XO d x a b c e (qf q ss) ++ (SK d b T ++ (PK d c h t ++ (HP d e p y ++ PL d q ss 2)))) gc_X3_tellingAt ml_X4_112 (t_X3_tellingAt d a (v1_ + 0) (v2_ + 0) S ) rfl rfl (ci := 3) 4 rfl rfl rfl rfl (ok_le rfl) ⟨ok_le rfl, ok_le rfl, ok_le rfl, ok_le rfl⟩ rfl rfl dX4_edge_108 ?_
            refine g_perm (ws' := XO d x a b c e (qf q ss) ++ (SK d a S ++ (SK d b T ++ (PK d c h t ++ (HP d e p y ++ PL d q ss 2))))) px1.symm ?_
            refine g_eq (ws' := XW d (x, a, b, c, e) p q S T h t y ss) rfl ?_
            refine g_nm (fun v4_ hv4_ => ?_)
            refine g_iconst E 0 dX4_edge_111 (by decide) ?_
            refine g_iconst E 0 dX4_edge_112 (by decide) ?_
            refine g_callSp E gc_X4_packed ml_X4_127 (t_X4_packed d 0 0 ) rfl rfl rfl (ok_le rfl) ⟨ok_le rfl, ok_le rfl, ok_le rfl, ok_le rfl⟩ rfl rfl dX4_edge_113 ?_
            refine g_nm (fun v5_ hv5_ => ?_)
            refine g_icmpeq E 122 dX4_edge_116 (by decide) (fun c_116 => ?_) (fun c_116 => ?_)
            · skip
              refine g_iinc E (j := 6) (v := (nI (k + 1))) (lv' := [(4, .int (nI (k + 1))), (6, .int (v2_ + 0)), (5, .int (v1_ + 0)), (0, .ref (x 0)), (1, .int axis), (2, .int up), (3, .int step)]) dX4_edge_122 rfl (nI_1 _) (by decide) rfl ?_
              refine g_goto E 37 dX4_edge_125 (by decide) ?_
              refine g_lvs (lv' := [(0, .ref (x 0)), (1, .int axis), (2, .int up), (3, .int step), (4, .int (nI (k + 1)))]) [3, 4, 5, 6, 0] rfl ?_
              subst hv5_
              subst hv4_
              subst hv3_
              subst hv2_
              subst hv1_
              exact ih (k + 1) step (by omega) (by omega) (fun pc_ lv_ v_ u_ h1_ h2_ h3_ h4_ => RET pc_ lv_ v_ u_ h1_ h2_ (h3_.trans (by rw [r_X4_edge_at37, if_neg c_42, if_neg c_53, if_neg c_76, if_neg c_97, if_pos c_116])) h4_)
            · skip
              refine g_iload E 6 dX4_edge_119 rfl ?_
              subst hv5_
              subst hv4_
              subst hv3_
              subst hv2_
              subst hv1_
              exact RET 121 _ (nI k) _ dX4_edge_121 rfl (by rw [r_X4_edge_at37, if_neg c_42, if_neg c_53, if_neg c_76, if_neg c_97, if_neg c_116]) rfl
        · skip
          refine g_iload_n E 4 dX4_edge_79 rfl rfl ?_
          refine g_iload E 5 dX4_edge_80 rfl ?_
          refine g_imul E dX4_edge_82 ?_
          refine g_goto E 87 dX4_edge_83 (by decide) ?_
          refine g_iadd E dX4_edge_87 ?_
          refine g_istore E (lv' := [(6, .int (v2_ + (step * (nI k)))), (5, .int (v1_ + 0)), (0, .ref (x 0)), (1, .int axis), (2, .int up), (3, .int step), (4, .int (nI k))]) dX4_edge_88 (by decide) rfl ?_
          refine g_iload E 1 dX4_edge_90 rfl ?_
          refine g_iload E 0 dX4_edge_92 rfl ?_
          refine g_callSp E gc_X4_isSample ml_X4_108 (t_X4_isSample d (v1_ + 0) (v2_ + (step * (nI k))) ) rfl rfl rfl (ok_le rfl) ⟨ok_le rfl, ok_le rfl, ok_le rfl, ok_le rfl⟩ rfl rfl dX4_edge_94 ?_
          refine g_nm (fun v6_ hv6_ => ?_)
          refine g_ifeq E 122 dX4_edge_97 (by decide) (fun c_97 => ?_) (fun c_97 => ?_)
          · skip
            refine g_iinc E (j := 6) (v := (nI (k + 1))) (lv' := [(4, .int (nI (k + 1))), (6, .int (v2_ + (step * (nI k)))), (5, .int (v1_ + 0)), (0, .ref (x 0)), (1, .int axis), (2, .int up), (3, .int step)]) dX4_edge_122 rfl (nI_1 _) (by decide) rfl ?_
            refine g_goto E 37 dX4_edge_125 (by decide) ?_
            refine g_lvs (lv' := [(0, .ref (x 0)), (1, .int axis), (2, .int up), (3, .int step), (4, .int (nI (k + 1)))]) [3, 4, 5, 6, 0] rfl ?_
            subst hv6_
            subst hv2_
            subst hv1_
            exact ih (k + 1) step (by omega) (by omega) (fun pc_ lv_ v_ u_ h1_ h2_ h3_ h4_ => RET pc_ lv_ v_ u_ h1_ h2_ (h3_.trans (by rw [r_X4_edge_at37, if_neg c_42, if_neg c_53, if_pos c_76, if_pos c_97])) h4_)
          · skip
            refine g_aload_n E 2 dX4_edge_100 rfl rfl ?_
            refine g_get E (ci := 4) inlX4 0 rfl rfl 0 (by decide) fl_X4_10 rfl (.ref (a 0)) rfl dX4_edge_101 ?_
            refine g_iload E 1 dX4_edge_104 rfl ?_
            refine g_iload E 0 dX4_edge_106 rfl ?_
            refine g_eq (ws' := XO d x a b c e (qf q ss) ++ (SK d a S ++ (SK d b T ++ (PK d c h t ++ (HP d e p y ++ PL d q ss 2))))) rfl ?_
            refine g_perm (ws' := (SK d a S) ++ (XO d x a b c e (qf q ss) ++ (SK d b T ++ (PK d c h t ++ (HP d e p y ++ PL d q ss 2))))) px1 ?_
            refine g_callViD E (wr := XO d x a b c e (qf q ss) ++ (SK d b T ++ (PK d c h t ++ (HP d e p y ++ PL d q ss 2)))) gc_X3_tellingAt ml_X4_112 (t_X3_tellingAt d a (v1_ + 0) (v2_ + (step * (nI k))) S ) rfl rfl (ci := 3) 4 rfl rfl rfl rfl (ok_le rfl) ⟨ok_le rfl, ok_le rfl, ok_le rfl, ok_le rfl⟩ rfl rfl dX4_edge_108 ?_
            refine g_perm (ws' := XO d x a b c e (qf q ss) ++ (SK d a S ++ (SK d b T ++ (PK d c h t ++ (HP d e p y ++ PL d q ss 2))))) px1.symm ?_
            refine g_eq (ws' := XW d (x, a, b, c, e) p q S T h t y ss) rfl ?_
            refine g_nm (fun v7_ hv7_ => ?_)
            refine g_iconst E 0 dX4_edge_111 (by decide) ?_
            refine g_iconst E 0 dX4_edge_112 (by decide) ?_
            refine g_callSp E gc_X4_packed ml_X4_127 (t_X4_packed d 0 0 ) rfl rfl rfl (ok_le rfl) ⟨ok_le rfl, ok_le rfl, ok_le rfl, ok_le rfl⟩ rfl rfl dX4_edge_113 ?_
            refine g_nm (fun v8_ hv8_ => ?_)
            refine g_icmpeq E 122 dX4_edge_116 (by decide) (fun c_116 => ?_) (fun c_116 => ?_)
            · skip
              refine g_iinc E (j := 6) (v := (nI (k + 1))) (lv' := [(4, .int (nI (k + 1))), (6, .int (v2_ + (step * (nI k)))), (5, .int (v1_ + 0)), (0, .ref (x 0)), (1, .int axis), (2, .int up), (3, .int step)]) dX4_edge_122 rfl (nI_1 _) (by decide) rfl ?_
              refine g_goto E 37 dX4_edge_125 (by decide) ?_
              refine g_lvs (lv' := [(0, .ref (x 0)), (1, .int axis), (2, .int up), (3, .int step), (4, .int (nI (k + 1)))]) [3, 4, 5, 6, 0] rfl ?_
              subst hv8_
              subst hv7_
              subst hv6_
              subst hv2_
              subst hv1_
              exact ih (k + 1) step (by omega) (by omega) (fun pc_ lv_ v_ u_ h1_ h2_ h3_ h4_ => RET pc_ lv_ v_ u_ h1_ h2_ (h3_.trans (by rw [r_X4_edge_at37, if_neg c_42, if_neg c_53, if_pos c_76, if_neg c_97, if_pos c_116])) h4_)
            · skip
              refine g_iload E 6 dX4_edge_119 rfl ?_
              subst hv8_
              subst hv7_
              subst hv6_
              subst hv2_
              subst hv1_
              exact RET 121 _ (nI k) _ dX4_edge_121 rfl (by rw [r_X4_edge_at37, if_neg c_42, if_neg c_53, if_pos c_76, if_neg c_97, if_neg c_116]) rfl
      · skip
        refine g_iload_n E 3 dX4_edge_56 rfl rfl ?_
        refine g_iload E 4 dX4_edge_57 rfl ?_
        refine g_imul E dX4_edge_59 ?_
        refine g_goto E 64 dX4_edge_60 (by decide) ?_
        refine g_iadd E dX4_edge_64 ?_
        refine g_istore E (lv' := [(5, .int (v1_ + (step * (nI k)))), (0, .ref (x 0)), (1, .int axis), (2, .int up), (3, .int step), (4, .int (nI k))]) dX4_edge_65 (by decide) rfl ?_
        refine g_aload_n E 1 dX4_edge_67 rfl rfl ?_
        refine g_get E (ci := 4) inlX4 0 rfl rfl 0 (by decide) fl_X4_10 rfl (.ref (a 0)) rfl dX4_edge_68 ?_
        refine g_eq (ws' := XO d x a b c e (qf q ss) ++ (SK d a S ++ (SK d b T ++ (PK d c h t ++ (HP d e p y ++ PL d q ss 2))))) rfl ?_
        refine g_perm (ws' := (SK d a S) ++ (XO d x a b c e (qf q ss) ++ (SK d b T ++ (PK d c h t ++ (HP d e p y ++ PL d q ss 2))))) px1 ?_
        refine g_callViD E (wr := XO d x a b c e (qf q ss) ++ (SK d b T ++ (PK d c h t ++ (HP d e p y ++ PL d q ss 2)))) gc_X3_restPlaceY ml_X4_124 (t_X3_restPlaceY d a S ) rfl rfl (ci := 3) 4 rfl rfl rfl rfl (ok_le rfl) ⟨ok_le rfl, ok_le rfl, ok_le rfl, ok_le rfl⟩ rfl rfl dX4_edge_71 ?_
        refine g_perm (ws' := XO d x a b c e (qf q ss) ++ (SK d a S ++ (SK d b T ++ (PK d c h t ++ (HP d e p y ++ PL d q ss 2))))) px1.symm ?_
        refine g_eq (ws' := XW d (x, a, b, c, e) p q S T h t y ss) rfl ?_
        refine g_nm (fun v9_ hv9_ => ?_)
        refine g_iload_n E 2 dX4_edge_74 rfl rfl ?_
        refine g_iconst E 1 dX4_edge_75 (by decide) ?_
        refine g_icmpne E 86 dX4_edge_76 (by decide) (fun c_76 => ?_) (fun c_76 => ?_)
        · skip
          refine g_iconst E 0 dX4_edge_86 (by decide) ?_
          refine g_iadd E dX4_edge_87 ?_
          refine g_istore E (lv' := [(6, .int (v9_ + 0)), (5, .int (v1_ + (step * (nI k)))), (0, .ref (x 0)), (1, .int axis), (2, .int up), (3, .int step), (4, .int (nI k))]) dX4_edge_88 (by decide) rfl ?_
          refine g_iload E 1 dX4_edge_90 rfl ?_
          refine g_iload E 0 dX4_edge_92 rfl ?_
          refine g_callSp E gc_X4_isSample ml_X4_108 (t_X4_isSample d (v1_ + (step * (nI k))) (v9_ + 0) ) rfl rfl rfl (ok_le rfl) ⟨ok_le rfl, ok_le rfl, ok_le rfl, ok_le rfl⟩ rfl rfl dX4_edge_94 ?_
          refine g_nm (fun v10_ hv10_ => ?_)
          refine g_ifeq E 122 dX4_edge_97 (by decide) (fun c_97 => ?_) (fun c_97 => ?_)
          · skip
            refine g_iinc E (j := 6) (v := (nI (k + 1))) (lv' := [(4, .int (nI (k + 1))), (6, .int (v9_ + 0)), (5, .int (v1_ + (step * (nI k)))), (0, .ref (x 0)), (1, .int axis), (2, .int up), (3, .int step)]) dX4_edge_122 rfl (nI_1 _) (by decide) rfl ?_
            refine g_goto E 37 dX4_edge_125 (by decide) ?_
            refine g_lvs (lv' := [(0, .ref (x 0)), (1, .int axis), (2, .int up), (3, .int step), (4, .int (nI (k + 1)))]) [3, 4, 5, 6, 0] rfl ?_
            subst hv10_
            subst hv9_
            subst hv1_
            exact ih (k + 1) step (by omega) (by omega) (fun pc_ lv_ v_ u_ h1_ h2_ h3_ h4_ => RET pc_ lv_ v_ u_ h1_ h2_ (h3_.trans (by rw [r_X4_edge_at37, if_neg c_42, if_pos c_53, if_neg c_76, if_pos c_97])) h4_)
          · skip
            refine g_aload_n E 2 dX4_edge_100 rfl rfl ?_
            refine g_get E (ci := 4) inlX4 0 rfl rfl 0 (by decide) fl_X4_10 rfl (.ref (a 0)) rfl dX4_edge_101 ?_
            refine g_iload E 1 dX4_edge_104 rfl ?_
            refine g_iload E 0 dX4_edge_106 rfl ?_
            refine g_eq (ws' := XO d x a b c e (qf q ss) ++ (SK d a S ++ (SK d b T ++ (PK d c h t ++ (HP d e p y ++ PL d q ss 2))))) rfl ?_
            refine g_perm (ws' := (SK d a S) ++ (XO d x a b c e (qf q ss) ++ (SK d b T ++ (PK d c h t ++ (HP d e p y ++ PL d q ss 2))))) px1 ?_
            refine g_callViD E (wr := XO d x a b c e (qf q ss) ++ (SK d b T ++ (PK d c h t ++ (HP d e p y ++ PL d q ss 2)))) gc_X3_tellingAt ml_X4_112 (t_X3_tellingAt d a (v1_ + (step * (nI k))) (v9_ + 0) S ) rfl rfl (ci := 3) 4 rfl rfl rfl rfl (ok_le rfl) ⟨ok_le rfl, ok_le rfl, ok_le rfl, ok_le rfl⟩ rfl rfl dX4_edge_108 ?_
            refine g_perm (ws' := XO d x a b c e (qf q ss) ++ (SK d a S ++ (SK d b T ++ (PK d c h t ++ (HP d e p y ++ PL d q ss 2))))) px1.symm ?_
            refine g_eq (ws' := XW d (x, a, b, c, e) p q S T h t y ss) rfl ?_
            refine g_nm (fun v11_ hv11_ => ?_)
            refine g_iconst E 0 dX4_edge_111 (by decide) ?_
            refine g_iconst E 0 dX4_edge_112 (by decide) ?_
            refine g_callSp E gc_X4_packed ml_X4_127 (t_X4_packed d 0 0 ) rfl rfl rfl (ok_le rfl) ⟨ok_le rfl, ok_le rfl, ok_le rfl, ok_le rfl⟩ rfl rfl dX4_edge_113 ?_
            refine g_nm (fun v12_ hv12_ => ?_)
            refine g_icmpeq E 122 dX4_edge_116 (by decide) (fun c_116 => ?_) (fun c_116 => ?_)
            · skip
              refine g_iinc E (j := 6) (v := (nI (k + 1))) (lv' := [(4, .int (nI (k + 1))), (6, .int (v9_ + 0)), (5, .int (v1_ + (step * (nI k)))), (0, .ref (x 0)), (1, .int axis), (2, .int up), (3, .int step)]) dX4_edge_122 rfl (nI_1 _) (by decide) rfl ?_
              refine g_goto E 37 dX4_edge_125 (by decide) ?_
              refine g_lvs (lv' := [(0, .ref (x 0)), (1, .int axis), (2, .int up), (3, .int step), (4, .int (nI (k + 1)))]) [3, 4, 5, 6, 0] rfl ?_
              subst hv12_
              subst hv11_
              subst hv10_
              subst hv9_
              subst hv1_
              exact ih (k + 1) step (by omega) (by omega) (fun pc_ lv_ v_ u_ h1_ h2_ h3_ h4_ => RET pc_ lv_ v_ u_ h1_ h2_ (h3_.trans (by rw [r_X4_edge_at37, if_neg c_42, if_pos c_53, if_neg c_76, if_neg c_97, if_pos c_116])) h4_)
            · skip
              refine g_iload E 6 dX4_edge_119 rfl ?_
              subst hv12_
              subst hv11_
              subst hv10_
              subst hv9_
              subst hv1_
              exact RET 121 _ (nI k) _ dX4_edge_121 rfl (by rw [r_X4_edge_at37, if_neg c_42, if_pos c_53, if_neg c_76, if_neg c_97, if_neg c_116]) rfl
        · skip
          refine g_iload_n E 4 dX4_edge_79 rfl rfl ?_
          refine g_iload E 5 dX4_edge_80 rfl ?_
          refine g_imul E dX4_edge_82 ?_
          refine g_goto E 87 dX4_edge_83 (by decide) ?_
          refine g_iadd E dX4_edge_87 ?_
          refine g_istore E (lv' := [(6, .int (v9_ + (step * (nI k)))), (5, .int (v1_ + (step * (nI k)))), (0, .ref (x 0)), (1, .int axis), (2, .int up), (3, .int step), (4, .int (nI k))]) dX4_edge_88 (by decide) rfl ?_
          refine g_iload E 1 dX4_edge_90 rfl ?_
          refine g_iload E 0 dX4_edge_92 rfl ?_
          refine g_callSp E gc_X4_isSample ml_X4_108 (t_X4_isSample d (v1_ + (step * (nI k))) (v9_ + (step * (nI k))) ) rfl rfl rfl (ok_le rfl) ⟨ok_le rfl, ok_le rfl, ok_le rfl, ok_le rfl⟩ rfl rfl dX4_edge_94 ?_
          refine g_nm (fun v13_ hv13_ => ?_)
          refine g_ifeq E 122 dX4_edge_97 (by decide) (fun c_97 => ?_) (fun c_97 => ?_)
          · skip
            refine g_iinc E (j := 6) (v := (nI (k + 1))) (lv' := [(4, .int (nI (k + 1))), (6, .int (v9_ + (step * (nI k)))), (5, .int (v1_ + (step * (nI k)))), (0, .ref (x 0)), (1, .int axis), (2, .int up), (3, .int step)]) dX4_edge_122 rfl (nI_1 _) (by decide) rfl ?_
            refine g_goto E 37 dX4_edge_125 (by decide) ?_
            refine g_lvs (lv' := [(0, .ref (x 0)), (1, .int axis), (2, .int up), (3, .int step), (4, .int (nI (k + 1)))]) [3, 4, 5, 6, 0] rfl ?_
            subst hv13_
            subst hv9_
            subst hv1_
            exact ih (k + 1) step (by omega) (by omega) (fun pc_ lv_ v_ u_ h1_ h2_ h3_ h4_ => RET pc_ lv_ v_ u_ h1_ h2_ (h3_.trans (by rw [r_X4_edge_at37, if_neg c_42, if_pos c_53, if_pos c_76, if_pos c_97])) h4_)
          · skip
            refine g_aload_n E 2 dX4_edge_100 rfl rfl ?_
            refine g_get E (ci := 4) inlX4 0 rfl rfl 0 (by decide) fl_X4_10 rfl (.ref (a 0)) rfl dX4_edge_101 ?_
            refine g_iload E 1 dX4_edge_104 rfl ?_
            refine g_iload E 0 dX4_edge_106 rfl ?_
            refine g_eq (ws' := XO d x a b c e (qf q ss) ++ (SK d a S ++ (SK d b T ++ (PK d c h t ++ (HP d e p y ++ PL d q ss 2))))) rfl ?_
            refine g_perm (ws' := (SK d a S) ++ (XO d x a b c e (qf q ss) ++ (SK d b T ++ (PK d c h t ++ (HP d e p y ++ PL d q ss 2))))) px1 ?_
            refine g_callViD E (wr := XO d x a b c e (qf q ss) ++ (SK d b T ++ (PK d c h t ++ (HP d e p y ++ PL d q ss 2)))) gc_X3_tellingAt ml_X4_112 (t_X3_tellingAt d a (v1_ + (step * (nI k))) (v9_ + (step * (nI k))) S ) rfl rfl (ci := 3) 4 rfl rfl rfl rfl (ok_le rfl) ⟨ok_le rfl, ok_le rfl, ok_le rfl, ok_le rfl⟩ rfl rfl dX4_edge_108 ?_
            refine g_perm (ws' := XO d x a b c e (qf q ss) ++ (SK d a S ++ (SK d b T ++ (PK d c h t ++ (HP d e p y ++ PL d q ss 2))))) px1.symm ?_
            refine g_eq (ws' := XW d (x, a, b, c, e) p q S T h t y ss) rfl ?_
            refine g_nm (fun v14_ hv14_ => ?_)
            refine g_iconst E 0 dX4_edge_111 (by decide) ?_
            refine g_iconst E 0 dX4_edge_112 (by decide) ?_
            refine g_callSp E gc_X4_packed ml_X4_127 (t_X4_packed d 0 0 ) rfl rfl rfl (ok_le rfl) ⟨ok_le rfl, ok_le rfl, ok_le rfl, ok_le rfl⟩ rfl rfl dX4_edge_113 ?_
            refine g_nm (fun v15_ hv15_ => ?_)
            refine g_icmpeq E 122 dX4_edge_116 (by decide) (fun c_116 => ?_) (fun c_116 => ?_)
            · skip
              refine g_iinc E (j := 6) (v := (nI (k + 1))) (lv' := [(4, .int (nI (k + 1))), (6, .int (v9_ + (step * (nI k)))), (5, .int (v1_ + (step * (nI k)))), (0, .ref (x 0)), (1, .int axis), (2, .int up), (3, .int step)]) dX4_edge_122 rfl (nI_1 _) (by decide) rfl ?_
              refine g_goto E 37 dX4_edge_125 (by decide) ?_
              refine g_lvs (lv' := [(0, .ref (x 0)), (1, .int axis), (2, .int up), (3, .int step), (4, .int (nI (k + 1)))]) [3, 4, 5, 6, 0] rfl ?_
              subst hv15_
              subst hv14_
              subst hv13_
              subst hv9_
              subst hv1_
              exact ih (k + 1) step (by omega) (by omega) (fun pc_ lv_ v_ u_ h1_ h2_ h3_ h4_ => RET pc_ lv_ v_ u_ h1_ h2_ (h3_.trans (by rw [r_X4_edge_at37, if_neg c_42, if_pos c_53, if_pos c_76, if_neg c_97, if_pos c_116])) h4_)
            · skip
              refine g_iload E 6 dX4_edge_119 rfl ?_
              subst hv15_
              subst hv14_
              subst hv13_
              subst hv9_
              subst hv1_
              exact RET 121 _ (nI k) _ dX4_edge_121 rfl (by rw [r_X4_edge_at37, if_neg c_42, if_pos c_53, if_pos c_76, if_neg c_97, if_neg c_116]) rfl
set_option maxHeartbeats 1000000 in
set_option maxRecDepth 100000 in
theorem s_X4_edge_0 (d : gD) (x : Nat → Nat) (a : Nat → Nat) (b : Nat → Nat) (c : Nat → Nat) (e : Nat → Nat) (axis : Int32) (up : Int32) (p : Nat → Nat → Nat) (q : Nat → Nat → Nat) (S : SS) (T : SS) (h : Nat → Int32) (t : Nat → Int32) (y : HS) (ss : Nat → Option SS)   {X : gX} (E : gE d X RX4 cX4_edge 7 R_X4_edge) (RET : ∀ (pc_ : Nat) (lv_ : List (Nat × Value)) (v_ : Int32) (u_ : va_W), decode cX4_edge pc_ = .ok (.ireturn, 1) → narrow .int (.int v_) = .int v_ → v_ = r_X4_edge axis up S → u_ = XW d (x, a, b, c, e) p q S T h t y ss → G d X u_ R_X4_edge.cells R_X4_edge.slots pc_ lv_ [.int v_]) : G d X (XW d (x, a, b, c, e) p q S T h t y ss) 0 0 0 [(0, .ref (x 0)), (1, .int axis), (2, .int up)] [] := by
  refine g_iload_n E 1 dX4_edge_0 rfl rfl ?_
  refine g_ifeq E 11 dX4_edge_1 (by decide) (fun c_1 => ?_) (fun c_1 => ?_)
  · skip
    refine g_iload_n E 2 dX4_edge_11 rfl rfl ?_
    refine g_ifeq E 23 dX4_edge_12 (by decide) (fun c_12 => ?_) (fun c_12 => ?_)
    · skip
      refine g_iload_n E 2 dX4_edge_23 rfl rfl ?_
      refine g_iconst E 1 dX4_edge_24 (by decide) ?_
      refine g_icmpne E 32 dX4_edge_25 (by decide) (fun c_25 => ?_) (fun c_25 => ?_)
      · skip
        refine g_iconst E (-1) dX4_edge_32 (by decide) ?_
        refine g_istore_n E (lv' := [(3, .int (-1)), (0, .ref (x 0)), (1, .int axis), (2, .int up)]) dX4_edge_33 rfl (by decide) rfl ?_
        refine g_iconst E 1 dX4_edge_34 (by decide) ?_
        refine g_istore E (lv' := [(4, .int 1), (3, .int (-1)), (0, .ref (x 0)), (1, .int axis), (2, .int up)]) dX4_edge_35 (by decide) rfl ?_
        refine g_lvs (lv' := [(0, .ref (x 0)), (1, .int axis), (2, .int up), (3, .int (-1)), (4, .int 1)]) [2, 3, 4, 1, 0] rfl ?_
        exact s_X4_edge_37 d x a b c e axis up p q S T h t y ss  E 257 1 (-1) (by omega) (by omega) (fun pc_ lv_ v_ u_ h1_ h2_ h3_ h4_ => RET pc_ lv_ v_ u_ h1_ h2_ (h3_.trans (by rw [r_X4_edge, if_pos c_1, if_pos c_12, if_neg c_25])) h4_)
      · skip
        refine g_iconst E 1 dX4_edge_28 (by decide) ?_
        refine g_goto E 33 dX4_edge_29 (by decide) ?_
        refine g_istore_n E (lv' := [(3, .int 1), (0, .ref (x 0)), (1, .int axis), (2, .int up)]) dX4_edge_33 rfl (by decide) rfl ?_
        refine g_iconst E 1 dX4_edge_34 (by decide) ?_
        refine g_istore E (lv' := [(4, .int 1), (3, .int 1), (0, .ref (x 0)), (1, .int axis), (2, .int up)]) dX4_edge_35 (by decide) rfl ?_
        refine g_lvs (lv' := [(0, .ref (x 0)), (1, .int axis), (2, .int up), (3, .int 1), (4, .int 1)]) [2, 3, 4, 1, 0] rfl ?_
        exact s_X4_edge_37 d x a b c e axis up p q S T h t y ss  E 257 1 1 (by omega) (by omega) (fun pc_ lv_ v_ u_ h1_ h2_ h3_ h4_ => RET pc_ lv_ v_ u_ h1_ h2_ (h3_.trans (by rw [r_X4_edge, if_pos c_1, if_pos c_12, if_pos c_25])) h4_)
    · skip
      refine g_iload_n E 2 dX4_edge_15 rfl rfl ?_
      refine g_iconst E 1 dX4_edge_16 (by decide) ?_
      refine g_icmpeq E 23 dX4_edge_17 (by decide) (fun c_17 => ?_) (fun c_17 => ?_)
      · skip
        refine g_iload_n E 2 dX4_edge_23 rfl rfl ?_
        refine g_iconst E 1 dX4_edge_24 (by decide) ?_
        refine g_icmpne E 32 dX4_edge_25 (by decide) (fun c_25 => ?_) (fun c_25 => ?_)
        · skip
          refine g_iconst E (-1) dX4_edge_32 (by decide) ?_
          refine g_istore_n E (lv' := [(3, .int (-1)), (0, .ref (x 0)), (1, .int axis), (2, .int up)]) dX4_edge_33 rfl (by decide) rfl ?_
          refine g_iconst E 1 dX4_edge_34 (by decide) ?_
          refine g_istore E (lv' := [(4, .int 1), (3, .int (-1)), (0, .ref (x 0)), (1, .int axis), (2, .int up)]) dX4_edge_35 (by decide) rfl ?_
          refine g_lvs (lv' := [(0, .ref (x 0)), (1, .int axis), (2, .int up), (3, .int (-1)), (4, .int 1)]) [2, 3, 4, 1, 0] rfl ?_
          exact s_X4_edge_37 d x a b c e axis up p q S T h t y ss  E 257 1 (-1) (by omega) (by omega) (fun pc_ lv_ v_ u_ h1_ h2_ h3_ h4_ => RET pc_ lv_ v_ u_ h1_ h2_ (h3_.trans (by rw [r_X4_edge, if_pos c_1, if_neg c_12, if_pos c_17, if_neg c_25])) h4_)
        · skip
          refine g_iconst E 1 dX4_edge_28 (by decide) ?_
          refine g_goto E 33 dX4_edge_29 (by decide) ?_
          refine g_istore_n E (lv' := [(3, .int 1), (0, .ref (x 0)), (1, .int axis), (2, .int up)]) dX4_edge_33 rfl (by decide) rfl ?_
          refine g_iconst E 1 dX4_edge_34 (by decide) ?_
          refine g_istore E (lv' := [(4, .int 1), (3, .int 1), (0, .ref (x 0)), (1, .int axis), (2, .int up)]) dX4_edge_35 (by decide) rfl ?_
          refine g_lvs (lv' := [(0, .ref (x 0)), (1, .int axis), (2, .int up), (3, .int 1), (4, .int 1)]) [2, 3, 4, 1, 0] rfl ?_
          exact s_X4_edge_37 d x a b c e axis up p q S T h t y ss  E 257 1 1 (by omega) (by omega) (fun pc_ lv_ v_ u_ h1_ h2_ h3_ h4_ => RET pc_ lv_ v_ u_ h1_ h2_ (h3_.trans (by rw [r_X4_edge, if_pos c_1, if_neg c_12, if_pos c_17, if_pos c_25])) h4_)
      · skip
        refine g_bipush E (-2) dX4_edge_20 (by decide) ?_
        exact RET 22 _ (-2) _ dX4_edge_22 rfl (by rw [r_X4_edge, if_pos c_1, if_neg c_12, if_neg c_17]) rfl
  · skip
    refine g_iload_n E 1 dX4_edge_4 rfl rfl ?_
    refine g_iconst E 1 dX4_edge_5 (by decide) ?_
    refine g_icmpeq E 11 dX4_edge_6 (by decide) (fun c_6 => ?_) (fun c_6 => ?_)
    · skip
      refine g_iload_n E 2 dX4_edge_11 rfl rfl ?_
      refine g_ifeq E 23 dX4_edge_12 (by decide) (fun c_12 => ?_) (fun c_12 => ?_)
      · skip
        refine g_iload_n E 2 dX4_edge_23 rfl rfl ?_
        refine g_iconst E 1 dX4_edge_24 (by decide) ?_
        refine g_icmpne E 32 dX4_edge_25 (by decide) (fun c_25 => ?_) (fun c_25 => ?_)
        · skip
          refine g_iconst E (-1) dX4_edge_32 (by decide) ?_
          refine g_istore_n E (lv' := [(3, .int (-1)), (0, .ref (x 0)), (1, .int axis), (2, .int up)]) dX4_edge_33 rfl (by decide) rfl ?_
          refine g_iconst E 1 dX4_edge_34 (by decide) ?_
          refine g_istore E (lv' := [(4, .int 1), (3, .int (-1)), (0, .ref (x 0)), (1, .int axis), (2, .int up)]) dX4_edge_35 (by decide) rfl ?_
          refine g_lvs (lv' := [(0, .ref (x 0)), (1, .int axis), (2, .int up), (3, .int (-1)), (4, .int 1)]) [2, 3, 4, 1, 0] rfl ?_
          exact s_X4_edge_37 d x a b c e axis up p q S T h t y ss  E 257 1 (-1) (by omega) (by omega) (fun pc_ lv_ v_ u_ h1_ h2_ h3_ h4_ => RET pc_ lv_ v_ u_ h1_ h2_ (h3_.trans (by rw [r_X4_edge, if_neg c_1, if_pos c_6, if_pos c_12, if_neg c_25])) h4_)
        · skip
          refine g_iconst E 1 dX4_edge_28 (by decide) ?_
          refine g_goto E 33 dX4_edge_29 (by decide) ?_
          refine g_istore_n E (lv' := [(3, .int 1), (0, .ref (x 0)), (1, .int axis), (2, .int up)]) dX4_edge_33 rfl (by decide) rfl ?_
          refine g_iconst E 1 dX4_edge_34 (by decide) ?_
          refine g_istore E (lv' := [(4, .int 1), (3, .int 1), (0, .ref (x 0)), (1, .int axis), (2, .int up)]) dX4_edge_35 (by decide) rfl ?_
          refine g_lvs (lv' := [(0, .ref (x 0)), (1, .int axis), (2, .int up), (3, .int 1), (4, .int 1)]) [2, 3, 4, 1, 0] rfl ?_
          exact s_X4_edge_37 d x a b c e axis up p q S T h t y ss  E 257 1 1 (by omega) (by omega) (fun pc_ lv_ v_ u_ h1_ h2_ h3_ h4_ => RET pc_ lv_ v_ u_ h1_ h2_ (h3_.trans (by rw [r_X4_edge, if_neg c_1, if_pos c_6, if_pos c_12, if_pos c_25])) h4_)
      · skip
        refine g_iload_n E 2 dX4_edge_15 rfl rfl ?_
        refine g_iconst E 1 dX4_edge_16 (by decide) ?_
        refine g_icmpeq E 23 dX4_edge_17 (by decide) (fun c_17 => ?_) (fun c_17 => ?_)
        · skip
          refine g_iload_n E 2 dX4_edge_23 rfl rfl ?_
          refine g_iconst E 1 dX4_edge_24 (by decide) ?_
          refine g_icmpne E 32 dX4_edge_25 (by decide) (fun c_25 => ?_) (fun c_25 => ?_)
          · skip
            refine g_iconst E (-1) dX4_edge_32 (by decide) ?_
            refine g_istore_n E (lv' := [(3, .int (-1)), (0, .ref (x 0)), (1, .int axis), (2, .int up)]) dX4_edge_33 rfl (by decide) rfl ?_
            refine g_iconst E 1 dX4_edge_34 (by decide) ?_
            refine g_istore E (lv' := [(4, .int 1), (3, .int (-1)), (0, .ref (x 0)), (1, .int axis), (2, .int up)]) dX4_edge_35 (by decide) rfl ?_
            refine g_lvs (lv' := [(0, .ref (x 0)), (1, .int axis), (2, .int up), (3, .int (-1)), (4, .int 1)]) [2, 3, 4, 1, 0] rfl ?_
            exact s_X4_edge_37 d x a b c e axis up p q S T h t y ss  E 257 1 (-1) (by omega) (by omega) (fun pc_ lv_ v_ u_ h1_ h2_ h3_ h4_ => RET pc_ lv_ v_ u_ h1_ h2_ (h3_.trans (by rw [r_X4_edge, if_neg c_1, if_pos c_6, if_neg c_12, if_pos c_17, if_neg c_25])) h4_)
          · skip
            refine g_iconst E 1 dX4_edge_28 (by decide) ?_
            refine g_goto E 33 dX4_edge_29 (by decide) ?_
            refine g_istore_n E (lv' := [(3, .int 1), (0, .ref (x 0)), (1, .int axis), (2, .int up)]) dX4_edge_33 rfl (by decide) rfl ?_
            refine g_iconst E 1 dX4_edge_34 (by decide) ?_
            refine g_istore E (lv' := [(4, .int 1), (3, .int 1), (0, .ref (x 0)), (1, .int axis), (2, .int up)]) dX4_edge_35 (by decide) rfl ?_
            refine g_lvs (lv' := [(0, .ref (x 0)), (1, .int axis), (2, .int up), (3, .int 1), (4, .int 1)]) [2, 3, 4, 1, 0] rfl ?_
            exact s_X4_edge_37 d x a b c e axis up p q S T h t y ss  E 257 1 1 (by omega) (by omega) (fun pc_ lv_ v_ u_ h1_ h2_ h3_ h4_ => RET pc_ lv_ v_ u_ h1_ h2_ (h3_.trans (by rw [r_X4_edge, if_neg c_1, if_pos c_6, if_neg c_12, if_pos c_17, if_pos c_25])) h4_)
        · skip
          refine g_bipush E (-2) dX4_edge_20 (by decide) ?_
          exact RET 22 _ (-2) _ dX4_edge_22 rfl (by rw [r_X4_edge, if_neg c_1, if_pos c_6, if_neg c_12, if_neg c_17]) rfl
    · skip
      refine g_iconst E (-1) dX4_edge_9 (by decide) ?_
      exact RET 10 _ (-1) _ dX4_edge_10 rfl (by rw [r_X4_edge, if_neg c_1, if_neg c_6]) rfl
set_option maxHeartbeats 1000000 in
set_option maxRecDepth 100000 in
theorem t_X4_edge (d : gD) (x : Nat → Nat) (a : Nat → Nat) (b : Nat → Nat) (c : Nat → Nat) (e : Nat → Nat) (axis : Int32) (up : Int32) (p : Nat → Nat → Nat) (q : Nat → Nat → Nat) (S : SS) (T : SS) (h : Nat → Int32) (t : Nat → Int32) (y : HS) (ss : Nat → Option SS)  : gMi d yX4_edge cX4_edge 7 (some .int) R_X4_edge [.ref (x 0), .int axis, .int up] (XW d (x, a, b, c, e) p q S T h t y ss) (fun r_ u_ => r_ = r_X4_edge axis up S ∧ u_ = XW d (x, a, b, c, e) p q S T h t y ss) :=
  g_met_i RX4 rfl (by decide +kernel) (Nat.le_of_ble_eq_true rfl) [(0, .ref (x 0)), (1, .int axis), (2, .int up)] rfl (fun X E RET => s_X4_edge_0 d x a b c e axis up p q S T h t y ss  E (fun pc_ lv_ v_ u_ h1_ h2_ h3_ h4_ => RET pc_ lv_ v_ u_ h1_ h2_ ⟨h3_, h4_⟩))
abbrev R_X4_undo : Room := { frames := 4, cells := 0, slots := 0, locals := 86 }
def r_X4_undo (S : SS) (y : HS) : Int32 := (r_X1_takeBack y S)
def c_X4_undo_1 (S : SS) (y : HS) : SS := (c_X1_takeBack_S y S)
def c_X4_undo_y (S : SS) (y : HS) : HS := (c_X1_takeBack_y y S)
set_option maxHeartbeats 1000000 in
set_option maxRecDepth 100000 in
theorem s_X4_undo_0 (d : gD) (x : Nat → Nat) (a : Nat → Nat) (b : Nat → Nat) (c : Nat → Nat) (e : Nat → Nat) (p : Nat → Nat → Nat) (q : Nat → Nat → Nat) (S : SS) (T : SS) (h : Nat → Int32) (t : Nat → Int32) (y : HS) (ss : Nat → Option SS) (hy : y.1 < 6 ∧ y.2.1 ≤ 6)  {X : gX} (E : gE d X RX4 cX4_undo 1 R_X4_undo) (RET : ∀ (pc_ : Nat) (lv_ : List (Nat × Value)) (v_ : Int32) (u_ : va_W), decode cX4_undo pc_ = .ok (.ireturn, 1) → narrow .int (.int v_) = .int v_ → v_ = r_X4_undo S y → u_ = XW d (x, a, b, c, e) p q (c_X4_undo_1 S y) T h t (c_X4_undo_y S y) ss → G d X u_ R_X4_undo.cells R_X4_undo.slots pc_ lv_ [.int v_]) : G d X (XW d (x, a, b, c, e) p q S T h t y ss) 0 0 0 [(0, .ref (x 0))] [] := by
  refine g_aload_n E 0 dX4_undo_0 rfl rfl ?_
  refine g_get E (ci := 4) inlX4 0 rfl rfl 3 (by decide) fl_X4_29 rfl (.ref (e 0)) rfl dX4_undo_1 ?_
  refine g_aload_n E 0 dX4_undo_4 rfl rfl ?_
  refine g_get E (ci := 4) inlX4 0 rfl rfl 0 (by decide) fl_X4_10 rfl (.ref (a 0)) rfl dX4_undo_5 ?_
  refine g_eq (ws' := XO d x a b c e (qf q ss) ++ (SK d a S ++ (SK d b T ++ (PK d c h t ++ (HP d e p y ++ PL d q ss 2))))) rfl ?_
  refine g_perm (ws' := (HP d e p y ++ SK d a S) ++ (XO d x a b c e (qf q ss) ++ (SK d b T ++ (PK d c h t ++ PL d q ss 2)))) px41 ?_
  refine g_callViD E (wr := XO d x a b c e (qf q ss) ++ (SK d b T ++ (PK d c h t ++ PL d q ss 2))) gc_X1_takeBack ml_X4_176 (t2_X1_takeBack d e a p y S hy.1 hy.2) rfl rfl (ci := 1) 0 rfl rfl rfl rfl (ok_le rfl) ⟨ok_le rfl, ok_le rfl, ok_le rfl, ok_le rfl⟩ rfl rfl dX4_undo_8 ?_
  refine g_perm (ws' := XO d x a b c e (qf q ss) ++ (SK d a (c_X1_takeBack_S y S) ++ (SK d b T ++ (PK d c h t ++ (HP d e p (c_X1_takeBack_y y S) ++ PL d q ss 2))))) px41.symm ?_
  refine g_eq (ws' := XW d (x, a, b, c, e) p q (c_X1_takeBack_S y S) T h t (c_X1_takeBack_y y S) ss) rfl ?_
  obtain ⟨S1_, hS1_⟩ : ∃ z, c_X1_takeBack_y y S = z := ⟨_, rfl⟩
  rw [hS1_]
  obtain ⟨S2_, hS2_⟩ : ∃ z, c_X1_takeBack_S y S = z := ⟨_, rfl⟩
  rw [hS2_]
  refine g_nm (fun v3_ hv3_ => ?_)
  subst hv3_
  subst hS2_
  subst hS1_
  exact RET 11 _ (r_X1_takeBack y S) _ dX4_undo_11 rfl (by rw [r_X4_undo]) (by rw [c_X4_undo_1, c_X4_undo_y])
set_option maxHeartbeats 1000000 in
set_option maxRecDepth 100000 in
theorem t_X4_undo (d : gD) (x : Nat → Nat) (a : Nat → Nat) (b : Nat → Nat) (c : Nat → Nat) (e : Nat → Nat) (p : Nat → Nat → Nat) (q : Nat → Nat → Nat) (S : SS) (T : SS) (h : Nat → Int32) (t : Nat → Int32) (y : HS) (ss : Nat → Option SS) (hy : y.1 < 6 ∧ y.2.1 ≤ 6) : gMi d yX4_undo cX4_undo 1 (some .int) R_X4_undo [.ref (x 0)] (XW d (x, a, b, c, e) p q S T h t y ss) (fun r_ u_ => r_ = r_X4_undo S y ∧ u_ = XW d (x, a, b, c, e) p q (c_X4_undo_1 S y) T h t (c_X4_undo_y S y) ss) :=
  g_met_i RX4 rfl (by decide +kernel) (Nat.le_of_ble_eq_true rfl) [(0, .ref (x 0))] rfl (fun X E RET => s_X4_undo_0 d x a b c e p q S T h t y ss hy E (fun pc_ lv_ v_ u_ h1_ h2_ h3_ h4_ => RET pc_ lv_ v_ u_ h1_ h2_ ⟨h3_, h4_⟩))
