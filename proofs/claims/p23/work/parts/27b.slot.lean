theorem pm_s {α : Type} {K A X B P H L Q : List α} (h : (K ++ L).Perm Q) : ((K ++ A) ++ (X ++ (B ++ (P ++ (H ++ L))))).Perm (X ++ (A ++ (B ++ (P ++ (H ++ Q))))) := by
  have h1 : (X ++ (A ++ (B ++ (P ++ (H ++ Q))))).Perm (X ++ (A ++ (B ++ (P ++ (H ++ (K ++ L)))))) := ((((h.symm.append_left H).append_left P).append_left B).append_left A).append_left X
  have h2 : (B ++ (P ++ (H ++ (K ++ L)))).Perm (K ++ (B ++ (P ++ (H ++ L)))) := px3
  have h3 : (A ++ (B ++ (P ++ (H ++ (K ++ L))))).Perm (K ++ (A ++ (B ++ (P ++ (H ++ L))))) := (h2.append_left A).trans px1
  have h4 : (X ++ (A ++ (B ++ (P ++ (H ++ (K ++ L)))))).Perm (K ++ (A ++ (X ++ (B ++ (P ++ (H ++ L)))))) := ((h3.append_left X).trans px1).trans (px1.append_left K)
  rw [List.append_assoc]
  exact (h1.trans h4).symm
theorem pm_t {α : Type} {K A X B P H L Q : List α} (h : (K ++ L).Perm Q) : ((A ++ K) ++ (X ++ (B ++ (P ++ (H ++ L))))).Perm (X ++ (A ++ (B ++ (P ++ (H ++ Q))))) := (List.perm_append_comm.append_right _).trans (pm_s h)
theorem pm_u {α : Type} {K A X R : List α} : (K ++ (X ++ (A ++ R))).Perm ((K ++ A) ++ (X ++ R)) := by
  rw [List.append_assoc]
  exact px1.append_left K
def r_X4_save (slot : Int32) (S : SS) : Int32 := if slot < 0 then -2 else (if slot < 2 then S.1 21 else -2)
def c_X4_save_ss (slot : Int32) (S : SS) (ss : Nat → Option SS) : Nat → Option SS := if slot < 0 then ss else (if slot < 2 then sup ss slot.toNatClampNeg (some S) else ss)
abbrev R_X4_save : Room := { frames := 3, cells := 6, slots := 57, locals := 63 }
set_option maxHeartbeats 2000000 in
set_option maxRecDepth 100000 in
theorem s_X4_save_50 (d : gD) (x a b c e : Nat → Nat) (slot : Int32) (b1 : Nat) (p q : Nat → Nat → Nat) (S T : SS) (h t : Nat → Int32) (y : HS) (ss : Nat → Option SS) {X : gX} (E : gE d X RX4 cX4_save 3 R_X4_save) (RET : ∀ (pc : Nat) (lv : List (Nat × Value)) (v : Int32) (u : va_W), decode cX4_save pc = .ok (.ireturn, 1) → narrow .int (.int v) = .int v → v = S.1 21 → u = XW d (x, a, b, c, e) p q S T h t y ss → G d X u R_X4_save.cells R_X4_save.slots pc lv [.int v]) : G d X (XW d (x, a, b, c, e) p q S T h t y ss) 6 57 50 [(0, .ref (x 0)), (1, .int slot), (2, .ref b1)] [] := by
  refine g_aload_n E 0 dX4_save_50 rfl rfl ?_
  refine g_get E (ci := 4) inlX4 0 rfl rfl 0 (by decide) fl_X4_10 rfl (.ref (a 0)) rfl dX4_save_51 ?_
  refine g_getN E (ci := 3) inlX3 6 rfl rfl 11 (by decide) (List.mem_of_getElem? (i := 3) rfl) rfl (.int (S.1 21)) rfl dX4_save_54 ?_
  exact RET 57 _ _ _ dX4_save_57 rfl rfl rfl
set_option maxHeartbeats 2000000 in
set_option maxRecDepth 100000 in
theorem t_X4_save (d : gD) (x a b c e : Nat → Nat) (slot : Int32) (p q : Nat → Nat → Nat) (S T : SS) (h t : Nat → Int32) (y : HS) (ss : Nat → Option SS) : gMi d yX4_save cX4_save 3 (some .int) R_X4_save [.ref (x 0), .int slot] (XW d (x, a, b, c, e) p q S T h t y ss) (fun r u => r = r_X4_save slot S ∧ ∃ q', u = XW d (x, a, b, c, e) p q' S T h t y (c_X4_save_ss slot S ss)) := by
  refine g_met_i RX4 rfl (by decide +kernel) (Nat.le_of_ble_eq_true rfl) [(0, .ref (x 0)), (1, .int slot)] rfl (fun X E RET => ?_)
  refine g_iload_n E 1 dX4_save_0 rfl rfl ?_
  refine g_iflt E 13 dX4_save_1 (by decide) (fun c0 => ?_) (fun c0 => ?_)
  · refine g_bipush E (-2) dX4_save_13 (by decide) ?_
    refine g_widen (k1 := R_X4_save.cells) (n1 := R_X4_save.slots) (ok_le rfl) (ok_le rfl) ?_
    exact RET 15 _ _ _ dX4_save_15 rfl ⟨by rw [r_X4_save, if_pos c0], q, by rw [c_X4_save_ss, if_pos c0]⟩
  refine g_iload_n E 1 dX4_save_4 rfl rfl ?_
  refine g_aload_n E 0 dX4_save_5 rfl rfl ?_
  refine g_get E (ci := 4) inlX4 0 rfl rfl 4 (by decide) fl_X4_33 rfl (.ref (x 1)) rfl dX4_save_6 ?_
  refine g_alen E 1 3 rfl rfl 2 rfl dX4_save_9 ?_
  refine g_icmplt E 16 dX4_save_10 (by decide) (fun c1 => ?_) (fun c1 => ?_)
  · obtain ⟨i, hi⟩ : ∃ i, slot.toNatClampNeg = i := ⟨_, rfl⟩
    have hsl : slot = nI i := by rw [← hi]; exact ix_eq c0
    have hi2 : i < 2 := by rw [← hi]; exact ix_lt (N := 2) c0 c1
    have hr : r_X4_save slot S = S.1 21 := by rw [r_X4_save, if_neg c0, if_pos c1]
    have hc : c_X4_save_ss slot S ss = sup ss i (some S) := by rw [c_X4_save_ss, if_neg c0, if_pos c1, hi]
    rw [hr, hc] at RET
    refine g_aload_n E 0 dX4_save_16 rfl rfl ?_
    refine g_get E (ci := 4) inlX4 0 rfl rfl 4 (by decide) fl_X4_33 rfl (.ref (x 1)) rfl dX4_save_17 ?_
    refine g_iload_n E 1 dX4_save_20 rfl rfl ?_
    refine g_aald E 1 rfl rfl i hsl hi2 (by decide) dX4_save_21 ?_
    cases hT : ss i with
    | some T0 =>
      refine g_st (st' := [.ref (q i 0)]) (by unfold qf; rw [hT]; rfl) ?_
      refine g_astore_n E (lv' := [(2, .ref (q i 0)), (0, .ref (x 0)), (1, .int slot)]) dX4_save_22 rfl (by decide) rfl ?_
      refine g_aload_n E 0 dX4_save_23 rfl rfl ?_
      refine g_ifnonnull E 42 dX4_save_24 (by decide) ?_
      refine g_aload_n E 0 dX4_save_42 rfl rfl ?_
      refine g_aload_n E 1 dX4_save_43 rfl rfl ?_
      refine g_get E (ci := 4) inlX4 0 rfl rfl 0 (by decide) fl_X4_10 rfl (.ref (a 0)) rfl dX4_save_44 ?_
      refine g_eq (ws' := XO d x a b c e (qf q ss) ++ (SK d a S ++ (SK d b T ++ (PK d c h t ++ (HP d e p y ++ PL d q ss 2))))) rfl ?_
      refine g_perm (ws' := (SK d (q i) T0 ++ SK d a S) ++ (XO d x a b c e (qf q ss) ++ (SK d b T ++ (PK d c h t ++ (HP d e p y ++ PL d q (sup ss i none) 2))))) (pm_s (PL_take d q ss hT 2 hi2).symm).symm ?_
      refine g_callVvD E gc_X3_becomeLike ml_X4_115 (t2_X3_becomeLike d (q i) a T0 S) rfl rfl (ci := 3) 4 rfl rfl rfl rfl (ok_le rfl) ⟨ok_le rfl, ok_le rfl, ok_le rfl, ok_le rfl⟩ rfl rfl dX4_save_47 ?_
      refine g_perm (ws' := XO d x a b c e (qf q ss) ++ (SK d a S ++ (SK d b T ++ (PK d c h t ++ (HP d e p y ++ PL d (pup q i (q i)) (sup ss i (some S)) 2))))) (pm_s (by rw [← sup_sup ss i none (some S)]; exact PL_put d q (sup ss i none) (sup_at _ _ _) (q i) S 2 hi2)) ?_
      refine g_eq (ws' := XW d (x, a, b, c, e) p (pup q i (q i)) S T h t y (sup ss i (some S))) (by rw [qf_same q ss hT S]; rfl) ?_
      refine g_widen (k1 := 6) (n1 := 57) (ok_le rfl) (ok_le rfl) ?_
      refine g_lvs (lv' := [(0, .ref (x 0)), (1, .int slot), (2, .ref (q i 0))]) [1, 2, 0] rfl ?_
      exact s_X4_save_50 d x a b c e slot (q i 0) p _ S T h t y _ E (fun pc lv v u h1 h2 h3 h4 => RET pc lv v u h1 h2 ⟨h3, _, h4⟩)
    | none =>
      refine g_st (st' := [.null]) (by unfold qf; rw [hT]; rfl) ?_
      refine g_astore_nN E (lv' := [(2, .null), (0, .ref (x 0)), (1, .int slot)]) dX4_save_22 rfl (by decide) rfl ?_
      refine g_aload_nN E 0 dX4_save_23 rfl rfl ?_
      refine g_ifnonnullN E dX4_save_24 ?_
      refine g_new E (T := TX3) (N := 17) (ci := 3) inlX3 tyX3 tyX3_ok cl_X4_7 ib_RX3 it_RX3 rfl dfX3 dvX3 (ok_le rfl) (ok_le rfl) dX4_save_27 (fun n _ => ?_)
      refine g_dup E dX4_save_30 rfl ?_
      refine g_perm (ws' := [(n, .inr (3, dfX3))] ++ (XW d (x, a, b, c, e) p q S T h t y ss)) List.perm_append_comm ?_
      refine g_callIv E gc_X3_init ml_X4_9 (t_X3_init d n) rfl rfl rfl rfl (ok_le rfl) ⟨ok_le rfl, ok_le rfl, ok_le rfl, ok_le rfl⟩ rfl rfl dX4_save_31 ?_
      rintro u ⟨b1, eb, rfl⟩
      subst eb
      refine g_astore_n E (lv' := [(2, .ref (b1 0)), (0, .ref (x 0)), (1, .int slot)]) dX4_save_34 rfl (by decide) rfl ?_
      refine g_aload_n E 1 dX4_save_35 rfl rfl ?_
      refine g_get E (ci := 4) inlX4 6 rfl rfl 4 (by decide) fl_X4_33 rfl (.ref (x 1)) rfl dX4_save_36 ?_
      refine g_iload_n E 2 dX4_save_39 rfl rfl ?_
      refine g_aload_n E 0 dX4_save_40 rfl rfl ?_
      refine g_aast E 7 4 rfl rfl rfl i hsl hi2 (by decide) (ws' := SK d b1 S0 ++ (XO d x a b c e (va_up (qf q ss) i (some (b1 0))) ++ (SK d a S ++ (SK d b T ++ (PK d c h t ++ (HP d e p y ++ PL d q ss 2)))))) rfl dX4_save_41 ?_
      refine g_aload_n E 0 dX4_save_42 rfl rfl ?_
      refine g_aload_n E 1 dX4_save_43 rfl rfl ?_
      refine g_get E (ci := 4) inlX4 6 rfl rfl 0 (by decide) fl_X4_10 rfl (.ref (a 0)) rfl dX4_save_44 ?_
      refine g_perm (ws' := (SK d b1 S0 ++ SK d a S) ++ (XO d x a b c e (va_up (qf q ss) i (some (b1 0))) ++ (SK d b T ++ (PK d c h t ++ (HP d e p y ++ PL d q ss 2))))) pm_u ?_
      refine g_callVvD E gc_X3_becomeLike ml_X4_115 (t2_X3_becomeLike d b1 a S0 S) rfl rfl (ci := 3) 4 rfl rfl rfl rfl (ok_le rfl) ⟨ok_le rfl, ok_le rfl, ok_le rfl, ok_le rfl⟩ rfl rfl dX4_save_47 ?_
      refine g_perm (ws' := XO d x a b c e (va_up (qf q ss) i (some (b1 0))) ++ (SK d a S ++ (SK d b T ++ (PK d c h t ++ (HP d e p y ++ PL d (pup q i b1) (sup ss i (some S)) 2))))) (pm_s (PL_put d q ss hT b1 S 2 hi2)) ?_
      refine g_eq (ws' := XW d (x, a, b, c, e) p (pup q i b1) S T h t y (sup ss i (some S))) (by rw [qf_up q ss i b1 S]; rfl) ?_
      refine g_lvs (lv' := [(0, .ref (x 0)), (1, .int slot), (2, .ref (b1 0))]) [1, 2, 0] rfl ?_
      exact s_X4_save_50 d x a b c e slot (b1 0) p _ S T h t y _ E (fun pc lv v u h1 h2 h3 h4 => RET pc lv v u h1 h2 ⟨h3, _, h4⟩)
  · refine g_bipush E (-2) dX4_save_13 (by decide) ?_
    refine g_widen (k1 := R_X4_save.cells) (n1 := R_X4_save.slots) (ok_le rfl) (ok_le rfl) ?_
    exact RET 15 _ _ _ dX4_save_15 rfl ⟨by rw [r_X4_save, if_neg c0, if_neg c1], q, by rw [c_X4_save_ss, if_neg c0, if_neg c1]⟩
def rsT (slot : Int32) (ss : Nat → Option SS) : Option SS := if slot < 0 then none else (if slot < 2 then ss slot.toNatClampNeg else none)
def rsR (z : Option SS) : Int32 := match z with | none => -5 | some T => T.1 21
def rsS (S : SS) (z : Option SS) : SS := match z with | none => S | some T => T
def rsY (y : HS) (S : SS) (z : Option SS) : HS := match z with | none => y | some _ => c_X1_keep_y y S
def r_X4_restore (slot : Int32) (ss : Nat → Option SS) : Int32 := if slot < 0 then -2 else (if slot < 2 then rsR (ss slot.toNatClampNeg) else -2)
abbrev R_X4_restore : Room := { frames := 4, cells := 6, slots := 57, locals := 86 }
set_option maxHeartbeats 2000000 in
set_option maxRecDepth 100000 in
theorem t_X4_restore (d : gD) (x a b c e : Nat → Nat) (slot : Int32) (p q : Nat → Nat → Nat) (S T : SS) (h t : Nat → Int32) (y : HS) (ss : Nat → Option SS) (hy : y.1 < 6 ∧ y.2.1 ≤ 6) : gMi d yX4_restore cX4_restore 3 (some .int) R_X4_restore [.ref (x 0), .int slot] (XW d (x, a, b, c, e) p q S T h t y ss) (fun r u => r = r_X4_restore slot ss ∧ ∃ p', u = XW d (x, a, b, c, e) p' q (rsS S (rsT slot ss)) T h t (rsY y S (rsT slot ss)) ss) := by
  refine g_met_i RX4 rfl (by decide +kernel) (Nat.le_of_ble_eq_true rfl) [(0, .ref (x 0)), (1, .int slot)] rfl (fun X E RET => ?_)
  refine g_iload_n E 1 dX4_restore_0 rfl rfl ?_
  refine g_iflt E 13 dX4_restore_1 (by decide) (fun c0 => ?_) (fun c0 => ?_)
  · refine g_bipush E (-2) dX4_restore_13 (by decide) ?_
    refine g_widen (k1 := R_X4_restore.cells) (n1 := R_X4_restore.slots) (ok_le rfl) (ok_le rfl) ?_
    exact RET 15 _ _ _ dX4_restore_15 rfl ⟨by rw [r_X4_restore, if_pos c0], p, by rw [rsT, if_pos c0]; rfl⟩
  refine g_iload_n E 1 dX4_restore_4 rfl rfl ?_
  refine g_aload_n E 0 dX4_restore_5 rfl rfl ?_
  refine g_get E (ci := 4) inlX4 0 rfl rfl 4 (by decide) fl_X4_33 rfl (.ref (x 1)) rfl dX4_restore_6 ?_
  refine g_alen E 1 3 rfl rfl 2 rfl dX4_restore_9 ?_
  refine g_icmplt E 16 dX4_restore_10 (by decide) (fun c1 => ?_) (fun c1 => ?_)
  · obtain ⟨i, hi⟩ : ∃ i, slot.toNatClampNeg = i := ⟨_, rfl⟩
    have hsl : slot = nI i := by rw [← hi]; exact ix_eq c0
    have hi2 : i < 2 := by rw [← hi]; exact ix_lt (N := 2) c0 c1
    have hr : r_X4_restore slot ss = rsR (ss i) := by rw [r_X4_restore, if_neg c0, if_pos c1, hi]
    have hc : rsT slot ss = ss i := by rw [rsT, if_neg c0, if_pos c1, hi]
    rw [hr, hc] at RET
    refine g_aload_n E 0 dX4_restore_16 rfl rfl ?_
    refine g_get E (ci := 4) inlX4 0 rfl rfl 4 (by decide) fl_X4_33 rfl (.ref (x 1)) rfl dX4_restore_17 ?_
    refine g_iload_n E 1 dX4_restore_20 rfl rfl ?_
    refine g_aald E 1 rfl rfl i hsl hi2 (by decide) dX4_restore_21 ?_
    cases hT : ss i with
    | none =>
      rw [hT] at RET
      refine g_st (st' := [.null]) (by unfold qf; rw [hT]; rfl) ?_
      refine g_astore_nN E (lv' := [(2, .null), (0, .ref (x 0)), (1, .int slot)]) dX4_restore_22 rfl (by decide) rfl ?_
      refine g_aload_nN E 0 dX4_restore_23 rfl rfl ?_
      refine g_ifnonnullN E dX4_restore_24 ?_
      refine g_bipush E (-5) dX4_restore_27 (by decide) ?_
      refine g_widen (k1 := R_X4_restore.cells) (n1 := R_X4_restore.slots) (ok_le rfl) (ok_le rfl) ?_
      exact RET 29 _ _ _ dX4_restore_29 rfl ⟨rfl, p, rfl⟩
    | some T0 =>
      rw [hT] at RET
      refine g_st (st' := [.ref (q i 0)]) (by unfold qf; rw [hT]; rfl) ?_
      refine g_astore_n E (lv' := [(2, .ref (q i 0)), (0, .ref (x 0)), (1, .int slot)]) dX4_restore_22 rfl (by decide) rfl ?_
      refine g_aload_n E 0 dX4_restore_23 rfl rfl ?_
      refine g_ifnonnull E 30 dX4_restore_24 (by decide) ?_
      refine g_aload_n E 1 dX4_restore_30 rfl rfl ?_
      refine g_get E (ci := 4) inlX4 0 rfl rfl 3 (by decide) fl_X4_29 rfl (.ref (e 0)) rfl dX4_restore_31 ?_
      refine g_aload_n E 1 dX4_restore_34 rfl rfl ?_
      refine g_get E (ci := 4) inlX4 0 rfl rfl 0 (by decide) fl_X4_10 rfl (.ref (a 0)) rfl dX4_restore_35 ?_
      refine g_eq (ws' := XO d x a b c e (qf q ss) ++ (SK d a S ++ (SK d b T ++ (PK d c h t ++ (HP d e p y ++ PL d q ss 2))))) rfl ?_
      refine g_perm (ws' := (HP d e p y ++ SK d a S) ++ (XO d x a b c e (qf q ss) ++ (SK d b T ++ (PK d c h t ++ PL d q ss 2)))) px41 ?_
      refine g_callVv E (wr := XO d x a b c e (qf q ss) ++ (SK d b T ++ (PK d c h t ++ PL d q ss 2))) gc_X1_keep ml_X4_44 (t2_X1_keep d e a p y S hy.1 hy.2) rfl rfl (ci := 1) 0 rfl rfl rfl rfl (ok_le rfl) ⟨ok_le rfl, ok_le rfl, ok_le rfl, ok_le rfl⟩ rfl rfl dX4_restore_38 ?_
      rintro u ⟨p1, rfl⟩
      refine g_perm (ws' := XO d x a b c e (qf q ss) ++ (SK d a S ++ (SK d b T ++ (PK d c h t ++ (HP d e p1 (c_X1_keep_y y S) ++ PL d q ss 2))))) px41.symm ?_
      refine g_aload_n E 1 dX4_restore_41 rfl rfl ?_
      refine g_get E (ci := 4) inlX4 0 rfl rfl 0 (by decide) fl_X4_10 rfl (.ref (a 0)) rfl dX4_restore_42 ?_
      refine g_aload_n E 0 dX4_restore_45 rfl rfl ?_
      refine g_perm (ws' := (SK d a S ++ SK d (q i) T0) ++ (XO d x a b c e (qf q ss) ++ (SK d b T ++ (PK d c h t ++ (HP d e p1 (c_X1_keep_y y S) ++ PL d q (sup ss i none) 2))))) (pm_t (PL_take d q ss hT 2 hi2).symm).symm ?_
      refine g_callVvD E gc_X3_becomeLike ml_X4_115 (t2_X3_becomeLike d a (q i) S T0) rfl rfl (ci := 3) 4 rfl rfl rfl rfl (ok_le rfl) ⟨ok_le rfl, ok_le rfl, ok_le rfl, ok_le rfl⟩ rfl rfl dX4_restore_46 ?_
      refine g_perm (ws' := XO d x a b c e (qf q ss) ++ (SK d a T0 ++ (SK d b T ++ (PK d c h t ++ (HP d e p1 (c_X1_keep_y y S) ++ PL d q ss 2))))) (pm_t (PL_take d q ss hT 2 hi2).symm) ?_
      refine g_aload_n E 1 dX4_restore_49 rfl rfl ?_
      refine g_get E (ci := 4) inlX4 0 rfl rfl 0 (by decide) fl_X4_10 rfl (.ref (a 0)) rfl dX4_restore_50 ?_
      refine g_getN E (ci := 3) inlX3 6 rfl rfl 11 (by decide) (List.mem_of_getElem? (i := 3) rfl) rfl (.int (T0.1 21)) rfl dX4_restore_53 ?_
      exact RET 56 _ _ _ dX4_restore_56 rfl ⟨rfl, p1, rfl⟩
  · refine g_bipush E (-2) dX4_restore_13 (by decide) ?_
    refine g_widen (k1 := R_X4_restore.cells) (n1 := R_X4_restore.slots) (ok_le rfl) (ok_le rfl) ?_
    exact RET 15 _ _ _ dX4_restore_15 rfl ⟨by rw [r_X4_restore, if_neg c0, if_neg c1], p, by rw [rsT, if_neg c0, if_neg c1]; rfl⟩
