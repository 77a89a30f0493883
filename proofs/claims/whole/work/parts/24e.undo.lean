theorem nI_m1 {k : Nat} (h : 1 ≤ k) : nI k - 1 = nI (k - 1) := by
  obtain ⟨q, rfl⟩ : ∃ q, k = q + 1 := ⟨k - 1, by omega⟩
  rw [Nat.add_sub_cancel, nI_pred]
/-- a row that is written over, one by one, up to 61 -/
theorem pr_cong {r r' f : Nat → Int32} (h : ∀ j, j < 61 → r j = r' j) : pr 0 r f = pr 0 r' f := by
  funext j
  unfold pr
  by_cases c : 0 ≤ j ∧ j < 0 + 61
  · rw [if_pos c, if_pos c]
    exact h _ (by omega)
  · rw [if_neg c, if_neg c]
abbrev R_X5_undo : Room := { frames := 0, cells := 0, slots := 0, locals := 0 }
def r_X5_undo_at22 (r : Nat → Int32) (past : Nat → Int32) (kk : Nat) : Nat → (Nat) → (Nat → Int32) → Int32
  | 0, _, _ => 0
  | n + 1, k, r1 => if (nI k) < 61 then (r_X5_undo_at22 r past kk n (k + 1) (upd r1 k (past (61 * (kk - 1) + k)))) else (nI (kk - 1))
def c_X5_undo_s_at22 (r : Nat → Int32) (past : Nat → Int32) (kk : Nat) : Nat → (Nat) → (Nat → Int32) → Nat → Int32
  | 0, _, r1 => r1
  | n + 1, k, r1 => if (nI k) < 61 then (c_X5_undo_s_at22 r past kk n (k + 1) (upd r1 k (past (61 * (kk - 1) + k)))) else r1
def c_X5_undo_kn_at22 (r : Nat → Int32) (past : Nat → Int32) (kk : Nat) : Nat → (Nat) → (Nat → Int32) → Int32
  | 0, _, _ => 0
  | n + 1, k, r1 => if (nI k) < 61 then (c_X5_undo_kn_at22 r past kk n (k + 1) (upd r1 k (past (61 * (kk - 1) + k)))) else (nI (kk - 1))
def r_X5_undo (r : Nat → Int32) (past : Nat → Int32) (kk : Nat) : Int32 := if (nI kk) = 0 then (-5) else (r_X5_undo_at22 r past kk 62 0 r)
def c_X5_undo_s (r : Nat → Int32) (past : Nat → Int32) (kk : Nat) : Nat → Int32 := if (nI kk) = 0 then r else (c_X5_undo_s_at22 r past kk 62 0 r)
def c_X5_undo_kn (r : Nat → Int32) (past : Nat → Int32) (kk : Nat) : Int32 := if (nI kk) = 0 then (nI kk) else (c_X5_undo_kn_at22 r past kk 62 0 r)
set_option maxHeartbeats 1000000 in
set_option maxRecDepth 100000 in
theorem s_X5_undo_22 (d : gD) (a : Nat → Nat) (r : Nat → Int32) (f : Nat → Int32) (past : Nat → Int32) (kk : Nat) (sl : Nat → Int32) (sv : Nat → Int32) (pd : Nat → Int32) (ln : Int32) (hkk : kk ≤ 6) {X : gX} (E : gE d X RX5 cX5_undo 2 R_X5_undo) : ∀ (n : Nat) (k : Nat) (r1 : Nat → Int32) (hk : k ≤ 61) (hk1 : 1 ≤ kk) (hm : 61 - k < n) (RET : ∀ (pc_ : Nat) (lv_ : List (Nat × Value)) (v_ : Int32) (u_ : va_W), decode cX5_undo pc_ = .ok (.ireturn, 1) → narrow .int (.int v_) = .int v_ → v_ = r_X5_undo_at22 r past kk n k r1 → u_ = MW d a (pr 0 (c_X5_undo_s_at22 r past kk n k r1) f) (past, (c_X5_undo_kn_at22 r past kk n k r1), sl, sv, pd, ln) → G d X u_ R_X5_undo.cells R_X5_undo.slots pc_ lv_ [.int v_]), G d X (MW d a (pr 0 r1 f) (past, nI (kk - 1), sl, sv, pd, ln)) 0 0 22 [(0, .ref (a 0)), (1, .int (nI k))] [] := by
  intro n
  induction n with
  | zero => intro k r1 hk hk1 hm; omega
  | succ n ih =>
    intro k r1 hk hk1 hm RET
    refine g_iload_n E 1 dX5_undo_22 rfl rfl ?_
    refine g_bipush E 61 dX5_undo_23 (by decide) ?_
    refine g_icmpge E 54 dX5_undo_25 (by decide) (fun c_25 => ?_) (fun c_25 => ?_)
    · skip
      refine g_aload_n E 0 dX5_undo_54 rfl rfl ?_
      refine g_get E (ci := 5) inlX5 0 rfl rfl 2 (by decide) fl_X5_30 rfl (.int (nI (kk - 1))) rfl dX5_undo_55 ?_
      exact RET 58 _ (nI (kk - 1)) _ dX5_undo_58 rfl (by rw [r_X5_undo_at22, if_neg c_25]) (by rw [c_X5_undo_s_at22, if_neg c_25, c_X5_undo_kn_at22, if_neg c_25])
    · skip
      have k25 : k < 61 := (nI_ltI (a := k) (b := 61) (by omega) (by omega)).mp c_25
      refine g_aload_n E 0 dX5_undo_28 rfl rfl ?_
      refine g_get E (ci := 5) inlX5 0 rfl rfl 0 (by decide) fl_X5_7 rfl (.ref (a 1)) rfl dX5_undo_29 ?_
      refine g_iload_n E 1 dX5_undo_32 rfl rfl ?_
      refine g_aload_n E 0 dX5_undo_33 rfl rfl ?_
      refine g_get E (ci := 5) inlX5 0 rfl rfl 1 (by decide) fl_X5_13 rfl (.ref (a 2)) rfl dX5_undo_34 ?_
      refine g_bipush E 61 dX5_undo_37 (by decide) ?_
      refine g_aload_n E 0 dX5_undo_39 rfl rfl ?_
      refine g_get E (ci := 5) inlX5 0 rfl rfl 2 (by decide) fl_X5_30 rfl (.int (nI (kk - 1))) rfl dX5_undo_40 ?_
      refine g_imul E dX5_undo_43 ?_
      refine g_top (pk_mul 61 (kk - 1)) ?_
      refine g_iload_n E 1 dX5_undo_44 rfl rfl ?_
      refine g_iadd E dX5_undo_45 ?_
      refine g_top (nI_add (61 * (kk - 1)) k) ?_
      refine g_iald E 2 rfl rfl (61 * (kk - 1) + k) rfl (by omega) (by decide) dX5_undo_46 ?_
      refine g_mput E (p := 0) (r := r1) (f := f) 1 rfl rfl k (by rw [Nat.zero_add]) (by omega) (by omega) (ws' := MW d a (pr 0 (upd r1 k (past (61 * (kk - 1) + k))) f) (past, nI (kk - 1), sl, sv, pd, ln)) rfl dX5_undo_47 ?_
      refine g_iinc E (j := 1) (v := (nI (k + 1))) (lv' := [(1, .int (nI (k + 1))), (0, .ref (a 0))]) dX5_undo_48 rfl (nI_1 _) (by decide) rfl ?_
      refine g_goto E 22 dX5_undo_51 (by decide) ?_
      refine g_lvs (lv' := [(0, .ref (a 0)), (1, .int (nI (k + 1)))]) [1, 0] rfl ?_
      exact ih (k + 1) (upd r1 k (past (61 * (kk - 1) + k))) (by omega) hk1 (by omega) (fun pc_ lv_ v_ u_ h1_ h2_ h3_ h4_ => RET pc_ lv_ v_ u_ h1_ h2_ (h3_.trans (by rw [r_X5_undo_at22, if_pos c_25])) (h4_.trans (by rw [c_X5_undo_s_at22, if_pos c_25, c_X5_undo_kn_at22, if_pos c_25])))
set_option maxHeartbeats 1000000 in
set_option maxRecDepth 100000 in
theorem s_X5_undo_0 (d : gD) (a : Nat → Nat) (r : Nat → Int32) (f : Nat → Int32) (past : Nat → Int32) (kk : Nat) (sl : Nat → Int32) (sv : Nat → Int32) (pd : Nat → Int32) (ln : Int32) (hkk : kk ≤ 6)  {X : gX} (E : gE d X RX5 cX5_undo 2 R_X5_undo) (RET : ∀ (pc_ : Nat) (lv_ : List (Nat × Value)) (v_ : Int32) (u_ : va_W), decode cX5_undo pc_ = .ok (.ireturn, 1) → narrow .int (.int v_) = .int v_ → v_ = r_X5_undo r past kk → u_ = MW d a (pr 0 (c_X5_undo_s r past kk) f) (past, (c_X5_undo_kn r past kk), sl, sv, pd, ln) → G d X u_ R_X5_undo.cells R_X5_undo.slots pc_ lv_ [.int v_]) : G d X (MW d a (pr 0 r f) (past, nI kk, sl, sv, pd, ln)) 0 0 0 [(0, .ref (a 0))] [] := by
  refine g_aload_n E 0 dX5_undo_0 rfl rfl ?_
  refine g_get E (ci := 5) inlX5 0 rfl rfl 2 (by decide) fl_X5_30 rfl (.int (nI kk)) rfl dX5_undo_1 ?_
  refine g_ifne E 10 dX5_undo_4 (by decide) (fun c_4 => ?_) (fun c_4 => ?_)
  · skip
    have hk1 : 1 ≤ kk := by rcases Nat.eq_zero_or_pos kk with q | q; exact absurd (by rw [q]; rfl) c_4; exact q
    refine g_aload_n E 0 dX5_undo_10 rfl rfl ?_
    refine g_dup E dX5_undo_11 rfl ?_
    refine g_get E (ci := 5) inlX5 0 rfl rfl 2 (by decide) fl_X5_30 rfl (.int (nI kk)) rfl dX5_undo_12 ?_
    refine g_iconst E 1 dX5_undo_15 (by decide) ?_
    refine g_isub E dX5_undo_16 ?_
    refine g_top (b := (nI (kk - 1))) (nI_m1 hk1) ?_
    refine g_put E (ci := 5) inlX5 0 rfl rfl 2 (by decide) tyX5 tyX5_ok nmX5 fl_X5_30 rfl rfl rfl rfl (ok_lt rfl) (ws' := MW d a (pr 0 r f) (past, nI (kk - 1), sl, sv, pd, ln)) rfl dX5_undo_17 ?_
    refine g_iconst E 0 dX5_undo_20 (by decide) ?_
    refine g_istore_n E (lv' := [(1, .int 0), (0, .ref (a 0))]) dX5_undo_21 rfl (by decide) rfl ?_
    refine g_lvs (lv' := [(0, .ref (a 0)), (1, .int 0)]) [1, 0] rfl ?_
    exact s_X5_undo_22 d a r f past kk sl sv pd ln hkk E 62 0 r (by omega) hk1 (by omega) (fun pc_ lv_ v_ u_ h1_ h2_ h3_ h4_ => RET pc_ lv_ v_ u_ h1_ h2_ (h3_.trans (by rw [r_X5_undo, if_neg c_4])) (h4_.trans (by rw [c_X5_undo_s, if_neg c_4, c_X5_undo_kn, if_neg c_4])))
  · skip
    refine g_bipush E (-5) dX5_undo_7 (by decide) ?_
    exact RET 9 _ (-5) _ dX5_undo_9 rfl (by rw [r_X5_undo, if_pos c_4]) (by rw [c_X5_undo_s, if_pos c_4, c_X5_undo_kn, if_pos c_4])
set_option maxHeartbeats 1000000 in
set_option maxRecDepth 100000 in
theorem t_X5_undo (d : gD) (a : Nat → Nat) (r : Nat → Int32) (f : Nat → Int32) (past : Nat → Int32) (kk : Nat) (sl : Nat → Int32) (sv : Nat → Int32) (pd : Nat → Int32) (ln : Int32) (hkk : kk ≤ 6) : gMi d yX5_undo cX5_undo 2 (some .int) R_X5_undo [.ref (a 0)] (MW d a (pr 0 r f) (past, nI kk, sl, sv, pd, ln)) (fun r_ u_ => r_ = r_X5_undo r past kk ∧ u_ = MW d a (pr 0 (c_X5_undo_s r past kk) f) (past, (c_X5_undo_kn r past kk), sl, sv, pd, ln)) :=
  g_met_i RX5 rfl (by decide +kernel) (Nat.le_of_ble_eq_true rfl) [(0, .ref (a 0))] rfl (fun X E RET => s_X5_undo_0 d a r f past kk sl sv pd ln hkk E (fun pc_ lv_ v_ u_ h1_ h2_ h3_ h4_ => RET pc_ lv_ v_ u_ h1_ h2_ ⟨h3_, h4_⟩))
theorem und22 (r past : Nat → Int32) (kk : Nat) : ∀ (n k : Nat) (r1 : Nat → Int32), k ≤ 61 → 61 - k < n → ∀ j, c_X5_undo_s_at22 r past kk n k r1 j = if k ≤ j ∧ j < 61 then past (61 * (kk - 1) + j) else r1 j := by
  intro n
  induction n with
  | zero => intro k r1 hk h; omega
  | succ n ih =>
    intro k r1 hk h j
    rw [c_X5_undo_s_at22]
    by_cases c : nI k < 61
    · have hk2 : k < 61 := (nI_ltI (a := k) (b := 61) (by omega) (by omega)).mp c
      rw [if_pos c, ih (k + 1) _ (by omega) (by omega)]
      by_cases h1 : k + 1 ≤ j ∧ j < 61
      · rw [if_pos h1, if_pos (by omega)]
      · rw [if_neg h1]
        by_cases h2 : j = k
        · subst h2
          rw [if_pos (by omega)]
          exact if_pos rfl
        · rw [if_neg (show ¬ (k ≤ j ∧ j < 61) by omega)]
          exact if_neg h2
    · have hk2 : ¬ k < 61 := fun q => c ((nI_ltI (a := k) (b := 61) (by omega) (by omega)).mpr q)
      rw [if_neg c, if_neg (by omega)]
theorem und22r (r past : Nat → Int32) (kk : Nat) : ∀ (n k : Nat) (r1 : Nat → Int32), k ≤ 61 → 61 - k < n → r_X5_undo_at22 r past kk n k r1 = nI (kk - 1) := by
  intro n
  induction n with
  | zero => intro k r1 hk h; omega
  | succ n ih =>
    intro k r1 hk h
    rw [r_X5_undo_at22]
    by_cases c : nI k < 61
    · have hk2 : k < 61 := (nI_ltI (a := k) (b := 61) (by omega) (by omega)).mp c
      rw [if_pos c, ih (k + 1) _ (by omega) (by omega)]
    · rw [if_neg c]
theorem und22k (r past : Nat → Int32) (kk : Nat) : ∀ (n k : Nat) (r1 : Nat → Int32), k ≤ 61 → 61 - k < n → c_X5_undo_kn_at22 r past kk n k r1 = nI (kk - 1) := by
  intro n
  induction n with
  | zero => intro k r1 hk h; omega
  | succ n ih =>
    intro k r1 hk h
    rw [c_X5_undo_kn_at22]
    by_cases c : nI k < 61
    · have hk2 : k < 61 := (nI_ltI (a := k) (b := 61) (by omega) (by omega)).mp c
      rw [if_pos c, ih (k + 1) _ (by omega) (by omega)]
    · rw [if_neg c]
/-- undo where there is something to take back, and where there is nothing -/
theorem t2_X5_undo (d : gD) (a : Nat → Nat) (r f past : Nat → Int32) (kk : Nat) (sl sv pd : Nat → Int32) (ln : Int32) (hkk : kk ≤ 6) : gMi d yX5_undo cX5_undo 2 (some .int) R_X5_undo [.ref (a 0)] (MW d a (pr 0 r f) (past, nI kk, sl, sv, pd, ln)) (fun r_ u_ => r_ = (if kk = 0 then -5 else nI (kk - 1)) ∧ u_ = MW d a (pr 0 (if kk = 0 then r else fun j => past (61 * (kk - 1) + j)) f) (past, nI (kk - 1), sl, sv, pd, ln)) := by
  have h := t_X5_undo d a r f past kk sl sv pd ln hkk
  have e0 : (nI kk = 0) ↔ kk = 0 := nI_eq (a := kk) (b := 0) (by omega) (by omega)
  by_cases c : kk = 0
  · subst c
    exact h
  · have c' : ¬ nI kk = 0 := mt e0.mp c
    rw [if_neg c, if_neg c]
    rw [c_X5_undo_s, r_X5_undo, c_X5_undo_kn, if_neg c', if_neg c', if_neg c', und22r _ _ _ _ _ _ (by omega) (by omega), und22k _ _ _ _ _ _ (by omega) (by omega), pr_cong (r := c_X5_undo_s_at22 r past kk 62 0 r) (r' := fun j => past (61 * (kk - 1) + j)) (fun j hj => by rw [und22 _ _ _ _ _ _ (by omega) (by omega), if_pos (by omega)])] at h
    exact h
abbrev R_X5_save : Room := { frames := 1, cells := 0, slots := 0, locals := 22 }
def r_X5_save_at14 (slot : Int32) (r : Nat → Int32) (sl : Nat → Int32) (sv : Nat → Int32) : Nat → (Nat) → (Nat → Int32) → Int32
  | 0, _, _ => 0
  | n + 1, k, sl1 => if (nI k) < 61 then (r_X5_save_at14 slot r sl sv n (k + 1) (upd sl1 (61 * slot.toNatClampNeg + k) (r k))) else (r 21)
def c_X5_save_sl_at14 (slot : Int32) (r : Nat → Int32) (sl : Nat → Int32) (sv : Nat → Int32) : Nat → (Nat) → (Nat → Int32) → Nat → Int32
  | 0, _, sl1 => sl1
  | n + 1, k, sl1 => if (nI k) < 61 then (c_X5_save_sl_at14 slot r sl sv n (k + 1) (upd sl1 (61 * slot.toNatClampNeg + k) (r k))) else sl1
def c_X5_save_sv_at14 (slot : Int32) (r : Nat → Int32) (sl : Nat → Int32) (sv : Nat → Int32) : Nat → (Nat) → (Nat → Int32) → Nat → Int32
  | 0, _, _ => sv
  | n + 1, k, sl1 => if (nI k) < 61 then (c_X5_save_sv_at14 slot r sl sv n (k + 1) (upd sl1 (61 * slot.toNatClampNeg + k) (r k))) else (upd sv slot.toNatClampNeg (vp_nar .boolean 1))
def r_X5_save (slot : Int32) (r : Nat → Int32) (sl : Nat → Int32) (sv : Nat → Int32) : Int32 := if (r_X5_in slot 0 1) = 0 then (-2) else (r_X5_save_at14 slot r sl sv 62 0 sl)
def c_X5_save_sl (slot : Int32) (r : Nat → Int32) (sl : Nat → Int32) (sv : Nat → Int32) : Nat → Int32 := if (r_X5_in slot 0 1) = 0 then sl else (c_X5_save_sl_at14 slot r sl sv 62 0 sl)
def c_X5_save_sv (slot : Int32) (r : Nat → Int32) (sl : Nat → Int32) (sv : Nat → Int32) : Nat → Int32 := if (r_X5_in slot 0 1) = 0 then sv else (c_X5_save_sv_at14 slot r sl sv 62 0 sl)
set_option maxHeartbeats 1000000 in
set_option maxRecDepth 100000 in
theorem s_X5_save_14 (d : gD) (a : Nat → Nat) (slot : Int32) (r : Nat → Int32) (f : Nat → Int32) (past : Nat → Int32) (kk : Nat) (sl : Nat → Int32) (sv : Nat → Int32) (pd : Nat → Int32) (ln : Int32)  {X : gX} (E : gE d X RX5 cX5_save 3 R_X5_save) : ∀ (n : Nat) (k : Nat) (sl1 : Nat → Int32) (hk : k ≤ 61) (hslot : ¬ slot < 0) (hs2 : slot.toNatClampNeg < 2) (hm : 61 - k < n) (RET : ∀ (pc_ : Nat) (lv_ : List (Nat × Value)) (v_ : Int32) (u_ : va_W), decode cX5_save pc_ = .ok (.ireturn, 1) → narrow .int (.int v_) = .int v_ → v_ = r_X5_save_at14 slot r sl sv n k sl1 → u_ = MW d a (pr 0 r f) (past, nI kk, (c_X5_save_sl_at14 slot r sl sv n k sl1), (c_X5_save_sv_at14 slot r sl sv n k sl1), pd, ln) → G d X u_ R_X5_save.cells R_X5_save.slots pc_ lv_ [.int v_]), G d X (MW d a (pr 0 r f) (past, nI kk, sl1, sv, pd, ln)) 0 0 14 [(0, .ref (a 0)), (1, .int slot), (2, .int (nI k))] [] := by
  intro n
  induction n with
  | zero => intro k sl1 hk hslot hs2 hm; omega
  | succ n ih =>
    intro k sl1 hk hslot hs2 hm RET
    refine g_iload_n E 2 dX5_save_14 rfl rfl ?_
    refine g_bipush E 61 dX5_save_15 (by decide) ?_
    refine g_icmpge E 43 dX5_save_17 (by decide) (fun c_17 => ?_) (fun c_17 => ?_)
    · skip
      refine g_aload_n E 0 dX5_save_43 rfl rfl ?_
      refine g_get E (ci := 5) inlX5 0 rfl rfl 4 (by decide) fl_X5_19 rfl (.ref (a 4)) rfl dX5_save_44 ?_
      refine g_iload_n E 1 dX5_save_47 rfl rfl ?_
      refine g_top (b := (nI slot.toNatClampNeg)) (ix_eq hslot) ?_
      refine g_iconst E 1 dX5_save_48 (by decide) ?_
      refine g_zast E 4 rfl rfl slot.toNatClampNeg rfl (by omega) (by decide) (ws' := MW d a (pr 0 r f) (past, nI kk, sl1, upd sv slot.toNatClampNeg (vp_nar .boolean 1), pd, ln)) rfl dX5_save_49 ?_
      refine g_aload_n E 0 dX5_save_50 rfl rfl ?_
      refine g_get E (ci := 5) inlX5 0 rfl rfl 0 (by decide) fl_X5_7 rfl (.ref (a 1)) rfl dX5_save_51 ?_
      refine g_bipush E 21 dX5_save_54 (by decide) ?_
      refine g_mget E (p := 0) (r := r) (f := f) 1 rfl rfl 21 (show (21 : Int32) = nI (0 + 21) from by rw [Nat.zero_add]; rfl) (by decide) (by omega) dX5_save_56 ?_
      refine g_top (b := r 21) rfl ?_
      exact RET 57 _ (r 21) _ dX5_save_57 rfl (by rw [r_X5_save_at14, if_neg c_17]) (by rw [c_X5_save_sl_at14, if_neg c_17, c_X5_save_sv_at14, if_neg c_17])
    · skip
      have k17 : k < 61 := (nI_ltI (a := k) (b := 61) (by omega) (by omega)).mp c_17
      refine g_aload_n E 0 dX5_save_20 rfl rfl ?_
      refine g_get E (ci := 5) inlX5 0 rfl rfl 3 (by decide) fl_X5_16 rfl (.ref (a 3)) rfl dX5_save_21 ?_
      refine g_bipush E 61 dX5_save_24 (by decide) ?_
      refine g_iload_n E 1 dX5_save_26 rfl rfl ?_
      refine g_top (b := (nI slot.toNatClampNeg)) (ix_eq hslot) ?_
      refine g_imul E dX5_save_27 ?_
      refine g_top (pk_mul 61 slot.toNatClampNeg) ?_
      refine g_iload_n E 2 dX5_save_28 rfl rfl ?_
      refine g_iadd E dX5_save_29 ?_
      refine g_top (nI_add (61 * slot.toNatClampNeg) k) ?_
      refine g_aload_n E 0 dX5_save_30 rfl rfl ?_
      refine g_get E (ci := 5) inlX5 0 rfl rfl 0 (by decide) fl_X5_7 rfl (.ref (a 1)) rfl dX5_save_31 ?_
      refine g_iload_n E 2 dX5_save_34 rfl rfl ?_
      refine g_mget E (p := 0) (r := r) (f := f) 1 rfl rfl k (by rw [Nat.zero_add]) (by omega) (by omega) dX5_save_35 ?_
      refine g_top (b := r k) rfl ?_
      refine g_iast E 3 rfl rfl (61 * slot.toNatClampNeg + k) rfl (by omega) (by decide) (ws' := MW d a (pr 0 r f) (past, nI kk, upd sl1 (61 * slot.toNatClampNeg + k) (r k), sv, pd, ln)) rfl dX5_save_36 ?_
      refine g_iinc E (j := 2) (v := (nI (k + 1))) (lv' := [(2, .int (nI (k + 1))), (0, .ref (a 0)), (1, .int slot)]) dX5_save_37 rfl (nI_1 _) (by decide) rfl ?_
      refine g_goto E 14 dX5_save_40 (by decide) ?_
      refine g_lvs (lv' := [(0, .ref (a 0)), (1, .int slot), (2, .int (nI (k + 1)))]) [1, 2, 0] rfl ?_
      exact ih (k + 1) (upd sl1 (61 * slot.toNatClampNeg + k) (r k)) (by omega) hslot hs2 (by omega) (fun pc_ lv_ v_ u_ h1_ h2_ h3_ h4_ => RET pc_ lv_ v_ u_ h1_ h2_ (h3_.trans (by rw [r_X5_save_at14, if_pos c_17])) (h4_.trans (by rw [c_X5_save_sl_at14, if_pos c_17, c_X5_save_sv_at14, if_pos c_17])))
set_option maxHeartbeats 1000000 in
set_option maxRecDepth 100000 in
theorem s_X5_save_0 (d : gD) (a : Nat → Nat) (slot : Int32) (r : Nat → Int32) (f : Nat → Int32) (past : Nat → Int32) (kk : Nat) (sl : Nat → Int32) (sv : Nat → Int32) (pd : Nat → Int32) (ln : Int32)   {X : gX} (E : gE d X RX5 cX5_save 3 R_X5_save) (RET : ∀ (pc_ : Nat) (lv_ : List (Nat × Value)) (v_ : Int32) (u_ : va_W), decode cX5_save pc_ = .ok (.ireturn, 1) → narrow .int (.int v_) = .int v_ → v_ = r_X5_save slot r sl sv → u_ = MW d a (pr 0 r f) (past, nI kk, (c_X5_save_sl slot r sl sv), (c_X5_save_sv slot r sl sv), pd, ln) → G d X u_ R_X5_save.cells R_X5_save.slots pc_ lv_ [.int v_]) : G d X (MW d a (pr 0 r f) (past, nI kk, sl, sv, pd, ln)) 0 0 0 [(0, .ref (a 0)), (1, .int slot)] [] := by
  refine g_iload_n E 1 dX5_save_0 rfl rfl ?_
  refine g_iconst E 0 dX5_save_1 (by decide) ?_
  refine g_iconst E 1 dX5_save_2 (by decide) ?_
  refine g_callSp E gc_X5_in ml_X5_26 (t_X5_in d slot 0 1 ) rfl rfl rfl (ok_le rfl) ⟨ok_le rfl, ok_le rfl, ok_le rfl, ok_le rfl⟩ rfl rfl dX5_save_3 ?_
  refine g_nm (fun v1_ hv1_ => ?_)
  refine g_ifne E 12 dX5_save_6 (by decide) (fun c_6 => ?_) (fun c_6 => ?_)
  · skip
    have hi7 := in_lo (v := slot) (lo := 0) (hi := 1) (by rw [hv1_]; exact c_6)
    have ks := ix_le (N := 1) hi7.1 hi7.2
    refine g_iconst E 0 dX5_save_12 (by decide) ?_
    refine g_istore_n E (lv' := [(2, .int 0), (0, .ref (a 0)), (1, .int slot)]) dX5_save_13 rfl (by decide) rfl ?_
    refine g_lvs (lv' := [(0, .ref (a 0)), (1, .int slot), (2, .int 0)]) [1, 2, 0] rfl ?_
    subst hv1_
    exact s_X5_save_14 d a slot r f past kk sl sv pd ln  E 62 0 sl (by omega) hi7.1 ks (by omega) (fun pc_ lv_ v_ u_ h1_ h2_ h3_ h4_ => RET pc_ lv_ v_ u_ h1_ h2_ (h3_.trans (by rw [r_X5_save, if_neg c_6])) (h4_.trans (by rw [c_X5_save_sl, if_neg c_6, c_X5_save_sv, if_neg c_6])))
  · skip
    refine g_bipush E (-2) dX5_save_9 (by decide) ?_
    subst hv1_
    exact RET 11 _ (-2) _ dX5_save_11 rfl (by rw [r_X5_save, if_pos c_6]) (by rw [c_X5_save_sl, if_pos c_6, c_X5_save_sv, if_pos c_6])
set_option maxHeartbeats 1000000 in
set_option maxRecDepth 100000 in
theorem t_X5_save (d : gD) (a : Nat → Nat) (slot : Int32) (r : Nat → Int32) (f : Nat → Int32) (past : Nat → Int32) (kk : Nat) (sl : Nat → Int32) (sv : Nat → Int32) (pd : Nat → Int32) (ln : Int32)  : gMi d yX5_save cX5_save 3 (some .int) R_X5_save [.ref (a 0), .int slot] (MW d a (pr 0 r f) (past, nI kk, sl, sv, pd, ln)) (fun r_ u_ => r_ = r_X5_save slot r sl sv ∧ u_ = MW d a (pr 0 r f) (past, nI kk, (c_X5_save_sl slot r sl sv), (c_X5_save_sv slot r sl sv), pd, ln)) :=
  g_met_i RX5 rfl (by decide +kernel) (Nat.le_of_ble_eq_true rfl) [(0, .ref (a 0)), (1, .int slot)] rfl (fun X E RET => s_X5_save_0 d a slot r f past kk sl sv pd ln  E (fun pc_ lv_ v_ u_ h1_ h2_ h3_ h4_ => RET pc_ lv_ v_ u_ h1_ h2_ ⟨h3_, h4_⟩))
theorem sav_sl (slot : Int32) (r sl sv : Nat → Int32) : ∀ (n k : Nat) (sl1 : Nat → Int32), k ≤ 61 → 61 - k < n → c_X5_save_sl_at14 slot r sl sv n k sl1 = fun j => if 61 * slot.toNatClampNeg + k ≤ j ∧ j < 61 * slot.toNatClampNeg + 61 then r (j - 61 * slot.toNatClampNeg) else sl1 j := by
  intro n
  induction n with
  | zero => intro k s1 hk h; omega
  | succ n ih =>
    intro k s1 hk h
    rw [c_X5_save_sl_at14]
    by_cases c : nI k < 61
    · have hk2 : k < 61 := (nI_ltI (a := k) (b := 61) (by omega) (by omega)).mp c
      rw [if_pos c, ih (k + 1) _ (by omega) (by omega)]
      funext j
      by_cases h1 : 61 * slot.toNatClampNeg + (k + 1) ≤ j ∧ j < 61 * slot.toNatClampNeg + 61
      · rw [if_pos h1, if_pos (by omega)]
      · rw [if_neg h1]
        by_cases h2 : j = 61 * slot.toNatClampNeg + k
        · subst h2
          rw [if_pos (by omega), Nat.add_sub_cancel_left]
          exact if_pos rfl
        · rw [if_neg (show ¬ (61 * slot.toNatClampNeg + k ≤ j ∧ j < 61 * slot.toNatClampNeg + 61) by omega)]
          exact if_neg h2
    · have hk2 : ¬ k < 61 := fun q => c ((nI_ltI (a := k) (b := 61) (by omega) (by omega)).mpr q)
      rw [if_neg c]
      funext j
      rw [if_neg (by omega)]
theorem sav_sv (slot : Int32) (r sl sv : Nat → Int32) : ∀ (n k : Nat) (sl1 : Nat → Int32), k ≤ 61 → 61 - k < n → c_X5_save_sv_at14 slot r sl sv n k sl1 = upd sv slot.toNatClampNeg (vp_nar .boolean 1) ∧ r_X5_save_at14 slot r sl sv n k sl1 = r 21 := by
  intro n
  induction n with
  | zero => intro k s1 hk h; omega
  | succ n ih =>
    intro k s1 hk h
    rw [c_X5_save_sv_at14, r_X5_save_at14]
    by_cases c : nI k < 61
    · have hk2 : k < 61 := (nI_ltI (a := k) (b := 61) (by omega) (by omega)).mp c
      rw [if_pos c, if_pos c]
      exact ih (k + 1) _ (by omega) (by omega)
    · rw [if_neg c, if_neg c]
      exact ⟨rfl, rfl⟩
abbrev R_X5_restore : Room := { frames := 1, cells := 0, slots := 0, locals := 22 }
def r_X5_restore_at30 (slot : Int32) (r : Nat → Int32) (past : Nat → Int32) (kk : Nat) (sl : Nat → Int32) (sv : Nat → Int32) : Nat → (Nat) → (Nat → Int32) → Int32
  | 0, _, _ => 0
  | n + 1, k, r1 => if (nI k) < 61 then (r_X5_restore_at30 slot r past kk sl sv n (k + 1) (upd r1 k (sl (61 * slot.toNatClampNeg + k)))) else (r1 21)
def c_X5_restore_s_at30 (slot : Int32) (r : Nat → Int32) (past : Nat → Int32) (kk : Nat) (sl : Nat → Int32) (sv : Nat → Int32) : Nat → (Nat) → (Nat → Int32) → Nat → Int32
  | 0, _, r1 => r1
  | n + 1, k, r1 => if (nI k) < 61 then (c_X5_restore_s_at30 slot r past kk sl sv n (k + 1) (upd r1 k (sl (61 * slot.toNatClampNeg + k)))) else r1
def c_X5_restore_past_at30 (slot : Int32) (r : Nat → Int32) (past : Nat → Int32) (kk : Nat) (sl : Nat → Int32) (sv : Nat → Int32) : Nat → (Nat) → (Nat → Int32) → Nat → Int32
  | 0, _, _ => (pastK r past kk)
  | n + 1, k, r1 => if (nI k) < 61 then (c_X5_restore_past_at30 slot r past kk sl sv n (k + 1) (upd r1 k (sl (61 * slot.toNatClampNeg + k)))) else (pastK r past kk)
def c_X5_restore_kn_at30 (slot : Int32) (r : Nat → Int32) (past : Nat → Int32) (kk : Nat) (sl : Nat → Int32) (sv : Nat → Int32) : Nat → (Nat) → (Nat → Int32) → Int32
  | 0, _, _ => 0
  | n + 1, k, r1 => if (nI k) < 61 then (c_X5_restore_kn_at30 slot r past kk sl sv n (k + 1) (upd r1 k (sl (61 * slot.toNatClampNeg + k)))) else (nI (kn1 kk))
def r_X5_restore (slot : Int32) (r : Nat → Int32) (past : Nat → Int32) (kk : Nat) (sl : Nat → Int32) (sv : Nat → Int32) : Int32 := if (r_X5_in slot 0 1) = 0 then (-2) else (if (sv slot.toNatClampNeg) = 0 then (-5) else (r_X5_restore_at30 slot r past kk sl sv 62 0 r))
def c_X5_restore_s (slot : Int32) (r : Nat → Int32) (past : Nat → Int32) (kk : Nat) (sl : Nat → Int32) (sv : Nat → Int32) : Nat → Int32 := if (r_X5_in slot 0 1) = 0 then r else (if (sv slot.toNatClampNeg) = 0 then r else (c_X5_restore_s_at30 slot r past kk sl sv 62 0 r))
def c_X5_restore_past (slot : Int32) (r : Nat → Int32) (past : Nat → Int32) (kk : Nat) (sl : Nat → Int32) (sv : Nat → Int32) : Nat → Int32 := if (r_X5_in slot 0 1) = 0 then past else (if (sv slot.toNatClampNeg) = 0 then past else (c_X5_restore_past_at30 slot r past kk sl sv 62 0 r))
def c_X5_restore_kn (slot : Int32) (r : Nat → Int32) (past : Nat → Int32) (kk : Nat) (sl : Nat → Int32) (sv : Nat → Int32) : Int32 := if (r_X5_in slot 0 1) = 0 then (nI kk) else (if (sv slot.toNatClampNeg) = 0 then (nI kk) else (c_X5_restore_kn_at30 slot r past kk sl sv 62 0 r))
set_option maxHeartbeats 1000000 in
set_option maxRecDepth 100000 in
theorem s_X5_restore_30 (d : gD) (a : Nat → Nat) (slot : Int32) (r : Nat → Int32) (f : Nat → Int32) (past : Nat → Int32) (kk : Nat) (sl : Nat → Int32) (sv : Nat → Int32) (pd : Nat → Int32) (ln : Int32) (hkk : kk ≤ 6) {X : gX} (E : gE d X RX5 cX5_restore 3 R_X5_restore) : ∀ (n : Nat) (k : Nat) (r1 : Nat → Int32) (hk : k ≤ 61) (hslot : ¬ slot < 0) (hs2 : slot.toNatClampNeg < 2) (hm : 61 - k < n) (RET : ∀ (pc_ : Nat) (lv_ : List (Nat × Value)) (v_ : Int32) (u_ : va_W), decode cX5_restore pc_ = .ok (.ireturn, 1) → narrow .int (.int v_) = .int v_ → v_ = r_X5_restore_at30 slot r past kk sl sv n k r1 → u_ = MW d a (pr 0 (c_X5_restore_s_at30 slot r past kk sl sv n k r1) f) ((c_X5_restore_past_at30 slot r past kk sl sv n k r1), (c_X5_restore_kn_at30 slot r past kk sl sv n k r1), sl, sv, pd, ln) → G d X u_ R_X5_restore.cells R_X5_restore.slots pc_ lv_ [.int v_]), G d X (MW d a (pr 0 r1 f) ((pastK r past kk), nI (kn1 kk), sl, sv, pd, ln)) 0 0 30 [(0, .ref (a 0)), (1, .int slot), (2, .int (nI k))] [] := by
  intro n
  induction n with
  | zero => intro k r1 hk hslot hs2 hm; omega
  | succ n ih =>
    intro k r1 hk hslot hs2 hm RET
    refine g_iload_n E 2 dX5_restore_30 rfl rfl ?_
    refine g_bipush E 61 dX5_restore_31 (by decide) ?_
    refine g_icmpge E 59 dX5_restore_33 (by decide) (fun c_33 => ?_) (fun c_33 => ?_)
    · skip
      refine g_aload_n E 0 dX5_restore_59 rfl rfl ?_
      refine g_get E (ci := 5) inlX5 0 rfl rfl 0 (by decide) fl_X5_7 rfl (.ref (a 1)) rfl dX5_restore_60 ?_
      refine g_bipush E 21 dX5_restore_63 (by decide) ?_
      refine g_mget E (p := 0) (r := r1) (f := f) 1 rfl rfl 21 (show (21 : Int32) = nI (0 + 21) from by rw [Nat.zero_add]; rfl) (by decide) (by omega) dX5_restore_65 ?_
      refine g_top (b := r1 21) rfl ?_
      exact RET 66 _ (r1 21) _ dX5_restore_66 rfl (by rw [r_X5_restore_at30, if_neg c_33]) (by rw [c_X5_restore_s_at30, if_neg c_33, c_X5_restore_past_at30, if_neg c_33, c_X5_restore_kn_at30, if_neg c_33])
    · skip
      have k33 : k < 61 := (nI_ltI (a := k) (b := 61) (by omega) (by omega)).mp c_33
      refine g_aload_n E 0 dX5_restore_36 rfl rfl ?_
      refine g_get E (ci := 5) inlX5 0 rfl rfl 0 (by decide) fl_X5_7 rfl (.ref (a 1)) rfl dX5_restore_37 ?_
      refine g_iload_n E 2 dX5_restore_40 rfl rfl ?_
      refine g_aload_n E 0 dX5_restore_41 rfl rfl ?_
      refine g_get E (ci := 5) inlX5 0 rfl rfl 3 (by decide) fl_X5_16 rfl (.ref (a 3)) rfl dX5_restore_42 ?_
      refine g_bipush E 61 dX5_restore_45 (by decide) ?_
      refine g_iload_n E 1 dX5_restore_47 rfl rfl ?_
      refine g_top (b := (nI slot.toNatClampNeg)) (ix_eq hslot) ?_
      refine g_imul E dX5_restore_48 ?_
      refine g_top (pk_mul 61 slot.toNatClampNeg) ?_
      refine g_iload_n E 2 dX5_restore_49 rfl rfl ?_
      refine g_iadd E dX5_restore_50 ?_
      refine g_top (nI_add (61 * slot.toNatClampNeg) k) ?_
      refine g_iald E 3 rfl rfl (61 * slot.toNatClampNeg + k) rfl (by omega) (by decide) dX5_restore_51 ?_
      refine g_mput E (p := 0) (r := r1) (f := f) 1 rfl rfl k (by rw [Nat.zero_add]) (by omega) (by omega) (ws' := MW d a (pr 0 (upd r1 k (sl (61 * slot.toNatClampNeg + k))) f) ((pastK r past kk), nI (kn1 kk), sl, sv, pd, ln)) rfl dX5_restore_52 ?_
      refine g_iinc E (j := 2) (v := (nI (k + 1))) (lv' := [(2, .int (nI (k + 1))), (0, .ref (a 0)), (1, .int slot)]) dX5_restore_53 rfl (nI_1 _) (by decide) rfl ?_
      refine g_goto E 30 dX5_restore_56 (by decide) ?_
      refine g_lvs (lv' := [(0, .ref (a 0)), (1, .int slot), (2, .int (nI (k + 1)))]) [1, 2, 0] rfl ?_
      exact ih (k + 1) (upd r1 k (sl (61 * slot.toNatClampNeg + k))) (by omega) hslot hs2 (by omega) (fun pc_ lv_ v_ u_ h1_ h2_ h3_ h4_ => RET pc_ lv_ v_ u_ h1_ h2_ (h3_.trans (by rw [r_X5_restore_at30, if_pos c_33])) (h4_.trans (by rw [c_X5_restore_s_at30, if_pos c_33, c_X5_restore_past_at30, if_pos c_33, c_X5_restore_kn_at30, if_pos c_33])))
set_option maxHeartbeats 1000000 in
set_option maxRecDepth 100000 in
theorem s_X5_restore_0 (d : gD) (a : Nat → Nat) (slot : Int32) (r : Nat → Int32) (f : Nat → Int32) (past : Nat → Int32) (kk : Nat) (sl : Nat → Int32) (sv : Nat → Int32) (pd : Nat → Int32) (ln : Int32) (hkk : kk ≤ 6)  {X : gX} (E : gE d X RX5 cX5_restore 3 R_X5_restore) (RET : ∀ (pc_ : Nat) (lv_ : List (Nat × Value)) (v_ : Int32) (u_ : va_W), decode cX5_restore pc_ = .ok (.ireturn, 1) → narrow .int (.int v_) = .int v_ → v_ = r_X5_restore slot r past kk sl sv → u_ = MW d a (pr 0 (c_X5_restore_s slot r past kk sl sv) f) ((c_X5_restore_past slot r past kk sl sv), (c_X5_restore_kn slot r past kk sl sv), sl, sv, pd, ln) → G d X u_ R_X5_restore.cells R_X5_restore.slots pc_ lv_ [.int v_]) : G d X (MW d a (pr 0 r f) (past, nI kk, sl, sv, pd, ln)) 0 0 0 [(0, .ref (a 0)), (1, .int slot)] [] := by
  refine g_iload_n E 1 dX5_restore_0 rfl rfl ?_
  refine g_iconst E 0 dX5_restore_1 (by decide) ?_
  refine g_iconst E 1 dX5_restore_2 (by decide) ?_
  refine g_callSp E gc_X5_in ml_X5_26 (t_X5_in d slot 0 1 ) rfl rfl rfl (ok_le rfl) ⟨ok_le rfl, ok_le rfl, ok_le rfl, ok_le rfl⟩ rfl rfl dX5_restore_3 ?_
  refine g_nm (fun v1_ hv1_ => ?_)
  refine g_ifne E 12 dX5_restore_6 (by decide) (fun c_6 => ?_) (fun c_6 => ?_)
  · skip
    have hi7 := in_lo (v := slot) (lo := 0) (hi := 1) (by rw [hv1_]; exact c_6)
    have ks := ix_le (N := 1) hi7.1 hi7.2
    refine g_aload_n E 0 dX5_restore_12 rfl rfl ?_
    refine g_get E (ci := 5) inlX5 0 rfl rfl 4 (by decide) fl_X5_19 rfl (.ref (a 4)) rfl dX5_restore_13 ?_
    refine g_iload_n E 1 dX5_restore_16 rfl rfl ?_
    refine g_top (b := (nI slot.toNatClampNeg)) (ix_eq hi7.1) ?_
    refine g_zald E 4 rfl rfl slot.toNatClampNeg rfl (by omega) (by decide) dX5_restore_17 ?_
    refine g_ifne E 24 dX5_restore_18 (by decide) (fun c_18 => ?_) (fun c_18 => ?_)
    · skip
      refine g_aload_n E 0 dX5_restore_24 rfl rfl ?_
      refine g_callVv0 E gc_X5_remembers ml_X5_79 (t2_X5_remembers d a r f past kk sl sv pd ln hkk) rfl rfl (ci := 5) 0 rfl rfl rfl rfl (ok_le rfl) ⟨ok_le rfl, ok_le rfl, ok_le rfl, ok_le rfl⟩ rfl rfl dX5_restore_25 ?_
      refine g_iconst E 0 dX5_restore_28 (by decide) ?_
      refine g_istore_n E (lv' := [(2, .int 0), (0, .ref (a 0)), (1, .int slot)]) dX5_restore_29 rfl (by decide) rfl ?_
      refine g_lvs (lv' := [(0, .ref (a 0)), (1, .int slot), (2, .int 0)]) [1, 2, 0] rfl ?_
      subst hv1_
      exact s_X5_restore_30 d a slot r f past kk sl sv pd ln hkk E 62 0 r (by omega) hi7.1 ks (by omega) (fun pc_ lv_ v_ u_ h1_ h2_ h3_ h4_ => RET pc_ lv_ v_ u_ h1_ h2_ (h3_.trans (by rw [r_X5_restore, if_neg c_6, if_neg c_18])) (h4_.trans (by rw [c_X5_restore_s, if_neg c_6, if_neg c_18, c_X5_restore_past, if_neg c_6, if_neg c_18, c_X5_restore_kn, if_neg c_6, if_neg c_18])))
    · skip
      refine g_bipush E (-5) dX5_restore_21 (by decide) ?_
      subst hv1_
      exact RET 23 _ (-5) _ dX5_restore_23 rfl (by rw [r_X5_restore, if_neg c_6, if_pos c_18]) (by rw [c_X5_restore_s, if_neg c_6, if_pos c_18, c_X5_restore_past, if_neg c_6, if_pos c_18, c_X5_restore_kn, if_neg c_6, if_pos c_18])
  · skip
    refine g_bipush E (-2) dX5_restore_9 (by decide) ?_
    subst hv1_
    exact RET 11 _ (-2) _ dX5_restore_11 rfl (by rw [r_X5_restore, if_pos c_6]) (by rw [c_X5_restore_s, if_pos c_6, c_X5_restore_past, if_pos c_6, c_X5_restore_kn, if_pos c_6])
set_option maxHeartbeats 1000000 in
set_option maxRecDepth 100000 in
theorem t_X5_restore (d : gD) (a : Nat → Nat) (slot : Int32) (r : Nat → Int32) (f : Nat → Int32) (past : Nat → Int32) (kk : Nat) (sl : Nat → Int32) (sv : Nat → Int32) (pd : Nat → Int32) (ln : Int32) (hkk : kk ≤ 6) : gMi d yX5_restore cX5_restore 3 (some .int) R_X5_restore [.ref (a 0), .int slot] (MW d a (pr 0 r f) (past, nI kk, sl, sv, pd, ln)) (fun r_ u_ => r_ = r_X5_restore slot r past kk sl sv ∧ u_ = MW d a (pr 0 (c_X5_restore_s slot r past kk sl sv) f) ((c_X5_restore_past slot r past kk sl sv), (c_X5_restore_kn slot r past kk sl sv), sl, sv, pd, ln)) :=
  g_met_i RX5 rfl (by decide +kernel) (Nat.le_of_ble_eq_true rfl) [(0, .ref (a 0)), (1, .int slot)] rfl (fun X E RET => s_X5_restore_0 d a slot r f past kk sl sv pd ln hkk E (fun pc_ lv_ v_ u_ h1_ h2_ h3_ h4_ => RET pc_ lv_ v_ u_ h1_ h2_ ⟨h3_, h4_⟩))
theorem res30 (slot : Int32) (r past : Nat → Int32) (kk : Nat) (sl sv : Nat → Int32) : ∀ (n k : Nat) (r1 : Nat → Int32), k ≤ 61 → 61 - k < n → ∀ j, c_X5_restore_s_at30 slot r past kk sl sv n k r1 j = if k ≤ j ∧ j < 61 then sl (61 * slot.toNatClampNeg + j) else r1 j := by
  intro n
  induction n with
  | zero => intro k r1 hk h; omega
  | succ n ih =>
    intro k r1 hk h j
    rw [c_X5_restore_s_at30]
    by_cases c : nI k < 61
    · have hk2 : k < 61 := (nI_ltI (a := k) (b := 61) (by omega) (by omega)).mp c
      rw [if_pos c, ih (k + 1) _ (by omega) (by omega)]
      by_cases h1 : k + 1 ≤ j ∧ j < 61
      · rw [if_pos h1, if_pos (by omega)]
      · rw [if_neg h1]
        by_cases h2 : j = k
        · subst h2
          rw [if_pos (by omega)]
          exact if_pos rfl
        · rw [if_neg (show ¬ (k ≤ j ∧ j < 61) by omega)]
          exact if_neg h2
    · have hk2 : ¬ k < 61 := fun q => c ((nI_ltI (a := k) (b := 61) (by omega) (by omega)).mpr q)
      rw [if_neg c, if_neg (by omega)]
theorem res30k (slot : Int32) (r past : Nat → Int32) (kk : Nat) (sl sv : Nat → Int32) : ∀ (n k : Nat) (r1 : Nat → Int32), k ≤ 61 → 61 - k < n → c_X5_restore_past_at30 slot r past kk sl sv n k r1 = pastK r past kk ∧ c_X5_restore_kn_at30 slot r past kk sl sv n k r1 = nI (kn1 kk) ∧ r_X5_restore_at30 slot r past kk sl sv n k r1 = c_X5_restore_s_at30 slot r past kk sl sv n k r1 21 := by
  intro n
  induction n with
  | zero => intro k s1 hk h; omega
  | succ n ih =>
    intro k s1 hk h
    rw [c_X5_restore_past_at30, c_X5_restore_kn_at30, r_X5_restore_at30, c_X5_restore_s_at30]
    by_cases c : nI k < 61
    · have hk2 : k < 61 := (nI_ltI (a := k) (b := 61) (by omega) (by omega)).mp c
      rw [if_pos c, if_pos c, if_pos c, if_pos c]
      exact ih (k + 1) _ (by omega) (by omega)
    · rw [if_neg c, if_neg c, if_neg c, if_neg c]
      exact ⟨rfl, rfl, rfl⟩
