/-! undo, save and restore, beside the reference's -/
theorem undo_sim {S : SS} {y : HS} {r past : Nat → Int32} {kk : Nat} (h : W1 S y r past kk) :
    r_X4_undo S y = (if kk = 0 then -5 else nI (kk - 1)) ∧ W1 (c_X4_undo_1 S y) (c_X4_undo_y S y) (if kk = 0 then r else fun j => past (61 * (kk - 1) + j)) past (kk - 1) := by
  obtain ⟨o, n, hs⟩ := y
  obtain ⟨hR, h1, h2, h3, h4⟩ := h
  replace h1 : o < 6 := h1
  replace h2 : n = kk := h2
  subst h2
  replace h4 : ∀ i, i < n → ∃ U, hs ((o + i) % 6) = some U ∧ RS U (fun j => past (61 * i + j)) 9999 := h4
  unfold r_X4_undo c_X4_undo_1 c_X4_undo_y r_X1_takeBack c_X1_takeBack_S c_X1_takeBack_y tbT
  dsimp only
  by_cases c : n = 0
  · rw [if_pos c, if_pos c, if_pos c]
    refine ⟨rfl, hR, h1, ?_, by omega, fun i hi => absurd hi (by omega)⟩
    show tbN n none = n - 1
    show n = n - 1
    omega
  · rw [if_neg c, if_neg c, if_neg c]
    obtain ⟨U, q1, q2⟩ := h4 (n - 1) (by omega)
    rw [q1]
    exact ⟨rfl, q2, h1, rfl, by omega, fun i hi => h4 i (by omega)⟩
/-- the slots -/
def LR (ss : Nat → Option SS) (sl sv : Nat → Int32) : Prop := ∀ i, i < 2 → (ss i = none ∧ sv i = 0) ∨ ∃ U, ss i = some U ∧ ¬ sv i = 0 ∧ RS U (fun j => sl (61 * i + j)) 9999
theorem slot01 (s : Int32) : (s < 0 ∧ r_X5_in s 0 1 = 0) ∨ (¬ s < 0 ∧ ¬ s < 2 ∧ r_X5_in s 0 1 = 0) ∨ ∃ i, i < 2 ∧ s = nI i ∧ ¬ s < 0 ∧ s < 2 ∧ ¬ r_X5_in s 0 1 = 0 ∧ s.toNatClampNeg = i := by
  by_cases n : s < 0
  · left
    refine ⟨n, ?_⟩
    unfold r_X5_in
    rw [if_pos n]
  · right
    by_cases m : s < 2
    · right
      obtain ⟨i, hi, rfl⟩ := nI_of n
      have hi2 : i < 2 := (nI_ltI (b := 2) hi (by omega)).mp m
      refine ⟨i, hi2, rfl, n, m, ?_, nI_clamp hi⟩
      unfold r_X5_in
      rw [if_neg n, if_neg (show ¬ (1 : Int32) < nI i from nI_nlt (a := 1) (b := i) (by omega) (by omega))]
      decide
    · left
      refine ⟨n, m, ?_⟩
      unfold r_X5_in
      have m' := nlt_iff.mp m
      rw [z2] at m'
      rw [if_neg n, if_pos (lt_iff.mpr (by rw [z1]; omega))]
theorem save_sim {S : SS} {r : Nat → Int32} {ss : Nat → Option SS} {sl sv : Nat → Int32} (h : RS S r 9999) (hl : LR ss sl sv) (slot : Int32) :
    r_X4_save slot S = r_X5_save slot r sl sv ∧ LR (c_X4_save_ss slot S ss) (c_X5_save_sl slot r sl sv) (c_X5_save_sv slot r sl sv) := by
  unfold r_X4_save r_X5_save c_X4_save_ss c_X5_save_sl c_X5_save_sv
  rcases slot01 slot with ⟨n, i0⟩ | ⟨n, m, i0⟩ | ⟨i, hi, rfl, n, m, i0, hc⟩
  · simp only [if_pos n, if_pos i0]
    exact ⟨trivial, hl⟩
  · simp only [if_neg n, if_neg m, if_pos i0]
    exact ⟨trivial, hl⟩
  · simp only [if_neg n, if_pos m, if_neg i0]
    obtain ⟨q1, q2⟩ := sav_sv (nI i) r sl sv 62 0 sl (by omega) (by omega)
    rw [q1, q2, sav_sl (nI i) r sl sv 62 0 sl (by omega) (by omega), hc]
    refine ⟨h.1 21 (by omega), fun j hj => ?_⟩
    by_cases e : j = i
    · subst e
      refine Or.inr ⟨S, if_pos rfl, ?_, RS_congr h (fun k hk => ?_)⟩
      · rw [upd_eq]
        decide
      · show (if 61 * j + 0 ≤ 61 * j + k ∧ 61 * j + k < 61 * j + 61 then r (61 * j + k - 61 * j) else sl (61 * j + k)) = r k
        rw [if_pos (by omega)]
        exact congrArg r (show 61 * j + k - 61 * j = k by omega)
    · rcases hl j hj with ⟨p1, p2⟩ | ⟨U, p1, p2, p3⟩
      · exact Or.inl ⟨(if_neg e).trans p1, (upd_lo e).trans p2⟩
      · refine Or.inr ⟨U, (if_neg e).trans p1, by rw [upd_lo e]; exact p2, RS_congr p3 (fun k hk => ?_)⟩
        show (if 61 * i + 0 ≤ 61 * j + k ∧ 61 * j + k < 61 * i + 61 then r (61 * j + k - 61 * i) else sl (61 * j + k)) = sl (61 * j + k)
        rw [if_neg (by omega)]
theorem restore_sim {S : SS} {y : HS} {r past : Nat → Int32} {kk : Nat} {ss : Nat → Option SS} {sl sv : Nat → Int32} (h : W1 S y r past kk) (hl : LR ss sl sv) (slot : Int32) :
    r_X4_restore slot ss = r_X5_restore slot r past kk sl sv ∧ ∃ k', c_X5_restore_kn slot r past kk sl sv = nI k' ∧ W1 (rsS S (rsT slot ss)) (rsY y S (rsT slot ss)) (c_X5_restore_s slot r past kk sl sv) (c_X5_restore_past slot r past kk sl sv) k' := by
  unfold r_X4_restore r_X5_restore rsT c_X5_restore_kn c_X5_restore_s c_X5_restore_past
  rcases slot01 slot with ⟨n, i0⟩ | ⟨n, m, i0⟩ | ⟨i, hi, rfl, n, m, i0, hc⟩
  · simp only [if_pos n, if_pos i0]
    exact ⟨trivial, kk, rfl, h⟩
  · simp only [if_neg n, if_neg m, if_pos i0]
    exact ⟨trivial, kk, rfl, h⟩
  · simp only [if_neg n, if_pos m, if_neg i0, hc]
    rcases hl i hi with ⟨p1, p2⟩ | ⟨U, p1, p2, p3⟩
    · rw [p1]
      simp only [if_pos p2]
      exact ⟨rfl, kk, rfl, h⟩
    · rw [p1]
      simp only [if_neg p2]
      obtain ⟨q1, q2, q3⟩ := res30k (nI i) r past kk sl sv 62 0 r (by omega) (by omega)
      have qs := res30 (nI i) r past kk sl sv 62 0 r (by omega) (by omega)
      rw [hc] at qs
      rw [q1, q2, q3]
      have hU : RS U (c_X5_restore_s_at30 (nI i) r past kk sl sv 62 0 r) 9999 := RS_congr p3 (fun k hk => by
        rw [qs k, if_pos (by omega)])
      exact ⟨hU.1 21 (by omega), kn1 kk, rfl, hU, keep_rel h.1 h.2⟩
