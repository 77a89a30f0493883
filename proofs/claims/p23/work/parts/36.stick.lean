/-! isStick: what holds of a stick, as the law asks it -/
theorem sumN_le {f : Nat → Int} : ∀ n k, (∀ j, j < n → 0 ≤ f j) → k ≤ n → 0 ≤ sumN f k ∧ sumN f k ≤ sumN f n
  | 0, k, _, hk => by
    have e : k = 0 := by omega
    subst e
    exact ⟨Int.le_refl 0, Int.le_refl 0⟩
  | n + 1, k, h, hk => by
    have h2 := h n (by omega)
    show 0 ≤ sumN f k ∧ sumN f k ≤ sumN f n + f n
    by_cases e : k = n + 1
    · subst e
      have h1 := sumN_le n n (fun j hj => h j (by omega)) (by omega)
      show 0 ≤ sumN f n + f n ∧ sumN f n + f n ≤ sumN f n + f n
      omega
    · have h1 := sumN_le n k (fun j hj => h j (by omega)) (by omega)
      omega
theorem c9 : ∀ m, m < 9 → nI m / 3 = nI (m / 3) ∧ nI m - nI m / 3 * 3 = nI (m % 3) ∧ ¬ nI m < 0 ∧ nI m < 9 := by decide +kernel
theorem dir_is {S : SS} {nd k m : Nat} (h0 : S.2.2.1 0 = nI nd) (h9 : nd ≤ 9) (hk : k < nd) (hm : m < 9) (hb : S.2.2.2.1 k = nI m) : r_X4_direction (nI k) 0 S = nI (m / 3) ∧ r_X4_direction (nI k) 1 S = nI (m % 3) ∧ r_X4_direction (nI k) 2 S = S.2.2.2.2.1 m ∧ r_X4_direction (nI k) 3 S = S.2.2.2.2.2 m := by
  obtain ⟨p1, p2, p3, p4⟩ := c9 m hm
  have g : ∀ w, r_X4_direction (nI k) w S = if w = 0 then nI (m / 3) else if w = 1 then nI (m % 3) else if w = 2 then S.2.2.2.2.1 m else if w = 3 then S.2.2.2.2.2 m else -2 := fun w => by
    unfold r_X4_direction r_X0_about
    rw [if_neg (nI_pos (by omega)), h0, if_pos (nI_lt hk (by omega)), if_pos (show nI k < 9 from nI_lt (b := 9) (by omega) (by omega)), nI_clamp (by omega), hb, if_neg p3, if_pos p4, nI_clamp (by omega), p2, p1]
  refine ⟨(g 0).trans (if_pos rfl), (g 1).trans ?_, (g 2).trans ?_, (g 3).trans ?_⟩
  · rw [if_neg (by decide), if_pos rfl]
  · rw [if_neg (by decide), if_neg (by decide), if_pos rfl]
  · rw [if_neg (by decide), if_neg (by decide), if_neg (by decide), if_pos rfl]
theorem dir_no {S : SS} {nd : Nat} (h0 : S.2.2.1 0 = nI nd) (h9 : nd ≤ 9) : r_X4_direction (nI nd) 0 S = -1 := by
  unfold r_X4_direction r_X0_about
  rw [if_neg (nI_pos (by omega)), h0, if_neg (nI_nlt (Nat.le_refl nd) (by omega))]
theorem m3s : ∀ m, m < 9 → (¬ nI (m / 3) < 0 ∧ nI (m / 3) < 3 ∧ ¬ nI (m % 3) < 0 ∧ nI (m % 3) < 3) ∧ (m = 4 → nI (m / 3) = 1 ∧ nI (m % 3) = 1) ∧ (m ≠ 4 → nI (m / 3) = 1 → ¬ nI (m % 3) = 1) := by decide +kernel
theorem st_246 {S : SS} {B : Int} (I : IV S B) (hB : B ≤ 15000) {nd : Nat} {c : Nat → Nat} (h1 : S.2.2.1 0 = nI nd) (h2 : nd ≤ 9)
    (h3 : ∀ k, k < nd → c k < 9 ∧ S.2.2.2.1 k = nI (c k) ∧ 1 ≤ (S.2.2.2.2.2 (c k)).toInt ∧ (S.2.2.2.2.2 (c k)).toInt ≤ (S.2.2.2.2.1 (c k)).toInt ∧ (S.2.2.2.2.1 (c k)).toInt ≤ (S.1 21).toInt)
    (h7 : sumN (fun k => (S.2.2.2.2.1 (c k)).toInt) nd = (S.1 21).toInt) (h8 : sumN (fun k => if c k = 4 then 0 else (S.2.2.2.2.1 (c k)).toInt) nd = (S.1 19).toInt) :
    ∀ (n k : Nat) (a b : Int32), k ≤ nd → nd - k < n → a.toInt = sumN (fun k => (S.2.2.2.2.1 (c k)).toInt) k → b.toInt = sumN (fun k => if c k = 4 then 0 else (S.2.2.2.2.1 (c k)).toInt) k → r_L_isStick_at246 S n k a b 1 = 1 := by
  intro n
  obtain ⟨-, -, -, -, h21, -, hG, hD, -⟩ := I
  have tb := tl_b (S.1 14) (S.1 15)
  induction n with
  | zero => intro k a b hk hm; omega
  | succ n ih =>
    intro k a b hk hm ha hb
    rw [r_L_isStick_at246, h1]
    by_cases e : k = nd
    · subst e
      rw [if_neg (nI_nlt (Nat.le_refl k) (by omega))]
      unfold r_L_isStick_at406
      have e1 : a = S.1 21 := ti_eq.mpr (ha.trans h7)
      have e2 : b = S.1 19 := ti_eq.mpr (hb.trans h8)
      have e3 : (S.1 19 + S.1 17).toInt = (S.1 19).toInt + (S.1 17).toInt := ti_add (by omega) (by omega)
      have e4 : (S.1 16 + S.1 17).toInt = (S.1 16).toInt + (S.1 17).toInt := ti_add (by omega) (by omega)
      rw [if_neg (by decide), if_pos e1, if_pos e2, h1, if_pos (dir_no h1 h2), if_neg (nlt_iff.mpr (by omega))]
    · have hk' : k < nd := by omega
      obtain ⟨o1, o2, o3, o4, o5⟩ := h3 k hk'
      obtain ⟨d0, d1, d2, d3⟩ := dir_is h1 h2 hk' o1 o2
      obtain ⟨⟨p1, p2, p3, p4⟩, p5, p6⟩ := m3s (c k) o1
      rw [if_pos (nI_lt hk' (by omega)), if_pos (show nI k < 9 from nI_lt (b := 9) (by omega) (by omega)), d0, d1, d2, d3]
      have sA := sumN_le (f := fun k => (S.2.2.2.2.1 (c k)).toInt) nd k (fun j hj => by have := h3 j hj; show 0 ≤ (S.2.2.2.2.1 (c j)).toInt; omega) hk
      have sB := sumN_le (f := fun k => if c k = 4 then 0 else (S.2.2.2.2.1 (c k)).toInt) nd k (fun j hj => by
        have := h3 j hj
        show 0 ≤ if c j = 4 then 0 else (S.2.2.2.2.1 (c j)).toInt
        split <;> omega) hk
      rw [h7] at sA
      rw [h8] at sB
      have q0 : ¬ (1 : Int32) = 0 := by decide
      have q3 : 0 < S.2.2.2.2.2 (c k) := lt_iff.mpr (by rw [z0]; omega)
      have q4 : ¬ S.2.2.2.2.1 (c k) < S.2.2.2.2.2 (c k) := nlt_iff.mpr o4
      have ga : (a + S.2.2.2.2.1 (c k)).toInt = sumN (fun k => (S.2.2.2.2.1 (c k)).toInt) (k + 1) := by
        show _ = sumN (fun k => (S.2.2.2.2.1 (c k)).toInt) k + (S.2.2.2.2.1 (c k)).toInt
        rw [ti_add (by omega) (by omega), ha]
      by_cases e4 : c k = 4
      · obtain ⟨x1, x2⟩ := p5 e4
        rw [if_pos x1, if_pos x2, if_neg q0, if_pos q3, if_neg q4, if_neg p1, if_pos p2, if_neg p3, if_pos p4, Int32.add_zero]
        refine ih (k + 1) _ _ (by omega) (by omega) ga ?_
        show _ = sumN (fun k => if c k = 4 then 0 else (S.2.2.2.2.1 (c k)).toInt) k + (if c k = 4 then 0 else (S.2.2.2.2.1 (c k)).toInt)
        rw [if_pos e4, hb, Int.add_zero]
      · have gb : (b + S.2.2.2.2.1 (c k)).toInt = sumN (fun k => if c k = 4 then 0 else (S.2.2.2.2.1 (c k)).toInt) (k + 1) := by
          show _ = sumN (fun k => if c k = 4 then 0 else (S.2.2.2.2.1 (c k)).toInt) k + (if c k = 4 then 0 else (S.2.2.2.2.1 (c k)).toInt)
          rw [if_neg e4, ti_add (by omega) (by omega), hb]
        have g := ih (k + 1) _ _ (by omega) (by omega) ga gb
        by_cases x1 : nI (c k / 3) = 1
        · have x2 := p6 e4 x1
          rw [if_pos x1, if_neg x2, if_neg q0, if_pos q3, if_neg q4, if_neg p1, if_pos p2, if_neg p3, if_pos p4]
          exact g
        · rw [if_neg x1, if_neg q0, if_pos q3, if_neg q4, if_neg p1, if_pos p2, if_neg p3, if_pos p4]
          exact g
/-- one axis -/
theorem st_117 {S : SS} {n k : Nat} (hk : k < 2) {r l t : Int32} (e0 : r_X4_of (nI k) 0 S = r) (e2 : r_X4_of (nI k) 2 S = l) (e3 : r_X4_of (nI k) 3 S = t) (h0 : 0 ≤ r.toInt ∧ r.toInt ≤ 4080) (hl : (S.1 21 = 0 ∧ l = -6 ∧ t = -6) ∨ (¬ S.1 21 = 0 ∧ (0 ≤ l.toInt ∧ l.toInt ≤ 255) ∧ t = l - r / 16 + 1000)) : r_L_isStick_at117 S (n + 1) k 1 = r_L_isStick_at117 S n (k + 1) 1 := by
  have z4080 : (4080 : Int32).toInt = 4080 := rfl
  have z256 : (256 : Int32).toInt = 256 := rfl
  rw [r_L_isStick_at117, if_pos (show nI k < 2 from nI_lt (b := 2) hk (by omega)), if_neg (by decide), e0, e2, e3, if_neg (nlt_iff.mpr (by rw [z0]; exact h0.1)), if_neg (nlt_iff.mpr (by rw [z4080]; exact h0.2))]
  rcases hl with ⟨q1, q2, q3⟩ | ⟨q1, q2, q3⟩
  · rw [if_pos q1, if_pos q2, if_pos q3]
  · rw [if_neg q1, if_neg (nlt_iff.mpr (by rw [z0]; exact q2.1)), if_pos (lt_iff.mpr (by rw [z256]; omega)), if_pos q3]
theorem stick_1 {S : SS} {B : Int} (I : IV S B) (hB : B ≤ 15000) (hC : CR S) : r_L_isStick S = 1 := by
  have II := I
  obtain ⟨hs, hv, hT, h13, h21, hL, hG, hD, hR⟩ := I
  obtain ⟨nd, c, h1, h2, h3, h4, h5, h6, h7, h8⟩ := hR
  have hs1 := hs.2.1
  have hs2 := hs.2.2.1
  have hv9 := hv.2.2
  have ew : (S.2.1 1 + S.2.1 2).toInt = (S.2.1 1).toInt + (S.2.1 2).toInt := ti_add (by omega) (by omega)
  have z20 : (20 : Int32).toInt = 20 := rfl
  have s14 : (r_L_size (S.1 14)).toInt = ab (S.1 14).toInt := size_ab (by omega)
  have s15 : (r_L_size (S.1 15)).toInt = ab (S.1 15).toInt := size_ab (by omega)
  have b14 : 0 ≤ ab (S.1 14).toInt ∧ ab (S.1 14).toInt ≤ 100 := by rcases ab_c (S.1 14).toInt with ⟨a, e⟩ | ⟨a, e⟩ <;> omega
  have b15 : 0 ≤ ab (S.1 15).toInt ∧ ab (S.1 15).toInt ≤ 100 := by rcases ab_c (S.1 15).toInt with ⟨a, e⟩ | ⟨a, e⟩ <;> omega
  have es : (r_L_size (S.1 14) + r_L_size (S.1 15)).toInt = ab (S.1 14).toInt + ab (S.1 15).toInt := by rw [ti_add (by omega) (by omega), s14, s15]
  unfold CR at hC
  unfold r_L_isStick
  rw [a100, a100, if_neg (nlt_iff.mpr hv9.1), if_neg (nlt_iff.mpr (by omega)), if_neg (nlt_iff.mpr (by rw [z100]; omega)), if_neg (nlt_iff.mpr (by rw [z100]; omega)), if_neg (nlt_iff.mpr (by omega)), if_neg (nlt_iff.mpr (by rw [z0]; omega)), if_neg (nlt_iff.mpr (by rw [z20]; omega))]
  unfold r_L_isStick_at112
  have hl : (S.1 21 = 0 ∧ latX S = -6 ∧ latY S = -6) ∨ (¬ S.1 21 = 0 ∧ latX S = S.1 10 ∧ latY S = S.1 11 ∧ (0 ≤ (S.1 10).toInt ∧ (S.1 10).toInt ≤ 255) ∧ (0 ≤ (S.1 11).toInt ∧ (S.1 11).toInt ≤ 255)) := by
    unfold latX latY
    by_cases q : S.1 21 = 0
    · rw [if_pos q, if_pos q]
      exact Or.inl ⟨q, rfl, rfl⟩
    · rw [if_neg q, if_neg q]
      rcases hL with h | h
      · exact absurd (ti_eq.mpr h) q
      · exact Or.inr ⟨q, rfl, rfl, h.1, h.2⟩
  have o3X : r_X4_of (nI 0) 3 S = if S.1 21 = 0 then -6 else S.1 10 - S.1 7 / 16 + 1000 := rfl
  have o3Y : r_X4_of (nI 1) 3 S = if S.1 21 = 0 then -6 else S.1 11 - S.1 8 / 16 + 1000 := rfl
  rw [st_117 (n := 2) (k := 0) (by omega) (of_0_0 S) (of_0_2 S) o3X hv.1 (by
    rcases hl with ⟨q1, q2, q3⟩ | ⟨q1, q2, q3, q4, q5⟩
    · exact Or.inl ⟨q1, q2, if_pos q1⟩
    · refine Or.inr ⟨q1, by rw [q2]; exact q4, ?_⟩
      rw [if_neg q1, q2])]
  rw [st_117 (n := 1) (k := 1) (by omega) (of_1_0 S) (of_1_2 S) o3Y hv.2.1 (by
    rcases hl with ⟨q1, q2, q3⟩ | ⟨q1, q2, q3, q4, q5⟩
    · exact Or.inl ⟨q1, q3, if_pos q1⟩
    · refine Or.inr ⟨q1, by rw [q3]; exact q5, ?_⟩
      rw [if_neg q1, q3])]
  rw [r_L_isStick_at117, if_neg (show ¬ nI (1 + 1) < 2 by decide)]
  exact st_246 II hB h1 h2 h3 h7 h8 10 0 0 0 (by omega) (by omega) rfl rfl
