/-! the calls that ask, beside the reference's -/
theorem lat_eq {S : SS} {r : Nat → Int32} {B : Int} (h : RS S r B) : (S.1 21 = 0 ∧ r 10 < 0 ∧ r 11 < 0) ∨ (¬ S.1 21 = 0 ∧ ¬ r 10 < 0 ∧ ¬ r 11 < 0 ∧ S.1 10 = r 10 ∧ S.1 11 = r 11) := by
  have e21 : S.1 21 = r 21 := h.1 21 (by omega)
  rcases h.2.1 with ⟨q1, q2, q3⟩ | ⟨q1, q2, q3, q4, q5⟩
  · left
    rw [e21, q2, q3]
    exact ⟨q1, by decide, by decide⟩
  · right
    refine ⟨fun e => ?_, i_nn q2.1, i_nn q3.1, q4, q5⟩
    rw [← e21, e] at q1
    exact absurd q1 (by decide)
theorem of_sim {S : SS} {r : Nat → Int32} {B : Int} (h : RS S r B) (axis what : Int32) : r_X4_of axis what S = r_X5_of axis what r := by
  have e7 : S.1 7 = r 7 := h.1 7 (by omega)
  have e8 : S.1 8 = r 8 := h.1 8 (by omega)
  have e14 : S.1 14 = r 14 := h.1 14 (by omega)
  have e15 : S.1 15 = r 15 := h.1 15 (by omega)
  unfold r_X4_of r_X5_of
  by_cases a0 : axis = 0
  · subst a0
    rw [if_pos rfl, if_pos rfl, if_neg (show ¬ r_X5_in 0 0 1 = 0 by decide)]
    unfold r_X3_aboutX r_X3_about r_X5_off
    show _ = if what = 0 then r 7 else if what = 1 then r 14 + 100 else if what = 2 then (if r 10 < 0 then -6 else r 10) else if what = 3 then (if r 10 < 0 then -6 else r 10 - r 7 / 16 + 1000) else -2
    rw [e7, e14]
    rcases lat_eq h with ⟨q1, q2, q3⟩ | ⟨q1, q2, q3, q4, q5⟩
    · rw [if_pos q1, if_pos q1, if_pos q2, if_pos q2]
    · rw [if_neg q1, if_neg q1, if_neg q2, if_neg q2, q4]
  · rw [if_neg a0]
    by_cases a1 : axis = 1
    · subst a1
      rw [if_pos rfl, if_neg a0, if_neg (show ¬ r_X5_in 1 0 1 = 0 by decide)]
      unfold r_X3_aboutY r_X3_about r_X5_off
      show _ = if what = 0 then r 8 else if what = 1 then r 15 + 100 else if what = 2 then (if r 11 < 0 then -6 else r 11) else if what = 3 then (if r 11 < 0 then -6 else r 11 - r 8 / 16 + 1000) else -2
      rw [e8, e15]
      rcases lat_eq h with ⟨q1, q2, q3⟩ | ⟨q1, q2, q3, q4, q5⟩
      · rw [if_pos q1, if_pos q1, if_pos q3, if_pos q3]
      · rw [if_neg q1, if_neg q1, if_neg q3, if_neg q3, q5]
    · rw [if_neg a1]
      have i0 : r_X5_in axis 0 1 = 0 := by
        unfold r_X5_in
        by_cases n : axis < 0
        · rw [if_pos n]
        · have n' := nlt_iff.mp n
          rw [z0] at n'
          rw [if_neg n, if_pos]
          refine lt_iff.mpr ?_
          have b0 := mt ti_eq.mpr a0
          have b1 := mt ti_eq.mpr a1
          rw [z0] at b0
          rw [z1] at b1 ⊢
          omega
      rw [if_pos i0]
theorem c9 : ∀ m, m < 9 → nI m / 3 = nI (m / 3) ∧ nI m - nI m / 3 * 3 = nI (m % 3) ∧ ¬ nI m < 0 ∧ nI m < 9 := by decide +kernel
theorem in4 (w : Int32) : (w = 0 ∨ w = 1 ∨ w = 2 ∨ w = 3) ∨ (r_X5_in w 0 3 = 0 ∧ ¬ w = 0 ∧ ¬ w = 1 ∧ ¬ w = 2 ∧ ¬ w = 3) := by
  by_cases h0 : w = 0
  · exact Or.inl (Or.inl h0)
  · by_cases h1 : w = 1
    · exact Or.inl (Or.inr (Or.inl h1))
    · by_cases h2 : w = 2
      · exact Or.inl (Or.inr (Or.inr (Or.inl h2)))
      · by_cases h3 : w = 3
        · exact Or.inl (Or.inr (Or.inr (Or.inr h3)))
        · refine Or.inr ⟨?_, h0, h1, h2, h3⟩
          unfold r_X5_in
          by_cases n : w < 0
          · rw [if_pos n]
          · rw [if_neg n, if_pos]
            have n' := nlt_iff.mp n
            refine lt_iff.mpr ?_
            have b0 := mt ti_eq.mpr h0
            have b1 := mt ti_eq.mpr h1
            have b2 := mt ti_eq.mpr h2
            have b3 := mt ti_eq.mpr h3
            have z3 : (3 : Int32).toInt = 3 := rfl
            rw [z0] at b0 n'
            rw [z1] at b1
            rw [z2] at b2
            rw [z3] at b3 ⊢
            omega
theorem direction_sim {S : SS} {r : Nat → Int32} {B : Int} (h : RS S r B) (rank what : Int32) : r_X4_direction rank what S = r_X5_direction rank what r := by
  obtain ⟨-, -, -, -, -, -, -, nd, c, hD⟩ := h
  obtain ⟨h1, h2, h9, h4, -⟩ := hD
  unfold r_X4_direction r_X0_about r_X5_direction
  by_cases n : rank < 0
  · have i0 : ∀ H, r_X5_in rank 0 H = 0 := fun H => by
      unfold r_X5_in
      rw [if_pos n]
    rw [if_pos n, if_pos (i0 _)]
  · obtain ⟨k, hk, rfl⟩ := nI_of n
    rw [if_neg n, h1, h2]
    by_cases l : k < nd
    · have i0 : ¬ r_X5_in (nI k) 0 (nI nd - 1) = 0 := by
        unfold r_X5_in
        rw [nI_m1 (by omega), if_neg n, if_neg (nI_nlt (by omega) (by omega))]
        decide
      obtain ⟨o1, o2, o3, o4, o5, o6, -⟩ := h4 k l
      obtain ⟨p1, p2, p3, p4⟩ := c9 _ o1
      rw [if_pos (nI_lt l (by omega)), if_pos (show nI k < 9 from nI_lt (b := 9) (by omega) (by omega)), if_neg i0, nI_clamp hk, o4, if_neg p3, if_pos p4, nI_clamp (by omega), p2, p1]
      rcases in4 what with (e | e | e | e) | ⟨e, e0, e1, e2, e3⟩
      · subst e
        exact o2.symm
      · subst e
        show nI (c k % 3) = r (25 + 4 * k + 1)
        rw [show 25 + 4 * k + 1 = 26 + 4 * k by omega]
        exact o3.symm
      · subst e
        show S.2.2.2.2.1 (c k) = r (25 + 4 * k + 2)
        rw [show 25 + 4 * k + 2 = 27 + 4 * k by omega]
        exact o5
      · subst e
        show S.2.2.2.2.2 (c k) = r (25 + 4 * k + 3)
        rw [show 25 + 4 * k + 3 = 28 + 4 * k by omega]
        exact o6
      · rw [if_pos e, if_neg e0, if_neg e1, if_neg e2, if_neg e3]
    · have i0 : r_X5_in (nI k) 0 (nI nd - 1) = 0 := by
        unfold r_X5_in
        rw [if_neg n, if_pos]
        refine lt_iff.mpr ?_
        rw [ti_sub (by rw [nI_toInt (by omega), z1]; omega) (by rw [nI_toInt (by omega), z1]; omega), nI_toInt hk, nI_toInt (by omega), z1]
        omega
      rw [if_neg (nI_nlt (by omega) hk), if_pos i0]
theorem cnt_out {what : Int32} {r : Nat → Int32} {Z : MR} {S : SS} {h : Nat → Int32} {y : HS} (n : what.toInt < 0 ∨ 19 ≤ what.toInt) : r_X4_count what S h y = -2 ∧ r_X5_count what r Z = -2 := by
  have ne : ∀ j : Int32, (0 ≤ j.toInt ∧ j.toInt ≤ 18) → ¬ what = j := fun j hj e => by
    subst e
    omega
  have a182 : r_X5_count_at182 what r Z = -2 := by
    unfold r_X5_count_at182 r_X5_in
    by_cases c : what < 10
    · rw [if_pos c, if_pos rfl]
    · have c' := nlt_iff.mp c
      have e10 : (10 : Int32).toInt = 10 := rfl
      have e16 : (16 : Int32).toInt = 16 := rfl
      rw [if_neg c, if_pos (lt_iff.mpr (by rw [e16]; omega)), if_pos rfl]
  constructor
  · unfold r_X4_count r_X3_number
    have nx : ∀ X : Int32, (if what = 0 then S.1 21 else if what = 1 then S.1 9 else if what = 2 then S.1 12 else if what = 3 then S.1 13 else if what = 4 then S.1 16 else if what = 5 then S.1 17 else if what = 6 then S.1 18 else if what = 7 then S.1 19 else if what = 8 then S.2.2.1 0 else if what = 9 then S.1 20 else X) = X := fun X => by
      rw [if_neg (ne 0 (by decide)), if_neg (ne 1 (by decide)), if_neg (ne 2 (by decide)), if_neg (ne 3 (by decide)), if_neg (ne 4 (by decide)), if_neg (ne 5 (by decide)), if_neg (ne 6 (by decide)), if_neg (ne 7 (by decide)), if_neg (ne 8 (by decide)), if_neg (ne 9 (by decide))]
    rw [if_neg (ne 17 (by decide)), if_neg (ne 18 (by decide)), nx]
    by_cases c : what < 10
    · rw [if_pos c]
    · have c' := nlt_iff.mp c
      have e10 : (10 : Int32).toInt = 10 := rfl
      rw [e10] at c'
      have hr := ti_rng what
      rw [if_neg c, if_neg (nlt_iff.mpr (by rw [z7, ti_sub (by rw [e10]; omega) (by rw [e10]; omega), e10]; omega))]
  · unfold r_X5_count
    rw [if_neg (ne 0 (by decide)), if_neg (ne 1 (by decide)), if_neg (ne 2 (by decide)), if_neg (ne 3 (by decide)), if_neg (ne 4 (by decide)), if_neg (ne 5 (by decide)), if_neg (ne 6 (by decide)), if_neg (ne 7 (by decide)), if_neg (ne 8 (by decide)), if_neg (ne 9 (by decide)), if_neg (ne 10 (by decide)), if_neg (ne 11 (by decide)), if_neg (ne 12 (by decide)), if_neg (ne 13 (by decide)), if_neg (ne 14 (by decide)), if_neg (ne 15 (by decide)), if_neg (ne 16 (by decide)), if_neg (ne 17 (by decide)), if_neg (ne 18 (by decide)), a182]
theorem count_sim {S : SS} {r : Nat → Int32} {B : Int} (h : RS S r B) (what : Int32) (hh : Nat → Int32) (y : HS) (Z : MR) (h17 : hh 0 = Z.2.2.2.2.2) (h18 : nI y.2.1 = Z.2.1) : r_X4_count what S hh y = r_X5_count what r Z := by
  by_cases n : what.toInt < 0 ∨ 19 ≤ what.toInt
  · rw [(cnt_out (r := r) (Z := Z) (S := S) (h := hh) (y := y) n).1, (cnt_out (r := r) (Z := Z) (S := S) (h := hh) (y := y) n).2]
  · obtain ⟨hG, hL, hS, -, -, -, -, nd, c, hD⟩ := h
    obtain ⟨k, hk, rfl⟩ := nI_of (x := what) (i_nn (by omega))
    rw [nI_toInt hk] at n
    have hk19 : k < 19 := by omega
    match k, hk19 with
    | 0, _ => exact (show r_X4_count 0 S hh y = S.1 21 from rfl).trans ((hG 21 (by omega)).trans (show r 21 = r_X5_count 0 r Z from rfl))
    | 1, _ => exact (show r_X4_count 1 S hh y = S.1 9 from rfl).trans ((hG 9 (by omega)).trans (show r 9 = r_X5_count 1 r Z from rfl))
    | 2, _ => exact (show r_X4_count 2 S hh y = S.1 12 from rfl).trans ((hG 12 (by omega)).trans (show r 12 = r_X5_count 2 r Z from rfl))
    | 3, _ => exact (show r_X4_count 3 S hh y = S.1 13 from rfl).trans ((hG 13 (by omega)).trans (show r 13 = r_X5_count 3 r Z from rfl))
    | 4, _ => exact (show r_X4_count 4 S hh y = S.1 16 from rfl).trans ((hG 16 (by omega)).trans (show r 16 = r_X5_count 4 r Z from rfl))
    | 5, _ => exact (show r_X4_count 5 S hh y = S.1 17 from rfl).trans ((hG 17 (by omega)).trans (show r 17 = r_X5_count 5 r Z from rfl))
    | 6, _ => exact (show r_X4_count 6 S hh y = S.1 18 from rfl).trans ((hG 18 (by omega)).trans (show r 18 = r_X5_count 6 r Z from rfl))
    | 7, _ => exact (show r_X4_count 7 S hh y = S.1 19 from rfl).trans ((hG 19 (by omega)).trans (show r 19 = r_X5_count 7 r Z from rfl))
    | 8, _ => exact (show r_X4_count 8 S hh y = S.2.2.1 0 from rfl).trans (hD.1.trans (hD.2.1.symm.trans (show r 22 = r_X5_count 8 r Z from rfl)))
    | 9, _ => exact (show r_X4_count 9 S hh y = S.1 20 from rfl).trans ((hG 20 (by omega)).trans (show r 20 = r_X5_count 9 r Z from rfl))
    | 10, _ => exact (show r_X4_count 10 S hh y = S.2.1 0 from rfl).trans ((hS 0 (by omega)).trans (show r 0 = r_X5_count 10 r Z from rfl))
    | 11, _ => exact (show r_X4_count 11 S hh y = S.2.1 1 from rfl).trans ((hS 1 (by omega)).trans (show r 1 = r_X5_count 11 r Z from rfl))
    | 12, _ => exact (show r_X4_count 12 S hh y = S.2.1 2 from rfl).trans ((hS 2 (by omega)).trans (show r 2 = r_X5_count 12 r Z from rfl))
    | 13, _ => exact (show r_X4_count 13 S hh y = S.2.1 3 from rfl).trans ((hS 3 (by omega)).trans (show r 3 = r_X5_count 13 r Z from rfl))
    | 14, _ => exact (show r_X4_count 14 S hh y = S.2.1 4 from rfl).trans ((hS 4 (by omega)).trans (show r 4 = r_X5_count 14 r Z from rfl))
    | 15, _ => exact (show r_X4_count 15 S hh y = S.2.1 5 from rfl).trans ((hS 5 (by omega)).trans (show r 5 = r_X5_count 15 r Z from rfl))
    | 16, _ => exact (show r_X4_count 16 S hh y = S.2.1 6 from rfl).trans ((hS 6 (by omega)).trans (show r 6 = r_X5_count 16 r Z from rfl))
    | 17, _ => exact (show r_X4_count 17 S hh y = hh 0 from rfl).trans (h17.trans (show Z.2.2.2.2.2 = r_X5_count 17 r Z from rfl))
    | 18, _ => exact (show r_X4_count 18 S hh y = nI y.2.1 from rfl).trans (h18.trans (show Z.2.1 = r_X5_count 18 r Z from rfl))
    | _ + 19, q => exact absurd q (by omega)
/-! what if -/
theorem wouldTell_sim {S : SS} {r : Nat → Int32} {B : Int} (h : RS S r B) (hB : B ≤ 9999) (x y : Int32) (f : Nat → Int32) : r_X4_wouldTell x y S = r_X5_wouldTell x y r f := by
  unfold r_X4_wouldTell r_X5_wouldTell
  rw [isS_eq]
  by_cases c : r_X5_areRight x y = 0
  · rw [if_pos c, if_pos c]
  · rw [if_neg c, if_neg c]
    exact (take_rel h (by omega) (right_P c)).2.2.1
theorem size0 {v : Int32} (hv : -2147483648 < v.toInt) : (r_X5_size v).toInt = 0 ↔ v.toInt = 0 := by
  rw [size_toInt hv]
  split <;> omega
theorem offN {T : SS} {r : Nat → Int32} {B : Int} (h : RS T r B) {x y : Int32} (hp : rgP x y) : (r_X3_isOffByNothing x y T = 0) ↔ ¬ (r_X5_far x y r = 0) := by
  have ox := off_b hp.1 h.2.2.2.2.1.1
  have oy := off_b hp.2 h.2.2.2.2.1.2.1
  have d7 := div16 h.2.2.2.2.1.1
  have d8 := div16 h.2.2.2.2.1.2.1
  have ex : (x - r 7 / 16).toInt = x.toInt - (r 7 / 16).toInt := ti_sub (by have := hp.1; omega) (by have := hp.1; omega)
  have ey : (y - r 8 / 16).toInt = y.toInt - (r 8 / 16).toInt := ti_sub (by have := hp.2; omega) (by have := hp.2; omega)
  have sx := size_toInt (a := x - r 7 / 16) (by omega)
  have sy := size_toInt (a := y - r 8 / 16) (by omega)
  have hf : r_X5_far x y r = 0 ↔ (x - r 7 / 16).toInt = 0 ∧ (y - r 8 / 16).toInt = 0 := by
    rw [ti_eq, z0]
    show (r_X5_greater (r_X5_size (x - r 7 / 16)) (r_X5_size (y - r 8 / 16))).toInt = 0 ↔ _
    rw [greater_toInt]
    repeat' split at sx
    all_goals (repeat' split at sy)
    all_goals (split <;> omega)
  rw [hf]
  unfold r_X3_isOffByNothing r_X3_restPlaceX r_X3_restPlaceY
  rw [h.1 7 (by omega), h.1 8 (by omega)]
  by_cases a : x = r 7 / 16
  · rw [if_pos a]
    have a' : x.toInt = (r 7 / 16).toInt := congrArg Int32.toInt a
    by_cases b : y = r 8 / 16
    · rw [if_pos b]
      have b' : y.toInt = (r 8 / 16).toInt := congrArg Int32.toInt b
      exact ⟨fun q => absurd q (by decide), fun q => absurd ⟨by omega, by omega⟩ q⟩
    · rw [if_neg b]
      have b' := mt ti_eq.mpr b
      exact ⟨fun _ q => b' (by omega), fun _ => rfl⟩
  · rw [if_neg a]
    have a' := mt ti_eq.mpr a
    exact ⟨fun _ q => a' (by omega), fun _ => rfl⟩
theorem lI_l {S : SS} (T : SS) (r f : Nat → Int32) {x y : Int32} (hp : rgP x y) (n : Nat) : ∀ k T1 r1, RS T1 r1 (9999 + (k : Nat)) → k ≤ 501 → r_X4_learnedIn_at24 x y S T n k T1 = r_X5_learnedIn_at17 x y r f n k r1 := by
  induction n with
  | zero => intro k T1 r1 _ _; rfl
  | succ n ih =>
    intro k T1 r1 h hk
    show (if 500 < nI k then (-6 : Int32) else if r_X3_isOffByNothing x y T1 = 0 then r_X4_learnedIn_at24 x y S T n (k + 1) (c_X3_take x y T1) else nI k) = if 500 < nI k then -6 else if r_X5_far x y r1 = 0 then nI k else r_X5_learnedIn_at17 x y r f n (k + 1) (c_X5_samples_s x y r1)
    by_cases c : 500 < nI k
    · rw [if_pos c, if_pos c]
    · rw [if_neg c, if_neg c]
      have hk5 : k ≤ 500 := by
        rcases Nat.lt_or_ge 500 k with q | q
        · exact absurd (show (500 : Int32) < nI k from nI_lt (a := 500) q (by omega)) c
        · exact q
      by_cases e : r_X5_far x y r1 = 0
      · rw [if_pos e, if_neg (fun q => (offN h hp).mp q e)]
      · rw [if_neg e, if_pos ((offN h hp).mpr e)]
        exact ih (k + 1) _ _ ((take_rel h (by omega) hp).1.mono (by omega)) (by omega)
theorem learnedIn_sim {S : SS} (T : SS) {r : Nat → Int32} (h : RS S r 9999) (x y : Int32) (f : Nat → Int32) : r_X4_learnedIn x y S T = r_X5_learnedIn x y r f := by
  unfold r_X4_learnedIn r_X5_learnedIn
  rw [isS_eq]
  by_cases c : r_X5_areRight x y = 0
  · rw [if_pos c, if_pos c]
  · rw [if_neg c, if_neg c]
    exact lI_l T r f (right_P c) 502 0 S r (h.mono (by omega)) (by omega)
theorem dI_l {S : SS} (T : SS) (r f : Nat → Int32) {x y : Int32} (hp : rgP x y) (n : Nat) : ∀ k T1 r1, RS T1 r1 (9999 + (k : Nat)) → r1 17 = r 17 → k ≤ 201 → r_X4_driftsIn_at24 x y S T n k T1 = r_X5_driftsIn_at17 x y r f n k r1 := by
  induction n with
  | zero => intro k T1 r1 _ _ _; rfl
  | succ n ih =>
    intro k T1 r1 h h17 hk
    show (if 200 < nI k then (-6 : Int32) else if r_X3_wouldDrift x y T1 = 0 then r_X4_driftsIn_at24 x y S T n (k + 1) (c_X3_take x y T1) else nI k) = if 200 < nI k then -6 else if r 17 < c_X5_samples_s x y r1 17 then nI k else r_X5_driftsIn_at17 x y r f n (k + 1) (c_X5_samples_s x y r1)
    by_cases c : 200 < nI k
    · rw [if_pos c, if_pos c]
    · rw [if_neg c, if_neg c]
      have hk5 : k ≤ 200 := by
        rcases Nat.lt_or_ge 200 k with q | q
        · exact absurd (show (200 : Int32) < nI k from nI_lt (a := 200) q (by omega)) c
        · exact q
      obtain ⟨t1, t2, t3, t4⟩ := take_rel h (by omega) hp
      have hb := h.2.2.2.2.2.2.1
      rw [h17] at t4 hb
      by_cases e : r_X3_wouldDrift x y T1 = 0
      · rw [if_pos e] at t4
        rw [if_pos e, t4, if_neg (nlt_iff.mpr (by omega))]
        exact ih (k + 1) _ _ (t1.mono (by omega)) t4 (by omega)
      · rw [if_neg e] at t4
        rw [if_neg e, t4, if_pos (lt_iff.mpr (by rw [i_1 (by omega)]; omega))]
theorem driftsIn_sim {S : SS} (T : SS) {r : Nat → Int32} (h : RS S r 9999) (x y : Int32) (f : Nat → Int32) : r_X4_driftsIn x y S T = r_X5_driftsIn x y r f := by
  unfold r_X4_driftsIn r_X5_driftsIn
  rw [isS_eq]
  by_cases c : r_X5_areRight x y = 0
  · rw [if_pos c, if_pos c]
  · rw [if_neg c, if_neg c]
    exact dI_l T r f (right_P c) 202 1 S r (h.mono (by omega)) rfl (by omega)
theorem pk00 {a b : Int32} (ha : -100 ≤ a.toInt ∧ a.toInt ≤ 100) (hb : -100 ≤ b.toInt ∧ b.toInt ≤ 100) : r_X4_packed a b = r_X4_packed 0 0 ↔ a = 0 ∧ b = 0 := by
  constructor
  · intro e
    obtain ⟨u1, u2⟩ := unpack ha hb
    obtain ⟨w1, w2⟩ := unpack (a := 0) (b := 0) (by decide) (by decide)
    rw [e] at u1 u2
    exact ⟨u1.symm.trans w1, u2.symm.trans w2⟩
  · intro e
    rw [e.1, e.2]
theorem edge_c {S : SS} {r : Nat → Int32} (h : RS S r 9999) (X Y L L1 L2 N : Int32) (e1 : L = L1) (e2 : L = L2) : (if r_X4_isSample X Y = 0 then L else if r_X3_tellingAt X Y S = r_X4_packed 0 0 then L else N) = if r_X5_areRight X Y = 0 then L1 else if r_X5_isTelling (c_X5_samples_s X Y r) = 0 then L2 else N := by
  rw [isS_eq, ← e1, ← e2]
  by_cases c : r_X5_areRight X Y = 0
  · rw [if_pos c, if_pos c]
  · rw [if_neg c, if_neg c]
    obtain ⟨t1, -, t3, -⟩ := take_rel h (by omega) (right_P c)
    rw [t3]
    have hT := t1.2.2.2.2.2.1
    have q := pk00 hT.1 hT.2
    have e : r_X5_told (c_X5_samples_s X Y r) = r_X4_packed (c_X5_samples_s X Y r 14) (c_X5_samples_s X Y r 15) := rfl
    rw [e]
    unfold r_X5_isTelling
    by_cases a : c_X5_samples_s X Y r 14 = 0
    · by_cases b : c_X5_samples_s X Y r 15 = 0
      · rw [if_pos (q.mpr ⟨a, b⟩), if_pos a, if_pos b, if_pos rfl]
      · rw [if_neg (fun z => b (q.mp z).2), if_pos a, if_neg b, if_neg (by decide)]
    · rw [if_neg (fun z => a (q.mp z).1), if_neg a, if_neg (by decide)]
theorem m1_mul (a : Int32) : (-1) * a = -a := by
  rw [Int32.neg_mul, Int32.one_mul]
theorem n10 : ¬ (1 : Int32) = 0 := by decide
theorem n01 : ¬ (0 : Int32) = 1 := by decide
theorem edge_l {S : SS} {r : Nat → Int32} (h : RS S r 9999) (axis up : Int32) (f : Nat → Int32) (ha : axis = 0 ∨ axis = 1) (n : Nat) : ∀ k f1, r_X4_edge_at37 axis up S n k (if up = 1 then 1 else -1) = r_X5_edge_at49 axis up r f n k f1 := by
  have eX : r_X3_restPlaceX S = r 7 / 16 := by
    show S.1 7 / 16 = _
    rw [h.1 7 (by omega)]
  have eY : r_X3_restPlaceY S = r 8 / 16 := by
    show S.1 8 / 16 = _
    rw [h.1 8 (by omega)]
  obtain ⟨step, hst⟩ : ∃ step, (if up = 1 then (1 : Int32) else -1) = step := ⟨_, rfl⟩
  rw [hst]
  induction n with
  | zero => intro k f1; rfl
  | succ n ih =>
    intro k f1
    have E := fun X Y N f2 f3 => edge_c h X Y _ _ _ N (ih (k + 1) f2) (ih (k + 1) f3)
    rw [r_X4_edge_at37, r_X5_edge_at49, eX, eY]
    by_cases c : 255 < nI k
    · rw [if_pos c, if_pos c]
    · rw [if_neg c, if_neg c]
      by_cases u : up = 1
      · have hs : step = 1 := hst.symm.trans (if_pos u)
        rw [if_pos u]
        rcases ha with a | a
        · have a1 : ¬ axis = 1 := fun q => n01 (a.symm.trans q)
          rw [if_pos a, if_pos a, if_neg a1, if_neg a1]
          have e1 : r 7 / 16 + step * nI k = r 7 / 16 + nI k := by rw [hs, Int32.one_mul]
          have e2 : r 8 / 16 + 0 = r 8 / 16 := Int32.add_zero _
          rw [e1, e2]
          exact E _ _ _ _ _
        · have a1 : ¬ axis = 0 := fun q => n10 (a.symm.trans q)
          rw [if_neg a1, if_neg a1, if_pos a, if_pos a]
          have e1 : r 8 / 16 + step * nI k = r 8 / 16 + nI k := by rw [hs, Int32.one_mul]
          have e2 : r 7 / 16 + 0 = r 7 / 16 := Int32.add_zero _
          rw [e1, e2]
          exact E _ _ _ _ _
      · have hs : step = -1 := hst.symm.trans (if_neg u)
        rw [if_neg u]
        rcases ha with a | a
        · have a1 : ¬ axis = 1 := fun q => n01 (a.symm.trans q)
          rw [if_pos a, if_pos a, if_neg a1, if_neg a1]
          have e1 : r 7 / 16 + step * nI k = r 7 / 16 + -nI k := by rw [hs, m1_mul]
          have e2 : r 8 / 16 + 0 = r 8 / 16 := Int32.add_zero _
          rw [e1, e2]
          exact E _ _ _ _ _
        · have a1 : ¬ axis = 0 := fun q => n10 (a.symm.trans q)
          rw [if_neg a1, if_neg a1, if_pos a, if_pos a]
          have e1 : r 8 / 16 + step * nI k = r 8 / 16 + -nI k := by rw [hs, m1_mul]
          have e2 : r 7 / 16 + 0 = r 7 / 16 := Int32.add_zero _
          rw [e1, e2]
          exact E _ _ _ _ _
theorem in2 (w : Int32) : (w = 0 ∧ r_X5_in w 0 1 = 1) ∨ (w = 1 ∧ r_X5_in w 0 1 = 1) ∨ (r_X5_in w 0 1 = 0 ∧ ¬ w = 0 ∧ ¬ w = 1) := by
  by_cases h0 : w = 0
  · exact Or.inl ⟨h0, by rw [h0]; decide⟩
  · by_cases h1 : w = 1
    · exact Or.inr (Or.inl ⟨h1, by rw [h1]; decide⟩)
    · refine Or.inr (Or.inr ⟨?_, h0, h1⟩)
      unfold r_X5_in
      by_cases n : w < 0
      · rw [if_pos n]
      · rw [if_neg n, if_pos]
        have n' := nlt_iff.mp n
        refine lt_iff.mpr ?_
        have b0 := mt ti_eq.mpr h0
        have b1 := mt ti_eq.mpr h1
        rw [z0] at b0 n'
        rw [z1] at b1 ⊢
        omega
theorem edge_sim {S : SS} {r : Nat → Int32} (h : RS S r 9999) (axis up : Int32) (f : Nat → Int32) : r_X4_edge axis up S = r_X5_edge axis up r f := by
  unfold r_X4_edge r_X5_edge
  have hU : (axis = 0 ∨ axis = 1) → (if up = 0 then (if up = 1 then r_X4_edge_at37 axis up S 257 1 1 else r_X4_edge_at37 axis up S 257 1 (-1)) else if up = 1 then (if up = 1 then r_X4_edge_at37 axis up S 257 1 1 else r_X4_edge_at37 axis up S 257 1 (-1)) else -2) = if r_X5_in up 0 1 = 0 then -2 else r_X5_edge_at49 axis up r f 257 1 f := fun ha => by
    have q := edge_l h axis up f ha 257 1 f
    rcases in2 up with ⟨u, i⟩ | ⟨u, i⟩ | ⟨i, u0, u1⟩
    · have u1 : ¬ up = 1 := fun z => n01 (u.symm.trans z)
      rw [if_neg u1] at q
      rw [i, if_neg n10, if_pos u, if_neg u1, q]
    · have u0 : ¬ up = 0 := fun z => n10 (u.symm.trans z)
      rw [if_pos u] at q
      rw [i, if_neg n10, if_neg u0, if_pos u, if_pos u, q]
    · rw [if_pos i, if_neg u0, if_neg u1]
  rcases in2 axis with ⟨a, i⟩ | ⟨a, i⟩ | ⟨i, a0, a1⟩
  · rw [i, if_neg n10, if_pos a, hU (Or.inl a)]
  · have a0 : ¬ axis = 0 := fun z => n10 (a.symm.trans z)
    rw [i, if_neg n10, if_neg a0, if_pos a, hU (Or.inr a)]
  · rw [if_pos i, if_neg a0, if_neg a1]
