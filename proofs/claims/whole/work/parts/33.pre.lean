def eqG (g r : Nat → Int32) : Prop := ∀ k, (7 ≤ k ∧ k ≤ 9) ∨ (12 ≤ k ∧ k ≤ 21) → g k = r k
def rsL (g r : Nat → Int32) : Prop := (r 21 = 0 ∧ r 10 = -1 ∧ r 11 = -1) ∨ (1 ≤ (r 21).toInt ∧ (0 ≤ (r 10).toInt ∧ (r 10).toInt ≤ 255) ∧ (0 ≤ (r 11).toInt ∧ (r 11).toInt ≤ 255) ∧ g 10 = r 10 ∧ g 11 = r 11)
theorem still_eq {g r : Nat → Int32} (st : Nat → Int32) (D : DD) (x y : Int32) (hG : eqG g r) (hL : rsL g r) : r_X3_stillWith x y (g, st, D) = j_X5_samples_85_s0 x y r := by
  have e21 : g 21 = r 21 := hG 21 (by omega)
  have e12 : g 12 = r 12 := hG 12 (by omega)
  have e : j_X3_stillWith_38_s0 x y ((g, st, D) : SS) = j_X5_samples_55_s0 x y r := by
    unfold j_X3_stillWith_38_s0 j_X5_samples_55_s0
    show (if 0 < g 21 then (if 1 < iabs (x - g 10) then 0 else (if 1 < iabs (y - g 11) then 0 else 1)) else (0 : Int32)) = _
    rw [e21, iabs_size, iabs_size]
    rcases hL with ⟨h1, -⟩ | ⟨-, -, -, h4, h5⟩
    · rw [if_neg (by rw [h1]; decide), if_neg (by rw [h1]; decide)]
    · rw [h4, h5]
  unfold r_X3_stillWith r_X3_stillWith_at38 j_X5_samples_85_s0
  rw [e]
  show (if j_X5_samples_55_s0 x y r = 0 then 0 else g 12 + 1) = _
  rw [e12]
/-- the row behind a sample's first steps -/
def row1 (x y : Int32) (r : Nat → Int32) : Nat → Int32 := upd (upd (upd r 12 (j_X5_samples_85_s0 x y r)) 10 x) 11 y
theorem row1_k {x y : Int32} {r : Nat → Int32} {k : Nat} (h : k ≠ 10) (h1 : k ≠ 11) (h2 : k ≠ 12) : row1 x y r k = r k := (upd_lo h1).trans ((upd_lo h).trans (upd_lo h2))
theorem row1_eqK {g r : Nat → Int32} {x y v : Int32} (hG : eqG g r) (hv : v = j_X5_samples_85_s0 x y r) : eqK (upd (upd (upd g 12 v) 10 x) 11 y) (row1 x y r) := by
  intro k hk
  unfold row1
  rw [hv]
  by_cases c11 : k = 11
  · subst c11
    rfl
  · rw [upd_lo c11, upd_lo c11]
    by_cases c10 : k = 10
    · subst c10
      rfl
    · rw [upd_lo c10, upd_lo c10]
      by_cases c12 : k = 12
      · subst c12
        rfl
      · rw [upd_lo c12, upd_lo c12]
        unfold kK at hk
        exact hG k (by omega)
theorem far_row (x y : Int32) {r r' : Nat → Int32} (h7 : r' 7 = r 7) (h8 : r' 8 = r 8) : r_X5_far x y r' = r_X5_far x y r := by
  show r_X5_greater (r_X5_size (x - r' 7 / 16)) (r_X5_size (y - r' 8 / 16)) = r_X5_greater (r_X5_size (x - r 7 / 16)) (r_X5_size (y - r 8 / 16))
  rw [h7, h8]
theorem upd2_k {f : Nat → Int32} {v w : Int32} {k : Nat} (h14 : k ≠ 14) (h15 : k ≠ 15) : upd (upd f 14 v) 15 w k = f k := (upd_lo h15).trans (upd_lo h14)
theorem upd2_14 {f : Nat → Int32} {v w : Int32} : upd (upd f 14 v) 15 w 14 = v := (upd_lo (by decide)).trans upd_eq
theorem upd2_15 {f : Nat → Int32} {v w : Int32} : upd (upd f 14 v) 15 w 15 = w := upd_eq
theorem rgT_of {r : Nat → Int32} {a b : Int32} (h14 : r 14 = a) (h15 : r 15 = b) (ha : -100 ≤ a.toInt ∧ a.toInt ≤ 100) (hb : -100 ≤ b.toInt ∧ b.toInt ≤ 100) : rgT r := by
  unfold rgT
  rw [h14, h15]
  exact ⟨ha, hb⟩
theorem tells_k (x y : Int32) (r : Nat → Int32) {k : Nat} (h7 : k ≠ 7) (h8 : k ≠ 8) (h12 : k ≠ 12) (h14 : k ≠ 14) (h15 : k ≠ 15) (h17 : k ≠ 17) : c_X5_tells_s x y r k = r k := by
  unfold c_X5_tells_s c_X5_tells_s_at59 c_X5_tells_s_at93 c_X5_tells_s_at128 c_X5_tells_s_at188
  split
  all_goals simp (disch := assumption) only [upd_lo]
theorem rgS_of {r r' : Nat → Int32} (h : rgS r) (e : ∀ k, k < 7 → r' k = r k) : rgS r' := by
  unfold rgS
  rw [e 0 (by decide), e 1 (by decide), e 2 (by decide), e 3 (by decide), e 4 (by decide), e 5 (by decide), e 6 (by decide)]
  exact h
/-- the row behind a sample, ahead of the counts: the class's scalars are alike, and what is told is packed -/
theorem take_pre (g st : Nat → Int32) (D : DD) (x y : Int32) (r : Nat → Int32) (hG : eqG g r) (hL : rsL g r) (hS : eqS st r) (hs : rgS r) (hv : rgV r) (hp : rgP x y) :
    eqK (j_X3_take_80_g x y ((g, st, D) : SS)) (j_X5_samples_144_s x y r) ∧ r_X3_tellingAt x y ((g, st, D) : SS) = r_X4_packed (j_X5_samples_144_s x y r 14) (j_X5_samples_144_s x y r 15) ∧ rgT (j_X5_samples_144_s x y r) ∧ rgV (j_X5_samples_144_s x y r) := by
  have hst := still_eq st D x y hG hL
  have e7 : g 7 = r 7 := hG 7 (by omega)
  have e8 : g 8 = r 8 := hG 8 (by omega)
  have e9 : g 9 = r 9 := hG 9 (by omega)
  have e13 : g 13 = r 13 := hG 13 (by omega)
  have hK := row1_eqK (x := x) (y := y) hG hst
  have w7 : row1 x y r 7 = r 7 := row1_k (by decide) (by decide) (by decide)
  have w8 : row1 x y r 8 = r 8 := row1_k (by decide) (by decide) (by decide)
  have w9 : row1 x y r 9 = r 9 := row1_k (by decide) (by decide) (by decide)
  have w13 : row1 x y r 13 = r 13 := row1_k (by decide) (by decide) (by decide)
  have w5 : row1 x y r 5 = r 5 := row1_k (by decide) (by decide) (by decide)
  have w12 : row1 x y r 12 = j_X5_samples_85_s0 x y r := rfl
  have hS1 : eqS st (row1 x y r) := fun k hk => (hS k hk).trans (row1_k (by omega) (by omega) (by omega)).symm
  have hs1 : rgS (row1 x y r) := rgS_of hs (fun k hk => row1_k (by omega) (by omega) (by omega))
  have hv1 : rgV (row1 x y r) := by
    unfold rgV
    rw [w7, w8, w9, row1_k (k := 1) (by decide) (by decide) (by decide), row1_k (k := 2) (by decide) (by decide) (by decide)]
    exact hv
  have hf : r_X3_farthestOff x y ((g, st, D) : SS) = r_X5_far x y r := far_eq (st, D) x y e7 e8
  have hf1 : r_X5_far x y (row1 x y r) = r_X5_far x y r := far_row x y w7 w8
  have h25 : j_X3_take_25_s0 x y ((g, st, D) : SS) = if r 9 < r_X5_far x y r then 0 else 1 := by
    show (if g 9 < r_X3_farthestOff x y ((g, st, D) : SS) then (0 : Int32) else 1) = _
    rw [e9, hf]
  have hP : j_X5_samples_144_s x y r = if r 9 < r_X5_far x y r then c_X5_tells_s x y (row1 x y r) else c_X5_rests_s x y (row1 x y r) := by
    show (if r 9 < r_X5_far x y (row1 x y r) then c_X5_tells_s x y (row1 x y r) else c_X5_rests_s x y (row1 x y r)) = _
    rw [hf1]
  have hG1 : j_X3_take_80_g x y ((g, st, D) : SS) = if (if r 9 < r_X5_far x y r then (0 : Int32) else 1) = 0 then (if r_X3_wouldDrift x y ((g, st, D) : SS) = 0 then upd (upd (upd g 12 (r_X3_stillWith x y ((g, st, D) : SS))) 10 x) 11 y else (c_X3_driftTo x y (upd (upd (upd g 12 (r_X3_stillWith x y ((g, st, D) : SS))) 10 x) 11 y, st, D)).1) else (c_X3_comeToRest x y (upd (upd (upd g 12 (r_X3_stillWith x y ((g, st, D) : SS))) 10 x) 11 y, st, D)).1 := by
    unfold j_X3_take_80_g
    rw [h25]
  have hTA : r_X3_tellingAt x y ((g, st, D) : SS) = if r 9 < r_X5_far x y r then (if r_X3_wouldDrift x y ((g, st, D) : SS) = 0 then r_X4_packed (j_X5_tells_93_s0 x y r) (j_X5_tells_128_s0 x y r) else r_X4_packed 0 0) else r_X4_packed 0 0 := by
    rw [← (j9_b (st := st) D e7 e8 e9 hS hs hv hp).1, ← hf]
    unfold r_X3_tellingAt
    show (if g 9 < r_X3_farthestOff x y ((g, st, D) : SS) then _ else _) = _
    rw [e9]
  rw [hP, hG1, hTA]
  obtain ⟨g1, eg1⟩ : ∃ g1, upd (upd (upd g 12 (r_X3_stillWith x y ((g, st, D) : SS))) 10 x) 11 y = g1 := ⟨_, rfl⟩
  have g14 : g1 14 = row1 x y r 14 := by
    rw [← eg1, row1_k (by decide) (by decide) (by decide)]
    exact hG 14 (by omega)
  have g15 : g1 15 = row1 x y r 15 := by
    rw [← eg1, row1_k (by decide) (by decide) (by decide)]
    exact hG 15 (by omega)
  rw [eg1] at hK ⊢
  by_cases c : r 9 < r_X5_far x y r
  · rw [if_pos c, if_pos c, if_pos c, if_pos rfl]
    obtain ⟨-, hj1, hj2⟩ := j9_b (g := g) (st := st) (r := r) D e7 e8 e9 hS hs hv hp
    have x93 : j_X5_tells_93_s0 x y (row1 x y r) = j_X5_tells_93_s0 x y r := by
      unfold j_X5_tells_93_s0 j_X5_tells_59_s0 r_X5_axis r_X5_off
      rw [show row1 x y r (7 + 0) = r (7 + 0) from w7, show row1 x y r (7 + 1) = r (7 + 1) from w8, w9, row1_k (k := 3) (by decide) (by decide) (by decide), row1_k (k := 4) (by decide) (by decide) (by decide)]
    have x128 : j_X5_tells_128_s0 x y (row1 x y r) = j_X5_tells_128_s0 x y r := by
      unfold j_X5_tells_128_s0 j_X5_tells_59_s0 r_X5_axis r_X5_off
      rw [show row1 x y r (7 + 0) = r (7 + 0) from w7, show row1 x y r (7 + 1) = r (7 + 1) from w8, w9, row1_k (k := 3) (by decide) (by decide) (by decide), row1_k (k := 4) (by decide) (by decide) (by decide)]
    have hD : r_X3_wouldDrift x y ((g, st, D) : SS) = j_X5_tells_188_s0 x y (row1 x y r) := by
      unfold r_X3_wouldDrift j_X5_tells_188_s0
      rw [far_row x y (r := r) (r' := upd (upd (row1 x y r) 14 (j_X5_tells_93_s0 x y (row1 x y r))) 15 (j_X5_tells_128_s0 x y (row1 x y r))) ((upd2_k (by decide) (by decide)).trans w7) ((upd2_k (by decide) (by decide)).trans w8), hf, hst, w13, w12, w9, w5]
      show (if g 13 = 0 then (if g 9 < r_X5_far x y r then (if g 9 + 8 < r_X5_far x y r then 0 else (if j_X5_samples_85_s0 x y r < st 5 then 0 else (1 : Int32))) else 0) else 0) = _
      rw [e13, e9, hS 5 (by decide), if_pos c]
      by_cases c1 : r 13 = 0
      · rw [if_pos c1, if_pos c1]
        by_cases c2 : r 9 + 8 < r_X5_far x y r
        · rw [if_pos c2, if_pos c2]
          split <;> rfl
        · rw [if_neg c2, if_neg c2]
      · rw [if_neg c1, if_neg c1]
    rw [hD]
    unfold c_X5_tells_s c_X5_tells_s_at59 c_X5_tells_s_at93 c_X5_tells_s_at128 c_X5_tells_s_at188
    rw [x93, x128]
    by_cases cd : j_X5_tells_188_s0 x y (row1 x y r) = 0
    · rw [if_pos cd, if_pos cd, if_pos cd]
      refine ⟨(hK.right nk14).right nk15, by rw [upd2_14, upd2_15], rgT_of upd2_14 upd2_15 hj1 hj2, ?_⟩
      unfold rgV
      rw [upd2_k (by decide) (by decide), upd2_k (by decide) (by decide), upd2_k (by decide) (by decide), upd2_k (by decide) (by decide), upd2_k (by decide) (by decide)]
      exact hv1
    · rw [if_neg cd, if_neg cd, if_neg cd]
      have c14 : ∀ (f : Nat → Int32) (w : Int32), upd (upd (upd f 14 0) 15 0) 17 w 14 = 0 := fun f w => (upd_lo (by decide)).trans upd2_14
      have c15 : ∀ (f : Nat → Int32) (w : Int32), upd (upd (upd f 14 0) 15 0) 17 w 15 = 0 := fun f w => (upd_lo (by decide)).trans upd2_15
      have d7 : ∀ (f : Nat → Int32) (u v w : Int32), upd (upd (upd (upd (upd (upd f 7 u) 8 v) 12 0) 14 0) 15 0) 17 w 7 = u := fun f u v w => by
        rw [upd_lo (by decide), upd2_k (by decide) (by decide), upd_lo (by decide), upd_lo (by decide), upd_eq]
      have d8 : ∀ (f : Nat → Int32) (u v w : Int32), upd (upd (upd (upd (upd (upd f 7 u) 8 v) 12 0) 14 0) 15 0) 17 w 8 = v := fun f u v w => by
        rw [upd_lo (by decide), upd2_k (by decide) (by decide), upd_lo (by decide), upd_eq]
      have dk : ∀ (f : Nat → Int32) (u v w : Int32) (k : Nat), k = 1 ∨ k = 2 ∨ k = 9 → upd (upd (upd (upd (upd (upd f 7 u) 8 v) 12 0) 14 0) 15 0) 17 w k = f k := fun f u v w k hk => by
        rw [upd_lo (by omega), upd2_k (by omega) (by omega), upd_lo (by omega), upd_lo (by omega), upd_lo (by omega)]
      refine ⟨?_, by rw [c14, c15], rgT_of (c14 _ _) (c15 _ _) (by decide) (by decide), ?_⟩
      · show eqK (upd (upd (upd (upd g1 7 (16 * x)) 8 (16 * y)) 12 0) 17 (g1 17 + 1)) _
        refine eqK.put ?_ (by rw [hK 17 k17])
        exact eqK.right (eqK.right (((((hK.right nk14).right nk15).put rfl).put rfl).put rfl) nk14) nk15
      · unfold rgV
        rw [d7, d8, dk _ _ _ _ 9 (by omega), dk _ _ _ _ 1 (by omega), dk _ _ _ _ 2 (by omega), upd2_k (by decide) (by decide), upd2_k (by decide) (by decide), upd2_k (by decide) (by decide), mul16 hp.1, mul16 hp.2]
        have hp1 := hp.1
        have hp2 := hp.2
        exact ⟨by omega, by omega, hv1.2.2⟩
  · rw [if_neg c, if_neg c, if_neg c, if_neg (by decide)]
    obtain ⟨q1, q2⟩ := rest_step g1 st D x y (row1 x y r) hK g14 g15 hS1 hs1 hv1 hp
    obtain ⟨t1, t2⟩ := rests_t x y (row1 x y r)
    refine ⟨q1, by rw [t1, t2], ?_, q2⟩
    unfold rgT
    rw [t1, t2]
    exact ⟨by decide, by decide⟩
theorem pre_k (x y : Int32) (r : Nat → Int32) {k : Nat} (h : k < 7 ∨ k = 13 ∨ k = 18 ∨ k = 19 ∨ 21 ≤ k) : j_X5_samples_144_s x y r k = r k := by
  unfold j_X5_samples_144_s
  split
  · exact (tells_k x y _ (by omega) (by omega) (by omega) (by omega) (by omega) (by omega)).trans (row1_k (by omega) (by omega) (by omega))
  · exact (rests_k x y _ (by omega) (by omega) (by omega) (by omega) (by omega) (by omega) (by omega)).trans (row1_k (by omega) (by omega) (by omega))
theorem pre_l (x y : Int32) (r : Nat → Int32) : j_X5_samples_144_s x y r 10 = x ∧ j_X5_samples_144_s x y r 11 = y := by
  unfold j_X5_samples_144_s
  split
  · rw [tells_k x y _ (by omega) (by omega) (by omega) (by omega) (by omega) (by omega), tells_k x y _ (by omega) (by omega) (by omega) (by omega) (by omega) (by omega)]
    exact ⟨rfl, rfl⟩
  · rw [rests_k x y _ (by omega) (by omega) (by omega) (by omega) (by omega) (by omega) (by omega), rests_k x y _ (by omega) (by omega) (by omega) (by omega) (by omega) (by omega) (by omega)]
    exact ⟨rfl, rfl⟩
