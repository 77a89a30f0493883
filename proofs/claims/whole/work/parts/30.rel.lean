/-! the class's stick and the reference's row, beside each other -/
theorem iabs_size (a : Int32) : iabs a = r_X5_size a := by
  unfold iabs r_X5_size
  by_cases h : a < 0
  · rw [if_pos h, if_neg (fun q => by have h1 := ti_lt.mp h; have h2 := ti_le.mp q; omega)]
    exact Int32.zero_sub a
  · rw [if_neg h, if_pos (ti_le.mpr (by have h1 := mt ti_lt.mpr h; omega))]
theorem imax_greater (a b : Int32) : imax a b = r_X5_greater a b := by
  unfold imax r_X5_greater
  by_cases h : a < b
  · rw [if_pos h, if_neg (fun q => by have h1 := ti_lt.mp h; have h2 := ti_lt.mp q; omega)]
  · rw [if_neg h]
    by_cases h2 : b < a
    · rw [if_pos h2]
    · rw [if_neg h2]
      exact ti_eq.mpr (by have h3 := mt ti_lt.mpr h; have h4 := mt ti_lt.mpr h2; omega)
theorem size_toInt {a : Int32} (h : -2147483648 < a.toInt) : (r_X5_size a).toInt = if a.toInt < 0 then -a.toInt else a.toInt := by
  have hz : (0 : Int32).toInt = 0 := rfl
  have hr := ti_rng a
  unfold r_X5_size
  by_cases c : a < 0
  · have c' := ti_lt.mp c
    rw [if_pos c, if_pos (by omega), ← Int32.zero_sub, ti_sub (by omega) (by omega)]
    omega
  · have c' := mt ti_lt.mpr c
    rw [if_neg c, if_neg (by omega)]
theorem greater_toInt (a b : Int32) : (r_X5_greater a b).toInt = if b.toInt < a.toInt then a.toInt else b.toInt := by
  unfold r_X5_greater
  by_cases c : b < a
  · rw [if_pos c, if_pos (ti_lt.mp c)]
  · rw [if_neg c, if_neg (mt ti_lt.mpr c)]
theorem div_toInt {a b : Int32} (ha : -2147483648 < a.toInt) : (a / b).toInt = a.toInt.tdiv b.toInt := by
  rw [Int32.toInt_div]
  have hr := ti_rng a
  have h1 : (a.toInt.tdiv b.toInt).natAbs ≤ a.toInt.natAbs := Int.natAbs_tdiv_le_natAbs _ _
  exact ti_bmod (by omega) (by omega)
/-- the scalars that take and samples change alike -/
def kK (k : Nat) : Prop := 7 ≤ k ∧ k ≤ 21 ∧ k ≠ 14 ∧ k ≠ 15 ∧ k ≠ 19
def eqK (g r : Nat → Int32) : Prop := ∀ k, kK k → g k = r k
theorem eqK.put {g r : Nat → Int32} {i : Nat} {v w : Int32} (h : eqK g r) (e : v = w) : eqK (upd g i v) (upd r i w) := by
  intro k hk
  by_cases c : k = i
  · subst c
    exact (if_pos rfl).trans (e.trans (if_pos rfl).symm)
  · exact (if_neg c).trans ((h k hk).trans (if_neg c).symm)
theorem eqK.right {g r : Nat → Int32} {i : Nat} {w : Int32} (h : eqK g r) (hi : ¬ kK i) : eqK g (upd r i w) := by
  intro k hk
  have c : k ≠ i := fun e => hi (e ▸ hk)
  exact (h k hk).trans (if_neg c).symm
theorem eqK.left {g r : Nat → Int32} {i : Nat} {v : Int32} (h : eqK g r) (hi : ¬ kK i) : eqK (upd g i v) r := by
  intro k hk
  have c : k ≠ i := fun e => hi (e ▸ hk)
  exact (if_neg c).trans (h k hk)
theorem eqK.set {g r : Nat → Int32} {i : Nat} {v : Int32} (h : eqK g r) (e : v = r i) : eqK (upd g i v) r := by
  intro k hk
  by_cases c : k = i
  · subst c
    exact (if_pos rfl).trans e
  · exact (if_neg c).trans (h k hk)
theorem k7 : kK 7 := by unfold kK; omega
theorem k8 : kK 8 := by unfold kK; omega
theorem k9 : kK 9 := by unfold kK; omega
theorem k10 : kK 10 := by unfold kK; omega
theorem k11 : kK 11 := by unfold kK; omega
theorem k12 : kK 12 := by unfold kK; omega
theorem k13 : kK 13 := by unfold kK; omega
theorem k16 : kK 16 := by unfold kK; omega
theorem k17 : kK 17 := by unfold kK; omega
theorem k18 : kK 18 := by unfold kK; omega
theorem k20 : kK 20 := by unfold kK; omega
theorem k21 : kK 21 := by unfold kK; omega
theorem nk14 : ¬ kK 14 := by unfold kK; omega
theorem nk15 : ¬ kK 15 := by unfold kK; omega
theorem nk19 : ¬ kK 19 := by unfold kK; omega
theorem upd_eq {f : Nat → Int32} {i : Nat} {v : Int32} : upd f i v i = v := if_pos rfl
/-- a row's ranges: the settings, what moves, what is told -/
def rgS (r : Nat → Int32) : Prop := (1 ≤ (r 0).toInt ∧ (r 0).toInt ≤ 64) ∧ (1 ≤ (r 1).toInt ∧ (r 1).toInt ≤ 30) ∧ (0 ≤ (r 2).toInt ∧ (r 2).toInt ≤ 20) ∧ (60 ≤ (r 3).toInt ∧ (r 3).toInt ≤ 127) ∧ (100 ≤ (r 4).toInt ∧ (r 4).toInt ≤ 200) ∧ (2 ≤ (r 5).toInt ∧ (r 5).toInt ≤ 60) ∧ (0 ≤ (r 6).toInt ∧ (r 6).toInt ≤ 20)
def rgV (r : Nat → Int32) : Prop := (0 ≤ (r 7).toInt ∧ (r 7).toInt ≤ 4080) ∧ (0 ≤ (r 8).toInt ∧ (r 8).toInt ≤ 4080) ∧ ((r 1).toInt ≤ (r 9).toInt ∧ (r 9).toInt ≤ (r 1).toInt + (r 2).toInt)
def rgT (r : Nat → Int32) : Prop := (-100 ≤ (r 14).toInt ∧ (r 14).toInt ≤ 100) ∧ (-100 ≤ (r 15).toInt ∧ (r 15).toInt ≤ 100)
def rgP (x y : Int32) : Prop := (0 ≤ x.toInt ∧ x.toInt ≤ 255) ∧ (0 ≤ y.toInt ∧ y.toInt ≤ 255)
def eqS (st r : Nat → Int32) : Prop := ∀ k, k < 7 → st k = r k
theorem z0 : (0 : Int32).toInt = 0 := rfl
theorem z1 : (1 : Int32).toInt = 1 := rfl
theorem z2 : (2 : Int32).toInt = 2 := rfl
theorem z4 : (4 : Int32).toInt = 4 := rfl
theorem z8 : (8 : Int32).toInt = 8 := rfl
theorem z16 : (16 : Int32).toInt = 16 := rfl
theorem z100 : (100 : Int32).toInt = 100 := rfl
theorem z1000 : (1000 : Int32).toInt = 1000 := rfl
theorem lt_iff {a b : Int32} : a < b ↔ a.toInt < b.toInt := ti_lt
theorem nlt_iff {a b : Int32} : ¬ a < b ↔ b.toInt ≤ a.toInt := by
  rw [ti_lt]
  omega
/-- where the rest lies, as a position -/
theorem div16 {a : Int32} (h : 0 ≤ a.toInt ∧ a.toInt ≤ 4080) : 0 ≤ (a / 16).toInt ∧ (a / 16).toInt ≤ 255 := by
  rw [div_toInt (by omega), z16, Int.tdiv_eq_ediv_of_nonneg h.1]
  omega
theorem off_b {x a : Int32} (hx : 0 ≤ x.toInt ∧ x.toInt ≤ 255) (h : 0 ≤ a.toInt ∧ a.toInt ≤ 4080) : -255 ≤ (x - a / 16).toInt ∧ (x - a / 16).toInt ≤ 255 := by
  have := div16 h
  rw [ti_sub (by omega) (by omega)]
  omega
theorem far_eq {g r : Nat → Int32} (D : (Nat → Int32) × DD) (x y : Int32) (h7 : g 7 = r 7) (h8 : g 8 = r 8) : r_X3_farthestOff x y (g, D) = r_X5_far x y r := by
  show imax (iabs (x - g 7 / 16)) (iabs (y - g 8 / 16)) = r_X5_greater (r_X5_size (x - r 7 / 16)) (r_X5_size (y - r 8 / 16))
  rw [imax_greater, iabs_size, iabs_size, h7, h8]
theorem far_b {x y : Int32} {r : Nat → Int32} (hp : rgP x y) (hv : rgV r) : 0 ≤ (r_X5_far x y r).toInt ∧ (r_X5_far x y r).toInt ≤ 255 := by
  show 0 ≤ (r_X5_greater (r_X5_size (x - r 7 / 16)) (r_X5_size (y - r 8 / 16))).toInt ∧ (r_X5_greater (r_X5_size (x - r 7 / 16)) (r_X5_size (y - r 8 / 16))).toInt ≤ 255
  have h1 := off_b hp.1 hv.1
  have h2 := off_b hp.2 hv.2.1
  rw [greater_toInt, size_toInt (by omega), size_toInt (by omega)]
  repeat' split
  all_goals omega
/-- the rest comes nearer and stays in its bounds -/
theorem learn_b {a t s : Int32} (ha : 0 ≤ a.toInt ∧ a.toInt ≤ 4080) (ht : 0 ≤ t.toInt ∧ t.toInt ≤ 4080) (hs : 1 ≤ s.toInt ∧ s.toInt ≤ 64) : 0 ≤ (a + (t - a) / s).toInt ∧ (a + (t - a) / s).toInt ≤ 4080 := by
  have e1 : (t - a).toInt = t.toInt - a.toInt := ti_sub (by omega) (by omega)
  have e2 : ((t - a) / s).toInt = (t.toInt - a.toInt).tdiv s.toInt := by rw [div_toInt (by omega), e1]
  rcases Int.le_total a.toInt t.toInt with h | h
  · have h1 : 0 ≤ (t.toInt - a.toInt).tdiv s.toInt := Int.tdiv_nonneg (by omega) (by omega)
    have h2 : (t.toInt - a.toInt).tdiv s.toInt ≤ t.toInt - a.toInt := Int.tdiv_le_self _ (by omega)
    rw [ti_add (by omega) (by omega)]
    omega
  · have h0 : (t.toInt - a.toInt).tdiv s.toInt = -((a.toInt - t.toInt).tdiv s.toInt) := by
      rw [← Int.neg_tdiv]
      congr 1
      omega
    have h1 : 0 ≤ (a.toInt - t.toInt).tdiv s.toInt := Int.tdiv_nonneg (by omega) (by omega)
    have h2 : (a.toInt - t.toInt).tdiv s.toInt ≤ a.toInt - t.toInt := Int.tdiv_le_self _ (by omega)
    rw [ti_add (by omega) (by omega)]
    omega
theorem mul16 {x : Int32} (h : 0 ≤ x.toInt ∧ x.toInt ≤ 255) : (16 * x).toInt = 16 * x.toInt := by
  rw [ti_mul (by rw [z16]; omega) (by rw [z16]; omega), z16]
/-! resting -/
theorem rests_k (x y : Int32) (r : Nat → Int32) {k : Nat} (h7 : k ≠ 7) (h8 : k ≠ 8) (h9 : k ≠ 9) (h14 : k ≠ 14) (h15 : k ≠ 15) (h16 : k ≠ 16) (h20 : k ≠ 20) : c_X5_rests_s x y r k = r k := by
  unfold c_X5_rests_s c_X5_rests_s_at21 c_X5_rests_s_at133 c_X5_rests_s_at168
  split
  all_goals simp (disch := assumption) only [upd_lo, j21_k, learns_k, j168_k]
theorem j133_t (x y : Int32) (r : Nat → Int32) : j_X5_rests_133_s x y r 14 = 0 ∧ j_X5_rests_133_s x y r 15 = 0 := by
  unfold j_X5_rests_133_s
  repeat' split
  all_goals exact ⟨rfl, rfl⟩
theorem j168_t (x y : Int32) (r : Nat → Int32) : j_X5_rests_168_s x y r 14 = 0 ∧ j_X5_rests_168_s x y r 15 = 0 := by
  unfold j_X5_rests_168_s
  repeat' split
  all_goals exact j133_t x y r
theorem rests_t (x y : Int32) (r : Nat → Int32) : c_X5_rests_s x y r 14 = 0 ∧ c_X5_rests_s x y r 15 = 0 := by
  unfold c_X5_rests_s c_X5_rests_s_at21 c_X5_rests_s_at133 c_X5_rests_s_at168
  split
  · exact ⟨rfl, rfl⟩
  · rw [learns_k 1 y _ (by decide), learns_k 0 x _ (by decide), learns_k 1 y _ (by decide), learns_k 0 x _ (by decide)]
    exact j168_t x y r
