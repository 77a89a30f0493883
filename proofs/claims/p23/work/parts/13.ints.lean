/-! ints as they are -/
theorem upd_lo {r : Nat → Int32} {i : Nat} {v : Int32} {k : Nat} (h : k ≠ i) : upd r i v k = r k := if_neg h
theorem ix_le {e : Int32} {N : Nat} (h0 : ¬ e < 0) (h : ¬ nI N < e) (hN : N < 2 ^ 31 := by decide) : e.toNatClampNeg < N + 1 := by
  obtain ⟨j, hj, rfl⟩ := nI_of h0
  rw [nI_clamp hj]
  have := mt (nI_ltI hN hj).mpr h
  omega
theorem many_ok {v : Int32} (h0 : ¬ v < 1) (h : ¬ 200 < v) : v.toNatClampNeg ≤ 200 ∧ ¬ v < 0 := by
  have h0' : ¬ v < 0 := fun q => h0 (ti_lt.mpr (by
    have := ti_lt.mp q
    have e1 : (0 : Int32).toInt = 0 := rfl
    have e2 : (1 : Int32).toInt = 1 := rfl
    omega))
  exact ⟨Nat.lt_succ_iff.mp (ix_le (N := 200) h0' h), h0'⟩
theorem i_k {a k : Int32} {n : Int} (hk : k.toInt = n) (h : -100000 ≤ a.toInt ∧ a.toInt ≤ 100000) (hn : -100000 ≤ n ∧ n ≤ 100000 := by decide) : (a + k).toInt = a.toInt + n := by
  rw [ti_add (by omega) (by omega), hk]
theorem i_kk {a b : Int32} (h : -100000 ≤ a.toInt ∧ a.toInt ≤ 100000) (hn : -100000 ≤ b.toInt ∧ b.toInt ≤ 100000) : (a + b).toInt = a.toInt + b.toInt := ti_add (by omega) (by omega)
theorem i_1 {a : Int32} (h : -100000 ≤ a.toInt ∧ a.toInt ≤ 100000) : (a + 1).toInt = a.toInt + 1 := i_k rfl h
theorem i_nn {v : Int32} (h : 0 ≤ v.toInt) : ¬ v < 0 := fun q => by
  have := ti_lt.mp q
  have e1 : (0 : Int32).toInt = 0 := rfl
  omega
theorem i_nn' {v : Int32} (h : ¬ v < 0) : 0 ≤ v.toInt := by
  have := mt ti_lt.mpr h
  have e1 : (0 : Int32).toInt = 0 := rfl
  omega
theorem nI_m1 {k : Nat} (h : 1 ≤ k) : nI k - 1 = nI (k - 1) := by
  obtain ⟨q, rfl⟩ : ∃ q, k = q + 1 := ⟨k - 1, by omega⟩
  rw [Nat.add_sub_cancel, nI_pred]
theorem div_toInt {a b : Int32} (ha : -2147483648 < a.toInt) : (a / b).toInt = a.toInt.tdiv b.toInt := by
  rw [Int32.toInt_div]
  have hr := ti_rng a
  have h1 : (a.toInt.tdiv b.toInt).natAbs ≤ a.toInt.natAbs := Int.natAbs_tdiv_le_natAbs _ _
  exact ti_bmod (by omega) (by omega)
theorem upd_eq {f : Nat → Int32} {i : Nat} {v : Int32} : upd f i v i = v := if_pos rfl
theorem z0 : (0 : Int32).toInt = 0 := rfl
theorem z1 : (1 : Int32).toInt = 1 := rfl
theorem z2 : (2 : Int32).toInt = 2 := rfl
theorem z4 : (4 : Int32).toInt = 4 := rfl
theorem z8 : (8 : Int32).toInt = 8 := rfl
theorem z16 : (16 : Int32).toInt = 16 := rfl
theorem z100 : (100 : Int32).toInt = 100 := rfl
theorem z1000 : (1000 : Int32).toInt = 1000 := rfl
theorem lt_iff {a b : Int32} : a < b ↔ a.toInt < b.toInt := ti_lt
theorem nlt_iff {a b : Int32} : ¬ a < b ↔ b.toInt ≤ a.toInt := by
  rw [ti_lt]
  omega
/-- where the rest lies, as a position -/
theorem div16 {a : Int32} (h : 0 ≤ a.toInt ∧ a.toInt ≤ 4080) : 0 ≤ (a / 16).toInt ∧ (a / 16).toInt ≤ 255 := by
  rw [div_toInt (by omega), z16, Int.tdiv_eq_ediv_of_nonneg h.1]
  omega
theorem off_b {x a : Int32} (hx : 0 ≤ x.toInt ∧ x.toInt ≤ 255) (h : 0 ≤ a.toInt ∧ a.toInt ≤ 4080) : -255 ≤ (x - a / 16).toInt ∧ (x - a / 16).toInt ≤ 255 := by
  have := div16 h
  rw [ti_sub (by omega) (by omega)]
  omega
/-- the rest comes nearer and stays in its bounds -/
theorem learn_b {a t s : Int32} (ha : 0 ≤ a.toInt ∧ a.toInt ≤ 4080) (ht : 0 ≤ t.toInt ∧ t.toInt ≤ 4080) (hs : 1 ≤ s.toInt ∧ s.toInt ≤ 64) : 0 ≤ (a + (t - a) / s).toInt ∧ (a + (t - a) / s).toInt ≤ 4080 := by
  have e1 : (t - a).toInt = t.toInt - a.toInt := ti_sub (by omega) (by omega)
  have e2 : ((t - a) / s).toInt = (t.toInt - a.toInt).tdiv s.toInt := by rw [div_toInt (by omega), e1]
  rcases Int.le_total a.toInt t.toInt with h | h
  · have h1 : 0 ≤ (t.toInt - a.toInt).tdiv s.toInt := Int.tdiv_nonneg (by omega) (by omega)
    have h2 : (t.toInt - a.toInt).tdiv s.toInt ≤ t.toInt - a.toInt := Int.tdiv_le_self _ (by omega)
    rw [ti_add (by omega) (by omega)]
    omega
  · have h0 : (t.toInt - a.toInt).tdiv s.toInt = -((a.toInt - t.toInt).tdiv s.toInt) := by
      rw [← Int.neg_tdiv]
      congr 1
      omega
    have h1 : 0 ≤ (a.toInt - t.toInt).tdiv s.toInt := Int.tdiv_nonneg (by omega) (by omega)
    have h2 : (a.toInt - t.toInt).tdiv s.toInt ≤ a.toInt - t.toInt := Int.tdiv_le_self _ (by omega)
    rw [ti_add (by omega) (by omega)]
    omega
theorem mul16 {x : Int32} (h : 0 ≤ x.toInt ∧ x.toInt ≤ 255) : (16 * x).toInt = 16 * x.toInt := by
  rw [ti_mul (by rw [z16]; omega) (by rw [z16]; omega), z16]
