/-! telling -/
theorem axis_eq {g st r : Nat → Int32} (D : DD) {off : Int32} (h9 : g 9 = r 9) (h3 : st 3 = r 3) (ho : -255 ≤ off.toInt ∧ off.toInt ≤ 255) (hz : 1 ≤ (r 9).toInt ∧ (r 9).toInt ≤ 50) (hR : 60 ≤ (r 3).toInt ∧ (r 3).toInt ≤ 127) :
    r_X3_leanOf off (g, st, D) = r_X5_axis off r ∧ -100 ≤ (r_X5_axis off r).toInt ∧ (r_X5_axis off r).toInt ≤ 100 := by
  have hsz := size_toInt (a := off) (by omega)
  have hs : 0 ≤ (r_X5_size off).toInt ∧ (r_X5_size off).toInt ≤ 255 := by
    rw [hsz]
    split <;> omega
  have e1 : (r_X5_size off - r 9).toInt = (r_X5_size off).toInt - (r 9).toInt := ti_sub (by omega) (by omega)
  have e2 : (r 3 - r 9).toInt = (r 3).toInt - (r 9).toInt := ti_sub (by omega) (by omega)
  have e3 : ((r_X5_size off - r 9) * 100).toInt = ((r_X5_size off).toInt - (r 9).toInt) * 100 := by
    rw [ti_mul (by rw [z100, e1]; omega) (by rw [z100, e1]; omega), z100, e1]
  have e4 : (((r_X5_size off - r 9) * 100) / (r 3 - r 9)).toInt = (((r_X5_size off).toInt - (r 9).toInt) * 100).tdiv ((r 3).toInt - (r 9).toInt) := by
    rw [div_toInt (by rw [e3]; omega), e3, e2]
  unfold r_X3_leanOf r_X5_axis
  show (if 0 < iabs off - g 9 then (if off < 0 then -(imin 100 (r_X4_quotient ((iabs off - g 9) * 100) (st 3 - g 9))) else imin 100 (r_X4_quotient ((iabs off - g 9) * 100) (st 3 - g 9))) else 0) = _ ∧ _
  rw [iabs_size, h9, h3, quot_eq (show 1 ≤ (r 3 - r 9).toInt by omega)]
  obtain ⟨q, eq⟩ : ∃ q, ((r_X5_size off - r 9) * 100) / (r 3 - r 9) = q := ⟨_, rfl⟩
  rw [eq] at e4 ⊢
  by_cases c : r 9 < r_X5_size off
  · have c' := lt_iff.mp c
    have cc : 0 < r_X5_size off - r 9 := lt_iff.mpr (by rw [z0]; omega)
    rw [if_pos cc, if_pos c]
    have hq : 0 ≤ q.toInt := by
      rw [e4]
      exact Int.tdiv_nonneg (by omega) (by omega)
    have hqr := ti_rng q
    have en : (-q).toInt = -q.toInt := by rw [← Int32.zero_sub, ti_sub (by rw [z0]; omega) (by rw [z0]; omega), z0]; omega
    have em : (-100 : Int32).toInt = -100 := rfl
    unfold imin
    by_cases cq : 100 < q
    · have cq' := lt_iff.mp cq
      rw [z100] at cq'
      rw [if_neg (show ¬ q < 100 from nlt_iff.mpr (by rw [z100]; omega)), if_pos cq]
      refine ⟨rfl, ?_⟩
      split
      · decide
      · decide
    · have cq' := nlt_iff.mp cq
      rw [z100] at cq'
      rw [if_neg cq]
      have e5 : (if q < 100 then q else 100) = q := by
        by_cases c5 : q < 100
        · rw [if_pos c5]
        · have c5' := nlt_iff.mp c5
          rw [z100] at c5'
          rw [if_neg c5]
          exact ti_eq.mpr (by rw [z100]; omega)
      rw [e5]
      refine ⟨rfl, ?_⟩
      split
      · rw [en]
        omega
      · omega
  · have c' := nlt_iff.mp c
    rw [if_neg (nlt_iff.mpr (by rw [z0]; omega)), if_neg c]
    exact ⟨rfl, by decide⟩
theorem cut_b {l C s : Int32} (hl : -100 ≤ l.toInt ∧ l.toInt ≤ 100) (hC : 100 ≤ C.toInt ∧ C.toInt ≤ 200) (hs : C.toInt < s.toInt) : -100 ≤ (l * C / s).toInt ∧ (l * C / s).toInt ≤ 100 := by
  have h1 : (l.toInt * C.toInt).natAbs ≤ 100 * 200 := by
    rw [Int.natAbs_mul]
    exact Nat.mul_le_mul (by omega) (by omega)
  have e1 : (l * C).toInt = l.toInt * C.toInt := ti_mul (by omega) (by omega)
  have h2 : ((l.toInt * C.toInt).tdiv s.toInt).natAbs ≤ 100 := by
    rw [Int.natAbs_tdiv, Int.natAbs_mul]
    refine Nat.div_le_of_le_mul ?_
    rw [Nat.mul_comm]
    exact Nat.mul_le_mul (by omega) (by omega)
  rw [div_toInt (by omega), e1]
  omega
theorem pack_toInt {a b : Int32} (ha : -100 ≤ a.toInt ∧ a.toInt ≤ 100) (hb : -100 ≤ b.toInt ∧ b.toInt ≤ 100) : (r_X4_packed a b).toInt = 1000 * (a.toInt + 100) + b.toInt + 100 := by
  have e1 : (a + 100).toInt = a.toInt + 100 := i_k rfl (by omega)
  have e2 : (1000 * (a + 100)).toInt = 1000 * (a.toInt + 100) := by
    rw [ti_mul (by rw [z1000]; omega) (by rw [z1000]; omega), z1000, e1]
  unfold r_X4_packed
  have e3 : (1000 * (a + 100) + b).toInt = 1000 * (a.toInt + 100) + b.toInt := by rw [ti_add (by omega) (by omega), e2]
  rw [ti_add (by rw [z100]; omega) (by rw [z100]; omega), e3, z100]
theorem unpack {a b : Int32} (ha : -100 ≤ a.toInt ∧ a.toInt ≤ 100) (hb : -100 ≤ b.toInt ∧ b.toInt ≤ 100) : r_X4_packed a b / 1000 - 100 = a ∧ (r_X4_packed a b - r_X4_packed a b / 1000 * 1000) - 100 = b := by
  have e := pack_toInt ha hb
  have e1 : (r_X4_packed a b / 1000).toInt = a.toInt + 100 := by
    rw [div_toInt (by omega), z1000, e, Int.tdiv_eq_ediv_of_nonneg (by omega)]
    omega
  have e2 : (r_X4_packed a b / 1000 * 1000).toInt = (a.toInt + 100) * 1000 := by
    rw [ti_mul (by rw [z1000]; omega) (by rw [z1000]; omega), z1000, e1]
  have e3 : (r_X4_packed a b - r_X4_packed a b / 1000 * 1000).toInt = b.toInt + 100 := by
    rw [ti_sub (by omega) (by omega)]
    omega
  constructor
  · refine ti_eq.mpr ?_
    rw [ti_sub (by rw [z100]; omega) (by rw [z100]; omega), z100]
    omega
  · refine ti_eq.mpr ?_
    rw [ti_sub (by rw [z100]; omega) (by rw [z100]; omega), z100]
    omega
/-- what an axis row tells ahead of a drift -/
theorem j9_b {g st r : Nat → Int32} (D : DD) {x y : Int32} (h7 : g 7 = r 7) (h8 : g 8 = r 8) (h9 : g 9 = r 9) (hS : eqS st r) (hs : rgS r) (hv : rgV r) (hp : rgP x y) :
    (if st 4 < iabs (r_X3_leanOf (x - r_X3_restPlaceX (g, st, D)) (g, st, D)) + iabs (r_X3_leanOf (y - r_X3_restPlaceY (g, st, D)) (g, st, D)) then
      r_X4_packed (r_X4_quotient (r_X3_leanOf (x - r_X3_restPlaceX (g, st, D)) (g, st, D) * st 4) (iabs (r_X3_leanOf (x - r_X3_restPlaceX (g, st, D)) (g, st, D)) + iabs (r_X3_leanOf (y - r_X3_restPlaceY (g, st, D)) (g, st, D)))) (r_X4_quotient (r_X3_leanOf (y - r_X3_restPlaceY (g, st, D)) (g, st, D) * st 4) (iabs (r_X3_leanOf (x - r_X3_restPlaceX (g, st, D)) (g, st, D)) + iabs (r_X3_leanOf (y - r_X3_restPlaceY (g, st, D)) (g, st, D))))
     else r_X4_packed (r_X3_leanOf (x - r_X3_restPlaceX (g, st, D)) (g, st, D)) (r_X3_leanOf (y - r_X3_restPlaceY (g, st, D)) (g, st, D))) = r_X4_packed (j_X5_tells_93_s0 x y r) (j_X5_tells_128_s0 x y r)
    ∧ (-100 ≤ (j_X5_tells_93_s0 x y r).toInt ∧ (j_X5_tells_93_s0 x y r).toInt ≤ 100) ∧ (-100 ≤ (j_X5_tells_128_s0 x y r).toInt ∧ (j_X5_tells_128_s0 x y r).toInt ≤ 100) := by
  obtain ⟨hs0, hs1, hs2, hs3, hs4, -⟩ := hs
  obtain ⟨hv7, hv8, hv9⟩ := hv
  have hx := off_b hp.1 hv7
  have hy := off_b hp.2 hv8
  have eX : x - r_X3_restPlaceX ((g, st, D) : SS) = r_X5_off 0 x r := by
    show x - g 7 / 16 = x - r 7 / 16
    rw [h7]
  have eY : y - r_X3_restPlaceY ((g, st, D) : SS) = r_X5_off 1 y r := by
    show y - g 8 / 16 = y - r 8 / 16
    rw [h8]
  rw [eX, eY]
  obtain ⟨a1, a2⟩ := axis_eq D (off := r_X5_off 0 x r) h9 (hS 3 (by decide)) hx (by omega) hs3
  obtain ⟨b1, b2⟩ := axis_eq D (off := r_X5_off 1 y r) h9 (hS 3 (by decide)) hy (by omega) hs3
  rw [a1, b1, iabs_size, iabs_size, hS 4 (by decide)]
  unfold j_X5_tells_93_s0 j_X5_tells_128_s0 j_X5_tells_59_s0
  obtain ⟨u, eu⟩ : ∃ u, r_X5_axis (r_X5_off 0 x r) r = u := ⟨_, rfl⟩
  obtain ⟨v, ev⟩ : ∃ v, r_X5_axis (r_X5_off 1 y r) r = v := ⟨_, rfl⟩
  rw [eu] at a2
  rw [ev] at b2
  rw [eu, ev]
  have su := size_toInt (a := u) (by omega)
  have sv := size_toInt (a := v) (by omega)
  have su' : 0 ≤ (r_X5_size u).toInt ∧ (r_X5_size u).toInt ≤ 100 := by
    rw [su]
    split <;> omega
  have sv' : 0 ≤ (r_X5_size v).toInt ∧ (r_X5_size v).toInt ≤ 100 := by
    rw [sv]
    split <;> omega
  have es : (r_X5_size u + r_X5_size v).toInt = (r_X5_size u).toInt + (r_X5_size v).toInt := ti_add (by omega) (by omega)
  by_cases c : r 4 < r_X5_size u + r_X5_size v
  · have c' := lt_iff.mp c
    rw [if_pos c, if_pos c, if_neg (by decide), if_neg (by decide), quot_eq (by omega), quot_eq (by omega)]
    exact ⟨rfl, cut_b a2 hs4 c', cut_b b2 hs4 c'⟩
  · rw [if_neg c, if_neg c, if_pos rfl, if_pos rfl]
    exact ⟨rfl, a2, b2⟩
