/-! what holds of a stick, and keeps -/
def IV (S : SS) (B : Int) : Prop := rgS S.2.1 ∧ rgV S ∧ ((-100 ≤ (S.1 14).toInt ∧ (S.1 14).toInt ≤ 100) ∧ (-100 ≤ (S.1 15).toInt ∧ (S.1 15).toInt ≤ 100)) ∧ (0 ≤ (S.1 13).toInt ∧ (S.1 13).toInt ≤ 20) ∧ (0 ≤ (S.1 21).toInt ∧ (S.1 21).toInt ≤ B) ∧ ((S.1 21).toInt = 0 ∨ ((0 ≤ (S.1 10).toInt ∧ (S.1 10).toInt ≤ 255) ∧ (0 ≤ (S.1 11).toInt ∧ (S.1 11).toInt ≤ 255))) ∧
  (0 ≤ (S.1 16).toInt ∧ (S.1 16).toInt + (tl (S.1 14) (S.1 15)).toInt ≤ (S.1 19).toInt ∧ (S.1 19).toInt ≤ (S.1 21).toInt) ∧ (0 ≤ (S.1 17).toInt ∧ (S.1 17).toInt ≤ (S.1 21).toInt) ∧ DIR S.2.2 (S.1 21).toInt (S.1 19).toInt
/-- what is told lies in the corner -/
def CR (S : SS) : Prop := ab (S.1 14).toInt + ab (S.1 15).toInt ≤ (S.2.1 4).toInt
theorem tl_b (a b : Int32) : 0 ≤ (tl a b).toInt ∧ (tl a b).toInt ≤ 1 := by
  rcases tl_01 a b with h | h <;> rw [h] <;> decide
theorem IV.mono {S : SS} {B B' : Int} (h : IV S B) (hb : B ≤ B') : IV S B' := by
  obtain ⟨h1, h2, h3, h4, h5, h6⟩ := h
  exact ⟨h1, h2, h3, h4, ⟨h5.1, by omega⟩, h6⟩
theorem dec_b {v : Int32} (h : 0 ≤ v.toInt ∧ v.toInt ≤ 20) : 0 ≤ (dec v).toInt ∧ (dec v).toInt ≤ 20 := by
  unfold dec
  by_cases c : 0 < v
  · have c' := lt_iff.mp c
    rw [z0] at c'
    rw [if_pos c, ti_sub (by rw [z1]; omega) (by rw [z1]; omega), z1]
    omega
  · rw [if_neg c]
    exact h
theorem fz_spec {f : Int32} {S : SS} (hs : rgS S.2.1) (hv : rgV S) (hf : 0 ≤ f.toInt ∧ f.toInt ≤ 255) :
    ((S.2.1 1).toInt ≤ (fz f S).toInt ∧ (fz f S).toInt ≤ (S.2.1 1).toInt + (S.2.1 2).toInt) ∧ (-1 ≤ (fz f S).toInt - (S.1 9).toInt ∧ (fz f S).toInt - (S.1 9).toInt ≤ 1) ∧ ((S.1 9).toInt < 2 * f.toInt → (S.1 9).toInt ≤ (fz f S).toInt) ∧ (4 * f.toInt ≤ (S.1 9).toInt → (fz f S).toInt ≤ (S.1 9).toInt) := by
  obtain ⟨-, hs1, hs2, -⟩ := hs
  obtain ⟨-, -, hv9⟩ := hv
  have d2 : (2 * f).toInt = 2 * f.toInt := by rw [ti_mul (by rw [z2]; omega) (by rw [z2]; omega), z2]
  have d4 : (4 * f).toInt = 4 * f.toInt := by rw [ti_mul (by rw [z4]; omega) (by rw [z4]; omega), z4]
  have ew : (S.2.1 1 + S.2.1 2).toInt = (S.2.1 1).toInt + (S.2.1 2).toInt := ti_add (by omega) (by omega)
  have eu : (S.1 9 + 1).toInt = (S.1 9).toInt + 1 := i_1 (by omega)
  have el : (S.1 9 - 1).toInt = (S.1 9).toInt - 1 := by rw [ti_sub (by rw [z1]; omega) (by rw [z1]; omega), z1]
  unfold fz
  by_cases c2 : S.1 9 < 2 * f
  · have c2' := lt_iff.mp c2
    rw [if_pos c2, imin_toInt, ew, eu]
    split <;> omega
  · have c2' := nlt_iff.mp c2
    rw [if_neg c2]
    by_cases c4 : S.1 9 < 4 * f
    · have c4' := lt_iff.mp c4
      rw [if_pos c4]
      omega
    · have c4' := nlt_iff.mp c4
      rw [if_neg c4, imax_toInt, el]
      split <;> omega
theorem far_b {x y : Int32} {S : SS} (hp : rgP x y) (hv : rgV S) : 0 ≤ (r_X3_farthestOff x y S).toInt ∧ (r_X3_farthestOff x y S).toInt ≤ 255 := by
  obtain ⟨h1, h2, h3⟩ := far_is hp hv
  rw [h1]
  split <;> omega
/-- the values that a sample leaves: in the zone -/
theorem tk_rest {x y : Int32} {S : SS} {B : Int} (I : IV S B) (hp : rgP x y) (hf : ¬ S.1 9 < r_X3_farthestOff x y S) :
    ((c_X3_take x y S).1 14 = 0 ∧ (c_X3_take x y S).1 15 = 0 ∧ (c_X3_take x y S).1 13 = dec (S.1 13) ∧ (c_X3_take x y S).1 21 = S.1 21 + 1 ∧ (c_X3_take x y S).1 12 = r_X3_stillWith x y S) ∧ ((c_X3_take x y S).1 16 = S.1 16 + tl (S.1 14) (S.1 15) ∧ (c_X3_take x y S).1 17 = S.1 17 ∧ (c_X3_take x y S).1 19 = S.1 19 ∧ (c_X3_take x y S).1 10 = x ∧ (c_X3_take x y S).1 11 = y ∧ (c_X3_take x y S).1 18 = S.1 18) ∧
    (0 < S.1 13 → (c_X3_take x y S).1 7 = S.1 7 ∧ (c_X3_take x y S).1 8 = S.1 8 ∧ (c_X3_take x y S).1 9 = S.1 9 ∧ (c_X3_take x y S).1 20 = S.1 20 + 1) ∧
    (¬ 0 < S.1 13 → (c_X3_take x y S).1 7 = S.1 7 + (16 * x - S.1 7) / S.2.1 0 ∧ (c_X3_take x y S).1 8 = S.1 8 + (16 * y - S.1 8) / S.2.1 0 ∧ (c_X3_take x y S).1 9 = fz (r_X3_farthestOff x y S) S ∧ (c_X3_take x y S).1 20 = S.1 20) := by
  obtain ⟨hs, hv, -⟩ := I
  obtain ⟨b1, b2, -⟩ := told_b (x := x) (y := y) hp hv hs
  obtain ⟨k1, k14, k15, k19, k13, k21, kst, kD⟩ := take_is b1 b2
  obtain ⟨q1, q2⟩ := told_0 (x := x) (y := y) (S := S) (Or.inl hf)
  obtain ⟨e10, e11, e12, e13, e16, e17, e18, e21, ep, en⟩ := rest_st hf hs.1.1
  rw [q1, q2] at k19
  rw [q1] at k14
  rw [q2] at k15
  have t0 : tl 0 0 = 0 := by decide
  rw [t0, Int32.add_zero] at k19
  have k := fun j h13 h14 h15 h19 h21 => k1 j h13 h14 h15 h19 h21
  refine ⟨⟨k14, k15, by rw [k13, e13], by rw [k21, e21], (k 12 (by decide) (by decide) (by decide) (by decide) (by decide)).trans e12⟩, ⟨(k 16 (by decide) (by decide) (by decide) (by decide) (by decide)).trans e16, (k 17 (by decide) (by decide) (by decide) (by decide) (by decide)).trans e17, k19, (k 10 (by decide) (by decide) (by decide) (by decide) (by decide)).trans e10, (k 11 (by decide) (by decide) (by decide) (by decide) (by decide)).trans e11, (k 18 (by decide) (by decide) (by decide) (by decide) (by decide)).trans e18⟩, fun c => ?_, fun c => ?_⟩
  · obtain ⟨f7, f8, f9, f20⟩ := ep c
    exact ⟨(k 7 (by decide) (by decide) (by decide) (by decide) (by decide)).trans f7, (k 8 (by decide) (by decide) (by decide) (by decide) (by decide)).trans f8, (k 9 (by decide) (by decide) (by decide) (by decide) (by decide)).trans f9, (k 20 (by decide) (by decide) (by decide) (by decide) (by decide)).trans f20⟩
  · obtain ⟨f7, f8, f9, f20⟩ := en c
    exact ⟨(k 7 (by decide) (by decide) (by decide) (by decide) (by decide)).trans f7, (k 8 (by decide) (by decide) (by decide) (by decide) (by decide)).trans f8, (k 9 (by decide) (by decide) (by decide) (by decide) (by decide)).trans f9, (k 20 (by decide) (by decide) (by decide) (by decide) (by decide)).trans f20⟩
/-- out of it, by a drift -/
theorem tk_drift {x y : Int32} {S : SS} {B : Int} (I : IV S B) (hp : rgP x y) (hd : ¬ r_X3_wouldDrift x y S = 0) :
    ((c_X3_take x y S).1 14 = 0 ∧ (c_X3_take x y S).1 15 = 0 ∧ (c_X3_take x y S).1 13 = dec (S.1 13) ∧ (c_X3_take x y S).1 21 = S.1 21 + 1 ∧ (c_X3_take x y S).1 12 = 0) ∧ ((c_X3_take x y S).1 16 = S.1 16 ∧ (c_X3_take x y S).1 17 = S.1 17 + 1 ∧ (c_X3_take x y S).1 19 = S.1 19 ∧ (c_X3_take x y S).1 10 = x ∧ (c_X3_take x y S).1 11 = y ∧ (c_X3_take x y S).1 18 = S.1 18) ∧
    (c_X3_take x y S).1 7 = 16 * x ∧ (c_X3_take x y S).1 8 = 16 * y ∧ (c_X3_take x y S).1 9 = S.1 9 ∧ (c_X3_take x y S).1 20 = S.1 20 := by
  obtain ⟨hs, hv, -⟩ := I
  obtain ⟨b1, b2, -⟩ := told_b (x := x) (y := y) hp hv hs
  obtain ⟨k1, k14, k15, k19, k13, k21, kst, kD⟩ := take_is b1 b2
  obtain ⟨q1, q2⟩ := told_0 (x := x) (y := y) (S := S) (Or.inr hd)
  rw [q1, q2] at k19
  rw [q1] at k14
  rw [q2] at k15
  have t0 : tl 0 0 = 0 := by decide
  rw [t0, Int32.add_zero] at k19
  have P := pre_drift hd
  have lo : ∀ k, k ≠ 7 → k ≠ 8 → k ≠ 12 → k ≠ 17 → pre x y S k = bas x y S k := fun k h7 h8 h12 h17 => by
    rw [P]
    exact (upd_lo h17).trans ((upd_lo h12).trans ((upd_lo h8).trans (upd_lo h7)))
  have lb : ∀ k, k ≠ 7 → k ≠ 8 → k ≠ 12 → k ≠ 17 → k ≠ 10 → k ≠ 11 → pre x y S k = S.1 k := fun k h7 h8 h12 h17 h10 h11 => (lo k h7 h8 h12 h17).trans (bas_k h10 h11 h12)
  refine ⟨⟨k14, k15, ?_, ?_, ?_⟩, ⟨?_, ?_, k19, ?_, ?_, ?_⟩, ?_, ?_, ?_, ?_⟩
  · rw [k13, lb 13 (by decide) (by decide) (by decide) (by decide) (by decide) (by decide)]
  · rw [k21, lb 21 (by decide) (by decide) (by decide) (by decide) (by decide) (by decide)]
  · rw [k1 12 (by decide) (by decide) (by decide) (by decide) (by decide), P]
    exact (upd_lo (by decide)).trans upd_eq
  · rw [k1 16 (by decide) (by decide) (by decide) (by decide) (by decide), lb 16 (by decide) (by decide) (by decide) (by decide) (by decide) (by decide)]
  · rw [k1 17 (by decide) (by decide) (by decide) (by decide) (by decide), P]
    exact upd_eq
  · rw [k1 10 (by decide) (by decide) (by decide) (by decide) (by decide), lo 10 (by decide) (by decide) (by decide) (by decide)]
    exact bas_10
  · rw [k1 11 (by decide) (by decide) (by decide) (by decide) (by decide), lo 11 (by decide) (by decide) (by decide) (by decide)]
    exact bas_11
  · rw [k1 18 (by decide) (by decide) (by decide) (by decide) (by decide), lb 18 (by decide) (by decide) (by decide) (by decide) (by decide) (by decide)]
  · rw [k1 7 (by decide) (by decide) (by decide) (by decide) (by decide), P]
    exact (upd_lo (by decide)).trans ((upd_lo (by decide)).trans ((upd_lo (by decide)).trans upd_eq))
  · rw [k1 8 (by decide) (by decide) (by decide) (by decide) (by decide), P]
    exact (upd_lo (by decide)).trans ((upd_lo (by decide)).trans upd_eq)
  · rw [k1 9 (by decide) (by decide) (by decide) (by decide) (by decide), lb 9 (by decide) (by decide) (by decide) (by decide) (by decide) (by decide)]
  · rw [k1 20 (by decide) (by decide) (by decide) (by decide) (by decide), lb 20 (by decide) (by decide) (by decide) (by decide) (by decide) (by decide)]
/-- out of it, and no drift -/
theorem tk_out {x y : Int32} {S : SS} {B : Int} (I : IV S B) (hp : rgP x y) (hf : S.1 9 < r_X3_farthestOff x y S) (hd : r_X3_wouldDrift x y S = 0) :
    ((c_X3_take x y S).1 14 = aX x y S ∧ (c_X3_take x y S).1 15 = aY x y S ∧ (c_X3_take x y S).1 13 = dec (S.1 13) ∧ (c_X3_take x y S).1 21 = S.1 21 + 1 ∧ (c_X3_take x y S).1 12 = r_X3_stillWith x y S) ∧ ((c_X3_take x y S).1 16 = S.1 16 ∧ (c_X3_take x y S).1 17 = S.1 17 ∧ (c_X3_take x y S).1 19 = S.1 19 + tl (aX x y S) (aY x y S) ∧ (c_X3_take x y S).1 10 = x ∧ (c_X3_take x y S).1 11 = y ∧ (c_X3_take x y S).1 18 = S.1 18) ∧
    (c_X3_take x y S).1 7 = S.1 7 ∧ (c_X3_take x y S).1 8 = S.1 8 ∧ (c_X3_take x y S).1 9 = S.1 9 ∧ (c_X3_take x y S).1 20 = S.1 20 := by
  obtain ⟨hs, hv, -⟩ := I
  obtain ⟨b1, b2, -⟩ := told_b (x := x) (y := y) hp hv hs
  obtain ⟨k1, k14, k15, k19, k13, k21, kst, kD⟩ := take_is b1 b2
  have P := pre_out hf hd
  have lb : ∀ k, k ≠ 10 → k ≠ 11 → k ≠ 12 → pre x y S k = S.1 k := fun k h10 h11 h12 => by
    rw [P]
    exact bas_k h10 h11 h12
  refine ⟨⟨k14, k15, ?_, ?_, ?_⟩, ⟨?_, ?_, k19, ?_, ?_, ?_⟩, ?_, ?_, ?_, ?_⟩
  · rw [k13, lb 13 (by decide) (by decide) (by decide)]
  · rw [k21, lb 21 (by decide) (by decide) (by decide)]
  · rw [k1 12 (by decide) (by decide) (by decide) (by decide) (by decide), P]
    exact bas_12
  · rw [k1 16 (by decide) (by decide) (by decide) (by decide) (by decide), lb 16 (by decide) (by decide) (by decide)]
  · rw [k1 17 (by decide) (by decide) (by decide) (by decide) (by decide), lb 17 (by decide) (by decide) (by decide)]
  · rw [k1 10 (by decide) (by decide) (by decide) (by decide) (by decide), P]
    exact bas_10
  · rw [k1 11 (by decide) (by decide) (by decide) (by decide) (by decide), P]
    exact bas_11
  · rw [k1 18 (by decide) (by decide) (by decide) (by decide) (by decide), lb 18 (by decide) (by decide) (by decide)]
  · rw [k1 7 (by decide) (by decide) (by decide) (by decide) (by decide), lb 7 (by decide) (by decide) (by decide)]
  · rw [k1 8 (by decide) (by decide) (by decide) (by decide) (by decide), lb 8 (by decide) (by decide) (by decide)]
  · rw [k1 9 (by decide) (by decide) (by decide) (by decide) (by decide), lb 9 (by decide) (by decide) (by decide)]
  · rw [k1 20 (by decide) (by decide) (by decide) (by decide) (by decide), lb 20 (by decide) (by decide) (by decide)]
theorem take_IV {x y : Int32} {S : SS} {B : Int} (I : IV S B) (hB : B ≤ 15000) (hp : rgP x y) : IV (c_X3_take x y S) (B + 1) ∧ CR (c_X3_take x y S) ∧ ((c_X3_take x y S).1 21).toInt = (S.1 21).toInt + 1 := by
  have II := I
  obtain ⟨hs, hv, hT, h13, h21, hL, hG, hD, hR⟩ := I
  obtain ⟨b1, b2, b3⟩ := told_b (x := x) (y := y) hp hv hs
  obtain ⟨k1, k14, k15, k19, k13, k21, kst, kD⟩ := take_is b1 b2
  have t0 := tl_b (S.1 14) (S.1 15)
  have t1 := tl_b (aX x y S) (aY x y S)
  have e21 : (S.1 21 + 1).toInt = (S.1 21).toInt + 1 := i_1 (by omega)
  have e19 : (S.1 19 + tl (aX x y S) (aY x y S)).toInt = (S.1 19).toInt + (tl (aX x y S) (aY x y S)).toInt := ti_add (by omega) (by omega)
  have hst := DIR_step hR (by omega) (aX x y S) (aY x y S)
  have goal : ∀ (f21 : (c_X3_take x y S).1 21 = S.1 21 + 1) (f13 : (c_X3_take x y S).1 13 = dec (S.1 13)) (f10 : (c_X3_take x y S).1 10 = x) (f11 : (c_X3_take x y S).1 11 = y) (fv : rgV (c_X3_take x y S)) (fg : 0 ≤ ((c_X3_take x y S).1 16).toInt ∧ ((c_X3_take x y S).1 16).toInt + (tl (aX x y S) (aY x y S)).toInt ≤ (S.1 19).toInt + (tl (aX x y S) (aY x y S)).toInt) (f17 : 0 ≤ ((c_X3_take x y S).1 17).toInt ∧ ((c_X3_take x y S).1 17).toInt ≤ (S.1 21).toInt + 1), IV (c_X3_take x y S) (B + 1) ∧ CR (c_X3_take x y S) ∧ ((c_X3_take x y S).1 21).toInt = (S.1 21).toInt + 1 := by
    intro f21 f13 f10 f11 fv fg f17
    refine ⟨⟨?_, fv, ?_, ?_, ?_, ?_, ?_, ?_, ?_⟩, ?_, by rw [f21, e21]⟩
    · rw [kst]
      exact hs
    · rw [k14, k15]
      exact ⟨b1, b2⟩
    · rw [f13]
      exact dec_b h13
    · rw [f21, e21]
      omega
    · rw [f10, f11]
      exact Or.inr hp
    · rw [k14, k15, k19, e19, f21, e21]
      omega
    · rw [f21, e21]
      exact f17
    · rw [kD, f21, e21, k19, e19]
      exact hst
    · unfold CR
      rw [k14, k15, kst]
      exact b3
  by_cases hf : S.1 9 < r_X3_farthestOff x y S
  · by_cases hd : r_X3_wouldDrift x y S = 0
    · obtain ⟨⟨q14, q15, q13, q21, q12⟩, ⟨q16, q17, q19, q10, q11, q18⟩, q7, q8, q9, q20⟩ := tk_out II hp hf hd
      refine goal q21 q13 q10 q11 ?_ (by rw [q16]; omega) (by rw [q17]; omega)
      unfold rgV
      rw [q7, q8, q9, kst]
      exact hv
    · obtain ⟨⟨q14, q15, q13, q21, q12⟩, ⟨q16, q17, q19, q10, q11, q18⟩, q7, q8, q9, q20⟩ := tk_drift II hp hd
      have e17 : (S.1 17 + 1).toInt = (S.1 17).toInt + 1 := i_1 (by omega)
      refine goal q21 q13 q10 q11 ?_ (by rw [q16]; omega) (by rw [q17, e17]; omega)
      unfold rgV
      rw [q7, q8, q9, kst, mul16 hp.1, mul16 hp.2]
      have hp1 := hp.1
      have hp2 := hp.2
      exact ⟨by omega, by omega, hv.2.2⟩
  · obtain ⟨⟨q14, q15, q13, q21, q12⟩, ⟨q16, q17, q19, q10, q11, q18⟩, qp, qn⟩ := tk_rest II hp hf
    have e16 : (S.1 16 + tl (S.1 14) (S.1 15)).toInt = (S.1 16).toInt + (tl (S.1 14) (S.1 15)).toInt := ti_add (by omega) (by omega)
    refine goal q21 q13 q10 q11 ?_ (by rw [q16, e16]; omega) (by rw [q17]; omega)
    unfold rgV
    rw [kst]
    by_cases c : 0 < S.1 13
    · obtain ⟨q7, q8, q9, q20⟩ := qp c
      rw [q7, q8, q9]
      exact hv
    · obtain ⟨q7, q8, q9, q20⟩ := qn c
      rw [q7, q8, q9]
      exact ⟨learn_b hv.1 (by rw [mul16 hp.1]; have := hp.1; omega) hs.1, learn_b hv.2.1 (by rw [mul16 hp.2]; have := hp.2; omega) hs.1, (fz_spec hs hv (far_b hp hv)).1⟩
/-- the class's sample, again and again -/
def itC (x y : Int32) : Nat → SS → SS
  | 0, S => S
  | k + 1, S => c_X3_take x y (itC x y k S)
theorem it_IV {S : SS} {x y : Int32} {B : Int} (h : IV S B) (hp : rgP x y) (hB : B ≤ 10000) : ∀ k : Nat, k ≤ 5000 → IV (itC x y k S) (B + k) ∧ ((itC x y k S).1 21).toInt = (S.1 21).toInt + k
  | 0, _ => ⟨h.mono (by omega), by show (S.1 21).toInt = _; omega⟩
  | k + 1, hk => by
    obtain ⟨h1, h2⟩ := it_IV h hp hB k (by omega)
    obtain ⟨h3, -, h5⟩ := take_IV h1 (by omega) hp
    exact ⟨h3.mono (by omega), by show ((c_X3_take x y (itC x y k S)).1 21).toInt = _; omega⟩
