/-! isSample: a sample that was told ahead -/
theorem a100 (a : Int32) : a + 100 - 100 = a := Int32.add_sub_cancel a 100
theorem far_law {x y : Int32} {S : SS} (hp : rgP x y) (hv : rgV S) : r_L_greater (r_L_size (x - S.1 7 / 16)) (r_L_size (y - S.1 8 / 16)) = r_X3_farthestOff x y S := by
  obtain ⟨a1, a2, a3⟩ := off_x hp.1 hv.1
  obtain ⟨b1, b2, b3⟩ := off_x hp.2 hv.2.1
  rw [greater_imax, size_iabs (by omega), size_iabs (by omega)]
  rfl
theorem sz_d {x r : Int32} (hx : 0 ≤ x.toInt ∧ x.toInt ≤ 255) (h : 0 ≤ r.toInt ∧ r.toInt ≤ 4080) : (r_L_size (x - r / 16)).toInt = ab (x.toInt - r.toInt / 16) := by
  obtain ⟨a1, a2, a3⟩ := off_x hx h
  rw [size_ab (by omega), a1]
/-- both axes: the farther one tells no less -/
theorem s764 {x y : Int32} {S : SS} {Y : HS} (hp : rgP x y) (hv : rgV S) {u v : Int32} (e14 : (c_X4_sample_1 x y S Y).1 14 = u) (e15 : (c_X4_sample_1 x y S Y).1 15 = v) (bu : -100 ≤ u.toInt ∧ u.toInt ≤ 100) (bv : -100 ≤ v.toInt ∧ v.toInt ≤ 100) (h1 : ab (dX x S) ≤ ab (dY y S) → ab u.toInt ≤ ab v.toInt) (h2 : ab (dY y S) ≤ ab (dX x S) → ab v.toInt ≤ ab u.toInt) : r_L_isSample_at764 x y S Y 1 = 1 := by
  unfold r_L_isSample_at764 r_L_isSample_at828
  rw [e14, e15, a100, a100, if_neg (by decide)]
  have sx : (r_L_size (x - S.1 7 / 16)).toInt = ab (dX x S) := sz_d hp.1 hv.1
  have sy : (r_L_size (y - S.1 8 / 16)).toInt = ab (dY y S) := sz_d hp.2 hv.2.1
  have su : (r_L_size u).toInt = ab u.toInt := size_ab (by omega)
  have sv : (r_L_size v).toInt = ab v.toInt := size_ab (by omega)
  by_cases c1 : r_L_size (x - S.1 7 / 16) < r_L_size (y - S.1 8 / 16)
  · have c1' := lt_iff.mp c1
    rw [if_pos c1, if_neg (nlt_iff.mpr (by omega)), if_neg (nlt_iff.mpr (by omega))]
  · have c1' := nlt_iff.mp c1
    rw [if_neg c1, if_neg (nlt_iff.mpr (by omega))]
    by_cases c2 : r_L_size (y - S.1 8 / 16) < r_L_size (x - S.1 7 / 16)
    · rw [if_pos c2]
    · have c2' := nlt_iff.mp c2
      rw [if_neg c2, if_neg (nlt_iff.mpr (by omega))]
theorem mul_sg {u d : Int32} {o m : Int} (hu : u.toInt = sgn o m) (hm : 0 ≤ m ∧ m ≤ 100) (hd : d.toInt = o) (ho : -255 ≤ o ∧ o ≤ 255) : ¬ u * d < 0 := by
  refine nlt_iff.mpr ?_
  have hb : 0 ≤ u.toInt * d.toInt ∧ u.toInt * d.toInt ≤ 100 * 255 := by
    rw [hu, hd]
    rcases sgn_c o m with ⟨a, e⟩ | ⟨a, e⟩
    · rw [e, Int.neg_mul, ← Int.mul_neg]
      exact ⟨Int.mul_nonneg hm.1 (by omega), Int.mul_le_mul hm.2 (by omega) (by omega) (by omega)⟩
    · rw [e]
      exact ⟨Int.mul_nonneg hm.1 (by omega), Int.mul_le_mul hm.2 (by omega) (by omega) (by omega)⟩
  rw [z0, ti_mul (by omega) (by omega)]
  exact hb.1
theorem s626_out {x y : Int32} {S : SS} {Y : HS} {B : Int} (I : IV S B) (hB : B ≤ 9998) (hp : rgP x y) (hf : S.1 9 < r_X3_farthestOff x y S) (hd : r_X3_wouldDrift x y S = 0) : r_L_isSample_at626 x y S Y 1 0 = 1 := by
  have II := I
  obtain ⟨hs, hv, hT, h13, h21, -⟩ := I
  have hS := (sample_is (Y := Y) hp (by omega : 0 ≤ (S.1 21).toInt ∧ (S.1 21).toInt ≤ 9998)).1
  obtain ⟨⟨q14, q15, q13, q21, q12⟩, ⟨q16, q17, q19, q10, q11, q18⟩, q7, q8, q9, q20⟩ := tk_out II hp hf hd
  obtain ⟨b1, b2, -⟩ := told_b (x := x) (y := y) hp hv hs
  obtain ⟨t1, t2⟩ := told_spec hp hv hs hf hd
  obtain ⟨a1, a2, a3⟩ := off_x hp.1 hv.1
  obtain ⟨c1, c2, c3⟩ := off_x hp.2 hv.2.1
  have hs4 := hs.2.2.2.2.1
  have hzR : (S.1 9).toInt < (S.2.1 3).toInt := by
    have := hv.2.2
    have := hs.2.1
    have := hs.2.2.1
    have := hs.2.2.2.1
    omega
  have um := lm_b (a := ab (dX x S)) hzR
  have vm := lm_b (a := ab (dY y S)) hzR
  have tb1 := tm_b um.1 vm.1 (show 0 ≤ (S.2.1 4).toInt by omega)
  have tb2 := tm_b vm.1 um.1 (show 0 ≤ (S.2.1 4).toInt by omega)
  have g764 : r_L_isSample_at764 x y S Y 1 = 1 := by
    refine s764 hp hv (by rw [hS]; exact q14) (by rw [hS]; exact q15) b1 b2 (fun h => ?_) (fun h => ?_)
    · rw [t1, t2, sgn_ab tb1.1, sgn_ab tb2.1]
      exact tm_mono um.1 (by omega) (lm_mono hzR h)
    · rw [t1, t2, sgn_ab tb1.1, sgn_ab tb2.1]
      exact tm_mono vm.1 (by omega) (lm_mono hzR h)
  have sx : (r_L_size (x - S.1 7 / 16)).toInt = ab (dX x S) := sz_d hp.1 hv.1
  have sy : (r_L_size (y - S.1 8 / 16)).toInt = ab (dY y S) := sz_d hp.2 hv.2.1
  have zx : ¬ S.1 9 < r_L_size (x - S.1 7 / 16) → aX x y S = 0 := fun h => by
    have h' := nlt_iff.mp h
    refine ti_eq.mpr ?_
    rw [t1, lm_z (a := ab (dX x S)) (by omega), tm_0, z0]
    rcases sgn_c (dX x S) 0 with ⟨a, e⟩ | ⟨a, e⟩ <;> omega
  have zy : ¬ S.1 9 < r_L_size (y - S.1 8 / 16) → aY x y S = 0 := fun h => by
    have h' := nlt_iff.mp h
    refine ti_eq.mpr ?_
    rw [t2, lm_z (a := ab (dY y S)) (by omega), tm_0, z0]
    rcases sgn_c (dY y S) 0 with ⟨a, e⟩ | ⟨a, e⟩ <;> omega
  have m1 : ¬ aX x y S * (x - S.1 7 / 16) < 0 := mul_sg t1 (by omega) a1 ⟨a2, a3⟩
  have m2 : ¬ aY x y S * (y - S.1 8 / 16) < 0 := mul_sg t2 (by omega) c1 ⟨c2, c3⟩
  unfold r_L_isSample_at626
  rw [if_pos rfl, if_neg (by decide), hS, q7, q8, q14, q15, a100, a100, if_pos rfl, if_pos rfl, if_neg m1, if_neg m2, g764]
  by_cases k1 : S.1 9 < r_L_size (x - S.1 7 / 16)
  · rw [if_pos k1]
    by_cases k2 : S.1 9 < r_L_size (y - S.1 8 / 16)
    · rw [if_pos k2]
    · rw [if_neg k2, if_pos (zy k2)]
  · rw [if_neg k1, if_pos (zx k1)]
    by_cases k2 : S.1 9 < r_L_size (y - S.1 8 / 16)
    · rw [if_pos k2]
    · rw [if_neg k2, if_pos (zy k2)]
theorem s626_drift {x y : Int32} {S : SS} {Y : HS} {B : Int} (I : IV S B) (hB : B ≤ 9998) (hp : rgP x y) (hd : ¬ r_X3_wouldDrift x y S = 0) : r_L_isSample_at626 x y S Y 1 1 = 1 := by
  have h21 := I.2.2.2.2.1
  have hS := (sample_is (Y := Y) hp (by omega : 0 ≤ (S.1 21).toInt ∧ (S.1 21).toInt ≤ 9998)).1
  obtain ⟨⟨q14, q15, q13, q21, q12⟩, ⟨q16, q17, q19, q10, q11, q18⟩, q7, q8, q9, q20⟩ := tk_drift I hp hd
  unfold r_L_isSample_at626 r_L_isSample_at687
  rw [if_neg (by decide), if_neg (by decide), hS, q7, q8, q14, q15, q12, a100, if_pos rfl, if_pos rfl, if_pos rfl, if_pos rfl, if_pos rfl]
theorem drift_01 (x y : Int32) (S : SS) : r_X3_wouldDrift x y S = 0 ∨ r_X3_wouldDrift x y S = 1 := by
  unfold r_X3_wouldDrift
  repeat' split
  all_goals first | exact Or.inl rfl | exact Or.inr rfl
/-- out of the zone -/
theorem s568 {x y : Int32} {S : SS} {Y : HS} {B : Int} (I : IV S B) (hB : B ≤ 9998) (hp : rgP x y) (hf : S.1 9 < r_X3_farthestOff x y S) : r_L_isSample_at568 x y S Y (r_X3_wouldDrift x y S) = 1 := by
  have h21 := I.2.2.2.2.1
  have hS := (sample_is (Y := Y) hp (by omega : 0 ≤ (S.1 21).toInt ∧ (S.1 21).toInt ≤ 9998)).1
  by_cases hd : r_X3_wouldDrift x y S = 0
  · obtain ⟨⟨q14, q15, q13, q21, q12⟩, ⟨q16, q17, q19, q10, q11, q18⟩, q7, q8, q9, q20⟩ := tk_out I hp hf hd
    have g := s626_out (Y := Y) I hB hp hf hd
    rw [hd]
    unfold r_L_isSample_at568
    rw [hS, q16, q20, q9, q17, Int32.add_zero, if_pos rfl, if_pos rfl, if_pos rfl, if_pos rfl, if_pos rfl]
    exact g
  · obtain ⟨⟨q14, q15, q13, q21, q12⟩, ⟨q16, q17, q19, q10, q11, q18⟩, q7, q8, q9, q20⟩ := tk_drift I hp hd
    have g := s626_drift (Y := Y) I hB hp hd
    have h1 : r_X3_wouldDrift x y S = 1 := by
      rcases drift_01 x y S with h | h
      · exact absurd h hd
      · exact h
    rw [h1]
    unfold r_L_isSample_at568
    rw [hS, q16, q20, q9, q17, if_pos rfl, if_pos rfl, if_pos rfl, if_neg (by decide), if_pos rfl]
    exact g
/-- in the zone -/
theorem s351 {x y : Int32} {S : SS} {Y : HS} {B : Int} (I : IV S B) (hB : B ≤ 9998) (hp : rgP x y) (hf : ¬ S.1 9 < r_X3_farthestOff x y S) : r_L_isSample_at351 x y S Y 1 = 1 := by
  have II := I
  obtain ⟨hs, hv, hT, h13, h21, -⟩ := I
  have hS := (sample_is (Y := Y) hp (by omega : 0 ≤ (S.1 21).toInt ∧ (S.1 21).toInt ≤ 9998)).1
  obtain ⟨⟨q14, q15, q13, q21, q12⟩, ⟨q16, q17, q19, q10, q11, q18⟩, qp, qn⟩ := tk_rest II hp hf
  have hst : (c_X3_take x y S).2.1 = S.2.1 := take_st x y S
  unfold r_L_isSample_at351 r_L_isSample_at526
  rw [if_neg (by decide), hS, far_law hp hv, hst]
  by_cases c : 0 < S.1 13
  · obtain ⟨q7, q8, q9, q20⟩ := qp c
    rw [if_pos c, q20, q9, q7, q8, if_pos rfl, if_pos rfl, if_pos rfl, if_pos rfl]
  · obtain ⟨q7, q8, q9, q20⟩ := qn c
    have fb := far_b hp hv
    obtain ⟨f1, f2, f3, f4⟩ := fz_spec hs hv fb
    rw [if_neg c, q20, q7, q8, q9, if_pos rfl, if_pos rfl, if_pos rfl]
    have hs1 := hs.2.1
    have hs2 := hs.2.2.1
    have hv9 := hv.2.2
    obtain ⟨f, ef⟩ : ∃ f, r_X3_farthestOff x y S = f := ⟨_, rfl⟩
    rw [ef] at fb f1 f2 f3 f4 ⊢
    obtain ⟨w, ew⟩ : ∃ w, fz f S = w := ⟨_, rfl⟩
    rw [ew] at f1 f2 f3 f4 ⊢
    have d2 : (2 * f).toInt = 2 * f.toInt := by rw [ti_mul (by rw [z2]; omega) (by rw [z2]; omega), z2]
    have d4 : (4 * f).toInt = 4 * f.toInt := by rw [ti_mul (by rw [z4]; omega) (by rw [z4]; omega), z4]
    have ed : (w - S.1 9).toInt = w.toInt - (S.1 9).toInt := ti_sub (by omega) (by omega)
    have esz : (r_L_size (w - S.1 9)).toInt = ab (w.toInt - (S.1 9).toInt) := by rw [size_ab (by omega), ed]
    rw [if_pos (lt_iff.mpr (by rw [z2, esz]; rcases ab_c (w.toInt - (S.1 9).toInt) with ⟨a, e⟩ | ⟨a, e⟩ <;> omega))]
    by_cases c2 : S.1 9 < 2 * f
    · have c2' := lt_iff.mp c2
      have c4 : S.1 9 < 4 * f := lt_iff.mpr (by omega)
      rw [if_pos c2, if_neg (nlt_iff.mpr (by omega)), if_pos c4]
    · have c2' := nlt_iff.mp c2
      rw [if_neg c2]
      by_cases c4 : S.1 9 < 4 * f
      · rw [if_pos c4]
      · have c4' := nlt_iff.mp c4
        rw [if_neg c4, if_neg (nlt_iff.mpr (by omega))]
/-- whether the stick is near where it was -/
def nearB (x y : Int32) (S : SS) : Int32 := if 0 < S.1 21 then (if r_L_size (x - latX S) < 2 then (if r_L_size (y - latY S) < 2 then 1 else 0) else 0) else 0
theorem lt2 {v : Int32} : r_L_size v < 2 ↔ ¬ 1 < r_L_size v := by
  rw [lt_iff, nlt_iff, z1, z2]
  omega
theorem near_still {x y : Int32} {S : SS} {B : Int} (I : IV S B) (hp : rgP x y) : r_X3_stillWith x y S = if nearB x y S = 0 then 0 else S.1 12 + 1 := by
  obtain ⟨-, -, -, -, h21, hL, -⟩ := I
  have e : j_X3_stillWith_38_s0 x y S = nearB x y S := by
    unfold j_X3_stillWith_38_s0 nearB
    by_cases c : 0 < S.1 21
    · have c' := lt_iff.mp c
      rw [z0] at c'
      have hp1 := hp.1
      have hp2 := hp.2
      have ne : ¬ S.1 21 = 0 := fun q => by rw [q, z0] at c'; omega
      have eX : latX S = S.1 10 := if_neg ne
      have eY : latY S = S.1 11 := if_neg ne
      have hL' : (0 ≤ (S.1 10).toInt ∧ (S.1 10).toInt ≤ 255) ∧ (0 ≤ (S.1 11).toInt ∧ (S.1 11).toInt ≤ 255) := by
        rcases hL with q | q
        · omega
        · exact q
      have e1 : (x - S.1 10).toInt = x.toInt - (S.1 10).toInt := ti_sub (by omega) (by omega)
      have e2 : (y - S.1 11).toInt = y.toInt - (S.1 11).toInt := ti_sub (by omega) (by omega)
      rw [if_pos c, if_pos c, eX, eY, ← size_iabs (by omega), ← size_iabs (by omega)]
      by_cases k1 : 1 < r_L_size (x - S.1 10)
      · rw [if_pos k1, if_neg (fun q => lt2.mp q k1)]
      · rw [if_neg k1, if_pos (lt2.mpr k1)]
        by_cases k2 : 1 < r_L_size (y - S.1 11)
        · rw [if_pos k2, if_neg (fun q => lt2.mp q k2)]
        · rw [if_neg k2, if_pos (lt2.mpr k2)]
    · rw [if_neg c, if_neg c]
  unfold r_X3_stillWith r_X3_stillWith_at38
  rw [e]
theorem near_01 (x y : Int32) (S : SS) : nearB x y S = 0 ∨ nearB x y S = 1 := by
  unfold nearB
  repeat' split
  all_goals first | exact Or.inl rfl | exact Or.inr rfl
/-- the part behind the sample's own answers -/
theorem s171_end {x y : Int32} {S : SS} {Y : HS} {B : Int} (I : IV S B) (hB : B ≤ 9998) (hp : rgP x y) (hf : S.1 9 < r_X3_farthestOff x y S) : (if S.1 13 = 0 then (if nearB x y S = 0 then (if 0 < S.2.1 5 then r_L_isSample_at568 x y S Y 0 else (if S.1 9 + 8 < r_X3_farthestOff x y S then r_L_isSample_at568 x y S Y 0 else r_L_isSample_at568 x y S Y 1)) else (if S.1 12 + 1 < S.2.1 5 then r_L_isSample_at568 x y S Y 0 else (if S.1 9 + 8 < r_X3_farthestOff x y S then r_L_isSample_at568 x y S Y 0 else r_L_isSample_at568 x y S Y 1))) else r_L_isSample_at568 x y S Y 0) = 1 := by
  have g := s568 (Y := Y) I hB hp hf
  have hd : r_X3_wouldDrift x y S = if S.1 13 = 0 then (if S.1 9 < r_X3_farthestOff x y S then (if S.1 9 + 8 < r_X3_farthestOff x y S then 0 else (if r_X3_stillWith x y S < S.2.1 5 then 0 else 1)) else 0) else 0 := rfl
  rw [near_still I hp, if_pos hf] at hd
  rw [hd] at g
  by_cases c : S.1 13 = 0
  · rw [if_pos c] at g ⊢
    by_cases n : nearB x y S = 0
    · rw [if_pos n] at g ⊢
      by_cases c8 : S.1 9 + 8 < r_X3_farthestOff x y S
      · rw [if_pos c8] at g
        split
        · exact g
        · exact g
      · rw [if_neg c8] at g
        by_cases c5 : 0 < S.2.1 5
        · rw [if_pos c5] at g ⊢
          exact g
        · rw [if_neg c5] at g
          rw [if_neg c5, if_neg c8]
          exact g
    · rw [if_neg n] at g ⊢
      by_cases c8 : S.1 9 + 8 < r_X3_farthestOff x y S
      · rw [if_pos c8] at g ⊢
        split
        · exact g
        · exact g
      · rw [if_neg c8] at g ⊢
        by_cases c5 : S.1 12 + 1 < S.2.1 5
        · rw [if_pos c5] at g ⊢
          exact g
        · rw [if_neg c5] at g
          rw [if_neg c5]
          exact g
  · rw [if_neg c] at g ⊢
    exact g
theorem s171_rest {x y : Int32} {S : SS} {Y : HS} {B : Int} (I : IV S B) (hB : B ≤ 9998) (hp : rgP x y) (hf : ¬ S.1 9 < r_X3_farthestOff x y S) {w n : Int32} (hw : w = tl (S.1 14) (S.1 15)) (hn : n = nearB x y S) : (if (c_X3_take x y S).1 14 + 100 - 100 = 0 then (if (c_X3_take x y S).1 15 + 100 - 100 = 0 then (if w = 0 then (if (c_X3_take x y S).1 16 = S.1 16 + 0 then (if (c_X3_take x y S).1 17 = S.1 17 then (if n = 0 then (if (c_X3_take x y S).1 12 = 0 then r_L_isSample_at351 x y S Y 1 else r_L_isSample_at351 x y S Y 0) else (if (c_X3_take x y S).1 12 = S.1 12 + 1 then r_L_isSample_at351 x y S Y 1 else r_L_isSample_at351 x y S Y 0)) else r_L_isSample_at351 x y S Y 0) else r_L_isSample_at351 x y S Y 0) else (if (c_X3_take x y S).1 16 = S.1 16 + 1 then (if (c_X3_take x y S).1 17 = S.1 17 then (if n = 0 then (if (c_X3_take x y S).1 12 = 0 then r_L_isSample_at351 x y S Y 1 else r_L_isSample_at351 x y S Y 0) else (if (c_X3_take x y S).1 12 = S.1 12 + 1 then r_L_isSample_at351 x y S Y 1 else r_L_isSample_at351 x y S Y 0)) else r_L_isSample_at351 x y S Y 0) else r_L_isSample_at351 x y S Y 0)) else r_L_isSample_at351 x y S Y 0) else r_L_isSample_at351 x y S Y 0) = 1 := by
  have g := s351 (Y := Y) I hB hp hf
  obtain ⟨⟨q14, q15, q13, q21, q12⟩, ⟨q16, q17, q19, q10, q11, q18⟩, qp, qn⟩ := tk_rest I hp hf
  rw [near_still I hp, ← hn] at q12
  rw [← hw] at q16
  have hw1 : w = 0 ∨ w = 1 := by
    rw [hw]
    exact tl_01 _ _
  rw [q14, q15, a100, if_pos rfl, if_pos rfl, q17, if_pos rfl, q12, q16]
  have tail : (if n = 0 then (if (if n = 0 then 0 else S.1 12 + 1) = 0 then r_L_isSample_at351 x y S Y 1 else r_L_isSample_at351 x y S Y 0) else (if (if n = 0 then 0 else S.1 12 + 1) = S.1 12 + 1 then r_L_isSample_at351 x y S Y 1 else r_L_isSample_at351 x y S Y 0)) = 1 := by
    by_cases c : n = 0
    · rw [if_pos c, if_pos c, if_pos rfl]
      exact g
    · rw [if_neg c, if_neg c, if_pos rfl]
      exact g
  rw [tail]
  rcases hw1 with e | e
  · rw [e, if_pos rfl, if_pos rfl]
  · rw [e, if_neg (by decide), if_pos rfl]
theorem s171 {x y : Int32} {S : SS} {Y : HS} {B : Int} (I : IV S B) (hB : B ≤ 9998) (hp : rgP x y) {w n : Int32} (hw : w = tl (S.1 14) (S.1 15)) (hn : n = nearB x y S) : r_L_isSample_at171 x y S Y n w = 1 := by
  have II := I
  obtain ⟨hs, hv, hT, h13, h21, -⟩ := I
  obtain ⟨hS, hr, -⟩ := sample_is (Y := Y) hp (by omega : 0 ≤ (S.1 21).toInt ∧ (S.1 21).toInt ≤ 9998)
  obtain ⟨b1, b2, -⟩ := told_b (x := x) (y := y) hp hv hs
  obtain ⟨k1, k14, k15, k19, k13, k21, kst, kD⟩ := take_is b1 b2
  have e1 : r_X4_sample x y S Y = r_X4_wouldTell x y S := by rw [hr, would_is hp, take_tell hp hv hs]
  have f21 : (c_X3_take x y S).1 21 = S.1 21 + 1 ∧ (c_X3_take x y S).1 13 = dec (S.1 13) := by
    by_cases hf : S.1 9 < r_X3_farthestOff x y S
    · by_cases hd : r_X3_wouldDrift x y S = 0
      · obtain ⟨⟨q14, q15, q13, q21, q12⟩, -⟩ := tk_out II hp hf hd
        exact ⟨q21, q13⟩
      · obtain ⟨⟨q14, q15, q13, q21, q12⟩, -⟩ := tk_drift II hp hd
        exact ⟨q21, q13⟩
    · obtain ⟨⟨q14, q15, q13, q21, q12⟩, -⟩ := tk_rest II hp hf
      exact ⟨q21, q13⟩
  have e2 : r_X4_wouldTell x y S = 1000 * ((c_X3_take x y S).1 14 + 100) + ((c_X3_take x y S).1 15 + 100) := by
    rw [would_is hp, ← take_tell hp hv hs]
    unfold r_X3_telling r_X4_packed
    rw [Int32.add_assoc]
  have tail : (if S.1 9 < r_X3_farthestOff x y S then (if S.1 13 = 0 then (if n = 0 then (if 0 < S.2.1 5 then r_L_isSample_at568 x y S Y 0 else (if S.1 9 + 8 < r_X3_farthestOff x y S then r_L_isSample_at568 x y S Y 0 else r_L_isSample_at568 x y S Y 1)) else (if S.1 12 + 1 < S.2.1 5 then r_L_isSample_at568 x y S Y 0 else (if S.1 9 + 8 < r_X3_farthestOff x y S then r_L_isSample_at568 x y S Y 0 else r_L_isSample_at568 x y S Y 1))) else r_L_isSample_at568 x y S Y 0) else (if (c_X3_take x y S).1 14 + 100 - 100 = 0 then (if (c_X3_take x y S).1 15 + 100 - 100 = 0 then (if w = 0 then (if (c_X3_take x y S).1 16 = S.1 16 + 0 then (if (c_X3_take x y S).1 17 = S.1 17 then (if n = 0 then (if (c_X3_take x y S).1 12 = 0 then r_L_isSample_at351 x y S Y 1 else r_L_isSample_at351 x y S Y 0) else (if (c_X3_take x y S).1 12 = S.1 12 + 1 then r_L_isSample_at351 x y S Y 1 else r_L_isSample_at351 x y S Y 0)) else r_L_isSample_at351 x y S Y 0) else r_L_isSample_at351 x y S Y 0) else (if (c_X3_take x y S).1 16 = S.1 16 + 1 then (if (c_X3_take x y S).1 17 = S.1 17 then (if n = 0 then (if (c_X3_take x y S).1 12 = 0 then r_L_isSample_at351 x y S Y 1 else r_L_isSample_at351 x y S Y 0) else (if (c_X3_take x y S).1 12 = S.1 12 + 1 then r_L_isSample_at351 x y S Y 1 else r_L_isSample_at351 x y S Y 0)) else r_L_isSample_at351 x y S Y 0) else r_L_isSample_at351 x y S Y 0)) else r_L_isSample_at351 x y S Y 0) else r_L_isSample_at351 x y S Y 0)) = 1 := by
    by_cases hf : S.1 9 < r_X3_farthestOff x y S
    · rw [if_pos hf, hn]
      exact s171_end II hB hp hf
    · rw [if_neg hf]
      exact s171_rest II hB hp hf hw hn
  unfold r_L_isSample_at171
  rw [hS, far_law hp hv, kst, f21.1, f21.2, if_pos e1, if_pos rfl]
  by_cases c : 0 < S.1 13
  · rw [if_pos c, if_pos (show dec (S.1 13) = S.1 13 - 1 from if_pos c), if_pos e2]
    exact tail
  · have d0 : dec (S.1 13) = 0 := by
      have c' := nlt_iff.mp c
      rw [z0] at c'
      refine (if_neg c).trans (ti_eq.mpr ?_)
      rw [z0]
      omega
    rw [if_neg c, if_pos d0, if_pos e2]
    exact tail
theorem samp_1 {x y : Int32} {S : SS} (Y : HS) {B : Int} (I : IV S B) (hB : B ≤ 9998) (hp : rgP x y) : r_L_isSample x y S Y = 1 := by
  obtain ⟨-, -, hT, -⟩ := id I
  have g : ∀ w, w = tl (S.1 14) (S.1 15) → r_L_isSample_at126 x y S Y w = 1 := fun w hw => by
    have h := s171 (Y := Y) I hB hp hw rfl
    unfold r_L_isSample_at126
    unfold nearB at h
    repeat' split
    all_goals simp_all
  have e14 : S.1 14 + 100 = 100 ↔ S.1 14 = 0 := by
    rw [ti_eq, ti_eq, i_k z100 (by omega), z100, z0]
    omega
  have e15 : S.1 15 + 100 = 100 ↔ S.1 15 = 0 := by
    rw [ti_eq, ti_eq, i_k z100 (by omega), z100, z0]
    omega
  unfold r_L_isSample
  by_cases c : S.1 14 = 0
  · rw [if_pos (e14.mpr c)]
    by_cases c2 : S.1 15 = 0
    · rw [if_pos (e15.mpr c2)]
      exact g 0 (tl_0.mpr ⟨c, c2⟩).symm
    · rw [if_neg (fun q => c2 (e15.mp q))]
      refine g 1 ?_
      unfold tl
      rw [if_pos c, if_neg c2]
  · rw [if_neg (fun q => c (e14.mp q))]
    refine g 1 ?_
    unfold tl
    rw [if_neg c]
