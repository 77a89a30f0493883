theorem j21_9 (x y : Int32) (r : Nat → Int32) : j_X5_rests_21_s x y r 9 = r 9 := j21_k x y r (by decide)
theorem base_k (x y : Int32) (r : Nat → Int32) {k : Nat} (h14 : k ≠ 14) (h15 : k ≠ 15) : upd (upd (j_X5_rests_21_s x y r) 14 0) 15 0 k = j_X5_rests_21_s x y r k := (upd_lo h15).trans (upd_lo h14)
theorem dbl {d : Int32} (h : 0 ≤ d.toInt ∧ d.toInt ≤ 255) : (2 * d).toInt = 2 * d.toInt ∧ (4 * d).toInt = 4 * d.toInt := by
  constructor
  · rw [ti_mul (by rw [z2]; omega) (by rw [z2]; omega), z2]
  · rw [ti_mul (by rw [z4]; omega) (by rw [z4]; omega), z4]
/-- the zone behind a rest: so wide, and in its bounds -/
theorem zone_step (g st : Nat → Int32) (D : DD) (x y : Int32) (r : Nat → Int32) (hE : eqK g (j_X5_rests_21_s x y r)) (hS : eqS st r) (hs : rgS r) (hv : rgV r) (hp : rgP x y) (h13 : ¬ 0 < (j_X5_rests_21_s x y r) 13) :
    eqK (c_X3_fitZone (r_X3_farthestOff x y (g, st, D)) (g, st, D)).1 (j_X5_rests_168_s x y r) ∧ (r 1).toInt ≤ (j_X5_rests_168_s x y r 9).toInt ∧ (j_X5_rests_168_s x y r 9).toInt ≤ (r 1).toInt + (r 2).toInt := by
  obtain ⟨hs0, hs1, hs2, -⟩ := hs
  obtain ⟨hv7, hv8, hv9⟩ := hv
  have e7 : g 7 = upd (upd (j_X5_rests_21_s x y r) 14 0) 15 0 7 := (hE 7 k7).trans (base_k x y r (by decide) (by decide)).symm
  have e8 : g 8 = upd (upd (j_X5_rests_21_s x y r) 14 0) 15 0 8 := (hE 8 k8).trans (base_k x y r (by decide) (by decide)).symm
  rw [far_eq (st, D) x y e7 e8]
  have hb7 : upd (upd (j_X5_rests_21_s x y r) 14 0) 15 0 7 = r 7 := (base_k x y r (by decide) (by decide)).trans (j21_k x y r (by decide))
  have hb8 : upd (upd (j_X5_rests_21_s x y r) 14 0) 15 0 8 = r 8 := (base_k x y r (by decide) (by decide)).trans (j21_k x y r (by decide))
  have hd : 0 ≤ (r_X5_far x y (upd (upd (j_X5_rests_21_s x y r) 14 0) 15 0)).toInt ∧ (r_X5_far x y (upd (upd (j_X5_rests_21_s x y r) 14 0) 15 0)).toInt ≤ 255 := by
    have h : r_X5_far x y (upd (upd (j_X5_rests_21_s x y r) 14 0) 15 0) = r_X5_far x y r := by
      show r_X5_greater (r_X5_size (x - _ / 16)) (r_X5_size (y - _ / 16)) = r_X5_greater (r_X5_size (x - r 7 / 16)) (r_X5_size (y - r 8 / 16))
      rw [show upd (upd (j_X5_rests_21_s x y r) 14 0) 15 0 (7 + 0) = r 7 from hb7, show upd (upd (j_X5_rests_21_s x y r) 14 0) 15 0 (7 + 1) = r 8 from hb8]
    rw [h]
    exact far_b hp ⟨hv7, hv8, hv9⟩
  unfold j_X5_rests_168_s j_X5_rests_133_s
  rw [if_neg h13]
  obtain ⟨d, ed⟩ : ∃ d, r_X5_far x y (upd (upd (j_X5_rests_21_s x y r) 14 0) 15 0) = d := ⟨_, rfl⟩
  rw [ed] at hd ⊢
  have hd2 := dbl hd
  have e9 : g 9 = r 9 := (hE 9 k9).trans (j21_9 x y r)
  have eb9 : upd (upd (j_X5_rests_21_s x y r) 14 0) 15 0 9 = r 9 := (base_k x y r (by decide) (by decide)).trans (j21_9 x y r)
  have eb1 : upd (upd (j_X5_rests_21_s x y r) 14 0) 15 0 1 = r 1 := (base_k x y r (by decide) (by decide)).trans (j21_k x y r (by decide))
  have hB : eqK g (upd (upd (j_X5_rests_21_s x y r) 14 0) 15 0) := (hE.right nk14).right nk15
  rw [j21_9, j21_k x y r (k := 1) (by decide), j21_k x y r (k := 2) (by decide)]
  have es1 : st 1 = r 1 := hS 1 (by decide)
  have es2 : st 2 = r 2 := hS 2 (by decide)
  have ew : (r 1 + r 2).toInt = (r 1).toInt + (r 2).toInt := ti_add (by omega) (by omega)
  have eu : (r 9 + 1).toInt = (r 9).toInt + 1 := i_1 (by omega)
  have el : (r 9 - 1).toInt = (r 9).toInt - 1 := by rw [ti_sub (by rw [z1]; omega) (by rw [z1]; omega), z1]
  unfold c_X3_fitZone
  show eqK (if g 9 < 2 * d then ((upd g 9 (imin (g 9 + 1) (st 1 + st 2)), st, D) : SS) else if g 9 < 4 * d then (g, st, D) else (upd g 9 (imax (g 9 - 1) (st 1)), st, D)).1 _ ∧ _
  rw [e9, es1, es2]
  by_cases c2 : r 9 < 2 * d
  · have c2' := lt_iff.mp c2
    have c4 : r 9 < 4 * d := lt_iff.mpr (by omega)
    rw [if_pos c2, if_pos c4, if_pos c2]
    by_cases cw : r 9 < r 1 + r 2
    · have cw' := lt_iff.mp cw
      rw [if_pos cw, upd_eq]
      refine ⟨hB.put ?_, by omega⟩
      unfold imin
      rw [if_neg (nlt_iff.mpr (by omega))]
    · have cw' := nlt_iff.mp cw
      rw [if_neg cw, eb9]
      refine ⟨hB.set ?_, by omega⟩
      unfold imin
      rw [if_pos (lt_iff.mpr (by omega)), eb9]
      exact ti_eq.mpr (by omega)
  · have c2' := nlt_iff.mp c2
    rw [if_neg c2, if_neg c2]
    by_cases c4 : r 9 < 4 * d
    · rw [if_pos c4, if_pos c4, eb9]
      exact ⟨hB, by omega⟩
    · have c4' := nlt_iff.mp c4
      rw [if_neg c4, if_neg c4, eb1, eb9]
      by_cases c1 : r 1 < r 9
      · have c1' := lt_iff.mp c1
        rw [if_pos c1, upd_eq]
        refine ⟨hB.put ?_, by omega⟩
        unfold imax
        rw [if_neg (nlt_iff.mpr (by omega))]
      · have c1' := nlt_iff.mp c1
        rw [if_neg c1, eb9]
        refine ⟨hB.set ?_, by omega⟩
        unfold imax
        rw [if_pos (lt_iff.mpr (by omega)), eb9]
        exact ti_eq.mpr (by omega)
theorem quot_eq {a b : Int32} (h : 1 ≤ b.toInt) : r_X4_quotient a b = a / b := by
  unfold r_X4_quotient
  rw [if_neg (fun q => by rw [q] at h; exact absurd h (by decide))]
/-- a rest: the scalars alike, and in their bounds -/
theorem rest_step (g st : Nat → Int32) (D : DD) (x y : Int32) (r : Nat → Int32) (hE : eqK g r) (h14 : g 14 = r 14) (h15 : g 15 = r 15) (hS : eqS st r) (hs : rgS r) (hv : rgV r) (hp : rgP x y) :
    eqK (c_X3_comeToRest x y (g, st, D)).1 (c_X5_rests_s x y r) ∧ rgV (c_X5_rests_s x y r) := by
  have hT : r_X3_tellsSomething ((g, st, D) : SS) = r_X5_isTelling r := by
    show (if g 14 = 0 then (if g 15 = 0 then (0 : Int32) else 1) else 1) = if r 14 = 0 then (if r 15 = 0 then 0 else 1) else 1
    rw [h14, h15]
  have hj : eqK (j_X3_comeToRest_17_g x y ((g, st, D) : SS)) (j_X5_rests_21_s x y r) := by
    unfold j_X3_comeToRest_17_g j_X5_rests_21_s
    rw [hT]
    by_cases c : r_X5_isTelling r = 0
    · rw [if_pos c, if_pos c]
      exact hE
    · rw [if_neg c, if_neg c]
      exact hE.put (by show g 16 + 1 = r 16 + 1; rw [hE 16 k16])
  obtain ⟨j, ej⟩ : ∃ j, j_X3_comeToRest_17_g x y ((g, st, D) : SS) = j := ⟨_, rfl⟩
  have e1 : (c_X5_rests_s x y r) 1 = r 1 := rests_k x y r (by decide) (by decide) (by decide) (by decide) (by decide) (by decide) (by decide)
  have e2 : (c_X5_rests_s x y r) 2 = r 2 := rests_k x y r (by decide) (by decide) (by decide) (by decide) (by decide) (by decide) (by decide)
  unfold rgV
  rw [e1, e2]
  unfold c_X3_comeToRest c_X3_comeToRest_at17 c_X5_rests_s c_X5_rests_s_at21 c_X5_rests_s_at133 c_X5_rests_s_at168
  rw [ej] at hj ⊢
  rw [hj 13 k13]
  by_cases c : 0 < (j_X5_rests_21_s x y r) 13
  · rw [if_pos c, if_pos c]
    refine ⟨((hj.right nk14).right nk15).put ?_, ?_, ?_, ?_⟩
    · rw [hj 20 k20]
    · show 0 ≤ (upd (upd (upd (j_X5_rests_21_s x y r) 14 0) 15 0) 20 ((j_X5_rests_21_s x y r 20) + 1) 7).toInt ∧ _
      rw [upd_lo (by decide), base_k x y r (by decide) (by decide), j21_k x y r (by decide)]
      exact hv.1
    · rw [upd_lo (by decide), base_k x y r (by decide) (by decide), j21_k x y r (by decide)]
      exact hv.2.1
    · rw [upd_lo (by decide), base_k x y r (by decide) (by decide), j21_k x y r (by decide)]
      exact hv.2.2
  · rw [if_neg c, if_neg c]
    obtain ⟨hz, hz1, hz2⟩ := zone_step j st D x y r hj hS hs hv hp c
    have hz' : (c_X3_fitZone (r_X3_farthestOff x y (j, st, D)) (j, st, D)).2 = (st, D) := fitZone_2 _ _
    obtain ⟨F, eF⟩ : ∃ F, c_X3_fitZone (r_X3_farthestOff x y (j, st, D)) (j, st, D) = F := ⟨_, rfl⟩
    rw [eF] at hz hz'
    have q0 : j_X5_rests_168_s x y r 0 = r 0 := j168_0 x y r
    have q7 : j_X5_rests_168_s x y r 7 = r 7 := j168_k x y r (by decide) (by decide) (by decide) (by decide)
    have q8 : j_X5_rests_168_s x y r 8 = r 8 := j168_k x y r (by decide) (by decide) (by decide) (by decide)
    have f0 : F.2.1 0 = r 0 := by rw [hz']; exact hS 0 (by decide)
    have f7 : F.1 7 = r 7 := (hz 7 k7).trans q7
    have f8 : F.1 8 = r 8 := (hz 8 k8).trans q8
    have l0 : c_X5_learns_s 0 x (j_X5_rests_168_s x y r) = upd (j_X5_rests_168_s x y r) 7 (r 7 + (16 * x - r 7) / r 0) := by
      unfold c_X5_learns_s
      rw [show (7 + 0 : Nat) = 7 from rfl, q7, q0]
    have l1 : c_X5_learns_s 1 y (c_X5_learns_s 0 x (j_X5_rests_168_s x y r)) = upd (upd (j_X5_rests_168_s x y r) 7 (r 7 + (16 * x - r 7) / r 0)) 8 (r 8 + (16 * y - r 8) / r 0) := by
      rw [l0]
      unfold c_X5_learns_s
      rw [show (7 + 1 : Nat) = 8 from rfl, upd_lo (by decide), upd_lo (by decide), q8, q0]
    show eqK (upd (upd (c_X3_fitZone (r_X3_farthestOff x y (j, st, D)) (j, st, D)).1 7 ((c_X3_fitZone (r_X3_farthestOff x y (j, st, D)) (j, st, D)).1 7 + r_X4_quotient (16 * x - (c_X3_fitZone (r_X3_farthestOff x y (j, st, D)) (j, st, D)).1 7) ((c_X3_fitZone (r_X3_farthestOff x y (j, st, D)) (j, st, D)).2.1 0))) 8 ((c_X3_fitZone (r_X3_farthestOff x y (j, st, D)) (j, st, D)).1 8 + r_X4_quotient (16 * y - (c_X3_fitZone (r_X3_farthestOff x y (j, st, D)) (j, st, D)).1 8) ((c_X3_fitZone (r_X3_farthestOff x y (j, st, D)) (j, st, D)).2.1 0))) (c_X5_learns_s 1 y (c_X5_learns_s 0 x (j_X5_rests_168_s x y r))) ∧ _
    rw [eF, l1, f0, f7, f8, quot_eq hs.1.1, quot_eq hs.1.1]
    refine ⟨(hz.put rfl).put rfl, ?_, ?_, ?_⟩
    · rw [upd_lo (by decide), upd_eq]
      exact learn_b hv.1 (by rw [mul16 hp.1]; have := hp.1; omega) hs.1
    · rw [upd_eq]
      exact learn_b hv.2.1 (by rw [mul16 hp.2]; have := hp.2; omega) hs.1
    · rw [upd_lo (by decide), upd_lo (by decide)]
      exact ⟨hz1, hz2⟩
