/-! a sample: what the stick is behind it -/
theorem pack_toInt {a b : Int32} (ha : -100 ≤ a.toInt ∧ a.toInt ≤ 100) (hb : -100 ≤ b.toInt ∧ b.toInt ≤ 100) : (r_X4_packed a b).toInt = 1000 * (a.toInt + 100) + b.toInt + 100 := by
  have e1 : (a + 100).toInt = a.toInt + 100 := i_k rfl (by omega)
  have e2 : (1000 * (a + 100)).toInt = 1000 * (a.toInt + 100) := by
    rw [ti_mul (by rw [z1000]; omega) (by rw [z1000]; omega), z1000, e1]
  unfold r_X4_packed
  have e3 : (1000 * (a + 100) + b).toInt = 1000 * (a.toInt + 100) + b.toInt := by rw [ti_add (by omega) (by omega), e2]
  rw [ti_add (by rw [z100]; omega) (by rw [z100]; omega), e3, z100]
theorem unpack {a b : Int32} (ha : -100 ≤ a.toInt ∧ a.toInt ≤ 100) (hb : -100 ≤ b.toInt ∧ b.toInt ≤ 100) : r_X4_packed a b / 1000 - 100 = a ∧ (r_X4_packed a b - r_X4_packed a b / 1000 * 1000) - 100 = b := by
  have e := pack_toInt ha hb
  have e1 : (r_X4_packed a b / 1000).toInt = a.toInt + 100 := by
    rw [div_toInt (by omega), z1000, e, Int.tdiv_eq_ediv_of_nonneg (by omega)]
    omega
  have e2 : (r_X4_packed a b / 1000 * 1000).toInt = (a.toInt + 100) * 1000 := by
    rw [ti_mul (by rw [z1000]; omega) (by rw [z1000]; omega), z1000, e1]
  have e3 : (r_X4_packed a b - r_X4_packed a b / 1000 * 1000).toInt = b.toInt + 100 := by
    rw [ti_sub (by omega) (by omega)]
    omega
  constructor
  · refine ti_eq.mpr ?_
    rw [ti_sub (by rw [z100]; omega) (by rw [z100]; omega), z100]
    omega
  · refine ti_eq.mpr ?_
    rw [ti_sub (by rw [z100]; omega) (by rw [z100]; omega), z100]
    omega
theorem upd2_k {f : Nat → Int32} {v w : Int32} {k : Nat} (h14 : k ≠ 14) (h15 : k ≠ 15) : upd (upd f 14 v) 15 w k = f k := (upd_lo h15).trans (upd_lo h14)
theorem upd2_14 {f : Nat → Int32} {v w : Int32} : upd (upd f 14 v) 15 w 14 = v := (upd_lo (by decide)).trans upd_eq
theorem upd2_15 {f : Nat → Int32} {v w : Int32} : upd (upd f 14 v) 15 w 15 = w := upd_eq
theorem fitZone_k (off : Int32) (S : SS) {k : Nat} (h : k ≠ 9) : (c_X3_fitZone off S).1 k = S.1 k := by
  unfold c_X3_fitZone
  split
  · exact upd_lo h
  · split
    · rfl
    · exact upd_lo h
theorem comeToRest_k (x y : Int32) (S : SS) {k : Nat} (h7 : k ≠ 7) (h8 : k ≠ 8) (h9 : k ≠ 9) (h16 : k ≠ 16) (h20 : k ≠ 20) : (c_X3_comeToRest x y S).1 k = S.1 k := by
  have hj : j_X3_comeToRest_17_g x y S k = S.1 k := by
    unfold j_X3_comeToRest_17_g
    split
    · rfl
    · exact upd_lo h16
  unfold c_X3_comeToRest c_X3_comeToRest_at17
  split
  · dsimp only
    exact (upd_lo h20).trans hj
  · dsimp only
    exact (upd_lo h8).trans ((upd_lo h7).trans ((fitZone_k _ _ h9).trans hj))
theorem j80_19 (x y : Int32) (S : SS) : j_X3_take_80_g x y S 19 = S.1 19 := by
  have h : upd (upd (upd S.1 12 (r_X3_stillWith x y S)) 10 x) 11 y 19 = S.1 19 := (upd_lo (by decide)).trans ((upd_lo (by decide)).trans (upd_lo (by decide)))
  unfold j_X3_take_80_g
  split
  · split
    · exact h
    · unfold c_X3_driftTo
      dsimp only
      exact (upd_lo (by decide)).trans ((upd_lo (by decide)).trans ((upd_lo (by decide)).trans ((upd_lo (by decide)).trans h)))
  · exact (comeToRest_k _ _ _ (by decide) (by decide) (by decide) (by decide) (by decide)).trans h
theorem j80_17 (x y : Int32) (S : SS) : j_X3_take_80_g x y S 17 = if r_X3_wouldDrift x y S = 0 then S.1 17 else S.1 17 + 1 := by
  have h : upd (upd (upd S.1 12 (r_X3_stillWith x y S)) 10 x) 11 y 17 = S.1 17 := (upd_lo (by decide)).trans ((upd_lo (by decide)).trans (upd_lo (by decide)))
  unfold j_X3_take_80_g j_X3_take_25_s0
  by_cases c : S.1 9 < r_X3_farthestOff x y S
  · rw [if_pos c, if_pos rfl]
    by_cases d : r_X3_wouldDrift x y S = 0
    · rw [if_pos d, if_pos d]
      exact h
    · rw [if_neg d, if_neg d]
      unfold c_X3_driftTo
      dsimp only
      rw [upd_eq, h]
  · have d : r_X3_wouldDrift x y S = 0 := by
      unfold r_X3_wouldDrift
      rw [if_neg c]
      split <;> rfl
    rw [if_neg c, if_neg (by decide), if_pos d]
    exact (comeToRest_k _ _ _ (by decide) (by decide) (by decide) (by decide) (by decide)).trans h
def tl (a b : Int32) : Int32 := if a = 0 then (if b = 0 then 0 else 1) else 1
theorem tell_T (g : Nat → Int32) (Q : (Nat → Int32) × DD) {a b : Int32} (ha : -100 ≤ a.toInt ∧ a.toInt ≤ 100) (hb : -100 ≤ b.toInt ∧ b.toInt ≤ 100) :
    (∀ k, k ≠ 14 → k ≠ 15 → k ≠ 19 → j_X3_tell_41_g (r_X4_packed a b) (g, Q) k = g k) ∧ j_X3_tell_41_g (r_X4_packed a b) (g, Q) 14 = a ∧ j_X3_tell_41_g (r_X4_packed a b) (g, Q) 15 = b ∧ j_X3_tell_41_g (r_X4_packed a b) (g, Q) 19 = g 19 + tl a b := by
  obtain ⟨e1, e2⟩ := unpack ha hb
  have e3 : r_X3_tellsSomething ((upd (upd g 14 a) 15 b, Q) : SS) = tl a b := by
    show (if upd (upd g 14 a) 15 b 14 = 0 then (if upd (upd g 14 a) 15 b 15 = 0 then (0 : Int32) else 1) else 1) = _
    rw [upd2_14, upd2_15]
    rfl
  have e4 : j_X3_tell_41_g (r_X4_packed a b) (g, Q) = if tl a b = 0 then upd (upd g 14 a) 15 b else upd (upd (upd g 14 a) 15 b) 19 (g 19 + 1) := by
    unfold j_X3_tell_41_g
    rw [e1, e2, e3]
  rw [e4]
  by_cases c : tl a b = 0
  · rw [if_pos c, c, Int32.add_zero]
    exact ⟨fun k h14 h15 h19 => upd2_k h14 h15, upd2_14, upd2_15, upd2_k (by decide) (by decide)⟩
  · have c1 : tl a b = 1 := by
      unfold tl at c ⊢
      repeat' split at c
      all_goals first | exact absurd rfl c | skip
      all_goals (repeat' split)
      all_goals first | rfl | simp_all
    rw [if_neg c, c1]
    exact ⟨fun k h14 h15 h19 => (upd_lo h19).trans (upd2_k h14 h15), (upd_lo (by decide)).trans upd2_14, (upd_lo (by decide)).trans upd2_15, upd_eq⟩
theorem tl_01 (a b : Int32) : tl a b = 0 ∨ tl a b = 1 := by
  unfold tl
  repeat' split
  all_goals first | exact Or.inl rfl | exact Or.inr rfl
theorem tl_0 {a b : Int32} : tl a b = 0 ↔ (a = 0 ∧ b = 0) := by
  unfold tl
  by_cases h : a = 0
  · rw [if_pos h]
    by_cases h2 : b = 0
    · rw [if_pos h2]
      exact ⟨fun _ => ⟨h, h2⟩, fun _ => rfl⟩
    · rw [if_neg h2]
      exact ⟨fun q => absurd q (by decide), fun q => absurd q.2 h2⟩
  · rw [if_neg h]
    exact ⟨fun q => absurd q (by decide), fun q => absurd q.1 h⟩
/-- the scalars behind a sample, but for what is told and the counts -/
def pre (x y : Int32) (S : SS) : Nat → Int32 := j_X3_take_80_g x y S
def dec (v : Int32) : Int32 := if 0 < v then v - 1 else v
theorem take_is {x y : Int32} {S : SS} (ha : -100 ≤ (aX x y S).toInt ∧ (aX x y S).toInt ≤ 100) (hb : -100 ≤ (aY x y S).toInt ∧ (aY x y S).toInt ≤ 100) :
    (∀ k, k ≠ 13 → k ≠ 14 → k ≠ 15 → k ≠ 19 → k ≠ 21 → (c_X3_take x y S).1 k = pre x y S k) ∧ (c_X3_take x y S).1 14 = aX x y S ∧ (c_X3_take x y S).1 15 = aY x y S ∧ (c_X3_take x y S).1 19 = S.1 19 + tl (aX x y S) (aY x y S) ∧ (c_X3_take x y S).1 13 = dec (pre x y S 13) ∧ (c_X3_take x y S).1 21 = pre x y S 21 + 1 ∧ (c_X3_take x y S).2.1 = S.2.1 ∧ (c_X3_take x y S).2.2 = c_X0_note (r_J6_compare_7cf53 (aX x y S) 0) (r_J6_compare_7cf53 (aY x y S) 0) S.2.2 := by
  obtain ⟨t1, t2, t3, t4⟩ := tell_T (pre x y S) (S.2.1, S.2.2) ha hb
  rw [show pre x y S 19 = S.1 19 from j80_19 x y S] at t4
  have hC : c_X3_take x y S = (upd (if 0 < j_X3_tell_41_g (r_X4_packed (aX x y S) (aY x y S)) (pre x y S, S.2.1, S.2.2) 13 then upd (j_X3_tell_41_g (r_X4_packed (aX x y S) (aY x y S)) (pre x y S, S.2.1, S.2.2)) 13 (j_X3_tell_41_g (r_X4_packed (aX x y S) (aY x y S)) (pre x y S, S.2.1, S.2.2) 13 - 1) else j_X3_tell_41_g (r_X4_packed (aX x y S) (aY x y S)) (pre x y S, S.2.1, S.2.2)) 21 ((if 0 < j_X3_tell_41_g (r_X4_packed (aX x y S) (aY x y S)) (pre x y S, S.2.1, S.2.2) 13 then upd (j_X3_tell_41_g (r_X4_packed (aX x y S) (aY x y S)) (pre x y S, S.2.1, S.2.2)) 13 (j_X3_tell_41_g (r_X4_packed (aX x y S) (aY x y S)) (pre x y S, S.2.1, S.2.2) 13 - 1) else j_X3_tell_41_g (r_X4_packed (aX x y S) (aY x y S)) (pre x y S, S.2.1, S.2.2)) 21 + 1), S.2.1, c_X0_note (r_J6_compare_7cf53 (j_X3_tell_41_g (r_X4_packed (aX x y S) (aY x y S)) (pre x y S, S.2.1, S.2.2) 14) 0) (r_J6_compare_7cf53 (j_X3_tell_41_g (r_X4_packed (aX x y S) (aY x y S)) (pre x y S, S.2.1, S.2.2) 15) 0) S.2.2) := by
    unfold c_X3_take c_X3_take_at25 c_X3_take_at80 c_X3_take_at102 j_X3_take_102_g c_X3_tell c_X3_tell_at41 pre
    rw [j80D, j80S, telling_is]
  rw [hC]
  obtain ⟨T, eT⟩ : ∃ T, j_X3_tell_41_g (r_X4_packed (aX x y S) (aY x y S)) (pre x y S, S.2.1, S.2.2) = T := ⟨_, rfl⟩
  rw [eT] at t1 t2 t3 t4 ⊢
  have t13 := t1 13 (by decide) (by decide) (by decide)
  have t21 := t1 21 (by decide) (by decide) (by decide)
  have Jk : ∀ k, k ≠ 13 → (if 0 < T 13 then upd T 13 (T 13 - 1) else T) k = T k := fun k hk => by
    split
    · exact upd_lo hk
    · rfl
  have J13 : (if 0 < T 13 then upd T 13 (T 13 - 1) else T) 13 = dec (pre x y S 13) := by
    unfold dec
    rw [← t13]
    by_cases c : 0 < T 13
    · rw [if_pos c, if_pos c, upd_eq]
    · rw [if_neg c, if_neg c]
  dsimp only
  refine ⟨fun k h13 h14 h15 h19 h21 => ?_, ?_, ?_, ?_, ?_, ?_, rfl, ?_⟩
  · exact (upd_lo h21).trans ((Jk k h13).trans (t1 k h14 h15 h19))
  · exact (upd_lo (by decide)).trans ((Jk 14 (by decide)).trans t2)
  · exact (upd_lo (by decide)).trans ((Jk 15 (by decide)).trans t3)
  · exact (upd_lo (by decide)).trans ((Jk 19 (by decide)).trans t4)
  · exact (upd_lo (by decide)).trans J13
  · refine upd_eq.trans ?_
    rw [Jk 21 (by decide), t21]
  · show c_X0_note (r_J6_compare_7cf53 (T 14) 0) (r_J6_compare_7cf53 (T 15) 0) S.2.2 = _
    rw [t2, t3]
/-- the scalars with the place noted -/
def bas (x y : Int32) (S : SS) : Nat → Int32 := upd (upd (upd S.1 12 (r_X3_stillWith x y S)) 10 x) 11 y
theorem bas_k {x y : Int32} {S : SS} {k : Nat} (h : k ≠ 10) (h1 : k ≠ 11) (h2 : k ≠ 12) : bas x y S k = S.1 k := (upd_lo h1).trans ((upd_lo h).trans (upd_lo h2))
theorem bas_10 {x y : Int32} {S : SS} : bas x y S 10 = x := (upd_lo (by decide)).trans upd_eq
theorem bas_11 {x y : Int32} {S : SS} : bas x y S 11 = y := upd_eq
theorem bas_12 {x y : Int32} {S : SS} : bas x y S 12 = r_X3_stillWith x y S := (upd_lo (by decide)).trans ((upd_lo (by decide)).trans upd_eq)
theorem drift_far {x y : Int32} {S : SS} (h : ¬ r_X3_wouldDrift x y S = 0) : S.1 9 < r_X3_farthestOff x y S := by
  by_cases c : S.1 9 < r_X3_farthestOff x y S
  · exact c
  · exfalso
    apply h
    unfold r_X3_wouldDrift
    rw [if_neg c]
    split <;> rfl
/-- out of the zone, and no drift: the place alone -/
theorem pre_out {x y : Int32} {S : SS} (hf : S.1 9 < r_X3_farthestOff x y S) (hd : r_X3_wouldDrift x y S = 0) : pre x y S = bas x y S := by
  unfold pre j_X3_take_80_g j_X3_take_25_s0
  rw [if_pos hf, if_pos rfl, if_pos hd]
  rfl
/-- a drift: the place is the rest -/
theorem pre_drift {x y : Int32} {S : SS} (hd : ¬ r_X3_wouldDrift x y S = 0) : pre x y S = upd (upd (upd (upd (bas x y S) 7 (16 * x)) 8 (16 * y)) 12 0) 17 (S.1 17 + 1) := by
  have hf := drift_far hd
  unfold pre j_X3_take_80_g j_X3_take_25_s0
  rw [if_pos hf, if_pos rfl, if_neg hd]
  unfold c_X3_driftTo
  have h : bas x y S 17 = S.1 17 := bas_k (by decide) (by decide) (by decide)
  show upd (upd (upd (upd (bas x y S) 7 (16 * x)) 8 (16 * y)) 12 0) 17 (bas x y S 17 + 1) = _
  rw [h]
/-- the zone behind a rest that is so far off -/
def fz (f : Int32) (S : SS) : Int32 := if S.1 9 < 2 * f then imin (S.1 9 + 1) (S.2.1 1 + S.2.1 2) else (if S.1 9 < 4 * f then S.1 9 else imax (S.1 9 - 1) (S.2.1 1))
theorem fitZone_9 (f : Int32) (S : SS) : (c_X3_fitZone f S).1 9 = fz f S := by
  unfold c_X3_fitZone fz
  split
  · dsimp only
    exact upd_eq
  · split
    · rfl
    · dsimp only
      exact upd_eq
theorem rest_st {x y : Int32} {S : SS} (hf : ¬ S.1 9 < r_X3_farthestOff x y S) (hs : 1 ≤ (S.2.1 0).toInt) :
    pre x y S 10 = x ∧ pre x y S 11 = y ∧ pre x y S 12 = r_X3_stillWith x y S ∧ pre x y S 13 = S.1 13 ∧ pre x y S 16 = S.1 16 + tl (S.1 14) (S.1 15) ∧ pre x y S 17 = S.1 17 ∧ pre x y S 18 = S.1 18 ∧ pre x y S 21 = S.1 21 ∧
    (0 < S.1 13 → pre x y S 7 = S.1 7 ∧ pre x y S 8 = S.1 8 ∧ pre x y S 9 = S.1 9 ∧ pre x y S 20 = S.1 20 + 1) ∧
    (¬ 0 < S.1 13 → pre x y S 7 = S.1 7 + (16 * x - S.1 7) / S.2.1 0 ∧ pre x y S 8 = S.1 8 + (16 * y - S.1 8) / S.2.1 0 ∧ pre x y S 9 = fz (r_X3_farthestOff x y S) S ∧ pre x y S 20 = S.1 20) := by
  have hP : pre x y S = (c_X3_comeToRest x y (bas x y S, S.2)).1 := by
    unfold pre j_X3_take_80_g j_X3_take_25_s0
    rw [if_neg hf, if_neg (by decide)]
    rfl
  have e14 : bas x y S 14 = S.1 14 := bas_k (by decide) (by decide) (by decide)
  have e15 : bas x y S 15 = S.1 15 := bas_k (by decide) (by decide) (by decide)
  have e16 : bas x y S 16 = S.1 16 := bas_k (by decide) (by decide) (by decide)
  have hT : r_X3_tellsSomething ((bas x y S, S.2) : SS) = tl (S.1 14) (S.1 15) := by
    show (if bas x y S 14 = 0 then (if bas x y S 15 = 0 then (0 : Int32) else 1) else 1) = _
    rw [e14, e15]
    rfl
  obtain ⟨J, eJ⟩ : ∃ J, j_X3_comeToRest_17_g x y ((bas x y S, S.2) : SS) = J := ⟨_, rfl⟩
  have hJ : (∀ k, k ≠ 16 → J k = bas x y S k) ∧ J 16 = S.1 16 + tl (S.1 14) (S.1 15) := by
    rw [← eJ]
    unfold j_X3_comeToRest_17_g
    rw [hT]
    by_cases c : tl (S.1 14) (S.1 15) = 0
    · rw [if_pos c, c, Int32.add_zero]
      exact ⟨fun k _ => rfl, e16⟩
    · have c1 : tl (S.1 14) (S.1 15) = 1 := by
        rcases tl_01 (S.1 14) (S.1 15) with h | h
        · exact absurd h c
        · exact h
      rw [if_neg c, c1]
      refine ⟨fun k hk => upd_lo hk, upd_eq.trans ?_⟩
      show bas x y S 16 + 1 = _
      rw [e16]
  obtain ⟨hJk, hJ16⟩ := hJ
  have j : ∀ k, k ≠ 10 → k ≠ 11 → k ≠ 12 → k ≠ 16 → J k = S.1 k := fun k h1 h2 h3 h4 => (hJk k h4).trans (bas_k h1 h2 h3)
  have hF : r_X3_farthestOff x y ((J, S.2) : SS) = r_X3_farthestOff x y S := by
    show imax (iabs (x - J 7 / 16)) (iabs (y - J 8 / 16)) = imax (iabs (x - S.1 7 / 16)) (iabs (y - S.1 8 / 16))
    rw [j 7 (by decide) (by decide) (by decide) (by decide), j 8 (by decide) (by decide) (by decide) (by decide)]
  have hfz : ∀ f, fz f ((J, S.2) : SS) = fz f S := fun f => by
    show (if J 9 < 2 * f then imin (J 9 + 1) (S.2.1 1 + S.2.1 2) else (if J 9 < 4 * f then J 9 else imax (J 9 - 1) (S.2.1 1))) = _
    rw [j 9 (by decide) (by decide) (by decide) (by decide)]
    rfl
  have hE : pre x y S = if 0 < J 13 then upd J 20 (J 20 + 1) else upd (upd (c_X3_fitZone (r_X3_farthestOff x y ((J, S.2) : SS)) (J, S.2)).1 7 ((c_X3_fitZone (r_X3_farthestOff x y ((J, S.2) : SS)) (J, S.2)).1 7 + r_X4_quotient (16 * x - (c_X3_fitZone (r_X3_farthestOff x y ((J, S.2) : SS)) (J, S.2)).1 7) ((c_X3_fitZone (r_X3_farthestOff x y ((J, S.2) : SS)) (J, S.2)).2.1 0))) 8 (upd (c_X3_fitZone (r_X3_farthestOff x y ((J, S.2) : SS)) (J, S.2)).1 7 ((c_X3_fitZone (r_X3_farthestOff x y ((J, S.2) : SS)) (J, S.2)).1 7 + r_X4_quotient (16 * x - (c_X3_fitZone (r_X3_farthestOff x y ((J, S.2) : SS)) (J, S.2)).1 7) ((c_X3_fitZone (r_X3_farthestOff x y ((J, S.2) : SS)) (J, S.2)).2.1 0)) 8 + r_X4_quotient (16 * y - upd (c_X3_fitZone (r_X3_farthestOff x y ((J, S.2) : SS)) (J, S.2)).1 7 ((c_X3_fitZone (r_X3_farthestOff x y ((J, S.2) : SS)) (J, S.2)).1 7 + r_X4_quotient (16 * x - (c_X3_fitZone (r_X3_farthestOff x y ((J, S.2) : SS)) (J, S.2)).1 7) ((c_X3_fitZone (r_X3_farthestOff x y ((J, S.2) : SS)) (J, S.2)).2.1 0)) 8) ((c_X3_fitZone (r_X3_farthestOff x y ((J, S.2) : SS)) (J, S.2)).2.1 0)) := by
    rw [hP]
    unfold c_X3_comeToRest c_X3_comeToRest_at17
    rw [eJ]
    split <;> rfl
  rw [hF] at hE
  have hz := fitZone_9 (r_X3_farthestOff x y S) ((J, S.2) : SS)
  rw [hfz] at hz
  have hk := fun k (hk : k ≠ 9) => fitZone_k (r_X3_farthestOff x y S) ((J, S.2) : SS) hk
  have h2 := fitZone_2 (r_X3_farthestOff x y S) ((J, S.2) : SS)
  obtain ⟨F, eF⟩ : ∃ F, c_X3_fitZone (r_X3_farthestOff x y S) ((J, S.2) : SS) = F := ⟨_, rfl⟩
  rw [eF] at hE hz hk h2
  have hF0 : F.2.1 0 = S.2.1 0 := by
    rw [h2]
  have hF7 : F.1 7 = S.1 7 := (hk 7 (by decide)).trans (j 7 (by decide) (by decide) (by decide) (by decide))
  have hF8 : F.1 8 = S.1 8 := (hk 8 (by decide)).trans (j 8 (by decide) (by decide) (by decide) (by decide))
  have u8 : ∀ v, upd F.1 7 v 8 = S.1 8 := fun v => (upd_lo (by decide)).trans hF8
  rw [hF0, hF7, quot_eq hs, u8, quot_eq hs] at hE
  rw [j 13 (by decide) (by decide) (by decide) (by decide), j 20 (by decide) (by decide) (by decide) (by decide)] at hE
  by_cases c : 0 < S.1 13
  · rw [if_pos c] at hE
    have g : ∀ k, k ≠ 20 → pre x y S k = J k := fun k hk => by
      rw [hE]
      exact upd_lo hk
    refine ⟨(g 10 (by decide)).trans ((hJk 10 (by decide)).trans bas_10), (g 11 (by decide)).trans ((hJk 11 (by decide)).trans bas_11), (g 12 (by decide)).trans ((hJk 12 (by decide)).trans bas_12), (g 13 (by decide)).trans (j 13 (by decide) (by decide) (by decide) (by decide)), (g 16 (by decide)).trans hJ16, (g 17 (by decide)).trans (j 17 (by decide) (by decide) (by decide) (by decide)), (g 18 (by decide)).trans (j 18 (by decide) (by decide) (by decide) (by decide)), (g 21 (by decide)).trans (j 21 (by decide) (by decide) (by decide) (by decide)), fun _ => ⟨(g 7 (by decide)).trans (j 7 (by decide) (by decide) (by decide) (by decide)), (g 8 (by decide)).trans (j 8 (by decide) (by decide) (by decide) (by decide)), (g 9 (by decide)).trans (j 9 (by decide) (by decide) (by decide) (by decide)), ?_⟩, fun q => absurd c q⟩
    rw [hE]
    exact upd_eq
  · rw [if_neg c] at hE
    have g : ∀ k, k ≠ 7 → k ≠ 8 → k ≠ 9 → pre x y S k = J k := fun k h7 h8 h9 => by
      rw [hE]
      exact (upd_lo h8).trans ((upd_lo h7).trans (hk k h9))
    refine ⟨(g 10 (by decide) (by decide) (by decide)).trans ((hJk 10 (by decide)).trans bas_10), (g 11 (by decide) (by decide) (by decide)).trans ((hJk 11 (by decide)).trans bas_11), (g 12 (by decide) (by decide) (by decide)).trans ((hJk 12 (by decide)).trans bas_12), (g 13 (by decide) (by decide) (by decide)).trans (j 13 (by decide) (by decide) (by decide) (by decide)), (g 16 (by decide) (by decide) (by decide)).trans hJ16, (g 17 (by decide) (by decide) (by decide)).trans (j 17 (by decide) (by decide) (by decide) (by decide)), (g 18 (by decide) (by decide) (by decide)).trans (j 18 (by decide) (by decide) (by decide) (by decide)), (g 21 (by decide) (by decide) (by decide)).trans (j 21 (by decide) (by decide) (by decide) (by decide)), fun q => absurd q c, fun _ => ⟨?_, ?_, ?_, (g 20 (by decide) (by decide) (by decide)).trans (j 20 (by decide) (by decide) (by decide) (by decide))⟩⟩
    · rw [hE]
      exact (upd_lo (by decide)).trans upd_eq
    · rw [hE]
      exact upd_eq
    · rw [hE]
      exact (upd_lo (by decide)).trans ((upd_lo (by decide)).trans hz)
