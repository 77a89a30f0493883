/-! a sample, beside the reference's -/
theorem j80S (x y : Int32) (S : SS) : j_X3_take_80_st x y S = S.2.1 := by
  unfold j_X3_take_80_st
  split
  · split <;> rfl
  · exact congrArg (fun q => q.1) (comeToRest_2 _ _ _)
theorem fitZone_k (off : Int32) (S : SS) {k : Nat} (h : k ≠ 9) : (c_X3_fitZone off S).1 k = S.1 k := by
  unfold c_X3_fitZone
  split
  · exact upd_lo h
  · split
    · rfl
    · exact upd_lo h
theorem comeToRest_k (x y : Int32) (S : SS) {k : Nat} (h7 : k ≠ 7) (h8 : k ≠ 8) (h9 : k ≠ 9) (h16 : k ≠ 16) (h20 : k ≠ 20) : (c_X3_comeToRest x y S).1 k = S.1 k := by
  have hj : j_X3_comeToRest_17_g x y S k = S.1 k := by
    unfold j_X3_comeToRest_17_g
    split
    · rfl
    · exact upd_lo h16
  unfold c_X3_comeToRest c_X3_comeToRest_at17
  split
  · dsimp only
    exact (upd_lo h20).trans hj
  · dsimp only
    exact (upd_lo h8).trans ((upd_lo h7).trans ((fitZone_k _ _ h9).trans hj))
theorem j80_19 (x y : Int32) (S : SS) : j_X3_take_80_g x y S 19 = S.1 19 := by
  have h : upd (upd (upd S.1 12 (r_X3_stillWith x y S)) 10 x) 11 y 19 = S.1 19 := (upd_lo (by decide)).trans ((upd_lo (by decide)).trans (upd_lo (by decide)))
  unfold j_X3_take_80_g
  split
  · split
    · exact h
    · unfold c_X3_driftTo
      dsimp only
      exact (upd_lo (by decide)).trans ((upd_lo (by decide)).trans ((upd_lo (by decide)).trans ((upd_lo (by decide)).trans h)))
  · exact (comeToRest_k _ _ _ (by decide) (by decide) (by decide) (by decide) (by decide)).trans h
theorem j80_17 (x y : Int32) (S : SS) : j_X3_take_80_g x y S 17 = if r_X3_wouldDrift x y S = 0 then S.1 17 else S.1 17 + 1 := by
  have h : upd (upd (upd S.1 12 (r_X3_stillWith x y S)) 10 x) 11 y 17 = S.1 17 := (upd_lo (by decide)).trans ((upd_lo (by decide)).trans (upd_lo (by decide)))
  unfold j_X3_take_80_g j_X3_take_25_s0
  by_cases c : S.1 9 < r_X3_farthestOff x y S
  · rw [if_pos c, if_pos rfl]
    by_cases d : r_X3_wouldDrift x y S = 0
    · rw [if_pos d, if_pos d]
      exact h
    · rw [if_neg d, if_neg d]
      unfold c_X3_driftTo
      dsimp only
      rw [upd_eq, h]
  · have d : r_X3_wouldDrift x y S = 0 := by
      unfold r_X3_wouldDrift
      rw [if_neg c]
      split <;> rfl
    rw [if_neg c, if_neg (by decide), if_pos d]
    exact (comeToRest_k _ _ _ (by decide) (by decide) (by decide) (by decide) (by decide)).trans h
def tl (a b : Int32) : Int32 := if a = 0 then (if b = 0 then 0 else 1) else 1
theorem tell_T (g : Nat → Int32) (Q : (Nat → Int32) × DD) {a b : Int32} (ha : -100 ≤ a.toInt ∧ a.toInt ≤ 100) (hb : -100 ≤ b.toInt ∧ b.toInt ≤ 100) :
    (∀ k, k ≠ 14 → k ≠ 15 → k ≠ 19 → j_X3_tell_41_g (r_X4_packed a b) (g, Q) k = g k) ∧ j_X3_tell_41_g (r_X4_packed a b) (g, Q) 14 = a ∧ j_X3_tell_41_g (r_X4_packed a b) (g, Q) 15 = b ∧ j_X3_tell_41_g (r_X4_packed a b) (g, Q) 19 = g 19 + tl a b := by
  obtain ⟨e1, e2⟩ := unpack ha hb
  have e3 : r_X3_tellsSomething ((upd (upd g 14 a) 15 b, Q) : SS) = tl a b := by
    show (if upd (upd g 14 a) 15 b 14 = 0 then (if upd (upd g 14 a) 15 b 15 = 0 then (0 : Int32) else 1) else 1) = _
    rw [upd2_14, upd2_15]
    rfl
  have e4 : j_X3_tell_41_g (r_X4_packed a b) (g, Q) = if tl a b = 0 then upd (upd g 14 a) 15 b else upd (upd (upd g 14 a) 15 b) 19 (g 19 + 1) := by
    unfold j_X3_tell_41_g
    rw [e1, e2, e3]
  rw [e4]
  by_cases c : tl a b = 0
  · rw [if_pos c, c, Int32.add_zero]
    exact ⟨fun k h14 h15 h19 => upd2_k h14 h15, upd2_14, upd2_15, upd2_k (by decide) (by decide)⟩
  · have c1 : tl a b = 1 := by
      unfold tl at c ⊢
      repeat' split at c
      all_goals first | exact absurd rfl c | skip
      all_goals (repeat' split)
      all_goals first | rfl | simp_all
    rw [if_neg c, c1]
    exact ⟨fun k h14 h15 h19 => (upd_lo h19).trans (upd2_k h14 h15), (upd_lo (by decide)).trans upd2_14, (upd_lo (by decide)).trans upd2_15, upd_eq⟩
theorem rsC_congr {D : DD} {r r' : Nat → Int32} {nd : Nat} {B : Int} {c : Nat → Nat} (h : rsC D r nd B c) (e : ∀ k, 22 ≤ k → r' k = r k) : rsC D r' nd B c := by
  obtain ⟨h1, h2, h3, h4, h5, h6, h7, h8⟩ := h
  refine ⟨h1, by rw [e 22 (by decide)]; exact h2, h3, fun k hk => ?_, h5, h6, ?_, by rw [e 24 (by decide)]; exact h8⟩
  · rw [e _ (by omega), e _ (by omega), e _ (by omega), e _ (by omega)]
    exact h4 k hk
  · rw [e 23 (by decide)]
    exact h7
theorem rgV_of {r r' : Nat → Int32} (h : rgV r) (e : ∀ k, k = 1 ∨ k = 2 ∨ k = 7 ∨ k = 8 ∨ k = 9 → r' k = r k) : rgV r' := by
  unfold rgV
  rw [e 1 (by omega), e 2 (by omega), e 7 (by omega), e 8 (by omega), e 9 (by omega)]
  exact h
/-- a stick of the class and a row of the reference say the same -/
def RS (S : SS) (r : Nat → Int32) (B : Int) : Prop := eqG S.1 r ∧ rsL S.1 r ∧ eqS S.2.1 r ∧ rgS r ∧ rgV r ∧ rgT r ∧ (0 ≤ (r 21).toInt ∧ (r 21).toInt ≤ B ∧ 0 ≤ (r 17).toInt ∧ (r 17).toInt ≤ (r 21).toInt) ∧ ∃ nd c, rsC S.2.2 r nd (r 21).toInt c
theorem RS.mono {S : SS} {r : Nat → Int32} {B B' : Int} (h : RS S r B) (hb : B ≤ B') : RS S r B' := by
  obtain ⟨h1, h2, h3, h4, h5, h6, h7, h8⟩ := h
  exact ⟨h1, h2, h3, h4, h5, h6, ⟨h7.1, by omega, h7.2.2⟩, h8⟩
def tkT (P G1 : Nat → Int32) (st : Nat → Int32) (D : DD) : Nat → Int32 := j_X3_tell_41_g (r_X4_packed (P 14) (P 15)) (G1, st, D)
def tkJ (T : Nat → Int32) : Nat → Int32 := if 0 < T 13 then upd T 13 (T 13 - 1) else T
def tkQ (P : Nat → Int32) : Nat → Int32 := upd (upd P 13 (P 13 - (if 0 < P 13 then 1 else 0))) 21 (P 21 + 1)
theorem take_rel {S : SS} {x y : Int32} {r : Nat → Int32} {B : Int} (h : RS S r B) (hB : B ≤ 99999) (hp : rgP x y) : RS (c_X3_take x y S) (c_X5_samples_s x y r) (B + 1) ∧ (c_X5_samples_s x y r 21).toInt = (r 21).toInt + 1 ∧ r_X3_tellingAt x y S = r_X5_told (c_X5_samples_s x y r) ∧ c_X5_samples_s x y r 17 = (if r_X3_wouldDrift x y S = 0 then r 17 else r 17 + 1) := by
  obtain ⟨g, st, D⟩ := S
  obtain ⟨hG, hL, hS, hs, hv, hT, hb, nd, c, hD⟩ := h
  replace hG : eqG g r := hG
  replace hL : rsL g r := hL
  replace hS : eqS st r := hS
  replace hD : rsC D r nd (r 21).toInt c := hD
  obtain ⟨q1, q2, q3, q4⟩ := take_pre g st D x y r hG hL hS hs hv hp
  have pk := fun (k : Nat) => @pre_k x y r k
  obtain ⟨p10, p11⟩ := pre_l x y r
  have g19 : j_X3_take_80_g x y ((g, st, D) : SS) 19 = r 19 := (j80_19 x y _).trans (hG 19 (by omega))
  have g17 : j_X3_take_80_g x y ((g, st, D) : SS) 17 = if r_X3_wouldDrift x y ((g, st, D) : SS) = 0 then r 17 else r 17 + 1 := by
    rw [j80_17]
    show (if _ then g 17 else g 17 + 1) = _
    rw [hG 17 (by omega)]
  have hR : c_X5_samples_s x y r = c_X5_counts_s (tkQ (j_X5_samples_144_s x y r)) := by
    unfold c_X5_samples_s c_X5_samples_s_at55 c_X5_samples_s_at85 c_X5_samples_s_at144 c_X5_samples_s_at171 j_X5_samples_171_s0 tkQ
    with_reducible rfl
  have hC : c_X3_take x y (g, st, D) = (upd (tkJ (tkT (j_X5_samples_144_s x y r) (j_X3_take_80_g x y (g, st, D)) st D)) 21 (tkJ (tkT (j_X5_samples_144_s x y r) (j_X3_take_80_g x y (g, st, D)) st D) 21 + 1), st, c_X0_note (r_J6_compare_7cf53 (tkT (j_X5_samples_144_s x y r) (j_X3_take_80_g x y (g, st, D)) st D 14) 0) (r_J6_compare_7cf53 (tkT (j_X5_samples_144_s x y r) (j_X3_take_80_g x y (g, st, D)) st D 15) 0) D) := by
    unfold c_X3_take c_X3_take_at25 c_X3_take_at80 c_X3_take_at102 j_X3_take_102_g c_X3_tell c_X3_tell_at41 tkJ tkT
    rw [j80D, j80S, q2]
  rw [hC, hR, q2, ← g17]
  clear hC hR
  obtain ⟨P, eP⟩ : ∃ P, j_X5_samples_144_s x y r = P := ⟨_, rfl⟩
  obtain ⟨G1, eG1⟩ : ∃ G1, j_X3_take_80_g x y (g, st, D) = G1 := ⟨_, rfl⟩
  rw [eP] at q1 q3 q4 p10 p11 pk ⊢
  rw [eG1] at q1 g19 g17 ⊢
  obtain ⟨t1, t2, t3, t4⟩ := tell_T G1 (st, D) q3.1 q3.2
  replace t1 : ∀ k, k ≠ 14 → k ≠ 15 → k ≠ 19 → tkT P G1 st D k = G1 k := t1
  replace t2 : tkT P G1 st D 14 = P 14 := t2
  replace t3 : tkT P G1 st D 15 = P 15 := t3
  replace t4 : tkT P G1 st D 19 = G1 19 + tl (P 14) (P 15) := t4
  obtain ⟨T, eT⟩ : ∃ T, tkT P G1 st D = T := ⟨_, rfl⟩
  rw [eT] at t1 t2 t3 t4 ⊢
  have J13 : tkJ T 13 = T 13 - (if 0 < T 13 then 1 else 0) := by
    unfold tkJ
    by_cases c13 : 0 < T 13
    · rw [if_pos c13, if_pos c13, upd_eq]
    · rw [if_neg c13, if_neg c13, Int32.sub_zero]
  have Jk : ∀ k, k ≠ 13 → tkJ T k = T k := fun k hk => by
    unfold tkJ
    split
    · exact upd_lo hk
    · rfl
  obtain ⟨J, eJ⟩ : ∃ J, tkJ T = J := ⟨_, rfl⟩
  rw [eJ] at J13 Jk ⊢
  have Q21 : tkQ P 21 = P 21 + 1 := upd_eq
  have Q13 : tkQ P 13 = P 13 - (if 0 < P 13 then 1 else 0) := (upd_lo (by decide)).trans upd_eq
  have Qk : ∀ k, k ≠ 13 → k ≠ 21 → tkQ P k = P k := fun k h1 h2 => (upd_lo h2).trans (upd_lo h1)
  have hQ : rsC D (tkQ P) nd (r 21).toInt c := rsC_congr hD (fun k hk => (Qk k (by omega) (by omega)).trans (pk k (by omega)))
  obtain ⟨⟨nd', c', d1⟩, d2, d3⟩ := dirs_step hQ ⟨hb.1, by omega⟩ (P 14) (P 15) (Qk 14 (by decide) (by decide)) (Qk 15 (by decide) (by decide))
  have tq : r_X5_isTelling (tkQ P) = tl (P 14) (P 15) := by
    unfold r_X5_isTelling tl
    rw [Qk 14 (by decide) (by decide), Qk 15 (by decide) (by decide)]
  rw [tq, Qk 19 (by decide) (by decide), pk 19 (by omega)] at d3
  obtain ⟨R, eR⟩ : ∃ R, c_X5_counts_s (tkQ P) = R := ⟨_, rfl⟩
  rw [eR] at d1 d2 d3 ⊢
  have R21 : R 21 = r 21 + 1 := by rw [d2 21 (by decide) (by decide), Q21, pk 21 (by omega)]
  have I21 : (R 21).toInt = (r 21).toInt + 1 := by rw [R21]; exact i_1 (by omega)
  have R13 : R 13 = P 13 - (if 0 < P 13 then 1 else 0) := (d2 13 (by decide) (by decide)).trans Q13
  have Rk : ∀ k, k < 22 → k ≠ 13 → k ≠ 19 → k ≠ 21 → R k = P k := fun k h1 h2 h3 h4 => (d2 k h1 h3).trans (Qk k h2 h4)
  have R17 : R 17 = G1 17 := (Rk 17 (by decide) (by decide) (by decide) (by decide)).trans (q1 17 k17).symm
  have I17 : 0 ≤ (R 17).toInt ∧ (R 17).toInt ≤ (r 17).toInt + 1 := by
    rw [R17, g17]
    split
    · omega
    · rw [i_1 (by omega)]
      omega
  refine ⟨⟨?_, ?_, ?_, ?_, ?_, ?_, ?_, ?_⟩, I21, ?_, R17⟩
  · show eqG (upd J 21 (J 21 + 1)) R
    intro k hk
    by_cases c21 : k = 21
    · subst c21
      rw [upd_eq, R21, Jk 21 (by decide), t1 21 (by decide) (by decide) (by decide), q1 21 k21, pk 21 (by omega)]
    · rw [upd_lo c21]
      by_cases c13 : k = 13
      · subst c13
        rw [J13, R13, t1 13 (by decide) (by decide) (by decide), q1 13 k13]
      · rw [Jk k c13]
        by_cases c19 : k = 19
        · subst c19
          rw [t4, d3, g19]
        · rw [Rk k (by omega) c13 c19 c21]
          by_cases c14 : k = 14
          · subst c14
            exact t2
          · by_cases c15 : k = 15
            · subst c15
              exact t3
            · rw [t1 k c14 c15 c19]
              exact q1 k (by unfold kK; omega)
  · show rsL (upd J 21 (J 21 + 1)) R
    have r10 : R 10 = x := (Rk 10 (by decide) (by decide) (by decide) (by decide)).trans p10
    have r11 : R 11 = y := (Rk 11 (by decide) (by decide) (by decide) (by decide)).trans p11
    refine Or.inr ⟨by omega, by rw [r10]; exact hp.1, by rw [r11]; exact hp.2, ?_, ?_⟩
    · rw [upd_lo (by decide), Jk 10 (by decide), t1 10 (by decide) (by decide) (by decide), q1 10 k10, r10, p10]
    · rw [upd_lo (by decide), Jk 11 (by decide), t1 11 (by decide) (by decide) (by decide), q1 11 k11, r11, p11]
  · show eqS st R
    intro k hk
    rw [hS k hk, Rk k (by omega) (by omega) (by omega) (by omega), pk k (by omega)]
  · exact rgS_of hs (fun k hk => (Rk k (by omega) (by omega) (by omega) (by omega)).trans (pk k (by omega)))
  · exact rgV_of q4 (fun k hk => Rk k (by omega) (by omega) (by omega) (by omega))
  · unfold rgT
    rw [Rk 14 (by decide) (by decide) (by decide) (by decide), Rk 15 (by decide) (by decide) (by decide) (by decide)]
    exact q3
  · exact ⟨by omega, by omega, I17.1, by omega⟩
  · refine ⟨nd', c', ?_⟩
    show rsC (c_X0_note (r_J6_compare_7cf53 (T 14) 0) (r_J6_compare_7cf53 (T 15) 0) D) R nd' (R 21).toInt c'
    rw [t2, t3, I21]
    exact d1
  · show 1000 * (P 14 + 100) + P 15 + 100 = 1000 * (R 14 + 100) + R 15 + 100
    rw [Rk 14 (by decide) (by decide) (by decide) (by decide), Rk 15 (by decide) (by decide) (by decide) (by decide)]
theorem RS_SH {S : SS} {r : Nat → Int32} {B : Int} (h : RS S r B) : SH r := by
  obtain ⟨hG, hL, hS, hs, hv, hT, hb, nd, c, hD⟩ := h
  refine ⟨fun q => ?_, fun q => ?_, i_nn (by have := hs.2.2.2.2.1; omega), nd, rsC_dir hD⟩
  · have := hs.1.1
    rw [q] at this
    exact absurd this (by decide)
  · have h1 := hs.2.2.2.1
    have h2 := hv.2.2
    have h3 := hs.2.1
    have h4 := hs.2.2.1
    have e : (r 3 - r 9).toInt = (r 3).toInt - (r 9).toInt := ti_sub (by omega) (by omega)
    rw [q, z0] at e
    omega
/-- the class's sample, again and again -/
def itC (x y : Int32) : Nat → SS → SS
  | 0, S => S
  | k + 1, S => c_X3_take x y (itC x y k S)
theorem it_rel {S : SS} {x y : Int32} {r : Nat → Int32} {B : Int} (h : RS S r B) (hp : rgP x y) (hB : B ≤ 20000) : ∀ k, k ≤ 60000 → RS (itC x y k S) (it x y k r) (B + k) ∧ (it x y k r 21).toInt = (r 21).toInt + k
  | 0, _ => ⟨by
      show RS S r (B + (0 : Nat))
      exact h.mono (by omega), by
      show (r 21).toInt = _
      omega⟩
  | k + 1, hk => by
    obtain ⟨h1, h2⟩ := it_rel h hp hB k (by omega)
    obtain ⟨h3, h4, -⟩ := take_rel h1 (by omega) hp
    refine ⟨h3.mono (by omega), ?_⟩
    show (c_X5_samples_s x y (it x y k r) 21).toInt = _
    omega
theorem it_SH {S : SS} {x y : Int32} {r : Nat → Int32} {B : Int} (h : RS S r B) (hp : rgP x y) (hB : B ≤ 20000) : ∀ j, j ≤ 501 → SH (it x y j r) := fun j hj => RS_SH (it_rel h hp hB j (by omega)).1
