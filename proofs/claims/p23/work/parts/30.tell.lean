/-! the size of a number, and what an axis tells, as whole numbers -/
def ab (n : Int) : Int := if n < 0 then -n else n
theorem ab_c (n : Int) : (n < 0 ∧ ab n = -n) ∨ (0 ≤ n ∧ ab n = n) := by
  unfold ab
  by_cases h : n < 0
  · exact Or.inl ⟨h, if_pos h⟩
  · exact Or.inr ⟨by omega, if_neg h⟩
theorem iabs_ab {a : Int32} (h : -2147483648 < a.toInt) : (iabs a).toInt = ab a.toInt := by
  have hr := ti_rng a
  unfold iabs
  by_cases c : 0 ≤ a
  · have c' := ti_le.mp c
    rw [z0] at c'
    rw [if_pos c]
    rcases ab_c a.toInt with ⟨q, e⟩ | ⟨q, e⟩ <;> omega
  · have c' := mt ti_le.mpr c
    rw [z0] at c'
    rw [if_neg c, ti_sub (by rw [z0]; omega) (by rw [z0]; omega), z0]
    rcases ab_c a.toInt with ⟨q, e⟩ | ⟨q, e⟩ <;> omega
theorem size_ab {a : Int32} (h : -2147483648 < a.toInt) : (r_L_size a).toInt = ab a.toInt := by
  have hr := ti_rng a
  unfold r_L_size
  by_cases c : a < 0
  · have c' := ti_lt.mp c
    rw [z0] at c'
    rw [if_pos c, ← Int32.zero_sub, ti_sub (by rw [z0]; omega) (by rw [z0]; omega), z0]
    rcases ab_c a.toInt with ⟨q, e⟩ | ⟨q, e⟩ <;> omega
  · have c' := nlt_iff.mp c
    rw [z0] at c'
    rw [if_neg c]
    rcases ab_c a.toInt with ⟨q, e⟩ | ⟨q, e⟩ <;> omega
theorem size_iabs {a : Int32} (h : -2147483648 < a.toInt) : r_L_size a = iabs a := ti_eq.mpr ((size_ab h).trans (iabs_ab h).symm)
theorem imax_toInt (a b : Int32) : (imax a b).toInt = if a.toInt < b.toInt then b.toInt else a.toInt := by
  unfold imax
  by_cases c : a < b
  · rw [if_pos c, if_pos (ti_lt.mp c)]
  · rw [if_neg c, if_neg (mt ti_lt.mpr c)]
theorem imin_toInt (a b : Int32) : (imin a b).toInt = if b.toInt < a.toInt then b.toInt else a.toInt := by
  unfold imin
  by_cases c : b < a
  · rw [if_pos c, if_pos (ti_lt.mp c)]
  · rw [if_neg c, if_neg (mt ti_lt.mpr c)]
theorem greater_toInt (a b : Int32) : (r_L_greater a b).toInt = if b.toInt < a.toInt then a.toInt else b.toInt := by
  unfold r_L_greater
  by_cases c : b < a
  · rw [if_pos c, if_pos (ti_lt.mp c)]
  · rw [if_neg c, if_neg (mt ti_lt.mpr c)]
theorem greater_imax (a b : Int32) : r_L_greater a b = imax a b := by
  refine ti_eq.mpr ?_
  rw [greater_toInt, imax_toInt]
  by_cases c : a.toInt < b.toInt
  · rw [if_pos c, if_neg (by omega)]
  · rw [if_neg c]
    by_cases c2 : b.toInt < a.toInt
    · rw [if_pos c2]
    · rw [if_neg c2]
      omega
theorem quot_eq {a b : Int32} (h : 1 ≤ b.toInt) : r_X4_quotient a b = a / b := by
  unfold r_X4_quotient
  rw [if_neg (fun q => by rw [q] at h; exact absurd h (by decide))]
/-- how far an axis leans that is a off, with the zone z and the reach R -/
def lm (a z R : Int) : Int := if a ≤ z then 0 else if 100 < (a - z) * 100 / (R - z) then 100 else (a - z) * 100 / (R - z)
theorem lm_z {a z R : Int} (h : a ≤ z) : lm a z R = 0 := if_pos h
theorem lm_b {a z R : Int} (hz : z < R) : 0 ≤ lm a z R ∧ lm a z R ≤ 100 := by
  unfold lm
  by_cases c : a ≤ z
  · rw [if_pos c]
    omega
  · rw [if_neg c]
    have h : 0 ≤ (a - z) * 100 / (R - z) := Int.ediv_nonneg (by omega) (by omega)
    by_cases c2 : 100 < (a - z) * 100 / (R - z)
    · rw [if_pos c2]
      omega
    · rw [if_neg c2]
      omega
theorem lm_mono {a b z R : Int} (hz : z < R) (h : a ≤ b) : lm a z R ≤ lm b z R := by
  by_cases c : a ≤ z
  · rw [lm_z c]
    exact (lm_b hz).1
  · have hd : (a - z) * 100 / (R - z) ≤ (b - z) * 100 / (R - z) := Int.ediv_le_ediv (by omega) (by omega)
    unfold lm
    rw [if_neg c, if_neg (show ¬ b ≤ z by omega)]
    by_cases c1 : 100 < (a - z) * 100 / (R - z)
    · rw [if_pos c1, if_pos (by omega)]
      omega
    · rw [if_neg c1]
      by_cases c2 : 100 < (b - z) * 100 / (R - z)
      · rw [if_pos c2]
        omega
      · rw [if_neg c2]
        exact hd
/-- with the sign of n -/
def sgn (n m : Int) : Int := if n < 0 then -m else m
theorem sgn_c (n m : Int) : (n < 0 ∧ sgn n m = -m) ∨ (0 ≤ n ∧ sgn n m = m) := by
  unfold sgn
  by_cases h : n < 0
  · exact Or.inl ⟨h, if_pos h⟩
  · exact Or.inr ⟨by omega, if_neg h⟩
theorem sgn_ab {n m : Int} (h : 0 ≤ m) : ab (sgn n m) = m := by
  rcases sgn_c n m with ⟨a, e⟩ | ⟨a, e⟩ <;> rcases ab_c (sgn n m) with ⟨a2, e2⟩ | ⟨a2, e2⟩ <;> omega
theorem lean_spec {off : Int32} {S : SS} (ho : -255 ≤ off.toInt ∧ off.toInt ≤ 255) (hz : 1 ≤ (S.1 9).toInt ∧ (S.1 9).toInt ≤ 50) (hR : 60 ≤ (S.2.1 3).toInt ∧ (S.2.1 3).toInt ≤ 127) : (r_X3_leanOf off S).toInt = sgn off.toInt (lm (ab off.toInt) (S.1 9).toInt (S.2.1 3).toInt) := by
  have hsz := iabs_ab (a := off) (by omega)
  have hs : 0 ≤ ab off.toInt ∧ ab off.toInt ≤ 255 := by
    rcases ab_c off.toInt with ⟨q, e⟩ | ⟨q, e⟩ <;> omega
  have e1 : (iabs off - S.1 9).toInt = ab off.toInt - (S.1 9).toInt := by rw [ti_sub (by omega) (by omega), hsz]
  have e2 : (S.2.1 3 - S.1 9).toInt = (S.2.1 3).toInt - (S.1 9).toInt := ti_sub (by omega) (by omega)
  have e3 : ((iabs off - S.1 9) * 100).toInt = (ab off.toInt - (S.1 9).toInt) * 100 := by
    rw [ti_mul (by rw [z100, e1]; omega) (by rw [z100, e1]; omega), z100, e1]
  unfold r_X3_leanOf
  rw [quot_eq (show 1 ≤ (S.2.1 3 - S.1 9).toInt by omega)]
  by_cases c : 0 < iabs off - S.1 9
  · have c' := lt_iff.mp c
    rw [z0, e1] at c'
    rw [if_pos c]
    have e4 : (((iabs off - S.1 9) * 100) / (S.2.1 3 - S.1 9)).toInt = (ab off.toInt - (S.1 9).toInt) * 100 / ((S.2.1 3).toInt - (S.1 9).toInt) := by
      rw [div_toInt (by rw [e3]; omega), e3, e2, Int.tdiv_eq_ediv_of_nonneg (by omega)]
    have hq : 0 ≤ (ab off.toInt - (S.1 9).toInt) * 100 / ((S.2.1 3).toInt - (S.1 9).toInt) := Int.ediv_nonneg (by omega) (by omega)
    obtain ⟨q, eq⟩ : ∃ q, ((iabs off - S.1 9) * 100) / (S.2.1 3 - S.1 9) = q := ⟨_, rfl⟩
    rw [eq] at e4 ⊢
    have em : (imin 100 q).toInt = lm (ab off.toInt) (S.1 9).toInt (S.2.1 3).toInt := by
      rw [imin_toInt, z100, e4]
      unfold lm
      obtain ⟨E, eE⟩ : ∃ E, (ab off.toInt - (S.1 9).toInt) * 100 / ((S.2.1 3).toInt - (S.1 9).toInt) = E := ⟨_, rfl⟩
      rw [eE, if_neg (show ¬ ab off.toInt ≤ (S.1 9).toInt by omega)]
      by_cases c5 : 100 < E
      · rw [if_pos c5]
        split <;> omega
      · rw [if_neg c5]
        split <;> omega
    have hb := lm_b (a := ab off.toInt) (show (S.1 9).toInt < (S.2.1 3).toInt by omega)
    by_cases cn : off < 0
    · have cn' := lt_iff.mp cn
      rw [z0] at cn'
      rw [if_pos cn, ← Int32.zero_sub, ti_sub (by rw [z0, em]; omega) (by rw [z0, em]; omega), z0, em]
      rcases sgn_c off.toInt (lm (ab off.toInt) (S.1 9).toInt (S.2.1 3).toInt) with ⟨a, e⟩ | ⟨a, e⟩ <;> omega
    · have cn' := nlt_iff.mp cn
      rw [z0] at cn'
      rw [if_neg cn, em]
      rcases sgn_c off.toInt (lm (ab off.toInt) (S.1 9).toInt (S.2.1 3).toInt) with ⟨a, e⟩ | ⟨a, e⟩ <;> omega
  · have c' := nlt_iff.mp c
    rw [z0, e1] at c'
    rw [if_neg c, z0, lm_z (by omega)]
    rcases sgn_c off.toInt 0 with ⟨a, e⟩ | ⟨a, e⟩ <;> omega
/-- what is told of a lean m beside a lean n, with the corner C -/
def tm (m n C : Int) : Int := if C < m + n then m * C / (m + n) else m
theorem tm_0 {n C : Int} : tm 0 n C = 0 := by
  unfold tm
  split
  · rw [Int.zero_mul, Int.zero_ediv]
  · rfl
theorem tm_b {m n C : Int} (hm : 0 ≤ m) (hn : 0 ≤ n) (hC : 0 ≤ C) : 0 ≤ tm m n C ∧ tm m n C ≤ m := by
  unfold tm
  by_cases c : C < m + n
  · rw [if_pos c]
    refine ⟨Int.ediv_nonneg (Int.mul_nonneg hm hC) (by omega), ?_⟩
    refine Int.le_trans (Int.ediv_le_ediv (show (0 : Int) < m + n by omega) (Int.mul_le_mul_of_nonneg_left (show C ≤ m + n by omega) hm)) ?_
    rw [Int.mul_ediv_cancel m (by omega)]
    exact Int.le_refl m
  · rw [if_neg c]
    exact ⟨hm, Int.le_refl m⟩
theorem tm_sum {m n C : Int} (hm : 0 ≤ m) (hn : 0 ≤ n) (hC : 0 ≤ C) : tm m n C + tm n m C ≤ C := by
  unfold tm
  by_cases c : C < m + n
  · rw [if_pos c, if_pos (show C < n + m by omega), Int.add_comm n m]
    have h1 := Int.mul_ediv_self_le (x := m * C) (k := m + n) (by omega)
    have h2 := Int.mul_ediv_self_le (x := n * C) (k := m + n) (by omega)
    refine Int.le_of_mul_le_mul_left (a := m + n) ?_ (by omega)
    rw [Int.mul_add, Int.add_mul m n C]
    omega
  · rw [if_neg c, if_neg (by omega)]
    omega
theorem tm_mono {m n C : Int} (hm : 0 ≤ m) (hC : 0 ≤ C) (h : m ≤ n) : tm m n C ≤ tm n m C := by
  unfold tm
  by_cases c : C < m + n
  · rw [if_pos c, if_pos (show C < n + m by omega), Int.add_comm n m]
    exact Int.ediv_le_ediv (by omega) (Int.mul_le_mul_of_nonneg_right h hC)
  · rw [if_neg c, if_neg (by omega)]
    exact h
theorem cut_spec {l C s : Int32} {o m n : Int} (hl : l.toInt = sgn o m) (hm : 0 ≤ m ∧ m ≤ 100) (hn : 0 ≤ n ∧ n ≤ 100) (hC : 100 ≤ C.toInt ∧ C.toInt ≤ 200) (hs : s.toInt = m + n) (hc : C.toInt < m + n) : (r_X4_quotient (l * C) s).toInt = sgn o (tm m n C.toInt) := by
  rw [quot_eq (by omega)]
  have hmC : 0 ≤ m * C.toInt ∧ m * C.toInt ≤ 100 * 200 := ⟨Int.mul_nonneg hm.1 (by omega), Int.mul_le_mul hm.2 hC.2 (by omega) (by omega)⟩
  unfold tm
  rw [if_pos hc]
  rcases sgn_c o m with ⟨a, e⟩ | ⟨a, e⟩
  · have e1 : l.toInt * C.toInt = -(m * C.toInt) := by rw [hl, e, Int.neg_mul]
    have e2 : (l * C).toInt = -(m * C.toInt) := by rw [ti_mul (by omega) (by omega), e1]
    rw [div_toInt (by omega), e2, hs, Int.neg_tdiv, Int.tdiv_eq_ediv_of_nonneg hmC.1]
    rcases sgn_c o (m * C.toInt / (m + n)) with ⟨a2, e3⟩ | ⟨a2, e3⟩ <;> omega
  · have e1 : l.toInt * C.toInt = m * C.toInt := by rw [hl, e]
    have e2 : (l * C).toInt = m * C.toInt := by rw [ti_mul (by omega) (by omega), e1]
    rw [div_toInt (by omega), e2, hs, Int.tdiv_eq_ediv_of_nonneg hmC.1]
    rcases sgn_c o (m * C.toInt / (m + n)) with ⟨a2, e3⟩ | ⟨a2, e3⟩ <;> omega
def lX (x : Int32) (S : SS) : Int32 := r_X3_leanOf (x - r_X3_restPlaceX S) S
def lY (y : Int32) (S : SS) : Int32 := r_X3_leanOf (y - r_X3_restPlaceY S) S
/-- what is told of an axis ahead of a sample -/
def oA (u v : Int32) (S : SS) : Int32 := if S.2.1 4 < u + v then 1 else 0
def aX (x y : Int32) (S : SS) : Int32 := if S.1 9 < r_X3_farthestOff x y S then (if r_X3_wouldDrift x y S = 0 then (if S.2.1 4 < iabs (lX x S) + iabs (lY y S) then r_X4_quotient (lX x S * S.2.1 4) (iabs (lX x S) + iabs (lY y S)) else lX x S) else 0) else 0
def aY (x y : Int32) (S : SS) : Int32 := if S.1 9 < r_X3_farthestOff x y S then (if r_X3_wouldDrift x y S = 0 then (if S.2.1 4 < iabs (lX x S) + iabs (lY y S) then r_X4_quotient (lY y S * S.2.1 4) (iabs (lX x S) + iabs (lY y S)) else lY y S) else 0) else 0
theorem telling_is (x y : Int32) (S : SS) : r_X3_tellingAt x y S = r_X4_packed (aX x y S) (aY x y S) := by
  unfold r_X3_tellingAt aX aY lX lY
  by_cases c : S.1 9 < r_X3_farthestOff x y S
  · rw [if_pos c, if_pos c, if_pos c]
    by_cases c2 : r_X3_wouldDrift x y S = 0
    · rw [if_pos c2, if_pos c2, if_pos c2]
      split <;> rfl
    · rw [if_neg c2, if_neg c2, if_neg c2]
  · rw [if_neg c, if_neg c, if_neg c]
/-- how far a position is off, and what is in its bounds ahead of a sample -/
def dX (x : Int32) (S : SS) : Int := x.toInt - (S.1 7).toInt / 16
def dY (y : Int32) (S : SS) : Int := y.toInt - (S.1 8).toInt / 16
def rgP (x y : Int32) : Prop := (0 ≤ x.toInt ∧ x.toInt ≤ 255) ∧ (0 ≤ y.toInt ∧ y.toInt ≤ 255)
def rgS (r : Nat → Int32) : Prop := (1 ≤ (r 0).toInt ∧ (r 0).toInt ≤ 64) ∧ (1 ≤ (r 1).toInt ∧ (r 1).toInt ≤ 30) ∧ (0 ≤ (r 2).toInt ∧ (r 2).toInt ≤ 20) ∧ (60 ≤ (r 3).toInt ∧ (r 3).toInt ≤ 127) ∧ (100 ≤ (r 4).toInt ∧ (r 4).toInt ≤ 200) ∧ (2 ≤ (r 5).toInt ∧ (r 5).toInt ≤ 60) ∧ (0 ≤ (r 6).toInt ∧ (r 6).toInt ≤ 20)
def rgV (S : SS) : Prop := (0 ≤ (S.1 7).toInt ∧ (S.1 7).toInt ≤ 4080) ∧ (0 ≤ (S.1 8).toInt ∧ (S.1 8).toInt ≤ 4080) ∧ ((S.2.1 1).toInt ≤ (S.1 9).toInt ∧ (S.1 9).toInt ≤ (S.2.1 1).toInt + (S.2.1 2).toInt)
theorem off_x {x r : Int32} (hx : 0 ≤ x.toInt ∧ x.toInt ≤ 255) (h : 0 ≤ r.toInt ∧ r.toInt ≤ 4080) : (x - r / 16).toInt = x.toInt - r.toInt / 16 ∧ -255 ≤ x.toInt - r.toInt / 16 ∧ x.toInt - r.toInt / 16 ≤ 255 := by
  have h1 : (r / 16).toInt = r.toInt / 16 := by rw [div_toInt (by omega), z16, Int.tdiv_eq_ediv_of_nonneg h.1]
  rw [ti_sub (by omega) (by omega)]
  omega
theorem far_is {x y : Int32} {S : SS} (hp : rgP x y) (hv : rgV S) : (r_X3_farthestOff x y S).toInt = (if ab (dX x S) < ab (dY y S) then ab (dY y S) else ab (dX x S)) ∧ (0 ≤ ab (dX x S) ∧ ab (dX x S) ≤ 255) ∧ (0 ≤ ab (dY y S) ∧ ab (dY y S) ≤ 255) := by
  obtain ⟨a1, a2, a3⟩ := off_x hp.1 hv.1
  obtain ⟨b1, b2, b3⟩ := off_x hp.2 hv.2.1
  have h1 : (iabs (x - r_X3_restPlaceX S)).toInt = ab (dX x S) := by
    show (iabs (x - S.1 7 / 16)).toInt = _
    rw [iabs_ab (by omega), a1]
    rfl
  have h2 : (iabs (y - r_X3_restPlaceY S)).toInt = ab (dY y S) := by
    show (iabs (y - S.1 8 / 16)).toInt = _
    rw [iabs_ab (by omega), b1]
    rfl
  refine ⟨?_, ?_, ?_⟩
  · show (imax (iabs (x - r_X3_restPlaceX S)) (iabs (y - r_X3_restPlaceY S))).toInt = _
    rw [imax_toInt, h1, h2]
  · have : dX x S = x.toInt - (S.1 7).toInt / 16 := rfl
    rcases ab_c (dX x S) with ⟨q, e⟩ | ⟨q, e⟩ <;> omega
  · have : dY y S = y.toInt - (S.1 8).toInt / 16 := rfl
    rcases ab_c (dY y S) with ⟨q, e⟩ | ⟨q, e⟩ <;> omega
/-- what is told of a sample out of the zone that doesn't drift -/
theorem told_spec {x y : Int32} {S : SS} (hp : rgP x y) (hv : rgV S) (hs : rgS S.2.1) (hf : S.1 9 < r_X3_farthestOff x y S) (hd : r_X3_wouldDrift x y S = 0) :
    (aX x y S).toInt = sgn (dX x S) (tm (lm (ab (dX x S)) (S.1 9).toInt (S.2.1 3).toInt) (lm (ab (dY y S)) (S.1 9).toInt (S.2.1 3).toInt) (S.2.1 4).toInt) ∧ (aY x y S).toInt = sgn (dY y S) (tm (lm (ab (dY y S)) (S.1 9).toInt (S.2.1 3).toInt) (lm (ab (dX x S)) (S.1 9).toInt (S.2.1 3).toInt) (S.2.1 4).toInt) := by
  obtain ⟨hs0, hs1, hs2, hs3, hs4, -⟩ := hs
  obtain ⟨hv7, hv8, hv9⟩ := hv
  obtain ⟨a1, a2, a3⟩ := off_x hp.1 hv7
  obtain ⟨b1, b2, b3⟩ := off_x hp.2 hv8
  have hzR : (S.1 9).toInt < (S.2.1 3).toInt := by omega
  have u1 : (lX x S).toInt = sgn (dX x S) (lm (ab (dX x S)) (S.1 9).toInt (S.2.1 3).toInt) := by
    have h := lean_spec (off := x - S.1 7 / 16) (S := S) (by omega) (by omega) hs3
    rw [a1] at h
    exact h
  have v1 : (lY y S).toInt = sgn (dY y S) (lm (ab (dY y S)) (S.1 9).toInt (S.2.1 3).toInt) := by
    have h := lean_spec (off := y - S.1 8 / 16) (S := S) (by omega) (by omega) hs3
    rw [b1] at h
    exact h
  have um := lm_b (a := ab (dX x S)) hzR
  have vm := lm_b (a := ab (dY y S)) hzR
  obtain ⟨m, em⟩ : ∃ m, lm (ab (dX x S)) (S.1 9).toInt (S.2.1 3).toInt = m := ⟨_, rfl⟩
  obtain ⟨n, en⟩ : ∃ n, lm (ab (dY y S)) (S.1 9).toInt (S.2.1 3).toInt = n := ⟨_, rfl⟩
  rw [em] at u1 um ⊢
  rw [en] at v1 vm ⊢
  have ui : (iabs (lX x S)).toInt = m := by
    rw [iabs_ab (by rcases sgn_c (dX x S) m with ⟨q, e⟩ | ⟨q, e⟩ <;> omega), u1, sgn_ab um.1]
  have vi : (iabs (lY y S)).toInt = n := by
    rw [iabs_ab (by rcases sgn_c (dY y S) n with ⟨q, e⟩ | ⟨q, e⟩ <;> omega), v1, sgn_ab vm.1]
  have es : (iabs (lX x S) + iabs (lY y S)).toInt = m + n := by rw [ti_add (by omega) (by omega), ui, vi]
  unfold aX aY
  rw [if_pos hf, if_pos hf, if_pos hd, if_pos hd]
  by_cases c : S.2.1 4 < iabs (lX x S) + iabs (lY y S)
  · have c' := lt_iff.mp c
    rw [es] at c'
    rw [if_pos c, if_pos c]
    exact ⟨cut_spec u1 um vm hs4 es c', cut_spec v1 vm um hs4 (by rw [es]; omega) (by omega)⟩
  · have c' := nlt_iff.mp c
    rw [es] at c'
    rw [if_neg c, if_neg c, u1, v1]
    unfold tm
    rw [if_neg (by omega), if_neg (by omega)]
    exact ⟨rfl, rfl⟩
theorem told_0 {x y : Int32} {S : SS} (h : ¬ S.1 9 < r_X3_farthestOff x y S ∨ ¬ r_X3_wouldDrift x y S = 0) : aX x y S = 0 ∧ aY x y S = 0 := by
  unfold aX aY
  by_cases c : S.1 9 < r_X3_farthestOff x y S
  · rw [if_pos c, if_pos c]
    rcases h with h | h
    · exact absurd c h
    · rw [if_neg h, if_neg h]
      exact ⟨rfl, rfl⟩
  · rw [if_neg c, if_neg c]
    exact ⟨rfl, rfl⟩
/-- both axes, in their bounds and in the corner -/
theorem told_b {x y : Int32} {S : SS} (hp : rgP x y) (hv : rgV S) (hs : rgS S.2.1) : (-100 ≤ (aX x y S).toInt ∧ (aX x y S).toInt ≤ 100) ∧ (-100 ≤ (aY x y S).toInt ∧ (aY x y S).toInt ≤ 100) ∧ ab (aX x y S).toInt + ab (aY x y S).toInt ≤ (S.2.1 4).toInt := by
  have hs4 := hs.2.2.2.2.1
  by_cases hf : S.1 9 < r_X3_farthestOff x y S
  · by_cases hd : r_X3_wouldDrift x y S = 0
    · obtain ⟨h1, h2⟩ := told_spec hp hv hs hf hd
      have hzR : (S.1 9).toInt < (S.2.1 3).toInt := by
        have := hv.2.2
        have := hs.2.1
        have := hs.2.2.1
        have := hs.2.2.2.1
        omega
      have um := lm_b (a := ab (dX x S)) hzR
      have vm := lm_b (a := ab (dY y S)) hzR
      have t1 := tm_b um.1 vm.1 (show 0 ≤ (S.2.1 4).toInt by omega)
      have t2 := tm_b vm.1 um.1 (show 0 ≤ (S.2.1 4).toInt by omega)
      have t3 := tm_sum um.1 vm.1 (show 0 ≤ (S.2.1 4).toInt by omega)
      rw [h1, h2, sgn_ab t1.1, sgn_ab t2.1]
      refine ⟨?_, ?_, t3⟩
      · rcases sgn_c (dX x S) (tm (lm (ab (dX x S)) (S.1 9).toInt (S.2.1 3).toInt) (lm (ab (dY y S)) (S.1 9).toInt (S.2.1 3).toInt) (S.2.1 4).toInt) with ⟨q, e⟩ | ⟨q, e⟩ <;> omega
      · rcases sgn_c (dY y S) (tm (lm (ab (dY y S)) (S.1 9).toInt (S.2.1 3).toInt) (lm (ab (dX x S)) (S.1 9).toInt (S.2.1 3).toInt) (S.2.1 4).toInt) with ⟨q, e⟩ | ⟨q, e⟩ <;> omega
    · obtain ⟨h1, h2⟩ := told_0 (Or.inr hd)
      rw [h1, h2, z0]
      exact ⟨by decide, by decide, by have : ab 0 = 0 := rfl; omega⟩
  · obtain ⟨h1, h2⟩ := told_0 (y := y) (Or.inl hf)
    rw [h1, h2, z0]
    exact ⟨by decide, by decide, by have : ab 0 = 0 := rfl; omega⟩
