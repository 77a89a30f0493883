/-! the reader of the pad, beside the reference's -/
def TR (t pd : Nat → Int32) (ln : Int32) : Prop := 0 ≤ ln.toInt ∧ ln.toInt ≤ 80 ∧ chT t ∧ ∀ j : Nat, (j : Int) < ln.toInt → t j = pd j ∧ 33 ≤ (pd j).toInt ∧ (pd j).toInt ≤ 126
def AT (h : Nat → Int32) (ln : Int32) (p : Nat) : Prop := h 0 = ln ∧ h 1 = nI p
theorem z48 : (48 : Int32).toInt = 48 := rfl
theorem z57 : (57 : Int32).toInt = 57 := rfl
theorem z80 : (80 : Int32).toInt = 80 := rfl
theorem z3 : (3 : Int32).toInt = 3 := rfl
theorem z10 : (10 : Int32).toInt = 10 := rfl
theorem nx_sg {t pd h : Nat → Int32} {ln : Int32} {p : Nat} (hT : TR t pd ln) (hh : AT h ln p) (hp : p < 1000) :
    ((p : Int) < ln.toInt ∧ r_X2_next h t = pd p ∧ r_X5_signAt (nI p) pd ln = pd p ∧ 33 ≤ (pd p).toInt ∧ (pd p).toInt ≤ 126) ∨ (¬ (p : Int) < ln.toInt ∧ r_X2_next h t = 0 ∧ r_X5_signAt (nI p) pd ln = -1) := by
  obtain ⟨h0, h1⟩ := hh
  obtain ⟨l0, l80, -, hc⟩ := hT
  unfold r_X2_next r_X5_signAt
  rw [h0, h1, if_neg (nI_pos (by omega)), nI_clamp (by omega)]
  by_cases c : (p : Int) < ln.toInt
  · have c' : nI p < ln := lt_iff.mpr (by rw [nI_toInt (by omega)]; exact c)
    obtain ⟨q1, q2, q3⟩ := hc p c
    rw [if_pos c', if_pos (show nI p < 80 from nI_lt (b := 80) (by omega) (by omega)), if_pos c']
    exact Or.inl ⟨c, q1, rfl, q2, q3⟩
  · have c' : ¬ nI p < ln := nlt_iff.mpr (by rw [nI_toInt (by omega)]; omega)
    rw [if_neg c', if_neg c']
    exact Or.inr ⟨c, rfl, rfl⟩
theorem nx_c {t pd h : Nat → Int32} {ln : Int32} {p : Nat} (hT : TR t pd ln) (hh : AT h ln p) (hp : p < 1000) {c : Int32} (hc : 33 ≤ c.toInt) : r_X2_next h t = c ↔ r_X5_signAt (nI p) pd ln = c := by
  rcases nx_sg hT hh hp with ⟨-, q1, q2, -⟩ | ⟨-, q1, q2⟩
  · rw [q1, q2]
  · rw [q1, q2]
    constructor
    · intro e
      rw [← e] at hc
      exact absurd hc (by decide)
    · intro e
      rw [← e] at hc
      exact absurd hc (by decide)
theorem sg_lt' {t pd h : Nat → Int32} {ln : Int32} {p : Nat} (hT : TR t pd ln) (hp : p < 1000) {c : Int32} (hc : 33 ≤ c.toInt) (e : r_X5_signAt (nI p) pd ln = c) : (p : Int) < ln.toInt := by
  rcases nx_sg (h := fun k => if k = 0 then ln else nI p) hT ⟨rfl, rfl⟩ hp with ⟨q, -⟩ | ⟨-, -, q2⟩
  · exact q
  · rw [q2] at e
    rw [← e] at hc
    exact absurd hc (by decide)
theorem dg_c {t pd h : Nat → Int32} {ln : Int32} {p : Nat} (hT : TR t pd ln) (hh : AT h ln p) (hp : p < 1000) :
    (r_X5_digit (nI p) pd ln < 0 ∧ r_X2_readDigit h t = -6 ∧ c_X2_readDigit_h h t = h) ∨ (∃ v, r_X5_digit (nI p) pd ln = v ∧ 0 ≤ v.toInt ∧ v.toInt ≤ 9 ∧ r_X2_readDigit h t = v ∧ c_X2_readDigit_h h t = upd h 1 (nI (p + 1)) ∧ (p : Int) < ln.toInt) := by
  have e1 : h 1 + 1 = nI (p + 1) := by rw [hh.2, nI_1]
  unfold r_X5_digit r_X2_readDigit c_X2_readDigit_h
  rw [e1]
  rcases nx_sg hT hh hp with ⟨q, q1, q2, q3, q4⟩ | ⟨q, q1, q2⟩
  · rw [q1, q2]
    unfold r_X5_in
    by_cases a : pd p < 48
    · left
      rw [if_pos a, if_pos a, if_pos a, if_pos rfl]
      exact ⟨by decide, rfl, rfl⟩
    · by_cases b : 57 < pd p
      · left
        rw [if_neg a, if_neg a, if_neg a, if_pos b, if_pos b, if_pos b, if_pos rfl]
        exact ⟨by decide, rfl, rfl⟩
      · right
        have a' := nlt_iff.mp a
        have b' := nlt_iff.mp b
        rw [z48] at a'
        rw [z57] at b'
        rw [if_neg a, if_neg a, if_neg a, if_neg b, if_neg b, if_neg b, if_neg n10]
        have e : (pd p - 48).toInt = (pd p).toInt - 48 := by rw [ti_sub (by rw [z48]; omega) (by rw [z48]; omega), z48]
        exact ⟨pd p - 48, rfl, by omega, by omega, rfl, rfl, q⟩
  · left
    rw [q1, q2]
    exact ⟨by decide, rfl, rfl⟩
theorem nE_s (pl : Int32) (pd : Nat → Int32) (ln : Int32) (n : Nat) (e : Int32) : r_X5_numberEnd_at22 pl pd ln (n + 1) e = if 0 < r_X5_digit pl pd ln then (if e < pl + 3 then (if r_X5_digit e pd ln < 0 then e else r_X5_numberEnd_at22 pl pd ln n (e + 1)) else e) else e := rfl
theorem nA_s (pl : Int32) (pd : Nat → Int32) (ln : Int32) (n : Nat) (v e : Int32) : r_X5_numberAt_at4 pl pd ln (n + 1) v e = if e < r_X5_numberEnd pl pd ln then r_X5_numberAt_at4 pl pd ln n (10 * v + r_X5_digit e pd ln) (e + 1) else v := rfl
theorem rN_s (h t : Nat → Int32) (n : Nat) (w : Int32) (k : Nat) (h1 : Nat → Int32) : r_X2_readNumber_at13 h t (n + 1) w k h1 = (if nI k < 3 then (if r_X2_readDigit h1 t < 0 then w else r_X2_readNumber_at13 h t n (10 * w + r_X2_readDigit h1 t) (k + 1) (c_X2_readDigit_h h1 t)) else w) ∧ c_X2_readNumber_h_at13 h t (n + 1) w k h1 = (if nI k < 3 then (if r_X2_readDigit h1 t < 0 then c_X2_readDigit_h h1 t else c_X2_readNumber_h_at13 h t n (10 * w + r_X2_readDigit h1 t) (k + 1) (c_X2_readDigit_h h1 t)) else h1) := ⟨rfl, rfl⟩
theorem ten {w d : Int32} (hw : 0 ≤ w.toInt ∧ w.toInt ≤ 99) (hd : 0 ≤ d.toInt ∧ d.toInt ≤ 9) : (10 * w + d).toInt = 10 * w.toInt + d.toInt := by
  have e : (10 * w).toInt = 10 * w.toInt := by rw [ti_mul (by rw [z10]; omega) (by rw [z10]; omega), z10]
  rw [ti_add (by omega) (by omega), e]
theorem d12 : (nI 1 : Int32) < 3 ∧ (nI 2 : Int32) < 3 ∧ ¬ (nI 3 : Int32) < 3 := by decide
theorem upd_upd1 {h : Nat → Int32} {a b : Int32} : upd (upd h 1 a) 1 b = upd h 1 b := by
  funext k
  by_cases c : k = 1
  · rw [c, upd_eq, upd_eq]
  · rw [upd_lo c, upd_lo c, upd_lo c]
theorem AT_upd {h : Nat → Int32} {ln : Int32} {p q : Nat} (hh : AT h ln p) : AT (upd h 1 (nI q)) ln q := ⟨(upd_lo (by decide)).trans hh.1, upd_eq⟩
/-- a number at a place: none, or so long and so large -/
theorem num_c {t pd h : Nat → Int32} {ln : Int32} {p : Nat} (hT : TR t pd ln) (hh : AT h ln p) (hp : p < 900) :
    (r_X5_numberEnd (nI p) pd ln = -1 - nI p ∧ r_X2_readNumber h t = -6 ∧ c_X2_readNumber_h h t = h) ∨ (∃ e v, r_X5_numberEnd (nI p) pd ln = nI e ∧ r_X5_numberAt (nI p) pd ln = v ∧ 0 ≤ v.toInt ∧ v.toInt ≤ 999 ∧ p < e ∧ (e : Int) ≤ ln.toInt ∧ r_X2_readNumber h t = v ∧ c_X2_readNumber_h h t = upd h 1 (nI e)) := by
  have hl := hT.2.1
  have e0 : ¬ nI p < 0 := nI_pos (by omega)
  have p1 : nI p + 1 = nI (p + 1) := nI_1 p
  have p2 : nI (p + 1) + 1 = nI (p + 2) := nI_1 _
  have p3 : nI (p + 2) + 1 = nI (p + 3) := nI_1 _
  have p3' : nI p + 3 = nI (p + 3) := nI_add p 3
  have lt : ∀ a b : Nat, a < 2000 → b < 2000 → (nI a < nI b ↔ a < b) := fun a b ha hb => nI_ltI (by omega) (by omega)
  have v0 : ∀ v : Int32, 10 * 0 + v = v := fun v => by rw [Int32.mul_zero, Int32.zero_add]
  unfold r_X5_numberAt r_X2_readNumber c_X2_readNumber_h
  rcases dg_c hT hh (by omega) with ⟨q1, q2, q3⟩ | ⟨v, q1, q2, q3, q4, q5, q6⟩
  · left
    unfold r_X5_numberEnd
    rw [if_neg e0, if_pos q1, q2, q3]
    exact ⟨rfl, rfl, rfl⟩
  · right
    have qn : ¬ r_X5_digit (nI p) pd ln < 0 := by rw [q1]; exact i_nn q2
    have hE : r_X5_numberEnd (nI p) pd ln = r_X5_numberEnd_at22 (nI p) pd ln 3 (nI (p + 1)) := by
      unfold r_X5_numberEnd
      rw [if_neg e0, if_neg qn, p1]
    have hA : ∀ n w k, r_X5_numberAt_at4 (nI p) pd ln (n + 1) w (nI k) = if nI k < r_X5_numberEnd (nI p) pd ln then r_X5_numberAt_at4 (nI p) pd ln n (10 * w + r_X5_digit (nI k) pd ln) (nI (k + 1)) else w := fun n w k => by rw [nA_s, nI_1]
    rw [q4, q5]
    by_cases z : 0 < v
    · have z' := lt_iff.mp z
      rw [z0] at z'
      have hh1 : AT (upd h 1 (nI (p + 1))) ln (p + 1) := AT_upd hh
      rw [if_pos z, if_pos z, (rN_s h t 3 v 1 _).1, (rN_s h t 3 v 1 _).2, if_pos d12.1, if_pos d12.1]
      rcases dg_c hT hh1 (by omega) with ⟨r1, r2, r3⟩ | ⟨w, r1, r2, r3, r4, r5, r6⟩
      · have eE : r_X5_numberEnd (nI p) pd ln = nI (p + 1) := by
          rw [hE, nE_s, q1, if_pos z, p3', if_pos ((lt _ _ (by omega) (by omega)).mpr (by omega)), if_pos r1]
        rw [r2, if_pos (by decide), if_pos (by decide), r3]
        refine ⟨p + 1, v, eE, ?_, q2, by omega, by omega, by omega, rfl, rfl⟩
        rw [hA, eE, if_pos ((lt _ _ (by omega) (by omega)).mpr (by omega)), q1, v0, hA, eE, if_neg (fun q => absurd ((lt _ _ (by omega) (by omega)).mp q) (by omega))]
      · have rn : ¬ r_X5_digit (nI (p + 1)) pd ln < 0 := by rw [r1]; exact i_nn r2
        have hh2 : AT (upd h 1 (nI (p + 2))) ln (p + 2) := AT_upd hh
        have tw := ten (w := v) (d := w) ⟨q2, by omega⟩ ⟨r2, r3⟩
        have wn : ¬ w < 0 := i_nn r2
        rw [r4, if_neg wn, if_neg wn, r5, upd_upd1, (rN_s h t 2 _ 2 _).1, (rN_s h t 2 _ 2 _).2, if_pos d12.2.1, if_pos d12.2.1]
        rcases dg_c hT hh2 (by omega) with ⟨s1, s2, s3⟩ | ⟨x, s1, s2, s3, s4, s5, s6⟩
        · have eE : r_X5_numberEnd (nI p) pd ln = nI (p + 2) := by
            rw [hE, nE_s, q1, if_pos z, p3', if_pos ((lt _ _ (by omega) (by omega)).mpr (by omega)), if_neg rn, p2, nE_s, q1, if_pos z, p3', if_pos ((lt _ _ (by omega) (by omega)).mpr (by omega)), if_pos s1]
          rw [s2, if_pos (by decide), if_pos (by decide), s3]
          refine ⟨p + 2, 10 * v + w, eE, ?_, by omega, by omega, by omega, by omega, rfl, rfl⟩
          rw [hA, eE, if_pos ((lt _ _ (by omega) (by omega)).mpr (by omega)), q1, v0, hA, eE, if_pos ((lt _ _ (by omega) (by omega)).mpr (by omega)), r1, hA, eE, if_neg (fun q => absurd ((lt _ _ (by omega) (by omega)).mp q) (by omega))]
        · have sn : ¬ r_X5_digit (nI (p + 2)) pd ln < 0 := by rw [s1]; exact i_nn s2
          have tx := ten (w := 10 * v + w) (d := x) ⟨by omega, by omega⟩ ⟨s2, s3⟩
          have xn : ¬ x < 0 := i_nn s2
          have eE : r_X5_numberEnd (nI p) pd ln = nI (p + 3) := by
            rw [hE, nE_s, q1, if_pos z, p3', if_pos ((lt _ _ (by omega) (by omega)).mpr (by omega)), if_neg rn, p2, nE_s, q1, if_pos z, p3', if_pos ((lt _ _ (by omega) (by omega)).mpr (by omega)), if_neg sn, p3, nE_s, q1, if_pos z, p3', if_neg (fun q => absurd ((lt _ _ (by omega) (by omega)).mp q) (by omega))]
          rw [s4, if_neg xn, if_neg xn, s5, upd_upd1, (rN_s h t 1 _ 3 _).1, (rN_s h t 1 _ 3 _).2, if_neg d12.2.2, if_neg d12.2.2]
          refine ⟨p + 3, 10 * (10 * v + w) + x, eE, ?_, by omega, by omega, by omega, by omega, rfl, rfl⟩
          rw [hA, eE, if_pos ((lt _ _ (by omega) (by omega)).mpr (by omega)), q1, v0, hA, eE, if_pos ((lt _ _ (by omega) (by omega)).mpr (by omega)), r1, hA, eE, if_pos ((lt _ _ (by omega) (by omega)).mpr (by omega)), s1]
          show r_X5_numberAt_at4 (nI p) pd ln (0 + 1) (10 * (10 * v + w) + x) (nI (p + 3)) = _
          rw [hA, eE, if_neg (fun q => absurd ((lt _ _ (by omega) (by omega)).mp q) (by omega))]
    · have z' := nlt_iff.mp z
      rw [z0] at z'
      have eE : r_X5_numberEnd (nI p) pd ln = nI (p + 1) := by
        rw [hE, nE_s, q1, if_neg z]
      rw [if_neg z, if_neg z]
      refine ⟨p + 1, v, eE, ?_, q2, by omega, by omega, by omega, rfl, rfl⟩
      rw [hA, eE, if_pos ((lt _ _ (by omega) (by omega)).mpr (by omega)), q1, v0, hA, eE, if_neg (fun q => absurd ((lt _ _ (by omega) (by omega)).mp q) (by omega))]
