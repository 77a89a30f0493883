/-! the calls that change the stick, beside the reference's -/
theorem isS_eq (x y : Int32) : r_X4_isSample x y = r_X5_areRight x y := by
  unfold r_X4_isSample r_X5_areRight r_X5_in
  by_cases a : x < 0
  · rw [if_pos a, if_pos a, if_pos rfl]
  · rw [if_neg a, if_neg a]
    by_cases b : 255 < x
    · rw [if_pos b, if_pos b, if_pos rfl]
    · rw [if_neg b, if_neg b, if_neg (show ¬ (1 : Int32) = 0 by decide)]
      by_cases c : y < 0
      · rw [if_pos c, if_pos rfl]
      · rw [if_neg c]
        by_cases e : 255 < y
        · rw [if_pos e, if_pos rfl]
        · rw [if_neg e, if_neg (show ¬ (1 : Int32) = 0 by decide)]
theorem z255 : (255 : Int32).toInt = 255 := rfl
theorem z9999 : (9999 : Int32).toInt = 9999 := rfl
theorem right_P {x y : Int32} (h : ¬ r_X5_areRight x y = 0) : rgP x y := by
  rw [← isS_eq] at h
  unfold r_X4_isSample at h
  by_cases a : x < 0
  · rw [if_pos a] at h
    exact absurd rfl h
  · rw [if_neg a] at h
    by_cases b : 255 < x
    · rw [if_pos b] at h
      exact absurd rfl h
    · rw [if_neg b] at h
      by_cases c : y < 0
      · rw [if_pos c] at h
        exact absurd rfl h
      · rw [if_neg c] at h
        by_cases e : 255 < y
        · rw [if_pos e] at h
          exact absurd rfl h
        · have a' := nlt_iff.mp a
          have b' := nlt_iff.mp b
          have c' := nlt_iff.mp c
          have e' := nlt_iff.mp e
          rw [z0] at a' c'
          rw [z255] at b' e'
          exact ⟨⟨a', b'⟩, c', e'⟩
theorem RS.tight {S : SS} {r : Nat → Int32} {B B' : Int} (h : RS S r B) (hb : (r 21).toInt ≤ B') : RS S r B' := by
  obtain ⟨h1, h2, h3, h4, h5, h6, h7, h8⟩ := h
  exact ⟨h1, h2, h3, h4, h5, h6, ⟨h7.1, hb, h7.2.2⟩, h8⟩
theorem rsC_congr61 {D : DD} {r r' : Nat → Int32} {nd : Nat} {B : Int} {c : Nat → Nat} (h : rsC D r nd B c) (e : ∀ k, 22 ≤ k → k < 61 → r' k = r k) : rsC D r' nd B c := by
  obtain ⟨h1, h2, h3, h4, h5, h6, h7, h8⟩ := h
  refine ⟨h1, by rw [e 22 (by decide) (by decide)]; exact h2, h3, fun k hk => ?_, h5, h6, ?_, by rw [e 24 (by decide) (by decide)]; exact h8⟩
  · rw [e _ (by omega) (by omega), e _ (by omega) (by omega), e _ (by omega) (by omega), e _ (by omega) (by omega)]
    exact h4 k hk
  · rw [e 23 (by decide) (by decide)]
    exact h7
theorem RS_congr {S : SS} {r r' : Nat → Int32} {B : Int} (h : RS S r B) (e : ∀ k, k < 61 → r' k = r k) : RS S r' B := by
  obtain ⟨h1, h2, h3, h4, h5, h6, h7, nd, c, h8⟩ := h
  refine ⟨fun k hk => (h1 k hk).trans (e k (by omega)).symm, ?_, fun k hk => (h3 k hk).trans (e k (by omega)).symm, rgS_of h4 (fun k hk => e k (by omega)), rgV_of h5 (fun k hk => e k (by omega)), ?_, ?_, nd, c, ?_⟩
  · unfold rsL
    rw [e 21 (by decide), e 10 (by decide), e 11 (by decide)]
    exact h2
  · unfold rgT
    rw [e 14 (by decide), e 15 (by decide)]
    exact h6
  · rw [e 21 (by decide), e 17 (by decide)]
    exact h7
  · rw [e 21 (by decide)]
    exact rsC_congr61 h8 (fun k _ hk => e k hk)
/-- what undo brings back -/
def HR (y : HS) (past : Nat → Int32) (kk : Nat) : Prop := y.1 < 6 ∧ y.2.1 = kk ∧ kk ≤ 6 ∧ ∀ i, i < kk → ∃ U, y.2.2 ((y.1 + i) % 6) = some U ∧ RS U (fun j => past (61 * i + j)) 9999
theorem keep_rel {S : SS} {r : Nat → Int32} {y : HS} {past : Nat → Int32} {kk : Nat} (h : RS S r 9999) (hy : HR y past kk) : HR (c_X1_keep_y y S) (pastK r past kk) (kn1 kk) := by
  obtain ⟨o, n, hs⟩ := y
  obtain ⟨h1, h2, h3, h4⟩ := hy
  replace h1 : o < 6 := h1
  replace h2 : n = kk := h2
  subst h2
  replace h4 : ∀ i, i < n → ∃ U, hs ((o + i) % 6) = some U ∧ RS U (fun j => past (61 * i + j)) 9999 := h4
  show HR (keepY o n hs S) (pastK r past n) (kn1 n)
  unfold keepY kn1
  by_cases c : n < 6
  · rw [if_pos c, if_neg (by omega)]
    refine ⟨h1, rfl, by omega, fun i hi => ?_⟩
    by_cases e : i = n
    · subst e
      refine ⟨S, if_pos rfl, RS_congr h (fun k hk => ?_)⟩
      show pastK r past i (61 * i + k) = r k
      unfold pastK
      rw [if_neg (by omega), if_pos (by omega)]
      congr 1
      omega
    · obtain ⟨U, q1, q2⟩ := h4 i (by omega)
      refine ⟨U, (if_neg (by omega)).trans q1, RS_congr q2 (fun k hk => ?_)⟩
      show pastK r past n (61 * i + k) = past (61 * i + k)
      unfold pastK
      rw [if_neg (by omega), if_neg (by omega)]
  · have e6 : n = 6 := by omega
    subst e6
    rw [if_neg c, if_pos rfl]
    refine ⟨Nat.mod_lt _ (by omega), rfl, by omega, fun i hi => ?_⟩
    by_cases e : i = 5
    · subst e
      refine ⟨S, if_pos (by show ((o + 1) % 6 + 5) % 6 = (o + 6) % 6; omega), RS_congr h (fun k hk => ?_)⟩
      show pastK r past 6 (61 * 5 + k) = r k
      unfold pastK
      rw [if_pos rfl, if_neg (by omega), if_pos (by omega)]
      exact congrArg r (show 61 * 5 + k - 305 = k by omega)
    · obtain ⟨U, q1, q2⟩ := h4 (i + 1) (by omega)
      refine ⟨U, (if_neg (by show ¬ ((o + 1) % 6 + i) % 6 = (o + 6) % 6; omega)).trans ?_, RS_congr q2 (fun k hk => ?_)⟩
      · rw [← q1]
        exact congrArg hs (show ((o + 1) % 6 + i) % 6 = (o + (i + 1)) % 6 by omega)
      · show pastK r past 6 (61 * i + k) = past (61 * (i + 1) + k)
        unfold pastK
        rw [if_pos rfl, if_pos (by omega)]
        congr 1
        omega
/-- one cell that is free to change -/
theorem RS_put {S : SS} {r : Nat → Int32} {B : Int} (h : RS S r B) (i : Nat) (v : Int32) (hi : i = 7 ∨ i = 8 ∨ i = 9 ∨ i = 12 ∨ i = 13 ∨ i = 18) (hV : rgV (upd r i v)) : RS (upd S.1 i v, S.2) (upd r i v) B := by
  obtain ⟨h1, h2, h3, h4, h5, h6, h7, nd, c, h8⟩ := h
  have lo : ∀ k, k ≠ i → upd r i v k = r k := fun k hk => upd_lo hk
  refine ⟨fun k hk => ?_, ?_, fun k hk => (h3 k hk).trans (lo k (by omega)).symm, rgS_of h4 (fun k hk => lo k (by omega)), hV, ?_, ?_, nd, c, ?_⟩
  · show upd S.1 i v k = upd r i v k
    by_cases c : k = i
    · rw [c, upd_eq, upd_eq]
    · rw [upd_lo c, upd_lo c]
      exact h1 k hk
  · show rsL (upd S.1 i v) (upd r i v)
    unfold rsL
    rw [lo 21 (by omega), lo 10 (by omega), lo 11 (by omega), upd_lo (r := S.1) (k := 10) (by omega), upd_lo (r := S.1) (k := 11) (by omega)]
    exact h2
  · unfold rgT
    rw [lo 14 (by omega), lo 15 (by omega)]
    exact h6
  · rw [lo 21 (by omega), lo 17 (by omega)]
    exact h7
  · rw [lo 21 (by omega)]
    exact rsC_congr h8 (fun k hk => lo k (by omega))
theorem RS_put' {S : SS} {r : Nat → Int32} {B : Int} (h : RS S r B) (i : Nat) (v : Int32) (hi : i = 12 ∨ i = 13 ∨ i = 18) : RS (upd S.1 i v, S.2) (upd r i v) B :=
  RS_put h i v (by omega) (rgV_of h.2.2.2.2.1 (fun k hk => upd_lo (by omega)))
/-! set -/
theorem set_tab : ∀ k, k < 7 → tabL k = r_X5_lowOf (nI k) ∧ tabM k = r_X5_highOf (nI k) := by decide +kernel
theorem rgS_iff (r : Nat → Int32) : rgS r ↔ ∀ i, i < 7 → (tabL i).toInt ≤ (r i).toInt ∧ (r i).toInt ≤ (tabM i).toInt := by
  constructor
  · intro h i hi
    obtain ⟨a0, a1, a2, a3, a4, a5, a6⟩ := h
    match i, hi with
    | 0, _ => exact a0
    | 1, _ => exact a1
    | 2, _ => exact a2
    | 3, _ => exact a3
    | 4, _ => exact a4
    | 5, _ => exact a5
    | 6, _ => exact a6
    | _ + 7, h => exact absurd h (by omega)
  · intro h
    exact ⟨h 0 (by decide), h 1 (by decide), h 2 (by decide), h 3 (by decide), h 4 (by decide), h 5 (by decide), h 6 (by decide)⟩
theorem set_RS {S : SS} {r r' : Nat → Int32} {B : Int} (h : RS S r B) (k : Nat) (v : Int32) (hk : k < 7) (hv : (tabL k).toInt ≤ v.toInt ∧ v.toInt ≤ (tabM k).toInt) (g' : Nat → Int32)
    (hr : (k = 1 ∨ k = 2) ∧ g' = upd S.1 9 (upd S.2.1 k v 1) ∧ r' = upd (upd r k v) 9 (upd r k v 1) ∨ (k ≠ 1 ∧ k ≠ 2) ∧ g' = S.1 ∧ r' = upd r k v) : RS (g', upd S.2.1 k v, S.2.2) r' B := by
  obtain ⟨h1, h2, h3, h4, h5, h6, h7, nd, c, h8⟩ := h
  have lo : ∀ j, 7 ≤ j → j ≠ 9 → r' j = r j := fun j h7 h9 => by
    rcases hr with ⟨-, -, e⟩ | ⟨-, -, e⟩
    · rw [e, upd_lo h9, upd_lo (by omega)]
    · rw [e, upd_lo (by omega)]
  have se : ∀ j, j < 7 → r' j = upd r k v j := fun j hj => by
    rcases hr with ⟨-, -, e⟩ | ⟨-, -, e⟩
    · rw [e, upd_lo (by omega)]
    · rw [e]
  have gl : ∀ j, j ≠ 9 → g' j = S.1 j := fun j hj => by
    rcases hr with ⟨-, e, -⟩ | ⟨-, e, -⟩
    · rw [e, upd_lo hj]
    · rw [e]
  have su : ∀ j, j < 7 → upd S.2.1 k v j = upd r k v j := fun j hj => by
    by_cases e : j = k
    · rw [e, upd_eq, upd_eq]
    · rw [upd_lo e, upd_lo e]
      exact h3 j hj
  have g9 : g' 9 = r' 9 := by
    rcases hr with ⟨-, e, e2⟩ | ⟨-, e, e2⟩
    · rw [e, e2, upd_eq, upd_eq]
      exact su 1 (by decide)
    · rw [e, e2, upd_lo (by omega)]
      exact h1 9 (by omega)
  have hS : rgS r' := by
    refine (rgS_iff r').mpr (fun i hi => ?_)
    rw [se i hi]
    by_cases e : i = k
    · rw [e, upd_eq]
      exact hv
    · rw [upd_lo e]
      exact (rgS_iff r).mp h4 i hi
  have hV9 : (r' 1).toInt ≤ (r' 9).toInt ∧ (r' 9).toInt ≤ (r' 1).toInt + (r' 2).toInt := by
    rcases hr with ⟨-, -, e⟩ | ⟨ne, -, e⟩
    · have e9 : r' 9 = r' 1 := by
        rw [e]
        exact upd_eq.trans (upd_lo (by decide)).symm
      have := hS.2.2.1
      rw [e9]
      omega
    · rw [e, upd_lo (by omega), upd_lo (by omega), upd_lo (by omega)]
      exact h5.2.2
  refine ⟨fun j hj => ?_, ?_, fun j hj => (su j hj).trans (se j hj).symm, hS, ?_, ?_, ?_, nd, c, ?_⟩
  · by_cases e : j = 9
    · rw [e]
      exact g9
    · show g' j = r' j
      rw [gl j e, lo j (by omega) e]
      exact h1 j hj
  · show rsL g' r'
    unfold rsL
    rw [lo 21 (by decide) (by decide), lo 10 (by decide) (by decide), lo 11 (by decide) (by decide), gl 10 (by decide), gl 11 (by decide)]
    exact h2
  · refine ⟨?_, ?_, hV9⟩
    · rw [lo 7 (by decide) (by decide)]
      exact h5.1
    · rw [lo 8 (by decide) (by decide)]
      exact h5.2.1
  · unfold rgT
    rw [lo 14 (by decide) (by decide), lo 15 (by decide) (by decide)]
    exact h6
  · rw [lo 21 (by decide) (by decide), lo 17 (by decide) (by decide)]
    exact h7
  · rw [lo 21 (by decide) (by decide)]
    exact rsC_congr h8 (fun k hk => lo k (by omega) (by omega))
/-- stick and history -/
def W1 (S : SS) (y : HS) (r past : Nat → Int32) (kk : Nat) : Prop := RS S r 9999 ∧ HR y past kk
theorem z7 : (7 : Int32).toInt = 7 := rfl
theorem z6 : (6 : Int32).toInt = 6 := rfl
theorem set_sim {S : SS} {y : HS} {r past : Nat → Int32} {kk : Nat} (h : W1 S y r past kk) (setting value : Int32) :
    r_X4_set setting value S y = r_X5_set setting value r past kk ∧ ∃ k', c_X5_set_kn setting value r past kk = nI k' ∧ W1 (c_X4_set_1 setting value S y) (c_X4_set_y setting value S y) (c_X5_set_s setting value r past kk) (c_X5_set_past setting value r past kk) k' := by
  unfold r_X4_set r_X5_set c_X5_set_kn c_X4_set_1 c_X4_set_y c_X5_set_s c_X5_set_past
  by_cases s0 : setting < 0
  · have i0 : r_X5_in setting 0 6 = 0 := by
      unfold r_X5_in
      rw [if_pos s0]
    simp only [if_pos s0, if_pos i0]
    exact ⟨trivial, kk, rfl, h⟩
  · obtain ⟨k, hk31, rfl⟩ := nI_of s0
    by_cases s7 : nI k < 7
    · have hk : k < 7 := (nI_ltI (b := 7) hk31 (by omega)).mp s7
      have i0 : ¬ r_X5_in (nI k) 0 6 = 0 := by
        unfold r_X5_in
        rw [if_neg s0, if_neg (show ¬ (6 : Int32) < nI k from nI_nlt (a := 6) (b := k) (by omega) (by omega))]
        decide
      obtain ⟨t1, t2⟩ := set_tab k hk
      simp only [if_neg s0, if_pos s7, if_neg i0, nI_clamp hk31]
      rw [← t1, ← t2]
      by_cases l : value < tabL k
      · have i1 : r_X5_in value (tabL k) (tabM k) = 0 := by
          unfold r_X5_in
          rw [if_pos l]
        simp only [if_pos l, if_pos i1]
        exact ⟨trivial, kk, rfl, h⟩
      · by_cases m : tabM k < value
        · have i1 : r_X5_in value (tabL k) (tabM k) = 0 := by
            unfold r_X5_in
            rw [if_neg l, if_pos m]
          simp only [if_neg l, if_pos m, if_pos i1]
          exact ⟨trivial, kk, rfl, h⟩
        · have i1 : ¬ r_X5_in value (tabL k) (tabM k) = 0 := by
            unfold r_X5_in
            rw [if_neg l, if_neg m]
            decide
          simp only [if_neg l, if_neg m, if_neg i1]
          have e1 : r_X3_changeSetting (nI k) value S = S.2.1 k := by
            unfold r_X3_changeSetting r_X3_changeSetting_at47
            rw [if_neg s0, if_pos s7, nI_clamp hk31]
          refine ⟨e1.trans (h.1.2.2.1 k hk), kn1 kk, rfl, ?_, keep_rel h.1 h.2⟩
          have e2 : c_X3_changeSetting (nI k) value S = (j_X3_changeSetting_47_g (nI k) value S, upd S.2.1 k value, S.2.2) := by
            unfold c_X3_changeSetting c_X3_changeSetting_at47
            rw [if_neg s0, if_pos s7, nI_clamp hk31]
          rw [e2]
          refine set_RS h.1 k value hk ⟨by have := nlt_iff.mp l; omega, by have := nlt_iff.mp m; omega⟩ _ ?_
          unfold j_X3_changeSetting_47_g
          rw [if_neg s0, if_pos s7, nI_clamp hk31]
          by_cases c1 : k = 1
          · have q : nI k = 1 := by rw [c1]; rfl
            rw [if_pos q, if_pos q]
            exact Or.inl ⟨Or.inl c1, rfl, rfl⟩
          · have q : ¬ nI k = 1 := fun e => c1 ((nI_eq (b := 1) hk31 (by omega)).mp e)
            rw [if_neg q, if_neg q]
            by_cases c2 : k = 2
            · have q2 : nI k = 2 := by rw [c2]; rfl
              rw [if_pos q2, if_pos q2]
              exact Or.inl ⟨Or.inr c2, rfl, rfl⟩
            · have q2 : ¬ nI k = 2 := fun e => c2 ((nI_eq (b := 2) hk31 (by omega)).mp e)
              rw [if_neg q2, if_neg q2]
              exact Or.inr ⟨⟨c1, c2⟩, rfl, rfl⟩
    · have i0 : r_X5_in (nI k) 0 6 = 0 := by
        unfold r_X5_in
        have := nlt_iff.mp s7
        rw [if_neg s0, if_pos (lt_iff.mpr (by rw [z6]; rw [z7] at this; omega))]
      simp only [if_neg s0, if_neg s7, if_pos i0]
      exact ⟨trivial, kk, rfl, h⟩
/-! samples -/
theorem telling_eq {S : SS} {r : Nat → Int32} {B : Int} (h : RS S r B) : r_X3_telling S = r_X5_told r := by
  show 1000 * (S.1 14 + 100) + S.1 15 + 100 = 1000 * (r 14 + 100) + r 15 + 100
  rw [h.1 14 (by omega), h.1 15 (by omega)]
theorem refuse_eq {S : SS} {r : Nat → Int32} {B : Int} (h : RS S r B) (x y many : Int32) : r_X3_refusalOfSamples x y many S = r_X5_whyNot x y many r := by
  unfold r_X3_refusalOfSamples r_X5_whyNot
  rw [isS_eq, h.1 21 (by omega)]
theorem why3 (x y many : Int32) (r : Nat → Int32) : r_X5_whyNot x y many r = -2 ∨ r_X5_whyNot x y many r = -5 ∨ (r_X5_whyNot x y many r = 0 ∧ ¬ r_X5_areRight x y = 0 ∧ ¬ 9999 < r 21 + many) := by
  unfold r_X5_whyNot
  by_cases a : r_X5_areRight x y = 0
  · exact Or.inl (if_pos a)
  · by_cases b : 9999 < r 21 + many
    · exact Or.inr (Or.inl ((if_neg a).trans (if_pos b)))
    · exact Or.inr (Or.inr ⟨(if_neg a).trans (if_neg b), a, b⟩)
theorem why_lt {x y many : Int32} {r : Nat → Int32} : r_X5_whyNot x y many r < 0 ↔ ¬ r_X5_whyNot x y many r = 0 := by
  rcases why3 x y many r with e | e | ⟨e, -⟩
  · rw [e]; decide
  · rw [e]; decide
  · rw [e]; decide
theorem why_ok {x y many : Int32} {r : Nat → Int32} (h : r_X5_whyNot x y many r = 0) : ¬ r_X5_areRight x y = 0 ∧ ¬ 9999 < r 21 + many := by
  rcases why3 x y many r with e | e | ⟨-, e⟩
  · rw [e] at h
    exact absurd h (by decide)
  · rw [e] at h
    exact absurd h (by decide)
  · exact e
theorem tA_l (x y : Int32) (S : SS) (H : HS) (M : Nat) (hM : M < 2 ^ 31) (n : Nat) : ∀ k S1, M - k < n → k ≤ M → S1 = itC x y k S → r_X4_takeAlike_at34 x y (nI M) S H n k S1 = r_X3_telling (itC x y M S) ∧ c_X4_takeAlike_1_at34 x y (nI M) S H n k S1 = itC x y M S ∧ c_X4_takeAlike_y_at34 x y (nI M) S H n k S1 = c_X1_keep_y H S := by
  induction n with
  | zero => intro k S1 h; omega
  | succ n ih =>
    intro k S1 h1 h2 h3
    show (if nI k < nI M then r_X4_takeAlike_at34 x y (nI M) S H n (k + 1) (c_X3_take x y S1) else r_X3_telling S1) = _ ∧ (if nI k < nI M then c_X4_takeAlike_1_at34 x y (nI M) S H n (k + 1) (c_X3_take x y S1) else S1) = _ ∧ (if nI k < nI M then c_X4_takeAlike_y_at34 x y (nI M) S H n (k + 1) (c_X3_take x y S1) else c_X1_keep_y H S) = _
    by_cases c : k < M
    · have c' : nI k < nI M := nI_lt c hM
      obtain ⟨q1, q2, q3⟩ := ih (k + 1) (c_X3_take x y S1) (by omega) (by omega) (by rw [h3]; rfl)
      exact ⟨(if_pos c').trans q1, (if_pos c').trans q2, (if_pos c').trans q3⟩
    · have e : k = M := by omega
      have c' : ¬ nI k < nI M := nI_nlt (by omega) (by omega)
      rw [e] at h3
      exact ⟨(if_neg c').trans (by rw [h3]), (if_neg c').trans h3, if_neg c'⟩
theorem ho_l (x y : Int32) (r past : Nat → Int32) (kk : Nat) (M : Nat) (hM : M < 2 ^ 31) (n : Nat) : ∀ k r1, M - k < n → k ≤ M → r1 = it x y k r → r_X5_hold_at40 x y (nI M) r past kk n k r1 = r_X5_told (it x y M r) ∧ c_X5_hold_s_at40 x y (nI M) r past kk n k r1 = it x y M r ∧ c_X5_hold_past_at40 x y (nI M) r past kk n k r1 = pastK r past kk ∧ c_X5_hold_kn_at40 x y (nI M) r past kk n k r1 = nI (kn1 kk) := by
  induction n with
  | zero => intro k S1 h; omega
  | succ n ih =>
    intro k r1 h1 h2 h3
    show (if nI k < nI M then r_X5_hold_at40 x y (nI M) r past kk n (k + 1) (c_X5_samples_s x y r1) else r_X5_told r1) = _ ∧ (if nI k < nI M then c_X5_hold_s_at40 x y (nI M) r past kk n (k + 1) (c_X5_samples_s x y r1) else r1) = _ ∧ (if nI k < nI M then c_X5_hold_past_at40 x y (nI M) r past kk n (k + 1) (c_X5_samples_s x y r1) else pastK r past kk) = _ ∧ (if nI k < nI M then c_X5_hold_kn_at40 x y (nI M) r past kk n (k + 1) (c_X5_samples_s x y r1) else nI (kn1 kk)) = _
    by_cases c : k < M
    · have c' : nI k < nI M := nI_lt c hM
      obtain ⟨q1, q2, q3, q4⟩ := ih (k + 1) (c_X5_samples_s x y r1) (by omega) (by omega) (by rw [h3]; rfl)
      exact ⟨(if_pos c').trans q1, (if_pos c').trans q2, (if_pos c').trans q3, (if_pos c').trans q4⟩
    · have e : k = M := by omega
      have c' : ¬ nI k < nI M := nI_nlt (by omega) (by omega)
      rw [e] at h3
      exact ⟨(if_neg c').trans (by rw [h3]), (if_neg c').trans h3, if_neg c', if_neg c'⟩
theorem many_b {r : Nat → Int32} {M : Nat} (hM : M ≤ 200) (h0 : 0 ≤ (r 21).toInt ∧ (r 21).toInt ≤ 9999) (h : ¬ 9999 < r 21 + nI M) : (r 21).toInt + M ≤ 9999 := by
  have e : (r 21 + nI M).toInt = (r 21).toInt + M := by rw [ti_add (by rw [nI_toInt (by omega)]; omega) (by rw [nI_toInt (by omega)]; omega), nI_toInt (by omega)]
  have := nlt_iff.mp h
  rw [z9999, e] at this
  exact this
theorem take_many {S : SS} {y : HS} {r past : Nat → Int32} {kk : Nat} (h : W1 S y r past kk) (u v : Int32) (M : Nat) (hM : M ≤ 200) (hw : r_X5_whyNot u v (nI M) r = 0) : r_X4_takeAlike_at34 u v (nI M) S y 201 0 S = r_X5_told (it u v M r) ∧ W1 (c_X4_takeAlike_1_at34 u v (nI M) S y 201 0 S) (c_X4_takeAlike_y_at34 u v (nI M) S y 201 0 S) (it u v M r) (pastK r past kk) (kn1 kk) := by
  obtain ⟨w1, w2⟩ := why_ok hw
  obtain ⟨q1, q2, q3⟩ := tA_l u v S y M (by omega) 201 0 S (by omega) (by omega) rfl
  obtain ⟨p1, p2⟩ := it_rel h.1 (right_P w1) (by omega) M (by omega)
  have hb := many_b hM ⟨h.1.2.2.2.2.2.2.1.1, h.1.2.2.2.2.2.2.1.2.1⟩ w2
  rw [q1, q2, q3]
  exact ⟨telling_eq p1, p1.tight (by omega), keep_rel h.1 h.2⟩
theorem sample_sim {S : SS} {y : HS} {r past : Nat → Int32} {kk : Nat} (h : W1 S y r past kk) (u v : Int32) :
    r_X4_sample u v S y = r_X5_sample u v r past kk ∧ ∃ k', c_X5_sample_kn u v r past kk = nI k' ∧ W1 (c_X4_sample_1 u v S y) (c_X4_sample_y u v S y) (c_X5_sample_s u v r past kk) (c_X5_sample_past u v r past kk) k' := by
  unfold r_X4_sample c_X4_sample_1 c_X4_sample_y r_X4_takeAlike c_X4_takeAlike_1 c_X4_takeAlike_y r_X5_sample c_X5_sample_kn c_X5_sample_s c_X5_sample_past
  rw [refuse_eq h.1]
  by_cases c : r_X5_whyNot u v 1 r = 0
  · have c' : ¬ r_X5_whyNot u v 1 r < 0 := fun q => why_lt.mp q c
    simp only [if_pos c, if_neg c']
    obtain ⟨q1, q2⟩ := take_many h u v 1 (by omega) c
    exact ⟨q1, kn1 kk, rfl, q2⟩
  · have c' : r_X5_whyNot u v 1 r < 0 := why_lt.mpr c
    simp only [if_neg c, if_pos c']
    exact ⟨trivial, kk, rfl, h⟩
theorem hold_sim {S : SS} {y : HS} {r past : Nat → Int32} {kk : Nat} (h : W1 S y r past kk) (u v many : Int32) :
    r_X4_hold u v many S y = r_X5_hold u v many r past kk ∧ ∃ k', c_X5_hold_kn u v many r past kk = nI k' ∧ W1 (c_X4_hold_1 u v many S y) (c_X4_hold_y u v many S y) (c_X5_hold_s u v many r past kk) (c_X5_hold_past u v many r past kk) k' := by
  unfold r_X4_hold c_X4_hold_1 c_X4_hold_y r_X4_takeAlike c_X4_takeAlike_1 c_X4_takeAlike_y r_X5_hold c_X5_hold_kn c_X5_hold_s c_X5_hold_past
  rw [refuse_eq h.1]
  by_cases m1 : many < 1
  · have i0 : r_X5_in many 1 200 = 0 := by
      unfold r_X5_in
      rw [if_pos m1]
    simp only [if_pos m1, if_pos i0]
    exact ⟨trivial, kk, rfl, h⟩
  · by_cases m2 : 200 < many
    · have i0 : r_X5_in many 1 200 = 0 := by
        unfold r_X5_in
        rw [if_neg m1, if_pos m2]
      simp only [if_neg m1, if_pos m2, if_pos i0]
      exact ⟨trivial, kk, rfl, h⟩
    · have i0 : ¬ r_X5_in many 1 200 = 0 := by
        unfold r_X5_in
        rw [if_neg m1, if_neg m2]
        decide
      simp only [if_neg m1, if_neg m2, if_neg i0]
      obtain ⟨b1, b2⟩ := many_ok m1 m2
      obtain ⟨M, hM, rfl⟩ := nI_of b2
      rw [nI_clamp hM] at b1
      by_cases c : r_X5_whyNot u v (nI M) r = 0
      · have c' : ¬ r_X5_whyNot u v (nI M) r < 0 := fun q => why_lt.mp q c
        simp only [if_pos c, if_neg c']
        obtain ⟨q1, q2⟩ := take_many h u v M b1 c
        obtain ⟨p1, p2, p3, p4⟩ := ho_l u v r past kk M (by omega) 201 0 r (by omega) (by omega) rfl
        rw [p1, p2, p3, p4]
        exact ⟨q1, kn1 kk, rfl, q2⟩
      · have c' : r_X5_whyNot u v (nI M) r < 0 := why_lt.mpr c
        simp only [if_neg c, if_pos c']
        exact ⟨trivial, kk, rfl, h⟩
/-! buttons -/
theorem isB_eq (b : Int32) : r_X3_isButton b = r_X5_in b 0 7 := by
  unfold r_X3_isButton r_X5_in
  by_cases c : b < 0
  · rw [if_pos c, if_pos c]
  · rw [if_neg c, if_neg c]
    by_cases e : b < 8
    · have := lt_iff.mp e
      rw [z8] at this
      rw [if_pos e, if_neg (nlt_iff.mpr (by rw [z7]; omega))]
    · have := nlt_iff.mp e
      rw [z8] at this
      rw [if_neg e, if_pos (lt_iff.mpr (by rw [z7]; omega))]
theorem isD_eq {S : SS} {r : Nat → Int32} {B : Int} (h : RS S r B) (b : Int32) : r_X3_isDown b S = r_X5_isDown b r := by
  unfold r_X3_isDown r_X5_isDown
  rw [h.1 18 (by omega)]
theorem isD2 (b : Int32) (r : Nat → Int32) : r_X5_isDown b r = 0 ∨ r_X5_isDown b r = 1 := by
  unfold r_X5_isDown
  split
  · exact Or.inr rfl
  · exact Or.inl rfl
theorem refP_eq {S : SS} {r : Nat → Int32} {B : Int} (h : RS S r B) (b : Int32) : r_X3_refusalOfPress b S = r_X5_whyNotPress b 1 r ∧ r_X3_refusalOfLetUp b S = r_X5_whyNotPress b 0 r := by
  unfold r_X3_refusalOfPress r_X3_refusalOfLetUp r_X5_whyNotPress
  rw [isB_eq, isD_eq h]
  rcases isD2 b r with e | e
  · rw [e]
    exact ⟨rfl, rfl⟩
  · rw [e]
    exact ⟨rfl, rfl⟩
theorem whyP_lt {b dn : Int32} {r : Nat → Int32} : r_X5_whyNotPress b dn r < 0 ↔ ¬ r_X5_whyNotPress b dn r = 0 := by
  unfold r_X5_whyNotPress
  repeat' split
  all_goals decide
theorem push_RS {S : SS} {r : Nat → Int32} {B : Int} (h : RS S r B) (b : Int32) : r_X3_pushDown b S = r_X5_presses b r ∧ RS (c_X3_pushDown b S) (c_X5_presses_s b r) B := by
  unfold r_X3_pushDown r_X5_presses c_X3_pushDown c_X5_presses_s
  rw [h.1 18 (by omega), h.2.2.1 6 (by decide)]
  exact ⟨rfl, RS_put' (RS_put' h 18 _ (by omega)) 13 _ (by omega)⟩
theorem rel_RS {S : SS} {r : Nat → Int32} {B : Int} (h : RS S r B) (b : Int32) : r_X3_release b S = r_X5_letsUp b r ∧ RS (c_X3_release b S) (c_X5_letsUp_s b r) B := by
  unfold r_X3_release r_X5_letsUp c_X3_release c_X5_letsUp_s
  rw [h.1 18 (by omega)]
  exact ⟨rfl, RS_put' h 18 _ (by omega)⟩
theorem press_sim {S : SS} {y : HS} {r past : Nat → Int32} {kk : Nat} (h : W1 S y r past kk) (b : Int32) :
    r_X4_press b S y = r_X5_press b r past kk ∧ ∃ k', c_X5_press_kn b r past kk = nI k' ∧ W1 (c_X4_press_1 b S y) (c_X4_press_y b S y) (c_X5_press_s b r past kk) (c_X5_press_past b r past kk) k' := by
  unfold r_X4_press c_X4_press_1 c_X4_press_y r_X5_press c_X5_press_kn c_X5_press_s c_X5_press_past
  rw [(refP_eq h.1 b).1]
  by_cases c : r_X5_whyNotPress b 1 r = 0
  · have c' : ¬ r_X5_whyNotPress b 1 r < 0 := fun q => whyP_lt.mp q c
    simp only [if_pos c, if_neg c']
    exact ⟨(push_RS h.1 b).1, kn1 kk, rfl, (push_RS h.1 b).2, keep_rel h.1 h.2⟩
  · have c' : r_X5_whyNotPress b 1 r < 0 := whyP_lt.mpr c
    simp only [if_neg c, if_pos c']
    exact ⟨trivial, kk, rfl, h⟩
theorem letUp_sim {S : SS} {y : HS} {r past : Nat → Int32} {kk : Nat} (h : W1 S y r past kk) (b : Int32) :
    r_X4_letUp b S y = r_X5_letUp b r past kk ∧ ∃ k', c_X5_letUp_kn b r past kk = nI k' ∧ W1 (c_X4_letUp_1 b S y) (c_X4_letUp_y b S y) (c_X5_letUp_s b r past kk) (c_X5_letUp_past b r past kk) k' := by
  unfold r_X4_letUp c_X4_letUp_1 c_X4_letUp_y r_X5_letUp c_X5_letUp_kn c_X5_letUp_s c_X5_letUp_past
  rw [(refP_eq h.1 b).2]
  by_cases c : r_X5_whyNotPress b 0 r = 0
  · have c' : ¬ r_X5_whyNotPress b 0 r < 0 := fun q => whyP_lt.mp q c
    simp only [if_pos c, if_neg c']
    exact ⟨(rel_RS h.1 b).1, kn1 kk, rfl, (rel_RS h.1 b).2, keep_rel h.1 h.2⟩
  · have c' : r_X5_whyNotPress b 0 r < 0 := whyP_lt.mpr c
    simp only [if_neg c, if_pos c']
    exact ⟨trivial, kk, rfl, h⟩
theorem reset_sim {S : SS} {y : HS} {r past : Nat → Int32} {kk : Nat} (h : W1 S y r past kk) :
    r_X4_reset S y = r_X5_reset r past kk ∧ ∃ k', c_X5_reset_kn r past kk = nI k' ∧ W1 (c_X4_reset_1 S y) (c_X4_reset_y S y) (c_X5_reset_s r past kk) (c_X5_reset_past r past kk) k' := by
  refine ⟨?_, kn1 kk, rfl, ?_, keep_rel h.1 h.2⟩
  · show iabs (S.1 7 - 2048) + iabs (S.1 8 - 2048) = r_X5_size (r 7 - 2048) + r_X5_size (r 8 - 2048)
    rw [iabs_size, iabs_size, h.1.1 7 (by omega), h.1.1 8 (by omega)]
  · show RS (upd (upd (upd (upd S.1 7 2048) 8 2048) 9 (S.2.1 1)) 12 0, S.2) (upd (upd (upd (upd r 7 2048) 8 2048) 9 (r 1)) 12 0) 9999
    rw [h.1.2.2.1 1 (by decide)]
    have hv := h.1.2.2.2.2.1
    have hs := h.1.2.2.2.1
    have e : (2048 : Int32).toInt = 2048 := rfl
    have r1 := RS_put h.1 7 2048 (by omega) (by
      unfold rgV
      rw [upd_eq, upd_lo (by decide), upd_lo (by decide), upd_lo (by decide), upd_lo (by decide), e]
      exact ⟨by omega, hv.2⟩)
    have e7 : upd (upd r 7 2048) 8 2048 7 = 2048 := (upd_lo (by decide)).trans upd_eq
    have e8 : upd (upd r 7 2048) 8 2048 8 = 2048 := upd_eq
    have ek : ∀ k, k ≠ 7 → k ≠ 8 → upd (upd r 7 2048) 8 2048 k = r k := fun k h7 h8 => (upd_lo h8).trans (upd_lo h7)
    have r2 := RS_put r1 8 2048 (by omega) (by
      unfold rgV
      rw [e7, e8, ek 1 (by decide) (by decide), ek 2 (by decide) (by decide), ek 9 (by decide) (by decide), e]
      exact ⟨by omega, by omega, hv.2.2⟩)
    have r3 := RS_put r2 9 (r 1) (by omega) (by
      unfold rgV
      rw [upd_eq, upd_lo (show 7 ≠ 9 by decide), upd_lo (show 8 ≠ 9 by decide), upd_lo (show 1 ≠ 9 by decide), upd_lo (show 2 ≠ 9 by decide), e7, e8, ek 1 (by decide) (by decide), ek 2 (by decide) (by decide), e]
      exact ⟨by omega, by omega, by have := hs.2.2.1; omega⟩)
    exact RS_put' r3 12 0 (by omega)
