/-! the calls, as the law makes them -/
theorem z255 : (255 : Int32).toInt = 255 := rfl
theorem z9999 : (9999 : Int32).toInt = 9999 := rfl
theorem isS_1 {x y : Int32} (h : rgP x y) : r_X4_isSample x y = 1 := by
  unfold r_X4_isSample
  rw [if_neg (nlt_iff.mpr (by rw [z0]; exact h.1.1)), if_neg (nlt_iff.mpr (by rw [z255]; exact h.1.2)), if_neg (nlt_iff.mpr (by rw [z0]; exact h.2.1)), if_neg (nlt_iff.mpr (by rw [z255]; exact h.2.2))]
theorem isS_0 {x y : Int32} (h : ¬ rgP x y) : r_X4_isSample x y = 0 := by
  unfold r_X4_isSample
  by_cases a : x < 0
  · rw [if_pos a]
  · rw [if_neg a]
    by_cases b : 255 < x
    · rw [if_pos b]
    · rw [if_neg b]
      by_cases c : y < 0
      · rw [if_pos c]
      · rw [if_neg c]
        by_cases e : 255 < y
        · rw [if_pos e]
        · have a' := nlt_iff.mp a
          have b' := nlt_iff.mp b
          have c' := nlt_iff.mp c
          have e' := nlt_iff.mp e
          rw [z0] at a' c'
          rw [z255] at b' e'
          exact absurd ⟨⟨a', b'⟩, c', e'⟩ h
theorem it_succ (x y : Int32) (S : SS) : ∀ k, itC x y k (c_X3_take x y S) = c_X3_take x y (itC x y k S)
  | 0 => rfl
  | k + 1 => congrArg (c_X3_take x y) (it_succ x y S k)
theorem alike_it (x y : Int32) (m : Nat) (hm : m < 2 ^ 31) (S : SS) (Y : HS) : ∀ (n k : Nat) (S1 : SS), k ≤ m → m - k < n → c_X4_takeAlike_1_at34 x y (nI m) S Y n k S1 = itC x y (m - k) S1 ∧ r_X4_takeAlike_at34 x y (nI m) S Y n k S1 = r_X3_telling (itC x y (m - k) S1) := by
  intro n
  induction n with
  | zero => intro k S1 h1 h2; omega
  | succ n ih =>
    intro k S1 h1 h2
    rw [c_X4_takeAlike_1_at34, r_X4_takeAlike_at34]
    by_cases c : k = m
    · subst c
      rw [if_neg (nI_nlt (Nat.le_refl k) hm), if_neg (nI_nlt (Nat.le_refl k) hm), Nat.sub_self]
      exact ⟨rfl, rfl⟩
    · rw [if_pos (nI_lt (by omega) hm), if_pos (nI_lt (by omega) hm)]
      obtain ⟨e1, e2⟩ := ih (k + 1) (c_X3_take x y S1) (by omega) (by omega)
      rw [e1, e2, it_succ]
      obtain ⟨j, ej⟩ : ∃ j, m - k = j + 1 := ⟨m - k - 1, by omega⟩
      rw [ej, show m - (k + 1) = j by omega]
      exact ⟨rfl, rfl⟩
theorem alike_is {x y : Int32} {S : SS} {Y : HS} (hp : rgP x y) (m : Nat) (hm : m ≤ 200) (h21 : 0 ≤ (S.1 21).toInt ∧ (S.1 21).toInt + m ≤ 9999) : c_X4_takeAlike_1 x y (nI m) S Y = itC x y m S ∧ r_X4_takeAlike x y (nI m) S Y = r_X3_telling (itC x y m S) ∧ c_X4_takeAlike_y x y (nI m) S Y = c_X1_keep_y Y S := by
  have h0 : r_X3_refusalOfSamples x y (nI m) S = 0 := by
    unfold r_X3_refusalOfSamples
    have e : (S.1 21 + nI m).toInt = (S.1 21).toInt + m := by rw [ti_add (by rw [nI_toInt (by omega)]; omega) (by rw [nI_toInt (by omega)]; omega), nI_toInt (by omega)]
    rw [isS_1 hp, if_neg (by decide), if_neg (nlt_iff.mpr (by rw [z9999, e]; omega))]
  obtain ⟨e1, e2⟩ := alike_it x y m (by omega) S Y 201 0 S (by omega) (by omega)
  unfold c_X4_takeAlike_1 r_X4_takeAlike c_X4_takeAlike_y
  rw [if_pos h0, if_pos h0, if_pos h0, e1, e2, alike_y]
  exact ⟨rfl, rfl, rfl⟩
theorem sample_is {x y : Int32} {S : SS} {Y : HS} (hp : rgP x y) (h21 : 0 ≤ (S.1 21).toInt ∧ (S.1 21).toInt ≤ 9998) : c_X4_sample_1 x y S Y = c_X3_take x y S ∧ r_X4_sample x y S Y = r_X3_telling (c_X3_take x y S) ∧ c_X4_sample_y x y S Y = c_X1_keep_y Y S :=
  alike_is (Y := Y) hp 1 (by omega) (by omega)
theorem hold_is {x y : Int32} {S : SS} {Y : HS} (hp : rgP x y) (m : Nat) (hm : 1 ≤ m ∧ m ≤ 200) (h21 : 0 ≤ (S.1 21).toInt ∧ (S.1 21).toInt + m ≤ 9999) : c_X4_hold_1 x y (nI m) S Y = itC x y m S ∧ r_X4_hold x y (nI m) S Y = r_X3_telling (itC x y m S) ∧ c_X4_hold_y x y (nI m) S Y = c_X1_keep_y Y S := by
  have h := alike_is (Y := Y) hp m hm.2 h21
  have z200 : (200 : Int32).toInt = 200 := rfl
  unfold c_X4_hold_1 r_X4_hold c_X4_hold_y
  rw [if_neg (nlt_iff.mpr (by rw [z1, nI_toInt (by omega)]; omega)), if_neg (nlt_iff.mpr (by rw [z200, nI_toInt (by omega)]; omega)), if_neg (nlt_iff.mpr (by rw [z1, nI_toInt (by omega)]; omega)), if_neg (nlt_iff.mpr (by rw [z200, nI_toInt (by omega)]; omega)), if_neg (nlt_iff.mpr (by rw [z1, nI_toInt (by omega)]; omega)), if_neg (nlt_iff.mpr (by rw [z200, nI_toInt (by omega)]; omega))]
  exact h
/-- what a sample tells is what would be told -/
theorem take_tell {x y : Int32} {S : SS} (hp : rgP x y) (hv : rgV S) (hs : rgS S.2.1) : r_X3_telling (c_X3_take x y S) = r_X3_tellingAt x y S := by
  obtain ⟨b1, b2, -⟩ := told_b (x := x) (y := y) hp hv hs
  obtain ⟨k1, k14, k15, -⟩ := take_is b1 b2
  rw [telling_is]
  unfold r_X3_telling
  rw [k14, k15]
theorem would_is {x y : Int32} {S : SS} (hp : rgP x y) : r_X4_wouldTell x y S = r_X3_tellingAt x y S := by
  unfold r_X4_wouldTell
  rw [isS_1 hp, if_neg (by decide)]
