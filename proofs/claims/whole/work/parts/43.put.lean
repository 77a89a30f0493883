theorem wb_tb (n : Nat) : (lN n).toBitVec = BitVec.ofNat 64 n := rfl
theorem wb_inj {a b : Int64} (h : a.toBitVec = b.toBitVec) : a = b := Int64.toBitVec_inj.mp h
theorem wb_tn {n : Nat} (h : n < 2 ^ 64) : (lN n).toBitVec.toNat = n := by rw [wb_tb, BitVec.toNat_ofNat, Nat.mod_eq_of_lt h]
theorem wb_of (x : Int64) : ∃ n, n < 2 ^ 64 ∧ x = lN n := ⟨x.toBitVec.toNat, x.toBitVec.isLt, wb_inj (by rw [wb_tb]; simp)⟩
theorem wb_c : ∀ k, k < 64 → ((nI k).toInt64 &&& 63) = lN k := by decide +kernel
theorem wb_cu : ∀ k, k < 64 → ((nI k).toInt64.toUInt64 &&& Int64.toUInt64 63) = UInt64.ofNat k := by decide +kernel
theorem wb_sm : ∀ k, k < 64 → (BitVec.ofNat 64 k).smod 64 = BitVec.ofNat 64 k := by decide +kernel
theorem wb_lt2 {a b : Nat} (h : a < b) : 2 ^ a < 2 ^ b := Nat.pow_lt_pow_right (by decide) h
theorem wb_shr {n k : Nat} (hn : n < 2 ^ 64) (hk : k < 64) : ((lN n).toUInt64 >>> ((nI k).toInt64.toUInt64 &&& Int64.toUInt64 63)).toInt64 = lN (n / 2 ^ k) := by
  rw [wb_cu k hk]
  apply wb_inj
  apply BitVec.eq_of_toNat_eq
  show ((lN n).toUInt64 >>> UInt64.ofNat k).toNat = (BitVec.ofNat 64 _).toNat
  have h1 : (UInt64.ofNat k).toNat = k := by
    show (BitVec.ofNat 64 k).toNat = k
    rw [BitVec.toNat_ofNat, Nat.mod_eq_of_lt (by omega)]
  have h2 : (lN n).toUInt64.toNat = n := wb_tn hn
  rw [UInt64.toNat_shiftRight, h1, h2, Nat.mod_eq_of_lt hk, Nat.shiftRight_eq_div_pow, BitVec.toNat_ofNat, Nat.mod_eq_of_lt (Nat.lt_of_le_of_lt (Nat.div_le_self _ _) hn)]
theorem wb_and {a b : Nat} (ha : a < 2 ^ 64) (hb : b < 2 ^ 64) : lN a &&& lN b = lN (a &&& b) := by
  apply wb_inj
  rw [Int64.toBitVec_and, wb_tb, wb_tb, wb_tb]
  apply BitVec.eq_of_toNat_eq
  rw [BitVec.toNat_and, BitVec.toNat_ofNat, BitVec.toNat_ofNat, BitVec.toNat_ofNat, Nat.mod_eq_of_lt ha, Nat.mod_eq_of_lt hb, Nat.mod_eq_of_lt (Nat.and_lt_two_pow _ hb)]
theorem wb_mask {n k : Nat} (hn : n < 2 ^ 64) (hk : k < 64) : lN n &&& lN (2 ^ k - 1) = lN (n % 2 ^ k) := by
  rw [wb_and hn (by have := wb_lt2 hk; omega), Nat.and_two_pow_sub_one_eq_mod]
/-! put, beside the reference's -/
def qq (n k : Nat) : Nat := n / 2 ^ (8 * k)
def cc (n k : Nat) : Nat := n / 2 ^ (8 * k) % 256
theorem qq_s (n k : Nat) : qq n (k + 1) = qq n k / 256 := by
  unfold qq
  rw [show 8 * (k + 1) = 8 * k + 8 by omega, Nat.pow_add, ← Nat.div_div_eq_div_mul]
theorem qq_0 (n : Nat) : qq n 0 = n := Nat.div_one n
theorem qq_8 {n : Nat} (hn : n < 2 ^ 64) : qq n 8 = 0 := Nat.div_eq_of_lt hn
theorem qq_b {n k : Nat} (hn : n < 2 ^ 64) : qq n k < 2 ^ 64 := Nat.lt_of_le_of_lt (Nat.div_le_self _ _) hn
theorem cc_b (n k : Nat) : cc n k < 256 := Nat.mod_lt _ (by decide)
theorem cc_q (n k : Nat) : cc n k = qq n k % 256 := rfl
theorem toI32 : ∀ a, a < 256 → (lN a).toInt32 = nI a := by decide +kernel
theorem chr : ∀ a, a < 256 → vp_nar .char (((nI a).toUInt32 % 65536).toInt32) = nI a := by decide +kernel
theorem cmp33 : ∀ a, a < 256 → ((lg_cmp (lN a) 33 < 0 ↔ a < 33) ∧ (0 < lg_cmp (lN a) 126 ↔ 126 < a)) := by decide +kernel
theorem b8 : ∀ k, k < 8 → 8 * nI k = nI (8 * k) := by decide +kernel
theorem in33 : ∀ a, a < 256 → (r_X5_in (nI a) 33 126 = 0 ↔ ¬ (33 ≤ a ∧ a ≤ 126)) ∧ (nI a = 0 ↔ a = 0) := by decide +kernel
theorem cmp0 {m : Nat} (hm : m < 2 ^ 64) : lg_cmp (lN m) 0 = 0 ↔ m = 0 := by
  have e : lN m = 0 ↔ m = 0 := by
    constructor
    · intro h
      have := congrArg (fun z => z.toBitVec.toNat) h
      rw [wb_tn hm] at this
      exact this
    · intro h
      rw [h]
      rfl
  unfold lg_cmp
  by_cases a : lN m > 0
  · rw [if_pos a]
    refine ⟨fun q => absurd q (by decide), fun q => ?_⟩
    rw [q] at a
    exact absurd a (by decide)
  · rw [if_neg a]
    by_cases b : lN m = 0
    · rw [if_pos b]
      exact ⟨fun _ => e.mp b, fun _ => rfl⟩
    · rw [if_neg b]
      exact ⟨fun q => absurd q (by decide), fun q => absurd (e.mpr q) b⟩
theorem sar_and {n j : Nat} (hj : j ≤ 56) : (lN n >>> ((nI j).toInt64 &&& 63)) &&& 255 = lN (n / 2 ^ j % 2 ^ 8) := by
  rw [wb_c j (by omega)]
  apply wb_inj
  rw [Int64.toBitVec_and, Int64.toBitVec_shiftRight, wb_tb, wb_tb, wb_tb, wb_sm j (by omega), BitVec.sshiftRight_eq']
  show BitVec.sshiftRight (BitVec.ofNat 64 n) (BitVec.ofNat 64 j).toNat &&& BitVec.ofNat 64 (2 ^ 8 - 1) = _
  rw [BitVec.toNat_ofNat, Nat.mod_eq_of_lt (show j < 2 ^ 64 by omega)]
  apply BitVec.eq_of_getLsbD_eq
  intro i hi
  rw [BitVec.getLsbD_and, BitVec.getLsbD_sshiftRight, BitVec.getLsbD_ofNat, BitVec.getLsbD_ofNat, BitVec.getLsbD_ofNat, Nat.testBit_two_pow_sub_one, Nat.testBit_mod_two_pow, Nat.testBit_div_two_pow]
  by_cases h8 : i < 8
  · have a1 : j + i < 64 := by omega
    have a2 : ¬ 64 ≤ i := by omega
    simp [h8, a1, a2, hi, Nat.add_comm]
  · simp [h8]
theorem codeS {n k : Nat} (hk : k < 8) : ((lN n >>> ((nI (8 * k)).toInt64 &&& 63)) &&& 255).toInt32 = nI (cc n k) := by
  rw [sar_and (by omega)]
  exact toI32 _ (cc_b n k)
theorem codeU {n k : Nat} (hn : n < 2 ^ 64) (hk : k < 8) : (((lN n).toUInt64 >>> ((nI (8 * k)).toInt64.toUInt64 &&& Int64.toUInt64 63)).toInt64 &&& 255).toInt32 = nI (cc n k) := by
  rw [wb_shr hn (by omega)]
  have h := wb_mask (n := n / 2 ^ (8 * k)) (k := 8) (qq_b (k := k) hn) (by omega)
  have h2 : lN (n / 2 ^ (8 * k)) &&& 255 = lN (n / 2 ^ (8 * k) % 2 ^ 8) := h
  rw [h2]
  exact toI32 _ (cc_b n k)
theorem and255 {m : Nat} (hm : m < 2 ^ 64) : lN m &&& 255 = lN (m % 256) := wb_mask (k := 8) hm (by omega)
/-- so many characters there are, and they are right -/
def VC (n m : Nat) : Prop := m ≤ 8 ∧ (∀ i, i < m → 33 ≤ cc n i ∧ cc n i ≤ 126) ∧ qq n m = 0
theorem qq_up {n k : Nat} (h : qq n k = 0) : ∀ j, k ≤ j → qq n j = 0 := fun j hj => by
  obtain ⟨d, rfl⟩ : ∃ d, j = k + d := ⟨j - k, by omega⟩
  clear hj
  induction d with
  | zero => exact h
  | succ d ih => rw [show k + (d + 1) = (k + d) + 1 by omega, qq_s, ih]
theorem VC_u {n m m' : Nat} (h : VC n m) (h' : VC n m') : m = m' := by
  rcases Nat.lt_trichotomy m m' with c | c | c
  · have := h'.2.1 m c
    rw [cc_q, h.2.2] at this
    omega
  · exact c
  · have := h.2.1 m' c
    rw [cc_q, h'.2.2] at this
    omega
theorem chars_l {n : Nat} (hn : n < 2 ^ 64) (w : Int64) (f : Nat) : ∀ k, k ≤ 8 → 8 - k < f → (∀ i, i < k → 33 ≤ cc n i ∧ cc n i ≤ 126) → (∃ m, VC n m ∧ r_X2_charactersIn_at4 w f k (lN (qq n k)) = nI m) ∨ ((∀ m, ¬ VC n m) ∧ r_X2_charactersIn_at4 w f k (lN (qq n k)) = 0) := by
  induction f with
  | zero => intro k _ h; omega
  | succ f ih =>
    intro k hk hf hv
    have R : r_X2_charactersIn_at4 w (f + 1) k (lN (qq n k)) = if lg_cmp (lN (qq n k)) 0 = 0 then nI k else (if nI k < 8 then (if lg_cmp (lN (qq n k) &&& 255) 33 < 0 then 0 else (if 0 < lg_cmp (lN (qq n k) &&& 255) 126 then 0 else r_X2_charactersIn_at4 w f (k + 1) (((lN (qq n k)).toUInt64 >>> ((8 : Int32).toInt64.toUInt64 &&& Int64.toUInt64 63)).toInt64))) else nI k) := rfl
    rw [R]
    by_cases z : qq n k = 0
    · rw [if_pos ((cmp0 (qq_b hn)).mpr z)]
      exact Or.inl ⟨k, ⟨hk, hv, z⟩, rfl⟩
    · rw [if_neg (fun q => z ((cmp0 (qq_b hn)).mp q))]
      have k8 : k < 8 := by
        rcases Nat.lt_or_ge k 8 with q | q
        · exact q
        · exact absurd (qq_up (qq_8 hn) k q) z
      have nov : ¬ (33 ≤ cc n k ∧ cc n k ≤ 126) → ∀ m, ¬ VC n m := fun q m hm => by
        rcases Nat.lt_or_ge k m with c | c
        · exact q (hm.2.1 k c)
        · exact z (qq_up hm.2.2 k c)
      rw [if_pos (show nI k < 8 from nI_lt (b := 8) k8 (by omega)), and255 (qq_b hn), ← cc_q]
      obtain ⟨c1, c2⟩ := cmp33 _ (cc_b n k)
      by_cases a : cc n k < 33
      · rw [if_pos (c1.mpr a)]
        exact Or.inr ⟨nov (by omega), rfl⟩
      · rw [if_neg (fun q => a (c1.mp q))]
        by_cases b : 126 < cc n k
        · rw [if_pos (c2.mpr b)]
          exact Or.inr ⟨nov (by omega), rfl⟩
        · rw [if_neg (fun q => b (c2.mp q))]
          have e : ((lN (qq n k)).toUInt64 >>> ((8 : Int32).toInt64.toUInt64 &&& Int64.toUInt64 63)).toInt64 = lN (qq n (k + 1)) := by
            rw [qq_s]
            exact wb_shr (k := 8) (qq_b hn) (by omega)
          rw [e]
          refine ih (k + 1) (by omega) (by omega) (fun i hi => ?_)
          by_cases ik : i = k
          · rw [ik]
            omega
          · exact hv i (by omega)
/-- the reference's first loop, whatever is kept of it -/
def pG {α : Type} (bad z : α) (fin : Int32 → α) (w : Int64) : Nat → Nat → Int32 → Int32 → Int32 → α
  | 0, _, _, _, _ => z
  | n + 1, k, many, ok, en => if nI k < 8 then (if en = 0 then (if ((w >>> ((nI (8 * k)).toInt64 &&& 63)) &&& 255).toInt32 = 0 then (if ok = 0 then pG bad z fin w n (k + 1) (many + 0) 0 1 else (if ((w >>> ((nI (8 * k)).toInt64 &&& 63)) &&& 255).toInt32 = 0 then pG bad z fin w n (k + 1) (many + 0) 1 1 else pG bad z fin w n (k + 1) (many + 0) 0 1)) else (if ok = 0 then pG bad z fin w n (k + 1) (many + 1) 0 0 else (if r_X5_in (((w >>> ((nI (8 * k)).toInt64 &&& 63)) &&& 255).toInt32) 33 126 = 0 then pG bad z fin w n (k + 1) (many + 1) 0 0 else pG bad z fin w n (k + 1) (many + 1) 1 0))) else (if ok = 0 then pG bad z fin w n (k + 1) (many + 0) 0 1 else (if ((w >>> ((nI (8 * k)).toInt64 &&& 63)) &&& 255).toInt32 = 0 then pG bad z fin w n (k + 1) (many + 0) 1 1 else pG bad z fin w n (k + 1) (many + 0) 0 1))) else (if ok = 0 then bad else fin many)
theorem pG_r (w : Int64) (pd : Nat → Int32) (ln : Int32) (n : Nat) : ∀ k many ok en, r_X5_put_at11 w pd ln n k many ok en = pG (-2) 0 (fun many => if many = 0 then -2 else (if 80 < ln + many then -4 else r_X5_put_at136 w pd ln 10 (many - 1) pd ln)) w n k many ok en := by
  induction n with
  | zero => intro k many ok en; rfl
  | succ n ih => intro k many ok en; simp only [r_X5_put_at11, pG, ih]
theorem pG_p (w : Int64) (pd : Nat → Int32) (ln : Int32) (n : Nat) : ∀ k many ok en, c_X5_put_pd_at11 w pd ln n k many ok en = pG pd pd (fun many => if many = 0 then pd else (if 80 < ln + many then pd else c_X5_put_pd_at136 w pd ln 10 (many - 1) pd ln)) w n k many ok en := by
  induction n with
  | zero => intro k many ok en; rfl
  | succ n ih => intro k many ok en; simp only [c_X5_put_pd_at11, pG, ih]
theorem pG_l (w : Int64) (pd : Nat → Int32) (ln : Int32) (n : Nat) : ∀ k many ok en, c_X5_put_ln_at11 w pd ln n k many ok en = pG ln 0 (fun many => if many = 0 then ln else (if 80 < ln + many then ln else c_X5_put_ln_at136 w pd ln 10 (many - 1) pd ln)) w n k many ok en := by
  induction n with
  | zero => intro k many ok en; rfl
  | succ n ih => intro k many ok en; simp only [c_X5_put_ln_at11, pG, ih]
section PGX
variable {α : Type} (bad z : α) (fin : Int32 → α) {n k : Nat}
theorem pG_s (hk : k < 8) (f : Nat) (many ok en : Int32) : pG bad z fin (lN n) (f + 1) k many ok en = (if en = 0 then (if cc n k = 0 then (if ok = 0 then pG bad z fin (lN n) f (k + 1) many 0 1 else pG bad z fin (lN n) f (k + 1) many 1 1) else (if ok = 0 then pG bad z fin (lN n) f (k + 1) (many + 1) 0 0 else (if ¬ (33 ≤ cc n k ∧ cc n k ≤ 126) then pG bad z fin (lN n) f (k + 1) (many + 1) 0 0 else pG bad z fin (lN n) f (k + 1) (many + 1) 1 0))) else (if ok = 0 then pG bad z fin (lN n) f (k + 1) many 0 1 else (if cc n k = 0 then pG bad z fin (lN n) f (k + 1) many 1 1 else pG bad z fin (lN n) f (k + 1) many 0 1))) := by
  obtain ⟨i1, i2⟩ := in33 _ (cc_b n k)
  rw [pG, if_pos (show nI k < 8 from nI_lt (b := 8) hk (by omega)), codeS hk, Int32.add_zero]
  by_cases c : cc n k = 0
  · rw [if_pos (i2.mpr c), if_pos c]
    simp only [if_pos (i2.mpr c), if_pos c]
  · rw [if_neg (fun q => c (i2.mp q)), if_neg c]
    simp only [i1, i2, if_neg c]
theorem pG_e (f : Nat) (many ok en : Int32) (w : Int64) : pG bad z fin w (f + 1) 8 many ok en = if ok = 0 then bad else fin many := by
  rw [pG, if_neg (show ¬ nI 8 < 8 by decide)]
theorem pG_bad (f : Nat) : ∀ k many en, k ≤ 8 → 8 - k < f → pG bad z fin (lN n) f k many 0 en = bad := by
  induction f with
  | zero => intro k many en _ h; omega
  | succ f ih =>
    intro k many en hk hf
    by_cases k8 : k < 8
    · rw [pG_s bad z fin k8]
      repeat' split
      all_goals first | exact ih (k + 1) _ _ (by omega) (by omega) | exact absurd rfl (by assumption)
    · have e : k = 8 := by omega
      rw [e, pG_e, if_pos rfl]
theorem pG_end (f : Nat) : ∀ k many, k ≤ 8 → 8 - k < f → ((∀ i, k ≤ i → i < 8 → cc n i = 0) ∧ pG bad z fin (lN n) f k many 1 1 = fin many) ∨ ((∃ i, k ≤ i ∧ i < 8 ∧ ¬ cc n i = 0) ∧ pG bad z fin (lN n) f k many 1 1 = bad) := by
  induction f with
  | zero => intro k many _ h; omega
  | succ f ih =>
    intro k many hk hf
    by_cases k8 : k < 8
    · rw [pG_s bad z fin k8, if_neg n10, if_neg n10]
      by_cases c : cc n k = 0
      · rw [if_pos c]
        rcases ih (k + 1) many (by omega) (by omega) with ⟨q1, q2⟩ | ⟨⟨i, q1, q3, q4⟩, q2⟩
        · refine Or.inl ⟨fun i hi hi8 => ?_, q2⟩
          by_cases e : i = k
          · rw [e]
            exact c
          · exact q1 i (by omega) hi8
        · exact Or.inr ⟨⟨i, by omega, q3, q4⟩, q2⟩
      · rw [if_neg c]
        exact Or.inr ⟨⟨k, by omega, k8, c⟩, pG_bad bad z fin f (k + 1) _ _ (by omega) (by omega)⟩
    · have e : k = 8 := by omega
      rw [e, pG_e, if_neg n10]
      exact Or.inl ⟨fun i h1 h2 => absurd h1 (by omega), rfl⟩
theorem zero_up {n : Nat} (hn : n < 2 ^ 64) : ∀ d k, k + d = 8 → (∀ i, k ≤ i → i < 8 → cc n i = 0) → qq n k = 0
  | 0, k, hk, _ => by
    rw [show k = 8 by omega]
    exact qq_8 hn
  | d + 1, k, hk, h => by
    have h1 := zero_up hn d (k + 1) (by omega) (fun i hi h8 => h i (by omega) h8)
    have h2 := h k (by omega) (by omega)
    rw [cc_q] at h2
    rw [qq_s] at h1
    omega
theorem pG_go (hn : n < 2 ^ 64) (f : Nat) : ∀ k, k ≤ 8 → 8 - k < f → (∀ i, i < k → 33 ≤ cc n i ∧ cc n i ≤ 126) → (∃ m, VC n m ∧ pG bad z fin (lN n) f k (nI k) 1 0 = fin (nI m)) ∨ ((∀ m, ¬ VC n m) ∧ pG bad z fin (lN n) f k (nI k) 1 0 = bad) := by
  induction f with
  | zero => intro k _ h; omega
  | succ f ih =>
    intro k hk hf hv
    by_cases k8 : k < 8
    · rw [pG_s bad z fin k8, if_pos rfl]
      simp only [if_neg n10]
      by_cases c : cc n k = 0
      · rw [if_pos c]
        rcases pG_end bad z fin (n := n) f (k + 1) (nI k) (by omega) (by omega) with ⟨q1, q2⟩ | ⟨⟨i, q1, q3, q4⟩, q2⟩
        · refine Or.inl ⟨k, ⟨hk, hv, zero_up hn (8 - k) k (by omega) (fun i hi h8 => ?_)⟩, q2⟩
          by_cases e : i = k
          · rw [e]
            exact c
          · exact q1 i (by omega) h8
        · refine Or.inr ⟨fun m hm => ?_, q2⟩
          rcases Nat.lt_or_ge k m with a | a
          · have := hm.2.1 k a
            omega
          · have := qq_up hm.2.2 i (by omega)
            rw [cc_q, this] at q4
            exact q4 rfl
      · rw [if_neg c]
        by_cases r : 33 ≤ cc n k ∧ cc n k ≤ 126
        · rw [if_neg (fun q => q r), nI_1]
          refine ih (k + 1) (by omega) (by omega) (fun i hi => ?_)
          by_cases ik : i = k
          · rw [ik]
            exact r
          · exact hv i (by omega)
        · rw [if_pos r]
          refine Or.inr ⟨fun m hm => ?_, pG_bad bad z fin f (k + 1) _ _ (by omega) (by omega)⟩
          rcases Nat.lt_or_ge k m with a | a
          · exact r (hm.2.1 k a)
          · have := qq_up hm.2.2 k a
            rw [cc_q, this] at c
            exact c rfl
    · have e : k = 8 := by omega
      subst e
      rw [pG_e, if_neg n10]
      exact Or.inl ⟨8, ⟨by omega, hv, qq_8 hn⟩, rfl⟩
end PGX
