theorem nch : ∀ a, a < 256 → fits .char (.int (nI a)) = true ∧ vp_nar .char (nI a) = nI a := by decide +kernel
theorem chT_1 {a : Nat} (ha : a < 256) : narrow .char (.int (nI a)) = .int (nI a) ∧ fits .char (.int (nI a)) = true := by
  obtain ⟨h1, h2⟩ := nch a ha
  refine ⟨?_, h1⟩
  have e : narrow .char (.int (nI a)) = .int (vp_nar .char (nI a)) := rfl
  rw [e, h2]
theorem bI : ∀ c, c < 9 → ((nI (c + 1) - 1 = nI c) ∧ nI c + (-1) = nI c - 1 ∧ ¬ nI c < 0) ∧ (nI 0 - 1 < 0) := by decide +kernel
theorem TR_put {t pd : Nat → Int32} {ln : Int32} (hT : TR t pd ln) (hl : ln.toInt < 80) {a : Nat} (ha : 33 ≤ a ∧ a ≤ 126) : TR (upd t ln.toNatClampNeg (nI a)) (upd pd ln.toNatClampNeg (nI a)) (ln + 1) := by
  obtain ⟨h0, h1, h2, h3⟩ := hT
  have e1 : (ln + 1).toInt = ln.toInt + 1 := i_1 (by omega)
  have ec := i_cl h0
  refine ⟨by omega, by omega, fun j => ?_, fun j hj => ?_⟩
  · by_cases c : j = ln.toNatClampNeg
    · rw [c, upd_eq]
      exact chT_1 (by omega)
    · rw [upd_lo c]
      exact h2 j
  · by_cases c : j = ln.toNatClampNeg
    · rw [c, upd_eq, upd_eq, nI_toInt (by omega)]
      exact ⟨rfl, by omega, by omega⟩
    · rw [upd_lo c, upd_lo c]
      exact h3 j (by omega)
theorem app_l {n : Nat} (hn : n < 2 ^ 64) (h t pd : Nat → Int32) (ln : Int32) (f : Nat) : ∀ c h1 t1 pd1 ln1, c ≤ 8 → c < f → (∀ i, i < c → 33 ≤ cc n i ∧ cc n i ≤ 126) → TR t1 pd1 ln1 → h1 0 = ln1 → ln1.toInt + c ≤ 80 →
    r_X2_append_at31 (lN n) h t f (nI c - 1) h1 t1 = r_X5_put_at136 (lN n) pd ln f (nI c - 1) pd1 ln1 ∧ c_X2_append_h_at31 (lN n) h t f (nI c - 1) h1 t1 0 = c_X5_put_ln_at136 (lN n) pd ln f (nI c - 1) pd1 ln1 ∧ TR (c_X2_append_t_at31 (lN n) h t f (nI c - 1) h1 t1) (c_X5_put_pd_at136 (lN n) pd ln f (nI c - 1) pd1 ln1) (c_X5_put_ln_at136 (lN n) pd ln f (nI c - 1) pd1 ln1) := by
  induction f with
  | zero => intro c h1 t1 pd1 ln1 _ h2; omega
  | succ f ih =>
    intro c h1 t1 pd1 ln1 hc hf hv hT hh hb
    rw [r_X2_append_at31, c_X2_append_h_at31, c_X2_append_t_at31, r_X5_put_at136, c_X5_put_ln_at136, c_X5_put_pd_at136, hh]
    by_cases c0 : c = 0
    · subst c0
      have q := (bI 0 (by omega)).2
      rw [if_pos q, if_pos q, if_pos q, if_pos q, if_pos q, if_pos q]
      exact ⟨rfl, hh, hT⟩
    · obtain ⟨d, rfl⟩ : ∃ d, c = d + 1 := ⟨c - 1, by omega⟩
      obtain ⟨⟨b1, b2, b3⟩, -⟩ := bI d (by omega)
      have l80 : ln1 < 80 := lt_iff.mpr (by rw [z80]; omega)
      have C := codeU (k := d) hn (by omega)
      have C2 := codeS (n := n) (k := d) (by omega)
      rw [b1, b2, b8 d (by omega), C, C2, chr _ (cc_b n d), if_neg b3, if_neg b3, if_neg b3, if_neg b3, if_neg b3, if_neg b3, if_pos l80, if_pos l80, if_pos l80]
      have r := hv d (by omega)
      have e1 : (ln1 + 1).toInt = ln1.toInt + 1 := i_1 (by have := hT.1; omega)
      exact ih d _ _ _ _ (by omega) (by omega) (fun i hi => hv i (by omega)) (TR_put hT (by omega) r) upd_eq (by omega)
theorem put_sim {h t pd : Nat → Int32} {ln : Int32} (hT : TR t pd ln) (h0 : h 0 = ln) (w : Int64) :
    r_X4_put w h t = r_X5_put w pd ln ∧ c_X4_put_h w h t 0 = c_X5_put_ln w pd ln ∧ TR (c_X4_put_t w h t) (c_X5_put_pd w pd ln) (c_X5_put_ln w pd ln) := by
  obtain ⟨n, hn, rfl⟩ := wb_of w
  unfold r_X4_put c_X4_put_h c_X4_put_t r_X2_append c_X2_append_h c_X2_append_t r_X5_put c_X5_put_ln c_X5_put_pd r_X2_charactersIn
  rw [pG_r, pG_l, pG_p, h0]
  have K : nI 0 = 0 := rfl
  have G := fun (α : Type) (bad z : α) (fin : Int32 → α) => pG_go bad z fin hn 9 0 (by omega) (by omega) (fun i hi => absurd hi (by omega))
  rw [K] at G
  have C := chars_l hn (lN n) 9 0 (by omega) (by omega) (fun i hi => absurd hi (by omega))
  rw [qq_0] at C
  have pick : ∀ (α : Type) (bad z : α) (fin : Int32 → α) m, VC n m → pG bad z fin (lN n) 9 0 0 1 0 = fin (nI m) := fun α bad z fin m hm => by
    rcases G α bad z fin with ⟨m', q1, q2⟩ | ⟨q1, -⟩
    · rw [q2, VC_u q1 hm]
    · exact absurd hm (q1 m)
  have pick0 : ∀ (α : Type) (bad z : α) (fin : Int32 → α), (∀ m, ¬ VC n m) → pG bad z fin (lN n) 9 0 0 1 0 = bad := fun α bad z fin hm => by
    rcases G α bad z fin with ⟨m', q1, q2⟩ | ⟨-, q2⟩
    · exact absurd q1 (hm m')
    · exact q2
  rcases C with ⟨m, hm, e⟩ | ⟨hm, e⟩
  · rw [e, pick _ _ _ _ m hm, pick _ _ _ _ m hm, pick _ _ _ _ m hm]
    by_cases m0 : nI m = 0
    · simp only [if_pos m0]
      exact ⟨trivial, h0, hT⟩
    · simp only [if_neg m0]
      by_cases l : 80 < ln + nI m
      · simp only [if_pos l]
        exact ⟨trivial, h0, hT⟩
      · simp only [if_neg l]
        have hl0 := hT.1
        have hl1 := hT.2.1
        have hm8 := hm.1
        have em : (ln + nI m).toInt = ln.toInt + m := by rw [ti_add (by rw [nI_toInt (by omega)]; omega) (by rw [nI_toInt (by omega)]; omega), nI_toInt (by omega)]
        have l' := nlt_iff.mp l
        rw [z80, em] at l'
        exact app_l hn h t pd ln 10 m h t pd ln hm.1 (by omega) hm.2.1 hT h0 (by omega)
  · rw [e, pick0 _ _ _ _ hm, pick0 _ _ _ _ hm, pick0 _ _ _ _ hm]
    rw [if_pos rfl, if_pos rfl, if_pos rfl]
    exact ⟨rfl, h0, hT⟩
theorem TR_0 {t pd : Nat → Int32} {ln : Int32} (hT : TR t pd ln) : TR t pd 0 := ⟨by decide, by decide, hT.2.2.1, fun j hj => absurd hj (by rw [z0]; omega)⟩
