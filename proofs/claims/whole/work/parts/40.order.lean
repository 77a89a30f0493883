/-! an order, read by the class and by the reference -/
theorem skip_c {t pd h : Nat → Int32} {ln : Int32} {p : Nat} (hT : TR t pd ln) (hh : AT h ln p) (hp : p < 1000) {c : Int32} (hc : 33 ≤ c.toInt) :
    (r_X5_signAt (nI p) pd ln = c ∧ r_X2_skip c h t = 1 ∧ c_X2_skip_h c h t = upd h 1 (nI (p + 1)) ∧ (p : Int) < ln.toInt) ∨ (¬ r_X5_signAt (nI p) pd ln = c ∧ r_X2_skip c h t = 0 ∧ c_X2_skip_h c h t = h) := by
  have q := nx_c hT hh hp hc
  unfold r_X2_skip c_X2_skip_h
  by_cases e : r_X2_next h t = c
  · rw [if_pos e, if_pos e, hh.2, nI_1]
    exact Or.inl ⟨q.mp e, rfl, rfl, sg_lt' (h := h) hT hp hc (q.mp e)⟩
  · rw [if_neg e, if_neg e]
    exact Or.inr ⟨fun z => e (q.mpr z), rfl, rfl⟩
theorem ngt {f : Nat} (hf : f < 2000) : (-1 - nI f : Int32).toInt = -1 - f := by
  have e : (-1 : Int32).toInt = -1 := rfl
  rw [ti_sub (by rw [e, nI_toInt (by omega)]; omega) (by rw [e, nI_toInt (by omega)]; omega), e, nI_toInt (by omega)]
theorem ngf {f : Nat} (hf : f < 2000) : (-1 - nI f : Int32) < 0 := lt_iff.mpr (by rw [ngt hf, z0]; omega)
theorem ng0 {f : Nat} (hf : f < 2000) : ¬ (0 : Int32) < -1 - nI f := nlt_iff.mpr (by rw [ngt hf, z0]; omega)
theorem AT_k {h : Nat → Int32} {ln v : Int32} {p k : Nat} (hh : AT h ln p) (hk : 2 ≤ k) : AT (upd h k v) ln p := ⟨(upd_lo (by omega)).trans hh.1, (upd_lo (by omega)).trans hh.2⟩
/-- where the samples of an order end -/
def smE (p : Int32) (pd : Nat → Int32) (ln : Int32) : Int32 := if 0 < r_X5_numberEnd (r_X5_behind (r_X5_numberEnd p pd ln) 44 pd ln) pd ln then (if r_X5_signAt (r_X5_numberEnd (r_X5_behind (r_X5_numberEnd p pd ln) 44 pd ln) pd ln) pd ln = 42 then r_X5_numberEnd (r_X5_numberEnd (r_X5_behind (r_X5_numberEnd p pd ln) 44 pd ln) pd ln + 1) pd ln else r_X5_numberEnd (r_X5_behind (r_X5_numberEnd p pd ln) 44 pd ln) pd ln) else r_X5_numberEnd (r_X5_behind (r_X5_numberEnd p pd ln) 44 pd ln) pd ln
def smO (p : Int32) (pd : Nat → Int32) (ln : Int32) : Int32 := if r_X5_signAt (r_X5_numberEnd (r_X5_numberEnd p pd ln + 1) pd ln) pd ln = 42 then r_X5_numberAt (r_X5_numberEnd (r_X5_numberEnd p pd ln + 1) pd ln + 1) pd ln else 1
theorem smp_c {t pd g : Nat → Int32} {ln : Int32} {p : Nat} (hT : TR t pd ln) (hh : AT g ln p) (hp : p < 300) (g5 : g 5 = 1) :
    (∃ f, f < 900 ∧ smE (nI p) pd ln = -1 - nI f ∧ r_X2_readSamples g t = 0 ∧ AT (c_X2_readSamples_h g t) ln f) ∨
    (∃ e, smE (nI p) pd ln = nI e ∧ p < e ∧ (e : Int) ≤ ln.toInt ∧ ¬ r_X2_readSamples g t = 0 ∧ AT (c_X2_readSamples_h g t) ln e ∧ c_X2_readSamples_h g t 2 = g 2 ∧ c_X2_readSamples_h g t 5 = smO (nI p) pd ln ∧ 0 ≤ (c_X2_readSamples_h g t 5).toInt ∧ (c_X2_readSamples_h g t 5).toInt ≤ 999 ∧ c_X2_readSamples_h g t 3 = r_X5_numberAt (nI p) pd ln ∧ c_X2_readSamples_h g t 4 = r_X5_numberAt (r_X5_numberEnd (nI p) pd ln + 1) pd ln) := by
  have hl := hT.2.1
  have nb : ∀ f : Nat, f < 2000 → r_X5_numberEnd (-1 - nI f) pd ln = -1 - nI f := fun f hf => by
    unfold r_X5_numberEnd
    rw [if_pos (ngf hf)]
  have m6 : (-6 : Int32) < 0 := by decide
  unfold r_X2_readSamples c_X2_readSamples_h smE smO
  rcases num_c hT hh (by omega) with ⟨q1, q2, q3⟩ | ⟨e1, v1, q1, q2, q3, q4, q5, q6, q7, q8⟩
  · left
    have hb : r_X5_behind (-1 - nI p) 44 pd ln = -1 - nI p := by
      unfold r_X5_behind
      rw [if_pos (ngf (by omega))]
    rw [q1, hb, nb p (by omega), if_neg (ng0 (by omega)), q2, q3, if_pos m6, if_pos m6]
    exact ⟨p, by omega, rfl, rfl, AT_k hh (by omega)⟩
  · have n1 : ¬ v1 < 0 := i_nn q3
    have ge : ¬ nI e1 < 0 := nI_pos (by omega)
    have hg1 : AT (upd (upd g 1 (nI e1)) 3 v1) ln e1 := AT_k (AT_upd hh) (by omega)
    rw [q1, q2, q7, q8, if_neg n1, if_neg n1]
    obtain ⟨g1, eg1⟩ : ∃ g1, upd (upd g 1 (nI e1)) 3 v1 = g1 := ⟨_, rfl⟩
    have g1k : ∀ k, k ≠ 1 → k ≠ 3 → g1 k = g k := fun k h1 h3 => by
      rw [← eg1]
      exact (upd_lo h3).trans (upd_lo h1)
    have g13 : g1 3 = v1 := by
      rw [← eg1]
      exact upd_eq
    rw [eg1] at hg1 ⊢
    rcases skip_c (c := 44) hT hg1 (by omega) (by decide) with ⟨s1, s2, s3, s4⟩ | ⟨s1, s2, s3⟩
    · have hb : r_X5_behind (nI e1) 44 pd ln = nI (e1 + 1) := by
        unfold r_X5_behind
        rw [if_neg ge, if_pos s1, nI_1]
      have hg2 : AT (upd g1 1 (nI (e1 + 1))) ln (e1 + 1) := AT_upd hg1
      rw [hb, s2, s3, if_neg n10, if_neg n10, nI_1]
      rcases num_c hT hg2 (by omega) with ⟨u1, u2, u3⟩ | ⟨e2, v2, u1, u2, u3, u4, u5, u6, u7, u8⟩
      · left
        rw [u1, if_neg (ng0 (by omega)), u2, u3, if_pos m6, if_pos m6, if_pos m6]
        exact ⟨e1 + 1, by omega, rfl, rfl, AT_k hg2 (by omega)⟩
      · have n2 : ¬ v2 < 0 := i_nn u3
        have p2 : (0 : Int32) < nI e2 := nI_lt (a := 0) (by omega) (by omega)
        rw [u1, if_pos p2, u7, u8, if_neg n2, if_neg n2, upd_upd1]
        have hg3 : AT (upd (upd g1 1 (nI e2)) 4 v2) ln e2 := AT_k (AT_upd hg1) (by omega)
        obtain ⟨g3, eg3⟩ : ∃ g3, upd (upd g1 1 (nI e2)) 4 v2 = g3 := ⟨_, rfl⟩
        have g3k : ∀ k, k ≠ 1 → k ≠ 4 → g3 k = g1 k := fun k h1 h4 => by
          rw [← eg3]
          exact (upd_lo h4).trans (upd_lo h1)
        have g34 : g3 4 = v2 := by
          rw [← eg3]
          exact upd_eq
        rw [eg3] at hg3 ⊢
        rcases skip_c (c := 42) hT hg3 (by omega) (by decide) with ⟨w1, w2, w3, w4⟩ | ⟨w1, w2, w3⟩
        · rw [if_pos w1, if_pos w1, w2, w3, if_neg n10, if_neg n10, nI_1]
          have hg4 : AT (upd g3 1 (nI (e2 + 1))) ln (e2 + 1) := AT_upd hg3
          rcases num_c hT hg4 (by omega) with ⟨x1, x2, x3⟩ | ⟨e3, v3, x1, x2, x3, x4, x5, x6, x7, x8⟩
          · left
            rw [x1, x2, x3, if_pos m6]
            exact ⟨e2 + 1, by omega, rfl, rfl, AT_k hg4 (by omega)⟩
          · right
            have n3 : ¬ v3 < 0 := i_nn x3
            rw [x1, x7, x8, if_neg n3, upd_upd1, x2, u2]
            have k : ∀ j, j ≠ 1 → j ≠ 5 → upd (upd g3 1 (nI e3)) 5 v3 j = g3 j := fun j h1 h5 => (upd_lo h5).trans (upd_lo h1)
            refine ⟨e3, rfl, by omega, by omega, n10, AT_k (AT_upd hg3) (by omega), ?_, upd_eq, ?_, ?_, ?_, ?_⟩
            · rw [k 2 (by decide) (by decide), g3k 2 (by decide) (by decide), g1k 2 (by decide) (by decide)]
            · rw [upd_eq]
              exact x3
            · rw [upd_eq]
              exact x4
            · rw [k 3 (by decide) (by decide), g3k 3 (by decide) (by decide), g13]
            · rw [k 4 (by decide) (by decide), g34]
        · right
          rw [if_neg w1, if_neg w1, w2, w3, if_pos rfl, if_pos rfl, g34, if_neg n2, u2]
          have e5 : g3 5 = 1 := by rw [g3k 5 (by decide) (by decide), g1k 5 (by decide) (by decide), g5]
          refine ⟨e2, rfl, by omega, u6, n10, hg3, ?_, e5, ?_, ?_, ?_, rfl⟩
          · rw [g3k 2 (by decide) (by decide), g1k 2 (by decide) (by decide)]
          · rw [e5]
            decide
          · rw [e5]
            decide
          · rw [g3k 3 (by decide) (by decide), g13]
    · left
      have hb : r_X5_behind (nI e1) 44 pd ln = -1 - nI e1 := by
        unfold r_X5_behind
        rw [if_neg ge, if_neg s1]
      rw [hb, nb e1 (by omega), if_neg (ng0 (by omega)), s2, s3, if_pos rfl, if_pos rfl]
      exact ⟨e1, by omega, rfl, rfl, hg1⟩
theorem m2 {p : Nat} (hp : p < 1000) : (-2 - nI p : Int32) = -1 - nI (p + 1) := by
  refine ti_eq.mpr ?_
  have e : (-2 : Int32).toInt = -2 := rfl
  rw [ngt (by omega), ti_sub (by rw [e, nI_toInt (by omega)]; omega) (by rw [e, nI_toInt (by omega)]; omega), e, nI_toInt (by omega)]
  omega
theorem ord_c {t pd h : Nat → Int32} {ln : Int32} {p : Nat} (hT : TR t pd ln) (hh : AT h ln p) (hp : p < 200) :
    (∃ f, f < 900 ∧ r_X5_orderEnd (nI p) pd ln = -1 - nI f ∧ r_X2_readOrder h t = 0 ∧ AT (c_X2_readOrder_h h t) ln f) ∨
    (∃ e, r_X5_orderEnd (nI p) pd ln = nI e ∧ p < e ∧ (e : Int) ≤ ln.toInt ∧ ¬ r_X2_readOrder h t = 0 ∧ AT (c_X2_readOrder_h h t) ln e ∧ c_X2_readOrder_h h t 2 = r_X5_signAt (nI p) pd ln ∧ c_X2_readOrder_h h t 5 = r_X5_ordersAt (nI p) pd ln ∧ 0 ≤ (c_X2_readOrder_h h t 5).toInt ∧ (c_X2_readOrder_h h t 5).toInt ≤ 999 ∧
      ((r_X5_signAt (nI p) pd ln = 115 ∧ c_X2_readOrder_h h t 3 = r_X5_numberAt (nI p + 1) pd ln ∧ c_X2_readOrder_h h t 4 = r_X5_numberAt (r_X5_numberEnd (nI p + 1) pd ln + 1) pd ln) ∨
       ((r_X5_signAt (nI p) pd ln = 98 ∨ r_X5_signAt (nI p) pd ln = 117) ∧ c_X2_readOrder_h h t 3 = r_X5_digit (nI p + 1) pd ln ∧ c_X2_readOrder_h h t 5 = 1))) := by
  have hl := hT.2.1
  have N := fun c (hc : 33 ≤ c.toInt) => nx_c (c := c) hT hh (by omega) hc
  have n115 := N 115 (by decide)
  have n98 := N 98 (by decide)
  have n117 := N 117 (by decide)
  have hg : AT (upd (upd (upd h 2 (r_X2_next h t)) 5 1) 1 (h 1 + 1)) ln (p + 1) := by
    refine ⟨(upd_lo (by decide)).trans ((upd_lo (by decide)).trans ((upd_lo (by decide)).trans hh.1)), ?_⟩
    rw [upd_eq, hh.2, nI_1]
  have g2 : upd (upd (upd h 2 (r_X2_next h t)) 5 1) 1 (h 1 + 1) 2 = r_X2_next h t := (upd_lo (by decide)).trans ((upd_lo (by decide)).trans upd_eq)
  have g5 : upd (upd (upd h 2 (r_X2_next h t)) 5 1) 1 (h 1 + 1) 5 = 1 := (upd_lo (by decide)).trans upd_eq
  unfold r_X2_readOrder c_X2_readOrder_h r_X5_orderEnd r_X5_ordersAt
  obtain ⟨g, eg⟩ : ∃ g, upd (upd (upd h 2 (r_X2_next h t)) 5 1) 1 (h 1 + 1) = g := ⟨_, rfl⟩
  rw [eg] at hg g2 g5 ⊢
  rw [nI_1]
  by_cases a : r_X5_signAt (nI p) pd ln = 115
  · have b : ¬ r_X5_signAt (nI p) pd ln = 98 := fun q => absurd (a.symm.trans q) (by decide)
    have a' := n115.mpr a
    rw [if_pos a', if_pos a', if_neg b, if_pos a, if_pos a]
    rcases smp_c hT hg (by omega) g5 with ⟨f, f1, f2, f3, f4⟩ | ⟨e, f1, f2, f3, f4, f5, f6, f7, f8, f9, f10, f11⟩
    · exact Or.inl ⟨f, f1, f2, f3, f4⟩
    · refine Or.inr ⟨e, f1, by omega, f3, f4, f5, ?_, f7, f8, f9, Or.inl ⟨a, f10, f11⟩⟩
      rw [f6, g2, a', a]
  · have a' : ¬ r_X2_next h t = 115 := fun q => a (n115.mp q)
    have key : ∀ c : Int32, r_X5_signAt (nI p) pd ln = c → r_X2_next h t = c → (c = 98 ∨ c = 117) → (∃ f, f < 900 ∧ (if r_X5_digit (nI (p + 1)) pd ln < 0 then -2 - nI p else nI p + 2) = -1 - nI f ∧ (if r_X2_readDigit g t < 0 then (0 : Int32) else 1) = 0 ∧ AT (upd (c_X2_readDigit_h g t) 3 (r_X2_readDigit g t)) ln f) ∨ (∃ e, (if r_X5_digit (nI (p + 1)) pd ln < 0 then -2 - nI p else nI p + 2) = nI e ∧ p < e ∧ (e : Int) ≤ ln.toInt ∧ ¬ (if r_X2_readDigit g t < 0 then (0 : Int32) else 1) = 0 ∧ AT (upd (c_X2_readDigit_h g t) 3 (r_X2_readDigit g t)) ln e ∧ upd (c_X2_readDigit_h g t) 3 (r_X2_readDigit g t) 2 = c ∧ upd (c_X2_readDigit_h g t) 3 (r_X2_readDigit g t) 5 = 1 ∧ upd (c_X2_readDigit_h g t) 3 (r_X2_readDigit g t) 3 = r_X5_digit (nI (p + 1)) pd ln) := fun c e1 e2 e3 => by
      rcases dg_c hT hg (by omega) with ⟨q1, q2, q3⟩ | ⟨v, q1, q2, q3, q4, q5, q6⟩
      · left
        rw [if_pos q1, q2, q3, if_pos (by decide)]
        exact ⟨p + 1, by omega, m2 (by omega), rfl, AT_k hg (by omega)⟩
      · right
        rw [q1, q4, q5, if_neg (i_nn q2), if_neg (i_nn q2)]
        refine ⟨p + 2, nI_add p 2, by omega, by omega, n10, AT_k (AT_upd hg) (by omega), ?_, ?_, upd_eq⟩
        · rw [upd_lo (by decide), upd_lo (by decide), g2, e2]
        · rw [upd_lo (by decide), upd_lo (by decide), g5]
    by_cases b : r_X5_signAt (nI p) pd ln = 98
    · have b' := n98.mpr b
      rw [if_neg a', if_neg a', if_pos b', if_pos b', if_pos b, if_neg a]
      rcases key 98 b b' (Or.inl rfl) with ⟨f, f1, f2, f3, f4⟩ | ⟨e, f1, f2, f3, f4, f5, f6, f7, f8⟩
      · exact Or.inl ⟨f, f1, f2, f3, f4⟩
      · exact Or.inr ⟨e, f1, f2, f3, f4, f5, f6.trans b.symm, f7, by rw [f7]; decide, by rw [f7]; decide, Or.inr ⟨Or.inl b, f8, f7⟩⟩
    · have b' : ¬ r_X2_next h t = 98 := fun q => b (n98.mp q)
      by_cases c : r_X5_signAt (nI p) pd ln = 117
      · have c' := n117.mpr c
        rw [if_neg a', if_neg a', if_neg b', if_neg b', if_pos c', if_pos c', if_neg b, if_neg a, if_pos c, if_neg a]
        rcases key 117 c c' (Or.inr rfl) with ⟨f, f1, f2, f3, f4⟩ | ⟨e, f1, f2, f3, f4, f5, f6, f7, f8⟩
        · exact Or.inl ⟨f, f1, f2, f3, f4⟩
        · exact Or.inr ⟨e, f1, f2, f3, f4, f5, f6.trans c.symm, f7, by rw [f7]; decide, by rw [f7]; decide, Or.inr ⟨Or.inr c, f8, f7⟩⟩
      · have c' : ¬ r_X2_next h t = 117 := fun q => c (n117.mp q)
        left
        rw [if_neg a', if_neg a', if_neg b', if_neg b', if_neg c', if_neg c', if_neg b, if_neg a, if_neg c]
        exact ⟨p, by omega, rfl, rfl, AT_k (AT_k hh (by omega)) (by omega)⟩
/-! whatever is read, an order is carried out 999 times at most -/
theorem rD_b (h t : Nat → Int32) : r_X2_readDigit h t = -6 ∨ (0 ≤ (r_X2_readDigit h t).toInt ∧ (r_X2_readDigit h t).toInt ≤ 9) := by
  unfold r_X2_readDigit
  by_cases a : r_X2_next h t < 48
  · exact Or.inl (if_pos a)
  · rw [if_neg a]
    by_cases b : 57 < r_X2_next h t
    · exact Or.inl (if_pos b)
    · rw [if_neg b]
      have a' := nlt_iff.mp a
      have b' := nlt_iff.mp b
      rw [z48] at a'
      rw [z57] at b'
      rw [ti_sub (by rw [z48]; omega) (by rw [z48]; omega), z48]
      exact Or.inr ⟨by omega, by omega⟩
theorem rD_k (h t : Nat → Int32) {k : Nat} (hk : k ≠ 1) : c_X2_readDigit_h h t k = h k := by
  unfold c_X2_readDigit_h
  repeat' split
  all_goals first | rfl | exact upd_lo hk
theorem rN_k (h t : Nat → Int32) {k : Nat} (hk : k ≠ 1) : c_X2_readNumber_h h t k = h k := by
  have hl : ∀ n w j h1, h1 k = h k → c_X2_readNumber_h_at13 h t n w j h1 k = h k := by
    intro n
    induction n with
    | zero => intro w j h1 e; exact e
    | succ n ih =>
      intro w j h1 e
      rw [(rN_s h t n w j h1).2]
      repeat' split
      · exact (rD_k h1 t hk).trans e
      · exact ih _ _ _ ((rD_k h1 t hk).trans e)
      · exact e
  unfold c_X2_readNumber_h
  split
  · exact hl _ _ _ _ (rD_k h t hk)
  · exact rD_k h t hk
theorem rN_b (h t : Nat → Int32) : (r_X2_readNumber h t).toInt ≤ 999 := by
  have step : ∀ n w j h1, 0 ≤ w.toInt ∧ w.toInt ≤ 99 → (∀ w' , 0 ≤ w'.toInt ∧ w'.toInt ≤ 10 * w.toInt + 9 → (r_X2_readNumber_at13 h t n w' (j + 1) (c_X2_readDigit_h h1 t)).toInt ≤ 999) → (r_X2_readNumber_at13 h t (n + 1) w j h1).toInt ≤ 999 := fun n w j h1 hw ih => by
    rw [(rN_s h t n w j h1).1]
    by_cases c : nI j < 3
    · rw [if_pos c]
      by_cases d : r_X2_readDigit h1 t < 0
      · rw [if_pos d]
        omega
      · rw [if_neg d]
        rcases rD_b h1 t with e | e
        · exact absurd (by rw [e]; decide) d
        · exact ih _ (by rw [ten hw e]; omega)
    · rw [if_neg c]
      omega
  unfold r_X2_readNumber
  by_cases a : 0 < r_X2_readDigit h t
  · rw [if_pos a]
    rcases rD_b h t with e | e
    · rw [e] at a
      exact absurd a (by decide)
    · refine step 3 _ 1 _ ⟨e.1, by omega⟩ (fun w hw => step 2 w 2 _ ⟨hw.1, by omega⟩ (fun x hx => ?_))
      rw [(rN_s h t 1 x 3 _).1, if_neg d12.2.2]
      omega
  · rw [if_neg a]
    rcases rD_b h t with e | e
    · rw [e]
      decide
    · omega
theorem sk_k (c : Int32) (h t : Nat → Int32) {k : Nat} (hk : k ≠ 1) : c_X2_skip_h c h t k = h k := by
  unfold c_X2_skip_h
  split
  · exact upd_lo hk
  · rfl
theorem t999 (h t : Nat → Int32) : (c_X2_readOrder_h h t 5).toInt ≤ 999 := by
  have g5 : upd (upd (upd h 2 (r_X2_next h t)) 5 1) 1 (h 1 + 1) 5 = 1 := (upd_lo (by decide)).trans upd_eq
  have sm : ∀ g, g 5 = 1 → (c_X2_readSamples_h g t 5).toInt ≤ 999 := fun g e => by
    have one : ∀ f : Nat → Int32, f 5 = 1 → (f 5).toInt ≤ 999 := fun f e => by rw [e]; decide
    have s1 : ∀ f v, f 5 = 1 → upd (c_X2_readNumber_h f t) 3 v 5 = 1 := fun f v e => (upd_lo (by decide)).trans ((rN_k f t (by decide)).trans e)
    have s2 : ∀ f v, f 5 = 1 → upd (c_X2_readNumber_h f t) 4 v 5 = 1 := fun f v e => (upd_lo (by decide)).trans ((rN_k f t (by decide)).trans e)
    have s3 : ∀ c f, f 5 = 1 → c_X2_skip_h c f t 5 = 1 := fun c f e => (sk_k c f t (by decide)).trans e
    unfold c_X2_readSamples_h
    repeat' split
    · exact one _ (s1 _ _ e)
    · exact one _ (s3 _ _ (s1 _ _ e))
    · exact one _ (s2 _ _ (s3 _ _ (s1 _ _ e)))
    · exact one _ (s3 _ _ (s2 _ _ (s3 _ _ (s1 _ _ e))))
    · rw [upd_eq]
      exact rN_b _ _
  unfold c_X2_readOrder_h
  repeat' split
  · exact sm _ g5
  · rw [upd_lo (by decide), rD_k _ _ (by decide), g5]
    decide
  · rw [upd_lo (by decide), rD_k _ _ (by decide), g5]
    decide
  · rw [upd_eq]
    decide
theorem t9 (t : Nat → Int32) : ∀ h1, (r_X2_readOrder h1 t = 0 → False) → (c_X2_readOrder_h h1 t 5).toInt ≤ 999 := fun h1 _ => t999 h1 t
