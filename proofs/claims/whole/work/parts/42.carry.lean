/-! carryOut, beside the reference's -/
theorem ord_of {t pd h : Nat → Int32} {ln : Int32} {p : Nat} (hT : TR t pd ln) (hh : AT h ln p) (hp : p < 200) (h0 : 0 ≤ (r_X5_orderEnd (nI p) pd ln).toInt) :
    ∃ e, r_X5_orderEnd (nI p) pd ln = nI e ∧ p < e ∧ (e : Int) ≤ ln.toInt ∧ ¬ r_X2_readOrder h t = 0 ∧ AT (c_X2_readOrder_h h t) ln e ∧ c_X2_readOrder_h h t 2 = r_X5_signAt (nI p) pd ln ∧ c_X2_readOrder_h h t 5 = r_X5_ordersAt (nI p) pd ln ∧ 0 ≤ (c_X2_readOrder_h h t 5).toInt ∧ (c_X2_readOrder_h h t 5).toInt ≤ 999 ∧
      ((r_X5_signAt (nI p) pd ln = 115 ∧ c_X2_readOrder_h h t 3 = r_X5_numberAt (nI p + 1) pd ln ∧ c_X2_readOrder_h h t 4 = r_X5_numberAt (r_X5_numberEnd (nI p + 1) pd ln + 1) pd ln) ∨
       ((r_X5_signAt (nI p) pd ln = 98 ∨ r_X5_signAt (nI p) pd ln = 117) ∧ c_X2_readOrder_h h t 3 = r_X5_digit (nI p + 1) pd ln ∧ c_X2_readOrder_h h t 5 = 1)) := by
  rcases ord_c hT hh hp with ⟨f, f1, f2, -⟩ | h
  · rw [f2, ngt (by omega)] at h0
    omega
  · exact h
theorem ord_end {t pd h : Nat → Int32} {ln : Int32} {p : Nat} (hT : TR t pd ln) (hh : AT h ln p) (hp : p < 200) (hl : ¬ (p : Int) < ln.toInt) : r_X2_readOrder h t = 0 := by
  rcases ord_c hT hh hp with ⟨f, f1, f2, f3, -⟩ | ⟨e, f1, f2, f3, -⟩
  · exact f3
  · omega
set_option maxRecDepth 100000 in
theorem carry_l {t pd : Nat → Int32} {ln : Int32} (hT : TR t pd ln) (S : SS) (h : Nat → Int32) (n : Nat) : ∀ k p S1 r1 h1 N, n + k = 81 → 2 * k ≤ p → p ≤ 80 → okV pd ln (nI p) → AT h1 ln p → RS S1 r1 9999 →
    ∃ N' R', r_X4_carryOutOrders_at11 S h t n N k S1 h1 = N' ∧ RS (c_X4_carryOutOrders_1_at11 S h t n N k S1 h1) R' 9999 ∧ ∀ (α : Type) (fin z : Int32 → (Nat → Int32) → α) (F : Nat), (82 - p) * 501 ≤ F → cG fin z pd ln F N (nI p) 1 (r_X5_ordersAt (nI p) pd ln) r1 = fin N' R' := by
  have hl := hT.2.1
  induction n with
  | zero => intro k p S1 r1 h1 N a b c; omega
  | succ n ih =>
    intro k p S1 r1 h1 N ha hb hc hok hh hR
    obtain ⟨nn, hok⟩ := hok
    match nn, hok with
    | nn + 1, hok =>
      obtain ⟨o0, o1⟩ := hok
      obtain ⟨e, e1, e2, e3, e4, e5, e6, e7, e8, e9, e10⟩ := ord_of hT hh (by omega) o0
      rw [e1] at o1
      have k80 : nI k < 80 := n_80 (by omega)
      have Q1 : r_X4_carryOutOrders_at11 S h t (n + 1) N k S1 h1 = if nI k < 80 then (if r_X2_readOrder h1 t = 0 then N else (if c_X2_readOrder_h h1 t 2 = 115 then (if r_X4_takeFromPad S1 (c_X2_readOrder_h h1 t) < c_X2_readOrder_h h1 t 5 then N + r_X4_takeFromPad S1 (c_X2_readOrder_h h1 t) else r_X4_carryOutOrders_at11 S h t n (N + r_X4_takeFromPad S1 (c_X2_readOrder_h h1 t)) (k + 1) (c_X4_takeFromPad_1 S1 (c_X2_readOrder_h h1 t)) (c_X2_skip_h 59 (c_X2_readOrder_h h1 t) t)) else (if r_X4_moveButtonFromPad S1 (c_X2_readOrder_h h1 t) < c_X2_readOrder_h h1 t 5 then N + r_X4_moveButtonFromPad S1 (c_X2_readOrder_h h1 t) else r_X4_carryOutOrders_at11 S h t n (N + r_X4_moveButtonFromPad S1 (c_X2_readOrder_h h1 t)) (k + 1) (c_X4_moveButtonFromPad_1 S1 (c_X2_readOrder_h h1 t)) (c_X2_skip_h 59 (c_X2_readOrder_h h1 t) t)))) else N := rfl
      have Q2 : c_X4_carryOutOrders_1_at11 S h t (n + 1) N k S1 h1 = if nI k < 80 then (if r_X2_readOrder h1 t = 0 then S1 else (if c_X2_readOrder_h h1 t 2 = 115 then (if r_X4_takeFromPad S1 (c_X2_readOrder_h h1 t) < c_X2_readOrder_h h1 t 5 then c_X4_takeFromPad_1 S1 (c_X2_readOrder_h h1 t) else c_X4_carryOutOrders_1_at11 S h t n (N + r_X4_takeFromPad S1 (c_X2_readOrder_h h1 t)) (k + 1) (c_X4_takeFromPad_1 S1 (c_X2_readOrder_h h1 t)) (c_X2_skip_h 59 (c_X2_readOrder_h h1 t) t)) else (if r_X4_moveButtonFromPad S1 (c_X2_readOrder_h h1 t) < c_X2_readOrder_h h1 t 5 then c_X4_moveButtonFromPad_1 S1 (c_X2_readOrder_h h1 t) else c_X4_carryOutOrders_1_at11 S h t n (N + r_X4_moveButtonFromPad S1 (c_X2_readOrder_h h1 t)) (k + 1) (c_X4_moveButtonFromPad_1 S1 (c_X2_readOrder_h h1 t)) (c_X2_skip_h 59 (c_X2_readOrder_h h1 t) t)))) else S1 := rfl
      rw [Q1, Q2, if_pos k80, if_pos k80, if_neg e4, if_neg e4]
      obtain ⟨g, eg⟩ : ∃ g, c_X2_readOrder_h h1 t = g := ⟨_, rfl⟩
      rw [eg] at e5 e6 e7 e8 e9 e10 ⊢
      obtain ⟨m, hm, em⟩ := nI_of (x := g 5) (i_nn e8)
      rw [em, nI_toInt hm] at e8 e9
      rw [← e7, em]
      -- what is behind the order
      have go : ∀ (S2 : SS) (r2 : Nat → Int32) (j : Nat), RS S2 r2 9999 → DID pd ln (nI p) m r1 j r2 → ∃ N' R', (if nI j < nI m then N + nI j else r_X4_carryOutOrders_at11 S h t n (N + nI j) (k + 1) S2 (c_X2_skip_h 59 g t)) = N' ∧ RS (if nI j < nI m then S2 else c_X4_carryOutOrders_1_at11 S h t n (N + nI j) (k + 1) S2 (c_X2_skip_h 59 g t)) R' 9999 ∧ ∀ (α : Type) (fin z : Int32 → (Nat → Int32) → α) (F : Nat), (82 - p) * 501 ≤ F → cG fin z pd ln F N (nI p) 1 (nI m) r1 = fin N' R' := by
        intro S2 r2 j hR2 hD
        rcases hD with ⟨d1, d2⟩ | ⟨d1, d2⟩
        · subst d1
          have nj : ¬ nI j < nI j := nI_nlt (by omega) (by omega)
          rw [if_neg nj, if_neg nj]
          by_cases hend : nI e = ln
          · have el : (e : Int) = ln.toInt := by rw [← hend, nI_toInt (by omega)]
            have hs : ¬ r_X5_signAt (nI e) pd ln = 59 := fun q => by
              have := sg_lt' (h := h) hT (by omega) (by decide) q
              omega
            rcases skip_c (c := 59) hT e5 (by omega) (by decide) with ⟨w1, -⟩ | ⟨-, -, w3⟩
            · exact absurd w1 hs
            · rw [w3]
              match n, ha with
              | n + 1, ha =>
                have k81 : nI (k + 1) < 80 := n_80 (by omega)
                have re : r_X2_readOrder g t = 0 := ord_end hT e5 (by omega) (by omega)
                refine ⟨N + nI j, r2, ?_, ?_, fun α fin z F hF => ?_⟩
                · show (if nI (k + 1) < 80 then (if r_X2_readOrder g t = 0 then N + nI j else _) else N + nI j) = _
                  rw [if_pos k81, if_pos re]
                · show RS (if nI (k + 1) < 80 then (if r_X2_readOrder g t = 0 then S2 else _) else S2) r2 9999
                  rw [if_pos k81, if_pos re]
                  exact hR2
                · obtain ⟨F', rfl⟩ : ∃ F', F = (F' + 1) + j := ⟨F - j - 1, by omega⟩
                  rw [d2, cG_next, e1, nI_1, if_neg (nlt_iff.mpr (by rw [nI_toInt (by omega)]; omega))]
              | 0, ha => omega
          · rcases o1 with q | ⟨q1, q2⟩
            · exact absurd q hend
            · rcases skip_c (c := 59) hT e5 (by omega) (by decide) with ⟨w1, w2, w3, w4⟩ | ⟨w1, -⟩
              · rw [w3]
                rw [nI_1] at q2
                have hh2 : AT (upd g 1 (nI (e + 1))) ln (e + 1) := AT_upd e5
                have hne : (e : Int) + 1 < ln.toInt := by
                  match nn, q2 with
                  | nn + 1, q2 =>
                    obtain ⟨e', -, z2, z3, -⟩ := ord_of hT hh2 (by omega) q2.1
                    omega
                obtain ⟨N', R', i1, i2, i3⟩ := ih (k + 1) (e + 1) S2 r2 _ (N + nI j) (by omega) (by omega) (by omega) ⟨nn, q2⟩ hh2 hR2
                refine ⟨N', R', i1, i2, fun α fin z F hF => ?_⟩
                obtain ⟨F', rfl⟩ : ∃ F', F = (F' + 1) + j := ⟨F - j - 1, by omega⟩
                rw [d2, cG_next, e1, nI_1, if_pos (lt_iff.mpr (by rw [nI_toInt (by omega)]; omega))]
                exact i3 α fin z F' (by omega)
              · exact absurd q1 w1
        · have nj : nI j < nI m := nI_lt d1 (by omega)
          rw [if_pos nj, if_pos nj]
          refine ⟨N + nI j, r2, rfl, hR2, fun α fin z F hF => ?_⟩
          obtain ⟨F', rfl⟩ : ∃ F', F = (F' + 1) + m := ⟨F - m - 1, by omega⟩
          obtain ⟨k', hk'⟩ := d2 α fin z (F' + 1) N
          rw [hk', show F' + 1 + (m - (j + 1)) = (F' + (m - (j + 1))) + 1 by omega, cG_stop]
      rcases e10 with ⟨s1, s2, s3⟩ | ⟨s1, s2, s3⟩
      · have k2 : g 2 = 115 := e6.trans s1
        rw [if_pos k2, if_pos k2]
        obtain ⟨j, r2, j1, j2, j3, j4⟩ := inner_s (pl := nI p) (by omega) em s2 s3 s1 S1 m 0 1001 S1 r1 (by omega) (by omega) hR
        have j2' : r_X4_takeFromPad S1 g = nI j := by
          show r_X4_takeFromPad_at2 S1 g 1001 (nI 0) S1 = _
          rw [j2, Nat.zero_add]
        rw [j2']
        exact go _ r2 j j3 j4
      · have k2 : ¬ g 2 = 115 := fun q => by
          rw [e6] at q
          rcases s1 with s | s
          · exact absurd (s.symm.trans q) (by decide)
          · exact absurd (s.symm.trans q) (by decide)
        rw [if_neg k2, if_neg k2]
        obtain ⟨j, r2, j1, j2, j3, j4⟩ := inner_b (pl := nI p) s2 e6 s1 hR
        have m1 : m = 1 := (nI_eq (b := 1) hm (by omega)).mp (em.symm.trans s3)
        subst m1
        rw [j2]
        exact go _ r2 j j3 j4
theorem carry_sim {S : SS} {y : HS} {r past : Nat → Int32} {kk : Nat} {h t pd : Nat → Int32} {ln : Int32} (hW : W1 S y r past kk) (hT : TR t pd ln) (h0 : h 0 = ln) :
    r_X4_carryOut S h t y = r_X5_carryOut r past kk pd ln ∧ c_X4_carryOut_h S h t y 0 = c_X5_carryOut_ln r past kk pd ln ∧ (c_X5_carryOut_ln r past kk pd ln = 0 ∨ c_X5_carryOut_ln r past kk pd ln = ln) ∧
      ∃ k', c_X5_carryOut_kn r past kk pd ln = nI k' ∧ W1 (c_X4_carryOut_1 S h t y) (c_X4_carryOut_y S h t y) (c_X5_carryOut_s r past kk pd ln) (c_X5_carryOut_past r past kk pd ln) k' := by
  obtain ⟨f1, f2⟩ := fault_sim hT h0
  unfold r_X4_carryOut r_X5_carryOut c_X4_carryOut_h c_X4_carryOut_1 c_X4_carryOut_y c_X5_carryOut_ln c_X5_carryOut_kn c_X5_carryOut_s c_X5_carryOut_past
  rw [f1]
  by_cases c : r_X5_fault pd ln = -6
  · simp only [if_pos c]
    have hok := fault_ok hT.2.1 c
    have hg : AT (c_X2_goToStart_h (c_X2_firstFault_h h t) t) ln 0 := ⟨(upd_lo (by decide)).trans f2, upd_eq⟩
    have hln : (0 : Int32) < ln := by
      obtain ⟨nn, q⟩ := hok
      match nn, q with
      | nn + 1, q =>
        obtain ⟨e, -, e2, e3, -⟩ := ord_of (p := 0) hT hg (by omega) q.1
        exact lt_iff.mpr (by rw [z0]; omega)
    simp only [if_pos hln]
    obtain ⟨N', R', i1, i2, i3⟩ := carry_l hT S (c_X2_firstFault_h h t) 81 0 0 S r _ 0 (by omega) (by omega) (by omega) hok hg hW.1
    have i4 := fun (α : Type) (fin z : Int32 → (Nat → Int32) → α) => i3 α fin z 82000 (by omega)
    rw [cG_r, cG_s, cG_p, cG_k, cG_l]
    have I := fun (α : Type) (fin z : Int32 → (Nat → Int32) → α) => (i4 α fin z)
    have Z : nI 0 = 0 := rfl
    rw [Z] at I
    rw [I, I, I, I, I]
    exact ⟨i1, rfl, Or.inl rfl, kn1 kk, rfl, i2, keep_rel hW.1 hW.2⟩
  · simp only [if_neg c]
    exact ⟨trivial, f2, Or.inr trivial, kk, rfl, hW⟩
/-- rows that belong to a stick -/
def JR (q : Nat → Int32) : Prop := ∃ S, RS S q 9999
theorem JR_SH : ∀ q, JR q → SH q := fun q h => by
  obtain ⟨S, h⟩ := h
  exact RS_SH h
theorem JR_c (pd : Nat → Int32) (ln : Int32) : ∀ p q, 0 ≤ p.toInt ∧ p.toInt ≤ 80 → JR q → JR (c_X5_carries_s p q pd ln) := fun p q _ h => by
  obtain ⟨S, h⟩ := h
  unfold c_X5_carries_s
  repeat' split
  · exact ⟨S, h⟩
  · exact ⟨_, (push_RS h _).2⟩
  · exact ⟨S, h⟩
  · exact ⟨_, (rel_RS h _).2⟩
  · next w => exact ⟨_, one_more h w⟩
  · exact ⟨S, h⟩
