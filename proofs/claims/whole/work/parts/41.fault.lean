/-! fault, beside the reference's -/
theorem n_80 {k : Nat} (hk : k < 80) : nI k < 80 := nI_lt (b := 80) hk (by omega)
theorem fault_l {t pd : Nat → Int32} {ln : Int32} (h t0 : Nat → Int32) (hT : TR t0 pd ln) (n : Nat) : ∀ k p h1, AT h1 ln p → p ≤ 81 → 2 * k ≤ p → r_X2_firstFault_at6 h t0 n k h1 = r_X5_fault_at4 pd ln n (nI p) k ∧ c_X2_firstFault_h_at6 h t0 n k h1 0 = ln := by
  have hl := hT.2.1
  induction n with
  | zero => intro k p h1 hh _ _; exact ⟨rfl, hh.1⟩
  | succ n ih =>
    intro k p h1 hh hp hk
    show (if nI k < 80 then (if r_X2_readOrder h1 t0 = 0 then c_X2_readOrder_h h1 t0 1 else (if c_X2_readOrder_h h1 t0 1 = c_X2_readOrder_h h1 t0 0 then -6 else (if r_X2_skip 59 (c_X2_readOrder_h h1 t0) t0 = 0 then c_X2_skip_h 59 (c_X2_readOrder_h h1 t0) t0 1 else r_X2_firstFault_at6 h t0 n (k + 1) (c_X2_skip_h 59 (c_X2_readOrder_h h1 t0) t0)))) else h1 1) = (if nI k < 80 then (if r_X5_orderEnd (nI p) pd ln < 0 then -1 - r_X5_orderEnd (nI p) pd ln else (if r_X5_orderEnd (nI p) pd ln = ln then -6 else (if r_X5_signAt (r_X5_orderEnd (nI p) pd ln) pd ln = 59 then r_X5_fault_at4 pd ln n (r_X5_orderEnd (nI p) pd ln + 1) (k + 1) else r_X5_orderEnd (nI p) pd ln))) else -6) ∧ (if nI k < 80 then (if r_X2_readOrder h1 t0 = 0 then c_X2_readOrder_h h1 t0 else (if c_X2_readOrder_h h1 t0 1 = c_X2_readOrder_h h1 t0 0 then c_X2_readOrder_h h1 t0 else (if r_X2_skip 59 (c_X2_readOrder_h h1 t0) t0 = 0 then c_X2_skip_h 59 (c_X2_readOrder_h h1 t0) t0 else c_X2_firstFault_h_at6 h t0 n (k + 1) (c_X2_skip_h 59 (c_X2_readOrder_h h1 t0) t0)))) else h1) 0 = ln
    have k80 : nI k < 80 := n_80 (by omega)
    rw [if_pos k80, if_pos k80, if_pos k80]
    rcases ord_c hT hh (by omega) with ⟨f, f1, f2, f3, f4⟩ | ⟨e, f1, f2, f3, f4, f5, -⟩
    · rw [if_pos f3, if_pos f3, f2, if_pos (ngf (by omega))]
      refine ⟨?_, f4.1⟩
      rw [f4.2]
      refine ti_eq.mpr ?_
      have e1 : (-1 : Int32).toInt = -1 := rfl
      rw [ti_sub (by rw [e1, ngt (by omega)]; omega) (by rw [e1, ngt (by omega)]; omega), e1, ngt (by omega), nI_toInt (by omega)]
      omega
    · have en : ¬ nI e < 0 := nI_pos (by omega)
      rw [if_neg f4, if_neg f4, f1, if_neg en, f5.1, f5.2]
      by_cases q : nI e = ln
      · rw [if_pos q, if_pos q, if_pos q]
        exact ⟨rfl, f5.1⟩
      · rw [if_neg q, if_neg q, if_neg q]
        rcases skip_c (c := 59) hT f5 (by omega) (by decide) with ⟨w1, w2, w3, w4⟩ | ⟨w1, w2, w3⟩
        · rw [if_pos w1, w2, w3, if_neg n10, if_neg n10, nI_1]
          exact ih (k + 1) (e + 1) _ (AT_upd f5) (by omega) (by omega)
        · rw [if_neg w1, w2, w3, if_pos rfl, if_pos rfl, f5.2]
          exact ⟨rfl, f5.1⟩
theorem fault_sim {h t pd : Nat → Int32} {ln : Int32} (hT : TR t pd ln) (h0 : h 0 = ln) : r_X2_firstFault h t = r_X5_fault pd ln ∧ c_X2_firstFault_h h t 0 = ln :=
  fault_l (t := t) h t hT 81 0 0 _ ⟨(upd_lo (by decide)).trans h0, upd_eq⟩ (by omega) (by omega)
/-! the loop of carryOut, whatever is kept of it -/
def cG {α : Type} (fin z : Int32 → (Nat → Int32) → α) (pd : Nat → Int32) (ln : Int32) : Nat → Int32 → Int32 → Int32 → Int32 → (Nat → Int32) → α
  | 0, n1, _, _, _, r1 => z n1 r1
  | n + 1, n1, pl, go, k, r1 => if 0 < k then (if go = 0 then (if r_X5_orderEnd pl pd ln + 1 < ln then (if go = 0 then fin n1 r1 else cG fin z pd ln n n1 (r_X5_orderEnd pl pd ln + 1) go (r_X5_ordersAt (r_X5_orderEnd pl pd ln + 1) pd ln) r1) else fin n1 r1) else (if r_X5_carries pl r1 pd ln = 0 then cG fin z pd ln n (n1 + 1) pl 1 (k + (-1)) (c_X5_carries_s pl r1 pd ln) else cG fin z pd ln n (n1 + 0) pl 0 (k + (-1)) (c_X5_carries_s pl r1 pd ln))) else (if r_X5_orderEnd pl pd ln + 1 < ln then (if go = 0 then fin n1 r1 else cG fin z pd ln n n1 (r_X5_orderEnd pl pd ln + 1) go (r_X5_ordersAt (r_X5_orderEnd pl pd ln + 1) pd ln) r1) else fin n1 r1)
theorem cG_r (r past : Nat → Int32) (kk : Nat) (pd : Nat → Int32) (ln : Int32) (n : Nat) : ∀ n1 pl go k r1, r_X5_carryOut_at41 r past kk pd ln n n1 pl go k r1 = cG (fun n1 _ => n1) (fun _ _ => 0) pd ln n n1 pl go k r1 := by
  induction n with
  | zero => intro n1 pl go k r1; rfl
  | succ n ih => intro n1 pl go k r1; simp only [r_X5_carryOut_at41, cG, ih]
theorem cG_s (r past : Nat → Int32) (kk : Nat) (pd : Nat → Int32) (ln : Int32) (n : Nat) : ∀ n1 pl go k r1, c_X5_carryOut_s_at41 r past kk pd ln n n1 pl go k r1 = cG (fun _ r1 => r1) (fun _ r1 => r1) pd ln n n1 pl go k r1 := by
  induction n with
  | zero => intro n1 pl go k r1; rfl
  | succ n ih => intro n1 pl go k r1; simp only [c_X5_carryOut_s_at41, cG, ih]
theorem cG_p (r past : Nat → Int32) (kk : Nat) (pd : Nat → Int32) (ln : Int32) (n : Nat) : ∀ n1 pl go k r1, c_X5_carryOut_past_at41 r past kk pd ln n n1 pl go k r1 = cG (fun _ _ => pastK r past kk) (fun _ _ => pastK r past kk) pd ln n n1 pl go k r1 := by
  induction n with
  | zero => intro n1 pl go k r1; rfl
  | succ n ih => intro n1 pl go k r1; simp only [c_X5_carryOut_past_at41, cG, ih]
theorem cG_k (r past : Nat → Int32) (kk : Nat) (pd : Nat → Int32) (ln : Int32) (n : Nat) : ∀ n1 pl go k r1, c_X5_carryOut_kn_at41 r past kk pd ln n n1 pl go k r1 = cG (fun _ _ => nI (kn1 kk)) (fun _ _ => 0) pd ln n n1 pl go k r1 := by
  induction n with
  | zero => intro n1 pl go k r1; rfl
  | succ n ih => intro n1 pl go k r1; simp only [c_X5_carryOut_kn_at41, cG, ih]
theorem cG_l (r past : Nat → Int32) (kk : Nat) (pd : Nat → Int32) (ln : Int32) (n : Nat) : ∀ n1 pl go k r1, c_X5_carryOut_ln_at41 r past kk pd ln n n1 pl go k r1 = cG (fun _ _ => 0) (fun _ _ => 0) pd ln n n1 pl go k r1 := by
  induction n with
  | zero => intro n1 pl go k r1; rfl
  | succ n ih => intro n1 pl go k r1; simp only [c_X5_carryOut_ln_at41, cG, ih]
section CGX
variable {α : Type} (fin z : Int32 → (Nat → Int32) → α) {pd : Nat → Int32} {ln : Int32}
/-- stopped: the end, whatever is left -/
theorem cG_stop (n : Nat) (n1 pl k : Int32) (r1 : Nat → Int32) : cG fin z pd ln (n + 1) n1 pl 0 k r1 = fin n1 r1 := by
  rw [cG, if_pos rfl, if_pos rfl]
  repeat' split
  all_goals rfl
/-- an order's end -/
theorem cG_next (n : Nat) (n1 pl : Int32) (r1 : Nat → Int32) : cG fin z pd ln (n + 1) n1 pl 1 0 r1 = if r_X5_orderEnd pl pd ln + 1 < ln then cG fin z pd ln n n1 (r_X5_orderEnd pl pd ln + 1) 1 (r_X5_ordersAt (r_X5_orderEnd pl pd ln + 1) pd ln) r1 else fin n1 r1 := by
  rw [cG, if_neg (show ¬ (0 : Int32) < 0 by decide), if_neg n10]
theorem kd {d : Nat} (hd : d < 2000) : (0 : Int32) < nI (d + 1) ∧ nI (d + 1) + (-1) = nI d := by
  refine ⟨nI_lt (a := 0) (by omega) (by omega), ti_eq.mpr ?_⟩
  have e1 : (-1 : Int32).toInt = -1 := rfl
  rw [ti_add (by rw [e1, nI_toInt (by omega)]; omega) (by rw [e1, nI_toInt (by omega)]; omega), e1, nI_toInt (by omega), nI_toInt (by omega)]
  omega
theorem cG_ok (n : Nat) (n1 pl : Int32) {d : Nat} (hd : d < 2000) (r1 : Nat → Int32) (h : r_X5_carries pl r1 pd ln = 0) : cG fin z pd ln (n + 1) n1 pl 1 (nI (d + 1)) r1 = cG fin z pd ln n (n1 + 1) pl 1 (nI d) (c_X5_carries_s pl r1 pd ln) := by
  rw [cG, if_pos (kd hd).1, if_neg n10, if_pos h, (kd hd).2]
theorem cG_no (n : Nat) (n1 pl : Int32) {d : Nat} (hd : d < 2000) (r1 : Nat → Int32) (h : ¬ r_X5_carries pl r1 pd ln = 0) : cG fin z pd ln (n + 1) n1 pl 1 (nI (d + 1)) r1 = cG fin z pd ln n n1 pl 0 (nI d) (c_X5_carries_s pl r1 pd ln) := by
  rw [cG, if_pos (kd hd).1, if_neg n10, if_neg h, (kd hd).2, Int32.add_zero]
end CGX
/-- what orders do: so many are done, and what is behind them -/
def DID (pd : Nat → Int32) (ln pl : Int32) (d : Nat) (r1 : Nat → Int32) (j : Nat) (r2 : Nat → Int32) : Prop :=
  (j = d ∧ ∀ (α : Type) (fin z : Int32 → (Nat → Int32) → α) (n : Nat) (n1 : Int32), cG fin z pd ln (n + d) n1 pl 1 (nI d) r1 = cG fin z pd ln n (n1 + nI d) pl 1 0 r2) ∨
  (j < d ∧ ∀ (α : Type) (fin z : Int32 → (Nat → Int32) → α) (n : Nat) (n1 : Int32), ∃ k, cG fin z pd ln (n + d) n1 pl 1 (nI d) r1 = cG fin z pd ln (n + (d - (j + 1))) (n1 + nI j) pl 0 k r2)
theorem DID_0 (pd : Nat → Int32) (ln pl : Int32) (r1 : Nat → Int32) : DID pd ln pl 0 r1 0 r1 := Or.inl ⟨rfl, fun α fin z n n1 => by
  rw [show nI 0 = 0 from rfl, Int32.add_zero]
  rfl⟩
theorem DID_ok {pd : Nat → Int32} {ln pl : Int32} {d : Nat} (hd : d < 2000) {r1 r2 : Nat → Int32} {j : Nat} (h : r_X5_carries pl r1 pd ln = 0) (hD : DID pd ln pl d (c_X5_carries_s pl r1 pd ln) j r2) : DID pd ln pl (d + 1) r1 (j + 1) r2 := by
  have ad : ∀ (n1 : Int32) (m : Nat), n1 + 1 + nI m = n1 + nI (m + 1) := fun n1 m => by
    rw [Int32.add_assoc, Int32.add_comm 1, nI_1]
  rcases hD with ⟨e, q⟩ | ⟨e, q⟩
  · refine Or.inl ⟨by omega, fun α fin z n n1 => ?_⟩
    rw [show n + (d + 1) = (n + d) + 1 by omega, cG_ok fin z _ _ _ hd _ h, q, ad]
  · refine Or.inr ⟨by omega, fun α fin z n n1 => ?_⟩
    obtain ⟨k, hk⟩ := q α fin z n (n1 + 1)
    refine ⟨k, ?_⟩
    rw [show n + (d + 1) = (n + d) + 1 by omega, cG_ok fin z _ _ _ hd _ h, hk, ad, show d + 1 - (j + 1 + 1) = d - (j + 1) by omega]
theorem DID_no {pd : Nat → Int32} {ln pl : Int32} {d : Nat} (hd : d < 2000) {r1 : Nat → Int32} (h : ¬ r_X5_carries pl r1 pd ln = 0) : DID pd ln pl (d + 1) r1 0 (c_X5_carries_s pl r1 pd ln) :=
  Or.inr ⟨by omega, fun α fin z n n1 => ⟨nI d, by
    rw [show n + (d + 1) = (n + d) + 1 by omega, cG_no fin z _ _ _ hd _ h, show nI 0 = 0 from rfl, Int32.add_zero, show d + 1 - (0 + 1) = d by omega]⟩⟩
/-! samples of an order -/
theorem one_more {S : SS} {r : Nat → Int32} {x y : Int32} (h : RS S r 9999) (hw : r_X5_whyNot x y 1 r = 0) : RS (c_X3_take x y S) (c_X5_samples_s x y r) 9999 := by
  obtain ⟨w1, w2⟩ := why_ok hw
  obtain ⟨t1, t2, -⟩ := take_rel h (by omega) (right_P w1)
  have hb := h.2.2.2.2.2.2.1
  have := many_b (M := 1) (by omega) ⟨hb.1, hb.2.1⟩ w2
  exact t1.tight (by omega)
theorem inner_s {pd : Nat → Int32} {ln pl : Int32} {g : Nat → Int32} {m : Nat} (hm : m ≤ 999) (h5 : g 5 = nI m) (h3 : g 3 = r_X5_numberAt (pl + 1) pd ln) (h4 : g 4 = r_X5_numberAt (r_X5_numberEnd (pl + 1) pd ln + 1) pd ln) (h115 : r_X5_signAt pl pd ln = 115) (S : SS) (d : Nat) : ∀ i n2 S1 r1, i + d = m → d < n2 → RS S1 r1 9999 →
    ∃ j r2, j ≤ d ∧ r_X4_takeFromPad_at2 S g n2 (nI i) S1 = nI (i + j) ∧ RS (c_X4_takeFromPad_1_at2 S g n2 (nI i) S1) r2 9999 ∧ DID pd ln pl d r1 j r2 := by
  have hC : ∀ r1, r_X5_carries pl r1 pd ln = r_X5_whyNot (g 3) (g 4) 1 r1 ∧ c_X5_carries_s pl r1 pd ln = if r_X5_whyNot (g 3) (g 4) 1 r1 = 0 then c_X5_samples_s (g 3) (g 4) r1 else r1 := fun r1 => by
    unfold r_X5_carries c_X5_carries_s
    rw [h115, if_neg (show ¬ (115 : Int32) = 98 by decide), if_neg (show ¬ (115 : Int32) = 117 by decide), if_neg (show ¬ (115 : Int32) = 98 by decide), if_neg (show ¬ (115 : Int32) = 117 by decide), h3, h4]
    exact ⟨rfl, rfl⟩
  induction d with
  | zero =>
    intro i n2 S1 r1 hi hn h
    match n2, hn with
    | n2 + 1, _ =>
      have ni : ¬ nI i < g 5 := by
        rw [h5]
        exact nI_nlt (by omega) (by omega)
      refine ⟨0, r1, by omega, ?_, ?_, DID_0 pd ln pl r1⟩
      · show (if nI i < g 5 then _ else nI i) = _
        rw [if_neg ni]
        rfl
      · show RS (if nI i < g 5 then _ else S1) r1 9999
        rw [if_neg ni]
        exact h
  | succ d ih =>
    intro i n2 S1 r1 hi hn h
    match n2, hn with
    | n2 + 1, hn =>
      have ni : nI i < g 5 := by
        rw [h5]
        exact nI_lt (by omega) (by omega)
      obtain ⟨c1, c2⟩ := hC r1
      have hr := refuse_eq h (g 3) (g 4) 1
      have R1 : r_X4_takeFromPad_at2 S g (n2 + 1) (nI i) S1 = if nI i < g 5 then (if r_X3_refusalOfSamples (g 3) (g 4) 1 S1 = 0 then r_X4_takeFromPad_at2 S g n2 (nI i + 1) (c_X3_take (g 3) (g 4) S1) else nI i) else nI i := rfl
      have R2 : c_X4_takeFromPad_1_at2 S g (n2 + 1) (nI i) S1 = if nI i < g 5 then (if r_X3_refusalOfSamples (g 3) (g 4) 1 S1 = 0 then c_X4_takeFromPad_1_at2 S g n2 (nI i + 1) (c_X3_take (g 3) (g 4) S1) else S1) else S1 := rfl
      rw [R1, R2, if_pos ni, if_pos ni, hr, nI_1]
      by_cases w : r_X5_whyNot (g 3) (g 4) 1 r1 = 0
      · rw [if_pos w, if_pos w]
        rw [if_pos w] at c2
        obtain ⟨j, r2, q1, q2, q3, q4⟩ := ih (i + 1) n2 _ _ (by omega) (by omega) (one_more h w)
        refine ⟨j + 1, r2, by omega, ?_, q3, DID_ok (by omega) (c1.trans w) (by rw [c2]; exact q4)⟩
        rw [q2]
        congr 1
        omega
      · rw [if_neg w, if_neg w]
        rw [if_neg w] at c2
        have q4 := DID_no (pd := pd) (ln := ln) (pl := pl) (d := d) (by omega) (r1 := r1) (fun e => w (c1.symm.trans e))
        rw [c2] at q4
        exact ⟨0, r1, by omega, rfl, h, q4⟩
/-! a button of an order -/
theorem inner_b {pd : Nat → Int32} {ln pl : Int32} {g : Nat → Int32} (h3 : g 3 = r_X5_digit (pl + 1) pd ln) (h2 : g 2 = r_X5_signAt pl pd ln) (hs : r_X5_signAt pl pd ln = 98 ∨ r_X5_signAt pl pd ln = 117) {S1 : SS} {r1 : Nat → Int32} (h : RS S1 r1 9999) :
    ∃ j r2, j ≤ 1 ∧ r_X4_moveButtonFromPad S1 g = nI j ∧ RS (c_X4_moveButtonFromPad_1 S1 g) r2 9999 ∧ DID pd ln pl 1 r1 j r2 := by
  unfold r_X4_moveButtonFromPad c_X4_moveButtonFromPad_1
  rw [(refP_eq h _).1, (refP_eq h _).2, h2]
  have fin : ∀ dn, r_X5_carries pl r1 pd ln = r_X5_whyNotPress (g 3) dn r1 → ∀ S2 r2, (¬ r_X5_whyNotPress (g 3) dn r1 = 0 → c_X5_carries_s pl r1 pd ln = r1) → (r_X5_whyNotPress (g 3) dn r1 = 0 → c_X5_carries_s pl r1 pd ln = r2) → RS S2 r2 9999 → ∃ j r3, j ≤ 1 ∧ (if r_X5_whyNotPress (g 3) dn r1 = 0 then (1 : Int32) else 0) = nI j ∧ RS (if r_X5_whyNotPress (g 3) dn r1 = 0 then S2 else S1) r3 9999 ∧ DID pd ln pl 1 r1 j r3 := fun dn c1 S2 r2 no ok hR => by
    by_cases w : r_X5_whyNotPress (g 3) dn r1 = 0
    · rw [if_pos w, if_pos w]
      refine ⟨1, r2, by omega, rfl, hR, DID_ok (d := 0) (j := 0) (by omega) (c1.trans w) ?_⟩
      rw [ok w]
      exact DID_0 pd ln pl r2
    · rw [if_neg w, if_neg w]
      have q4 := DID_no (pd := pd) (ln := ln) (pl := pl) (d := 0) (by omega) (r1 := r1) (fun e => w (c1.symm.trans e))
      rw [no w] at q4
      exact ⟨0, r1, by omega, rfl, h, q4⟩
  rcases hs with e | e
  · have C : r_X5_carries pl r1 pd ln = r_X5_whyNotPress (g 3) 1 r1 ∧ c_X5_carries_s pl r1 pd ln = if r_X5_whyNotPress (g 3) 1 r1 < 0 then r1 else c_X5_presses_s (g 3) r1 := by
      unfold r_X5_carries c_X5_carries_s
      rw [e, if_pos rfl, if_pos rfl, h3]
      exact ⟨rfl, rfl⟩
    rw [e, if_pos rfl, if_pos rfl]
    exact fin 1 C.1 _ _ (fun w => C.2.trans (if_pos (whyP_lt.mpr w))) (fun w => C.2.trans (if_neg (fun q => whyP_lt.mp q w))) (push_RS h (g 3)).2
  · have C : r_X5_carries pl r1 pd ln = r_X5_whyNotPress (g 3) 0 r1 ∧ c_X5_carries_s pl r1 pd ln = if r_X5_whyNotPress (g 3) 0 r1 < 0 then r1 else c_X5_letsUp_s (g 3) r1 := by
      unfold r_X5_carries c_X5_carries_s
      rw [e, if_neg (show ¬ (117 : Int32) = 98 by decide), if_pos rfl, if_neg (show ¬ (117 : Int32) = 98 by decide), if_pos rfl, h3]
      exact ⟨rfl, rfl⟩
    rw [e, if_neg (show ¬ (117 : Int32) = 98 by decide), if_neg (show ¬ (117 : Int32) = 98 by decide)]
    exact fin 0 C.1 _ _ (fun w => C.2.trans (if_pos (whyP_lt.mpr w))) (fun w => C.2.trans (if_neg (fun q => whyP_lt.mp q w))) (rel_RS h (g 3)).2
