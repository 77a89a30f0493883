theorem nE_ar {pl : Int32} (pd : Nat → Int32) (ln : Int32) (h0 : 0 ≤ pl.toInt ∧ pl.toInt ≤ 80) : -500 ≤ (r_X5_numberEnd (pl + 1) pd ln + 1).toInt ∧ (r_X5_numberEnd (pl + 1) pd ln + 1).toInt ≤ 500 := by
  have e1 : (pl + 1).toInt = pl.toInt + 1 := i_1 (by omega)
  have := nE_r (pl := pl + 1) pd ln (by omega)
  rw [i_1 (by omega)]
  omega
theorem nE_neg {v : Int32} (pd : Nat → Int32) (ln : Int32) (h : v.toInt < 0) : r_X5_numberEnd v pd ln = v := by
  rw [r_X5_numberEnd, if_pos (ti_lt.mpr h)]
theorem bh_neg {v : Int32} (sg : Int32) (pd : Nat → Int32) (ln : Int32) (h : v.toInt < 0) : r_X5_behind v sg pd ln = v := by
  rw [r_X5_behind, if_pos (ti_lt.mpr h)]
/-- an order of samples without a fault -/
theorem oE_s {pl : Int32} {pd : Nat → Int32} {ln : Int32} (h0 : 0 ≤ pl.toInt ∧ pl.toInt ≤ 80) (hs : r_X5_signAt pl pd ln = 115) (hE : 0 ≤ (r_X5_orderEnd pl pd ln).toInt) :
    ∃ a b : Int32, r_X5_numberEnd (pl + 1) pd ln = a ∧ pl.toInt + 1 < a.toInt ∧ a.toInt ≤ pl.toInt + 4 ∧ r_X5_signAt a pd ln = 44 ∧ r_X5_numberEnd (a + 1) pd ln = b ∧ a.toInt + 1 < b.toInt ∧ b.toInt ≤ a.toInt + 4 ∧ ((r_X5_signAt b pd ln = 42 ∧ r_X5_orderEnd pl pd ln = r_X5_numberEnd (b + 1) pd ln ∧ b.toInt + 1 < (r_X5_numberEnd (b + 1) pd ln).toInt ∧ (r_X5_numberEnd (b + 1) pd ln).toInt ≤ b.toInt + 4) ∨ (¬ r_X5_signAt b pd ln = 42 ∧ r_X5_orderEnd pl pd ln = b)) := by
  have e1 : (pl + 1).toInt = pl.toInt + 1 := i_1 (by omega)
  have z0 : (0 : Int32).toInt = 0 := rfl
  rw [r_X5_orderEnd, hs, if_neg (by decide), if_pos rfl] at hE ⊢
  rcases (nE_b (pl := pl + 1) pd ln (by omega)).2 (by omega) with ha | ha
  · obtain ⟨a, ea⟩ : ∃ a, r_X5_numberEnd (pl + 1) pd ln = a := ⟨_, rfl⟩
    rw [ea] at hE ha ⊢
    have ea1 : (a + 1).toInt = a.toInt + 1 := i_1 (by omega)
    by_cases hc : r_X5_signAt a pd ln = 44
    · have eb : r_X5_behind a 44 pd ln = a + 1 := by rw [r_X5_behind, if_neg (i_nn (by omega)), if_pos hc]
      rw [eb] at hE ⊢
      obtain ⟨b, eb⟩ : ∃ b, r_X5_numberEnd (a + 1) pd ln = b := ⟨_, rfl⟩
      have hb := (nE_b (pl := a + 1) pd ln (by omega)).2 (by omega)
      rw [eb] at hE hb ⊢
      rcases hb with hb | hb
      · have eb1 : (b + 1).toInt = b.toInt + 1 := i_1 (by omega)
        have hp : 0 < b := ti_lt.mpr (by omega)
        rw [if_pos hp] at hE ⊢
        by_cases hd : r_X5_signAt b pd ln = 42
        · rw [if_pos hd] at hE ⊢
          have hg := (nE_b (pl := b + 1) pd ln (by omega)).2 (by omega)
          exact ⟨a, b, rfl, by omega, by omega, hc, eb, by omega, by omega, Or.inl ⟨hd, rfl, by omega, by omega⟩⟩
        · rw [if_neg hd]
          exact ⟨a, b, rfl, by omega, by omega, hc, eb, by omega, by omega, Or.inr ⟨hd, rfl⟩⟩
      · have hp : ¬ 0 < b := fun q => by
          have := ti_lt.mp q
          omega
        rw [if_neg hp] at hE
        omega
    · have e3 : ((-1) - a).toInt = -1 - a.toInt := i_m rfl (by omega)
      have eb : r_X5_behind a 44 pd ln = (-1) - a := by rw [r_X5_behind, if_neg (i_nn (by omega)), if_neg hc]
      rw [eb, nE_neg pd ln (by omega)] at hE
      have hp : ¬ 0 < (-1) - a := fun q => by
        have := ti_lt.mp q
        omega
      rw [if_neg hp] at hE
      omega
  · obtain ⟨a, ea⟩ : ∃ a, r_X5_numberEnd (pl + 1) pd ln = a := ⟨_, rfl⟩
    rw [ea] at hE ha
    rw [bh_neg 44 pd ln (by omega), nE_neg pd ln (by omega)] at hE
    have hp : ¬ 0 < a := fun q => by
      have := ti_lt.mp q
      omega
    rw [if_neg hp] at hE
    omega
/-- an order without a fault goes on behind its first character -/
theorem oE_gt {pl : Int32} {pd : Nat → Int32} {ln : Int32} (h0 : 0 ≤ pl.toInt ∧ pl.toInt ≤ 80) (hE : 0 ≤ (r_X5_orderEnd pl pd ln).toInt) : pl.toInt + 2 ≤ (r_X5_orderEnd pl pd ln).toInt := by
  have e2 : (pl + 2).toInt = pl.toInt + 2 := i_2 (by omega)
  have e3 : ((-2) - pl).toInt = -2 - pl.toInt := i_m rfl (by omega)
  have e4 : ((-1) - pl).toInt = -1 - pl.toInt := i_m rfl (by omega)
  by_cases hs : r_X5_signAt pl pd ln = 115
  · obtain ⟨a, b, h1, h2, h3, h4, h5, h6, h7, h8⟩ := oE_s h0 hs hE
    rcases h8 with ⟨-, q2, q3, -⟩ | ⟨-, q⟩
    · rw [q2]
      omega
    · rw [q]
      omega
  · by_cases hb : r_X5_signAt pl pd ln = 98
    · rw [r_X5_orderEnd, if_pos hb] at hE ⊢
      by_cases hd : r_X5_digit (pl + 1) pd ln < 0
      · rw [if_pos hd] at hE ⊢
        omega
      · rw [if_neg hd]
        omega
    · by_cases hu : r_X5_signAt pl pd ln = 117
      · rw [r_X5_orderEnd, if_neg hb, if_neg hs, if_pos hu] at hE ⊢
        by_cases hd : r_X5_digit (pl + 1) pd ln < 0
        · rw [if_pos hd] at hE ⊢
          omega
        · rw [if_neg hd]
          omega
      · rw [r_X5_orderEnd, if_neg hb, if_neg hs, if_neg hu] at hE ⊢
        omega
/-- so many orders without a fault from a place on -/
def okA (pd : Nat → Int32) (ln : Int32) : Nat → Int32 → Prop
  | 0, _ => False
  | n + 1, p => 0 ≤ (r_X5_orderEnd p pd ln).toInt ∧ (r_X5_orderEnd p pd ln = ln ∨ (r_X5_signAt (r_X5_orderEnd p pd ln) pd ln = 59 ∧ okA pd ln n (r_X5_orderEnd p pd ln + 1)))
def okV (pd : Nat → Int32) (ln p : Int32) : Prop := ∃ n, okA pd ln n p
theorem fault_at {pd : Nat → Int32} {ln : Int32} (hl : ln.toInt ≤ 80) : ∀ (n : Nat) (p : Int32) (k : Nat), 0 ≤ p.toInt ∧ p.toInt ≤ 80 → 2 * k ≤ p.toInt → r_X5_fault_at4 pd ln n p k = -6 → okA pd ln n p := by
  intro n
  induction n with
  | zero =>
    intro p k hp hk h
    rw [r_X5_fault_at4] at h
    exact absurd h (by decide)
  | succ n ih =>
    intro p k hp hk h
    rw [r_X5_fault_at4, if_pos (show nI k < 80 from (nI_ltI (a := k) (b := 80) (by omega) (by omega)).mpr (by omega))] at h
    by_cases c : r_X5_orderEnd p pd ln < 0
    · rw [if_pos c] at h
      have hb := oE_b p pd ln hp
      have c' := i_ng c
      have e4 : ((-1) - r_X5_orderEnd p pd ln).toInt = -1 - (r_X5_orderEnd p pd ln).toInt := i_m rfl (by omega)
      rw [h] at e4
      have e5 : (-6 : Int32).toInt = -6 := rfl
      omega
    · rw [if_neg c] at h
      have c' := i_nn' c
      refine ⟨c', ?_⟩
      by_cases c2 : r_X5_orderEnd p pd ln = ln
      · exact Or.inl c2
      · rw [if_neg c2] at h
        by_cases c3 : r_X5_signAt (r_X5_orderEnd p pd ln) pd ln = 59
        · rw [if_pos c3] at h
          have hg := oE_gt hp c'
          have hb := oE_b p pd ln hp
          have e1 : (r_X5_orderEnd p pd ln + 1).toInt = (r_X5_orderEnd p pd ln).toInt + 1 := i_1 (by omega)
          exact Or.inr ⟨c3, ih _ (k + 1) (sg_next pd c c3 hl) (by omega) h⟩
        · rw [if_neg c3] at h
          rw [h] at c'
          exact absurd c' (by decide)
theorem fault_ok {pd : Nat → Int32} {ln : Int32} (hl : ln.toInt ≤ 80) (h : r_X5_fault pd ln = -6) : okV pd ln 0 := ⟨81, fault_at hl 81 0 0 (by decide) (by decide) h⟩
theorem okV_s {pl : Int32} {pd : Nat → Int32} {ln : Int32} (h0 : 0 ≤ pl.toInt ∧ pl.toInt ≤ 80) (hv : okV pd ln pl) : r_X5_signAt pl pd ln = 115 → 0 ≤ (r_X5_numberEnd (r_X5_numberEnd (pl + 1) pd ln + 1) pd ln).toInt := by
  intro hs
  obtain ⟨n, hv⟩ := hv
  cases n with
  | zero => exact hv.elim
  | succ n =>
    obtain ⟨a, b, h1, h2, h3, h4, h5, h6, h7, h8⟩ := oE_s h0 hs hv.1
    rw [h1, h5]
    omega
theorem cO_next {pl : Int32} {pd : Nat → Int32} {ln : Int32} (h0 : 0 ≤ pl.toInt ∧ pl.toInt ≤ 80) (hl : ln.toInt ≤ 80) (hv : okV pd ln pl) (c : r_X5_orderEnd pl pd ln + 1 < ln) : (0 ≤ (r_X5_orderEnd pl pd ln + 1).toInt ∧ (r_X5_orderEnd pl pd ln + 1).toInt ≤ 80) ∧ okV pd ln (r_X5_orderEnd pl pd ln + 1) ∧ pl.toInt + 3 ≤ (r_X5_orderEnd pl pd ln + 1).toInt := by
  obtain ⟨n, hv⟩ := hv
  cases n with
  | zero => exact hv.elim
  | succ n =>
    have hg := oE_gt h0 hv.1
    have hb := oE_b pl pd ln h0
    have e1 : (r_X5_orderEnd pl pd ln + 1).toInt = (r_X5_orderEnd pl pd ln).toInt + 1 := i_1 (by omega)
    have c' := ti_lt.mp c
    rcases hv.2 with q | q
    · rw [q] at c' e1
      omega
    · exact ⟨by omega, ⟨n, q.2⟩, by omega⟩
theorem dg_b (p : Int32) (pd : Nat → Int32) (ln : Int32) : -1 ≤ (r_X5_digit p pd ln).toInt ∧ (r_X5_digit p pd ln).toInt ≤ 9 := by
  rw [r_X5_digit]
  split
  · decide
  · next c =>
    obtain ⟨h1, h2⟩ := in_lo c
    have h1' := i_nle h1
    have h2' := i_nle h2
    have e1 : (48 : Int32).toInt = 48 := rfl
    have e2 : (57 : Int32).toInt = 57 := rfl
    rw [ti_sub (by omega) (by omega)]
    omega
theorem nA_at {pl : Int32} (pd : Nat → Int32) (ln : Int32) (hp : -500 ≤ pl.toInt ∧ pl.toInt ≤ 500) : ∀ (n : Nat) (v e : Int32), (pl.toInt ≤ e.toInt ∧ e.toInt ≤ pl.toInt + 3) → ((e.toInt = pl.toInt → v = 0) ∧ (e.toInt = pl.toInt + 1 → -1 ≤ v.toInt ∧ v.toInt ≤ 9) ∧ (e.toInt = pl.toInt + 2 → -11 ≤ v.toInt ∧ v.toInt ≤ 99) ∧ (e.toInt = pl.toInt + 3 → -111 ≤ v.toInt ∧ v.toInt ≤ 999)) → -111 ≤ (r_X5_numberAt_at4 pl pd ln n v e).toInt ∧ (r_X5_numberAt_at4 pl pd ln n v e).toInt ≤ 999 := by
  intro n
  induction n with
  | zero => intro v e he hv; rw [r_X5_numberAt_at4]; decide
  | succ n ih =>
    intro v e he hv
    have e10 : (10 : Int32).toInt = 10 := rfl
    have e0 : (0 : Int32).toInt = 0 := rfl
    have hvb : -111 ≤ v.toInt ∧ v.toInt ≤ 999 := by
      by_cases q0 : e.toInt = pl.toInt
      · rw [hv.1 q0]; decide
      · omega
    rw [r_X5_numberAt_at4]
    by_cases c : e < r_X5_numberEnd pl pd ln
    · rw [if_pos c]
      obtain ⟨g1, g2⟩ := nA_go hp he c
      have hd := dg_b e pd ln
      have k1 : (e + 1).toInt = e.toInt + 1 := i_1 (by omega)
      have k2 : (10 * v).toInt = 10 * v.toInt := by rw [ti_mul (by rw [e10]; omega) (by rw [e10]; omega), e10]
      have k3 : (10 * v + r_X5_digit e pd ln).toInt = 10 * v.toInt + (r_X5_digit e pd ln).toInt := by rw [i_kk (by omega) (by omega), k2]
      have hv0 : e.toInt = pl.toInt → v.toInt = 0 := fun q => by rw [hv.1 q, e0]
      exact ih _ _ (by omega) ⟨fun q => by omega, fun q => by omega, fun q => by omega, fun q => by omega⟩
    · rw [if_neg c]
      exact hvb
theorem nA_b {pl : Int32} (pd : Nat → Int32) (ln : Int32) (hp : -500 ≤ pl.toInt ∧ pl.toInt ≤ 500) : -111 ≤ (r_X5_numberAt pl pd ln).toInt ∧ (r_X5_numberAt pl pd ln).toInt ≤ 999 := nA_at pd ln hp 4 0 pl (by omega) ⟨fun _ => rfl, fun q => by omega, fun q => by omega, fun q => by omega⟩
abbrev R_X5_carries : Room := { frames := 4, cells := 0, slots := 0, locals := 98 }
def r_X5_carries (pl : Int32) (r : Nat → Int32) (pd : Nat → Int32) (ln : Int32) : Int32 := if (r_X5_signAt pl pd ln) = 98 then (r_X5_whyNotPress (r_X5_digit (pl + 1) pd ln) 1 r) else (if (r_X5_signAt pl pd ln) = 117 then (r_X5_whyNotPress (r_X5_digit (pl + 1) pd ln) 0 r) else (r_X5_whyNot (r_X5_numberAt (pl + 1) pd ln) (r_X5_numberAt ((r_X5_numberEnd (pl + 1) pd ln) + 1) pd ln) 1 r))
def c_X5_carries_s (pl : Int32) (r : Nat → Int32) (pd : Nat → Int32) (ln : Int32) : Nat → Int32 := if (r_X5_signAt pl pd ln) = 98 then (if (r_X5_whyNotPress (r_X5_digit (pl + 1) pd ln) 1 r) < 0 then r else (c_X5_presses_s (r_X5_digit (pl + 1) pd ln) r)) else (if (r_X5_signAt pl pd ln) = 117 then (if (r_X5_whyNotPress (r_X5_digit (pl + 1) pd ln) 0 r) < 0 then r else (c_X5_letsUp_s (r_X5_digit (pl + 1) pd ln) r)) else (if (r_X5_whyNot (r_X5_numberAt (pl + 1) pd ln) (r_X5_numberAt ((r_X5_numberEnd (pl + 1) pd ln) + 1) pd ln) 1 r) = 0 then (c_X5_samples_s (r_X5_numberAt (pl + 1) pd ln) (r_X5_numberAt ((r_X5_numberEnd (pl + 1) pd ln) + 1) pd ln) r) else r))
set_option maxHeartbeats 1000000 in
set_option maxRecDepth 100000 in
theorem s_X5_carries_0 (d : gD) (a : Nat → Nat) (pl : Int32) (r : Nat → Int32) (f : Nat → Int32) (past : Nat → Int32) (kn : Int32) (sl : Nat → Int32) (sv : Nat → Int32) (pd : Nat → Int32) (ln : Int32) (h0 : 0 ≤ pl.toInt ∧ pl.toInt ≤ 80) (hl : ln.toInt ≤ 80) (hs : SH r)  {X : gX} (E : gE d X RX5 cX5_carries 7 R_X5_carries) (RET : ∀ (pc_ : Nat) (lv_ : List (Nat × Value)) (v_ : Int32) (u_ : va_W), decode cX5_carries pc_ = .ok (.ireturn, 1) → narrow .int (.int v_) = .int v_ → v_ = r_X5_carries pl r pd ln → u_ = MW d a (pr 0 (c_X5_carries_s pl r pd ln) f) (past, kn, sl, sv, pd, ln) → G d X u_ R_X5_carries.cells R_X5_carries.slots pc_ lv_ [.int v_]) : G d X (MW d a (pr 0 r f) (past, kn, sl, sv, pd, ln)) 0 0 0 [(0, .ref (a 0)), (1, .int pl)] [] := by
  refine g_aload_n E 0 dX5_carries_0 rfl rfl ?_
  refine g_iload_n E 1 dX5_carries_1 rfl rfl ?_
  refine g_iconst E 1 dX5_carries_2 (by decide) ?_
  refine g_iadd E dX5_carries_3 ?_
  refine g_callVi0 E gc_X5_digit ml_X5_119 (t_X5_digit d a (pl + 1) (pr 0 r f) past kn sl sv pd ln (by rw [i_1 (by omega)]; omega) hl) rfl rfl (ci := 5) 0 rfl rfl rfl rfl (ok_le rfl) ⟨ok_le rfl, ok_le rfl, ok_le rfl, ok_le rfl⟩ rfl rfl dX5_carries_4 ?_
  refine g_nm (fun v1_ hv1_ => ?_)
  refine g_istore_n E (lv' := [(2, .int v1_), (0, .ref (a 0)), (1, .int pl)]) dX5_carries_7 rfl (by decide) rfl ?_
  refine g_iconst E 0 dX5_carries_8 (by decide) ?_
  refine g_istore_n E (lv' := [(3, .int 0), (2, .int v1_), (0, .ref (a 0)), (1, .int pl)]) dX5_carries_9 rfl (by decide) rfl ?_
  refine g_iconst E 0 dX5_carries_10 (by decide) ?_
  refine g_istore E (lv' := [(4, .int 0), (3, .int 0), (2, .int v1_), (0, .ref (a 0)), (1, .int pl)]) dX5_carries_11 (by decide) rfl ?_
  refine g_aload_n E 3 dX5_carries_13 rfl rfl ?_
  refine g_iload_n E 4 dX5_carries_14 rfl rfl ?_
  refine g_callVi0 E gc_X5_signAt ml_X5_116 (t_X5_signAt d a pl (pr 0 r f) past kn sl sv pd ln h0.1 hl) rfl rfl (ci := 5) 0 rfl rfl rfl rfl (ok_le rfl) ⟨ok_le rfl, ok_le rfl, ok_le rfl, ok_le rfl⟩ rfl rfl dX5_carries_15 ?_
  refine g_nm (fun v2_ hv2_ => ?_)
  by_cases w_18_98 : v2_ = 98
  · skip
    refine g_lookup E (off := 26) 44 dX5_carries_18 (by decide) (by rw [w_18_98] <;> rfl) (by decide) ?_
    refine g_aload_n E 3 dX5_carries_44 rfl rfl ?_
    refine g_iload_n E 2 dX5_carries_45 rfl rfl ?_
    refine g_iconst E 1 dX5_carries_46 (by decide) ?_
    refine g_callVi0 E gc_X5_whyNotPress ml_X5_98 (t_X5_whyNotPress d a v1_ 1 r f (past, kn, sl, sv, pd, ln) ) rfl rfl (ci := 5) 0 rfl rfl rfl rfl (ok_le rfl) ⟨ok_le rfl, ok_le rfl, ok_le rfl, ok_le rfl⟩ rfl rfl dX5_carries_47 ?_
    refine g_nm (fun v3_ hv3_ => ?_)
    refine g_istore_n E (lv' := [(3, .int v3_), (4, .int 0), (2, .int v1_), (0, .ref (a 0)), (1, .int pl)]) dX5_carries_50 rfl (by decide) rfl ?_
    refine g_iload_n E 0 dX5_carries_51 rfl rfl ?_
    refine g_ifge E 59 dX5_carries_52 (by decide) (fun c_52 => ?_) (fun c_52 => ?_)
    · skip
      refine g_aload_n E 3 dX5_carries_59 rfl rfl ?_
      refine g_iload_n E 2 dX5_carries_60 rfl rfl ?_
      refine g_callVi0 E gc_X5_presses ml_X5_102 (t_X5_presses d a v1_ r f (past, kn, sl, sv, pd, ln) ) rfl rfl (ci := 5) 0 rfl rfl rfl rfl (ok_le rfl) ⟨ok_le rfl, ok_le rfl, ok_le rfl, ok_le rfl⟩ rfl rfl dX5_carries_61 ?_
      obtain ⟨S4_, hS4_⟩ : ∃ z, c_X5_presses_s v1_ r = z := ⟨_, rfl⟩
      rw [hS4_]
      refine g_nm (fun v5_ hv5_ => ?_)
      refine g_istore E (lv' := [(4, .int v5_), (3, .int v3_), (2, .int v1_), (0, .ref (a 0)), (1, .int pl)]) dX5_carries_64 (by decide) rfl ?_
      refine g_iload_n E 1 dX5_carries_66 rfl rfl ?_
      subst hv5_
      subst hS4_
      subst hv3_
      subst hv2_
      subst hv1_
      exact RET 67 _ (r_X5_whyNotPress (r_X5_digit (pl + 1) pd ln) 1 r) _ dX5_carries_67 rfl (by rw [r_X5_carries, if_pos w_18_98]) (by rw [c_X5_carries_s, if_pos w_18_98, if_neg c_52])
    · skip
      refine g_iconst E 0 dX5_carries_55 (by decide) ?_
      refine g_goto E 64 dX5_carries_56 (by decide) ?_
      refine g_istore E (lv' := [(4, .int 0), (3, .int v3_), (2, .int v1_), (0, .ref (a 0)), (1, .int pl)]) dX5_carries_64 (by decide) rfl ?_
      refine g_iload_n E 1 dX5_carries_66 rfl rfl ?_
      subst hv3_
      subst hv2_
      subst hv1_
      exact RET 67 _ (r_X5_whyNotPress (r_X5_digit (pl + 1) pd ln) 1 r) _ dX5_carries_67 rfl (by rw [r_X5_carries, if_pos w_18_98]) (by rw [c_X5_carries_s, if_pos w_18_98, if_pos c_52])
  · skip
    by_cases w_18_117 : v2_ = 117
    · skip
      refine g_lookup E (off := 50) 68 dX5_carries_18 (by decide) (by rw [w_18_117] <;> rfl) (by decide) ?_
      refine g_aload_n E 3 dX5_carries_68 rfl rfl ?_
      refine g_iload_n E 2 dX5_carries_69 rfl rfl ?_
      refine g_iconst E 0 dX5_carries_70 (by decide) ?_
      refine g_callVi0 E gc_X5_whyNotPress ml_X5_98 (t_X5_whyNotPress d a v1_ 0 r f (past, kn, sl, sv, pd, ln) ) rfl rfl (ci := 5) 0 rfl rfl rfl rfl (ok_le rfl) ⟨ok_le rfl, ok_le rfl, ok_le rfl, ok_le rfl⟩ rfl rfl dX5_carries_71 ?_
      refine g_nm (fun v6_ hv6_ => ?_)
      refine g_istore_n E (lv' := [(3, .int v6_), (4, .int 0), (2, .int v1_), (0, .ref (a 0)), (1, .int pl)]) dX5_carries_74 rfl (by decide) rfl ?_
      refine g_iload_n E 0 dX5_carries_75 rfl rfl ?_
      refine g_ifge E 83 dX5_carries_76 (by decide) (fun c_76 => ?_) (fun c_76 => ?_)
      · skip
        refine g_aload_n E 3 dX5_carries_83 rfl rfl ?_
        refine g_iload_n E 2 dX5_carries_84 rfl rfl ?_
        refine g_callVi0 E gc_X5_letsUp ml_X5_105 (t_X5_letsUp d a v1_ r f (past, kn, sl, sv, pd, ln) ) rfl rfl (ci := 5) 0 rfl rfl rfl rfl (ok_le rfl) ⟨ok_le rfl, ok_le rfl, ok_le rfl, ok_le rfl⟩ rfl rfl dX5_carries_85 ?_
        obtain ⟨S7_, hS7_⟩ : ∃ z, c_X5_letsUp_s v1_ r = z := ⟨_, rfl⟩
        rw [hS7_]
        refine g_nm (fun v8_ hv8_ => ?_)
        refine g_istore E (lv' := [(4, .int v8_), (3, .int v6_), (2, .int v1_), (0, .ref (a 0)), (1, .int pl)]) dX5_carries_88 (by decide) rfl ?_
        refine g_iload_n E 1 dX5_carries_90 rfl rfl ?_
        subst hv8_
        subst hS7_
        subst hv6_
        subst hv2_
        subst hv1_
        exact RET 91 _ (r_X5_whyNotPress (r_X5_digit (pl + 1) pd ln) 0 r) _ dX5_carries_91 rfl (by rw [r_X5_carries, if_neg w_18_98, if_pos w_18_117]) (by rw [c_X5_carries_s, if_neg w_18_98, if_pos w_18_117, if_neg c_76])
      · skip
        refine g_iconst E 0 dX5_carries_79 (by decide) ?_
        refine g_goto E 88 dX5_carries_80 (by decide) ?_
        refine g_istore E (lv' := [(4, .int 0), (3, .int v6_), (2, .int v1_), (0, .ref (a 0)), (1, .int pl)]) dX5_carries_88 (by decide) rfl ?_
        refine g_iload_n E 1 dX5_carries_90 rfl rfl ?_
        subst hv6_
        subst hv2_
        subst hv1_
        exact RET 91 _ (r_X5_whyNotPress (r_X5_digit (pl + 1) pd ln) 0 r) _ dX5_carries_91 rfl (by rw [r_X5_carries, if_neg w_18_98, if_pos w_18_117]) (by rw [c_X5_carries_s, if_neg w_18_98, if_pos w_18_117, if_pos c_76])
    · skip
      refine g_lookup E (off := 74) 92 dX5_carries_18 (by decide) (by show (if (98 : Int) = Int32.toInt v2_ then (26 : Int) else (if (117 : Int) = Int32.toInt v2_ then (50 : Int) else (74))) = 74; rw [if_neg (Ne.symm (lv_neT (x := v2_) (k := 98) (a := 98) w_18_98 (by decide))), if_neg (Ne.symm (lv_neT (x := v2_) (k := 117) (a := 117) w_18_117 (by decide)))]) (by decide) ?_
      refine g_aload_n E 3 dX5_carries_92 rfl rfl ?_
      refine g_iload_n E 4 dX5_carries_93 rfl rfl ?_
      refine g_iconst E 1 dX5_carries_94 (by decide) ?_
      refine g_iadd E dX5_carries_95 ?_
      refine g_callVi0 E gc_X5_numberAt ml_X5_131 (t_X5_numberAt d a (pl + 1) (pr 0 r f) past kn sl sv pd ln (by rw [i_1 (by omega)]; omega) hl) rfl rfl (ci := 5) 0 rfl rfl rfl rfl (ok_le rfl) ⟨ok_le rfl, ok_le rfl, ok_le rfl, ok_le rfl⟩ rfl rfl dX5_carries_96 ?_
      refine g_nm (fun v9_ hv9_ => ?_)
      refine g_istore E (lv' := [(5, .int v9_), (4, .int 0), (3, .int 0), (2, .int v1_), (0, .ref (a 0)), (1, .int pl)]) dX5_carries_99 (by decide) rfl ?_
      refine g_aload_n E 4 dX5_carries_101 rfl rfl ?_
      refine g_aload_n E 4 dX5_carries_102 rfl rfl ?_
      refine g_iload_n E 5 dX5_carries_103 rfl rfl ?_
      refine g_iconst E 1 dX5_carries_104 (by decide) ?_
      refine g_iadd E dX5_carries_105 ?_
      refine g_callVi0 E gc_X5_numberEnd ml_X5_122 (t_X5_numberEnd d a (pl + 1) (pr 0 r f) past kn sl sv pd ln (by rw [i_1 (by omega)]; omega) hl) rfl rfl (ci := 5) 0 rfl rfl rfl rfl (ok_le rfl) ⟨ok_le rfl, ok_le rfl, ok_le rfl, ok_le rfl⟩ rfl rfl dX5_carries_106 ?_
      refine g_nm (fun v10_ hv10_ => ?_)
      refine g_iconst E 1 dX5_carries_109 (by decide) ?_
      refine g_iadd E dX5_carries_110 ?_
      refine g_callVi0 E gc_X5_numberAt ml_X5_131 (t_X5_numberAt d a (v10_ + 1) (pr 0 r f) past kn sl sv pd ln (by subst_vars; exact nE_ar pd ln h0) hl) rfl rfl (ci := 5) 0 rfl rfl rfl rfl (ok_le rfl) ⟨ok_le rfl, ok_le rfl, ok_le rfl, ok_le rfl⟩ rfl rfl dX5_carries_111 ?_
      refine g_nm (fun v11_ hv11_ => ?_)
      refine g_istore E (lv' := [(6, .int v11_), (5, .int v9_), (4, .int 0), (3, .int 0), (2, .int v1_), (0, .ref (a 0)), (1, .int pl)]) dX5_carries_114 (by decide) rfl ?_
      refine g_aload_n E 5 dX5_carries_116 rfl rfl ?_
      refine g_iload E 1 dX5_carries_117 rfl ?_
      refine g_iload E 0 dX5_carries_119 rfl ?_
      refine g_iconst E 1 dX5_carries_121 (by decide) ?_
      refine g_callVi0 E gc_X5_whyNot ml_X5_86 (t_X5_whyNot d a v9_ v11_ 1 r f (past, kn, sl, sv, pd, ln) ) rfl rfl (ci := 5) 0 rfl rfl rfl rfl (ok_le rfl) ⟨ok_le rfl, ok_le rfl, ok_le rfl, ok_le rfl⟩ rfl rfl dX5_carries_122 ?_
      refine g_nm (fun v12_ hv12_ => ?_)
      refine g_istore_n E (lv' := [(3, .int v12_), (6, .int v11_), (5, .int v9_), (4, .int 0), (2, .int v1_), (0, .ref (a 0)), (1, .int pl)]) dX5_carries_125 rfl (by decide) rfl ?_
      refine g_iload_n E 0 dX5_carries_126 rfl rfl ?_
      refine g_ifne E 139 dX5_carries_127 (by decide) (fun c_127 => ?_) (fun c_127 => ?_)
      · skip
        refine g_iload_n E 0 dX5_carries_139 rfl rfl ?_
        subst hv12_
        subst hv11_
        subst hv10_
        subst hv9_
        subst hv2_
        subst hv1_
        exact RET 140 _ (r_X5_whyNot (r_X5_numberAt (pl + 1) pd ln) (r_X5_numberAt ((r_X5_numberEnd (pl + 1) pd ln) + 1) pd ln) 1 r) _ dX5_carries_140 rfl (by rw [r_X5_carries, if_neg w_18_98, if_neg w_18_117]) (by rw [c_X5_carries_s, if_neg w_18_98, if_neg w_18_117, if_neg c_127])
      · skip
        refine g_aload_n E 5 dX5_carries_130 rfl rfl ?_
        refine g_iconst E 0 dX5_carries_131 (by decide) ?_
        refine g_iload E 2 dX5_carries_132 rfl ?_
        refine g_iload E 1 dX5_carries_134 rfl ?_
        refine g_callVv0 E gc_X5_samples ml_X5_89 (t2_X5_samples d a 0 v9_ v11_ r f (past, kn, sl, sv, pd, ln) (by omega) hs) rfl rfl (ci := 5) 0 rfl rfl rfl rfl (ok_le rfl) ⟨ok_le rfl, ok_le rfl, ok_le rfl, ok_le rfl⟩ rfl rfl dX5_carries_136 ?_
        obtain ⟨S13_, hS13_⟩ : ∃ z, c_X5_samples_s v9_ v11_ r = z := ⟨_, rfl⟩
        rw [hS13_]
        refine g_iload_n E 0 dX5_carries_139 rfl rfl ?_
        subst hS13_
        subst hv12_
        subst hv11_
        subst hv10_
        subst hv9_
        subst hv2_
        subst hv1_
        exact RET 140 _ (r_X5_whyNot (r_X5_numberAt (pl + 1) pd ln) (r_X5_numberAt ((r_X5_numberEnd (pl + 1) pd ln) + 1) pd ln) 1 r) _ dX5_carries_140 rfl (by rw [r_X5_carries, if_neg w_18_98, if_neg w_18_117]) (by rw [c_X5_carries_s, if_neg w_18_98, if_neg w_18_117, if_pos c_127])
set_option maxHeartbeats 1000000 in
set_option maxRecDepth 100000 in
theorem t_X5_carries (d : gD) (a : Nat → Nat) (pl : Int32) (r : Nat → Int32) (f : Nat → Int32) (past : Nat → Int32) (kn : Int32) (sl : Nat → Int32) (sv : Nat → Int32) (pd : Nat → Int32) (ln : Int32) (h0 : 0 ≤ pl.toInt ∧ pl.toInt ≤ 80) (hl : ln.toInt ≤ 80) (hs : SH r) : gMi d yX5_carries cX5_carries 7 (some .int) R_X5_carries [.ref (a 0), .int pl] (MW d a (pr 0 r f) (past, kn, sl, sv, pd, ln)) (fun r_ u_ => r_ = r_X5_carries pl r pd ln ∧ u_ = MW d a (pr 0 (c_X5_carries_s pl r pd ln) f) (past, kn, sl, sv, pd, ln)) :=
  g_met_i RX5 rfl (by decide +kernel) (Nat.le_of_ble_eq_true rfl) [(0, .ref (a 0)), (1, .int pl)] rfl (fun X E RET => s_X5_carries_0 d a pl r f past kn sl sv pd ln h0 hl hs E (fun pc_ lv_ v_ u_ h1_ h2_ h3_ h4_ => RET pc_ lv_ v_ u_ h1_ h2_ ⟨h3_, h4_⟩))
theorem nE_br {pl : Int32} (pd : Nat → Int32) (ln : Int32) (h0 : 0 ≤ pl.toInt ∧ pl.toInt ≤ 80) : -500 ≤ (r_X5_numberEnd (r_X5_numberEnd (pl + 1) pd ln + 1) pd ln + 1).toInt ∧ (r_X5_numberEnd (r_X5_numberEnd (pl + 1) pd ln + 1) pd ln + 1).toInt ≤ 500 := by
  have e1 : (pl + 1).toInt = pl.toInt + 1 := i_1 (by omega)
  have q1 := (nE_b (pl := pl + 1) pd ln (by omega)).2 (by omega)
  have q2 := nE_r (pl := pl + 1) pd ln (by omega)
  have e2 : (r_X5_numberEnd (pl + 1) pd ln + 1).toInt = (r_X5_numberEnd (pl + 1) pd ln).toInt + 1 := i_1 (by omega)
  have q3 := nE_r (pl := r_X5_numberEnd (pl + 1) pd ln + 1) pd ln (by omega)
  have e3 : (r_X5_numberEnd (r_X5_numberEnd (pl + 1) pd ln + 1) pd ln + 1).toInt = _ := i_1 (by omega)
  omega
abbrev R_X5_ordersAt : Room := { frames := 4, cells := 0, slots := 0, locals := 88 }
def r_X5_ordersAt (pl : Int32) (pd : Nat → Int32) (ln : Int32) : Int32 := if (r_X5_signAt pl pd ln) = 115 then (if (r_X5_signAt (r_X5_numberEnd ((r_X5_numberEnd (pl + 1) pd ln) + 1) pd ln) pd ln) = 42 then (r_X5_numberAt ((r_X5_numberEnd ((r_X5_numberEnd (pl + 1) pd ln) + 1) pd ln) + 1) pd ln) else 1) else 1
set_option maxHeartbeats 1000000 in
set_option maxRecDepth 100000 in
theorem s_X5_ordersAt_0 (d : gD) (a : Nat → Nat) (pl : Int32) (r : Nat → Int32) (f : Nat → Int32) (past : Nat → Int32) (kn : Int32) (sl : Nat → Int32) (sv : Nat → Int32) (pd : Nat → Int32) (ln : Int32) (h0 : 0 ≤ pl.toInt ∧ pl.toInt ≤ 80) (hl : ln.toInt ≤ 80) (hv : r_X5_signAt pl pd ln = 115 → 0 ≤ (r_X5_numberEnd (r_X5_numberEnd (pl + 1) pd ln + 1) pd ln).toInt)  {X : gX} (E : gE d X RX5 cX5_ordersAt 3 R_X5_ordersAt) (RET : ∀ (pc_ : Nat) (lv_ : List (Nat × Value)) (v_ : Int32) (u_ : va_W), decode cX5_ordersAt pc_ = .ok (.ireturn, 1) → narrow .int (.int v_) = .int v_ → v_ = r_X5_ordersAt pl pd ln → u_ = MW d a (pr 0 r f) (past, kn, sl, sv, pd, ln) → G d X u_ R_X5_ordersAt.cells R_X5_ordersAt.slots pc_ lv_ [.int v_]) : G d X (MW d a (pr 0 r f) (past, kn, sl, sv, pd, ln)) 0 0 0 [(0, .ref (a 0)), (1, .int pl)] [] := by
  refine g_aload_n E 0 dX5_ordersAt_0 rfl rfl ?_
  refine g_iload_n E 1 dX5_ordersAt_1 rfl rfl ?_
  refine g_callVi0 E gc_X5_signAt ml_X5_116 (t_X5_signAt d a pl (pr 0 r f) past kn sl sv pd ln h0.1 hl) rfl rfl (ci := 5) 0 rfl rfl rfl rfl (ok_le rfl) ⟨ok_le rfl, ok_le rfl, ok_le rfl, ok_le rfl⟩ rfl rfl dX5_ordersAt_2 ?_
  refine g_nm (fun v1_ hv1_ => ?_)
  refine g_bipush E 115 dX5_ordersAt_5 (by decide) ?_
  refine g_icmpeq E 12 dX5_ordersAt_7 (by decide) (fun c_7 => ?_) (fun c_7 => ?_)
  · skip
    refine g_aload_n E 0 dX5_ordersAt_12 rfl rfl ?_
    refine g_aload_n E 0 dX5_ordersAt_13 rfl rfl ?_
    refine g_iload_n E 1 dX5_ordersAt_14 rfl rfl ?_
    refine g_iconst E 1 dX5_ordersAt_15 (by decide) ?_
    refine g_iadd E dX5_ordersAt_16 ?_
    refine g_callVi0 E gc_X5_numberEnd ml_X5_122 (t_X5_numberEnd d a (pl + 1) (pr 0 r f) past kn sl sv pd ln (by rw [i_1 (by omega)]; omega) hl) rfl rfl (ci := 5) 0 rfl rfl rfl rfl (ok_le rfl) ⟨ok_le rfl, ok_le rfl, ok_le rfl, ok_le rfl⟩ rfl rfl dX5_ordersAt_17 ?_
    refine g_nm (fun v2_ hv2_ => ?_)
    refine g_iconst E 1 dX5_ordersAt_20 (by decide) ?_
    refine g_iadd E dX5_ordersAt_21 ?_
    refine g_callVi0 E gc_X5_numberEnd ml_X5_122 (t_X5_numberEnd d a (v2_ + 1) (pr 0 r f) past kn sl sv pd ln (by subst_vars; have := nE_ar pd ln h0; omega) hl) rfl rfl (ci := 5) 0 rfl rfl rfl rfl (ok_le rfl) ⟨ok_le rfl, ok_le rfl, ok_le rfl, ok_le rfl⟩ rfl rfl dX5_ordersAt_22 ?_
    refine g_nm (fun v3_ hv3_ => ?_)
    refine g_istore_n E (lv' := [(2, .int v3_), (0, .ref (a 0)), (1, .int pl)]) dX5_ordersAt_25 rfl (by decide) rfl ?_
    refine g_aload_n E 1 dX5_ordersAt_26 rfl rfl ?_
    refine g_iload_n E 0 dX5_ordersAt_27 rfl rfl ?_
    refine g_callVi0 E gc_X5_signAt ml_X5_116 (t_X5_signAt d a v3_ (pr 0 r f) past kn sl sv pd ln (by subst_vars; exact hv c_7) hl) rfl rfl (ci := 5) 0 rfl rfl rfl rfl (ok_le rfl) ⟨ok_le rfl, ok_le rfl, ok_le rfl, ok_le rfl⟩ rfl rfl dX5_ordersAt_28 ?_
    refine g_nm (fun v4_ hv4_ => ?_)
    refine g_bipush E 42 dX5_ordersAt_31 (by decide) ?_
    refine g_icmpne E 46 dX5_ordersAt_33 (by decide) (fun c_33 => ?_) (fun c_33 => ?_)
    · skip
      refine g_iconst E 1 dX5_ordersAt_46 (by decide) ?_
      subst hv4_
      subst hv3_
      subst hv2_
      subst hv1_
      exact RET 47 _ 1 _ dX5_ordersAt_47 rfl (by rw [r_X5_ordersAt, if_pos c_7, if_neg c_33]) rfl
    · skip
      refine g_aload_n E 1 dX5_ordersAt_36 rfl rfl ?_
      refine g_iload_n E 0 dX5_ordersAt_37 rfl rfl ?_
      refine g_iconst E 1 dX5_ordersAt_38 (by decide) ?_
      refine g_iadd E dX5_ordersAt_39 ?_
      refine g_callVi0 E gc_X5_numberAt ml_X5_131 (t_X5_numberAt d a (v3_ + 1) (pr 0 r f) past kn sl sv pd ln (by subst_vars; exact nE_br pd ln h0) hl) rfl rfl (ci := 5) 0 rfl rfl rfl rfl (ok_le rfl) ⟨ok_le rfl, ok_le rfl, ok_le rfl, ok_le rfl⟩ rfl rfl dX5_ordersAt_40 ?_
      refine g_nm (fun v5_ hv5_ => ?_)
      refine g_goto E 47 dX5_ordersAt_43 (by decide) ?_
      subst hv5_
      subst hv4_
      subst hv3_
      subst hv2_
      subst hv1_
      exact RET 47 _ (r_X5_numberAt ((r_X5_numberEnd ((r_X5_numberEnd (pl + 1) pd ln) + 1) pd ln) + 1) pd ln) _ dX5_ordersAt_47 rfl (by rw [r_X5_ordersAt, if_pos c_7, if_pos c_33]) rfl
  · skip
    refine g_iconst E 1 dX5_ordersAt_10 (by decide) ?_
    subst hv1_
    exact RET 11 _ 1 _ dX5_ordersAt_11 rfl (by rw [r_X5_ordersAt, if_neg c_7]) rfl
set_option maxHeartbeats 1000000 in
set_option maxRecDepth 100000 in
theorem t_X5_ordersAt (d : gD) (a : Nat → Nat) (pl : Int32) (r : Nat → Int32) (f : Nat → Int32) (past : Nat → Int32) (kn : Int32) (sl : Nat → Int32) (sv : Nat → Int32) (pd : Nat → Int32) (ln : Int32) (h0 : 0 ≤ pl.toInt ∧ pl.toInt ≤ 80) (hl : ln.toInt ≤ 80) (hv : r_X5_signAt pl pd ln = 115 → 0 ≤ (r_X5_numberEnd (r_X5_numberEnd (pl + 1) pd ln + 1) pd ln).toInt) : gMi d yX5_ordersAt cX5_ordersAt 3 (some .int) R_X5_ordersAt [.ref (a 0), .int pl] (MW d a (pr 0 r f) (past, kn, sl, sv, pd, ln)) (fun r_ u_ => r_ = r_X5_ordersAt pl pd ln ∧ u_ = MW d a (pr 0 r f) (past, kn, sl, sv, pd, ln)) :=
  g_met_i RX5 rfl (by decide +kernel) (Nat.le_of_ble_eq_true rfl) [(0, .ref (a 0)), (1, .int pl)] rfl (fun X E RET => s_X5_ordersAt_0 d a pl r f past kn sl sv pd ln h0 hl hv E (fun pc_ lv_ v_ u_ h1_ h2_ h3_ h4_ => RET pc_ lv_ v_ u_ h1_ h2_ ⟨h3_, h4_⟩))
theorem oA_b {pl : Int32} (pd : Nat → Int32) (ln : Int32) (h0 : 0 ≤ pl.toInt ∧ pl.toInt ≤ 80) : (r_X5_ordersAt pl pd ln).toInt ≤ 999 := by
  rw [r_X5_ordersAt]
  repeat' split
  all_goals first | decide | exact (nA_b pd ln (nE_br pd ln h0)).2
theorem i_pos {k : Int32} (h : 0 < k) (h2 : k.toInt ≤ 999) : (k + (-1)).toInt = k.toInt - 1 ∧ 1 ≤ k.toInt := by
  have h1 := ti_lt.mp h
  have e0 : (0 : Int32).toInt = 0 := rfl
  have e1 : (k + (-1)).toInt = k.toInt + (-1) := i_k rfl (by omega)
  omega
abbrev R_X5_carryOut : Room := { frames := 5, cells := 0, slots := 0, locals := 124 }
def r_X5_carryOut_at41 (r : Nat → Int32) (past : Nat → Int32) (kk : Nat) (pd : Nat → Int32) (ln : Int32) : Nat → (Int32) → (Int32) → (Int32) → (Int32) → (Nat → Int32) → Int32
  | 0, _, _, _, _, _ => 0
  | n + 1, n1, pl, go, k, r1 => if 0 < k then (if go = 0 then (if ((r_X5_orderEnd pl pd ln) + 1) < ln then (if go = 0 then n1 else (r_X5_carryOut_at41 r past kk pd ln n n1 ((r_X5_orderEnd pl pd ln) + 1) go (r_X5_ordersAt ((r_X5_orderEnd pl pd ln) + 1) pd ln) r1)) else n1) else (if (r_X5_carries pl r1 pd ln) = 0 then (r_X5_carryOut_at41 r past kk pd ln n (n1 + 1) pl 1 (k + (-1)) (c_X5_carries_s pl r1 pd ln)) else (r_X5_carryOut_at41 r past kk pd ln n (n1 + 0) pl 0 (k + (-1)) (c_X5_carries_s pl r1 pd ln)))) else (if ((r_X5_orderEnd pl pd ln) + 1) < ln then (if go = 0 then n1 else (r_X5_carryOut_at41 r past kk pd ln n n1 ((r_X5_orderEnd pl pd ln) + 1) go (r_X5_ordersAt ((r_X5_orderEnd pl pd ln) + 1) pd ln) r1)) else n1)
def c_X5_carryOut_s_at41 (r : Nat → Int32) (past : Nat → Int32) (kk : Nat) (pd : Nat → Int32) (ln : Int32) : Nat → (Int32) → (Int32) → (Int32) → (Int32) → (Nat → Int32) → Nat → Int32
  | 0, _, _, _, _, r1 => r1
  | n + 1, n1, pl, go, k, r1 => if 0 < k then (if go = 0 then (if ((r_X5_orderEnd pl pd ln) + 1) < ln then (if go = 0 then r1 else (c_X5_carryOut_s_at41 r past kk pd ln n n1 ((r_X5_orderEnd pl pd ln) + 1) go (r_X5_ordersAt ((r_X5_orderEnd pl pd ln) + 1) pd ln) r1)) else r1) else (if (r_X5_carries pl r1 pd ln) = 0 then (c_X5_carryOut_s_at41 r past kk pd ln n (n1 + 1) pl 1 (k + (-1)) (c_X5_carries_s pl r1 pd ln)) else (c_X5_carryOut_s_at41 r past kk pd ln n (n1 + 0) pl 0 (k + (-1)) (c_X5_carries_s pl r1 pd ln)))) else (if ((r_X5_orderEnd pl pd ln) + 1) < ln then (if go = 0 then r1 else (c_X5_carryOut_s_at41 r past kk pd ln n n1 ((r_X5_orderEnd pl pd ln) + 1) go (r_X5_ordersAt ((r_X5_orderEnd pl pd ln) + 1) pd ln) r1)) else r1)
def c_X5_carryOut_past_at41 (r : Nat → Int32) (past : Nat → Int32) (kk : Nat) (pd : Nat → Int32) (ln : Int32) : Nat → (Int32) → (Int32) → (Int32) → (Int32) → (Nat → Int32) → Nat → Int32
  | 0, _, _, _, _, _ => (pastK r past kk)
  | n + 1, n1, pl, go, k, r1 => if 0 < k then (if go = 0 then (if ((r_X5_orderEnd pl pd ln) + 1) < ln then (if go = 0 then (pastK r past kk) else (c_X5_carryOut_past_at41 r past kk pd ln n n1 ((r_X5_orderEnd pl pd ln) + 1) go (r_X5_ordersAt ((r_X5_orderEnd pl pd ln) + 1) pd ln) r1)) else (pastK r past kk)) else (if (r_X5_carries pl r1 pd ln) = 0 then (c_X5_carryOut_past_at41 r past kk pd ln n (n1 + 1) pl 1 (k + (-1)) (c_X5_carries_s pl r1 pd ln)) else (c_X5_carryOut_past_at41 r past kk pd ln n (n1 + 0) pl 0 (k + (-1)) (c_X5_carries_s pl r1 pd ln)))) else (if ((r_X5_orderEnd pl pd ln) + 1) < ln then (if go = 0 then (pastK r past kk) else (c_X5_carryOut_past_at41 r past kk pd ln n n1 ((r_X5_orderEnd pl pd ln) + 1) go (r_X5_ordersAt ((r_X5_orderEnd pl pd ln) + 1) pd ln) r1)) else (pastK r past kk))
def c_X5_carryOut_kn_at41 (r : Nat → Int32) (past : Nat → Int32) (kk : Nat) (pd : Nat → Int32) (ln : Int32) : Nat → (Int32) → (Int32) → (Int32) → (Int32) → (Nat → Int32) → Int32
  | 0, _, _, _, _, _ => 0
  | n + 1, n1, pl, go, k, r1 => if 0 < k then (if go = 0 then (if ((r_X5_orderEnd pl pd ln) + 1) < ln then (if go = 0 then (nI (kn1 kk)) else (c_X5_carryOut_kn_at41 r past kk pd ln n n1 ((r_X5_orderEnd pl pd ln) + 1) go (r_X5_ordersAt ((r_X5_orderEnd pl pd ln) + 1) pd ln) r1)) else (nI (kn1 kk))) else (if (r_X5_carries pl r1 pd ln) = 0 then (c_X5_carryOut_kn_at41 r past kk pd ln n (n1 + 1) pl 1 (k + (-1)) (c_X5_carries_s pl r1 pd ln)) else (c_X5_carryOut_kn_at41 r past kk pd ln n (n1 + 0) pl 0 (k + (-1)) (c_X5_carries_s pl r1 pd ln)))) else (if ((r_X5_orderEnd pl pd ln) + 1) < ln then (if go = 0 then (nI (kn1 kk)) else (c_X5_carryOut_kn_at41 r past kk pd ln n n1 ((r_X5_orderEnd pl pd ln) + 1) go (r_X5_ordersAt ((r_X5_orderEnd pl pd ln) + 1) pd ln) r1)) else (nI (kn1 kk)))
def c_X5_carryOut_ln_at41 (r : Nat → Int32) (past : Nat → Int32) (kk : Nat) (pd : Nat → Int32) (ln : Int32) : Nat → (Int32) → (Int32) → (Int32) → (Int32) → (Nat → Int32) → Int32
  | 0, _, _, _, _, _ => 0
  | n + 1, n1, pl, go, k, r1 => if 0 < k then (if go = 0 then (if ((r_X5_orderEnd pl pd ln) + 1) < ln then (if go = 0 then 0 else (c_X5_carryOut_ln_at41 r past kk pd ln n n1 ((r_X5_orderEnd pl pd ln) + 1) go (r_X5_ordersAt ((r_X5_orderEnd pl pd ln) + 1) pd ln) r1)) else 0) else (if (r_X5_carries pl r1 pd ln) = 0 then (c_X5_carryOut_ln_at41 r past kk pd ln n (n1 + 1) pl 1 (k + (-1)) (c_X5_carries_s pl r1 pd ln)) else (c_X5_carryOut_ln_at41 r past kk pd ln n (n1 + 0) pl 0 (k + (-1)) (c_X5_carries_s pl r1 pd ln)))) else (if ((r_X5_orderEnd pl pd ln) + 1) < ln then (if go = 0 then 0 else (c_X5_carryOut_ln_at41 r past kk pd ln n n1 ((r_X5_orderEnd pl pd ln) + 1) go (r_X5_ordersAt ((r_X5_orderEnd pl pd ln) + 1) pd ln) r1)) else 0)
def r_X5_carryOut (r : Nat → Int32) (past : Nat → Int32) (kk : Nat) (pd : Nat → Int32) (ln : Int32) : Int32 := if (r_X5_fault pd ln) = (-6) then (if 0 < ln then (r_X5_carryOut_at41 r past kk pd ln 82000 0 0 1 (r_X5_ordersAt 0 pd ln) r) else 0) else (-3)
def c_X5_carryOut_s (r : Nat → Int32) (past : Nat → Int32) (kk : Nat) (pd : Nat → Int32) (ln : Int32) : Nat → Int32 := if (r_X5_fault pd ln) = (-6) then (if 0 < ln then (c_X5_carryOut_s_at41 r past kk pd ln 82000 0 0 1 (r_X5_ordersAt 0 pd ln) r) else r) else r
def c_X5_carryOut_past (r : Nat → Int32) (past : Nat → Int32) (kk : Nat) (pd : Nat → Int32) (ln : Int32) : Nat → Int32 := if (r_X5_fault pd ln) = (-6) then (if 0 < ln then (c_X5_carryOut_past_at41 r past kk pd ln 82000 0 0 1 (r_X5_ordersAt 0 pd ln) r) else (pastK r past kk)) else past
def c_X5_carryOut_kn (r : Nat → Int32) (past : Nat → Int32) (kk : Nat) (pd : Nat → Int32) (ln : Int32) : Int32 := if (r_X5_fault pd ln) = (-6) then (if 0 < ln then (c_X5_carryOut_kn_at41 r past kk pd ln 82000 0 0 1 (r_X5_ordersAt 0 pd ln) r) else (nI (kn1 kk))) else (nI kk)
def c_X5_carryOut_ln (r : Nat → Int32) (past : Nat → Int32) (kk : Nat) (pd : Nat → Int32) (ln : Int32) : Int32 := if (r_X5_fault pd ln) = (-6) then (if 0 < ln then (c_X5_carryOut_ln_at41 r past kk pd ln 82000 0 0 1 (r_X5_ordersAt 0 pd ln) r) else 0) else ln
set_option maxHeartbeats 4000000 in
set_option maxRecDepth 100000 in
theorem s_X5_carryOut_41 (d : gD) (a : Nat → Nat) (r : Nat → Int32) (f : Nat → Int32) (past : Nat → Int32) (kk : Nat) (sl : Nat → Int32) (sv : Nat → Int32) (pd : Nat → Int32) (ln : Int32) (J : (Nat → Int32) → Prop) (hkk : kk ≤ 6) (hl : ln.toInt ≤ 80) (hJ : J r) (hJs : ∀ q, J q → SH q) (hJc : ∀ p q, 0 ≤ p.toInt ∧ p.toInt ≤ 80 → J q → J (c_X5_carries_s p q pd ln)) {X : gX} (E : gE d X RX5 cX5_carryOut 5 R_X5_carryOut) : ∀ (n : Nat) (n1 : Int32) (pl : Int32) (go : Int32) (k : Int32) (r1 : Nat → Int32) (h0 : 0 ≤ pl.toInt ∧ pl.toInt ≤ 80) (hv : okV pd ln pl) (hk : k.toInt ≤ 999) (hJ1 : J r1) (hm : (81 - pl.toInt).toNat * 1000 + k.toInt.toNat < n) (RET : ∀ (pc_ : Nat) (lv_ : List (Nat × Value)) (v_ : Int32) (u_ : va_W), decode cX5_carryOut pc_ = .ok (.ireturn, 1) → narrow .int (.int v_) = .int v_ → v_ = r_X5_carryOut_at41 r past kk pd ln n n1 pl go k r1 → u_ = MW d a (pr 0 (c_X5_carryOut_s_at41 r past kk pd ln n n1 pl go k r1) f) ((c_X5_carryOut_past_at41 r past kk pd ln n n1 pl go k r1), (c_X5_carryOut_kn_at41 r past kk pd ln n n1 pl go k r1), sl, sv, pd, (c_X5_carryOut_ln_at41 r past kk pd ln n n1 pl go k r1)) → G d X u_ R_X5_carryOut.cells R_X5_carryOut.slots pc_ lv_ [.int v_]), G d X (MW d a (pr 0 r1 f) ((pastK r past kk), nI (kn1 kk), sl, sv, pd, ln)) 0 0 41 [(0, .ref (a 0)), (1, .int n1), (2, .int pl), (3, .int go), (4, .int k)] [] := by
  intro n
  induction n with
  | zero => intro n1 pl go k r1 h0 hv hk hJ1 hm; omega
  | succ n ih =>
    intro n1 pl go k r1 h0 hv hk hJ1 hm RET
    refine g_iload E 4 dX5_carryOut_41 rfl ?_
    refine g_ifle E 82 dX5_carryOut_43 (by decide) (fun c_43 => ?_) (fun c_43 => ?_)
    · skip
      refine g_aload_n E 0 dX5_carryOut_82 rfl rfl ?_
      refine g_iload_n E 2 dX5_carryOut_83 rfl rfl ?_
      refine g_callVi0 E gc_X5_orderEnd ml_X5_128 (t_X5_orderEnd d a pl (pr 0 r1 f) (pastK r past kk) (nI (kn1 kk)) sl sv pd ln h0 hl) rfl rfl (ci := 5) 0 rfl rfl rfl rfl (ok_le rfl) ⟨ok_le rfl, ok_le rfl, ok_le rfl, ok_le rfl⟩ rfl rfl dX5_carryOut_84 ?_
      refine g_nm (fun v3_ hv3_ => ?_)
      refine g_iconst E 1 dX5_carryOut_87 (by decide) ?_
      refine g_iadd E dX5_carryOut_88 ?_
      refine g_istore_n E (lv' := [(2, .int (v3_ + 1)), (0, .ref (a 0)), (1, .int n1), (3, .int go), (4, .int k)]) dX5_carryOut_89 rfl (by decide) rfl ?_
      refine g_goto E 22 dX5_carryOut_90 (by decide) ?_
      refine g_iload_n E 0 dX5_carryOut_22 rfl rfl ?_
      refine g_aload_n E 1 dX5_carryOut_23 rfl rfl ?_
      refine g_get E (ci := 5) inlX5 0 rfl rfl 6 (by decide) fl_X5_108 rfl (.int ln) rfl dX5_carryOut_24 ?_
      refine g_icmpge E 93 dX5_carryOut_27 (by decide) (fun c_27 => ?_) (fun c_27 => ?_)
      · skip
        refine g_aload_n E 1 dX5_carryOut_93 rfl rfl ?_
        refine g_iconst E 0 dX5_carryOut_94 (by decide) ?_
        refine g_put E (ci := 5) inlX5 0 rfl rfl 6 (by decide) tyX5 tyX5_ok nmX5 fl_X5_108 rfl rfl rfl rfl (ok_lt rfl) (ws' := MW d a (pr 0 r1 f) ((pastK r past kk), nI (kn1 kk), sl, sv, pd, 0)) rfl dX5_carryOut_95 ?_
        refine g_iload_n E 2 dX5_carryOut_98 rfl rfl ?_
        subst hv3_
        exact RET 99 _ n1 _ dX5_carryOut_99 rfl (by rw [r_X5_carryOut_at41, if_neg c_43, if_neg c_27]) (by rw [c_X5_carryOut_s_at41, if_neg c_43, if_neg c_27, c_X5_carryOut_past_at41, if_neg c_43, if_neg c_27, c_X5_carryOut_kn_at41, if_neg c_43, if_neg c_27, c_X5_carryOut_ln_at41, if_neg c_43, if_neg c_27])
      · skip
        first | have cn := cO_next (pl := pl) h0 hl hv (by subst_vars; exact c_27) | skip
        refine g_iload_n E 3 dX5_carryOut_30 rfl rfl ?_
        refine g_ifeq E 93 dX5_carryOut_31 (by decide) (fun c_31 => ?_) (fun c_31 => ?_)
        · skip
          refine g_aload_n E 1 dX5_carryOut_93 rfl rfl ?_
          refine g_iconst E 0 dX5_carryOut_94 (by decide) ?_
          refine g_put E (ci := 5) inlX5 0 rfl rfl 6 (by decide) tyX5 tyX5_ok nmX5 fl_X5_108 rfl rfl rfl rfl (ok_lt rfl) (ws' := MW d a (pr 0 r1 f) ((pastK r past kk), nI (kn1 kk), sl, sv, pd, 0)) rfl dX5_carryOut_95 ?_
          refine g_iload_n E 2 dX5_carryOut_98 rfl rfl ?_
          subst hv3_
          exact RET 99 _ n1 _ dX5_carryOut_99 rfl (by rw [r_X5_carryOut_at41, if_neg c_43, if_pos c_27, if_pos c_31]) (by rw [c_X5_carryOut_s_at41, if_neg c_43, if_pos c_27, if_pos c_31, c_X5_carryOut_past_at41, if_neg c_43, if_pos c_27, if_pos c_31, c_X5_carryOut_kn_at41, if_neg c_43, if_pos c_27, if_pos c_31, c_X5_carryOut_ln_at41, if_neg c_43, if_pos c_27, if_pos c_31])
        · skip
          refine g_aload_n E 1 dX5_carryOut_34 rfl rfl ?_
          refine g_iload_n E 0 dX5_carryOut_35 rfl rfl ?_
          refine g_callVi0 E gc_X5_ordersAt ml_X5_138 (t_X5_ordersAt d a (v3_ + 1) r1 f (pastK r past kk) (nI (kn1 kk)) sl sv pd ln (by first | decide | (subst_vars; exact cn.1)) hl (by first | exact okV_s (by decide) cf | (subst_vars; exact okV_s cn.1 cn.2.1))) rfl rfl (ci := 5) 0 rfl rfl rfl rfl (ok_le rfl) ⟨ok_le rfl, ok_le rfl, ok_le rfl, ok_le rfl⟩ rfl rfl dX5_carryOut_36 ?_
          refine g_nm (fun v4_ hv4_ => ?_)
          refine g_istore E (lv' := [(4, .int v4_), (2, .int (v3_ + 1)), (0, .ref (a 0)), (1, .int n1), (3, .int go)]) dX5_carryOut_39 (by decide) rfl ?_
          refine g_lvs (lv' := [(0, .ref (a 0)), (1, .int n1), (2, .int (v3_ + 1)), (3, .int go), (4, .int v4_)]) [2, 3, 1, 4, 0] rfl ?_
          subst hv4_
          subst hv3_
          exact ih n1 ((r_X5_orderEnd pl pd ln) + 1) go (r_X5_ordersAt ((r_X5_orderEnd pl pd ln) + 1) pd ln) r1 (by first | exact h0 | (subst_vars; exact cn.1)) (by first | exact hv | (subst_vars; exact cn.2.1)) (by first | omega | (subst_vars; exact oA_b pd ln cn.1)) (by first | exact hJ1 | (subst_vars; exact hJc _ _ h0 hJ1)) (by first | omega | (subst_vars; have q1 := cn.2.2; have q2 := oA_b pd ln cn.1; omega)) (fun pc_ lv_ v_ u_ h1_ h2_ h3_ h4_ => RET pc_ lv_ v_ u_ h1_ h2_ (h3_.trans (by rw [r_X5_carryOut_at41, if_neg c_43, if_pos c_27, if_neg c_31])) (h4_.trans (by rw [c_X5_carryOut_s_at41, if_neg c_43, if_pos c_27, if_neg c_31, c_X5_carryOut_past_at41, if_neg c_43, if_pos c_27, if_neg c_31, c_X5_carryOut_kn_at41, if_neg c_43, if_pos c_27, if_neg c_31, c_X5_carryOut_ln_at41, if_neg c_43, if_pos c_27, if_neg c_31])))
    · skip
      have k43 := i_pos c_43 hk
      refine g_iload_n E 3 dX5_carryOut_46 rfl rfl ?_
      refine g_ifeq E 82 dX5_carryOut_47 (by decide) (fun c_47 => ?_) (fun c_47 => ?_)
      · skip
        refine g_aload_n E 0 dX5_carryOut_82 rfl rfl ?_
        refine g_iload_n E 2 dX5_carryOut_83 rfl rfl ?_
        refine g_callVi0 E gc_X5_orderEnd ml_X5_128 (t_X5_orderEnd d a pl (pr 0 r1 f) (pastK r past kk) (nI (kn1 kk)) sl sv pd ln h0 hl) rfl rfl (ci := 5) 0 rfl rfl rfl rfl (ok_le rfl) ⟨ok_le rfl, ok_le rfl, ok_le rfl, ok_le rfl⟩ rfl rfl dX5_carryOut_84 ?_
        refine g_nm (fun v5_ hv5_ => ?_)
        refine g_iconst E 1 dX5_carryOut_87 (by decide) ?_
        refine g_iadd E dX5_carryOut_88 ?_
        refine g_istore_n E (lv' := [(2, .int (v5_ + 1)), (0, .ref (a 0)), (1, .int n1), (3, .int go), (4, .int k)]) dX5_carryOut_89 rfl (by decide) rfl ?_
        refine g_goto E 22 dX5_carryOut_90 (by decide) ?_
        refine g_iload_n E 0 dX5_carryOut_22 rfl rfl ?_
        refine g_aload_n E 1 dX5_carryOut_23 rfl rfl ?_
        refine g_get E (ci := 5) inlX5 0 rfl rfl 6 (by decide) fl_X5_108 rfl (.int ln) rfl dX5_carryOut_24 ?_
        refine g_icmpge E 93 dX5_carryOut_27 (by decide) (fun c_27 => ?_) (fun c_27 => ?_)
        · skip
          refine g_aload_n E 1 dX5_carryOut_93 rfl rfl ?_
          refine g_iconst E 0 dX5_carryOut_94 (by decide) ?_
          refine g_put E (ci := 5) inlX5 0 rfl rfl 6 (by decide) tyX5 tyX5_ok nmX5 fl_X5_108 rfl rfl rfl rfl (ok_lt rfl) (ws' := MW d a (pr 0 r1 f) ((pastK r past kk), nI (kn1 kk), sl, sv, pd, 0)) rfl dX5_carryOut_95 ?_
          refine g_iload_n E 2 dX5_carryOut_98 rfl rfl ?_
          subst hv5_
          exact RET 99 _ n1 _ dX5_carryOut_99 rfl (by rw [r_X5_carryOut_at41, if_pos c_43, if_pos c_47, if_neg c_27]) (by rw [c_X5_carryOut_s_at41, if_pos c_43, if_pos c_47, if_neg c_27, c_X5_carryOut_past_at41, if_pos c_43, if_pos c_47, if_neg c_27, c_X5_carryOut_kn_at41, if_pos c_43, if_pos c_47, if_neg c_27, c_X5_carryOut_ln_at41, if_pos c_43, if_pos c_47, if_neg c_27])
        · skip
          first | have cn := cO_next (pl := pl) h0 hl hv (by subst_vars; exact c_27) | skip
          refine g_iload_n E 3 dX5_carryOut_30 rfl rfl ?_
          refine g_ifeq E 93 dX5_carryOut_31 (by decide) (fun c_31 => ?_) (fun c_31 => ?_)
          · skip
            refine g_aload_n E 1 dX5_carryOut_93 rfl rfl ?_
            refine g_iconst E 0 dX5_carryOut_94 (by decide) ?_
            refine g_put E (ci := 5) inlX5 0 rfl rfl 6 (by decide) tyX5 tyX5_ok nmX5 fl_X5_108 rfl rfl rfl rfl (ok_lt rfl) (ws' := MW d a (pr 0 r1 f) ((pastK r past kk), nI (kn1 kk), sl, sv, pd, 0)) rfl dX5_carryOut_95 ?_
            refine g_iload_n E 2 dX5_carryOut_98 rfl rfl ?_
            subst hv5_
            exact RET 99 _ n1 _ dX5_carryOut_99 rfl (by rw [r_X5_carryOut_at41, if_pos c_43, if_pos c_47, if_pos c_27, if_pos c_31]) (by rw [c_X5_carryOut_s_at41, if_pos c_43, if_pos c_47, if_pos c_27, if_pos c_31, c_X5_carryOut_past_at41, if_pos c_43, if_pos c_47, if_pos c_27, if_pos c_31, c_X5_carryOut_kn_at41, if_pos c_43, if_pos c_47, if_pos c_27, if_pos c_31, c_X5_carryOut_ln_at41, if_pos c_43, if_pos c_47, if_pos c_27, if_pos c_31])
          · skip
            refine g_aload_n E 1 dX5_carryOut_34 rfl rfl ?_
            refine g_iload_n E 0 dX5_carryOut_35 rfl rfl ?_
            refine g_callVi0 E gc_X5_ordersAt ml_X5_138 (t_X5_ordersAt d a (v5_ + 1) r1 f (pastK r past kk) (nI (kn1 kk)) sl sv pd ln (by first | decide | (subst_vars; exact cn.1)) hl (by first | exact okV_s (by decide) cf | (subst_vars; exact okV_s cn.1 cn.2.1))) rfl rfl (ci := 5) 0 rfl rfl rfl rfl (ok_le rfl) ⟨ok_le rfl, ok_le rfl, ok_le rfl, ok_le rfl⟩ rfl rfl dX5_carryOut_36 ?_
            refine g_nm (fun v6_ hv6_ => ?_)
            refine g_istore E (lv' := [(4, .int v6_), (2, .int (v5_ + 1)), (0, .ref (a 0)), (1, .int n1), (3, .int go)]) dX5_carryOut_39 (by decide) rfl ?_
            refine g_lvs (lv' := [(0, .ref (a 0)), (1, .int n1), (2, .int (v5_ + 1)), (3, .int go), (4, .int v6_)]) [2, 3, 1, 4, 0] rfl ?_
            subst hv6_
            subst hv5_
            exact ih n1 ((r_X5_orderEnd pl pd ln) + 1) go (r_X5_ordersAt ((r_X5_orderEnd pl pd ln) + 1) pd ln) r1 (by first | exact h0 | (subst_vars; exact cn.1)) (by first | exact hv | (subst_vars; exact cn.2.1)) (by first | omega | (subst_vars; exact oA_b pd ln cn.1)) (by first | exact hJ1 | (subst_vars; exact hJc _ _ h0 hJ1)) (by first | omega | (subst_vars; have q1 := cn.2.2; have q2 := oA_b pd ln cn.1; omega)) (fun pc_ lv_ v_ u_ h1_ h2_ h3_ h4_ => RET pc_ lv_ v_ u_ h1_ h2_ (h3_.trans (by rw [r_X5_carryOut_at41, if_pos c_43, if_pos c_47, if_pos c_27, if_neg c_31])) (h4_.trans (by rw [c_X5_carryOut_s_at41, if_pos c_43, if_pos c_47, if_pos c_27, if_neg c_31, c_X5_carryOut_past_at41, if_pos c_43, if_pos c_47, if_pos c_27, if_neg c_31, c_X5_carryOut_kn_at41, if_pos c_43, if_pos c_47, if_pos c_27, if_neg c_31, c_X5_carryOut_ln_at41, if_pos c_43, if_pos c_47, if_pos c_27, if_neg c_31])))
      · skip
        refine g_aload_n E 0 dX5_carryOut_50 rfl rfl ?_
        refine g_iload_n E 2 dX5_carryOut_51 rfl rfl ?_
        refine g_callVi0 E gc_X5_carries ml_X5_141 (t_X5_carries d a pl r1 f (pastK r past kk) (nI (kn1 kk)) sl sv pd ln h0 hl (hJs _ hJ1)) rfl rfl (ci := 5) 0 rfl rfl rfl rfl (ok_le rfl) ⟨ok_le rfl, ok_le rfl, ok_le rfl, ok_le rfl⟩ rfl rfl dX5_carryOut_52 ?_
        obtain ⟨S7_, hS7_⟩ : ∃ z, c_X5_carries_s pl r1 pd ln = z := ⟨_, rfl⟩
        rw [hS7_]
        refine g_nm (fun v8_ hv8_ => ?_)
        refine g_ifne E 62 dX5_carryOut_55 (by decide) (fun c_55 => ?_) (fun c_55 => ?_)
        · skip
          refine g_iconst E 0 dX5_carryOut_62 (by decide) ?_
          refine g_istore_n E (lv' := [(3, .int 0), (0, .ref (a 0)), (1, .int n1), (2, .int pl), (4, .int k)]) dX5_carryOut_63 rfl (by decide) rfl ?_
          refine g_iload_n E 2 dX5_carryOut_64 rfl rfl ?_
          refine g_iload_n E 0 dX5_carryOut_65 rfl rfl ?_
          refine g_ifeq E 73 dX5_carryOut_66 (by decide) (fun _ => ?_) (fun q_ => absurd q_ (by decide))
          refine g_iconst E 0 dX5_carryOut_73 (by decide) ?_
          refine g_iadd E dX5_carryOut_74 ?_
          refine g_istore_n E (lv' := [(1, .int (n1 + 0)), (3, .int 0), (0, .ref (a 0)), (2, .int pl), (4, .int k)]) dX5_carryOut_75 rfl (by decide) rfl ?_
          refine g_iinc E (j := 4) (v := (k + (-1))) (lv' := [(4, .int (k + (-1))), (1, .int (n1 + 0)), (3, .int 0), (0, .ref (a 0)), (2, .int pl)]) dX5_carryOut_76 rfl rfl (by decide) rfl ?_
          refine g_goto E 41 dX5_carryOut_79 (by decide) ?_
          refine g_lvs (lv' := [(0, .ref (a 0)), (1, .int (n1 + 0)), (2, .int pl), (3, .int 0), (4, .int (k + (-1)))]) [3, 1, 4, 2, 0] rfl ?_
          subst hv8_
          subst hS7_
          exact ih (n1 + 0) pl 0 (k + (-1)) (c_X5_carries_s pl r1 pd ln) (by first | exact h0 | (subst_vars; exact cn.1)) (by first | exact hv | (subst_vars; exact cn.2.1)) (by first | omega | (subst_vars; exact oA_b pd ln cn.1)) (by first | exact hJ1 | (subst_vars; exact hJc _ _ h0 hJ1)) (by first | omega | (subst_vars; have q1 := cn.2.2; have q2 := oA_b pd ln cn.1; omega)) (fun pc_ lv_ v_ u_ h1_ h2_ h3_ h4_ => RET pc_ lv_ v_ u_ h1_ h2_ (h3_.trans (by rw [r_X5_carryOut_at41, if_pos c_43, if_neg c_47, if_neg c_55])) (h4_.trans (by rw [c_X5_carryOut_s_at41, if_pos c_43, if_neg c_47, if_neg c_55, c_X5_carryOut_past_at41, if_pos c_43, if_neg c_47, if_neg c_55, c_X5_carryOut_kn_at41, if_pos c_43, if_neg c_47, if_neg c_55, c_X5_carryOut_ln_at41, if_pos c_43, if_neg c_47, if_neg c_55])))
        · skip
          refine g_iconst E 1 dX5_carryOut_58 (by decide) ?_
          refine g_goto E 63 dX5_carryOut_59 (by decide) ?_
          refine g_istore_n E (lv' := [(3, .int 1), (0, .ref (a 0)), (1, .int n1), (2, .int pl), (4, .int k)]) dX5_carryOut_63 rfl (by decide) rfl ?_
          refine g_iload_n E 2 dX5_carryOut_64 rfl rfl ?_
          refine g_iload_n E 0 dX5_carryOut_65 rfl rfl ?_
          refine g_ifeq E 73 dX5_carryOut_66 (by decide) (fun q_ => absurd q_ (by decide)) (fun _ => ?_)
          refine g_iconst E 1 dX5_carryOut_69 (by decide) ?_
          refine g_goto E 74 dX5_carryOut_70 (by decide) ?_
          refine g_iadd E dX5_carryOut_74 ?_
          refine g_istore_n E (lv' := [(1, .int (n1 + 1)), (3, .int 1), (0, .ref (a 0)), (2, .int pl), (4, .int k)]) dX5_carryOut_75 rfl (by decide) rfl ?_
          refine g_iinc E (j := 4) (v := (k + (-1))) (lv' := [(4, .int (k + (-1))), (1, .int (n1 + 1)), (3, .int 1), (0, .ref (a 0)), (2, .int pl)]) dX5_carryOut_76 rfl rfl (by decide) rfl ?_
          refine g_goto E 41 dX5_carryOut_79 (by decide) ?_
          refine g_lvs (lv' := [(0, .ref (a 0)), (1, .int (n1 + 1)), (2, .int pl), (3, .int 1), (4, .int (k + (-1)))]) [3, 1, 4, 2, 0] rfl ?_
          subst hv8_
          subst hS7_
          exact ih (n1 + 1) pl 1 (k + (-1)) (c_X5_carries_s pl r1 pd ln) (by first | exact h0 | (subst_vars; exact cn.1)) (by first | exact hv | (subst_vars; exact cn.2.1)) (by first | omega | (subst_vars; exact oA_b pd ln cn.1)) (by first | exact hJ1 | (subst_vars; exact hJc _ _ h0 hJ1)) (by first | omega | (subst_vars; have q1 := cn.2.2; have q2 := oA_b pd ln cn.1; omega)) (fun pc_ lv_ v_ u_ h1_ h2_ h3_ h4_ => RET pc_ lv_ v_ u_ h1_ h2_ (h3_.trans (by rw [r_X5_carryOut_at41, if_pos c_43, if_neg c_47, if_pos c_55])) (h4_.trans (by rw [c_X5_carryOut_s_at41, if_pos c_43, if_neg c_47, if_pos c_55, c_X5_carryOut_past_at41, if_pos c_43, if_neg c_47, if_pos c_55, c_X5_carryOut_kn_at41, if_pos c_43, if_neg c_47, if_pos c_55, c_X5_carryOut_ln_at41, if_pos c_43, if_neg c_47, if_pos c_55])))
set_option maxHeartbeats 4000000 in
set_option maxRecDepth 100000 in
theorem s_X5_carryOut_0 (d : gD) (a : Nat → Nat) (r : Nat → Int32) (f : Nat → Int32) (past : Nat → Int32) (kk : Nat) (sl : Nat → Int32) (sv : Nat → Int32) (pd : Nat → Int32) (ln : Int32) (J : (Nat → Int32) → Prop) (hkk : kk ≤ 6) (hl : ln.toInt ≤ 80) (hJ : J r) (hJs : ∀ q, J q → SH q) (hJc : ∀ p q, 0 ≤ p.toInt ∧ p.toInt ≤ 80 → J q → J (c_X5_carries_s p q pd ln))  {X : gX} (E : gE d X RX5 cX5_carryOut 5 R_X5_carryOut) (RET : ∀ (pc_ : Nat) (lv_ : List (Nat × Value)) (v_ : Int32) (u_ : va_W), decode cX5_carryOut pc_ = .ok (.ireturn, 1) → narrow .int (.int v_) = .int v_ → v_ = r_X5_carryOut r past kk pd ln → u_ = MW d a (pr 0 (c_X5_carryOut_s r past kk pd ln) f) ((c_X5_carryOut_past r past kk pd ln), (c_X5_carryOut_kn r past kk pd ln), sl, sv, pd, (c_X5_carryOut_ln r past kk pd ln)) → G d X u_ R_X5_carryOut.cells R_X5_carryOut.slots pc_ lv_ [.int v_]) : G d X (MW d a (pr 0 r f) (past, nI kk, sl, sv, pd, ln)) 0 0 0 [(0, .ref (a 0))] [] := by
  refine g_aload_n E 0 dX5_carryOut_0 rfl rfl ?_
  refine g_callVi0 E gc_X5_fault ml_X5_134 (t_X5_fault d a (pr 0 r f) past (nI kk) sl sv pd ln hl) rfl rfl (ci := 5) 0 rfl rfl rfl rfl (ok_le rfl) ⟨ok_le rfl, ok_le rfl, ok_le rfl, ok_le rfl⟩ rfl rfl dX5_carryOut_1 ?_
  refine g_nm (fun v1_ hv1_ => ?_)
  refine g_bipush E (-6) dX5_carryOut_4 (by decide) ?_
  refine g_icmpeq E 12 dX5_carryOut_6 (by decide) (fun c_6 => ?_) (fun c_6 => ?_)
  · skip
    have cf : okV pd ln 0 := fault_ok hl (hv1_.trans c_6)
    refine g_aload_n E 0 dX5_carryOut_12 rfl rfl ?_
    refine g_callVv0 E gc_X5_remembers ml_X5_79 (t2_X5_remembers d a r f past kk sl sv pd ln hkk) rfl rfl (ci := 5) 0 rfl rfl rfl rfl (ok_le rfl) ⟨ok_le rfl, ok_le rfl, ok_le rfl, ok_le rfl⟩ rfl rfl dX5_carryOut_13 ?_
    refine g_iconst E 0 dX5_carryOut_16 (by decide) ?_
    refine g_istore_n E (lv' := [(1, .int 0), (0, .ref (a 0))]) dX5_carryOut_17 rfl (by decide) rfl ?_
    refine g_iconst E 0 dX5_carryOut_18 (by decide) ?_
    refine g_istore_n E (lv' := [(2, .int 0), (1, .int 0), (0, .ref (a 0))]) dX5_carryOut_19 rfl (by decide) rfl ?_
    refine g_iconst E 1 dX5_carryOut_20 (by decide) ?_
    refine g_istore_n E (lv' := [(3, .int 1), (2, .int 0), (1, .int 0), (0, .ref (a 0))]) dX5_carryOut_21 rfl (by decide) rfl ?_
    refine g_iload_n E 1 dX5_carryOut_22 rfl rfl ?_
    refine g_aload_n E 3 dX5_carryOut_23 rfl rfl ?_
    refine g_get E (ci := 5) inlX5 0 rfl rfl 6 (by decide) fl_X5_108 rfl (.int ln) rfl dX5_carryOut_24 ?_
    refine g_icmpge E 93 dX5_carryOut_27 (by decide) (fun c_27 => ?_) (fun c_27 => ?_)
    · skip
      refine g_aload_n E 3 dX5_carryOut_93 rfl rfl ?_
      refine g_iconst E 0 dX5_carryOut_94 (by decide) ?_
      refine g_put E (ci := 5) inlX5 0 rfl rfl 6 (by decide) tyX5 tyX5_ok nmX5 fl_X5_108 rfl rfl rfl rfl (ok_lt rfl) (ws' := MW d a (pr 0 r f) ((pastK r past kk), nI (kn1 kk), sl, sv, pd, 0)) rfl dX5_carryOut_95 ?_
      refine g_iload_n E 2 dX5_carryOut_98 rfl rfl ?_
      subst hv1_
      exact RET 99 _ 0 _ dX5_carryOut_99 rfl (by rw [r_X5_carryOut, if_pos c_6, if_neg c_27]) (by rw [c_X5_carryOut_s, if_pos c_6, if_neg c_27, c_X5_carryOut_past, if_pos c_6, if_neg c_27, c_X5_carryOut_kn, if_pos c_6, if_neg c_27, c_X5_carryOut_ln, if_pos c_6, if_neg c_27])
    · skip
      first | have cn := cO_next (pl := pl) h0 hl hv (by subst_vars; exact c_27) | skip
      refine g_iload_n E 0 dX5_carryOut_30 rfl rfl ?_
      refine g_ifeq E 93 dX5_carryOut_31 (by decide) (fun q_ => absurd q_ (by decide)) (fun _ => ?_)
      refine g_aload_n E 3 dX5_carryOut_34 rfl rfl ?_
      refine g_iload_n E 1 dX5_carryOut_35 rfl rfl ?_
      refine g_callVi0 E gc_X5_ordersAt ml_X5_138 (t_X5_ordersAt d a 0 r f (pastK r past kk) (nI (kn1 kk)) sl sv pd ln (by first | decide | (subst_vars; exact cn.1)) hl (by first | exact okV_s (by decide) cf | (subst_vars; exact okV_s cn.1 cn.2.1))) rfl rfl (ci := 5) 0 rfl rfl rfl rfl (ok_le rfl) ⟨ok_le rfl, ok_le rfl, ok_le rfl, ok_le rfl⟩ rfl rfl dX5_carryOut_36 ?_
      refine g_nm (fun v2_ hv2_ => ?_)
      refine g_istore E (lv' := [(4, .int v2_), (3, .int 1), (2, .int 0), (1, .int 0), (0, .ref (a 0))]) dX5_carryOut_39 (by decide) rfl ?_
      refine g_lvs (lv' := [(0, .ref (a 0)), (1, .int 0), (2, .int 0), (3, .int 1), (4, .int v2_)]) [4, 3, 2, 1, 0] rfl ?_
      subst hv2_
      subst hv1_
      exact s_X5_carryOut_41 d a r f past kk sl sv pd ln J hkk hl hJ hJs hJc E 82000 0 0 1 (r_X5_ordersAt 0 pd ln) r (by decide) cf (by subst_vars; exact oA_b pd ln (by decide)) hJ (by subst_vars; have := oA_b (pl := 0) pd ln (by decide); have e0 : (0 : Int32).toInt = 0 := rfl; omega) (fun pc_ lv_ v_ u_ h1_ h2_ h3_ h4_ => RET pc_ lv_ v_ u_ h1_ h2_ (h3_.trans (by rw [r_X5_carryOut, if_pos c_6, if_pos c_27])) (h4_.trans (by rw [c_X5_carryOut_s, if_pos c_6, if_pos c_27, c_X5_carryOut_past, if_pos c_6, if_pos c_27, c_X5_carryOut_kn, if_pos c_6, if_pos c_27, c_X5_carryOut_ln, if_pos c_6, if_pos c_27])))
  · skip
    refine g_bipush E (-3) dX5_carryOut_9 (by decide) ?_
    subst hv1_
    exact RET 11 _ (-3) _ dX5_carryOut_11 rfl (by rw [r_X5_carryOut, if_neg c_6]) (by rw [c_X5_carryOut_s, if_neg c_6, c_X5_carryOut_past, if_neg c_6, c_X5_carryOut_kn, if_neg c_6, c_X5_carryOut_ln, if_neg c_6])
set_option maxHeartbeats 4000000 in
set_option maxRecDepth 100000 in
theorem t_X5_carryOut (d : gD) (a : Nat → Nat) (r : Nat → Int32) (f : Nat → Int32) (past : Nat → Int32) (kk : Nat) (sl : Nat → Int32) (sv : Nat → Int32) (pd : Nat → Int32) (ln : Int32) (J : (Nat → Int32) → Prop) (hkk : kk ≤ 6) (hl : ln.toInt ≤ 80) (hJ : J r) (hJs : ∀ q, J q → SH q) (hJc : ∀ p q, 0 ≤ p.toInt ∧ p.toInt ≤ 80 → J q → J (c_X5_carries_s p q pd ln)) : gMi d yX5_carryOut cX5_carryOut 5 (some .int) R_X5_carryOut [.ref (a 0)] (MW d a (pr 0 r f) (past, nI kk, sl, sv, pd, ln)) (fun r_ u_ => r_ = r_X5_carryOut r past kk pd ln ∧ u_ = MW d a (pr 0 (c_X5_carryOut_s r past kk pd ln) f) ((c_X5_carryOut_past r past kk pd ln), (c_X5_carryOut_kn r past kk pd ln), sl, sv, pd, (c_X5_carryOut_ln r past kk pd ln))) :=
  g_met_i RX5 rfl (by decide +kernel) (Nat.le_of_ble_eq_true rfl) [(0, .ref (a 0))] rfl (fun X E RET => s_X5_carryOut_0 d a r f past kk sl sv pd ln J hkk hl hJ hJs hJc E (fun pc_ lv_ v_ u_ h1_ h2_ h3_ h4_ => RET pc_ lv_ v_ u_ h1_ h2_ ⟨h3_, h4_⟩))
