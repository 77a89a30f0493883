/-! the directions: told and counted -/
theorem pig : ∀ (n : Nat) (c : Nat → Nat), (∀ k, k < n → c k < n) → (∀ j k, j < n → k < n → c j = c k → j = k) → ∀ m, m < n → ∃ k, k < n ∧ c k = m
  | 0, _, _, _, m, hm => absurd hm (by omega)
  | n + 1, c, hb, hi, m, hm => by
    have hP := pig n (fun k => if c k = n then c n else c k)
      (fun k hk => by
        show (if c k = n then c n else c k) < n
        have h1 := hb k (by omega)
        have h2 := hb n (by omega)
        by_cases e : c k = n
        · rw [if_pos e]
          have : c n ≠ n := fun e2 => by
            have := hi k n (by omega) (by omega) (e.trans e2.symm)
            omega
          omega
        · rw [if_neg e]
          omega)
      (fun j k hj hk e => by
        replace e : (if c j = n then c n else c j) = (if c k = n then c n else c k) := e
        by_cases e1 : c j = n
        · by_cases e2 : c k = n
          · exact hi j k (by omega) (by omega) (e1.trans e2.symm)
          · rw [if_pos e1, if_neg e2] at e
            have := hi n k (by omega) (by omega) e
            omega
        · by_cases e2 : c k = n
          · rw [if_neg e1, if_pos e2] at e
            have := hi j n (by omega) (by omega) e
            omega
          · rw [if_neg e1, if_neg e2] at e
            exact hi j k (by omega) (by omega) e)
    by_cases hc : c n = m
    · exact ⟨n, by omega, hc⟩
    · by_cases hn : m = n
      · have hcn := hb n (by omega)
        obtain ⟨k, hk, e⟩ := hP (c n) (by omega)
        replace e : (if c k = n then c n else c k) = c n := e
        by_cases e1 : c k = n
        · exact ⟨k, by omega, e1.trans hn.symm⟩
        · rw [if_neg e1] at e
          have := hi k n (by omega) (by omega) e
          omega
      · obtain ⟨k, hk, e⟩ := hP m (by omega)
        replace e : (if c k = n then c n else c k) = m := e
        by_cases e1 : c k = n
        · rw [if_pos e1] at e
          exact absurd e hc
        · rw [if_neg e1] at e
          exact ⟨k, by omega, e⟩
def sg (v : Int32) : Nat := if 0 < v then 2 else if v < 0 then 0 else 1
theorem sg_3 (v : Int32) : sg v < 3 := by
  unfold sg
  repeat' split
  all_goals omega
theorem sg_c (v : Int32) : r_J6_compare_7cf53 v 0 + 1 = nI (sg v) := by
  unfold r_J6_compare_7cf53 sg
  by_cases h : v < 0
  · have h1 := ti_lt.mp h
    rw [if_pos h, if_neg (fun q => by have h2 := ti_lt.mp q; omega), if_pos h]
    rfl
  · rw [if_neg h, if_neg h]
    by_cases h0 : v = 0
    · rw [if_pos h0, if_neg (fun q => by have h2 := ti_lt.mp q; rw [h0] at h2; omega)]
      rfl
    · rw [if_neg h0, if_pos (ti_lt.mpr (by have h1 := mt ti_lt.mpr h; have h2 := mt ti_eq.mpr h0; omega))]
      rfl
theorem m3 : ∀ a, a < 3 → ∀ b, b < 3 → 3 * nI a + nI b = nI (3 * a + b) := by decide +kernel
theorem told_eq (u v : Int32) : 3 * (r_J6_compare_7cf53 u 0 + 1) + r_J6_compare_7cf53 v 0 + 1 = nI (3 * sg u + sg v) := by
  rw [Int32.add_assoc, sg_c, sg_c]
  exact m3 _ (sg_3 u) _ (sg_3 v)
/-- the class's side -/
def noteW (m : Nat) (D : DD) : Int32 := if nI m = D.1 1 then D.1 2 + 1 else 1
theorem note_old {x y : Int32} {D : DD} {m : Nat} (hm : m < 9) (e : 3 * (x + 1) + y + 1 = nI m) (h : ¬ D.2.2.1 m = 0) : c_X0_note x y D = (upd (upd D.1 2 (noteW m D)) 1 (nI m), D.2.1, upd D.2.2.1 m (D.2.2.1 m + 1), upd D.2.2.2 m (imax (D.2.2.2 m) (noteW m D))) := by
  have e1 : ¬ nI m < 0 := nI_pos (by omega)
  have e2 : nI m < 9 := nI_lt (b := 9) hm (by omega)
  unfold c_X0_note c_X0_note_at59 c_X0_note_at78 j_X0_note_78_s0 j_X0_note_59_g j_X0_note_59_br
  rw [e, nI_clamp (by omega), if_neg e1, if_pos e2, if_neg e1, if_pos e2, if_neg h, if_neg e1, if_pos e2, if_neg h]
  rfl
theorem note_new {x y : Int32} {D : DD} {m nd : Nat} (hm : m < 9) (e : 3 * (x + 1) + y + 1 = nI m) (h : D.2.2.1 m = 0) (hn : D.1 0 = nI nd) (h9 : nd < 9) : c_X0_note x y D = (upd (upd (upd D.1 0 (nI (nd + 1))) 2 (noteW m D)) 1 (nI m), upd D.2.1 nd (nI m), upd D.2.2.1 m (D.2.2.1 m + 1), upd D.2.2.2 m (imax (D.2.2.2 m) (noteW m D))) := by
  have e1 : ¬ nI m < 0 := nI_pos (by omega)
  have e2 : nI m < 9 := nI_lt (b := 9) hm (by omega)
  have e3 : nI nd < 9 := nI_lt (b := 9) h9 (by omega)
  unfold c_X0_note c_X0_note_at59 c_X0_note_at78 j_X0_note_78_s0 j_X0_note_59_g j_X0_note_59_br
  rw [e, hn, nI_clamp (n := m) (by omega), nI_clamp (n := nd) (by omega), if_neg e1, if_pos e2, if_neg e1, if_pos e2, if_pos h, if_pos e3, if_neg e1, if_pos e2, if_pos h, if_pos e3, nI_1]
  rfl
theorem sg_1 (v : Int32) : sg v = 1 ↔ v = 0 := by
  unfold sg
  by_cases c : 0 < v
  · rw [if_pos c]
    refine ⟨fun q => absurd q (by decide), fun q => ?_⟩
    rw [q] at c
    exact absurd c (by decide)
  · rw [if_neg c]
    by_cases c2 : v < 0
    · rw [if_pos c2]
      refine ⟨fun q => absurd q (by decide), fun q => ?_⟩
      rw [q] at c2
      exact absurd c2 (by decide)
    · rw [if_neg c2]
      refine ⟨fun _ => ti_eq.mpr ?_, fun _ => rfl⟩
      have h1 := nlt_iff.mp c
      have h2 := nlt_iff.mp c2
      omega
theorem mid_tl (a b : Int32) : (tl a b).toInt = if 3 * sg a + sg b = 4 then 0 else 1 := by
  have ha := sg_3 a
  have hb := sg_3 b
  by_cases c : tl a b = 0
  · obtain ⟨h1, h2⟩ := tl_0.mp c
    rw [c, (sg_1 a).mpr h1, (sg_1 b).mpr h2, if_pos (by decide)]
    rfl
  · have c1 : tl a b = 1 := by
      rcases tl_01 a b with h | h
      · exact absurd h c
      · exact h
    rw [c1, if_neg (fun q => c (tl_0.mpr ⟨(sg_1 a).mp (by omega), (sg_1 b).mp (by omega)⟩))]
    rfl
/-- the sum over the first ranks -/
def sumN (f : Nat → Int) : Nat → Int
  | 0 => 0
  | n + 1 => sumN f n + f n
theorem sumN_cong {f g : Nat → Int} : ∀ n, (∀ k, k < n → f k = g k) → sumN f n = sumN g n
  | 0, _ => rfl
  | n + 1, h => by
    show sumN f n + f n = sumN g n + g n
    rw [sumN_cong n (fun k hk => h k (by omega)), h n (by omega)]
theorem sumN_put {f g : Nat → Int} {i : Nat} : ∀ n, i < n → (∀ k, k < n → k ≠ i → g k = f k) → sumN g n = sumN f n + (g i - f i)
  | 0, hi, _ => absurd hi (by omega)
  | n + 1, hi, h => by
    show sumN g n + g n = sumN f n + f n + (g i - f i)
    by_cases e : i = n
    · subst e
      rw [sumN_cong (f := g) (g := f) i (fun k hk => h k (by omega) (by omega))]
      omega
    · rw [sumN_put n (by omega) (fun k hk hne => h k (by omega) hne), h n (by omega) (fun q => e q.symm)]
      omega
def DIR (D : DD) (n t : Int) : Prop := ∃ (nd : Nat) (c : Nat → Nat), D.1 0 = nI nd ∧ nd ≤ 9 ∧
  (∀ k, k < nd → c k < 9 ∧ D.2.1 k = nI (c k) ∧ 1 ≤ (D.2.2.2 (c k)).toInt ∧ (D.2.2.2 (c k)).toInt ≤ (D.2.2.1 (c k)).toInt ∧ (D.2.2.1 (c k)).toInt ≤ n) ∧
  (∀ j k, j < nd → k < nd → c j = c k → j = k) ∧
  (∀ m, m < 9 → (∀ k, k < nd → c k ≠ m) → D.2.2.1 m = 0 ∧ D.2.2.2 m = 0) ∧
  (D.1 1 = -6 ∨ ∃ k, k < nd ∧ D.1 1 = nI (c k) ∧ 0 ≤ (D.1 2).toInt ∧ (D.1 2).toInt ≤ (D.2.2.1 (c k)).toInt) ∧
  sumN (fun k => (D.2.2.1 (c k)).toInt) nd = n ∧ sumN (fun k => if c k = 4 then 0 else (D.2.2.1 (c k)).toInt) nd = t
theorem ne_m6 {m : Nat} (h : m < 9) : ¬ nI m = -6 := fun q => by
  rw [← Int32.toInt_inj, nI_toInt (by omega)] at q
  exact absurd q (by rw [show (-6 : Int32).toInt = -6 from rfl]; omega)
theorem DIR_step {D : DD} {n t : Int} (h : DIR D n t) (hn : 0 ≤ n ∧ n ≤ 20000) (a b : Int32) : DIR (c_X0_note (r_J6_compare_7cf53 a 0) (r_J6_compare_7cf53 b 0) D) (n + 1) (t + (tl a b).toInt) := by
  obtain ⟨nd, c, h1, h2, h3, h4, h5, h6, h7, h8⟩ := h
  have hsa := sg_3 a
  have hsb := sg_3 b
  have hT := told_eq a b
  rw [mid_tl]
  obtain ⟨m, em⟩ : ∃ m, 3 * sg a + sg b = m := ⟨_, rfl⟩
  have hm : m < 9 := by omega
  rw [em] at hT ⊢
  by_cases hex : ∃ k, k < nd ∧ c k = m
  · obtain ⟨k, hk, ek⟩ := hex
    obtain ⟨p1, p2, p3, p4, p5⟩ := h3 k hk
    rw [ek] at p1 p2 p3 p4 p5
    have hne : ¬ D.2.2.1 m = 0 := fun q => by
      rw [q, z0] at p4
      omega
    have hw : 1 ≤ (noteW m D).toInt ∧ (noteW m D).toInt ≤ (D.2.2.1 m).toInt + 1 := by
      unfold noteW
      by_cases e : nI m = D.1 1
      · rw [if_pos e]
        rcases h6 with q | ⟨k0, q1, q2, q3, q4⟩
        · rw [q] at e
          exact absurd e (ne_m6 hm)
        · have h9 := (h3 k0 q1).1
          have e2 : m = c k0 := (nI_eq (by omega) (by omega)).mp (e.trans q2)
          rw [← e2] at q4
          rw [i_1 (by omega)]
          omega
      · rw [if_neg e, z1]
        omega
    rw [note_old hm hT hne]
    obtain ⟨w, ew⟩ : ∃ w, noteW m D = w := ⟨_, rfl⟩
    rw [ew] at hw ⊢
    have esi : (D.2.2.1 m + 1).toInt = (D.2.2.1 m).toInt + 1 := i_1 (by omega)
    have hmax := imax_toInt (D.2.2.2 m) w
    have at_m : ∀ j, j < nd → c j = m → j = k := fun j hj e => h4 j k hj hk (e.trans ek.symm)
    refine ⟨nd, c, ?_, h2, ?_, h4, ?_, ?_, ?_, ?_⟩
    · show upd (upd D.1 2 w) 1 (nI m) 0 = _
      exact (upd_lo (by decide)).trans ((upd_lo (by decide)).trans h1)
    · intro j hj
      obtain ⟨o1, o2, o3, o4, o5⟩ := h3 j hj
      refine ⟨o1, o2, ?_⟩
      show 1 ≤ (upd _ _ _ (c j)).toInt ∧ (upd _ _ _ (c j)).toInt ≤ (upd _ _ _ (c j)).toInt ∧ (upd _ _ _ (c j)).toInt ≤ _
      by_cases e : c j = m
      · rw [e, upd_eq, upd_eq, esi, hmax]
        split <;> omega
      · rw [upd_lo e, upd_lo e]
        omega
    · intro m' hm9 hab
      have ne : m' ≠ m := fun q => hab k hk (ek.trans q.symm)
      show upd _ _ _ m' = _ ∧ upd _ _ _ m' = _
      rw [upd_lo ne, upd_lo ne]
      exact h5 m' hm9 hab
    · refine Or.inr ⟨k, hk, ?_, ?_⟩
      · show upd (upd D.1 2 w) 1 (nI m) 1 = _
        rw [upd_eq, ek]
      · show 0 ≤ (upd (upd D.1 2 w) 1 (nI m) 2).toInt ∧ (upd (upd D.1 2 w) 1 (nI m) 2).toInt ≤ (upd D.2.2.1 m (D.2.2.1 m + 1) (c k)).toInt
        rw [upd_lo (by decide), upd_eq, ek, upd_eq, esi]
        omega
    · have hs := sumN_put (f := fun k => (D.2.2.1 (c k)).toInt) (g := fun k => (upd D.2.2.1 m (D.2.2.1 m + 1) (c k)).toInt) nd hk (fun j hj hne => by
        show (upd _ _ _ (c j)).toInt = _
        rw [upd_lo (fun e => hne (at_m j hj e))])
      refine hs.trans ?_
      show sumN (fun k => (D.2.2.1 (c k)).toInt) nd + ((upd D.2.2.1 m (D.2.2.1 m + 1) (c k)).toInt - (D.2.2.1 (c k)).toInt) = _
      rw [h7, ek, upd_eq, esi]
      omega
    · have hs := sumN_put (f := fun k => if c k = 4 then 0 else (D.2.2.1 (c k)).toInt) (g := fun k => if c k = 4 then 0 else (upd D.2.2.1 m (D.2.2.1 m + 1) (c k)).toInt) nd hk (fun j hj hne => by
        show (if c j = 4 then 0 else (upd _ _ _ (c j)).toInt) = _
        rw [upd_lo (fun e => hne (at_m j hj e))])
      refine hs.trans ?_
      show sumN (fun k => if c k = 4 then 0 else (D.2.2.1 (c k)).toInt) nd + ((if c k = 4 then 0 else (upd D.2.2.1 m (D.2.2.1 m + 1) (c k)).toInt) - (if c k = 4 then 0 else (D.2.2.1 (c k)).toInt)) = _
      rw [h8, ek, upd_eq, esi]
      by_cases e4 : m = 4
      · rw [if_pos e4, if_pos e4, if_pos e4]
        omega
      · rw [if_neg e4, if_neg e4, if_neg e4]
        omega
  · have hab : ∀ k, k < nd → c k ≠ m := fun k hk e => hex ⟨k, hk, e⟩
    have hlt : nd < 9 := by
      rcases Nat.lt_or_ge nd 9 with q | q
      · exact q
      · obtain ⟨k, hk, e⟩ := pig 9 c (fun k hk => (h3 k (by omega)).1) (fun j k hj hk e => h4 j k (by omega) (by omega) e) _ hm
        exact absurd e (hab k (by omega))
    obtain ⟨y1, y2⟩ := h5 _ hm hab
    have hw : noteW m D = 1 := by
      unfold noteW
      rw [if_neg]
      intro e
      rcases h6 with q | ⟨k0, q1, q2, q3, q4⟩
      · rw [q] at e
        exact absurd e (ne_m6 hm)
      · have h9 := (h3 k0 q1).1
        exact hab k0 q1 ((nI_eq (by omega) (by omega)).mp (e.trans q2)).symm
    rw [note_new hm hT y1 h1 hlt, hw, y1, y2]
    have i1 : imax 0 1 = (1 : Int32) := by decide
    have i2 : (0 + 1 : Int32) = 1 := by decide
    rw [i1, i2]
    have cn : ∀ j, j < nd → (fun j => if j = nd then m else c j) j = c j := fun j hj => if_neg (by omega)
    have cnd : (fun j => if j = nd then m else c j) nd = m := if_pos rfl
    obtain ⟨c', ec'⟩ : ∃ c' : Nat → Nat, (fun j => if j = nd then m else c j) = c' := ⟨_, rfl⟩
    rw [ec'] at cn cnd
    refine ⟨nd + 1, c', ?_, by omega, ?_, ?_, ?_, ?_, ?_, ?_⟩
    · show upd (upd (upd D.1 0 (nI (nd + 1))) 2 1) 1 (nI m) 0 = _
      exact (upd_lo (by decide)).trans ((upd_lo (by decide)).trans upd_eq)
    · intro j hj
      show c' j < 9 ∧ upd _ _ _ j = _ ∧ 1 ≤ (upd _ _ _ (c' j)).toInt ∧ (upd _ _ _ (c' j)).toInt ≤ (upd _ _ _ (c' j)).toInt ∧ (upd _ _ _ (c' j)).toInt ≤ _
      by_cases e : j = nd
      · subst e
        rw [cnd, upd_eq, upd_eq, upd_eq, z1]
        exact ⟨hm, rfl, by omega, by omega, by omega⟩
      · obtain ⟨o1, o2, o3, o4, o5⟩ := h3 j (by omega)
        have ne := hab j (by omega)
        rw [cn j (by omega), upd_lo e, upd_lo ne, upd_lo ne]
        exact ⟨o1, o2, o3, o4, by omega⟩
    · intro i j hi hj e
      by_cases e1 : i = nd
      · by_cases e2 : j = nd
        · omega
        · rw [e1, cnd, cn j (by omega)] at e
          exact absurd e.symm (hab j (by omega))
      · by_cases e2 : j = nd
        · rw [e2, cnd, cn i (by omega)] at e
          exact absurd e (hab i (by omega))
        · rw [cn i (by omega), cn j (by omega)] at e
          exact h4 i j (by omega) (by omega) e
    · intro m' hm9 hab2
      have ne : m' ≠ m := fun q => hab2 nd (by omega) (cnd.trans q.symm)
      show upd _ _ _ m' = _ ∧ upd _ _ _ m' = _
      rw [upd_lo ne, upd_lo ne]
      refine h5 m' hm9 (fun k hk e => hab2 k (by omega) ((cn k hk).trans e))
    · refine Or.inr ⟨nd, by omega, ?_, ?_⟩
      · show upd (upd (upd D.1 0 (nI (nd + 1))) 2 1) 1 (nI m) 1 = _
        rw [upd_eq, cnd]
      · show 0 ≤ (upd (upd (upd D.1 0 (nI (nd + 1))) 2 1) 1 (nI m) 2).toInt ∧ (upd (upd (upd D.1 0 (nI (nd + 1))) 2 1) 1 (nI m) 2).toInt ≤ (upd D.2.2.1 m 1 (c' nd)).toInt
        rw [upd_lo (by decide), upd_eq, cnd, upd_eq, z1]
        omega
    · show sumN (fun k => (upd D.2.2.1 m 1 (c' k)).toInt) nd + (upd D.2.2.1 m 1 (c' nd)).toInt = _
      rw [sumN_cong (g := fun k => (D.2.2.1 (c k)).toInt) nd (fun k hk => by
        show (upd D.2.2.1 m 1 (c' k)).toInt = _
        rw [cn k hk, upd_lo (hab k hk)]), h7, cnd, upd_eq, z1]
    · show sumN (fun k => if c' k = 4 then 0 else (upd D.2.2.1 m 1 (c' k)).toInt) nd + (if c' nd = 4 then 0 else (upd D.2.2.1 m 1 (c' nd)).toInt) = _
      rw [sumN_cong (g := fun k => if c k = 4 then 0 else (D.2.2.1 (c k)).toInt) nd (fun k hk => by
        show (if c' k = 4 then 0 else (upd D.2.2.1 m 1 (c' k)).toInt) = _
        rw [cn k hk, upd_lo (hab k hk)]), h8, cnd, upd_eq, z1]
theorem DIR_0 : DIR DD0 0 0 := by
  refine ⟨0, fun _ => 0, rfl, by omega, fun k hk => absurd hk (by omega), fun j k hj => absurd hj (by omega), fun m _ _ => ⟨rfl, rfl⟩, Or.inl rfl, rfl, rfl⟩
