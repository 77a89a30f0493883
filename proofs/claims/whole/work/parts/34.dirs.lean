/-! the directions, told and counted -/
theorem pig : ∀ (n : Nat) (c : Nat → Nat), (∀ k, k < n → c k < n) → (∀ j k, j < n → k < n → c j = c k → j = k) → ∀ m, m < n → ∃ k, k < n ∧ c k = m
  | 0, _, _, _, m, hm => absurd hm (by omega)
  | n + 1, c, hb, hi, m, hm => by
    have hP := pig n (fun k => if c k = n then c n else c k)
      (fun k hk => by
        show (if c k = n then c n else c k) < n
        have h1 := hb k (by omega)
        have h2 := hb n (by omega)
        by_cases e : c k = n
        · rw [if_pos e]
          have : c n ≠ n := fun e2 => by
            have := hi k n (by omega) (by omega) (e.trans e2.symm)
            omega
          omega
        · rw [if_neg e]
          omega)
      (fun j k hj hk e => by
        replace e : (if c j = n then c n else c j) = (if c k = n then c n else c k) := e
        by_cases e1 : c j = n
        · by_cases e2 : c k = n
          · exact hi j k (by omega) (by omega) (e1.trans e2.symm)
          · rw [if_pos e1, if_neg e2] at e
            have := hi n k (by omega) (by omega) e
            omega
        · by_cases e2 : c k = n
          · rw [if_neg e1, if_pos e2] at e
            have := hi j n (by omega) (by omega) e
            omega
          · rw [if_neg e1, if_neg e2] at e
            exact hi j k (by omega) (by omega) e)
    by_cases hc : c n = m
    · exact ⟨n, by omega, hc⟩
    · by_cases hn : m = n
      · have hcn := hb n (by omega)
        obtain ⟨k, hk, e⟩ := hP (c n) (by omega)
        replace e : (if c k = n then c n else c k) = c n := e
        by_cases e1 : c k = n
        · exact ⟨k, by omega, e1.trans hn.symm⟩
        · rw [if_neg e1] at e
          have := hi k n (by omega) (by omega) e
          omega
      · obtain ⟨k, hk, e⟩ := hP m (by omega)
        replace e : (if c k = n then c n else c k) = m := e
        by_cases e1 : c k = n
        · rw [if_pos e1] at e
          exact absurd e hc
        · rw [if_neg e1] at e
          exact ⟨k, by omega, e⟩
def sg (v : Int32) : Nat := if 0 < v then 2 else if v < 0 then 0 else 1
theorem sg_3 (v : Int32) : sg v < 3 := by
  unfold sg
  repeat' split
  all_goals omega
theorem sg_r (v : Int32) : r_X5_sign v = nI (sg v) := by
  unfold r_X5_sign sg
  repeat' split
  all_goals rfl
theorem sg_c (v : Int32) : r_J6_compare_7cf53 v 0 + 1 = nI (sg v) := by
  unfold r_J6_compare_7cf53 sg
  by_cases h : v < 0
  · have h1 := ti_lt.mp h
    rw [if_pos h, if_neg (fun q => by have h2 := ti_lt.mp q; omega), if_pos h]
    rfl
  · rw [if_neg h, if_neg h]
    by_cases h0 : v = 0
    · rw [if_pos h0, if_neg (fun q => by have h2 := ti_lt.mp q; rw [h0] at h2; omega)]
      rfl
    · rw [if_neg h0, if_pos (ti_lt.mpr (by have h1 := mt ti_lt.mpr h; have h2 := mt ti_eq.mpr h0; omega))]
      rfl
theorem m3 : ∀ a, a < 3 → ∀ b, b < 3 → 3 * nI a + nI b = nI (3 * a + b) := by decide +kernel
theorem told_eq (u v : Int32) : 3 * (r_J6_compare_7cf53 u 0 + 1) + r_J6_compare_7cf53 v 0 + 1 = nI (3 * sg u + sg v) := by
  rw [Int32.add_assoc, sg_c, sg_c]
  exact m3 _ (sg_3 u) _ (sg_3 v)
/-- the class's directions and the reference's, beside each other: c k is the code of rank k -/
def rsC (D : DD) (r : Nat → Int32) (nd : Nat) (B : Int) (c : Nat → Nat) : Prop :=
  D.1 0 = nI nd ∧ r 22 = nI nd ∧ nd ≤ 9 ∧
  (∀ k, k < nd → c k < 9 ∧ r (25 + 4 * k) = nI (c k / 3) ∧ r (26 + 4 * k) = nI (c k % 3) ∧ D.2.1 k = nI (c k) ∧ D.2.2.1 (c k) = r (27 + 4 * k) ∧ D.2.2.2 (c k) = r (28 + 4 * k) ∧ 1 ≤ (r (27 + 4 * k)).toInt ∧ (r (27 + 4 * k)).toInt ≤ B) ∧
  (∀ j k, j < nd → k < nd → c j = c k → j = k) ∧
  (∀ m, m < 9 → (∀ k, k < nd → c k ≠ m) → D.2.2.1 m = 0 ∧ D.2.2.2 m = 0) ∧
  ((r 23 = -1 ∧ D.1 1 = -6) ∨ ∃ k, k < nd ∧ r 23 = nI k ∧ D.1 1 = nI (c k)) ∧
  r 24 = D.1 2
def rsD (D : DD) (r : Nat → Int32) (nd : Nat) (B : Int) : Prop := ∃ c, rsC D r nd B c
theorem n3 {s : Int32} (h : s = 0 ∨ s = 1 ∨ s = 2) : ∃ a, a < 3 ∧ s = nI a := by
  rcases h with h | h | h
  · exact ⟨0, by omega, h⟩
  · exact ⟨1, by omega, h⟩
  · exact ⟨2, by omega, h⟩
theorem rsC_dir {D : DD} {r : Nat → Int32} {nd : Nat} {B : Int} {c : Nat → Nat} (h : rsC D r nd B c) : dirOK r nd := by
  obtain ⟨-, h2, h3, h4, h5, -⟩ := h
  refine ⟨h2, h3, fun h9 sx sy hx hy => ?_⟩
  obtain ⟨a, ha, ea⟩ := n3 hx
  obtain ⟨b, hb, eb⟩ := n3 hy
  obtain ⟨k, hk, e⟩ := pig 9 c (fun k hk => (h4 k (by omega)).1) (fun j k hj hk e => h5 j k (by omega) (by omega) e) (3 * a + b) (by omega)
  obtain ⟨-, q1, q2, -⟩ := h4 k (by omega)
  refine ⟨k, hk, ?_, ?_⟩
  · rw [q1, e, ea]
    congr 1
    omega
  · rw [q2, e, eb]
    congr 1
    omega
theorem cnt_at (r : Nat → Int32) (nd kf : Nat) (hnd : r 22 = nI nd) (h9 : nd ≤ 9) (hlt : ∀ j, j < kf → j < nd ∧ ¬ (r (25 + 4 * j) = r_X5_sign (r 14) ∧ r (26 + 4 * j) = r_X5_sign (r 15))) (hk : kf = nd ∨ (kf < nd ∧ r (25 + 4 * kf) = r_X5_sign (r 14) ∧ r (26 + 4 * kf) = r_X5_sign (r 15))) (n : Nat) : ∀ k, k ≤ kf → kf < n + k → c_X5_counts_s_at31 r n k = c_X5_counts_s_at89 r kf := by
  induction n with
  | zero => intro k h1 h2; omega
  | succ n ih =>
    intro k h1 h2
    show (if (nI k) < (r 22) then (if (r (25 + (4 * k))) = (r_X5_sign (r 14)) then (if (r (26 + (4 * k))) = (r_X5_sign (r 15)) then (c_X5_counts_s_at89 r k) else (c_X5_counts_s_at31 r n (k + 1))) else (c_X5_counts_s_at31 r n (k + 1))) else (c_X5_counts_s_at89 r k)) = _
    rw [hnd]
    by_cases e : k = kf
    · rw [e]
      rcases hk with e2 | ⟨l, m1, m2⟩
      · rw [if_neg (nI_nlt (by omega) (by omega))]
      · rw [if_pos (nI_lt l (by omega)), if_pos m1, if_pos m2]
    · obtain ⟨l, m⟩ := hlt k (by omega)
      rw [if_pos (nI_lt l (by omega))]
      by_cases m1 : r (25 + 4 * k) = r_X5_sign (r 14)
      · rw [if_pos m1, if_neg (fun q => m ⟨m1, q⟩)]
        exact ih (k + 1) (by omega) (by omega)
      · rw [if_neg m1]
        exact ih (k + 1) (by omega) (by omega)
theorem tel_k {r r' : Nat → Int32} (h14 : r' 14 = r 14) (h15 : r' 15 = r 15) : r_X5_isTelling r' = r_X5_isTelling r := by
  unfold r_X5_isTelling
  rw [h14, h15]
theorem tel01 (r : Nat → Int32) : r_X5_isTelling r = 0 ∨ r_X5_isTelling r = 1 := by
  unfold r_X5_isTelling
  repeat' split
  all_goals decide
def cntW (r1 : Nat → Int32) (k : Nat) : Int32 := if nI k = r1 23 then r1 24 + 1 else 1
def cntR (r1 : Nat → Int32) (k : Nat) (w : Int32) : Nat → Int32 := upd (upd (upd (upd (upd r1 24 w) 23 (nI k)) (27 + 4 * k) (r1 (27 + 4 * k) + 1)) (28 + 4 * k) (r_X5_greater (r1 (28 + 4 * k)) w)) 19 (r1 19 + r_X5_isTelling r1)
theorem cnt_202 (r : Nat → Int32) (k : Nat) (r1 : Nat → Int32) (w : Int32) : c_X5_counts_s_at202 r k r1 w = cntR r1 k w := by
  have e1 : upd (upd r1 24 w) 23 (nI k) (27 + 4 * k) = r1 (27 + 4 * k) := (upd_lo (by omega)).trans (upd_lo (by omega))
  have e2 : ∀ z, upd (upd (upd r1 24 w) 23 (nI k)) (27 + 4 * k) z (28 + 4 * k) = r1 (28 + 4 * k) := fun z => (upd_lo (by omega)).trans ((upd_lo (by omega)).trans (upd_lo (by omega)))
  have e3 : ∀ z, upd (upd (upd r1 24 w) 23 (nI k)) (27 + 4 * k) z 24 = w := fun z => (upd_lo (by omega)).trans ((upd_lo (by omega)).trans upd_eq)
  have lo : ∀ z z' j, j < 22 → upd (upd (upd (upd r1 24 w) 23 (nI k)) (27 + 4 * k) z) (28 + 4 * k) z' j = r1 j := fun z z' j hj => (upd_lo (by omega)).trans ((upd_lo (by omega)).trans ((upd_lo (by omega)).trans (upd_lo (by omega))))
  unfold c_X5_counts_s_at202 cntR
  rw [e1, e2, e3, tel_k (lo _ _ 14 (by decide)) (lo _ _ 15 (by decide)), lo _ _ 19 (by decide)]
  rcases tel01 r1 with h | h
  · rw [h, if_pos rfl]
  · rw [h, if_neg (by decide)]
theorem cnt_165 (r : Nat → Int32) (k : Nat) (r1 : Nat → Int32) : c_X5_counts_s_at165 r k r1 = cntR r1 k (cntW r1 k) := by
  unfold c_X5_counts_s_at165 cntW
  rw [cnt_202, cnt_202]
  by_cases h : nI k = r1 23
  · rw [if_pos h, if_pos h]
  · rw [if_neg h, if_neg h]
def newR (r : Nat → Int32) (k : Nat) : Nat → Int32 := upd (upd (upd (upd (upd r 22 (r 22 + 1)) (25 + 4 * k) (r_X5_sign (r 14))) (26 + 4 * k) (r_X5_sign (r 15))) (27 + 4 * k) 0) (28 + 4 * k) 0
theorem cnt_old {r : Nat → Int32} {nd k : Nat} (hnd : r 22 = nI nd) (h9 : nd ≤ 9) (hk : k < nd) : c_X5_counts_s_at89 r k = cntR r k (cntW r k) := by
  unfold c_X5_counts_s_at89
  rw [hnd, if_neg (fun q => by have := (nI_eq (by omega) (by omega)).mp q; omega), cnt_165]
theorem cnt_new {r : Nat → Int32} {nd : Nat} (hnd : r 22 = nI nd) : c_X5_counts_s_at89 r nd = cntR (newR r nd) nd (cntW (newR r nd) nd) := by
  unfold c_X5_counts_s_at89
  rw [if_pos hnd.symm, cnt_165]
  rfl
theorem cR_lo {r1 : Nat → Int32} {k : Nat} {w : Int32} {j : Nat} (h : j ≠ 19) (h1 : j ≠ 23) (h2 : j ≠ 24) (h3 : j ≠ 27 + 4 * k) (h4 : j ≠ 28 + 4 * k) : cntR r1 k w j = r1 j := (upd_lo h).trans ((upd_lo h4).trans ((upd_lo h3).trans ((upd_lo h1).trans (upd_lo h2))))
theorem cR_19 {r1 : Nat → Int32} {k : Nat} {w : Int32} : cntR r1 k w 19 = r1 19 + r_X5_isTelling r1 := upd_eq
theorem cR_23 {r1 : Nat → Int32} {k : Nat} {w : Int32} : cntR r1 k w 23 = nI k := (upd_lo (by omega)).trans ((upd_lo (by omega)).trans ((upd_lo (by omega)).trans upd_eq))
theorem cR_24 {r1 : Nat → Int32} {k : Nat} {w : Int32} : cntR r1 k w 24 = w := (upd_lo (by omega)).trans ((upd_lo (by omega)).trans ((upd_lo (by omega)).trans ((upd_lo (by omega)).trans upd_eq)))
theorem cR_27 {r1 : Nat → Int32} {k : Nat} {w : Int32} : cntR r1 k w (27 + 4 * k) = r1 (27 + 4 * k) + 1 := (upd_lo (by omega)).trans ((upd_lo (by omega)).trans upd_eq)
theorem cR_28 {r1 : Nat → Int32} {k : Nat} {w : Int32} : cntR r1 k w (28 + 4 * k) = r_X5_greater (r1 (28 + 4 * k)) w := (upd_lo (by omega)).trans upd_eq
theorem nR_lo {r : Nat → Int32} {k : Nat} {j : Nat} (h : j ≠ 22) (h1 : j ≠ 25 + 4 * k) (h2 : j ≠ 26 + 4 * k) (h3 : j ≠ 27 + 4 * k) (h4 : j ≠ 28 + 4 * k) : newR r k j = r j := (upd_lo h4).trans ((upd_lo h3).trans ((upd_lo h2).trans ((upd_lo h1).trans (upd_lo h))))
theorem nR_22 {r : Nat → Int32} {k : Nat} : newR r k 22 = r 22 + 1 := (upd_lo (by omega)).trans ((upd_lo (by omega)).trans ((upd_lo (by omega)).trans ((upd_lo (by omega)).trans upd_eq)))
theorem nR_25 {r : Nat → Int32} {k : Nat} : newR r k (25 + 4 * k) = r_X5_sign (r 14) := (upd_lo (by omega)).trans ((upd_lo (by omega)).trans ((upd_lo (by omega)).trans upd_eq))
theorem nR_26 {r : Nat → Int32} {k : Nat} : newR r k (26 + 4 * k) = r_X5_sign (r 15) := (upd_lo (by omega)).trans ((upd_lo (by omega)).trans upd_eq)
theorem nR_27 {r : Nat → Int32} {k : Nat} : newR r k (27 + 4 * k) = 0 := (upd_lo (by omega)).trans upd_eq
theorem nR_28 {r : Nat → Int32} {k : Nat} : newR r k (28 + 4 * k) = 0 := upd_eq
/-- the class's side -/
def noteW (m : Nat) (D : DD) : Int32 := if nI m = D.1 1 then D.1 2 + 1 else 1
theorem note_old {x y : Int32} {D : DD} {m : Nat} (hm : m < 9) (e : 3 * (x + 1) + y + 1 = nI m) (h : ¬ D.2.2.1 m = 0) : c_X0_note x y D = (upd (upd D.1 2 (noteW m D)) 1 (nI m), D.2.1, upd D.2.2.1 m (D.2.2.1 m + 1), upd D.2.2.2 m (imax (D.2.2.2 m) (noteW m D))) := by
  have e1 : ¬ nI m < 0 := nI_pos (by omega)
  have e2 : nI m < 9 := nI_lt (b := 9) hm (by omega)
  unfold c_X0_note c_X0_note_at59 c_X0_note_at78 j_X0_note_78_s0 j_X0_note_59_g j_X0_note_59_br
  rw [e, nI_clamp (by omega), if_neg e1, if_pos e2, if_neg e1, if_pos e2, if_neg h, if_neg e1, if_pos e2, if_neg h]
  rfl
theorem note_new {x y : Int32} {D : DD} {m nd : Nat} (hm : m < 9) (e : 3 * (x + 1) + y + 1 = nI m) (h : D.2.2.1 m = 0) (hn : D.1 0 = nI nd) (h9 : nd < 9) : c_X0_note x y D = (upd (upd (upd D.1 0 (nI (nd + 1))) 2 (noteW m D)) 1 (nI m), upd D.2.1 nd (nI m), upd D.2.2.1 m (D.2.2.1 m + 1), upd D.2.2.2 m (imax (D.2.2.2 m) (noteW m D))) := by
  have e1 : ¬ nI m < 0 := nI_pos (by omega)
  have e2 : nI m < 9 := nI_lt (b := 9) hm (by omega)
  have e3 : nI nd < 9 := nI_lt (b := 9) h9 (by omega)
  unfold c_X0_note c_X0_note_at59 c_X0_note_at78 j_X0_note_78_s0 j_X0_note_59_g j_X0_note_59_br
  rw [e, hn, nI_clamp (n := m) (by omega), nI_clamp (n := nd) (by omega), if_neg e1, if_pos e2, if_neg e1, if_pos e2, if_pos h, if_pos e3, if_neg e1, if_pos e2, if_pos h, if_pos e3, nI_1]
  rfl
theorem same_run {D : DD} {r r1 : Nat → Int32} {nd : Nat} {B : Int} {c : Nat → Nat} {k : Nat} (h : rsC D r nd B c) (h23 : r1 23 = r 23) (h24 : r1 24 = r 24) (hk : k < nd) : cntW r1 k = noteW (c k) D := by
  obtain ⟨-, -, h9, h4, h5, -, h7, h8⟩ := h
  unfold cntW noteW
  rw [h23, h24, h8]
  have hc := (h4 k hk).1
  rcases h7 with ⟨q1, q2⟩ | ⟨i, hi, q1, q2⟩
  · rw [q1, q2, if_neg (fun q => by rw [← Int32.toInt_inj, nI_toInt (by omega)] at q; exact absurd q (by rw [show (-1 : Int32).toInt = -1 from rfl]; omega)), if_neg (fun q => by rw [← Int32.toInt_inj, nI_toInt (by omega)] at q; exact absurd q (by rw [show (-6 : Int32).toInt = -6 from rfl]; omega))]
  · rw [q1, q2]
    have hci := (h4 i hi).1
    by_cases e : k = i
    · rw [e, if_pos rfl, if_pos rfl]
    · rw [if_neg (fun q => e ((nI_eq (by omega) (by omega)).mp q)), if_neg (fun q => e (h5 k i hk hi ((nI_eq (by omega) (by omega)).mp q)))]
theorem new_run {D : DD} {r r1 : Nat → Int32} {nd : Nat} {B : Int} {c : Nat → Nat} {m : Nat} (h : rsC D r nd B c) (h23 : r1 23 = r 23) (hm : m < 9) (hn : ∀ k, k < nd → c k ≠ m) : cntW r1 nd = 1 ∧ noteW m D = 1 := by
  obtain ⟨-, -, h9, h4, h5, -, h7, h8⟩ := h
  unfold cntW noteW
  rw [h23]
  rcases h7 with ⟨q1, q2⟩ | ⟨i, hi, q1, q2⟩
  · rw [q1, q2, if_neg (fun q => by rw [← Int32.toInt_inj, nI_toInt (by omega)] at q; exact absurd q (by rw [show (-1 : Int32).toInt = -1 from rfl]; omega)), if_neg (fun q => by rw [← Int32.toInt_inj, nI_toInt (by omega)] at q; exact absurd q (by rw [show (-6 : Int32).toInt = -6 from rfl]; omega))]
    exact ⟨rfl, rfl⟩
  · rw [q1, q2]
    have hci := (h4 i hi).1
    rw [if_neg (fun q => by have := (nI_eq (by omega) (by omega)).mp q; omega), if_neg (fun q => hn i hi ((nI_eq (by omega) (by omega)).mp q).symm)]
    exact ⟨rfl, rfl⟩
theorem cnt_lo {r : Nat → Int32} {nd : Nat} (hnd : r 22 = nI nd) (h9 : nd ≤ 9) (kf : Nat) (hk : kf ≤ nd) : (∀ j, j < 22 → j ≠ 19 → c_X5_counts_s_at89 r kf j = r j) ∧ c_X5_counts_s_at89 r kf 19 = r 19 + r_X5_isTelling r := by
  rcases Nat.lt_or_ge kf nd with h | h
  · rw [cnt_old hnd h9 h]
    exact ⟨fun j hj h19 => cR_lo h19 (by omega) (by omega) (by omega) (by omega), cR_19⟩
  · have e : kf = nd := by omega
    rw [e, cnt_new hnd]
    have lo : ∀ j, j < 22 → newR r nd j = r j := fun j hj => nR_lo (by omega) (by omega) (by omega) (by omega) (by omega)
    refine ⟨fun j hj h19 => (cR_lo h19 (by omega) (by omega) (by omega) (by omega)).trans (lo j hj), ?_⟩
    rw [cR_19, lo 19 (by decide), tel_k (lo 14 (by decide)) (lo 15 (by decide))]
theorem im_gr (a b : Int32) : imax a b = r_X5_greater a b := imax_greater a b
theorem dirs_step {D : DD} {r : Nat → Int32} {nd : Nat} {B : Int} {c : Nat → Nat} (h : rsC D r nd B c) (hB : 0 ≤ B ∧ B ≤ 100000) (u v : Int32) (hu : r 14 = u) (hv : r 15 = v) :
    (∃ nd' c', rsC (c_X0_note (r_J6_compare_7cf53 u 0) (r_J6_compare_7cf53 v 0) D) (c_X5_counts_s r) nd' (B + 1) c') ∧ (∀ j, j < 22 → j ≠ 19 → c_X5_counts_s r j = r j) ∧ c_X5_counts_s r 19 = r 19 + r_X5_isTelling r := by
  have hh := h
  obtain ⟨h1, h2, h9, h4, h5, h6, h7, h8⟩ := hh
  have hsu := sg_3 u
  have hsv := sg_3 v
  have hm : 3 * sg u + sg v < 9 := by omega
  have hT := told_eq u v
  have hd3 : (3 * sg u + sg v) / 3 = sg u := by omega
  have hm3 : (3 * sg u + sg v) % 3 = sg v := by omega
  by_cases hex : ∃ k, k < nd ∧ c k = 3 * sg u + sg v
  · obtain ⟨k, hk, ek⟩ := hex
    obtain ⟨p1, p2, p3, p4, p5, p6, p7, p8⟩ := h4 k hk
    have hA : c_X5_counts_s r = c_X5_counts_s_at89 r k := by
      refine cnt_at r nd k h2 h9 (fun j hj => ⟨by omega, fun q => ?_⟩) (Or.inr ⟨hk, ?_, ?_⟩) 10 0 (by omega) (by omega)
      · obtain ⟨q1, q2⟩ := q
        obtain ⟨o1, o2, o3, -⟩ := h4 j (by omega)
        rw [o2, hu, sg_r] at q1
        rw [o3, hv, sg_r] at q2
        have q1' := (nI_eq (by omega) (by omega)).mp q1
        have q2' := (nI_eq (by omega) (by omega)).mp q2
        have := h5 j k (by omega) hk (by omega)
        omega
      · rw [p2, hu, sg_r, ek, hd3]
      · rw [p3, hv, sg_r, ek, hm3]
    rw [hA]
    refine ⟨?_, cnt_lo h2 h9 k (by omega)⟩
    rw [cnt_old h2 h9 hk]
    have hne : ¬ D.2.2.1 (3 * sg u + sg v) = 0 := fun q => by
      rw [← ek, p5] at q
      rw [q] at p7
      exact absurd p7 (by decide)
    have hW := same_run (r1 := r) h rfl rfl hk
    rw [ek] at hW
    rw [note_old hm hT hne, ← hW]
    refine ⟨nd, c, ?_, ?_, h9, ?_, h5, ?_, ?_, ?_⟩
    · show upd (upd D.1 2 (cntW r k)) 1 (nI (3 * sg u + sg v)) 0 = _
      exact (upd_lo (by decide)).trans ((upd_lo (by decide)).trans h1)
    · exact (cR_lo (by decide) (by decide) (by decide) (by omega) (by omega)).trans h2
    · intro j hj
      obtain ⟨o1, o2, o3, o4, o5, o6, o7, o8⟩ := h4 j hj
      refine ⟨o1, (cR_lo (by omega) (by omega) (by omega) (by omega) (by omega)).trans o2, (cR_lo (by omega) (by omega) (by omega) (by omega) (by omega)).trans o3, o4, ?_⟩
      by_cases e : j = k
      · subst e
        show upd _ _ _ (c j) = _ ∧ upd _ _ _ (c j) = _ ∧ _
        rw [cR_27, cR_28, ek, upd_eq, upd_eq, ← ek, o5, o6, im_gr, i_1 (by omega)]
        exact ⟨rfl, rfl, by omega, by omega⟩
      · have ne : c j ≠ 3 * sg u + sg v := fun q => e (h5 j k hj hk (q.trans ek.symm))
        show upd _ _ _ (c j) = _ ∧ upd _ _ _ (c j) = _ ∧ _
        rw [upd_lo ne, upd_lo ne, cR_lo (by omega) (by omega) (by omega) (by omega) (by omega), cR_lo (by omega) (by omega) (by omega) (by omega) (by omega)]
        exact ⟨o5, o6, o7, by omega⟩
    · intro m hm9 hab
      have ne : m ≠ 3 * sg u + sg v := fun q => hab k hk (ek.trans q.symm)
      show upd _ _ _ m = _ ∧ upd _ _ _ m = _
      rw [upd_lo ne, upd_lo ne]
      exact h6 m hm9 hab
    · refine Or.inr ⟨k, hk, cR_23, ?_⟩
      show upd (upd D.1 2 (cntW r k)) 1 (nI (3 * sg u + sg v)) 1 = _
      rw [upd_eq, ek]
    · show _ = upd (upd D.1 2 (cntW r k)) 1 (nI (3 * sg u + sg v)) 2
      rw [cR_24, upd_lo (by decide), upd_eq]
  · have hab : ∀ k, k < nd → c k ≠ 3 * sg u + sg v := fun k hk e => hex ⟨k, hk, e⟩
    have hlt : nd < 9 := by
      rcases Nat.lt_or_ge nd 9 with q | q
      · exact q
      · obtain ⟨k, hk, e⟩ := pig 9 c (fun k hk => (h4 k (by omega)).1) (fun j k hj hk e => h5 j k (by omega) (by omega) e) _ hm
        exact absurd e (hab k (by omega))
    obtain ⟨z1, z2⟩ := h6 _ hm hab
    have hA : c_X5_counts_s r = c_X5_counts_s_at89 r nd := by
      refine cnt_at r nd nd h2 h9 (fun j hj => ⟨by omega, fun q => ?_⟩) (Or.inl rfl) 10 0 (by omega) (by omega)
      obtain ⟨q1, q2⟩ := q
      obtain ⟨o1, o2, o3, -⟩ := h4 j (by omega)
      rw [o2, hu, sg_r] at q1
      rw [o3, hv, sg_r] at q2
      have q1' := (nI_eq (by omega) (by omega)).mp q1
      have q2' := (nI_eq (by omega) (by omega)).mp q2
      exact hab j hj (by omega)
    rw [hA]
    refine ⟨?_, cnt_lo h2 h9 nd (by omega)⟩
    rw [cnt_new h2]
    obtain ⟨w1, w2⟩ := new_run (r1 := newR r nd) h (nR_lo (by omega) (by omega) (by omega) (by omega) (by omega)) hm hab
    rw [note_new hm hT z1 h1 hlt, w1, w2]
    refine ⟨nd + 1, fun j => if j = nd then 3 * sg u + sg v else c j, ?_, ?_, by omega, ?_, ?_, ?_, ?_, ?_⟩
    · show upd (upd (upd D.1 0 (nI (nd + 1))) 2 1) 1 (nI (3 * sg u + sg v)) 0 = _
      rw [upd_lo (by decide), upd_lo (by decide), upd_eq]
    · rw [cR_lo (by decide) (by decide) (by decide) (by omega) (by omega), nR_22, h2, nI_1]
    · intro j hj
      by_cases e : j = nd
      · subst e
        show (if j = j then 3 * sg u + sg v else c j) < 9 ∧ _ = nI ((if j = j then 3 * sg u + sg v else c j) / 3) ∧ _ = nI ((if j = j then 3 * sg u + sg v else c j) % 3) ∧ upd _ _ _ j = nI (if j = j then 3 * sg u + sg v else c j) ∧ upd _ _ _ (if j = j then 3 * sg u + sg v else c j) = _ ∧ upd _ _ _ (if j = j then 3 * sg u + sg v else c j) = _ ∧ _
        rw [if_pos rfl, upd_eq, upd_eq, upd_eq, cR_27, cR_28, nR_27, nR_28, z1, z2, im_gr, hd3, hm3, cR_lo (by omega) (by omega) (by omega) (by omega) (by omega), cR_lo (by omega) (by omega) (by omega) (by omega) (by omega), nR_25, nR_26, hu, hv, sg_r, sg_r]
        exact ⟨hm, rfl, rfl, rfl, rfl, rfl, by decide, by rw [show (0 + 1 : Int32).toInt = 1 from rfl]; omega⟩
      · obtain ⟨o1, o2, o3, o4, o5, o6, o7, o8⟩ := h4 j (by omega)
        have ne := hab j (by omega)
        show (if j = nd then 3 * sg u + sg v else c j) < 9 ∧ _ = nI ((if j = nd then 3 * sg u + sg v else c j) / 3) ∧ _ = nI ((if j = nd then 3 * sg u + sg v else c j) % 3) ∧ upd _ _ _ j = nI (if j = nd then 3 * sg u + sg v else c j) ∧ upd _ _ _ (if j = nd then 3 * sg u + sg v else c j) = _ ∧ upd _ _ _ (if j = nd then 3 * sg u + sg v else c j) = _ ∧ _
        rw [if_neg e, upd_lo e, upd_lo ne, upd_lo ne]
        have q : ∀ i, 25 + 4 * j ≤ i → i ≤ 28 + 4 * j → cntR (newR r nd) nd 1 i = r i := fun i hi1 hi2 => (cR_lo (by omega) (by omega) (by omega) (by omega) (by omega)).trans (nR_lo (by omega) (by omega) (by omega) (by omega) (by omega))
        rw [q (25 + 4 * j) (by omega) (by omega), q (26 + 4 * j) (by omega) (by omega), q (27 + 4 * j) (by omega) (by omega), q (28 + 4 * j) (by omega) (by omega)]
        exact ⟨o1, o2, o3, o4, o5, o6, o7, by omega⟩
    · intro i j hi hj e
      replace e : (if i = nd then 3 * sg u + sg v else c i) = (if j = nd then 3 * sg u + sg v else c j) := e
      by_cases e1 : i = nd
      · by_cases e2 : j = nd
        · omega
        · rw [if_pos e1, if_neg e2] at e
          exact absurd e.symm (hab j (by omega))
      · by_cases e2 : j = nd
        · rw [if_neg e1, if_pos e2] at e
          exact absurd e (hab i (by omega))
        · rw [if_neg e1, if_neg e2] at e
          exact h5 i j (by omega) (by omega) e
    · intro m hm9 hab2
      have a1 := hab2 nd (by omega)
      replace a1 : (if nd = nd then 3 * sg u + sg v else c nd) ≠ m := a1
      rw [if_pos rfl] at a1
      have ne : m ≠ 3 * sg u + sg v := fun q => a1 q.symm
      show upd _ _ _ m = _ ∧ upd _ _ _ m = _
      rw [upd_lo ne, upd_lo ne]
      refine h6 m hm9 (fun k hk => ?_)
      have a2 := hab2 k (by omega)
      replace a2 : (if k = nd then 3 * sg u + sg v else c k) ≠ m := a2
      rw [if_neg (by omega)] at a2
      exact a2
    · refine Or.inr ⟨nd, by omega, cR_23, ?_⟩
      show upd (upd (upd D.1 0 (nI (nd + 1))) 2 1) 1 (nI (3 * sg u + sg v)) 1 = nI (if nd = nd then 3 * sg u + sg v else c nd)
      rw [upd_eq, if_pos rfl]
    · show _ = upd (upd (upd D.1 0 (nI (nd + 1))) 2 1) 1 (nI (3 * sg u + sg v)) 2
      rw [cR_24, upd_lo (by decide), upd_eq]
