/-! does: each of its rows answers 1, and what holds of the stick keeps -/
def DN (S : SS) : Prop := 0 ≤ (S.1 18).toInt ∧ (S.1 18).toInt ≤ 255
def YK (Y : HS) : Prop := Y.1 < 6 ∧ Y.2.1 ≤ 6
/-- all that keeps: the stick within its bounds, what it tells within the corner, the buttons, the history -/
def AL (S : SS) (Y : HS) (B : Int) : Prop := IV S B ∧ CR S ∧ DN S ∧ YK Y
def GO (r : Int32) (S : SS) (Y : HS) (B : Int) : Prop := r = 1 ∧ AL S Y B
theorem GO.mono {r : Int32} {S : SS} {Y : HS} {B B' : Int} (h : GO r S Y B) (hb : B ≤ B') : GO r S Y B' := ⟨h.1, h.2.1.mono hb, h.2.2⟩
theorem take_18 {x y : Int32} {S : SS} {B : Int} (I : IV S B) (hp : rgP x y) : (c_X3_take x y S).1 18 = S.1 18 := by
  by_cases hf : S.1 9 < r_X3_farthestOff x y S
  · by_cases hd : r_X3_wouldDrift x y S = 0
    · exact (tk_out I hp hf hd).2.1.2.2.2.2.2
    · exact (tk_drift I hp hd).2.1.2.2.2.2.2
  · exact (tk_rest I hp hf).2.1.2.2.2.2.2
theorem samp_step {x y : Int32} {S : SS} {Y : HS} {B : Int} (I : IV S B) (hB : B ≤ 9990) (hp : rgP x y) (hd : DN S) (hy : YK Y) : GO (r_L_isSample x y S Y) (c_X4_sample_1 x y S Y) (c_X4_sample_y x y S Y) (B + 1) := by
  have h21 := I.2.2.2.2.1
  obtain ⟨e1, -, e3⟩ := sample_is (Y := Y) hp (by omega : 0 ≤ (S.1 21).toInt ∧ (S.1 21).toInt ≤ 9998)
  obtain ⟨h1, h2, -⟩ := take_IV I (by omega) hp
  refine ⟨samp_1 Y I (by omega) hp, ?_⟩
  rw [e1, e3]
  refine ⟨h1, h2, ?_, keep_hy S hy⟩
  unfold DN
  rw [take_18 I hp]
  exact hd
theorem IV_put {S : SS} {B : Int} (I : IV S B) {g : Nat → Int32} (h : ∀ k, k ≠ 12 → k ≠ 13 → k ≠ 18 → k ≠ 20 → g k = S.1 k) (h13 : 0 ≤ (g 13).toInt ∧ (g 13).toInt ≤ 20) : IV (g, S.2) B := by
  obtain ⟨hs, hv, hT, -, h21, hL, hG, hD, hR⟩ := I
  unfold IV rgV
  show rgS S.2.1 ∧ ((0 ≤ (g 7).toInt ∧ (g 7).toInt ≤ 4080) ∧ (0 ≤ (g 8).toInt ∧ (g 8).toInt ≤ 4080) ∧ ((S.2.1 1).toInt ≤ (g 9).toInt ∧ (g 9).toInt ≤ (S.2.1 1).toInt + (S.2.1 2).toInt)) ∧ ((-100 ≤ (g 14).toInt ∧ (g 14).toInt ≤ 100) ∧ (-100 ≤ (g 15).toInt ∧ (g 15).toInt ≤ 100)) ∧ (0 ≤ (g 13).toInt ∧ (g 13).toInt ≤ 20) ∧ (0 ≤ (g 21).toInt ∧ (g 21).toInt ≤ B) ∧ ((g 21).toInt = 0 ∨ ((0 ≤ (g 10).toInt ∧ (g 10).toInt ≤ 255) ∧ (0 ≤ (g 11).toInt ∧ (g 11).toInt ≤ 255))) ∧ (0 ≤ (g 16).toInt ∧ (g 16).toInt + (tl (g 14) (g 15)).toInt ≤ (g 19).toInt ∧ (g 19).toInt ≤ (g 21).toInt) ∧ (0 ≤ (g 17).toInt ∧ (g 17).toInt ≤ (g 21).toInt) ∧ DIR S.2.2 (g 21).toInt (g 19).toInt
  rw [h 7 (by decide) (by decide) (by decide) (by decide), h 8 (by decide) (by decide) (by decide) (by decide), h 9 (by decide) (by decide) (by decide) (by decide), h 10 (by decide) (by decide) (by decide) (by decide), h 11 (by decide) (by decide) (by decide) (by decide), h 14 (by decide) (by decide) (by decide) (by decide), h 15 (by decide) (by decide) (by decide) (by decide), h 16 (by decide) (by decide) (by decide) (by decide), h 17 (by decide) (by decide) (by decide) (by decide), h 19 (by decide) (by decide) (by decide) (by decide), h 21 (by decide) (by decide) (by decide) (by decide)]
  exact ⟨hs, hv, hT, h13, h21, hL, hG, hD, hR⟩
theorem CR_put {S : SS} (hC : CR S) {g : Nat → Int32} (h : g 14 = S.1 14 ∧ g 15 = S.1 15) : CR (g, S.2) := by
  unfold CR
  show ab (g 14).toInt + ab (g 15).toInt ≤ (S.2.1 4).toInt
  rw [h.1, h.2]
  exact hC
/-! the buttons -/
theorem bits : ∀ d, d < 256 → ∀ b, b < 8 → (((nI d ||| (1 <<< (nI b &&& 31))) >>> (nI b &&& 31)) &&& 1 = 1 ∧ 0 ≤ (nI d ||| (1 <<< (nI b &&& 31))).toInt ∧ (nI d ||| (1 <<< (nI b &&& 31))).toInt ≤ 255) ∧ (((nI d &&& ((1 <<< (nI b &&& 31)) ^^^ (-1))) >>> (nI b &&& 31)) &&& 1 = 0 ∧ 0 ≤ (nI d &&& ((1 <<< (nI b &&& 31)) ^^^ (-1))).toInt ∧ (nI d &&& ((1 <<< (nI b &&& 31)) ^^^ (-1))).toInt ≤ 255) := by decide +kernel
theorem low_n {v n : Int32} {m : Nat} (hn : n.toInt = m) (hm : 1 ≤ m) (h31 : m < 2 ^ 31) : ∃ j, j < m ∧ r_L_low v n = nI j := by
  obtain ⟨h1, h2⟩ := low_b (v := v) (n := n) (by omega)
  refine ⟨(r_L_low v n).toInt.toNat, by omega, ti_eq.mpr ?_⟩
  rw [nI_toInt (by omega)]
  omega
theorem dn_n {S : SS} (h : DN S) : ∃ d, d < 256 ∧ S.1 18 = nI d := by
  obtain ⟨h1, h2⟩ := h
  refine ⟨(S.1 18).toInt.toNat, by omega, ti_eq.mpr ?_⟩
  rw [nI_toInt (by omega)]
  omega
theorem btn_8 {b : Nat} (hb : b < 9) (h : (7 : Int32) < nI b) : r_X3_isButton (nI b) = 0 := by
  have h' := (nI_ltI (a := 7) (b := b) (by omega) (by omega)).mp h
  have e : b = 8 := by omega
  subst e
  decide
theorem btn_7 {b : Nat} (hb : b < 9) (h : ¬ (7 : Int32) < nI b) : b < 8 ∧ r_X3_isButton (nI b) = 1 := by
  have h' := mt (nI_ltI (a := 7) (b := b) (by omega) (by omega)).mpr h
  have hb8 : b < 8 := by omega
  refine ⟨hb8, ?_⟩
  have g : ∀ b, b < 8 → r_X3_isButton (nI b) = 1 := by decide
  exact g b hb8
theorem press_go {S : SS} {Y : HS} {B : Int} (A : AL S Y B) {b : Nat} (hb : b < 9) {v : Int32} (hv : v = r_X3_isDown (nI b) S) : GO (if 7 < nI b then (if r_X4_press (nI b) S Y = -1 then 1 else 0) else (if v = 0 then (if r_X4_press (nI b) S Y = (c_X4_press_1 (nI b) S Y).1 18 then (if ((r_X4_press (nI b) S Y) >>> (nI b &&& 31)) &&& 1 = 1 then (if (c_X4_press_1 (nI b) S Y).1 13 = (c_X4_press_1 (nI b) S Y).2.1 6 then 1 else 0) else 0) else 0) else (if r_X4_press (nI b) S Y = -5 then (if (c_X4_press_1 (nI b) S Y).1 13 = S.1 13 then 1 else 0) else 0))) (c_X4_press_1 (nI b) S Y) (c_X4_press_y (nI b) S Y) B := by
  have AA := A
  obtain ⟨I, hC, hd, hy⟩ := A
  obtain ⟨d, hd8, ed⟩ := dn_n hd
  unfold r_X4_press c_X4_press_1 c_X4_press_y
  by_cases c : (7 : Int32) < nI b
  · have h0 : r_X3_refusalOfPress (nI b) S = -1 := by
      unfold r_X3_refusalOfPress
      rw [if_pos (btn_8 hb c)]
    have n1 : ¬ (-1 : Int32) = 0 := by decide
    simp only [h0, if_pos c, if_neg n1, ↓reduceIte]
    exact ⟨rfl, AA⟩
  · obtain ⟨hb8, h1⟩ := btn_7 hb c
    have hR : r_X3_refusalOfPress (nI b) S = if v = 0 then 0 else -5 := by
      unfold r_X3_refusalOfPress
      rw [h1, if_neg (by decide), ← hv]
    have n5 : ¬ (-5 : Int32) = 0 := by decide
    by_cases c0 : v = 0
    · obtain ⟨⟨k1, k2, k3⟩, -⟩ := bits d hd8 b hb8
      simp only [if_neg c, hR, if_pos c0, ↓reduceIte]
      unfold r_X3_pushDown c_X3_pushDown
      have e18 : upd (upd S.1 18 (S.1 18 ||| (1 <<< (nI b &&& 31)))) 13 (S.2.1 6) 18 = (S.1 18 ||| (1 <<< (nI b &&& 31))) := (upd_lo (by decide)).trans upd_eq
      refine ⟨?_, ?_, ?_, ?_, keep_hy S hy⟩
      · show (if (S.1 18 ||| (1 <<< (nI b &&& 31))) = upd (upd S.1 18 (S.1 18 ||| (1 <<< (nI b &&& 31)))) 13 (S.2.1 6) 18 then (if ((S.1 18 ||| (1 <<< (nI b &&& 31))) >>> (nI b &&& 31)) &&& 1 = 1 then (if upd (upd S.1 18 (S.1 18 ||| (1 <<< (nI b &&& 31)))) 13 (S.2.1 6) 13 = S.2.1 6 then (1 : Int32) else 0) else 0) else 0) = 1
        rw [e18, upd_eq, if_pos rfl, ed, if_pos k1, if_pos rfl]
      · refine IV_put I (fun k h12 h13 h18 h20 => (upd_lo h13).trans (upd_lo h18)) ?_
        rw [upd_eq]
        exact I.1.2.2.2.2.2.2
      · exact CR_put hC ⟨(upd_lo (by decide)).trans (upd_lo (by decide)), (upd_lo (by decide)).trans (upd_lo (by decide))⟩
      · unfold DN
        show 0 ≤ (upd (upd S.1 18 (S.1 18 ||| (1 <<< (nI b &&& 31)))) 13 (S.2.1 6) 18).toInt ∧ (upd (upd S.1 18 (S.1 18 ||| (1 <<< (nI b &&& 31)))) 13 (S.2.1 6) 18).toInt ≤ 255
        rw [e18, ed]
        exact ⟨k2, k3⟩
    · simp only [if_neg c, hR, if_neg c0, if_neg n5, ↓reduceIte]
      exact ⟨rfl, AA⟩
theorem let_go {S : SS} {Y : HS} {B : Int} (A : AL S Y B) {b : Nat} (hb : b < 9) {v : Int32} (hv : v = r_X3_isDown (nI b) S) : GO (if 7 < nI b then (if r_X4_letUp (nI b) S Y = -1 then 1 else 0) else (if v = 0 then (if r_X4_letUp (nI b) S Y = -5 then 1 else 0) else (if r_X4_letUp (nI b) S Y = (c_X4_letUp_1 (nI b) S Y).1 18 then (if ((r_X4_letUp (nI b) S Y) >>> (nI b &&& 31)) &&& 1 = 0 then 1 else 0) else 0))) (c_X4_letUp_1 (nI b) S Y) (c_X4_letUp_y (nI b) S Y) B := by
  have AA := A
  obtain ⟨I, hC, hd, hy⟩ := A
  obtain ⟨d, hd8, ed⟩ := dn_n hd
  unfold r_X4_letUp c_X4_letUp_1 c_X4_letUp_y
  by_cases c : (7 : Int32) < nI b
  · have h0 : r_X3_refusalOfLetUp (nI b) S = -1 := by
      unfold r_X3_refusalOfLetUp
      rw [if_pos (btn_8 hb c)]
    have n1 : ¬ (-1 : Int32) = 0 := by decide
    simp only [h0, if_pos c, if_neg n1, ↓reduceIte]
    exact ⟨rfl, AA⟩
  · obtain ⟨hb8, h1⟩ := btn_7 hb c
    have hR : r_X3_refusalOfLetUp (nI b) S = if v = 0 then -5 else 0 := by
      unfold r_X3_refusalOfLetUp
      rw [h1, if_neg (by decide), ← hv]
    have n5 : ¬ (-5 : Int32) = 0 := by decide
    by_cases c0 : v = 0
    · simp only [if_neg c, hR, if_pos c0, if_neg n5, ↓reduceIte]
      exact ⟨rfl, AA⟩
    · obtain ⟨-, k1, k2, k3⟩ := bits d hd8 b hb8
      simp only [if_neg c, hR, if_neg c0, ↓reduceIte]
      unfold r_X3_release c_X3_release
      have e18 : upd S.1 18 (S.1 18 &&& ((1 <<< (nI b &&& 31)) ^^^ (-1))) 18 = (S.1 18 &&& ((1 <<< (nI b &&& 31)) ^^^ (-1))) := upd_eq
      refine ⟨?_, ?_, ?_, ?_, keep_hy S hy⟩
      · show (if (S.1 18 &&& (((1 : Int32) <<< (nI b &&& 31)) ^^^ (-1))) = upd S.1 18 (S.1 18 &&& (((1 : Int32) <<< (nI b &&& 31)) ^^^ (-1))) 18 then (if ((S.1 18 &&& (((1 : Int32) <<< (nI b &&& 31)) ^^^ (-1))) >>> (nI b &&& 31)) &&& 1 = 0 then (1 : Int32) else 0) else 0) = 1
        rw [e18, if_pos rfl, ed, if_pos k1]
      · refine IV_put I (fun k h12 h13 h18 h20 => upd_lo h18) ?_
        rw [upd_lo (by decide)]
        exact I.2.2.2.1
      · exact CR_put hC ⟨upd_lo (by decide), upd_lo (by decide)⟩
      · unfold DN
        show 0 ≤ (upd S.1 18 (S.1 18 &&& ((1 <<< (nI b &&& 31)) ^^^ (-1))) 18).toInt ∧ (upd S.1 18 (S.1 18 &&& ((1 <<< (nI b &&& 31)) ^^^ (-1))) 18).toInt ≤ 255
        rw [e18, ed]
        exact ⟨k2, k3⟩
/-! a setting -/
theorem rgS_iff (r : Nat → Int32) : rgS r ↔ ∀ i, i < 7 → (tabL i).toInt ≤ (r i).toInt ∧ (r i).toInt ≤ (tabM i).toInt := by
  constructor
  · intro h i hi
    obtain ⟨a0, a1, a2, a3, a4, a5, a6⟩ := h
    match i, hi with
    | 0, _ => exact a0
    | 1, _ => exact a1
    | 2, _ => exact a2
    | 3, _ => exact a3
    | 4, _ => exact a4
    | 5, _ => exact a5
    | 6, _ => exact a6
    | _ + 7, h => exact absurd h (by omega)
  · intro h
    exact ⟨h 0 (by decide), h 1 (by decide), h 2 (by decide), h 3 (by decide), h 4 (by decide), h 5 (by decide), h 6 (by decide)⟩
def setG (j : Nat) (v : Int32) (S : SS) : Nat → Int32 := if j = 1 ∨ j = 2 then upd S.1 9 (upd S.2.1 j v 1) else S.1
theorem set_is {S : SS} {Y : HS} {j : Nat} (hj : j < 7) {v : Int32} (hv : (tabL j).toInt ≤ v.toInt ∧ v.toInt ≤ (tabM j).toInt) : r_X4_set (nI j) v S Y = S.2.1 j ∧ c_X4_set_1 (nI j) v S Y = (setG j v S, upd S.2.1 j v, S.2.2) ∧ c_X4_set_y (nI j) v S Y = c_X1_keep_y Y S := by
  have h7 : nI j < 7 := nI_lt (b := 7) hj (by omega)
  have h0 : ¬ nI j < 0 := nI_pos (by omega)
  have hc : (nI j).toNatClampNeg = j := nI_clamp (by omega)
  have hg : j_X3_changeSetting_47_g (nI j) v S = setG j v S := by
    unfold j_X3_changeSetting_47_g setG
    rw [if_neg h0, if_pos h7, hc]
    by_cases e1 : j = 1
    · subst e1
      rw [if_pos (by decide), if_pos (by decide)]
    · rw [if_neg (show ¬ nI j = 1 from fun q => e1 ((nI_eq (b := 1) (by omega) (by omega)).mp q))]
      by_cases e2 : j = 2
      · subst e2
        rw [if_pos (by decide), if_pos (by decide)]
      · rw [if_neg (show ¬ nI j = 2 from fun q => e2 ((nI_eq (b := 2) (by omega) (by omega)).mp q)), if_neg (by omega)]
  unfold r_X4_set c_X4_set_1 c_X4_set_y r_X3_changeSetting c_X3_changeSetting r_X3_changeSetting_at47 c_X3_changeSetting_at47
  rw [hc, hg]
  simp only [if_neg h0, if_pos h7, if_neg (nlt_iff.mpr hv.1), if_neg (nlt_iff.mpr hv.2)]
  exact ⟨trivial, trivial, trivial⟩
theorem set_IV {S : SS} {B : Int} (I : IV S B) {j : Nat} (hj : j < 7) {v : Int32} (hv : (tabL j).toInt ≤ v.toInt ∧ v.toInt ≤ (tabM j).toInt) : IV (setG j v S, upd S.2.1 j v, S.2.2) B ∧ (setG j v S 9 = if j = 1 ∨ j = 2 then upd S.2.1 j v 1 else S.1 9) := by
  obtain ⟨hs, hv', hT, h13, h21, hL, hG, hD, hR⟩ := I
  have gl : ∀ k, k ≠ 9 → setG j v S k = S.1 k := fun k hk => by
    unfold setG
    split
    · exact upd_lo hk
    · rfl
  have g9 : setG j v S 9 = if j = 1 ∨ j = 2 then upd S.2.1 j v 1 else S.1 9 := by
    unfold setG
    split
    · exact upd_eq
    · rfl
  have hS : rgS (upd S.2.1 j v) := by
    refine (rgS_iff _).mpr (fun i hi => ?_)
    by_cases e : i = j
    · rw [e, upd_eq]
      exact hv
    · rw [upd_lo e]
      exact (rgS_iff _).mp hs i hi
  refine ⟨?_, g9⟩
  unfold IV rgV
  show rgS (upd S.2.1 j v) ∧ ((0 ≤ (setG j v S 7).toInt ∧ (setG j v S 7).toInt ≤ 4080) ∧ (0 ≤ (setG j v S 8).toInt ∧ (setG j v S 8).toInt ≤ 4080) ∧ ((upd S.2.1 j v 1).toInt ≤ (setG j v S 9).toInt ∧ (setG j v S 9).toInt ≤ (upd S.2.1 j v 1).toInt + (upd S.2.1 j v 2).toInt)) ∧ ((-100 ≤ (setG j v S 14).toInt ∧ (setG j v S 14).toInt ≤ 100) ∧ (-100 ≤ (setG j v S 15).toInt ∧ (setG j v S 15).toInt ≤ 100)) ∧ (0 ≤ (setG j v S 13).toInt ∧ (setG j v S 13).toInt ≤ 20) ∧ (0 ≤ (setG j v S 21).toInt ∧ (setG j v S 21).toInt ≤ B) ∧ ((setG j v S 21).toInt = 0 ∨ ((0 ≤ (setG j v S 10).toInt ∧ (setG j v S 10).toInt ≤ 255) ∧ (0 ≤ (setG j v S 11).toInt ∧ (setG j v S 11).toInt ≤ 255))) ∧ (0 ≤ (setG j v S 16).toInt ∧ (setG j v S 16).toInt + (tl (setG j v S 14) (setG j v S 15)).toInt ≤ (setG j v S 19).toInt ∧ (setG j v S 19).toInt ≤ (setG j v S 21).toInt) ∧ (0 ≤ (setG j v S 17).toInt ∧ (setG j v S 17).toInt ≤ (setG j v S 21).toInt) ∧ DIR S.2.2 (setG j v S 21).toInt (setG j v S 19).toInt
  rw [gl 7 (by decide), gl 8 (by decide), gl 10 (by decide), gl 11 (by decide), gl 13 (by decide), gl 14 (by decide), gl 15 (by decide), gl 16 (by decide), gl 17 (by decide), gl 19 (by decide), gl 21 (by decide), g9]
  refine ⟨hS, ⟨hv'.1, hv'.2.1, ?_⟩, hT, h13, h21, hL, hG, hD, hR⟩
  by_cases e : j = 1 ∨ j = 2
  · have := hS.2.2.1
    rw [if_pos e]
    omega
  · rw [if_neg e, upd_lo (by omega), upd_lo (by omega)]
    exact hv'.2.2
theorem set_go {S : SS} {Y : HS} {B : Int} (A : AL S Y B) (hB : B ≤ 9000) {u1 u2 : Int32} {j : Nat} (hj : j < 7) (hw : r_L_low (u1 >>> ((4 : Int32) &&& 31)) 7 = nI j) {v : Int32} (hv : (tabL j).toInt ≤ v.toInt ∧ v.toInt ≤ (tabM j).toInt) : GO (r_L_does_at249 u1 u2 S Y v) (c_L_does_1_at249 u1 u2 S Y v) (c_L_does_y_at249 u1 u2 S Y v) (B + 1) := by
  obtain ⟨I, hC, hd, hy⟩ := A
  obtain ⟨e1, e2, e3⟩ := set_is (S := S) (Y := Y) hj hv
  obtain ⟨I', g9⟩ := set_IV I hj hv
  obtain ⟨x, hx, ex⟩ := low_n (v := u2 >>> ((3 : Int32) &&& 31)) (n := 256) (m := 256) rfl (by omega) (by omega)
  obtain ⟨y, hy2, ey⟩ := low_n (v := u2 >>> ((11 : Int32) &&& 31)) (n := 256) (m := 256) rfl (by omega) (by omega)
  have hp : rgP (nI x) (nI y) := by
    unfold rgP
    rw [nI_toInt (by omega), nI_toInt (by omega)]
    omega
  have hd' : DN (setG j v S, upd S.2.1 j v, S.2.2) := by
    have h18 : setG j v S 18 = S.1 18 := by
      unfold setG
      split
      · exact upd_lo (by decide)
      · rfl
    unfold DN
    show 0 ≤ (setG j v S 18).toInt ∧ (setG j v S 18).toInt ≤ 255
    rw [h18]
    exact hd
  have g := samp_step (Y := c_X1_keep_y Y S) I' (by omega) hp hd' (keep_hy S hy)
  have s1 := g.1
  unfold r_L_does_at249 c_L_does_1_at249 c_L_does_y_at249 c_L_isSample_1 c_L_isSample_y
  rw [hw, nI_clamp (by omega), e1, e2, e3, ex, ey, s1]
  have n1 : nI j = 1 ↔ j = 1 := nI_eq (b := 1) (by omega) (by omega)
  have n2 : nI j = 2 ↔ j = 2 := nI_eq (b := 2) (by omega) (by omega)
  have q9 : ∀ {b : Prop} (h : (setG j v S, upd S.2.1 j v, S.2.2).1 9 = (if j = 1 ∨ j = 2 then upd S.2.1 j v 1 else S.1 9) → b), b := fun h => h g9
  have t1 : ((setG j v S, upd S.2.1 j v, S.2.2) : SS).2.1 j = v := upd_eq
  have d10 : ¬ (1 : Int32) = 0 := by decide
  by_cases c1 : j = 1
  · have t9 : ((setG j v S, upd S.2.1 j v, S.2.2) : SS).1 9 = ((setG j v S, upd S.2.1 j v, S.2.2) : SS).2.1 1 := by
      show setG j v S 9 = upd S.2.1 j v 1
      rw [g9, if_pos (Or.inl c1)]
    simp only [if_pos (n1.mpr c1), if_pos t1, if_pos t9, if_neg d10, if_true]
    exact ⟨rfl, g.2⟩
  · by_cases c2 : j = 2
    · have t9 : ((setG j v S, upd S.2.1 j v, S.2.2) : SS).1 9 = ((setG j v S, upd S.2.1 j v, S.2.2) : SS).2.1 1 := by
        show setG j v S 9 = upd S.2.1 j v 1
        rw [g9, if_pos (Or.inr c2)]
      simp only [if_neg (mt n1.mp c1), if_pos (n2.mpr c2), if_pos t1, if_pos t9, if_neg d10, if_true]
      exact ⟨rfl, g.2⟩
    · have t9 : ((setG j v S, upd S.2.1 j v, S.2.2) : SS).1 9 = S.1 9 := by
        show setG j v S 9 = S.1 9
        rw [g9, if_neg (by omega)]
      simp only [if_neg (mt n1.mp c1), if_neg (mt n2.mp c2), if_pos t1, if_pos t9, if_neg d10, if_true]
      exact ⟨rfl, g.2⟩
