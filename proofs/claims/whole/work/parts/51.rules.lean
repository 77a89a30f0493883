/-! the law's walk: reading the script, what the world's invariant gives, the end -/
def gScr : gX → Nat → Nat → (Nat → Int32) → Prop := fun (_, _, _, _, s, _, _, _, _, _, A, _, _) b L xs => va_X b L xs s s.heap ∧ b < s.heap.size ∧ ¬ A b
section GSC
variable {d : gD} {x : gX} {own : String} {cc : ByteArray} {n : Nat} {rm : Room} {ws : va_W} {cells slots pc : Nat} {lv : List (Nat × Value)} {st : List Value}
theorem g_sld (E : gE d x own cc n rm) {b L : Nat} {xs : Nat → Int32} (SC : gScr x b L xs) {i : Int32} (j : Nat) (hi : i = nI j) (hj : j < L) (hL : L ≤ 2048) (hdg : decode cc pc = .ok (.iaload, 1)) (kk : G d x ws cells slots (pc + 1) lv (.int (xs j) :: st)) : G d x ws cells slots pc lv (.int i :: .ref b :: st) := by
  obtain ⟨p, l, e, R, s, m, args, below, meth, c, A, nL, Q⟩ := x
  obtain ⟨hx, hb, hml, hnL, hown, hts, hK, hZ, hA, hR, hlk⟩ := E
  obtain ⟨hX, hbl, hbA⟩ := SC
  subst hi
  intro H locs ls hP hD hS hl
  refine va_sld hx hb hX hbl hbA hS (nI_in hj (by omega)) hdg ?_
  rw [nI_clamp (by omega)]
  exact kk H locs ls hP hD hS hl
theorem g_slen (E : gE d x own cc n rm) {b L : Nat} {xs : Nat → Int32} (SC : gScr x b L xs) (hdg : decode cc pc = .ok (.arraylength, 1)) (kk : G d x ws cells slots (pc + 1) lv (.int (nI L) :: st)) : G d x ws cells slots pc lv (.ref b :: st) := by
  obtain ⟨p, l, e, R, s, m, args, below, meth, c, A, nL, Q⟩ := x
  obtain ⟨hx, hb, hml, hnL, hown, hts, hK, hZ, hA, hR, hlk⟩ := E
  obtain ⟨hX, hbl, hbA⟩ := SC
  intro H locs ls hP hD hS hl
  exact va_slen hx hb hX hbl hbA hS hdg (kk H locs ls hP hD hS hl)
end GSC
/-- class and reference stand beside each other -/
def INV (S : SS) (h t : Nat → Int32) (y : HS) (ss : Nat → Option SS) (r past : Nat → Int32) (kk : Nat) (sl sv pd : Nat → Int32) (ln : Int32) : Prop := W1 S y r past kk ∧ LR ss sl sv ∧ h 0 = ln ∧ TR t pd ln
section INVX
variable {S : SS} {h t : Nat → Int32} {y : HS} {ss : Nat → Option SS} {r past : Nat → Int32} {kk : Nat} {sl sv pd : Nat → Int32} {ln : Int32}
theorem INV.hy (I : INV S h t y ss r past kk sl sv pd ln) : y.1 < 6 ∧ y.2.1 ≤ 6 := by
  obtain ⟨⟨-, h1, h2, h3, -⟩, -⟩ := I
  exact ⟨h1, by omega⟩
theorem INV.hkk (I : INV S h t y ss r past kk sl sv pd ln) : kk ≤ 6 := I.1.2.2.2.1
theorem INV.hu (I : INV S h t y ss r past kk sl sv pd ln) : ¬ S.2.2.1 0 < 0 := by
  obtain ⟨⟨⟨-, -, -, -, -, -, -, nd, c, h1, h2, h3, -⟩, -⟩, -⟩ := I
  rw [h1]
  exact nI_pos (by omega)
theorem INV.hln (I : INV S h t y ss r past kk sl sv pd ln) : 0 ≤ ln.toInt ∧ ln.toInt ≤ 80 := ⟨I.2.2.2.1, I.2.2.2.2.1⟩
theorem INV.hl (I : INV S h t y ss r past kk sl sv pd ln) : ¬ h 0 < 0 := by
  rw [I.2.2.1]
  exact i_nn I.hln.1
theorem INV.hT (I : INV S h t y ss r past kk sl sv pd ln) : chT t := I.2.2.2.2.2.1
end INVX
theorem TR_or {t pd : Nat → Int32} {ln ln' : Int32} (h : ln' = 0 ∨ ln' = ln) (hT : TR t pd ln) : TR t pd ln' := by
  rcases h with h | h
  · rw [h]
    exact TR_0 hT
  · rw [h]
    exact hT
