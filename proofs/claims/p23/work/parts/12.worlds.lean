/-! the states of the class's parts and of the reference, and their cells -/
theorem ok_le {a b : Nat} (h : Nat.ble a b = true) : a ≤ b := Nat.le_of_ble_eq_true h
theorem ok_lt {a b : Nat} (h : Nat.ble (a + 1) b = true) : a < b := Nat.le_of_ble_eq_true h
def iabs (a : Int32) : Int32 := if 0 ≤ a then a else 0 - a
def imax (a b : Int32) : Int32 := if a < b then b else a
def imin (a b : Int32) : Int32 := if b < a then b else a
/-- Directions: the scalars (unlike, latest, run), byRank, samplesIn, longest -/
abbrev DD : Type := (Nat → Int32) × (Nat → Int32) × (Nat → Int32) × (Nat → Int32)
/-- Stick: the scalars, the settings, the directions -/
abbrev SS : Type := (Nat → Int32) × (Nat → Int32) × DD
/-- Pad: the scalars (length, place, kind, first, second, times), the text -/
abbrev PP : Type := (Nat → Int32) × (Nat → Int32)
/-- the reference beside its row s: past, known, slots, isSaved, pad, length -/
abbrev MR : Type := (Nat → Int32) × Int32 × (Nat → Int32) × (Nat → Int32) × (Nat → Int32) × Int32
def DK (d : gD) (a : Nat → Nat) (D : DD) : va_W := [(a 2, .inr (0, [.ref (a 3), .ref (a 4), .ref (a 5), .int (D.1 0), .int (D.1 1), .int (D.1 2)])), (a 3, .inl (d.2.1, 9, .inl D.2.1)), (a 4, .inl (d.2.1, 9, .inl D.2.2.1)), (a 5, .inl (d.2.1, 9, .inl D.2.2.2))]
def SO (d : gD) (a : Nat → Nat) (g st : Nat → Int32) : va_W := [(a 0, .inr (3, [.ref (a 1), .ref (a 2), .int (g 7), .int (g 8), .int (g 9), .int (g 14), .int (g 15), .int (g 10), .int (g 11), .int (g 12), .int (g 13), .int (g 21), .int (g 16), .int (g 17), .int (g 18), .int (g 19), .int (g 20)])), (a 1, .inl (d.2.1, 7, .inl st))]
def SK (d : gD) (a : Nat → Nat) (S : SS) : va_W := DK d a S.2.2 ++ SO d a S.1 S.2.1
theorem SK_mk (d : gD) (a : Nat → Nat) (g st : Nat → Int32) (D : DD) : DK d a D ++ SO d a g st = SK d a (g, st, D) := rfl
theorem SK_mk2 (d : gD) (a : Nat → Nat) (g st : Nat → Int32) (D : DD) (b : Nat → Nat) (g2 st2 : Nat → Int32) (D2 : DD) : (DK d a D ++ SO d a g st) ++ (DK d b D2 ++ SO d b g2 st2) = SK d a (g, st, D) ++ SK d b (g2, st2, D2) := rfl
def PK (d : gD) (a : Nat → Nat) (h t : Nat → Int32) : va_W := [(a 0, .inr (2, [.ref (a 1), .int (h 0), .int (h 1), .int (h 2), .int (h 3), .int (h 4), .int (h 5)])), (a 1, .inl (d.2.2.1, 80, .inl t))]
/-- a row of characters -/
def chT (t : Nat → Int32) : Prop := ∀ j, narrow .char (.int (t j)) = .int (t j) ∧ fits .char (.int (t j)) = true
def MW (d : gD) (a : Nat → Nat) (s : Nat → Int32) (Z : MR) : va_W := [(a 0, .inr (5, [.ref (a 1), .ref (a 2), .int Z.2.1, .ref (a 3), .ref (a 4), .ref (a 5), .int Z.2.2.2.2.2])), (a 1, .inl (d.2.1, 122, .inl s)), (a 2, .inl (d.2.1, 366, .inl Z.1)), (a 3, .inl (d.2.1, 122, .inl Z.2.2.1)), (a 4, .inl (d.2.2.2.1, 2, .inl Z.2.2.2.1)), (a 5, .inl (d.2.1, 80, .inl Z.2.2.2.2.1))]
/-- a row of 61 ints at the place p of a longer one -/
def pr (p : Nat) (r f : Nat → Int32) : Nat → Int32 := fun j => if p ≤ j ∧ j < p + 61 then r (j - p) else f j
theorem pr_get {p k : Nat} {r f : Nat → Int32} (hk : k < 61) : pr p r f (p + k) = r k := by
  unfold pr
  rw [if_pos (by omega), Nat.add_sub_cancel_left]
theorem pr_put {p k : Nat} {r f : Nat → Int32} {v : Int32} (hk : k < 61) : upd (pr p r f) (p + k) v = pr p (upd r k v) f := by
  funext j
  unfold upd pr
  by_cases h : j = p + k
  · subst h
    rw [if_pos rfl, if_pos (by omega), Nat.add_sub_cancel_left]
    exact (if_pos rfl).symm
  · rw [if_neg h]
    by_cases h2 : p ≤ j ∧ j < p + 61
    · rw [if_pos h2, if_pos h2]
      exact (if_neg (by omega)).symm
    · rw [if_neg h2, if_neg h2]
theorem pr_self (p : Nat) (f : Nat → Int32) : pr p (fun k => f (p + k)) f = f := by
  funext j
  unfold pr
  by_cases h : p ≤ j ∧ j < p + 61
  · rw [if_pos h]
    show f (p + (j - p)) = f j
    rw [Nat.add_sub_cancel' h.1]
  · rw [if_neg h]
theorem ix_eq {e : Int32} (h : ¬ e < 0) : e = nI e.toNatClampNeg := by
  obtain ⟨j, hj, rfl⟩ := nI_of h
  rw [nI_clamp hj]
theorem ix_lt {e : Int32} {N : Nat} (h0 : ¬ e < 0) (h : e < nI N) (hN : N < 2 ^ 31 := by decide) : e.toNatClampNeg < N := by
  obtain ⟨j, hj, rfl⟩ := nI_of h0
  rw [nI_clamp hj]
  exact (nI_ltI hj hN).mp h
theorem perm4 {α : Type} (a b c e : List α) : List.Perm ((a ++ b) ++ (c ++ e)) ((a ++ c) ++ (b ++ e)) := by
  rw [List.append_assoc, List.append_assoc]
  exact List.Perm.append_left a (List.perm_append_comm_assoc b c e)
theorem nar_b {r : Int32} (h : r = 0 ∨ r = 1) : narrow .boolean (.int r) = .int r := by
  rcases h with rfl | rfl <;> rfl
theorem ti_bmod {n : Int} (h1 : -2147483648 ≤ n) (h2 : n < 2147483648) : n.bmod (2 ^ 32) = n := Int.bmod_eq_of_le (by omega) (by omega)
theorem ti_add {a b : Int32} (h1 : -2147483648 ≤ a.toInt + b.toInt) (h2 : a.toInt + b.toInt < 2147483648) : (a + b).toInt = a.toInt + b.toInt := by
  rw [Int32.toInt_add, ti_bmod h1 h2]
theorem ti_sub {a b : Int32} (h1 : -2147483648 ≤ a.toInt - b.toInt) (h2 : a.toInt - b.toInt < 2147483648) : (a - b).toInt = a.toInt - b.toInt := by
  rw [Int32.toInt_sub, ti_bmod h1 h2]
theorem ti_mul {a b : Int32} (h1 : -2147483648 ≤ a.toInt * b.toInt) (h2 : a.toInt * b.toInt < 2147483648) : (a * b).toInt = a.toInt * b.toInt := by
  rw [Int32.toInt_mul, ti_bmod h1 h2]
theorem ti_rng (a : Int32) : -2147483648 ≤ a.toInt ∧ a.toInt < 2147483648 := ⟨Int32.le_toInt a, Int32.toInt_lt a⟩
theorem ti_lt {a b : Int32} : a < b ↔ a.toInt < b.toInt := Int32.lt_iff_toInt_lt
theorem ti_le {a b : Int32} : a ≤ b ↔ a.toInt ≤ b.toInt := Int32.le_iff_toInt_le
theorem ti_eq {a b : Int32} : a = b ↔ a.toInt = b.toInt := Int32.toInt_inj.symm
section GM
variable {d : gD} {x : gX} {own : String} {cc : ByteArray} {n : Nat} {rm : Room} {ws : va_W} {cells slots pc : Nat} {lv : List (Nat × Value)} {st : List Value}
theorem g_mget (E : gE d x own cc n rm) {p : Nat} {r f : Nat → Int32} {a N : Nat} {cA : ClassId} (q0 : Nat) (ha : ws[q0]? = some (a, .inl (cA, N, .inl (pr p r f)))) (ht : (gTys d)[0]? = some (cA, .int)) {i : Int32} (k : Nat) (hi : i = nI (p + k)) (hk : k < 61) (hp : p + k < N ∧ N < 2 ^ 31) (hdg : decode cc pc = .ok (.iaload, 1)) (kk : G d x ws cells slots (pc + 1) lv (.int (r k) :: st)) : G d x ws cells slots pc lv (.int i :: .ref a :: st) := by
  refine g_iald E q0 ha ht (p + k) hi hp.1 hp.2 hdg ?_
  rw [pr_get hk]
  exact kk
theorem g_mput (E : gE d x own cc n rm) {p : Nat} {r f : Nat → Int32} {a N : Nat} {cA : ClassId} (q0 : Nat) (ha : ws[q0]? = some (a, .inl (cA, N, .inl (pr p r f)))) (ht : (gTys d)[0]? = some (cA, .int)) {i v : Int32} (k : Nat) (hi : i = nI (p + k)) (hk : k < 61) (hp : p + k < N ∧ N < 2 ^ 31) {ws' : va_W} (hws : ws.set q0 (a, .inl (cA, N, .inl (pr p (upd r k v) f))) = ws') (hdg : decode cc pc = .ok (.iastore, 1)) (kk : G d x ws' cells slots (pc + 1) lv st) : G d x ws cells slots pc lv (.int v :: .int i :: .ref a :: st) := by
  refine g_iast E q0 ha ht (p + k) hi hp.1 hp.2 (by rw [pr_put hk]; exact hws) hdg kk
end GM
theorem gc_X4_init : gCI yX4_init cX4_init 1 0 := ⟨⟨co_X4_init, it_RX4, by decide +kernel, by decide +kernel⟩, by decide +kernel, im_X4_init⟩
theorem gc_X3_init : gCI yX3_init cX3_init 1 0 := ⟨⟨co_X3_init, it_RX3, by decide +kernel, by decide +kernel⟩, by decide +kernel, im_X3_init⟩
theorem gc_X0_init : gCI yX0_init cX0_init 1 0 := ⟨⟨co_X0_init, it_RX0, by decide +kernel, by decide +kernel⟩, by decide +kernel, im_X0_init⟩
theorem gc_X2_init : gCI yX2_init cX2_init 1 0 := ⟨⟨co_X2_init, it_RX2, by decide +kernel, by decide +kernel⟩, by decide +kernel, im_X2_init⟩
theorem gc_X1_init : gCI yX1_init cX1_init 1 0 := ⟨⟨co_X1_init, it_RX1, by decide +kernel, by decide +kernel⟩, by decide +kernel, im_X1_init⟩
theorem gc_L_isStick : gCS yL_isStick cL_isStick 11 (some .boolean) 1 := ⟨⟨co_L_isStick, it_RL, by decide +kernel, by decide +kernel⟩, sm_L_isStick⟩
theorem gc_X4_count : gCV RX4 yX4_count cX4_count 2 (some .int) 1 := ⟨⟨co_X4_count, it_RX4, by decide +kernel, by decide +kernel⟩, im_X4_count, se_X4_count⟩
theorem gc_X3_number : gCV RX3 yX3_number cX3_number 2 (some .int) 1 := ⟨⟨co_X3_number, it_RX3, by decide +kernel, by decide +kernel⟩, im_X3_number, se_X3_number⟩
theorem gc_X4_of : gCV RX4 yX4_of cX4_of 3 (some .int) 2 := ⟨⟨co_X4_of, it_RX4, by decide +kernel, by decide +kernel⟩, im_X4_of, se_X4_of⟩
theorem gc_X3_aboutX : gCV RX3 yX3_aboutX cX3_aboutX 2 (some .int) 1 := ⟨⟨co_X3_aboutX, it_RX3, by decide +kernel, by decide +kernel⟩, im_X3_aboutX, se_X3_aboutX⟩
theorem gc_X3_about : gCV RX3 yX3_about cX3_about 5 (some .int) 4 := ⟨⟨co_X3_about, it_RX3, by decide +kernel, by decide +kernel⟩, im_X3_about, se_X3_about⟩
theorem gc_X3_aboutY : gCV RX3 yX3_aboutY cX3_aboutY 2 (some .int) 1 := ⟨⟨co_X3_aboutY, it_RX3, by decide +kernel, by decide +kernel⟩, im_X3_aboutY, se_X3_aboutY⟩
theorem gc_L_size : gCS yL_size cL_size 1 (some .int) 1 := ⟨⟨co_L_size, it_RL, by decide +kernel, by decide +kernel⟩, sm_L_size⟩
theorem gc_X4_direction : gCV RX4 yX4_direction cX4_direction 3 (some .int) 2 := ⟨⟨co_X4_direction, it_RX4, by decide +kernel, by decide +kernel⟩, im_X4_direction, se_X4_direction⟩
theorem gc_X0_about : gCV RX0 yX0_about cX0_about 4 (some .int) 2 := ⟨⟨co_X0_about, it_RX0, by decide +kernel, by decide +kernel⟩, im_X0_about, se_X0_about⟩
theorem gc_X4_wouldTell : gCV RX4 yX4_wouldTell cX4_wouldTell 3 (some .int) 2 := ⟨⟨co_X4_wouldTell, it_RX4, by decide +kernel, by decide +kernel⟩, im_X4_wouldTell, se_X4_wouldTell⟩
theorem gc_X4_isSample : gCS yX4_isSample cX4_isSample 2 (some .boolean) 2 := ⟨⟨co_X4_isSample, it_RX4, by decide +kernel, by decide +kernel⟩, sm_X4_isSample⟩
theorem gc_X3_tellingAt : gCV RX3 yX3_tellingAt cX3_tellingAt 7 (some .int) 2 := ⟨⟨co_X3_tellingAt, it_RX3, by decide +kernel, by decide +kernel⟩, im_X3_tellingAt, se_X3_tellingAt⟩
theorem gc_X3_farthestOff : gCV RX3 yX3_farthestOff cX3_farthestOff 3 (some .int) 2 := ⟨⟨co_X3_farthestOff, it_RX3, by decide +kernel, by decide +kernel⟩, im_X3_farthestOff, se_X3_farthestOff⟩
theorem gc_X3_restPlaceX : gCV RX3 yX3_restPlaceX cX3_restPlaceX 1 (some .int) 0 := ⟨⟨co_X3_restPlaceX, it_RX3, by decide +kernel, by decide +kernel⟩, im_X3_restPlaceX, se_X3_restPlaceX⟩
theorem gc_X3_restPlaceY : gCV RX3 yX3_restPlaceY cX3_restPlaceY 1 (some .int) 0 := ⟨⟨co_X3_restPlaceY, it_RX3, by decide +kernel, by decide +kernel⟩, im_X3_restPlaceY, se_X3_restPlaceY⟩
theorem gc_X3_wouldDrift : gCV RX3 yX3_wouldDrift cX3_wouldDrift 4 (some .boolean) 2 := ⟨⟨co_X3_wouldDrift, it_RX3, by decide +kernel, by decide +kernel⟩, im_X3_wouldDrift, se_X3_wouldDrift⟩
theorem gc_X3_stillWith : gCV RX3 yX3_stillWith cX3_stillWith 4 (some .int) 2 := ⟨⟨co_X3_stillWith, it_RX3, by decide +kernel, by decide +kernel⟩, im_X3_stillWith, se_X3_stillWith⟩
theorem gc_X4_packed : gCS yX4_packed cX4_packed 2 (some .int) 2 := ⟨⟨co_X4_packed, it_RX4, by decide +kernel, by decide +kernel⟩, sm_X4_packed⟩
theorem gc_X3_leanOf : gCV RX3 yX3_leanOf cX3_leanOf 4 (some .int) 1 := ⟨⟨co_X3_leanOf, it_RX3, by decide +kernel, by decide +kernel⟩, im_X3_leanOf, se_X3_leanOf⟩
theorem gc_X4_quotient : gCS yX4_quotient cX4_quotient 2 (some .int) 2 := ⟨⟨co_X4_quotient, it_RX4, by decide +kernel, by decide +kernel⟩, sm_X4_quotient⟩
theorem gc_X4_learnedIn : gCV RX4 yX4_learnedIn cX4_learnedIn 4 (some .int) 2 := ⟨⟨co_X4_learnedIn, it_RX4, by decide +kernel, by decide +kernel⟩, im_X4_learnedIn, se_X4_learnedIn⟩
theorem gc_X3_becomeLike : gCV RX3 yX3_becomeLike cX3_becomeLike 2 none 1 := ⟨⟨co_X3_becomeLike, it_RX3, by decide +kernel, by decide +kernel⟩, im_X3_becomeLike, se_X3_becomeLike⟩
theorem gc_X0_becomeLike : gCV RX0 yX0_becomeLike cX0_becomeLike 2 none 1 := ⟨⟨co_X0_becomeLike, it_RX0, by decide +kernel, by decide +kernel⟩, im_X0_becomeLike, se_X0_becomeLike⟩
theorem gc_X3_isOffByNothing : gCV RX3 yX3_isOffByNothing cX3_isOffByNothing 3 (some .boolean) 2 := ⟨⟨co_X3_isOffByNothing, it_RX3, by decide +kernel, by decide +kernel⟩, im_X3_isOffByNothing, se_X3_isOffByNothing⟩
theorem gc_X3_take : gCV RX3 yX3_take cX3_take 6 none 2 := ⟨⟨co_X3_take, it_RX3, by decide +kernel, by decide +kernel⟩, im_X3_take, se_X3_take⟩
theorem gc_X3_comeToRest : gCV RX3 yX3_comeToRest cX3_comeToRest 3 none 2 := ⟨⟨co_X3_comeToRest, it_RX3, by decide +kernel, by decide +kernel⟩, im_X3_comeToRest, se_X3_comeToRest⟩
theorem gc_X3_tellsSomething : gCV RX3 yX3_tellsSomething cX3_tellsSomething 1 (some .boolean) 0 := ⟨⟨co_X3_tellsSomething, it_RX3, by decide +kernel, by decide +kernel⟩, im_X3_tellsSomething, se_X3_tellsSomething⟩
theorem gc_X3_fitZone : gCV RX3 yX3_fitZone cX3_fitZone 2 none 1 := ⟨⟨co_X3_fitZone, it_RX3, by decide +kernel, by decide +kernel⟩, im_X3_fitZone, se_X3_fitZone⟩
theorem gc_X3_driftTo : gCV RX3 yX3_driftTo cX3_driftTo 3 none 2 := ⟨⟨co_X3_driftTo, it_RX3, by decide +kernel, by decide +kernel⟩, im_X3_driftTo, se_X3_driftTo⟩
theorem gc_X3_tell : gCV RX3 yX3_tell cX3_tell 2 none 1 := ⟨⟨co_X3_tell, it_RX3, by decide +kernel, by decide +kernel⟩, im_X3_tell, se_X3_tell⟩
theorem gc_J6_compare_7cf53 : gCS yJ6_compare_7cf53 cJ6_compare_7cf53 2 (some .int) 2 := ⟨⟨co_J6_compare_7cf53, it_RJ6, by decide +kernel, by decide +kernel⟩, sm_J6_compare_7cf53⟩
theorem gc_X0_note : gCV RX0 yX0_note cX0_note 4 none 2 := ⟨⟨co_X0_note, it_RX0, by decide +kernel, by decide +kernel⟩, im_X0_note, se_X0_note⟩
theorem gc_X4_undo : gCV RX4 yX4_undo cX4_undo 1 (some .int) 0 := ⟨⟨co_X4_undo, it_RX4, by decide +kernel, by decide +kernel⟩, im_X4_undo, se_X4_undo⟩
theorem gc_X1_takeBack : gCV RX1 yX1_takeBack cX1_takeBack 4 (some .int) 1 := ⟨⟨co_X1_takeBack, it_RX1, by decide +kernel, by decide +kernel⟩, im_X1_takeBack, se_X1_takeBack⟩
theorem gc_X1_placeOf : gCV RX1 yX1_placeOf cX1_placeOf 2 (some .int) 1 := ⟨⟨co_X1_placeOf, it_RX1, by decide +kernel, by decide +kernel⟩, im_X1_placeOf, se_X1_placeOf⟩
theorem gc_J9_floorMod_7cf53 : gCS yJ9_floorMod_7cf53 cJ9_floorMod_7cf53 3 (some .int) 2 := ⟨⟨co_J9_floorMod_7cf53, it_RJ9, by decide +kernel, by decide +kernel⟩, sm_J9_floorMod_7cf53⟩
theorem gc_L_cell : gCS yL_cell cL_cell 2 (some .int) 2 := ⟨⟨co_L_cell, it_RL, by decide +kernel, by decide +kernel⟩, sm_L_cell⟩
theorem gc_L_does : gCS yL_does cL_does 20 (some .boolean) 3 := ⟨⟨co_L_does, it_RL, by decide +kernel, by decide +kernel⟩, sm_L_does⟩
theorem gc_L_low : gCS yL_low cL_low 2 (some .int) 2 := ⟨⟨co_L_low, it_RL, by decide +kernel, by decide +kernel⟩, sm_L_low⟩
theorem gc_X4_set : gCV RX4 yX4_set cX4_set 3 (some .int) 2 := ⟨⟨co_X4_set, it_RX4, by decide +kernel, by decide +kernel⟩, im_X4_set, se_X4_set⟩
theorem gc_X1_keep : gCV RX1 yX1_keep cX1_keep 4 none 1 := ⟨⟨co_X1_keep, it_RX1, by decide +kernel, by decide +kernel⟩, im_X1_keep, se_X1_keep⟩
theorem gc_X3_changeSetting : gCV RX3 yX3_changeSetting cX3_changeSetting 4 (some .int) 2 := ⟨⟨co_X3_changeSetting, it_RX3, by decide +kernel, by decide +kernel⟩, im_X3_changeSetting, se_X3_changeSetting⟩
theorem gc_L_isSample : gCS yL_isSample cL_isSample 22 (some .boolean) 3 := ⟨⟨co_L_isSample, it_RL, by decide +kernel, by decide +kernel⟩, sm_L_isSample⟩
theorem gc_L_greater : gCS yL_greater cL_greater 2 (some .int) 2 := ⟨⟨co_L_greater, it_RL, by decide +kernel, by decide +kernel⟩, sm_L_greater⟩
theorem gc_X4_sample : gCV RX4 yX4_sample cX4_sample 3 (some .int) 2 := ⟨⟨co_X4_sample, it_RX4, by decide +kernel, by decide +kernel⟩, im_X4_sample, se_X4_sample⟩
theorem gc_X4_takeAlike : gCV RX4 yX4_takeAlike cX4_takeAlike 6 (some .int) 3 := ⟨⟨co_X4_takeAlike, it_RX4, by decide +kernel, by decide +kernel⟩, im_X4_takeAlike, se_X4_takeAlike⟩
theorem gc_X3_refusalOfSamples : gCV RX3 yX3_refusalOfSamples cX3_refusalOfSamples 4 (some .int) 3 := ⟨⟨co_X3_refusalOfSamples, it_RX3, by decide +kernel, by decide +kernel⟩, im_X3_refusalOfSamples, se_X3_refusalOfSamples⟩
theorem gc_X3_telling : gCV RX3 yX3_telling cX3_telling 1 (some .int) 0 := ⟨⟨co_X3_telling, it_RX3, by decide +kernel, by decide +kernel⟩, im_X3_telling, se_X3_telling⟩
theorem gc_X4_press : gCV RX4 yX4_press cX4_press 3 (some .int) 1 := ⟨⟨co_X4_press, it_RX4, by decide +kernel, by decide +kernel⟩, im_X4_press, se_X4_press⟩
theorem gc_X3_refusalOfPress : gCV RX3 yX3_refusalOfPress cX3_refusalOfPress 2 (some .int) 1 := ⟨⟨co_X3_refusalOfPress, it_RX3, by decide +kernel, by decide +kernel⟩, im_X3_refusalOfPress, se_X3_refusalOfPress⟩
theorem gc_X3_isButton : gCS yX3_isButton cX3_isButton 1 (some .boolean) 1 := ⟨⟨co_X3_isButton, it_RX3, by decide +kernel, by decide +kernel⟩, sm_X3_isButton⟩
theorem gc_X3_isDown : gCV RX3 yX3_isDown cX3_isDown 2 (some .boolean) 1 := ⟨⟨co_X3_isDown, it_RX3, by decide +kernel, by decide +kernel⟩, im_X3_isDown, se_X3_isDown⟩
theorem gc_X3_pushDown : gCV RX3 yX3_pushDown cX3_pushDown 2 (some .int) 1 := ⟨⟨co_X3_pushDown, it_RX3, by decide +kernel, by decide +kernel⟩, im_X3_pushDown, se_X3_pushDown⟩
theorem gc_X4_letUp : gCV RX4 yX4_letUp cX4_letUp 3 (some .int) 1 := ⟨⟨co_X4_letUp, it_RX4, by decide +kernel, by decide +kernel⟩, im_X4_letUp, se_X4_letUp⟩
theorem gc_X3_refusalOfLetUp : gCV RX3 yX3_refusalOfLetUp cX3_refusalOfLetUp 2 (some .int) 1 := ⟨⟨co_X3_refusalOfLetUp, it_RX3, by decide +kernel, by decide +kernel⟩, im_X3_refusalOfLetUp, se_X3_refusalOfLetUp⟩
theorem gc_X3_release : gCV RX3 yX3_release cX3_release 2 (some .int) 1 := ⟨⟨co_X3_release, it_RX3, by decide +kernel, by decide +kernel⟩, im_X3_release, se_X3_release⟩
theorem gc_X4_reset : gCV RX4 yX4_reset cX4_reset 1 (some .int) 0 := ⟨⟨co_X4_reset, it_RX4, by decide +kernel, by decide +kernel⟩, im_X4_reset, se_X4_reset⟩
theorem gc_X3_toMiddle : gCV RX3 yX3_toMiddle cX3_toMiddle 2 (some .int) 0 := ⟨⟨co_X3_toMiddle, it_RX3, by decide +kernel, by decide +kernel⟩, im_X3_toMiddle, se_X3_toMiddle⟩
theorem gc_X4_hold : gCV RX4 yX4_hold cX4_hold 4 (some .int) 3 := ⟨⟨co_X4_hold, it_RX4, by decide +kernel, by decide +kernel⟩, im_X4_hold, se_X4_hold⟩
theorem gc_L_isIn : gCS yL_isIn cL_isIn 13 (some .boolean) 3 := ⟨⟨co_L_isIn, it_RL, by decide +kernel, by decide +kernel⟩, sm_L_isIn⟩
theorem gc_X4_driftsIn : gCV RX4 yX4_driftsIn cX4_driftsIn 4 (some .int) 2 := ⟨⟨co_X4_driftsIn, it_RX4, by decide +kernel, by decide +kernel⟩, im_X4_driftsIn, se_X4_driftsIn⟩
theorem gc_X4_save : gCV RX4 yX4_save cX4_save 3 (some .int) 1 := ⟨⟨co_X4_save, it_RX4, by decide +kernel, by decide +kernel⟩, im_X4_save, se_X4_save⟩
theorem gc_X4_restore : gCV RX4 yX4_restore cX4_restore 3 (some .int) 1 := ⟨⟨co_X4_restore, it_RX4, by decide +kernel, by decide +kernel⟩, im_X4_restore, se_X4_restore⟩
theorem gc_L_isEdge : gCS yL_isEdge cL_isEdge 10 (some .boolean) 3 := ⟨⟨co_L_isEdge, it_RL, by decide +kernel, by decide +kernel⟩, sm_L_isEdge⟩
theorem gc_X4_edge : gCV RX4 yX4_edge cX4_edge 7 (some .int) 2 := ⟨⟨co_X4_edge, it_RX4, by decide +kernel, by decide +kernel⟩, im_X4_edge, se_X4_edge⟩
