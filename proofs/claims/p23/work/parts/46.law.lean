/-! the refusals at the end; the start -/
theorem t4_X4_sample_256_0 (d : gD) (x a b c e : Nat → Nat) (p q : Nat → Nat → Nat) (S T : SS) (h t : Nat → Int32) (y : HS) (ss : Nat → Option SS) (hy : y.1 < 6 ∧ y.2.1 ≤ 6) (hu : ¬ S.2.2.1 0 < 0) : gMi d yX4_sample cX4_sample 3 (some .int) R_X4_sample [.ref (x 0), .int 256, .int 0] (XW d (x, a, b, c, e) p q S T h t y ss) (fun r_ u_ => r_ = -2 ∧ ∃ p_ : Nat → Nat → Nat, u_ = XW d (x, a, b, c, e) p_ q S T h t y ss) := by
  have e0 : r_X3_refusalOfSamples 256 0 1 S = -2 := by
    unfold r_X3_refusalOfSamples
    rw [show r_X4_isSample 256 0 = 0 from by decide, if_pos rfl]
  have e1 : r_X4_sample 256 0 S y = -2 := by
    unfold r_X4_sample r_X4_takeAlike
    rw [e0, if_neg (by decide)]
  have e2 : c_X4_sample_1 256 0 S y = S := by
    unfold c_X4_sample_1 c_X4_takeAlike_1
    rw [e0, if_neg (by decide)]
  have e3 : c_X4_sample_y 256 0 S y = y := by
    unfold c_X4_sample_y c_X4_takeAlike_y
    rw [e0, if_neg (by decide)]
  refine (t_X4_sample d x a b c e 256 0 p q S T h t y ss hy hu).mono ?_
  rw [e1, e2, e3]
theorem t4_X4_hold_0_0_201 (d : gD) (x a b c e : Nat → Nat) (p q : Nat → Nat → Nat) (S T : SS) (h t : Nat → Int32) (y : HS) (ss : Nat → Option SS) (hy : y.1 < 6 ∧ y.2.1 ≤ 6) (hu : ¬ S.2.2.1 0 < 0) : gMi d yX4_hold cX4_hold 4 (some .int) R_X4_hold [.ref (x 0), .int 0, .int 0, .int 201] (XW d (x, a, b, c, e) p q S T h t y ss) (fun r_ u_ => r_ = -2 ∧ ∃ p_ : Nat → Nat → Nat, u_ = XW d (x, a, b, c, e) p_ q S T h t y ss) := by
  have e1 : r_X4_hold 0 0 201 S y = -2 := by
    unfold r_X4_hold
    rw [if_neg (by decide), if_pos (by decide)]
  have e2 : c_X4_hold_1 0 0 201 S y = S := by
    unfold c_X4_hold_1
    rw [if_neg (by decide), if_pos (by decide)]
  have e3 : c_X4_hold_y 0 0 201 S y = y := by
    unfold c_X4_hold_y
    rw [if_neg (by decide), if_pos (by decide)]
  refine (t_X4_hold d x a b c e 0 0 201 p q S T h t y ss hy hu).mono ?_
  rw [e1, e2, e3]
theorem t4_X4_set_7_1 (d : gD) (x a b c e : Nat → Nat) (p q : Nat → Nat → Nat) (S T : SS) (h t : Nat → Int32) (y : HS) (ss : Nat → Option SS) (hy : y.1 < 6 ∧ y.2.1 ≤ 6) : gMi d yX4_set cX4_set 3 (some .int) R_X4_set [.ref (x 0), .int 7, .int 1] (XW d (x, a, b, c, e) p q S T h t y ss) (fun r_ u_ => r_ = -2 ∧ ∃ p_ : Nat → Nat → Nat, u_ = XW d (x, a, b, c, e) p_ q S T h t y ss) := by
  have e1 : r_X4_set 7 1 S y = -2 := by
    unfold r_X4_set
    rw [if_neg (by decide), if_neg (by decide)]
  have e2 : c_X4_set_1 7 1 S y = S := by
    unfold c_X4_set_1
    rw [if_neg (by decide), if_neg (by decide)]
  have e3 : c_X4_set_y 7 1 S y = y := by
    unfold c_X4_set_y
    rw [if_neg (by decide), if_neg (by decide)]
  refine (t_X4_set d x a b c e 7 1 p q S T h t y ss hy).mono ?_
  rw [e1, e2, e3]
theorem t4_X4_set_3_59 (d : gD) (x a b c e : Nat → Nat) (p q : Nat → Nat → Nat) (S T : SS) (h t : Nat → Int32) (y : HS) (ss : Nat → Option SS) (hy : y.1 < 6 ∧ y.2.1 ≤ 6) : gMi d yX4_set cX4_set 3 (some .int) R_X4_set [.ref (x 0), .int 3, .int 59] (XW d (x, a, b, c, e) p q S T h t y ss) (fun r_ u_ => r_ = -2 ∧ ∃ p_ : Nat → Nat → Nat, u_ = XW d (x, a, b, c, e) p_ q S T h t y ss) := by
  have e1 : r_X4_set 3 59 S y = -2 := by
    unfold r_X4_set
    rw [if_neg (by decide), if_pos (by decide), if_pos (by decide)]
  have e2 : c_X4_set_1 3 59 S y = S := by
    unfold c_X4_set_1
    rw [if_neg (by decide), if_pos (by decide), if_pos (by decide)]
  have e3 : c_X4_set_y 3 59 S y = y := by
    unfold c_X4_set_y
    rw [if_neg (by decide), if_pos (by decide), if_pos (by decide)]
  refine (t_X4_set d x a b c e 3 59 p q S T h t y ss hy).mono ?_
  rw [e1, e2, e3]
abbrev Y0 : HS := (0, 0, fun _ => none)
theorem AL_0 : AL S0 Y0 0 := by
  refine ⟨⟨?_, ?_, ⟨by decide, by decide⟩, by decide, by decide, Or.inl (by decide), by decide +kernel, by decide, DIR_0⟩, ?_, by unfold DN; decide, by unfold YK; exact ⟨by decide, by decide⟩⟩
  · unfold rgS
    decide +kernel
  · unfold rgV
    decide +kernel
  · unfold CR
    decide +kernel
theorem w0_is : r_X4_wouldTell 128 128 S0 = 100100 := by decide +kernel
theorem l0_is (T : SS) : r_X4_learnedIn 128 128 S0 T = 0 := by
  unfold r_X4_learnedIn
  rw [show r_X4_isSample 128 128 = 1 from by decide, if_neg (by decide), r_X4_learnedIn_at24, if_neg (by decide), if_neg (by decide +kernel)]
  rfl
theorem AL_u : AL (c_X4_undo_1 S0 Y0) (c_X4_undo_y S0 Y0) 0 := AL_0
theorem v_nI (v : Int32) : v = nI v.toBitVec.toNat := Int32.toBitVec_inj.mp (by
  show v.toBitVec = BitVec.ofNat 32 v.toBitVec.toNat
  simp)
theorem and1_01 (w : Int32) : w &&& 1 = 0 ∨ w &&& 1 = 1 := by
  obtain ⟨k, hk, e⟩ : ∃ k, k < 2 ∧ w &&& 1 = nI k := by
    refine ⟨(w &&& 1).toBitVec.toNat, ?_, v_nI _⟩
    have h : (w &&& 1).toBitVec.toNat = w.toBitVec.toNat &&& 1 := by
      rw [Int32.toBitVec_and, BitVec.toNat_and]
      rfl
    rw [h]
    have := Nat.and_le_right (n := w.toBitVec.toNat) (m := 1)
    omega
  rw [e]
  match k, hk with
  | 0, _ => exact Or.inl rfl
  | 1, _ => exact Or.inr rfl
  | _ + 2, h => exact absurd h (by omega)
set_option maxHeartbeats 4000000 in
set_option maxRecDepth 100000 in
theorem law_tail (d : gD) (x a b c e : Nat → Nat) (sa : Nat) {X : gX} (E : gE d X RL cL_law 8 room_1) (p q : Nat → Nat → Nat) (S T : SS) (h t : Nat → Int32) (y : HS) (ss : Nat → Option SS) {B : Int} (I : IV S B) (i : Nat) (v3 : Int32) {cells slots : Nat} (hc : cells ≤ 600000) (hs : slots ≤ 7302250) (K : G d X (XW d (x, a, b, c, e) p q S T h t y ss) cells slots 66 [(0, .ref sa), (1, .ref (x 0)), (2, .int (nI (i + 1)))] []) : G d X (XW d (x, a, b, c, e) p q S T h t y ss) cells slots 217 [(0, .ref sa), (1, .ref (x 0)), (2, .int (nI i)), (3, .int v3)] [] := by
  refine g_iload_n E 2 dL_law_217 rfl rfl ?_
  refine g_bipush E 20 dL_law_218 (by decide) ?_
  refine g_irem E dL_law_220 (by decide) ?_
  refine g_bipush E 13 dL_law_221 (by decide) ?_
  refine g_icmpne E 245 dL_law_223 (by decide) (fun c_223 => ?_) (fun c_223 => ?_)
  · skip
    refine g_iinc E (j := 2) (v := (nI (i + 1))) (lv' := [(2, .int (nI (i + 1))), (0, .ref sa), (1, .ref (x 0)), (3, .int v3)]) dL_law_245 rfl (nI_1 _) (by decide) rfl ?_
    refine g_goto E 66 dL_law_248 (by decide) ?_
    refine g_lvs (lv' := [(0, .ref sa), (1, .ref (x 0)), (2, .int (nI (i + 1)))]) [1, 2, 0] rfl ?_
    refine g_widen (k1 := cells) (n1 := slots) (by (try dsimp only [R_X4_count, R_X4_of, R_X4_sample, R_X4_hold, R_X4_set, R_X4_edge, R_L_cell, R_L_low, R_L_does, R_L_isStick, R_L_isIn, R_L_isEdge]); omega) (by (try dsimp only [R_X4_count, R_X4_of, R_X4_sample, R_X4_hold, R_X4_set, R_X4_edge, R_L_cell, R_L_low, R_L_does, R_L_isStick, R_L_isIn, R_L_isEdge]); omega) ?_
    exact K
  · skip
    refine g_aload_n E 1 dL_law_226 rfl rfl ?_
    refine g_iload_n E 3 dL_law_227 rfl rfl ?_
    refine g_iconst E 4 dL_law_228 (by decide) ?_
    refine g_ishr E dL_law_229 ?_
    refine g_iconst E 1 dL_law_230 (by decide) ?_
    refine g_iand E dL_law_231 ?_
    refine g_iload_n E 3 dL_law_232 rfl rfl ?_
    refine g_iconst E 5 dL_law_233 (by decide) ?_
    refine g_ishr E dL_law_234 ?_
    refine g_iconst E 1 dL_law_235 (by decide) ?_
    refine g_iand E dL_law_236 ?_
    refine g_callSi0 E gc_L_isEdge ml_L_93 (t_L_isEdge d x a b c e ((v3 >>> ((4 : Int32) &&& 31)) &&& 1) ((v3 >>> ((5 : Int32) &&& 31)) &&& 1) p q S T h t y ss ) rfl rfl rfl rfl (ok_le rfl) ⟨ok_le rfl, ok_le rfl, (by show _ ≤ (600000 : Nat); (try dsimp only [R_X4_count, R_X4_of, R_X4_sample, R_X4_hold, R_X4_set, R_X4_edge, R_L_cell, R_L_low, R_L_does, R_L_isStick, R_L_isIn, R_L_isEdge]); omega), (by show _ ≤ (7302250 : Nat); (try dsimp only [R_X4_count, R_X4_of, R_X4_sample, R_X4_hold, R_X4_set, R_X4_edge, R_L_cell, R_L_low, R_L_does, R_L_isStick, R_L_isIn, R_L_isEdge]); omega)⟩ rfl rfl dL_law_237 ?_
    refine g_nm (fun v1_ hv1_ => ?_)
    refine g_ifne E 245 dL_law_240 (by decide) (fun _ => ?_) (fun q_ => absurd q_ (by rw [← hv1_, edge_1 I (and1_01 _) (and1_01 _)]; decide))
    refine g_iinc E (j := 2) (v := (nI (i + 1))) (lv' := [(2, .int (nI (i + 1))), (0, .ref sa), (1, .ref (x 0)), (3, .int v3)]) dL_law_245 rfl (nI_1 _) (by decide) rfl ?_
    refine g_goto E 66 dL_law_248 (by decide) ?_
    refine g_lvs (lv' := [(0, .ref sa), (1, .ref (x 0)), (2, .int (nI (i + 1)))]) [1, 2, 0] rfl ?_
    refine g_widen (k1 := cells) (n1 := slots) (by (try dsimp only [R_X4_count, R_X4_of, R_X4_sample, R_X4_hold, R_X4_set, R_X4_edge, R_L_cell, R_L_low, R_L_does, R_L_isStick, R_L_isIn, R_L_isEdge]); omega) (by (try dsimp only [R_X4_count, R_X4_of, R_X4_sample, R_X4_hold, R_X4_set, R_X4_edge, R_L_cell, R_L_low, R_L_does, R_L_isStick, R_L_isIn, R_L_isEdge]); omega) ?_
    exact K
