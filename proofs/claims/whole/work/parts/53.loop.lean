theorem and31 (w : Int32) : ∃ k, k < 32 ∧ w &&& 31 = nI k := by
  refine ⟨(w &&& 31).toBitVec.toNat, ?_, Int32.toBitVec_inj.mp (by
    show _ = BitVec.ofNat 32 _
    simp)⟩
  have h : (w &&& 31).toBitVec.toNat = w.toBitVec.toNat &&& 31 := by
    rw [Int32.toBitVec_and, BitVec.toNat_and]
    rfl
  rw [h]
  have := Nat.and_le_right (n := w.toBitVec.toNat) (m := 31)
  omega

set_option maxHeartbeats 4000000 in
set_option maxRecDepth 100000 in
theorem law_step (d : gD) (x a b c e a5 : Nat → Nat) (sa L : Nat) (xs : Nat → Int32) (i : Nat) (hi : i + 4 ≤ L) (hL : L ≤ 2048) {X : gX} (E : gE d X RL cL_law 4 room_1) (SC : gScr X sa L xs) (p q : Nat → Nat → Nat) (S T : SS) (h t : Nat → Int32) (y : HS) (ss : Nat → Option SS) (r f past : Nat → Int32) (kk : Nat) (sl sv pd : Nat → Int32) (ln : Int32) (I : INV S h t y ss r past kk sl sv pd ln) {cells slots : Nat} (hc : cells + 6 ≤ 600000) (hs : slots + 57 ≤ 7302250) (K : ∀ (p q : Nat → Nat → Nat) (S T : SS) (h t : Nat → Int32) (y : HS) (ss : Nat → Option SS) (r f past : Nat → Int32) (kk : Nat) (sl sv pd : Nat → Int32) (ln : Int32), INV S h t y ss r past kk sl sv pd ln → G d X (XW d (x, a, b, c, e) p q S T h t y ss ++ MW d a5 (pr 0 r f) (past, nI kk, sl, sv, pd, ln)) (cells + 6) (slots + 57) 668 [(0, .ref sa), (1, .ref (x 0)), (2, .ref (a5 0)), (3, .int (nI i))] []) : G d X (XW d (x, a, b, c, e) p q S T h t y ss ++ MW d a5 (pr 0 r f) (past, nI kk, sl, sv, pd, ln)) (cells) (slots) 26 [(0, .ref sa), (1, .ref (x 0)), (2, .ref (a5 0)), (3, .int (nI i))] [] := by
  refine g_aload_n E 0 dL_law_26 rfl rfl ?_
  refine g_iload_n E 3 dL_law_27 rfl rfl ?_
  refine g_sld E SC i rfl (by omega) hL dL_law_28 ?_
  refine g_bipush E 31 dL_law_29 (by decide) ?_
  refine g_iand E dL_law_31 ?_
  obtain ⟨k, hk, ek⟩ := and31 (xs i)
  refine g_top ek ?_
  match k, hk with
  | 0, _ => exact g_tableIn E 128 dL_law_32 (by decide) (by decide) rfl (by decide) (law_set d x a b c e a5 sa L xs i hi hL E SC p q S T h t y ss r f past kk sl sv pd ln I hc hs K)
  | 1, _ => exact g_tableIn E 161 dL_law_32 (by decide) (by decide) rfl (by decide) (law_sample d x a b c e a5 sa L xs i hi hL E SC p q S T h t y ss r f past kk sl sv pd ln I hc hs K)
  | 2, _ => exact g_tableIn E 194 dL_law_32 (by decide) (by decide) rfl (by decide) (law_hold d x a b c e a5 sa L xs i hi hL E SC p q S T h t y ss r f past kk sl sv pd ln I hc hs K)
  | 3, _ => exact g_tableIn E 237 dL_law_32 (by decide) (by decide) rfl (by decide) (law_press d x a b c e a5 sa L xs i hi hL E SC p q S T h t y ss r f past kk sl sv pd ln I hc hs K)
  | 4, _ => exact g_tableIn E 260 dL_law_32 (by decide) (by decide) rfl (by decide) (law_letUp d x a b c e a5 sa L xs i hi hL E SC p q S T h t y ss r f past kk sl sv pd ln I hc hs K)
  | 5, _ => exact g_tableIn E 283 dL_law_32 (by decide) (by decide) rfl (by decide) (law_reset d x a b c e a5 sa L xs i hi hL E SC p q S T h t y ss r f past kk sl sv pd ln I hc hs K)
  | 6, _ => exact g_tableIn E 296 dL_law_32 (by decide) (by decide) rfl (by decide) (law_of d x a b c e a5 sa L xs i hi hL E SC p q S T h t y ss r f past kk sl sv pd ln I hc hs K)
  | 7, _ => exact g_tableIn E 329 dL_law_32 (by decide) (by decide) rfl (by decide) (law_direction d x a b c e a5 sa L xs i hi hL E SC p q S T h t y ss r f past kk sl sv pd ln I hc hs K)
  | 8, _ => exact g_tableIn E 362 dL_law_32 (by decide) (by decide) rfl (by decide) (law_count d x a b c e a5 sa L xs i hi hL E SC p q S T h t y ss r f past kk sl sv pd ln I hc hs K)
  | 9, _ => exact g_tableIn E 385 dL_law_32 (by decide) (by decide) rfl (by decide) (law_wouldTell d x a b c e a5 sa L xs i hi hL E SC p q S T h t y ss r f past kk sl sv pd ln I hc hs K)
  | 10, _ => exact g_tableIn E 418 dL_law_32 (by decide) (by decide) rfl (by decide) (law_learnedIn d x a b c e a5 sa L xs i hi hL E SC p q S T h t y ss r f past kk sl sv pd ln I hc hs K)
  | 11, _ => exact g_tableIn E 451 dL_law_32 (by decide) (by decide) rfl (by decide) (law_edge d x a b c e a5 sa L xs i hi hL E SC p q S T h t y ss r f past kk sl sv pd ln I hc hs K)
  | 12, _ => exact g_tableIn E 484 dL_law_32 (by decide) (by decide) rfl (by decide) (law_driftsIn d x a b c e a5 sa L xs i hi hL E SC p q S T h t y ss r f past kk sl sv pd ln I hc hs K)
  | 13, _ => exact g_tableIn E 517 dL_law_32 (by decide) (by decide) rfl (by decide) (law_put d x a b c e a5 sa L xs i hi hL E SC p q S T h t y ss r f past kk sl sv pd ln I hc hs K)
  | 14, _ => exact g_tableIn E 570 dL_law_32 (by decide) (by decide) rfl (by decide) (law_wipe d x a b c e a5 sa L xs i hi hL E SC p q S T h t y ss r f past kk sl sv pd ln I hc hs K)
  | 15, _ => exact g_tableIn E 583 dL_law_32 (by decide) (by decide) rfl (by decide) (law_fault d x a b c e a5 sa L xs i hi hL E SC p q S T h t y ss r f past kk sl sv pd ln I hc hs K)
  | 16, _ => exact g_tableIn E 596 dL_law_32 (by decide) (by decide) rfl (by decide) (law_carryOut d x a b c e a5 sa L xs i hi hL E SC p q S T h t y ss r f past kk sl sv pd ln I hc hs K)
  | 17, _ => exact g_tableIn E 609 dL_law_32 (by decide) (by decide) rfl (by decide) (law_undo d x a b c e a5 sa L xs i hi hL E SC p q S T h t y ss r f past kk sl sv pd ln I hc hs K)
  | 18, _ => exact g_tableIn E 622 dL_law_32 (by decide) (by decide) rfl (by decide) (law_save d x a b c e a5 sa L xs i hi hL E SC p q S T h t y ss r f past kk sl sv pd ln I hc hs K)
  | 19, _ => exact g_tableIn E 645 dL_law_32 (by decide) (by decide) rfl (by decide) (law_restore d x a b c e a5 sa L xs i hi hL E SC p q S T h t y ss r f past kk sl sv pd ln I hc hs K)
  | k + 20, hk => exact g_tableOut E 668 dL_law_32 (Or.inr (by rw [nI_toInt (by omega)]; omega)) (by decide) (g_widen (k1 := cells + 6) (n1 := slots + 57) (Nat.le_add_right _ _) (Nat.le_add_right _ _) (K p q S T h t y ss r f past kk sl sv pd ln I))
set_option maxHeartbeats 4000000 in
set_option maxRecDepth 100000 in
theorem law_loop (d : gD) (x a b c e a5 : Nat → Nat) (sa L : Nat) (xs : Nat → Int32) (hL : L ≤ 2048) {X : gX} (E : gE d X RL cL_law 4 room_1) (SC : gScr X sa L xs) (FIN : ∀ (ws : va_W) (cells slots : Nat) (lv : List (Nat × Value)), cells ≤ 600000 → slots ≤ 7302250 → G d X ws cells slots 675 lv [.int 1]) (n : Nat) : ∀ (i : Nat) (p q : Nat → Nat → Nat) (S T : SS) (h t : Nat → Int32) (y : HS) (ss : Nat → Option SS) (r f past : Nat → Int32) (kk : Nat) (sl sv pd : Nat → Int32) (ln : Int32), i ≤ L → L - i < n → INV S h t y ss r past kk sl sv pd ln → G d X (XW d (x, a, b, c, e) p q S T h t y ss ++ MW d a5 (pr 0 r f) (past, nI kk, sl, sv, pd, ln)) (30 + 2 * i) (1000 + 15 * i) 18 [(0, .ref sa), (1, .ref (x 0)), (2, .ref (a5 0)), (3, .int (nI i))] [] := by
  induction n with
  | zero => intro i p q S T h t y ss r f past kk sl sv pd ln h1 h2; omega
  | succ n ih =>
    intro i p q S T h t y ss r f past kk sl sv pd ln h1 h2 I
    refine g_iload_n E 3 dL_law_18 rfl rfl ?_
    refine g_aload_n E 0 dL_law_19 rfl rfl ?_
    refine g_slen E SC dL_law_20 ?_
    refine g_iconst E 4 dL_law_21 (by decide) ?_
    refine g_isub E dL_law_22 ?_
    have e4 : (nI L - 4 : Int32).toInt = (L : Int) - 4 := by rw [ti_sub (by rw [nI_toInt (by omega), z4]; omega) (by rw [nI_toInt (by omega), z4]; omega), nI_toInt (by omega), z4]
    refine g_icmpgt E 674 dL_law_23 (by decide) (fun _ => ?_) (fun cq => ?_)
    · refine g_iconst E 1 dL_law_674 (by decide) ?_
      exact FIN _ _ _ _ (by omega) (by omega)
    · have cq' := nlt_iff.mp cq
      rw [e4, nI_toInt (by omega)] at cq'
      refine law_step d x a b c e a5 sa L xs i (by omega) hL E SC p q S T h t y ss r f past kk sl sv pd ln I (by omega) (by omega) (fun p q S T h t y ss r f past kk sl sv pd ln I' => ?_)
      refine g_iinc E (j := 3) (v := (nI (i + 4))) (lv' := [(3, .int (nI (i + 4))), (0, .ref sa), (1, .ref (x 0)), (2, .ref (a5 0))]) dL_law_668 rfl (nI_add i 4) (by decide) rfl ?_
      refine g_goto E 18 dL_law_671 (by decide) ?_
      refine g_lvs (lv' := [(0, .ref sa), (1, .ref (x 0)), (2, .ref (a5 0)), (3, .int (nI (i + 4)))]) [1, 2, 3, 0] rfl ?_
      refine g_widen (k1 := 30 + 2 * (i + 4)) (n1 := 1000 + 15 * (i + 4)) (by omega) (by omega) ?_
      exact ih (i + 4) p q S T h t y ss r f past kk sl sv pd ln (by omega) (by omega) I'

/-! the start: both sides say the same -/
theorem INV_0 : INV S0 (fun _ => 0) (fun _ => 0) (0, 0, fun _ => none) (fun _ => none) MS0 (fun _ => 0) 0 (fun _ => 0) (fun _ => 0) (fun _ => 0) 0 := by
  refine ⟨⟨⟨fun k hk => ?_, Or.inl ⟨rfl, rfl, rfl⟩, fun k hk => ?_, ?_, ?_, ?_, ⟨by decide, by decide, by decide, by decide⟩, 0, fun _ => 0, rfl, rfl, by omega, fun k hk => absurd hk (by omega), fun j k hj => absurd hj (by omega), fun m _ _ => ⟨rfl, rfl⟩, Or.inl ⟨rfl, rfl⟩, rfl⟩, by decide, rfl, by omega, fun i hi => absurd hi (by omega)⟩, fun i _ => Or.inl ⟨rfl, rfl⟩, rfl, by decide, by decide, fun j => chT_1 (a := 0) (by omega), fun j hj => absurd hj (by rw [z0]; omega)⟩
  · have hk2 : k < 22 := by omega
    have h : ∀ k, k < 22 → ((7 ≤ k ∧ k ≤ 9) ∨ (12 ≤ k ∧ k ≤ 21)) → S0.1 k = MS0 k := by decide +kernel
    exact h k hk2 hk
  · have h : ∀ k, k < 7 → S0.2.1 k = MS0 k := by decide +kernel
    exact h k hk
  · unfold rgS
    decide +kernel
  · unfold rgV
    decide +kernel
  · unfold rgT
    decide +kernel
set_option maxHeartbeats 4000000 in
set_option maxRecDepth 100000 in
theorem law_body (d : gD) (sa L : Nat) (xs : Nat → Int32) (hL : L ≤ 2048) {X : gX} (E : gE d X RL cL_law 4 room_1) (SC : gScr X sa L xs) (FIN : ∀ (ws : va_W) (cells slots : Nat) (lv : List (Nat × Value)), cells ≤ 600000 → slots ≤ 7302250 → G d X ws cells slots 675 lv [.int 1]) : G d X [] 0 0 0 [(0, .ref sa)] [] := by
  refine g_new E (T := TX4) (N := 5) (ci := 4) inlX4 tyX4 tyX4_ok cl_L_7 ib_RX4 it_RX4 rfl dfX4 dvX4 (ok_le rfl) (ok_le rfl) dL_law_0 (fun q0 _ => ?_)
  refine g_dup E dL_law_3 rfl ?_
  refine g_callIv E gc_X4_init ml_L_9 (t_X4_init d q0) rfl (wr := []) rfl rfl rfl (ok_le rfl) ⟨ok_le rfl, ok_le rfl, ok_le rfl, ok_le rfl⟩ rfl rfl dL_law_4 (fun u_ hp_ => ?_)
  obtain ⟨x, a, b, c, e, p, q, ex, rfl⟩ := hp_
  subst ex
  refine g_astore_n E (lv' := [(1, .ref (x 0)), (0, .ref sa)]) dL_law_7 rfl (by decide) rfl ?_
  refine g_new E (T := TX5) (N := 7) (ci := 5) inlX5 tyX5 tyX5_ok cl_L_10 ib_RX5 it_RX5 rfl dfX5 dvX5 (ok_le rfl) (ok_le rfl) dL_law_8 (fun q1 _ => ?_)
  refine g_dup E dL_law_11 rfl ?_
  refine g_perm List.perm_append_comm ?_
  refine g_callIv E gc_X5_init ml_L_12 (t_X5_init d q1) rfl rfl rfl rfl (ok_le rfl) ⟨ok_le rfl, ok_le rfl, ok_le rfl, ok_le rfl⟩ rfl rfl dL_law_12 (fun u_ hp_ => ?_)
  obtain ⟨a5, ea, rfl⟩ := hp_
  subst ea
  refine g_astore_n E (lv' := [(2, .ref (a5 0)), (1, .ref (x 0)), (0, .ref sa)]) dL_law_15 rfl (by decide) rfl ?_
  refine g_iconst E 0 dL_law_16 (by decide) ?_
  refine g_istore_n E (lv' := [(3, .int 0), (2, .ref (a5 0)), (1, .ref (x 0)), (0, .ref sa)]) dL_law_17 rfl (by decide) rfl ?_
  refine g_lvs (lv' := [(0, .ref sa), (1, .ref (x 0)), (2, .ref (a5 0)), (3, .int 0)]) [3, 2, 1, 0] rfl ?_
  rw [List.append_nil]
  refine g_perm List.perm_append_comm ?_
  refine g_widen (k1 := 30 + 2 * 0) (n1 := 1000 + 15 * 0) (ok_le rfl) (ok_le rfl) ?_
  exact law_loop d x a b c e a5 sa L xs hL E SC FIN (L + 1) 0 p q S0 S0 (fun _ => 0) (fun _ => 0) (0, 0, fun _ => none) (fun _ => none) MS0 MS0 (fun _ => 0) 0 (fun _ => 0) (fun _ => 0) (fun _ => 0) 0 (by omega) (by omega) INV_0
