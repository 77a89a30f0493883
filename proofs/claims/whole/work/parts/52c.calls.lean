set_option maxHeartbeats 4000000 in
set_option maxRecDepth 100000 in
theorem law_learnedIn (d : gD) (x a b c e a5 : Nat → Nat) (sa L : Nat) (xs : Nat → Int32) (i : Nat) (hi : i + 4 ≤ L) (hL : L ≤ 2048) {X : gX} (E : gE d X RL cL_law 4 room_1) (SC : gScr X sa L xs) (p q : Nat → Nat → Nat) (S T : SS) (h t : Nat → Int32) (y : HS) (ss : Nat → Option SS) (r f past : Nat → Int32) (kk : Nat) (sl sv pd : Nat → Int32) (ln : Int32) (I : INV S h t y ss r past kk sl sv pd ln) {cells slots : Nat} (hc : cells + 6 ≤ 600000) (hs : slots + 57 ≤ 7302250) (K : ∀ (p q : Nat → Nat → Nat) (S T : SS) (h t : Nat → Int32) (y : HS) (ss : Nat → Option SS) (r f past : Nat → Int32) (kk : Nat) (sl sv pd : Nat → Int32) (ln : Int32), INV S h t y ss r past kk sl sv pd ln → G d X (XW d (x, a, b, c, e) p q S T h t y ss ++ MW d a5 (pr 0 r f) (past, nI kk, sl, sv, pd, ln)) (cells + 6) (slots + 57) 668 [(0, .ref sa), (1, .ref (x 0)), (2, .ref (a5 0)), (3, .int (nI i))] []) : G d X (XW d (x, a, b, c, e) p q S T h t y ss ++ MW d a5 (pr 0 r f) (past, nI kk, sl, sv, pd, ln)) (cells) (slots) 418 [(0, .ref sa), (1, .ref (x 0)), (2, .ref (a5 0)), (3, .int (nI i))] [] := by
  have hy := I.hy
  have hkk := I.hkk
  have hu := I.hu
  have hl := I.hl
  have hln := I.hln
  have hT := I.hT
  have hSH := RS_SH I.1.1
  obtain ⟨hs0, hz, hc4, nd, hd⟩ := hSH
  have hSH := RS_SH I.1.1
  have hc' : cells ≤ 600000 := Nat.le_of_add_right_le hc
  have hs' : slots ≤ 7302250 := Nat.le_of_add_right_le hs
  have H1 := learnedIn_sim T I.1.1 (xs (i + 1)) (xs (i + 2)) f
  have hall : ¬ r_X5_areRight (xs (i + 1)) (xs (i + 2)) = 0 → ∀ j, j ≤ 501 → SH (it (xs (i + 1)) (xs (i + 2)) j r) := fun q => it_SH I.1.1 (right_P q) (by omega)
  refine g_aload_n E 1 dL_law_418 rfl rfl ?_
  refine g_aload_n E 0 dL_law_419 rfl rfl ?_
  refine g_iload_n E 3 dL_law_420 rfl rfl ?_
  refine g_iconst E 1 dL_law_421 (by decide) ?_
  refine g_iadd E dL_law_422 ?_
  refine g_top (nI_add i 1) ?_
  refine g_sld E SC (i + 1) rfl (by omega) hL dL_law_423 ?_
  refine g_aload_n E 0 dL_law_424 rfl rfl ?_
  refine g_iload_n E 3 dL_law_425 rfl rfl ?_
  refine g_iconst E 2 dL_law_426 (by decide) ?_
  refine g_iadd E dL_law_427 ?_
  refine g_top (nI_add i 2) ?_
  refine g_sld E SC (i + 2) rfl (by omega) hL dL_law_428 ?_
  refine g_callViD E gc_X4_learnedIn ml_L_57 (t_X4_learnedIn d x a b c e (xs (i + 1)) (xs (i + 2)) p q S T h t y ss hu) rfl rfl (ci := 4) 0 rfl rfl rfl rfl (ok_le rfl) ⟨ok_le rfl, ok_le rfl, hc', hs'⟩ (c2 := cells) (n2 := slots) rfl rfl dL_law_429 ?_
  refine g_widen (k1 := cells + 6) (n1 := slots + 57) (Nat.le_add_right _ _) (Nat.le_add_right _ _) ?_
  refine g_perm List.perm_append_comm ?_
  refine g_aload_n E 2 dL_law_432 rfl rfl ?_
  refine g_aload_n E 0 dL_law_433 rfl rfl ?_
  refine g_iload_n E 3 dL_law_434 rfl rfl ?_
  refine g_iconst E 1 dL_law_435 (by decide) ?_
  refine g_iadd E dL_law_436 ?_
  refine g_top (nI_add i 1) ?_
  refine g_sld E SC (i + 1) rfl (by omega) hL dL_law_437 ?_
  refine g_aload_n E 0 dL_law_438 rfl rfl ?_
  refine g_iload_n E 3 dL_law_439 rfl rfl ?_
  refine g_iconst E 2 dL_law_440 (by decide) ?_
  refine g_iadd E dL_law_441 ?_
  refine g_top (nI_add i 2) ?_
  refine g_sld E SC (i + 2) rfl (by omega) hL dL_law_442 ?_
  refine g_callViD E gc_X5_learnedIn ml_L_60 (t_X5_learnedIn d a5 (xs (i + 1)) (xs (i + 2)) r f (past, nI kk, sl, sv, pd, ln) hall) rfl rfl (ci := 5) 0 rfl rfl rfl rfl (ok_le rfl) ⟨ok_le rfl, ok_le rfl, hc, hs⟩ (c2 := cells + 6) (n2 := slots + 57) rfl rfl dL_law_443 ?_
  refine g_perm List.perm_append_comm ?_
  refine g_icmpeq E 668 dL_law_446 (by decide) (fun _ => ?_) (fun ne => absurd H1 ne)
  exact K _ _ _ _ _ _ _ _ _ _ _ _ _ _ _ _ I
set_option maxHeartbeats 4000000 in
set_option maxRecDepth 100000 in
theorem law_edge (d : gD) (x a b c e a5 : Nat → Nat) (sa L : Nat) (xs : Nat → Int32) (i : Nat) (hi : i + 4 ≤ L) (hL : L ≤ 2048) {X : gX} (E : gE d X RL cL_law 4 room_1) (SC : gScr X sa L xs) (p q : Nat → Nat → Nat) (S T : SS) (h t : Nat → Int32) (y : HS) (ss : Nat → Option SS) (r f past : Nat → Int32) (kk : Nat) (sl sv pd : Nat → Int32) (ln : Int32) (I : INV S h t y ss r past kk sl sv pd ln) {cells slots : Nat} (hc : cells + 6 ≤ 600000) (hs : slots + 57 ≤ 7302250) (K : ∀ (p q : Nat → Nat → Nat) (S T : SS) (h t : Nat → Int32) (y : HS) (ss : Nat → Option SS) (r f past : Nat → Int32) (kk : Nat) (sl sv pd : Nat → Int32) (ln : Int32), INV S h t y ss r past kk sl sv pd ln → G d X (XW d (x, a, b, c, e) p q S T h t y ss ++ MW d a5 (pr 0 r f) (past, nI kk, sl, sv, pd, ln)) (cells + 6) (slots + 57) 668 [(0, .ref sa), (1, .ref (x 0)), (2, .ref (a5 0)), (3, .int (nI i))] []) : G d X (XW d (x, a, b, c, e) p q S T h t y ss ++ MW d a5 (pr 0 r f) (past, nI kk, sl, sv, pd, ln)) (cells) (slots) 451 [(0, .ref sa), (1, .ref (x 0)), (2, .ref (a5 0)), (3, .int (nI i))] [] := by
  have hy := I.hy
  have hkk := I.hkk
  have hu := I.hu
  have hl := I.hl
  have hln := I.hln
  have hT := I.hT
  have hSH := RS_SH I.1.1
  obtain ⟨hs0, hz, hc4, nd, hd⟩ := hSH
  have hSH := RS_SH I.1.1
  have hc' : cells ≤ 600000 := Nat.le_of_add_right_le hc
  have hs' : slots ≤ 7302250 := Nat.le_of_add_right_le hs
  have H1 := edge_sim I.1.1 (xs (i + 1)) (xs (i + 2)) f
  refine g_aload_n E 1 dL_law_451 rfl rfl ?_
  refine g_aload_n E 0 dL_law_452 rfl rfl ?_
  refine g_iload_n E 3 dL_law_453 rfl rfl ?_
  refine g_iconst E 1 dL_law_454 (by decide) ?_
  refine g_iadd E dL_law_455 ?_
  refine g_top (nI_add i 1) ?_
  refine g_sld E SC (i + 1) rfl (by omega) hL dL_law_456 ?_
  refine g_aload_n E 0 dL_law_457 rfl rfl ?_
  refine g_iload_n E 3 dL_law_458 rfl rfl ?_
  refine g_iconst E 2 dL_law_459 (by decide) ?_
  refine g_iadd E dL_law_460 ?_
  refine g_top (nI_add i 2) ?_
  refine g_sld E SC (i + 2) rfl (by omega) hL dL_law_461 ?_
  refine g_callViD E gc_X4_edge ml_L_61 (t_X4_edge d x a b c e (xs (i + 1)) (xs (i + 2)) p q S T h t y ss ) rfl rfl (ci := 4) 0 rfl rfl rfl rfl (ok_le rfl) ⟨ok_le rfl, ok_le rfl, hc', hs'⟩ (c2 := cells) (n2 := slots) rfl rfl dL_law_462 ?_
  refine g_widen (k1 := cells + 6) (n1 := slots + 57) (Nat.le_add_right _ _) (Nat.le_add_right _ _) ?_
  refine g_perm List.perm_append_comm ?_
  refine g_aload_n E 2 dL_law_465 rfl rfl ?_
  refine g_aload_n E 0 dL_law_466 rfl rfl ?_
  refine g_iload_n E 3 dL_law_467 rfl rfl ?_
  refine g_iconst E 1 dL_law_468 (by decide) ?_
  refine g_iadd E dL_law_469 ?_
  refine g_top (nI_add i 1) ?_
  refine g_sld E SC (i + 1) rfl (by omega) hL dL_law_470 ?_
  refine g_aload_n E 0 dL_law_471 rfl rfl ?_
  refine g_iload_n E 3 dL_law_472 rfl rfl ?_
  refine g_iconst E 2 dL_law_473 (by decide) ?_
  refine g_iadd E dL_law_474 ?_
  refine g_top (nI_add i 2) ?_
  refine g_sld E SC (i + 2) rfl (by omega) hL dL_law_475 ?_
  refine g_callViD E gc_X5_edge ml_L_64 (t_X5_edge d a5 (xs (i + 1)) (xs (i + 2)) r f (past, nI kk, sl, sv, pd, ln) hSH) rfl rfl (ci := 5) 0 rfl rfl rfl rfl (ok_le rfl) ⟨ok_le rfl, ok_le rfl, hc, hs⟩ (c2 := cells + 6) (n2 := slots + 57) rfl rfl dL_law_476 ?_
  refine g_perm List.perm_append_comm ?_
  refine g_icmpeq E 668 dL_law_479 (by decide) (fun _ => ?_) (fun ne => absurd H1 ne)
  exact K _ _ _ _ _ _ _ _ _ _ _ _ _ _ _ _ I
set_option maxHeartbeats 4000000 in
set_option maxRecDepth 100000 in
theorem law_driftsIn (d : gD) (x a b c e a5 : Nat → Nat) (sa L : Nat) (xs : Nat → Int32) (i : Nat) (hi : i + 4 ≤ L) (hL : L ≤ 2048) {X : gX} (E : gE d X RL cL_law 4 room_1) (SC : gScr X sa L xs) (p q : Nat → Nat → Nat) (S T : SS) (h t : Nat → Int32) (y : HS) (ss : Nat → Option SS) (r f past : Nat → Int32) (kk : Nat) (sl sv pd : Nat → Int32) (ln : Int32) (I : INV S h t y ss r past kk sl sv pd ln) {cells slots : Nat} (hc : cells + 6 ≤ 600000) (hs : slots + 57 ≤ 7302250) (K : ∀ (p q : Nat → Nat → Nat) (S T : SS) (h t : Nat → Int32) (y : HS) (ss : Nat → Option SS) (r f past : Nat → Int32) (kk : Nat) (sl sv pd : Nat → Int32) (ln : Int32), INV S h t y ss r past kk sl sv pd ln → G d X (XW d (x, a, b, c, e) p q S T h t y ss ++ MW d a5 (pr 0 r f) (past, nI kk, sl, sv, pd, ln)) (cells + 6) (slots + 57) 668 [(0, .ref sa), (1, .ref (x 0)), (2, .ref (a5 0)), (3, .int (nI i))] []) : G d X (XW d (x, a, b, c, e) p q S T h t y ss ++ MW d a5 (pr 0 r f) (past, nI kk, sl, sv, pd, ln)) (cells) (slots) 484 [(0, .ref sa), (1, .ref (x 0)), (2, .ref (a5 0)), (3, .int (nI i))] [] := by
  have hy := I.hy
  have hkk := I.hkk
  have hu := I.hu
  have hl := I.hl
  have hln := I.hln
  have hT := I.hT
  have hSH := RS_SH I.1.1
  obtain ⟨hs0, hz, hc4, nd, hd⟩ := hSH
  have hSH := RS_SH I.1.1
  have hc' : cells ≤ 600000 := Nat.le_of_add_right_le hc
  have hs' : slots ≤ 7302250 := Nat.le_of_add_right_le hs
  have H1 := driftsIn_sim T I.1.1 (xs (i + 1)) (xs (i + 2)) f
  have hall : ¬ r_X5_areRight (xs (i + 1)) (xs (i + 2)) = 0 → ∀ j, j ≤ 501 → SH (it (xs (i + 1)) (xs (i + 2)) j r) := fun q => it_SH I.1.1 (right_P q) (by omega)
  refine g_aload_n E 1 dL_law_484 rfl rfl ?_
  refine g_aload_n E 0 dL_law_485 rfl rfl ?_
  refine g_iload_n E 3 dL_law_486 rfl rfl ?_
  refine g_iconst E 1 dL_law_487 (by decide) ?_
  refine g_iadd E dL_law_488 ?_
  refine g_top (nI_add i 1) ?_
  refine g_sld E SC (i + 1) rfl (by omega) hL dL_law_489 ?_
  refine g_aload_n E 0 dL_law_490 rfl rfl ?_
  refine g_iload_n E 3 dL_law_491 rfl rfl ?_
  refine g_iconst E 2 dL_law_492 (by decide) ?_
  refine g_iadd E dL_law_493 ?_
  refine g_top (nI_add i 2) ?_
  refine g_sld E SC (i + 2) rfl (by omega) hL dL_law_494 ?_
  refine g_callViD E gc_X4_driftsIn ml_L_65 (t_X4_driftsIn d x a b c e (xs (i + 1)) (xs (i + 2)) p q S T h t y ss hu) rfl rfl (ci := 4) 0 rfl rfl rfl rfl (ok_le rfl) ⟨ok_le rfl, ok_le rfl, hc', hs'⟩ (c2 := cells) (n2 := slots) rfl rfl dL_law_495 ?_
  refine g_widen (k1 := cells + 6) (n1 := slots + 57) (Nat.le_add_right _ _) (Nat.le_add_right _ _) ?_
  refine g_perm List.perm_append_comm ?_
  refine g_aload_n E 2 dL_law_498 rfl rfl ?_
  refine g_aload_n E 0 dL_law_499 rfl rfl ?_
  refine g_iload_n E 3 dL_law_500 rfl rfl ?_
  refine g_iconst E 1 dL_law_501 (by decide) ?_
  refine g_iadd E dL_law_502 ?_
  refine g_top (nI_add i 1) ?_
  refine g_sld E SC (i + 1) rfl (by omega) hL dL_law_503 ?_
  refine g_aload_n E 0 dL_law_504 rfl rfl ?_
  refine g_iload_n E 3 dL_law_505 rfl rfl ?_
  refine g_iconst E 2 dL_law_506 (by decide) ?_
  refine g_iadd E dL_law_507 ?_
  refine g_top (nI_add i 2) ?_
  refine g_sld E SC (i + 2) rfl (by omega) hL dL_law_508 ?_
  refine g_callViD E gc_X5_driftsIn ml_L_68 (t_X5_driftsIn d a5 (xs (i + 1)) (xs (i + 2)) r f (past, nI kk, sl, sv, pd, ln) hall) rfl rfl (ci := 5) 0 rfl rfl rfl rfl (ok_le rfl) ⟨ok_le rfl, ok_le rfl, hc, hs⟩ (c2 := cells + 6) (n2 := slots + 57) rfl rfl dL_law_509 ?_
  refine g_perm List.perm_append_comm ?_
  refine g_icmpeq E 668 dL_law_512 (by decide) (fun _ => ?_) (fun ne => absurd H1 ne)
  exact K _ _ _ _ _ _ _ _ _ _ _ _ _ _ _ _ I
set_option maxHeartbeats 4000000 in
set_option maxRecDepth 100000 in
theorem law_put (d : gD) (x a b c e a5 : Nat → Nat) (sa L : Nat) (xs : Nat → Int32) (i : Nat) (hi : i + 4 ≤ L) (hL : L ≤ 2048) {X : gX} (E : gE d X RL cL_law 4 room_1) (SC : gScr X sa L xs) (p q : Nat → Nat → Nat) (S T : SS) (h t : Nat → Int32) (y : HS) (ss : Nat → Option SS) (r f past : Nat → Int32) (kk : Nat) (sl sv pd : Nat → Int32) (ln : Int32) (I : INV S h t y ss r past kk sl sv pd ln) {cells slots : Nat} (hc : cells + 6 ≤ 600000) (hs : slots + 57 ≤ 7302250) (K : ∀ (p q : Nat → Nat → Nat) (S T : SS) (h t : Nat → Int32) (y : HS) (ss : Nat → Option SS) (r f past : Nat → Int32) (kk : Nat) (sl sv pd : Nat → Int32) (ln : Int32), INV S h t y ss r past kk sl sv pd ln → G d X (XW d (x, a, b, c, e) p q S T h t y ss ++ MW d a5 (pr 0 r f) (past, nI kk, sl, sv, pd, ln)) (cells + 6) (slots + 57) 668 [(0, .ref sa), (1, .ref (x 0)), (2, .ref (a5 0)), (3, .int (nI i))] []) : G d X (XW d (x, a, b, c, e) p q S T h t y ss ++ MW d a5 (pr 0 r f) (past, nI kk, sl, sv, pd, ln)) (cells) (slots) 517 [(0, .ref sa), (1, .ref (x 0)), (2, .ref (a5 0)), (3, .int (nI i))] [] := by
  have hy := I.hy
  have hkk := I.hkk
  have hu := I.hu
  have hl := I.hl
  have hln := I.hln
  have hT := I.hT
  have hSH := RS_SH I.1.1
  obtain ⟨hs0, hz, hc4, nd, hd⟩ := hSH
  have hSH := RS_SH I.1.1
  have hc' : cells ≤ 600000 := Nat.le_of_add_right_le hc
  have hs' : slots ≤ 7302250 := Nat.le_of_add_right_le hs
  obtain ⟨H1, H2, H3⟩ := put_sim I.2.2.2 I.2.2.1 (((xs (i + 1)).toInt64 <<< ((32 : Int32).toInt64 &&& 63)) ||| ((xs (i + 2)).toInt64 &&& 4294967295))
  refine g_aload_n E 1 dL_law_517 rfl rfl ?_
  refine g_aload_n E 0 dL_law_518 rfl rfl ?_
  refine g_iload_n E 3 dL_law_519 rfl rfl ?_
  refine g_iconst E 1 dL_law_520 (by decide) ?_
  refine g_iadd E dL_law_521 ?_
  refine g_top (nI_add i 1) ?_
  refine g_sld E SC (i + 1) rfl (by omega) hL dL_law_522 ?_
  refine g_i2l E dL_law_523 ?_
  refine g_bipush E 32 dL_law_524 (by decide) ?_
  refine g_lshl E dL_law_526 ?_
  refine g_aload_n E 0 dL_law_527 rfl rfl ?_
  refine g_iload_n E 3 dL_law_528 rfl rfl ?_
  refine g_iconst E 2 dL_law_529 (by decide) ?_
  refine g_iadd E dL_law_530 ?_
  refine g_top (nI_add i 2) ?_
  refine g_sld E SC (i + 2) rfl (by omega) hL dL_law_531 ?_
  refine g_i2l E dL_law_532 ?_
  refine g_ldc2 E kl_L_69 dL_law_533 ?_
  refine g_land E dL_law_536 ?_
  refine g_lor E dL_law_537 ?_
  refine g_callViD E gc_X4_put ml_L_71 (t_X4_put d x a b c e (((xs (i + 1)).toInt64 <<< ((32 : Int32).toInt64 &&& 63)) ||| ((xs (i + 2)).toInt64 &&& 4294967295)) p q S T h t y ss hl) rfl rfl (ci := 4) 0 rfl rfl rfl rfl (ok_le rfl) ⟨ok_le rfl, ok_le rfl, hc', hs'⟩ (c2 := cells) (n2 := slots) rfl rfl dL_law_538 ?_
  refine g_widen (k1 := cells + 6) (n1 := slots + 57) (Nat.le_add_right _ _) (Nat.le_add_right _ _) ?_
  refine g_perm List.perm_append_comm ?_
  refine g_aload_n E 2 dL_law_541 rfl rfl ?_
  refine g_aload_n E 0 dL_law_542 rfl rfl ?_
  refine g_iload_n E 3 dL_law_543 rfl rfl ?_
  refine g_iconst E 1 dL_law_544 (by decide) ?_
  refine g_iadd E dL_law_545 ?_
  refine g_top (nI_add i 1) ?_
  refine g_sld E SC (i + 1) rfl (by omega) hL dL_law_546 ?_
  refine g_i2l E dL_law_547 ?_
  refine g_bipush E 32 dL_law_548 (by decide) ?_
  refine g_lshl E dL_law_550 ?_
  refine g_aload_n E 0 dL_law_551 rfl rfl ?_
  refine g_iload_n E 3 dL_law_552 rfl rfl ?_
  refine g_iconst E 2 dL_law_553 (by decide) ?_
  refine g_iadd E dL_law_554 ?_
  refine g_top (nI_add i 2) ?_
  refine g_sld E SC (i + 2) rfl (by omega) hL dL_law_555 ?_
  refine g_i2l E dL_law_556 ?_
  refine g_ldc2 E kl_L_69 dL_law_557 ?_
  refine g_land E dL_law_560 ?_
  refine g_lor E dL_law_561 ?_
  refine g_callViD E gc_X5_put ml_L_75 (t_X5_put d a5 (((xs (i + 1)).toInt64 <<< ((32 : Int32).toInt64 &&& 63)) ||| ((xs (i + 2)).toInt64 &&& 4294967295)) (pr 0 r f) past (nI kk) sl sv pd ln hln) rfl rfl (ci := 5) 0 rfl rfl rfl rfl (ok_le rfl) ⟨ok_le rfl, ok_le rfl, hc, hs⟩ (c2 := cells + 6) (n2 := slots + 57) rfl rfl dL_law_562 ?_
  refine g_perm List.perm_append_comm ?_
  refine g_icmpeq E 668 dL_law_565 (by decide) (fun _ => ?_) (fun ne => absurd H1 ne)
  exact K _ _ _ _ _ _ _ _ _ _ _ _ _ _ _ _ ⟨I.1, I.2.1, H2, H3⟩
set_option maxHeartbeats 4000000 in
set_option maxRecDepth 100000 in
theorem law_wipe (d : gD) (x a b c e a5 : Nat → Nat) (sa L : Nat) (xs : Nat → Int32) (i : Nat) (hi : i + 4 ≤ L) (hL : L ≤ 2048) {X : gX} (E : gE d X RL cL_law 4 room_1) (SC : gScr X sa L xs) (p q : Nat → Nat → Nat) (S T : SS) (h t : Nat → Int32) (y : HS) (ss : Nat → Option SS) (r f past : Nat → Int32) (kk : Nat) (sl sv pd : Nat → Int32) (ln : Int32) (I : INV S h t y ss r past kk sl sv pd ln) {cells slots : Nat} (hc : cells + 6 ≤ 600000) (hs : slots + 57 ≤ 7302250) (K : ∀ (p q : Nat → Nat → Nat) (S T : SS) (h t : Nat → Int32) (y : HS) (ss : Nat → Option SS) (r f past : Nat → Int32) (kk : Nat) (sl sv pd : Nat → Int32) (ln : Int32), INV S h t y ss r past kk sl sv pd ln → G d X (XW d (x, a, b, c, e) p q S T h t y ss ++ MW d a5 (pr 0 r f) (past, nI kk, sl, sv, pd, ln)) (cells + 6) (slots + 57) 668 [(0, .ref sa), (1, .ref (x 0)), (2, .ref (a5 0)), (3, .int (nI i))] []) : G d X (XW d (x, a, b, c, e) p q S T h t y ss ++ MW d a5 (pr 0 r f) (past, nI kk, sl, sv, pd, ln)) (cells) (slots) 570 [(0, .ref sa), (1, .ref (x 0)), (2, .ref (a5 0)), (3, .int (nI i))] [] := by
  have hy := I.hy
  have hkk := I.hkk
  have hu := I.hu
  have hl := I.hl
  have hln := I.hln
  have hT := I.hT
  have hSH := RS_SH I.1.1
  obtain ⟨hs0, hz, hc4, nd, hd⟩ := hSH
  have hSH := RS_SH I.1.1
  have hc' : cells ≤ 600000 := Nat.le_of_add_right_le hc
  have hs' : slots ≤ 7302250 := Nat.le_of_add_right_le hs
  have H1 : r_X4_wipe h t = r_X5_wipe ln := I.2.2.1
  refine g_aload_n E 1 dL_law_570 rfl rfl ?_
  refine g_callViD E gc_X4_wipe ml_L_76 (t_X4_wipe d x a b c e p q S T h t y ss ) rfl rfl (ci := 4) 0 rfl rfl rfl rfl (ok_le rfl) ⟨ok_le rfl, ok_le rfl, hc', hs'⟩ (c2 := cells) (n2 := slots) rfl rfl dL_law_571 ?_
  refine g_widen (k1 := cells + 6) (n1 := slots + 57) (Nat.le_add_right _ _) (Nat.le_add_right _ _) ?_
  refine g_perm List.perm_append_comm ?_
  refine g_aload_n E 2 dL_law_574 rfl rfl ?_
  refine g_callViD E gc_X5_wipe ml_L_79 (t_X5_wipe d a5 (pr 0 r f) past (nI kk) sl sv pd ln) rfl rfl (ci := 5) 0 rfl rfl rfl rfl (ok_le rfl) ⟨ok_le rfl, ok_le rfl, hc, hs⟩ (c2 := cells + 6) (n2 := slots + 57) rfl rfl dL_law_575 ?_
  refine g_perm List.perm_append_comm ?_
  refine g_icmpeq E 668 dL_law_578 (by decide) (fun _ => ?_) (fun ne => absurd H1 ne)
  exact K _ _ _ _ _ _ _ _ _ _ _ _ _ _ _ _ ⟨I.1, I.2.1, rfl, TR_0 I.2.2.2⟩
