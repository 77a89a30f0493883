set_option maxHeartbeats 4000000 in
set_option maxRecDepth 100000 in
theorem law_fault (d : gD) (x a b c e a5 : Nat → Nat) (sa L : Nat) (xs : Nat → Int32) (i : Nat) (hi : i + 4 ≤ L) (hL : L ≤ 2048) {X : gX} (E : gE d X RL cL_law 4 room_1) (SC : gScr X sa L xs) (p q : Nat → Nat → Nat) (S T : SS) (h t : Nat → Int32) (y : HS) (ss : Nat → Option SS) (r f past : Nat → Int32) (kk : Nat) (sl sv pd : Nat → Int32) (ln : Int32) (I : INV S h t y ss r past kk sl sv pd ln) {cells slots : Nat} (hc : cells + 6 ≤ 600000) (hs : slots + 57 ≤ 7302250) (K : ∀ (p q : Nat → Nat → Nat) (S T : SS) (h t : Nat → Int32) (y : HS) (ss : Nat → Option SS) (r f past : Nat → Int32) (kk : Nat) (sl sv pd : Nat → Int32) (ln : Int32), INV S h t y ss r past kk sl sv pd ln → G d X (XW d (x, a, b, c, e) p q S T h t y ss ++ MW d a5 (pr 0 r f) (past, nI kk, sl, sv, pd, ln)) (cells + 6) (slots + 57) 668 [(0, .ref sa), (1, .ref (x 0)), (2, .ref (a5 0)), (3, .int (nI i))] []) : G d X (XW d (x, a, b, c, e) p q S T h t y ss ++ MW d a5 (pr 0 r f) (past, nI kk, sl, sv, pd, ln)) (cells) (slots) 583 [(0, .ref sa), (1, .ref (x 0)), (2, .ref (a5 0)), (3, .int (nI i))] [] := by
  have hy := I.hy
  have hkk := I.hkk
  have hu := I.hu
  have hl := I.hl
  have hln := I.hln
  have hT := I.hT
  have hSH := RS_SH I.1.1
  obtain ⟨hs0, hz, hc4, nd, hd⟩ := hSH
  have hSH := RS_SH I.1.1
  have hc' : cells ≤ 600000 := Nat.le_of_add_right_le hc
  have hs' : slots ≤ 7302250 := Nat.le_of_add_right_le hs
  obtain ⟨H1, H2⟩ := fault_sim I.2.2.2 I.2.2.1
  refine g_aload_n E 1 dL_law_583 rfl rfl ?_
  refine g_callViD E gc_X4_fault ml_L_80 (t_X4_fault d x a b c e p q S T h t y ss hT) rfl rfl (ci := 4) 0 rfl rfl rfl rfl (ok_le rfl) ⟨ok_le rfl, ok_le rfl, hc', hs'⟩ (c2 := cells) (n2 := slots) rfl rfl dL_law_584 ?_
  refine g_widen (k1 := cells + 6) (n1 := slots + 57) (Nat.le_add_right _ _) (Nat.le_add_right _ _) ?_
  refine g_perm List.perm_append_comm ?_
  refine g_aload_n E 2 dL_law_587 rfl rfl ?_
  refine g_callViD E gc_X5_fault ml_L_83 (t_X5_fault d a5 (pr 0 r f) past (nI kk) sl sv pd ln hln.2) rfl rfl (ci := 5) 0 rfl rfl rfl rfl (ok_le rfl) ⟨ok_le rfl, ok_le rfl, hc, hs⟩ (c2 := cells + 6) (n2 := slots + 57) rfl rfl dL_law_588 ?_
  refine g_perm List.perm_append_comm ?_
  refine g_icmpeq E 668 dL_law_591 (by decide) (fun _ => ?_) (fun ne => absurd H1 ne)
  exact K _ _ _ _ _ _ _ _ _ _ _ _ _ _ _ _ ⟨I.1, I.2.1, H2, I.2.2.2⟩
set_option maxHeartbeats 4000000 in
set_option maxRecDepth 100000 in
theorem law_carryOut (d : gD) (x a b c e a5 : Nat → Nat) (sa L : Nat) (xs : Nat → Int32) (i : Nat) (hi : i + 4 ≤ L) (hL : L ≤ 2048) {X : gX} (E : gE d X RL cL_law 4 room_1) (SC : gScr X sa L xs) (p q : Nat → Nat → Nat) (S T : SS) (h t : Nat → Int32) (y : HS) (ss : Nat → Option SS) (r f past : Nat → Int32) (kk : Nat) (sl sv pd : Nat → Int32) (ln : Int32) (I : INV S h t y ss r past kk sl sv pd ln) {cells slots : Nat} (hc : cells + 6 ≤ 600000) (hs : slots + 57 ≤ 7302250) (K : ∀ (p q : Nat → Nat → Nat) (S T : SS) (h t : Nat → Int32) (y : HS) (ss : Nat → Option SS) (r f past : Nat → Int32) (kk : Nat) (sl sv pd : Nat → Int32) (ln : Int32), INV S h t y ss r past kk sl sv pd ln → G d X (XW d (x, a, b, c, e) p q S T h t y ss ++ MW d a5 (pr 0 r f) (past, nI kk, sl, sv, pd, ln)) (cells + 6) (slots + 57) 668 [(0, .ref sa), (1, .ref (x 0)), (2, .ref (a5 0)), (3, .int (nI i))] []) : G d X (XW d (x, a, b, c, e) p q S T h t y ss ++ MW d a5 (pr 0 r f) (past, nI kk, sl, sv, pd, ln)) (cells) (slots) 596 [(0, .ref sa), (1, .ref (x 0)), (2, .ref (a5 0)), (3, .int (nI i))] [] := by
  have hy := I.hy
  have hkk := I.hkk
  have hu := I.hu
  have hl := I.hl
  have hln := I.hln
  have hT := I.hT
  have hSH := RS_SH I.1.1
  obtain ⟨hs0, hz, hc4, nd, hd⟩ := hSH
  have hSH := RS_SH I.1.1
  have hc' : cells ≤ 600000 := Nat.le_of_add_right_le hc
  have hs' : slots ≤ 7302250 := Nat.le_of_add_right_le hs
  obtain ⟨H1, H4, H5, k1, H2, H3⟩ := carry_sim I.1 I.2.2.2 I.2.2.1
  refine g_aload_n E 1 dL_law_596 rfl rfl ?_
  refine g_callVi E gc_X4_carryOut ml_L_84 (t_X4_carryOut d x a b c e p q S T h t y ss hy hu hT (t9 t)) rfl rfl (ci := 4) 0 rfl rfl rfl rfl (ok_le rfl) ⟨ok_le rfl, ok_le rfl, hc, hs⟩ (c2 := cells + 6) (n2 := slots + 57) rfl rfl dL_law_597 (fun r_ u_ hp_ => ?_)
  obtain ⟨rfl, p1, rfl⟩ := hp_
  refine g_perm List.perm_append_comm ?_
  refine g_aload_n E 2 dL_law_600 rfl rfl ?_
  refine g_callViD E gc_X5_carryOut ml_L_87 (t_X5_carryOut d a5 r f past kk sl sv pd ln JR hkk hln.2 ⟨S, I.1.1⟩ JR_SH (JR_c pd ln)) rfl rfl (ci := 5) 0 rfl rfl rfl rfl (ok_le rfl) ⟨ok_le rfl, ok_le rfl, hc, hs⟩ (c2 := cells + 6) (n2 := slots + 57) rfl rfl dL_law_601 ?_
  refine g_perm List.perm_append_comm ?_
  rw [H2]
  refine g_icmpeq E 668 dL_law_604 (by decide) (fun _ => ?_) (fun ne => absurd H1 ne)
  exact K _ _ _ _ _ _ _ _ _ _ _ _ _ _ _ _ ⟨H3, I.2.1, H4, TR_or H5 I.2.2.2⟩
set_option maxHeartbeats 4000000 in
set_option maxRecDepth 100000 in
theorem law_undo (d : gD) (x a b c e a5 : Nat → Nat) (sa L : Nat) (xs : Nat → Int32) (i : Nat) (hi : i + 4 ≤ L) (hL : L ≤ 2048) {X : gX} (E : gE d X RL cL_law 4 room_1) (SC : gScr X sa L xs) (p q : Nat → Nat → Nat) (S T : SS) (h t : Nat → Int32) (y : HS) (ss : Nat → Option SS) (r f past : Nat → Int32) (kk : Nat) (sl sv pd : Nat → Int32) (ln : Int32) (I : INV S h t y ss r past kk sl sv pd ln) {cells slots : Nat} (hc : cells + 6 ≤ 600000) (hs : slots + 57 ≤ 7302250) (K : ∀ (p q : Nat → Nat → Nat) (S T : SS) (h t : Nat → Int32) (y : HS) (ss : Nat → Option SS) (r f past : Nat → Int32) (kk : Nat) (sl sv pd : Nat → Int32) (ln : Int32), INV S h t y ss r past kk sl sv pd ln → G d X (XW d (x, a, b, c, e) p q S T h t y ss ++ MW d a5 (pr 0 r f) (past, nI kk, sl, sv, pd, ln)) (cells + 6) (slots + 57) 668 [(0, .ref sa), (1, .ref (x 0)), (2, .ref (a5 0)), (3, .int (nI i))] []) : G d X (XW d (x, a, b, c, e) p q S T h t y ss ++ MW d a5 (pr 0 r f) (past, nI kk, sl, sv, pd, ln)) (cells) (slots) 609 [(0, .ref sa), (1, .ref (x 0)), (2, .ref (a5 0)), (3, .int (nI i))] [] := by
  have hy := I.hy
  have hkk := I.hkk
  have hu := I.hu
  have hl := I.hl
  have hln := I.hln
  have hT := I.hT
  have hSH := RS_SH I.1.1
  obtain ⟨hs0, hz, hc4, nd, hd⟩ := hSH
  have hSH := RS_SH I.1.1
  have hc' : cells ≤ 600000 := Nat.le_of_add_right_le hc
  have hs' : slots ≤ 7302250 := Nat.le_of_add_right_le hs
  obtain ⟨H1, H3⟩ := undo_sim I.1
  refine g_aload_n E 1 dL_law_609 rfl rfl ?_
  refine g_callViD E gc_X4_undo ml_L_88 (t_X4_undo d x a b c e p q S T h t y ss hy) rfl rfl (ci := 4) 0 rfl rfl rfl rfl (ok_le rfl) ⟨ok_le rfl, ok_le rfl, hc', hs'⟩ (c2 := cells) (n2 := slots) rfl rfl dL_law_610 ?_
  refine g_widen (k1 := cells + 6) (n1 := slots + 57) (Nat.le_add_right _ _) (Nat.le_add_right _ _) ?_
  refine g_perm List.perm_append_comm ?_
  refine g_aload_n E 2 dL_law_613 rfl rfl ?_
  refine g_callViD E gc_X5_undo ml_L_91 (t2_X5_undo d a5 r f past kk sl sv pd ln hkk) rfl rfl (ci := 5) 0 rfl rfl rfl rfl (ok_le rfl) ⟨ok_le rfl, ok_le rfl, hc, hs⟩ (c2 := cells + 6) (n2 := slots + 57) rfl rfl dL_law_614 ?_
  refine g_perm List.perm_append_comm ?_
  refine g_icmpeq E 668 dL_law_617 (by decide) (fun _ => ?_) (fun ne => absurd H1 ne)
  exact K _ _ _ _ _ _ _ _ _ _ _ _ _ _ _ _ ⟨H3, I.2⟩
set_option maxHeartbeats 4000000 in
set_option maxRecDepth 100000 in
theorem law_save (d : gD) (x a b c e a5 : Nat → Nat) (sa L : Nat) (xs : Nat → Int32) (i : Nat) (hi : i + 4 ≤ L) (hL : L ≤ 2048) {X : gX} (E : gE d X RL cL_law 4 room_1) (SC : gScr X sa L xs) (p q : Nat → Nat → Nat) (S T : SS) (h t : Nat → Int32) (y : HS) (ss : Nat → Option SS) (r f past : Nat → Int32) (kk : Nat) (sl sv pd : Nat → Int32) (ln : Int32) (I : INV S h t y ss r past kk sl sv pd ln) {cells slots : Nat} (hc : cells + 6 ≤ 600000) (hs : slots + 57 ≤ 7302250) (K : ∀ (p q : Nat → Nat → Nat) (S T : SS) (h t : Nat → Int32) (y : HS) (ss : Nat → Option SS) (r f past : Nat → Int32) (kk : Nat) (sl sv pd : Nat → Int32) (ln : Int32), INV S h t y ss r past kk sl sv pd ln → G d X (XW d (x, a, b, c, e) p q S T h t y ss ++ MW d a5 (pr 0 r f) (past, nI kk, sl, sv, pd, ln)) (cells + 6) (slots + 57) 668 [(0, .ref sa), (1, .ref (x 0)), (2, .ref (a5 0)), (3, .int (nI i))] []) : G d X (XW d (x, a, b, c, e) p q S T h t y ss ++ MW d a5 (pr 0 r f) (past, nI kk, sl, sv, pd, ln)) (cells) (slots) 622 [(0, .ref sa), (1, .ref (x 0)), (2, .ref (a5 0)), (3, .int (nI i))] [] := by
  have hy := I.hy
  have hkk := I.hkk
  have hu := I.hu
  have hl := I.hl
  have hln := I.hln
  have hT := I.hT
  have hSH := RS_SH I.1.1
  obtain ⟨hs0, hz, hc4, nd, hd⟩ := hSH
  have hSH := RS_SH I.1.1
  have hc' : cells ≤ 600000 := Nat.le_of_add_right_le hc
  have hs' : slots ≤ 7302250 := Nat.le_of_add_right_le hs
  obtain ⟨H1, H3⟩ := save_sim I.1.1 I.2.1 (xs (i + 1))
  refine g_aload_n E 1 dL_law_622 rfl rfl ?_
  refine g_aload_n E 0 dL_law_623 rfl rfl ?_
  refine g_iload_n E 3 dL_law_624 rfl rfl ?_
  refine g_iconst E 1 dL_law_625 (by decide) ?_
  refine g_iadd E dL_law_626 ?_
  refine g_top (nI_add i 1) ?_
  refine g_sld E SC (i + 1) rfl (by omega) hL dL_law_627 ?_
  refine g_callVi E gc_X4_save ml_L_92 (t_X4_save d x a b c e (xs (i + 1)) p q S T h t y ss ) rfl rfl (ci := 4) 0 rfl rfl rfl rfl (ok_le rfl) ⟨ok_le rfl, ok_le rfl, hc, hs⟩ (c2 := cells + 6) (n2 := slots + 57) rfl rfl dL_law_628 (fun r_ u_ hp_ => ?_)
  obtain ⟨rfl, p1, rfl⟩ := hp_
  refine g_perm List.perm_append_comm ?_
  refine g_aload_n E 2 dL_law_631 rfl rfl ?_
  refine g_aload_n E 0 dL_law_632 rfl rfl ?_
  refine g_iload_n E 3 dL_law_633 rfl rfl ?_
  refine g_iconst E 1 dL_law_634 (by decide) ?_
  refine g_iadd E dL_law_635 ?_
  refine g_top (nI_add i 1) ?_
  refine g_sld E SC (i + 1) rfl (by omega) hL dL_law_636 ?_
  refine g_callViD E gc_X5_save ml_L_95 (t_X5_save d a5 (xs (i + 1)) r f past kk sl sv pd ln) rfl rfl (ci := 5) 0 rfl rfl rfl rfl (ok_le rfl) ⟨ok_le rfl, ok_le rfl, hc, hs⟩ (c2 := cells + 6) (n2 := slots + 57) rfl rfl dL_law_637 ?_
  refine g_perm List.perm_append_comm ?_
  refine g_icmpeq E 668 dL_law_640 (by decide) (fun _ => ?_) (fun ne => absurd H1 ne)
  exact K _ _ _ _ _ _ _ _ _ _ _ _ _ _ _ _ ⟨I.1, H3, I.2.2⟩
set_option maxHeartbeats 4000000 in
set_option maxRecDepth 100000 in
theorem law_restore (d : gD) (x a b c e a5 : Nat → Nat) (sa L : Nat) (xs : Nat → Int32) (i : Nat) (hi : i + 4 ≤ L) (hL : L ≤ 2048) {X : gX} (E : gE d X RL cL_law 4 room_1) (SC : gScr X sa L xs) (p q : Nat → Nat → Nat) (S T : SS) (h t : Nat → Int32) (y : HS) (ss : Nat → Option SS) (r f past : Nat → Int32) (kk : Nat) (sl sv pd : Nat → Int32) (ln : Int32) (I : INV S h t y ss r past kk sl sv pd ln) {cells slots : Nat} (hc : cells + 6 ≤ 600000) (hs : slots + 57 ≤ 7302250) (K : ∀ (p q : Nat → Nat → Nat) (S T : SS) (h t : Nat → Int32) (y : HS) (ss : Nat → Option SS) (r f past : Nat → Int32) (kk : Nat) (sl sv pd : Nat → Int32) (ln : Int32), INV S h t y ss r past kk sl sv pd ln → G d X (XW d (x, a, b, c, e) p q S T h t y ss ++ MW d a5 (pr 0 r f) (past, nI kk, sl, sv, pd, ln)) (cells + 6) (slots + 57) 668 [(0, .ref sa), (1, .ref (x 0)), (2, .ref (a5 0)), (3, .int (nI i))] []) : G d X (XW d (x, a, b, c, e) p q S T h t y ss ++ MW d a5 (pr 0 r f) (past, nI kk, sl, sv, pd, ln)) (cells) (slots) 645 [(0, .ref sa), (1, .ref (x 0)), (2, .ref (a5 0)), (3, .int (nI i))] [] := by
  have hy := I.hy
  have hkk := I.hkk
  have hu := I.hu
  have hl := I.hl
  have hln := I.hln
  have hT := I.hT
  have hSH := RS_SH I.1.1
  obtain ⟨hs0, hz, hc4, nd, hd⟩ := hSH
  have hSH := RS_SH I.1.1
  have hc' : cells ≤ 600000 := Nat.le_of_add_right_le hc
  have hs' : slots ≤ 7302250 := Nat.le_of_add_right_le hs
  obtain ⟨H1, k1, H2, H3⟩ := restore_sim I.1 I.2.1 (xs (i + 1))
  refine g_aload_n E 1 dL_law_645 rfl rfl ?_
  refine g_aload_n E 0 dL_law_646 rfl rfl ?_
  refine g_iload_n E 3 dL_law_647 rfl rfl ?_
  refine g_iconst E 1 dL_law_648 (by decide) ?_
  refine g_iadd E dL_law_649 ?_
  refine g_top (nI_add i 1) ?_
  refine g_sld E SC (i + 1) rfl (by omega) hL dL_law_650 ?_
  refine g_callVi E gc_X4_restore ml_L_96 (t_X4_restore d x a b c e (xs (i + 1)) p q S T h t y ss hy) rfl rfl (ci := 4) 0 rfl rfl rfl rfl (ok_le rfl) ⟨ok_le rfl, ok_le rfl, hc, hs⟩ (c2 := cells + 6) (n2 := slots + 57) rfl rfl dL_law_651 (fun r_ u_ hp_ => ?_)
  obtain ⟨rfl, p1, rfl⟩ := hp_
  refine g_perm List.perm_append_comm ?_
  refine g_aload_n E 2 dL_law_654 rfl rfl ?_
  refine g_aload_n E 0 dL_law_655 rfl rfl ?_
  refine g_iload_n E 3 dL_law_656 rfl rfl ?_
  refine g_iconst E 1 dL_law_657 (by decide) ?_
  refine g_iadd E dL_law_658 ?_
  refine g_top (nI_add i 1) ?_
  refine g_sld E SC (i + 1) rfl (by omega) hL dL_law_659 ?_
  refine g_callViD E gc_X5_restore ml_L_99 (t_X5_restore d a5 (xs (i + 1)) r f past kk sl sv pd ln hkk) rfl rfl (ci := 5) 0 rfl rfl rfl rfl (ok_le rfl) ⟨ok_le rfl, ok_le rfl, hc, hs⟩ (c2 := cells + 6) (n2 := slots + 57) rfl rfl dL_law_660 ?_
  refine g_perm List.perm_append_comm ?_
  rw [H2]
  refine g_icmpeq E 668 dL_law_663 (by decide) (fun _ => ?_) (fun ne => absurd H1 ne)
  exact K _ _ _ _ _ _ _ _ _ _ _ _ _ _ _ _ ⟨H3, I.2⟩
