set_option maxHeartbeats 4000000 in
set_option maxRecDepth 100000 in
theorem law_reset (d : gD) (x a b c e a5 : Nat → Nat) (sa L : Nat) (xs : Nat → Int32) (i : Nat) (hi : i + 4 ≤ L) (hL : L ≤ 2048) {X : gX} (E : gE d X RL cL_law 4 room_1) (SC : gScr X sa L xs) (p q : Nat → Nat → Nat) (S T : SS) (h t : Nat → Int32) (y : HS) (ss : Nat → Option SS) (r f past : Nat → Int32) (kk : Nat) (sl sv pd : Nat → Int32) (ln : Int32) (I : INV S h t y ss r past kk sl sv pd ln) {cells slots : Nat} (hc : cells + 6 ≤ 600000) (hs : slots + 57 ≤ 7302250) (K : ∀ (p q : Nat → Nat → Nat) (S T : SS) (h t : Nat → Int32) (y : HS) (ss : Nat → Option SS) (r f past : Nat → Int32) (kk : Nat) (sl sv pd : Nat → Int32) (ln : Int32), INV S h t y ss r past kk sl sv pd ln → G d X (XW d (x, a, b, c, e) p q S T h t y ss ++ MW d a5 (pr 0 r f) (past, nI kk, sl, sv, pd, ln)) (cells + 6) (slots + 57) 668 [(0, .ref sa), (1, .ref (x 0)), (2, .ref (a5 0)), (3, .int (nI i))] []) : G d X (XW d (x, a, b, c, e) p q S T h t y ss ++ MW d a5 (pr 0 r f) (past, nI kk, sl, sv, pd, ln)) (cells) (slots) 283 [(0, .ref sa), (1, .ref (x 0)), (2, .ref (a5 0)), (3, .int (nI i))] [] := by
  have hy := I.hy
  have hkk := I.hkk
  have hu := I.hu
  have hl := I.hl
  have hln := I.hln
  have hT := I.hT
  have hSH := RS_SH I.1.1
  obtain ⟨hs0, hz, hc4, nd, hd⟩ := hSH
  have hSH := RS_SH I.1.1
  have hc' : cells ≤ 600000 := Nat.le_of_add_right_le hc
  have hs' : slots ≤ 7302250 := Nat.le_of_add_right_le hs
  obtain ⟨H1, k1, H2, H3⟩ := reset_sim I.1
  refine g_aload_n E 1 dL_law_283 rfl rfl ?_
  refine g_callVi E gc_X4_reset ml_L_36 (t_X4_reset d x a b c e p q S T h t y ss hy) rfl rfl (ci := 4) 0 rfl rfl rfl rfl (ok_le rfl) ⟨ok_le rfl, ok_le rfl, hc, hs⟩ (c2 := cells + 6) (n2 := slots + 57) rfl rfl dL_law_284 (fun r_ u_ hp_ => ?_)
  obtain ⟨rfl, p1, rfl⟩ := hp_
  refine g_perm List.perm_append_comm ?_
  refine g_aload_n E 2 dL_law_287 rfl rfl ?_
  refine g_callViD E gc_X5_reset ml_L_40 (t_X5_reset d a5 r f past kk sl sv pd ln hkk) rfl rfl (ci := 5) 0 rfl rfl rfl rfl (ok_le rfl) ⟨ok_le rfl, ok_le rfl, hc, hs⟩ (c2 := cells + 6) (n2 := slots + 57) rfl rfl dL_law_288 ?_
  refine g_perm List.perm_append_comm ?_
  rw [H2]
  refine g_icmpeq E 668 dL_law_291 (by decide) (fun _ => ?_) (fun ne => absurd H1 ne)
  exact K _ _ _ _ _ _ _ _ _ _ _ _ _ _ _ _ ⟨H3, I.2⟩
set_option maxHeartbeats 4000000 in
set_option maxRecDepth 100000 in
theorem law_of (d : gD) (x a b c e a5 : Nat → Nat) (sa L : Nat) (xs : Nat → Int32) (i : Nat) (hi : i + 4 ≤ L) (hL : L ≤ 2048) {X : gX} (E : gE d X RL cL_law 4 room_1) (SC : gScr X sa L xs) (p q : Nat → Nat → Nat) (S T : SS) (h t : Nat → Int32) (y : HS) (ss : Nat → Option SS) (r f past : Nat → Int32) (kk : Nat) (sl sv pd : Nat → Int32) (ln : Int32) (I : INV S h t y ss r past kk sl sv pd ln) {cells slots : Nat} (hc : cells + 6 ≤ 600000) (hs : slots + 57 ≤ 7302250) (K : ∀ (p q : Nat → Nat → Nat) (S T : SS) (h t : Nat → Int32) (y : HS) (ss : Nat → Option SS) (r f past : Nat → Int32) (kk : Nat) (sl sv pd : Nat → Int32) (ln : Int32), INV S h t y ss r past kk sl sv pd ln → G d X (XW d (x, a, b, c, e) p q S T h t y ss ++ MW d a5 (pr 0 r f) (past, nI kk, sl, sv, pd, ln)) (cells + 6) (slots + 57) 668 [(0, .ref sa), (1, .ref (x 0)), (2, .ref (a5 0)), (3, .int (nI i))] []) : G d X (XW d (x, a, b, c, e) p q S T h t y ss ++ MW d a5 (pr 0 r f) (past, nI kk, sl, sv, pd, ln)) (cells) (slots) 296 [(0, .ref sa), (1, .ref (x 0)), (2, .ref (a5 0)), (3, .int (nI i))] [] := by
  have hy := I.hy
  have hkk := I.hkk
  have hu := I.hu
  have hl := I.hl
  have hln := I.hln
  have hT := I.hT
  have hSH := RS_SH I.1.1
  obtain ⟨hs0, hz, hc4, nd, hd⟩ := hSH
  have hSH := RS_SH I.1.1
  have hc' : cells ≤ 600000 := Nat.le_of_add_right_le hc
  have hs' : slots ≤ 7302250 := Nat.le_of_add_right_le hs
  have H1 := of_sim I.1.1 (xs (i + 1)) (xs (i + 2))
  refine g_aload_n E 1 dL_law_296 rfl rfl ?_
  refine g_aload_n E 0 dL_law_297 rfl rfl ?_
  refine g_iload_n E 3 dL_law_298 rfl rfl ?_
  refine g_iconst E 1 dL_law_299 (by decide) ?_
  refine g_iadd E dL_law_300 ?_
  refine g_top (nI_add i 1) ?_
  refine g_sld E SC (i + 1) rfl (by omega) hL dL_law_301 ?_
  refine g_aload_n E 0 dL_law_302 rfl rfl ?_
  refine g_iload_n E 3 dL_law_303 rfl rfl ?_
  refine g_iconst E 2 dL_law_304 (by decide) ?_
  refine g_iadd E dL_law_305 ?_
  refine g_top (nI_add i 2) ?_
  refine g_sld E SC (i + 2) rfl (by omega) hL dL_law_306 ?_
  refine g_callViD E gc_X4_of ml_L_41 (t_X4_of d x a b c e (xs (i + 1)) (xs (i + 2)) p q S T h t y ss ) rfl rfl (ci := 4) 0 rfl rfl rfl rfl (ok_le rfl) ⟨ok_le rfl, ok_le rfl, hc', hs'⟩ (c2 := cells) (n2 := slots) rfl rfl dL_law_307 ?_
  refine g_widen (k1 := cells + 6) (n1 := slots + 57) (Nat.le_add_right _ _) (Nat.le_add_right _ _) ?_
  refine g_perm List.perm_append_comm ?_
  refine g_aload_n E 2 dL_law_310 rfl rfl ?_
  refine g_aload_n E 0 dL_law_311 rfl rfl ?_
  refine g_iload_n E 3 dL_law_312 rfl rfl ?_
  refine g_iconst E 1 dL_law_313 (by decide) ?_
  refine g_iadd E dL_law_314 ?_
  refine g_top (nI_add i 1) ?_
  refine g_sld E SC (i + 1) rfl (by omega) hL dL_law_315 ?_
  refine g_aload_n E 0 dL_law_316 rfl rfl ?_
  refine g_iload_n E 3 dL_law_317 rfl rfl ?_
  refine g_iconst E 2 dL_law_318 (by decide) ?_
  refine g_iadd E dL_law_319 ?_
  refine g_top (nI_add i 2) ?_
  refine g_sld E SC (i + 2) rfl (by omega) hL dL_law_320 ?_
  refine g_callViD E gc_X5_of ml_L_44 (t_X5_of d a5 (xs (i + 1)) (xs (i + 2)) r f (past, nI kk, sl, sv, pd, ln)) rfl rfl (ci := 5) 0 rfl rfl rfl rfl (ok_le rfl) ⟨ok_le rfl, ok_le rfl, hc, hs⟩ (c2 := cells + 6) (n2 := slots + 57) rfl rfl dL_law_321 ?_
  refine g_perm List.perm_append_comm ?_
  refine g_icmpeq E 668 dL_law_324 (by decide) (fun _ => ?_) (fun ne => absurd H1 ne)
  exact K _ _ _ _ _ _ _ _ _ _ _ _ _ _ _ _ I
set_option maxHeartbeats 4000000 in
set_option maxRecDepth 100000 in
theorem law_direction (d : gD) (x a b c e a5 : Nat → Nat) (sa L : Nat) (xs : Nat → Int32) (i : Nat) (hi : i + 4 ≤ L) (hL : L ≤ 2048) {X : gX} (E : gE d X RL cL_law 4 room_1) (SC : gScr X sa L xs) (p q : Nat → Nat → Nat) (S T : SS) (h t : Nat → Int32) (y : HS) (ss : Nat → Option SS) (r f past : Nat → Int32) (kk : Nat) (sl sv pd : Nat → Int32) (ln : Int32) (I : INV S h t y ss r past kk sl sv pd ln) {cells slots : Nat} (hc : cells + 6 ≤ 600000) (hs : slots + 57 ≤ 7302250) (K : ∀ (p q : Nat → Nat → Nat) (S T : SS) (h t : Nat → Int32) (y : HS) (ss : Nat → Option SS) (r f past : Nat → Int32) (kk : Nat) (sl sv pd : Nat → Int32) (ln : Int32), INV S h t y ss r past kk sl sv pd ln → G d X (XW d (x, a, b, c, e) p q S T h t y ss ++ MW d a5 (pr 0 r f) (past, nI kk, sl, sv, pd, ln)) (cells + 6) (slots + 57) 668 [(0, .ref sa), (1, .ref (x 0)), (2, .ref (a5 0)), (3, .int (nI i))] []) : G d X (XW d (x, a, b, c, e) p q S T h t y ss ++ MW d a5 (pr 0 r f) (past, nI kk, sl, sv, pd, ln)) (cells) (slots) 329 [(0, .ref sa), (1, .ref (x 0)), (2, .ref (a5 0)), (3, .int (nI i))] [] := by
  have hy := I.hy
  have hkk := I.hkk
  have hu := I.hu
  have hl := I.hl
  have hln := I.hln
  have hT := I.hT
  have hSH := RS_SH I.1.1
  obtain ⟨hs0, hz, hc4, nd, hd⟩ := hSH
  have hSH := RS_SH I.1.1
  have hc' : cells ≤ 600000 := Nat.le_of_add_right_le hc
  have hs' : slots ≤ 7302250 := Nat.le_of_add_right_le hs
  have H1 := direction_sim I.1.1 (xs (i + 1)) (xs (i + 2))
  refine g_aload_n E 1 dL_law_329 rfl rfl ?_
  refine g_aload_n E 0 dL_law_330 rfl rfl ?_
  refine g_iload_n E 3 dL_law_331 rfl rfl ?_
  refine g_iconst E 1 dL_law_332 (by decide) ?_
  refine g_iadd E dL_law_333 ?_
  refine g_top (nI_add i 1) ?_
  refine g_sld E SC (i + 1) rfl (by omega) hL dL_law_334 ?_
  refine g_aload_n E 0 dL_law_335 rfl rfl ?_
  refine g_iload_n E 3 dL_law_336 rfl rfl ?_
  refine g_iconst E 2 dL_law_337 (by decide) ?_
  refine g_iadd E dL_law_338 ?_
  refine g_top (nI_add i 2) ?_
  refine g_sld E SC (i + 2) rfl (by omega) hL dL_law_339 ?_
  refine g_callViD E gc_X4_direction ml_L_45 (t_X4_direction d x a b c e (xs (i + 1)) (xs (i + 2)) p q S T h t y ss ) rfl rfl (ci := 4) 0 rfl rfl rfl rfl (ok_le rfl) ⟨ok_le rfl, ok_le rfl, hc', hs'⟩ (c2 := cells) (n2 := slots) rfl rfl dL_law_340 ?_
  refine g_widen (k1 := cells + 6) (n1 := slots + 57) (Nat.le_add_right _ _) (Nat.le_add_right _ _) ?_
  refine g_perm List.perm_append_comm ?_
  refine g_aload_n E 2 dL_law_343 rfl rfl ?_
  refine g_aload_n E 0 dL_law_344 rfl rfl ?_
  refine g_iload_n E 3 dL_law_345 rfl rfl ?_
  refine g_iconst E 1 dL_law_346 (by decide) ?_
  refine g_iadd E dL_law_347 ?_
  refine g_top (nI_add i 1) ?_
  refine g_sld E SC (i + 1) rfl (by omega) hL dL_law_348 ?_
  refine g_aload_n E 0 dL_law_349 rfl rfl ?_
  refine g_iload_n E 3 dL_law_350 rfl rfl ?_
  refine g_iconst E 2 dL_law_351 (by decide) ?_
  refine g_iadd E dL_law_352 ?_
  refine g_top (nI_add i 2) ?_
  refine g_sld E SC (i + 2) rfl (by omega) hL dL_law_353 ?_
  refine g_callViD E gc_X5_direction ml_L_48 (t_X5_direction d a5 (xs (i + 1)) (xs (i + 2)) r f (past, nI kk, sl, sv, pd, ln) nd hd) rfl rfl (ci := 5) 0 rfl rfl rfl rfl (ok_le rfl) ⟨ok_le rfl, ok_le rfl, hc, hs⟩ (c2 := cells + 6) (n2 := slots + 57) rfl rfl dL_law_354 ?_
  refine g_perm List.perm_append_comm ?_
  refine g_icmpeq E 668 dL_law_357 (by decide) (fun _ => ?_) (fun ne => absurd H1 ne)
  exact K _ _ _ _ _ _ _ _ _ _ _ _ _ _ _ _ I
set_option maxHeartbeats 4000000 in
set_option maxRecDepth 100000 in
theorem law_count (d : gD) (x a b c e a5 : Nat → Nat) (sa L : Nat) (xs : Nat → Int32) (i : Nat) (hi : i + 4 ≤ L) (hL : L ≤ 2048) {X : gX} (E : gE d X RL cL_law 4 room_1) (SC : gScr X sa L xs) (p q : Nat → Nat → Nat) (S T : SS) (h t : Nat → Int32) (y : HS) (ss : Nat → Option SS) (r f past : Nat → Int32) (kk : Nat) (sl sv pd : Nat → Int32) (ln : Int32) (I : INV S h t y ss r past kk sl sv pd ln) {cells slots : Nat} (hc : cells + 6 ≤ 600000) (hs : slots + 57 ≤ 7302250) (K : ∀ (p q : Nat → Nat → Nat) (S T : SS) (h t : Nat → Int32) (y : HS) (ss : Nat → Option SS) (r f past : Nat → Int32) (kk : Nat) (sl sv pd : Nat → Int32) (ln : Int32), INV S h t y ss r past kk sl sv pd ln → G d X (XW d (x, a, b, c, e) p q S T h t y ss ++ MW d a5 (pr 0 r f) (past, nI kk, sl, sv, pd, ln)) (cells + 6) (slots + 57) 668 [(0, .ref sa), (1, .ref (x 0)), (2, .ref (a5 0)), (3, .int (nI i))] []) : G d X (XW d (x, a, b, c, e) p q S T h t y ss ++ MW d a5 (pr 0 r f) (past, nI kk, sl, sv, pd, ln)) (cells) (slots) 362 [(0, .ref sa), (1, .ref (x 0)), (2, .ref (a5 0)), (3, .int (nI i))] [] := by
  have hy := I.hy
  have hkk := I.hkk
  have hu := I.hu
  have hl := I.hl
  have hln := I.hln
  have hT := I.hT
  have hSH := RS_SH I.1.1
  obtain ⟨hs0, hz, hc4, nd, hd⟩ := hSH
  have hSH := RS_SH I.1.1
  have hc' : cells ≤ 600000 := Nat.le_of_add_right_le hc
  have hs' : slots ≤ 7302250 := Nat.le_of_add_right_le hs
  have H1 := count_sim I.1.1 (xs (i + 1)) h y (past, nI kk, sl, sv, pd, ln) I.2.2.1 (congrArg nI I.1.2.2.1)
  refine g_aload_n E 1 dL_law_362 rfl rfl ?_
  refine g_aload_n E 0 dL_law_363 rfl rfl ?_
  refine g_iload_n E 3 dL_law_364 rfl rfl ?_
  refine g_iconst E 1 dL_law_365 (by decide) ?_
  refine g_iadd E dL_law_366 ?_
  refine g_top (nI_add i 1) ?_
  refine g_sld E SC (i + 1) rfl (by omega) hL dL_law_367 ?_
  refine g_callViD E gc_X4_count ml_L_49 (t_X4_count d x a b c e (xs (i + 1)) p q S T h t y ss ) rfl rfl (ci := 4) 0 rfl rfl rfl rfl (ok_le rfl) ⟨ok_le rfl, ok_le rfl, hc', hs'⟩ (c2 := cells) (n2 := slots) rfl rfl dL_law_368 ?_
  refine g_widen (k1 := cells + 6) (n1 := slots + 57) (Nat.le_add_right _ _) (Nat.le_add_right _ _) ?_
  refine g_perm List.perm_append_comm ?_
  refine g_aload_n E 2 dL_law_371 rfl rfl ?_
  refine g_aload_n E 0 dL_law_372 rfl rfl ?_
  refine g_iload_n E 3 dL_law_373 rfl rfl ?_
  refine g_iconst E 1 dL_law_374 (by decide) ?_
  refine g_iadd E dL_law_375 ?_
  refine g_top (nI_add i 1) ?_
  refine g_sld E SC (i + 1) rfl (by omega) hL dL_law_376 ?_
  refine g_callViD E gc_X5_count ml_L_52 (t_X5_count d a5 (xs (i + 1)) r f (past, nI kk, sl, sv, pd, ln)) rfl rfl (ci := 5) 0 rfl rfl rfl rfl (ok_le rfl) ⟨ok_le rfl, ok_le rfl, hc, hs⟩ (c2 := cells + 6) (n2 := slots + 57) rfl rfl dL_law_377 ?_
  refine g_perm List.perm_append_comm ?_
  refine g_icmpeq E 668 dL_law_380 (by decide) (fun _ => ?_) (fun ne => absurd H1 ne)
  exact K _ _ _ _ _ _ _ _ _ _ _ _ _ _ _ _ I
set_option maxHeartbeats 4000000 in
set_option maxRecDepth 100000 in
theorem law_wouldTell (d : gD) (x a b c e a5 : Nat → Nat) (sa L : Nat) (xs : Nat → Int32) (i : Nat) (hi : i + 4 ≤ L) (hL : L ≤ 2048) {X : gX} (E : gE d X RL cL_law 4 room_1) (SC : gScr X sa L xs) (p q : Nat → Nat → Nat) (S T : SS) (h t : Nat → Int32) (y : HS) (ss : Nat → Option SS) (r f past : Nat → Int32) (kk : Nat) (sl sv pd : Nat → Int32) (ln : Int32) (I : INV S h t y ss r past kk sl sv pd ln) {cells slots : Nat} (hc : cells + 6 ≤ 600000) (hs : slots + 57 ≤ 7302250) (K : ∀ (p q : Nat → Nat → Nat) (S T : SS) (h t : Nat → Int32) (y : HS) (ss : Nat → Option SS) (r f past : Nat → Int32) (kk : Nat) (sl sv pd : Nat → Int32) (ln : Int32), INV S h t y ss r past kk sl sv pd ln → G d X (XW d (x, a, b, c, e) p q S T h t y ss ++ MW d a5 (pr 0 r f) (past, nI kk, sl, sv, pd, ln)) (cells + 6) (slots + 57) 668 [(0, .ref sa), (1, .ref (x 0)), (2, .ref (a5 0)), (3, .int (nI i))] []) : G d X (XW d (x, a, b, c, e) p q S T h t y ss ++ MW d a5 (pr 0 r f) (past, nI kk, sl, sv, pd, ln)) (cells) (slots) 385 [(0, .ref sa), (1, .ref (x 0)), (2, .ref (a5 0)), (3, .int (nI i))] [] := by
  have hy := I.hy
  have hkk := I.hkk
  have hu := I.hu
  have hl := I.hl
  have hln := I.hln
  have hT := I.hT
  have hSH := RS_SH I.1.1
  obtain ⟨hs0, hz, hc4, nd, hd⟩ := hSH
  have hSH := RS_SH I.1.1
  have hc' : cells ≤ 600000 := Nat.le_of_add_right_le hc
  have hs' : slots ≤ 7302250 := Nat.le_of_add_right_le hs
  have H1 := wouldTell_sim I.1.1 (by omega) (xs (i + 1)) (xs (i + 2)) f
  refine g_aload_n E 1 dL_law_385 rfl rfl ?_
  refine g_aload_n E 0 dL_law_386 rfl rfl ?_
  refine g_iload_n E 3 dL_law_387 rfl rfl ?_
  refine g_iconst E 1 dL_law_388 (by decide) ?_
  refine g_iadd E dL_law_389 ?_
  refine g_top (nI_add i 1) ?_
  refine g_sld E SC (i + 1) rfl (by omega) hL dL_law_390 ?_
  refine g_aload_n E 0 dL_law_391 rfl rfl ?_
  refine g_iload_n E 3 dL_law_392 rfl rfl ?_
  refine g_iconst E 2 dL_law_393 (by decide) ?_
  refine g_iadd E dL_law_394 ?_
  refine g_top (nI_add i 2) ?_
  refine g_sld E SC (i + 2) rfl (by omega) hL dL_law_395 ?_
  refine g_callViD E gc_X4_wouldTell ml_L_53 (t_X4_wouldTell d x a b c e (xs (i + 1)) (xs (i + 2)) p q S T h t y ss ) rfl rfl (ci := 4) 0 rfl rfl rfl rfl (ok_le rfl) ⟨ok_le rfl, ok_le rfl, hc', hs'⟩ (c2 := cells) (n2 := slots) rfl rfl dL_law_396 ?_
  refine g_widen (k1 := cells + 6) (n1 := slots + 57) (Nat.le_add_right _ _) (Nat.le_add_right _ _) ?_
  refine g_perm List.perm_append_comm ?_
  refine g_aload_n E 2 dL_law_399 rfl rfl ?_
  refine g_aload_n E 0 dL_law_400 rfl rfl ?_
  refine g_iload_n E 3 dL_law_401 rfl rfl ?_
  refine g_iconst E 1 dL_law_402 (by decide) ?_
  refine g_iadd E dL_law_403 ?_
  refine g_top (nI_add i 1) ?_
  refine g_sld E SC (i + 1) rfl (by omega) hL dL_law_404 ?_
  refine g_aload_n E 0 dL_law_405 rfl rfl ?_
  refine g_iload_n E 3 dL_law_406 rfl rfl ?_
  refine g_iconst E 2 dL_law_407 (by decide) ?_
  refine g_iadd E dL_law_408 ?_
  refine g_top (nI_add i 2) ?_
  refine g_sld E SC (i + 2) rfl (by omega) hL dL_law_409 ?_
  refine g_callViD E gc_X5_wouldTell ml_L_56 (t_X5_wouldTell d a5 (xs (i + 1)) (xs (i + 2)) r f (past, nI kk, sl, sv, pd, ln) hSH) rfl rfl (ci := 5) 0 rfl rfl rfl rfl (ok_le rfl) ⟨ok_le rfl, ok_le rfl, hc, hs⟩ (c2 := cells + 6) (n2 := slots + 57) rfl rfl dL_law_410 ?_
  refine g_perm List.perm_append_comm ?_
  refine g_icmpeq E 668 dL_law_413 (by decide) (fun _ => ?_) (fun ne => absurd H1 ne)
  exact K _ _ _ _ _ _ _ _ _ _ _ _ _ _ _ _ I
