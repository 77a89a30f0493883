theorem in_rg {u v : Int32} (h1 : ¬ u < 0) (h2 : u < 256) (h3 : ¬ v < 0) (h4 : v < 256) : rgP u v := by
  have z256 : (256 : Int32).toInt = 256 := rfl
  have a1 := nlt_iff.mp h1
  have a2 := lt_iff.mp h2
  have a3 := nlt_iff.mp h3
  have a4 := lt_iff.mp h4
  rw [z0] at a1 a3
  rw [z256] at a2 a4
  exact ⟨⟨a1, by omega⟩, a3, by omega⟩
set_option maxHeartbeats 8000000 in
set_option maxRecDepth 100000 in
theorem law_loop (d : gD) (x a b c e : Nat → Nat) (sa L : Nat) (xs : Nat → Int32) (hL : L ≤ 2048) (h t : Nat → Int32) {X : gX} (E : gE d X RL cL_law 8 room_1) (SC : gScr X sa L xs) (FIN : ∀ (ws : va_W) (cells slots : Nat) (lv : List (Nat × Value)), cells ≤ 600000 → slots ≤ 7302250 → G d X ws cells slots 339 lv [.int 1]) (n : Nat) : ∀ (i : Nat) (p q : Nat → Nat → Nat) (S T : SS) (y : HS) (ss : Nat → Option SS), i ≤ 90 → 90 - i < n → AL S y (15 * (i : Int)) → G d X (XW d (x, a, b, c, e) p q S T h t y ss) (60 + 402 * i) (2000 + 3876 * i) 66 [(0, .ref sa), (1, .ref (x 0)), (2, .int (nI i))] [] := by
  induction n with
  | zero => intro i p q S T y ss h1 h2; omega
  | succ n ih =>
    intro i p q S T y ss hi hm hA
    refine g_iload_n E 2 dL_law_66 rfl rfl ?_
    refine g_bipush E 90 dL_law_67 (by decide) ?_
    refine g_icmpge E 251 dL_law_69 (by decide) (fun c_69 => ?_) (fun c_69 => ?_)
    · skip
      refine g_aload_n E 1 dL_law_251 rfl rfl ?_
      refine g_sipush E 256 dL_law_252 (by decide) ?_
      refine g_iconst E 0 dL_law_255 (by decide) ?_
      refine g_callVi E (wr := []) gc_X4_sample ml_L_32 (t4_X4_sample_256_0 d x a b c e p q S T h t y ss hA.2.2.2 (IV_hu hA.1)) rfl (List.append_nil _).symm (ci := 4) 0 rfl rfl rfl rfl (ok_le rfl) ⟨ok_le rfl, ok_le rfl, (by show _ ≤ (600000 : Nat); (try dsimp only [R_X4_count, R_X4_of, R_X4_sample, R_X4_hold, R_X4_set, R_X4_edge, R_L_cell, R_L_low, R_L_does, R_L_isStick, R_L_isIn, R_L_isEdge]); omega), (by show _ ≤ (7302250 : Nat); (try dsimp only [R_X4_count, R_X4_of, R_X4_sample, R_X4_hold, R_X4_set, R_X4_edge, R_L_cell, R_L_low, R_L_does, R_L_isStick, R_L_isIn, R_L_isEdge]); omega)⟩ rfl rfl dL_law_256 ?_
      rintro v_ u_ ⟨rfl, pz1, rfl⟩
      refine g_eq (ws' := XW d (x, a, b, c, e) pz1 q S T h t y ss) (List.append_nil _) ?_
      refine g_bipush E (-2) dL_law_259 (by decide) ?_
      refine g_icmpne E 338 dL_law_261 (by decide) (fun q_ => absurd rfl q_) (fun _ => ?_)
      refine g_aload_n E 1 dL_law_264 rfl rfl ?_
      refine g_iconst E 0 dL_law_265 (by decide) ?_
      refine g_iconst E 0 dL_law_266 (by decide) ?_
      refine g_sipush E 201 dL_law_267 (by decide) ?_
      refine g_callVi E (wr := []) gc_X4_hold ml_L_71 (t4_X4_hold_0_0_201 d x a b c e pz1 q S T h t y ss hA.2.2.2 (IV_hu hA.1)) rfl (List.append_nil _).symm (ci := 4) 0 rfl rfl rfl rfl (ok_le rfl) ⟨ok_le rfl, ok_le rfl, (by show _ ≤ (600000 : Nat); (try dsimp only [R_X4_count, R_X4_of, R_X4_sample, R_X4_hold, R_X4_set, R_X4_edge, R_L_cell, R_L_low, R_L_does, R_L_isStick, R_L_isIn, R_L_isEdge]); omega), (by show _ ≤ (7302250 : Nat); (try dsimp only [R_X4_count, R_X4_of, R_X4_sample, R_X4_hold, R_X4_set, R_X4_edge, R_L_cell, R_L_low, R_L_does, R_L_isStick, R_L_isIn, R_L_isEdge]); omega)⟩ rfl rfl dL_law_270 ?_
      rintro v_ u_ ⟨rfl, pz2, rfl⟩
      refine g_eq (ws' := XW d (x, a, b, c, e) pz2 q S T h t y ss) (List.append_nil _) ?_
      refine g_bipush E (-2) dL_law_273 (by decide) ?_
      refine g_icmpne E 338 dL_law_275 (by decide) (fun q_ => absurd rfl q_) (fun _ => ?_)
      refine g_aload_n E 1 dL_law_278 rfl rfl ?_
      refine g_bipush E 7 dL_law_279 (by decide) ?_
      refine g_iconst E 1 dL_law_281 (by decide) ?_
      refine g_callVi E (wr := []) gc_X4_set ml_L_54 (t4_X4_set_7_1 d x a b c e pz2 q S T h t y ss hA.2.2.2) rfl (List.append_nil _).symm (ci := 4) 0 rfl rfl rfl rfl (ok_le rfl) ⟨ok_le rfl, ok_le rfl, (by show _ ≤ (600000 : Nat); (try dsimp only [R_X4_count, R_X4_of, R_X4_sample, R_X4_hold, R_X4_set, R_X4_edge, R_L_cell, R_L_low, R_L_does, R_L_isStick, R_L_isIn, R_L_isEdge]); omega), (by show _ ≤ (7302250 : Nat); (try dsimp only [R_X4_count, R_X4_of, R_X4_sample, R_X4_hold, R_X4_set, R_X4_edge, R_L_cell, R_L_low, R_L_does, R_L_isStick, R_L_isIn, R_L_isEdge]); omega)⟩ rfl rfl dL_law_282 ?_
      rintro v_ u_ ⟨rfl, pz3, rfl⟩
      refine g_eq (ws' := XW d (x, a, b, c, e) pz3 q S T h t y ss) (List.append_nil _) ?_
      refine g_bipush E (-2) dL_law_285 (by decide) ?_
      refine g_icmpne E 338 dL_law_287 (by decide) (fun q_ => absurd rfl q_) (fun _ => ?_)
      refine g_aload_n E 1 dL_law_290 rfl rfl ?_
      refine g_iconst E 3 dL_law_291 (by decide) ?_
      refine g_bipush E 59 dL_law_292 (by decide) ?_
      refine g_callVi E (wr := []) gc_X4_set ml_L_54 (t4_X4_set_3_59 d x a b c e pz3 q S T h t y ss hA.2.2.2) rfl (List.append_nil _).symm (ci := 4) 0 rfl rfl rfl rfl (ok_le rfl) ⟨ok_le rfl, ok_le rfl, (by show _ ≤ (600000 : Nat); (try dsimp only [R_X4_count, R_X4_of, R_X4_sample, R_X4_hold, R_X4_set, R_X4_edge, R_L_cell, R_L_low, R_L_does, R_L_isStick, R_L_isIn, R_L_isEdge]); omega), (by show _ ≤ (7302250 : Nat); (try dsimp only [R_X4_count, R_X4_of, R_X4_sample, R_X4_hold, R_X4_set, R_X4_edge, R_L_cell, R_L_low, R_L_does, R_L_isStick, R_L_isIn, R_L_isEdge]); omega)⟩ rfl rfl dL_law_294 ?_
      rintro v_ u_ ⟨rfl, pz4, rfl⟩
      refine g_eq (ws' := XW d (x, a, b, c, e) pz4 q S T h t y ss) (List.append_nil _) ?_
      refine g_bipush E (-2) dL_law_297 (by decide) ?_
      refine g_icmpne E 338 dL_law_299 (by decide) (fun q_ => absurd rfl q_) (fun _ => ?_)
      refine g_aload_n E 1 dL_law_302 rfl rfl ?_
      refine g_iconst E 2 dL_law_303 (by decide) ?_
      refine g_iconst E 0 dL_law_304 (by decide) ?_
      refine g_callVi0 E gc_X4_edge ml_L_47 (t_X4_edge d x a b c e 2 0 pz4 q S T h t y ss ) rfl rfl (ci := 4) 0 rfl rfl rfl rfl (ok_le rfl) ⟨ok_le rfl, ok_le rfl, (by show _ ≤ (600000 : Nat); (try dsimp only [R_X4_count, R_X4_of, R_X4_sample, R_X4_hold, R_X4_set, R_X4_edge, R_L_cell, R_L_low, R_L_does, R_L_isStick, R_L_isIn, R_L_isEdge]); omega), (by show _ ≤ (7302250 : Nat); (try dsimp only [R_X4_count, R_X4_of, R_X4_sample, R_X4_hold, R_X4_set, R_X4_edge, R_L_cell, R_L_low, R_L_does, R_L_isStick, R_L_isIn, R_L_isEdge]); omega)⟩ rfl rfl dL_law_305 ?_
      refine g_nm (fun v1_ hv1_ => ?_)
      refine g_iconst E (-1) dL_law_308 (by decide) ?_
      refine g_icmpne E 338 dL_law_309 (by decide) (fun q_ => absurd (by rw [← hv1_]; rfl) q_) (fun _ => ?_)
      refine g_aload_n E 1 dL_law_312 rfl rfl ?_
      refine g_iconst E 0 dL_law_313 (by decide) ?_
      refine g_iconst E 2 dL_law_314 (by decide) ?_
      refine g_callVi0 E gc_X4_edge ml_L_47 (t_X4_edge d x a b c e 0 2 pz4 q S T h t y ss ) rfl rfl (ci := 4) 0 rfl rfl rfl rfl (ok_le rfl) ⟨ok_le rfl, ok_le rfl, (by show _ ≤ (600000 : Nat); (try dsimp only [R_X4_count, R_X4_of, R_X4_sample, R_X4_hold, R_X4_set, R_X4_edge, R_L_cell, R_L_low, R_L_does, R_L_isStick, R_L_isIn, R_L_isEdge]); omega), (by show _ ≤ (7302250 : Nat); (try dsimp only [R_X4_count, R_X4_of, R_X4_sample, R_X4_hold, R_X4_set, R_X4_edge, R_L_cell, R_L_low, R_L_does, R_L_isStick, R_L_isIn, R_L_isEdge]); omega)⟩ rfl rfl dL_law_315 ?_
      refine g_nm (fun v2_ hv2_ => ?_)
      refine g_bipush E (-2) dL_law_318 (by decide) ?_
      refine g_icmpne E 338 dL_law_320 (by decide) (fun q_ => absurd (by rw [← hv2_]; rfl) q_) (fun _ => ?_)
      refine g_aload_n E 1 dL_law_323 rfl rfl ?_
      refine g_bipush E 19 dL_law_324 (by decide) ?_
      refine g_callVi0 E gc_X4_count ml_L_8 (t_X4_count d x a b c e 19 pz4 q S T h t y ss ) rfl rfl (ci := 4) 0 rfl rfl rfl rfl (ok_le rfl) ⟨ok_le rfl, ok_le rfl, (by show _ ≤ (600000 : Nat); (try dsimp only [R_X4_count, R_X4_of, R_X4_sample, R_X4_hold, R_X4_set, R_X4_edge, R_L_cell, R_L_low, R_L_does, R_L_isStick, R_L_isIn, R_L_isEdge]); omega), (by show _ ≤ (7302250 : Nat); (try dsimp only [R_X4_count, R_X4_of, R_X4_sample, R_X4_hold, R_X4_set, R_X4_edge, R_L_cell, R_L_low, R_L_does, R_L_isStick, R_L_isIn, R_L_isEdge]); omega)⟩ rfl rfl dL_law_326 ?_
      refine g_nm (fun v3_ hv3_ => ?_)
      refine g_bipush E (-2) dL_law_329 (by decide) ?_
      refine g_icmpne E 338 dL_law_331 (by decide) (fun q_ => absurd (by rw [← hv3_]; rfl) q_) (fun _ => ?_)
      refine g_iconst E 1 dL_law_334 (by decide) ?_
      refine g_goto E 339 dL_law_335 (by decide) ?_
      exact FIN _ _ _ _ (by (try dsimp only [R_X4_count, R_X4_of, R_X4_sample, R_X4_hold, R_X4_set, R_X4_edge, R_L_cell, R_L_low, R_L_does, R_L_isStick, R_L_isIn, R_L_isEdge]); omega) (by (try dsimp only [R_X4_count, R_X4_of, R_X4_sample, R_X4_hold, R_X4_set, R_X4_edge, R_L_cell, R_L_low, R_L_does, R_L_isStick, R_L_isIn, R_L_isEdge]); omega)
    · skip
      have i90 : i < 90 := (nI_ltI (a := i) (b := 90) (by omega) (by omega)).mp c_69
      refine g_aload_n E 0 dL_law_72 rfl rfl ?_
      refine g_iconst E 2 dL_law_73 (by decide) ?_
      refine g_iload_n E 2 dL_law_74 rfl rfl ?_
      refine g_imul E dL_law_75 ?_
      refine g_top (pk_mul 2 i) ?_
      refine g_callSX E SC gc_L_cell ml_L_83 (t_L_cell d sa L xs hL (2 * i) (by omega)) rfl rfl rfl (ok_le rfl) ⟨ok_le rfl, ok_le rfl, (by show _ ≤ (600000 : Nat); (try dsimp only [R_X4_count, R_X4_of, R_X4_sample, R_X4_hold, R_X4_set, R_X4_edge, R_L_cell, R_L_low, R_L_does, R_L_isStick, R_L_isIn, R_L_isEdge]); omega), (by show _ ≤ (7302250 : Nat); (try dsimp only [R_X4_count, R_X4_of, R_X4_sample, R_X4_hold, R_X4_set, R_X4_edge, R_L_cell, R_L_low, R_L_does, R_L_isStick, R_L_isIn, R_L_isEdge]); omega)⟩ rfl rfl dL_law_76 ?_
      refine g_nm (fun v4_ hv4_ => ?_)
      refine g_istore_n E (lv' := [(3, .int v4_), (0, .ref sa), (1, .ref (x 0)), (2, .int (nI i))]) dL_law_79 rfl (by decide) rfl ?_
      refine g_aload_n E 1 dL_law_80 rfl rfl ?_
      refine g_iconst E 2 dL_law_81 (by decide) ?_
      refine g_iload_n E 3 dL_law_82 rfl rfl ?_
      refine g_imul E dL_law_83 ?_
      refine g_top (pk_mul 2 i) ?_
      refine g_iconst E 1 dL_law_84 (by decide) ?_
      refine g_iadd E dL_law_85 ?_
      refine g_top (nI_add (2 * i) 1) ?_
      refine g_callSX E SC gc_L_cell ml_L_83 (t_L_cell d sa L xs hL (2 * i + 1) (by omega)) rfl rfl rfl (ok_le rfl) ⟨ok_le rfl, ok_le rfl, (by show _ ≤ (600000 : Nat); (try dsimp only [R_X4_count, R_X4_of, R_X4_sample, R_X4_hold, R_X4_set, R_X4_edge, R_L_cell, R_L_low, R_L_does, R_L_isStick, R_L_isIn, R_L_isEdge]); omega), (by show _ ≤ (7302250 : Nat); (try dsimp only [R_X4_count, R_X4_of, R_X4_sample, R_X4_hold, R_X4_set, R_X4_edge, R_L_cell, R_L_low, R_L_does, R_L_isStick, R_L_isIn, R_L_isEdge]); omega)⟩ rfl rfl dL_law_86 ?_
      refine g_nm (fun v5_ hv5_ => ?_)
      refine g_istore E (lv' := [(4, .int v5_), (3, .int v4_), (0, .ref sa), (1, .ref (x 0)), (2, .int (nI i))]) dL_law_89 (by decide) rfl ?_
      refine g_aload_n E 3 dL_law_91 rfl rfl ?_
      refine g_iload_n E 1 dL_law_92 rfl rfl ?_
      refine g_iload E 0 dL_law_93 rfl ?_
      refine g_callSi E (wr := []) gc_L_does ml_L_87 (t_L_does d x a b c e v4_ v5_ p q S T h t y ss hA.2.2.2 (IV_hu hA.1) (IV_hz hA.1)) rfl (List.append_nil _).symm rfl rfl (ok_le rfl) ⟨ok_le rfl, ok_le rfl, (by show _ ≤ (600000 : Nat); (try dsimp only [R_X4_count, R_X4_of, R_X4_sample, R_X4_hold, R_X4_set, R_X4_edge, R_L_cell, R_L_low, R_L_does, R_L_isStick, R_L_isIn, R_L_isEdge]); omega), (by show _ ≤ (7302250 : Nat); (try dsimp only [R_X4_count, R_X4_of, R_X4_sample, R_X4_hold, R_X4_set, R_X4_edge, R_L_cell, R_L_low, R_L_does, R_L_isStick, R_L_isIn, R_L_isEdge]); omega)⟩ rfl rfl dL_law_95 ?_
      rintro v_ u_ ⟨rfl, ⟨p1, rfl⟩⟩
      refine g_eq (ws' := XW d (x, a, b, c, e) p1 q (c_L_does_1 v4_ v5_ S y) T h t (c_L_does_y v4_ v5_ S y) ss) (List.append_nil _) ?_
      obtain ⟨S6_, hS6_⟩ : ∃ z, c_L_does_1 v4_ v5_ S y = z := ⟨_, rfl⟩
      rw [hS6_]
      obtain ⟨S7_, hS7_⟩ : ∃ z, c_L_does_y v4_ v5_ S y = z := ⟨_, rfl⟩
      rw [hS7_]
      refine g_nm (fun v8_ hv8_ => ?_)
      refine g_ifeq E 108 dL_law_98 (by decide) (fun q_ => absurd q_ (by rw [← hv8_, (does_go hA (by omega) _ _).1]; decide)) (fun _ => ?_)
      have hA1 : AL S6_ S7_ (15 * (i : Int) + 15) := by rw [← hS6_, ← hS7_]; exact (does_go hA (by omega) _ _).2
      refine g_aload_n E 3 dL_law_101 rfl rfl ?_
      refine g_callSi0 E gc_L_isStick ml_L_76 (t_L_isStick d x a b c e p1 q S6_ T h t S7_ ss ) rfl rfl rfl rfl (ok_le rfl) ⟨ok_le rfl, ok_le rfl, (by show _ ≤ (600000 : Nat); (try dsimp only [R_X4_count, R_X4_of, R_X4_sample, R_X4_hold, R_X4_set, R_X4_edge, R_L_cell, R_L_low, R_L_does, R_L_isStick, R_L_isIn, R_L_isEdge]); omega), (by show _ ≤ (7302250 : Nat); (try dsimp only [R_X4_count, R_X4_of, R_X4_sample, R_X4_hold, R_X4_set, R_X4_edge, R_L_cell, R_L_low, R_L_does, R_L_isStick, R_L_isIn, R_L_isEdge]); omega)⟩ rfl rfl dL_law_102 ?_
      refine g_nm (fun v9_ hv9_ => ?_)
      refine g_ifne E 110 dL_law_105 (by decide) (fun _ => ?_) (fun q_ => absurd q_ (by rw [← hv9_, stick_1 hA1.1 (by omega) hA1.2.1]; decide))
      refine g_aload_n E 3 dL_law_110 rfl rfl ?_
      refine g_iconst E 0 dL_law_111 (by decide) ?_
      refine g_iconst E 0 dL_law_112 (by decide) ?_
      refine g_callVi0 E gc_X4_of ml_L_14 (t_X4_of d x a b c e 0 0 p1 q S6_ T h t S7_ ss ) rfl rfl (ci := 4) 0 rfl rfl rfl rfl (ok_le rfl) ⟨ok_le rfl, ok_le rfl, (by show _ ≤ (600000 : Nat); (try dsimp only [R_X4_count, R_X4_of, R_X4_sample, R_X4_hold, R_X4_set, R_X4_edge, R_L_cell, R_L_low, R_L_does, R_L_isStick, R_L_isIn, R_L_isEdge]); omega), (by show _ ≤ (7302250 : Nat); (try dsimp only [R_X4_count, R_X4_of, R_X4_sample, R_X4_hold, R_X4_set, R_X4_edge, R_L_cell, R_L_low, R_L_does, R_L_isStick, R_L_isIn, R_L_isEdge]); omega)⟩ rfl rfl dL_law_113 ?_
      refine g_top (b := S6_.1 7) (of_0_0 _) ?_
      refine g_bipush E 16 dL_law_116 (by decide) ?_
      refine g_idiv E dL_law_118 (by decide) ?_
      refine g_iload E 0 dL_law_119 rfl ?_
      refine g_iconst E 4 dL_law_121 (by decide) ?_
      refine g_ishr E dL_law_122 ?_
      refine g_bipush E 21 dL_law_123 (by decide) ?_
      refine g_callSp E gc_L_low ml_L_51 (t_L_low d (v5_ >>> ((4 : Int32) &&& 31)) 21 (by decide)) rfl rfl rfl (ok_le rfl) ⟨ok_le rfl, ok_le rfl, (by show _ ≤ (600000 : Nat); (try dsimp only [R_X4_count, R_X4_of, R_X4_sample, R_X4_hold, R_X4_set, R_X4_edge, R_L_cell, R_L_low, R_L_does, R_L_isStick, R_L_isIn, R_L_isEdge]); omega), (by show _ ≤ (7302250 : Nat); (try dsimp only [R_X4_count, R_X4_of, R_X4_sample, R_X4_hold, R_X4_set, R_X4_edge, R_L_cell, R_L_low, R_L_does, R_L_isStick, R_L_isIn, R_L_isEdge]); omega)⟩ rfl rfl dL_law_125 ?_
      refine g_nm (fun v11_ hv11_ => ?_)
      refine g_iadd E dL_law_128 ?_
      refine g_bipush E 10 dL_law_129 (by decide) ?_
      refine g_isub E dL_law_131 ?_
      refine g_istore E (lv' := [(5, .int ((((S6_.1 7) / 16) + v11_) - 10)), (4, .int v5_), (3, .int v4_), (0, .ref sa), (1, .ref (x 0)), (2, .int (nI i))]) dL_law_132 (by decide) rfl ?_
      refine g_aload_n E 4 dL_law_134 rfl rfl ?_
      refine g_iconst E 1 dL_law_135 (by decide) ?_
      refine g_iconst E 0 dL_law_136 (by decide) ?_
      refine g_callVi0 E gc_X4_of ml_L_14 (t_X4_of d x a b c e 1 0 p1 q S6_ T h t S7_ ss ) rfl rfl (ci := 4) 0 rfl rfl rfl rfl (ok_le rfl) ⟨ok_le rfl, ok_le rfl, (by show _ ≤ (600000 : Nat); (try dsimp only [R_X4_count, R_X4_of, R_X4_sample, R_X4_hold, R_X4_set, R_X4_edge, R_L_cell, R_L_low, R_L_does, R_L_isStick, R_L_isIn, R_L_isEdge]); omega), (by show _ ≤ (7302250 : Nat); (try dsimp only [R_X4_count, R_X4_of, R_X4_sample, R_X4_hold, R_X4_set, R_X4_edge, R_L_cell, R_L_low, R_L_does, R_L_isStick, R_L_isIn, R_L_isEdge]); omega)⟩ rfl rfl dL_law_137 ?_
      refine g_top (b := S6_.1 8) (of_1_0 _) ?_
      refine g_bipush E 16 dL_law_140 (by decide) ?_
      refine g_idiv E dL_law_142 (by decide) ?_
      refine g_iload E 1 dL_law_143 rfl ?_
      refine g_bipush E 9 dL_law_145 (by decide) ?_
      refine g_ishr E dL_law_147 ?_
      refine g_bipush E 21 dL_law_148 (by decide) ?_
      refine g_callSp E gc_L_low ml_L_51 (t_L_low d (v5_ >>> ((9 : Int32) &&& 31)) 21 (by decide)) rfl rfl rfl (ok_le rfl) ⟨ok_le rfl, ok_le rfl, (by show _ ≤ (600000 : Nat); (try dsimp only [R_X4_count, R_X4_of, R_X4_sample, R_X4_hold, R_X4_set, R_X4_edge, R_L_cell, R_L_low, R_L_does, R_L_isStick, R_L_isIn, R_L_isEdge]); omega), (by show _ ≤ (7302250 : Nat); (try dsimp only [R_X4_count, R_X4_of, R_X4_sample, R_X4_hold, R_X4_set, R_X4_edge, R_L_cell, R_L_low, R_L_does, R_L_isStick, R_L_isIn, R_L_isEdge]); omega)⟩ rfl rfl dL_law_150 ?_
      refine g_nm (fun v13_ hv13_ => ?_)
      refine g_iadd E dL_law_153 ?_
      refine g_bipush E 10 dL_law_154 (by decide) ?_
      refine g_isub E dL_law_156 ?_
      refine g_istore E (lv' := [(6, .int ((((S6_.1 8) / 16) + v13_) - 10)), (5, .int ((((S6_.1 7) / 16) + v11_) - 10)), (4, .int v5_), (3, .int v4_), (0, .ref sa), (1, .ref (x 0)), (2, .int (nI i))]) dL_law_157 (by decide) rfl ?_
      refine g_iload E 1 dL_law_159 rfl ?_
      refine g_iflt E 189 dL_law_161 (by decide) (fun c_161 => ?_) (fun c_161 => ?_)
      · skip
        refine g_iconst E 0 dL_law_189 (by decide) ?_
        refine g_istore E (lv' := [(7, .int 0), (6, .int ((((S6_.1 8) / 16) + v13_) - 10)), (5, .int ((((S6_.1 7) / 16) + v11_) - 10)), (4, .int v5_), (3, .int v4_), (0, .ref sa), (1, .ref (x 0)), (2, .int (nI i))]) dL_law_190 (by decide) rfl ?_
        refine g_iload E 0 dL_law_192 rfl ?_
        refine g_ifeq E 217 dL_law_194 (by decide) (fun _ => ?_) (fun q_ => absurd q_ (by decide))
        refine g_lvs (lv' := [(0, .ref sa), (1, .ref (x 0)), (2, .int (nI i)), (3, .int v4_)]) [5, 6, 7, 4] rfl ?_
        refine g_widen (k1 := 60 + 402 * (i + 1)) (n1 := 2000 + 3876 * (i + 1)) (by (try dsimp only [R_X4_count, R_X4_of, R_X4_sample, R_X4_hold, R_X4_set, R_X4_edge, R_L_cell, R_L_low, R_L_does, R_L_isStick, R_L_isIn, R_L_isEdge]); omega) (by (try dsimp only [R_X4_count, R_X4_of, R_X4_sample, R_X4_hold, R_X4_set, R_X4_edge, R_L_cell, R_L_low, R_L_does, R_L_isStick, R_L_isIn, R_L_isEdge]); omega) ?_
        refine law_tail d x a b c e sa E p1 q S6_ T h t S7_ ss hA1.1 i v4_ (by omega) (by omega) ?_
        exact ih (i + 1) p1 q S6_ T S7_ ss (by omega) (by omega) (by have h15 : (15 * ((i + 1 : Nat) : Int)) = 15 * (i : Int) + 15 := (by omega); rw [h15]; exact hA1)
      · skip
        refine g_iload E 1 dL_law_164 rfl ?_
        refine g_sipush E 256 dL_law_166 (by decide) ?_
        refine g_icmpge E 189 dL_law_169 (by decide) (fun c_169 => ?_) (fun c_169 => ?_)
        · skip
          refine g_iconst E 0 dL_law_189 (by decide) ?_
          refine g_istore E (lv' := [(7, .int 0), (6, .int ((((S6_.1 8) / 16) + v13_) - 10)), (5, .int ((((S6_.1 7) / 16) + v11_) - 10)), (4, .int v5_), (3, .int v4_), (0, .ref sa), (1, .ref (x 0)), (2, .int (nI i))]) dL_law_190 (by decide) rfl ?_
          refine g_iload E 0 dL_law_192 rfl ?_
          refine g_ifeq E 217 dL_law_194 (by decide) (fun _ => ?_) (fun q_ => absurd q_ (by decide))
          refine g_lvs (lv' := [(0, .ref sa), (1, .ref (x 0)), (2, .int (nI i)), (3, .int v4_)]) [5, 6, 7, 4] rfl ?_
          refine g_widen (k1 := 60 + 402 * (i + 1)) (n1 := 2000 + 3876 * (i + 1)) (by (try dsimp only [R_X4_count, R_X4_of, R_X4_sample, R_X4_hold, R_X4_set, R_X4_edge, R_L_cell, R_L_low, R_L_does, R_L_isStick, R_L_isIn, R_L_isEdge]); omega) (by (try dsimp only [R_X4_count, R_X4_of, R_X4_sample, R_X4_hold, R_X4_set, R_X4_edge, R_L_cell, R_L_low, R_L_does, R_L_isStick, R_L_isIn, R_L_isEdge]); omega) ?_
          refine law_tail d x a b c e sa E p1 q S6_ T h t S7_ ss hA1.1 i v4_ (by omega) (by omega) ?_
          exact ih (i + 1) p1 q S6_ T S7_ ss (by omega) (by omega) (by have h15 : (15 * ((i + 1 : Nat) : Int)) = 15 * (i : Int) + 15 := (by omega); rw [h15]; exact hA1)
        · skip
          refine g_iload E 0 dL_law_172 rfl ?_
          refine g_iflt E 189 dL_law_174 (by decide) (fun c_174 => ?_) (fun c_174 => ?_)
          · skip
            refine g_iconst E 0 dL_law_189 (by decide) ?_
            refine g_istore E (lv' := [(7, .int 0), (6, .int ((((S6_.1 8) / 16) + v13_) - 10)), (5, .int ((((S6_.1 7) / 16) + v11_) - 10)), (4, .int v5_), (3, .int v4_), (0, .ref sa), (1, .ref (x 0)), (2, .int (nI i))]) dL_law_190 (by decide) rfl ?_
            refine g_iload E 0 dL_law_192 rfl ?_
            refine g_ifeq E 217 dL_law_194 (by decide) (fun _ => ?_) (fun q_ => absurd q_ (by decide))
            refine g_lvs (lv' := [(0, .ref sa), (1, .ref (x 0)), (2, .int (nI i)), (3, .int v4_)]) [5, 6, 7, 4] rfl ?_
            refine g_widen (k1 := 60 + 402 * (i + 1)) (n1 := 2000 + 3876 * (i + 1)) (by (try dsimp only [R_X4_count, R_X4_of, R_X4_sample, R_X4_hold, R_X4_set, R_X4_edge, R_L_cell, R_L_low, R_L_does, R_L_isStick, R_L_isIn, R_L_isEdge]); omega) (by (try dsimp only [R_X4_count, R_X4_of, R_X4_sample, R_X4_hold, R_X4_set, R_X4_edge, R_L_cell, R_L_low, R_L_does, R_L_isStick, R_L_isIn, R_L_isEdge]); omega) ?_
            refine law_tail d x a b c e sa E p1 q S6_ T h t S7_ ss hA1.1 i v4_ (by omega) (by omega) ?_
            exact ih (i + 1) p1 q S6_ T S7_ ss (by omega) (by omega) (by have h15 : (15 * ((i + 1 : Nat) : Int)) = 15 * (i : Int) + 15 := (by omega); rw [h15]; exact hA1)
          · skip
            refine g_iload E 0 dL_law_177 rfl ?_
            refine g_sipush E 256 dL_law_179 (by decide) ?_
            refine g_icmpge E 189 dL_law_182 (by decide) (fun c_182 => ?_) (fun c_182 => ?_)
            · skip
              refine g_iconst E 0 dL_law_189 (by decide) ?_
              refine g_istore E (lv' := [(7, .int 0), (6, .int ((((S6_.1 8) / 16) + v13_) - 10)), (5, .int ((((S6_.1 7) / 16) + v11_) - 10)), (4, .int v5_), (3, .int v4_), (0, .ref sa), (1, .ref (x 0)), (2, .int (nI i))]) dL_law_190 (by decide) rfl ?_
              refine g_iload E 0 dL_law_192 rfl ?_
              refine g_ifeq E 217 dL_law_194 (by decide) (fun _ => ?_) (fun q_ => absurd q_ (by decide))
              refine g_lvs (lv' := [(0, .ref sa), (1, .ref (x 0)), (2, .int (nI i)), (3, .int v4_)]) [5, 6, 7, 4] rfl ?_
              refine g_widen (k1 := 60 + 402 * (i + 1)) (n1 := 2000 + 3876 * (i + 1)) (by (try dsimp only [R_X4_count, R_X4_of, R_X4_sample, R_X4_hold, R_X4_set, R_X4_edge, R_L_cell, R_L_low, R_L_does, R_L_isStick, R_L_isIn, R_L_isEdge]); omega) (by (try dsimp only [R_X4_count, R_X4_of, R_X4_sample, R_X4_hold, R_X4_set, R_X4_edge, R_L_cell, R_L_low, R_L_does, R_L_isStick, R_L_isIn, R_L_isEdge]); omega) ?_
              refine law_tail d x a b c e sa E p1 q S6_ T h t S7_ ss hA1.1 i v4_ (by omega) (by omega) ?_
              exact ih (i + 1) p1 q S6_ T S7_ ss (by omega) (by omega) (by have h15 : (15 * ((i + 1 : Nat) : Int)) = 15 * (i : Int) + 15 := (by omega); rw [h15]; exact hA1)
            · skip
              have hp := in_rg c_161 c_169 c_174 c_182
              refine g_iconst E 1 dL_law_185 (by decide) ?_
              refine g_goto E 190 dL_law_186 (by decide) ?_
              refine g_istore E (lv' := [(7, .int 1), (6, .int ((((S6_.1 8) / 16) + v13_) - 10)), (5, .int ((((S6_.1 7) / 16) + v11_) - 10)), (4, .int v5_), (3, .int v4_), (0, .ref sa), (1, .ref (x 0)), (2, .int (nI i))]) dL_law_190 (by decide) rfl ?_
              refine g_iload E 0 dL_law_192 rfl ?_
              refine g_ifeq E 217 dL_law_194 (by decide) (fun q_ => absurd q_ (by decide)) (fun _ => ?_)
              refine g_iload_n E 7 dL_law_197 rfl rfl ?_
              refine g_bipush E 15 dL_law_198 (by decide) ?_
              refine g_irem E dL_law_200 (by decide) ?_
              refine g_bipush E 8 dL_law_201 (by decide) ?_
              refine g_icmpne E 217 dL_law_203 (by decide) (fun c_203 => ?_) (fun c_203 => ?_)
              · skip
                refine g_lvs (lv' := [(0, .ref sa), (1, .ref (x 0)), (2, .int (nI i)), (3, .int v4_)]) [5, 6, 7, 4] rfl ?_
                refine g_widen (k1 := 60 + 402 * (i + 1)) (n1 := 2000 + 3876 * (i + 1)) (by (try dsimp only [R_X4_count, R_X4_of, R_X4_sample, R_X4_hold, R_X4_set, R_X4_edge, R_L_cell, R_L_low, R_L_does, R_L_isStick, R_L_isIn, R_L_isEdge]); omega) (by (try dsimp only [R_X4_count, R_X4_of, R_X4_sample, R_X4_hold, R_X4_set, R_X4_edge, R_L_cell, R_L_low, R_L_does, R_L_isStick, R_L_isIn, R_L_isEdge]); omega) ?_
                refine law_tail d x a b c e sa E p1 q S6_ T h t S7_ ss hA1.1 i v4_ (by omega) (by omega) ?_
                exact ih (i + 1) p1 q S6_ T S7_ ss (by omega) (by omega) (by have h15 : (15 * ((i + 1 : Nat) : Int)) = 15 * (i : Int) + 15 := (by omega); rw [h15]; exact hA1)
              · skip
                refine g_aload_n E 6 dL_law_206 rfl rfl ?_
                refine g_iload E 2 dL_law_207 rfl ?_
                refine g_iload E 1 dL_law_209 rfl ?_
                refine g_callSi E (wr := []) gc_L_isIn ml_L_90 (t_L_isIn d x a b c e ((((S6_.1 7) / 16) + v11_) - 10) ((((S6_.1 8) / 16) + v13_) - 10) p1 q S6_ T h t S7_ ss hA1.1 (by omega) hp hA1.2.2.2) rfl (List.append_nil _).symm rfl rfl (ok_le rfl) ⟨ok_le rfl, ok_le rfl, (by show _ ≤ (600000 : Nat); (try dsimp only [R_X4_count, R_X4_of, R_X4_sample, R_X4_hold, R_X4_set, R_X4_edge, R_L_cell, R_L_low, R_L_does, R_L_isStick, R_L_isIn, R_L_isEdge]); omega), (by show _ ≤ (7302250 : Nat); (try dsimp only [R_X4_count, R_X4_of, R_X4_sample, R_X4_hold, R_X4_set, R_X4_edge, R_L_cell, R_L_low, R_L_does, R_L_isStick, R_L_isIn, R_L_isEdge]); omega)⟩ rfl rfl dL_law_211 ?_
                rintro v_ u_ ⟨rfl, p7, q7, T7, y7, s7, rfl, hy7⟩
                refine g_eq (ws' := XW d (x, a, b, c, e) p7 q7 S6_ T7 h t y7 s7) (List.append_nil _) ?_
                refine g_ifeq E 243 dL_law_214 (by decide) (fun q_ => absurd q_ (by decide)) (fun _ => ?_)
                refine g_lvs (lv' := [(0, .ref sa), (1, .ref (x 0)), (2, .int (nI i)), (3, .int v4_)]) [5, 6, 7, 4] rfl ?_
                refine g_widen (k1 := 60 + 402 * (i + 1)) (n1 := 2000 + 3876 * (i + 1)) (by (try dsimp only [R_X4_count, R_X4_of, R_X4_sample, R_X4_hold, R_X4_set, R_X4_edge, R_L_cell, R_L_low, R_L_does, R_L_isStick, R_L_isIn, R_L_isEdge]); omega) (by (try dsimp only [R_X4_count, R_X4_of, R_X4_sample, R_X4_hold, R_X4_set, R_X4_edge, R_L_cell, R_L_low, R_L_does, R_L_isStick, R_L_isIn, R_L_isEdge]); omega) ?_
                refine law_tail d x a b c e sa E p7 q7 S6_ T7 h t y7 s7 hA1.1 i v4_ (by omega) (by omega) ?_
                exact ih (i + 1) p7 q7 S6_ T7 y7 s7 (by omega) (by omega) (by have h15 : (15 * ((i + 1 : Nat) : Int)) = 15 * (i : Int) + 15 := (by omega); rw [h15]; exact ⟨hA1.1, hA1.2.1, hA1.2.2.1, hy7⟩)
