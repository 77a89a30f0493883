set_option maxHeartbeats 4000000 in
set_option maxRecDepth 100000 in
theorem law_body (d : gD) (sa L : Nat) (xs : Nat → Int32) (hL : L ≤ 2048) {X : gX} (E : gE d X RL cL_law 8 room_1) (SC : gScr X sa L xs) (FIN : ∀ (ws : va_W) (cells slots : Nat) (lv : List (Nat × Value)), cells ≤ 600000 → slots ≤ 7302250 → G d X ws cells slots 339 lv [.int 1]) : G d X [] 0 0 0 [(0, .ref sa)] [] := by
  refine g_new E (T := TX4) (N := 5) (ci := 4) inlX4 tyX4 tyX4_ok cl_L_9 ib_RX4 it_RX4 rfl dfX4 dvX4 (ok_le rfl) (ok_le rfl) dL_law_0 (fun q0 _ => ?_)
  refine g_dup E dL_law_3 rfl ?_
  refine g_callIv E gc_X4_init ml_L_75 (t_X4_init d q0) rfl (wr := []) rfl rfl rfl (ok_le rfl) ⟨ok_le rfl, ok_le rfl, ok_le rfl, ok_le rfl⟩ rfl rfl dL_law_4 (fun u_ hp_ => ?_)
  obtain ⟨x, a, b, c, e, p, q, ex, rfl⟩ := hp_
  subst ex
  refine g_astore_n E (lv' := [(1, .ref (x 0)), (0, .ref sa)]) dL_law_7 rfl (by decide) rfl ?_
  rw [List.append_nil]
  refine g_aload_n E 0 dL_law_8 rfl rfl ?_
  refine g_callSi0 E gc_L_isStick ml_L_76 (t_L_isStick d x a b c e p q S0 S0 (fun _ => 0) (fun _ => 0) Y0 (fun _ => none) ) rfl rfl rfl rfl (ok_le rfl) ⟨ok_le rfl, ok_le rfl, ok_le rfl, ok_le rfl⟩ rfl rfl dL_law_9 ?_
  refine g_nm (fun v1_ hv1_ => ?_)
  refine g_ifeq E 62 dL_law_12 (by decide) (fun q_ => absurd q_ (by rw [← hv1_, stick_1 AL_0.1 (by omega) AL_0.2.1]; decide)) (fun _ => ?_)
  refine g_aload_n E 0 dL_law_15 rfl rfl ?_
  refine g_sipush E 128 dL_law_16 (by decide) ?_
  refine g_sipush E 128 dL_law_19 (by decide) ?_
  refine g_callVi0 E gc_X4_wouldTell ml_L_29 (t_X4_wouldTell d x a b c e 128 128 p q S0 S0 (fun _ => 0) (fun _ => 0) Y0 (fun _ => none) ) rfl rfl (ci := 4) 0 rfl rfl rfl rfl (ok_le rfl) ⟨ok_le rfl, ok_le rfl, ok_le rfl, ok_le rfl⟩ rfl rfl dL_law_22 ?_
  refine g_nm (fun v2_ hv2_ => ?_)
  refine g_ldc E ki_L_50 dL_law_25 ?_
  refine g_icmpne E 62 dL_law_27 (by decide) (fun q_ => absurd (by rw [← hv2_]; exact w0_is) q_) (fun _ => ?_)
  refine g_aload_n E 0 dL_law_30 rfl rfl ?_
  refine g_sipush E 128 dL_law_31 (by decide) ?_
  refine g_sipush E 128 dL_law_34 (by decide) ?_
  refine g_callVi0 E gc_X4_learnedIn ml_L_35 (t_X4_learnedIn d x a b c e 128 128 p q S0 S0 (fun _ => 0) (fun _ => 0) Y0 (fun _ => none) (IV_hu AL_0.1)) rfl rfl (ci := 4) 0 rfl rfl rfl rfl (ok_le rfl) ⟨ok_le rfl, ok_le rfl, ok_le rfl, ok_le rfl⟩ rfl rfl dL_law_37 ?_
  obtain ⟨S3_, hS3_⟩ : ∃ z, c_X4_learnedIn_2 128 128 S0 S0 = z := ⟨_, rfl⟩
  rw [hS3_]
  refine g_nm (fun v4_ hv4_ => ?_)
  refine g_ifne E 62 dL_law_40 (by decide) (fun q_ => absurd (by rw [← hv4_]; exact l0_is _) q_) (fun _ => ?_)
  refine g_aload_n E 0 dL_law_43 rfl rfl ?_
  refine g_callVi0 E gc_X4_undo ml_L_80 (t_X4_undo d x a b c e p q S0 S3_ (fun _ => 0) (fun _ => 0) Y0 (fun _ => none) ⟨by decide, by decide⟩) rfl rfl (ci := 4) 0 rfl rfl rfl rfl (ok_le rfl) ⟨ok_le rfl, ok_le rfl, ok_le rfl, ok_le rfl⟩ rfl rfl dL_law_44 ?_
  obtain ⟨S5_, hS5_⟩ : ∃ z, c_X4_undo_1 S0 Y0 = z := ⟨_, rfl⟩
  rw [hS5_]
  obtain ⟨S6_, hS6_⟩ : ∃ z, c_X4_undo_y S0 Y0 = z := ⟨_, rfl⟩
  rw [hS6_]
  refine g_nm (fun v7_ hv7_ => ?_)
  refine g_bipush E (-5) dL_law_47 (by decide) ?_
  refine g_icmpne E 62 dL_law_49 (by decide) (fun q_ => absurd (by rw [← hv7_]; rfl) q_) (fun _ => ?_)
  refine g_aload_n E 0 dL_law_52 rfl rfl ?_
  refine g_iconst E 0 dL_law_53 (by decide) ?_
  refine g_iconst E 0 dL_law_54 (by decide) ?_
  refine g_callVi0 E gc_X4_direction ml_L_23 (t_X4_direction d x a b c e 0 0 p q S5_ S3_ (fun _ => 0) (fun _ => 0) S6_ (fun _ => none) ) rfl rfl (ci := 4) 0 rfl rfl rfl rfl (ok_le rfl) ⟨ok_le rfl, ok_le rfl, ok_le rfl, ok_le rfl⟩ rfl rfl dL_law_55 ?_
  refine g_nm (fun v8_ hv8_ => ?_)
  refine g_iconst E (-1) dL_law_58 (by decide) ?_
  refine g_icmpeq E 64 dL_law_59 (by decide) (fun _ => ?_) (fun q_ => absurd (by rw [← hv8_]; subst_vars; rfl) q_)
  refine g_iconst E 0 dL_law_64 (by decide) ?_
  refine g_istore_n E (lv' := [(2, .int 0), (1, .ref (x 0)), (0, .ref sa)]) dL_law_65 rfl (by decide) rfl ?_
  refine g_lvs (lv' := [(0, .ref sa), (1, .ref (x 0)), (2, .int 0)]) [2, 1, 0] rfl ?_
  refine g_widen (k1 := 60 + 402 * 0) (n1 := 2000 + 3876 * 0) (ok_le rfl) (ok_le rfl) ?_
  exact law_loop d x a b c e sa L xs hL _ _ E SC FIN 91 0 p q S5_ S3_ S6_ (fun _ => none) (by omega) (by omega) (by rw [← hS5_, ← hS6_]; exact AL_u)
