/-! the calls of isIn, where they are not refused -/
theorem IV_hu {S : SS} {B : Int} (I : IV S B) : ¬ S.2.2.1 0 < 0 := by
  obtain ⟨-, -, -, -, -, -, -, -, nd, c, h1, h2, -⟩ := I
  rw [h1]
  exact nI_pos (by omega)
theorem IV_hz {S : SS} {B : Int} (I : IV S B) : ¬ S.2.1 0 = 0 := fun q => by
  have h := I.1.1.1
  rw [q] at h
  exact absurd h (by decide)
theorem save_1 (S : SS) (ss : Nat → Option SS) : c_X4_save_ss 1 S ss 1 = some S := by
  unfold c_X4_save_ss
  rw [if_neg (by decide), if_pos (by decide)]
  exact sup_at ss 1 (some S)
theorem t3_X4_sample (d : gD) (x a b c e : Nat → Nat) (x1 y1 : Int32) (p q : Nat → Nat → Nat) (S T : SS) (h t : Nat → Int32) (y : HS) (ss : Nat → Option SS) (hy : y.1 < 6 ∧ y.2.1 ≤ 6) (hu : ¬ S.2.2.1 0 < 0) (hp : rgP x1 y1) (h21 : 0 ≤ (S.1 21).toInt ∧ (S.1 21).toInt ≤ 9998) : gMi d yX4_sample cX4_sample 3 (some .int) R_X4_sample [.ref (x 0), .int x1, .int y1] (XW d (x, a, b, c, e) p q S T h t y ss) (fun r_ u_ => r_ = r_X3_telling (c_X3_take x1 y1 S) ∧ ∃ p_ : Nat → Nat → Nat, u_ = XW d (x, a, b, c, e) p_ q (c_X3_take x1 y1 S) T h t (c_X1_keep_y y S) ss) := by
  obtain ⟨e1, e2, e3⟩ := sample_is (Y := y) hp h21
  refine (t_X4_sample d x a b c e x1 y1 p q S T h t y ss hy hu).mono ?_
  rw [e1, e2, e3]
theorem t3_X4_restore (d : gD) (x a b c e : Nat → Nat) (p q : Nat → Nat → Nat) (S S0 T : SS) (h t : Nat → Int32) (y : HS) (ss : Nat → Option SS) (hy : y.1 < 6 ∧ y.2.1 ≤ 6) (hs : ss 1 = some S0) : gMi d yX4_restore cX4_restore 3 (some .int) R_X4_restore [.ref (x 0), .int 1] (XW d (x, a, b, c, e) p q S T h t y ss) (fun r u => r = S0.1 21 ∧ ∃ p', u = XW d (x, a, b, c, e) p' q S0 T h t (c_X1_keep_y y S) ss) := by
  refine (t_X4_restore d x a b c e 1 p q S T h t y ss hy).mono ?_
  have e0 : ss (1 : Int32).toNatClampNeg = some S0 := hs
  have e1 : rsT 1 ss = some S0 := by
    unfold rsT
    rw [if_neg (by decide), if_pos (by decide), e0]
  have e2 : r_X4_restore 1 ss = S0.1 21 := by
    unfold r_X4_restore
    rw [if_neg (by decide), if_pos (by decide), e0]
    rfl
  rw [e1, e2]
  rfl
abbrev R_L_isIn : Room := { frames := 7, cells := 384, slots := 3705, locals := 163 }
set_option maxHeartbeats 4000000 in
set_option maxRecDepth 100000 in
theorem in_loop (d : gD) (x a b c e : Nat → Nat) (x1 y1 : Int32) (q : Nat → Nat → Nat) (S T : SS) (h t : Nat → Int32) (ss : Nat → Option SS) {B : Int} (I : IV S B) (hB : B ≤ 9000) (hp : rgP x1 y1) {L D : Int32} (hL : LRN x1 y1 S L) (hD : DRF x1 y1 S D) (hss : ss 1 = some S) {X : gX} (E : gE d X RL cL_isIn 13 R_L_isIn) (RET : ∀ (pc_ : Nat) (lv_ : List (Nat × Value)) (v_ : Int32) (u_ : va_W), decode cL_isIn pc_ = .ok (.ireturn, 1) → narrow .boolean (.int v_) = .int v_ → v_ = 1 → (∃ (p_ : Nat → Nat → Nat) (y_ : HS), u_ = XW d (x, a, b, c, e) p_ q S T h t y_ ss ∧ YK y_) → G d X u_ R_L_isIn.cells R_L_isIn.slots pc_ lv_ [.int v_]) :
    ∀ (n k : Nat) (f8 : Int32) (yk : HS) (p : Nat → Nat → Nat), k ≤ 61 → 61 - k < n → YK yk → FD x1 y1 S L f8 k → G d X (XW d (x, a, b, c, e) p q (itC x1 y1 k S) T h t yk ss) (6 + 6 * k) (57 + 57 * k) 55 [(0, .ref (x 0)), (1, .int x1), (2, .int y1), (3, .int L), (4, .int D), (5, .int (S.1 17)), (6, .int (S.1 21)), (7, .int (nI k)), (8, .int f8), (9, .int 1), (10, .int (nI k))] [] := by
  intro n
  induction n with
  | zero => intro k f8 yk p h1 h2; omega
  | succ n ih =>
    intro k f8 yk p hk hm hyk hf
    refine g_iload E 10 dL_isIn_55 rfl ?_
    refine g_bipush E 60 dL_isIn_57 (by decide) ?_
    refine g_icmpgt E 230 dL_isIn_59 (by decide) (fun c_59 => ?_) (fun c_59 => ?_)
    · skip
      refine g_iload E 9 dL_isIn_230 rfl ?_
      refine g_ifeq E 259 dL_isIn_232 (by decide) (fun q_ => absurd q_ (by decide)) (fun _ => ?_)
      refine g_aload_n E 0 dL_isIn_235 rfl rfl ?_
      refine g_iconst E 1 dL_isIn_236 (by decide) ?_
      refine g_callVi E (wr := []) gc_X4_restore ml_L_44 (t3_X4_restore d x a b c e p q (itC x1 y1 k S) S T h t yk ss hyk hss) rfl (List.append_nil _).symm (ci := 4) 0 rfl rfl rfl rfl (ok_le rfl) ⟨ok_le rfl, ok_le rfl, (by show _ ≤ (384 : Nat); (try dsimp only [R_X4_restore, R_X4_count, R_X4_of, R_X4_sample]); omega), (by show _ ≤ (3705 : Nat); (try dsimp only [R_X4_restore, R_X4_count, R_X4_of, R_X4_sample]); omega)⟩ rfl rfl dL_isIn_237 ?_
      rintro v_ u_ ⟨rfl, p8, rfl⟩
      refine g_eq (ws' := XW d (x, a, b, c, e) p8 q S T h t (c_X1_keep_y yk (itC x1 y1 k S)) ss) (List.append_nil _) ?_
      refine g_iload E 6 dL_isIn_240 rfl ?_
      refine g_icmpne E 259 dL_isIn_242 (by decide) (fun q_ => absurd rfl q_) (fun _ => ?_)
      refine g_aload_n E 0 dL_isIn_245 rfl rfl ?_
      refine g_iconst E 5 dL_isIn_246 (by decide) ?_
      refine g_callVi0 E gc_X4_count ml_L_8 (t_X4_count d x a b c e 5 p8 q S T h t (c_X1_keep_y yk (itC x1 y1 k S)) ss ) rfl rfl (ci := 4) 0 rfl rfl rfl rfl (ok_le rfl) ⟨ok_le rfl, ok_le rfl, (by show _ ≤ (384 : Nat); (try dsimp only [R_X4_restore, R_X4_count, R_X4_of, R_X4_sample]); omega), (by show _ ≤ (3705 : Nat); (try dsimp only [R_X4_restore, R_X4_count, R_X4_of, R_X4_sample]); omega)⟩ rfl rfl dL_isIn_247 ?_
      refine g_top (b := S.1 17) (count_5 _ _ _) ?_
      refine g_iload E 5 dL_isIn_250 rfl ?_
      refine g_icmpne E 259 dL_isIn_252 (by decide) (fun q_ => absurd rfl q_) (fun _ => ?_)
      refine g_iconst E 1 dL_isIn_255 (by decide) ?_
      refine g_goto E 260 dL_isIn_256 (by decide) ?_
      refine g_widen (k1 := R_L_isIn.cells) (n1 := R_L_isIn.slots) (by show _ ≤ (384 : Nat); (try dsimp only [R_X4_restore, R_X4_count, R_X4_of, R_X4_sample]); omega) (by show _ ≤ (3705 : Nat); (try dsimp only [R_X4_restore, R_X4_count, R_X4_of, R_X4_sample]); omega) ?_
      exact RET 260 _ 1 _ dL_isIn_260 rfl rfl ⟨p8, _, rfl, keep_hy _ hyk⟩
    · skip
      have k60 : k ≤ 60 := Nat.le_of_not_lt (fun q => c_59 ((nI_ltI (a := 60) (b := k) (by omega) (by omega)).mpr q))
      obtain ⟨Ik, e21k⟩ := it_IV I hp (by omega) k (by omega)
      have Ik1 := (it_IV I hp (by omega) (k + 1) (by omega)).1
      have h21k : 0 ≤ ((itC x1 y1 k S).1 21).toInt ∧ ((itC x1 y1 k S).1 21).toInt ≤ 9998 := by have := Ik.2.2.2.2.1; omega
      refine g_iload_n E 1 dL_isIn_62 rfl rfl ?_
      refine g_aload_n E 0 dL_isIn_63 rfl rfl ?_
      refine g_iconst E 0 dL_isIn_64 (by decide) ?_
      refine g_iconst E 0 dL_isIn_65 (by decide) ?_
      refine g_callVi0 E gc_X4_of ml_L_14 (t_X4_of d x a b c e 0 0 p q (itC x1 y1 k S) T h t yk ss ) rfl rfl (ci := 4) 0 rfl rfl rfl rfl (ok_le rfl) ⟨ok_le rfl, ok_le rfl, (by show _ ≤ (384 : Nat); (try dsimp only [R_X4_restore, R_X4_count, R_X4_of, R_X4_sample]); omega), (by show _ ≤ (3705 : Nat); (try dsimp only [R_X4_restore, R_X4_count, R_X4_of, R_X4_sample]); omega)⟩ rfl rfl dL_isIn_66 ?_
      refine g_top (b := ((itC x1 y1 k S).1) 7) (of_0_0 _) ?_
      refine g_bipush E 16 dL_isIn_69 (by decide) ?_
      refine g_idiv E dL_isIn_71 (by decide) ?_
      refine g_icmpne E 92 dL_isIn_72 (by decide) (fun c_72 => ?_) (fun c_72 => ?_)
      · skip
        have th : ¬ TH x1 y1 (itC x1 y1 k S) := fun q => c_72 q.1
        refine g_iconst E 0 dL_isIn_92 (by decide) ?_
        refine g_istore E (lv' := [(11, .int 0), (0, .ref (x 0)), (1, .int x1), (2, .int y1), (3, .int L), (4, .int D), (5, .int (S.1 17)), (6, .int (S.1 21)), (7, .int (nI k)), (8, .int f8), (9, .int 1), (10, .int (nI k))]) dL_isIn_93 (by decide) rfl ?_
        refine g_iload E 10 dL_isIn_95 rfl ?_
        refine g_ifeq E 139 dL_isIn_97 (by decide) (fun q_ => absurd q_ (by decide)) (fun _ => ?_)
        refine g_iload E 0 dL_isIn_100 rfl ?_
        refine g_ifeq E 129 dL_isIn_102 (by decide) (fun _ => ?_) (fun q_ => absurd q_ (by decide))
        refine g_iload_n E 4 dL_isIn_129 rfl rfl ?_
        refine g_iload E 11 dL_isIn_130 rfl ?_
        refine g_icmpeq E 139 dL_isIn_132 (by decide) (fun q_ => absurd q_ (not_th hL k60 th)) (fun _ => ?_)
        refine g_iconst E 1 dL_isIn_135 (by decide) ?_
        refine g_goto E 140 dL_isIn_136 (by decide) ?_
        refine g_istore E (lv' := [(9, .int 1), (11, .int 0), (0, .ref (x 0)), (1, .int x1), (2, .int y1), (3, .int L), (4, .int D), (5, .int (S.1 17)), (6, .int (S.1 21)), (7, .int (nI k)), (8, .int f8), (10, .int (nI k))]) dL_isIn_140 (by decide) rfl ?_
        refine g_iload E 1 dL_isIn_142 rfl ?_
        refine g_ifeq E 157 dL_isIn_144 (by decide) (fun _ => ?_) (fun q_ => absurd q_ (by decide))
        refine g_iload E 10 dL_isIn_157 rfl ?_
        refine g_istore E (lv' := [(8, .int f8), (9, .int 1), (11, .int 0), (0, .ref (x 0)), (1, .int x1), (2, .int y1), (3, .int L), (4, .int D), (5, .int (S.1 17)), (6, .int (S.1 21)), (7, .int (nI k)), (10, .int (nI k))]) dL_isIn_159 (by decide) rfl ?_
        refine g_aload_n E 3 dL_isIn_161 rfl rfl ?_
        refine g_iload_n E 4 dL_isIn_162 rfl rfl ?_
        refine g_iload_n E 5 dL_isIn_163 rfl rfl ?_
        refine g_callVi E (wr := []) gc_X4_sample ml_L_32 (t3_X4_sample d x a b c e x1 y1 p q (itC x1 y1 k S) T h t yk ss hyk (IV_hu Ik) hp h21k) rfl (List.append_nil _).symm (ci := 4) 0 rfl rfl rfl rfl (ok_le rfl) ⟨ok_le rfl, ok_le rfl, (by show _ ≤ (384 : Nat); (try dsimp only [R_X4_restore, R_X4_count, R_X4_of, R_X4_sample]); omega), (by show _ ≤ (3705 : Nat); (try dsimp only [R_X4_restore, R_X4_count, R_X4_of, R_X4_sample]); omega)⟩ rfl rfl dL_isIn_164 ?_
        rintro v_ u_ ⟨rfl, p9, rfl⟩
        refine g_eq (ws' := XW d (x, a, b, c, e) p9 q (itC x1 y1 (k + 1) S) T h t (c_X1_keep_y yk (itC x1 y1 k S)) ss) (List.append_nil _) ?_
        refine g_top (b := r_X3_telling (itC x1 y1 (k + 1) S)) rfl ?_
        refine g_istore E (lv' := [(12, .int (r_X3_telling (itC x1 y1 (k + 1) S))), (8, .int f8), (9, .int 1), (11, .int 0), (0, .ref (x 0)), (1, .int x1), (2, .int y1), (3, .int L), (4, .int D), (5, .int (S.1 17)), (6, .int (S.1 21)), (7, .int (nI k)), (10, .int (nI k))]) dL_isIn_167 (by decide) rfl ?_
        refine g_iinc E (j := 11) (v := (nI (k + 1))) (lv' := [(7, .int (nI (k + 1))), (12, .int (r_X3_telling (itC x1 y1 (k + 1) S))), (8, .int f8), (9, .int 1), (11, .int 0), (0, .ref (x 0)), (1, .int x1), (2, .int y1), (3, .int L), (4, .int D), (5, .int (S.1 17)), (6, .int (S.1 21)), (10, .int (nI k))]) dL_isIn_169 rfl (nI_1 _) (by decide) rfl ?_
        refine g_iload E 3 dL_isIn_172 rfl ?_
        refine g_ifeq E 221 dL_isIn_174 (by decide) (fun q_ => absurd q_ (by decide)) (fun _ => ?_)
        refine g_iload E 1 dL_isIn_177 rfl ?_
        refine g_iflt E 221 dL_isIn_179 (by decide) (fun q_ => absurd q_ (tell_nn Ik1)) (fun _ => ?_)
        refine g_aload_n E 5 dL_isIn_182 rfl rfl ?_
        refine g_iconst E 5 dL_isIn_183 (by decide) ?_
        refine g_callVi0 E gc_X4_count ml_L_8 (t_X4_count d x a b c e 5 p9 q (itC x1 y1 (k + 1) S) T h t (c_X1_keep_y yk (itC x1 y1 k S)) ss ) rfl rfl (ci := 4) 0 rfl rfl rfl rfl (ok_le rfl) ⟨ok_le rfl, ok_le rfl, (by show _ ≤ (384 : Nat); (try dsimp only [R_X4_restore, R_X4_count, R_X4_of, R_X4_sample]); omega), (by show _ ≤ (3705 : Nat); (try dsimp only [R_X4_restore, R_X4_count, R_X4_of, R_X4_sample]); omega)⟩ rfl rfl dL_isIn_184 ?_
        refine g_top (b := ((itC x1 y1 (k + 1) S).1) 17) (count_5 _ _ _) ?_
        refine g_iload E 10 dL_isIn_187 rfl ?_
        refine g_icmple E 196 dL_isIn_189 (by decide) (fun c_189 => ?_) (fun c_189 => ?_)
        · skip
          refine g_iconst E 0 dL_isIn_196 (by decide) ?_
          refine g_iload E 9 dL_isIn_197 rfl ?_
          refine g_ifle E 213 dL_isIn_199 (by decide) (fun c_199 => ?_) (fun c_199 => ?_)
          · skip
            refine g_iconst E 0 dL_isIn_213 (by decide) ?_
            refine g_icmpne E 221 dL_isIn_214 (by decide) (fun q_ => absurd q_ (by decide)) (fun _ => ?_)
            refine g_iconst E 1 dL_isIn_217 (by decide) ?_
            refine g_goto E 222 dL_isIn_218 (by decide) ?_
            refine g_istore E (lv' := [(9, .int 1), (7, .int (nI (k + 1))), (12, .int (r_X3_telling (itC x1 y1 (k + 1) S))), (8, .int f8), (11, .int 0), (0, .ref (x 0)), (1, .int x1), (2, .int y1), (3, .int L), (4, .int D), (5, .int (S.1 17)), (6, .int (S.1 21)), (10, .int (nI k))]) dL_isIn_222 (by decide) rfl ?_
            refine g_iinc E (j := 12) (v := (nI (k + 1))) (lv' := [(10, .int (nI (k + 1))), (9, .int 1), (7, .int (nI (k + 1))), (12, .int (r_X3_telling (itC x1 y1 (k + 1) S))), (8, .int f8), (11, .int 0), (0, .ref (x 0)), (1, .int x1), (2, .int y1), (3, .int L), (4, .int D), (5, .int (S.1 17)), (6, .int (S.1 21))]) dL_isIn_224 rfl (nI_1 _) (by decide) rfl ?_
            refine g_goto E 55 dL_isIn_227 (by decide) ?_
            refine g_lvs (lv' := [(0, .ref (x 0)), (1, .int x1), (2, .int y1), (3, .int L), (4, .int D), (5, .int (S.1 17)), (6, .int (S.1 21)), (7, .int (nI (k + 1))), (8, .int f8), (9, .int 1), (10, .int (nI (k + 1)))]) [6, 7, 8, 9, 10, 11, 12, 2, 4, 1, 0] rfl ?_
            refine g_widen (k1 := 6 + 6 * (k + 1)) (n1 := 57 + 57 * (k + 1)) (by (try dsimp only [R_X4_restore, R_X4_count, R_X4_of, R_X4_sample]); omega) (by (try dsimp only [R_X4_restore, R_X4_count, R_X4_of, R_X4_sample]); omega) ?_
            exact ih (k + 1) f8 (c_X1_keep_y yk (itC x1 y1 k S)) p9 (by omega) (by omega) (keep_hy _ hyk) (FD_no hf th)
          · skip
            refine g_iload E 0 dL_isIn_202 rfl ?_
            refine g_iload E 9 dL_isIn_204 rfl ?_
            refine g_icmplt E 213 dL_isIn_206 (by decide) (fun _ => ?_) (fun q_ => absurd (Classical.byContradiction (fun q_ => c_189 ((drift_iff I hp hB hD k k60).mpr ⟨c_199, q_⟩))) q_)
            refine g_iconst E 0 dL_isIn_213 (by decide) ?_
            refine g_icmpne E 221 dL_isIn_214 (by decide) (fun q_ => absurd q_ (by decide)) (fun _ => ?_)
            refine g_iconst E 1 dL_isIn_217 (by decide) ?_
            refine g_goto E 222 dL_isIn_218 (by decide) ?_
            refine g_istore E (lv' := [(9, .int 1), (7, .int (nI (k + 1))), (12, .int (r_X3_telling (itC x1 y1 (k + 1) S))), (8, .int f8), (11, .int 0), (0, .ref (x 0)), (1, .int x1), (2, .int y1), (3, .int L), (4, .int D), (5, .int (S.1 17)), (6, .int (S.1 21)), (10, .int (nI k))]) dL_isIn_222 (by decide) rfl ?_
            refine g_iinc E (j := 12) (v := (nI (k + 1))) (lv' := [(10, .int (nI (k + 1))), (9, .int 1), (7, .int (nI (k + 1))), (12, .int (r_X3_telling (itC x1 y1 (k + 1) S))), (8, .int f8), (11, .int 0), (0, .ref (x 0)), (1, .int x1), (2, .int y1), (3, .int L), (4, .int D), (5, .int (S.1 17)), (6, .int (S.1 21))]) dL_isIn_224 rfl (nI_1 _) (by decide) rfl ?_
            refine g_goto E 55 dL_isIn_227 (by decide) ?_
            refine g_lvs (lv' := [(0, .ref (x 0)), (1, .int x1), (2, .int y1), (3, .int L), (4, .int D), (5, .int (S.1 17)), (6, .int (S.1 21)), (7, .int (nI (k + 1))), (8, .int f8), (9, .int 1), (10, .int (nI (k + 1)))]) [6, 7, 8, 9, 10, 11, 12, 2, 4, 1, 0] rfl ?_
            refine g_widen (k1 := 6 + 6 * (k + 1)) (n1 := 57 + 57 * (k + 1)) (by (try dsimp only [R_X4_restore, R_X4_count, R_X4_of, R_X4_sample]); omega) (by (try dsimp only [R_X4_restore, R_X4_count, R_X4_of, R_X4_sample]); omega) ?_
            exact ih (k + 1) f8 (c_X1_keep_y yk (itC x1 y1 k S)) p9 (by omega) (by omega) (keep_hy _ hyk) (FD_no hf th)
        · skip
          refine g_iconst E 1 dL_isIn_192 (by decide) ?_
          refine g_goto E 197 dL_isIn_193 (by decide) ?_
          refine g_iload E 9 dL_isIn_197 rfl ?_
          refine g_ifle E 213 dL_isIn_199 (by decide) (fun q_ => absurd ((drift_iff I hp hB hD k k60).mp c_189).1 q_) (fun _ => ?_)
          refine g_iload E 0 dL_isIn_202 rfl ?_
          refine g_iload E 9 dL_isIn_204 rfl ?_
          refine g_icmplt E 213 dL_isIn_206 (by decide) (fun q_ => absurd q_ ((drift_iff I hp hB hD k k60).mp c_189).2) (fun _ => ?_)
          refine g_iconst E 1 dL_isIn_209 (by decide) ?_
          refine g_goto E 214 dL_isIn_210 (by decide) ?_
          refine g_icmpne E 221 dL_isIn_214 (by decide) (fun q_ => absurd q_ (by decide)) (fun _ => ?_)
          refine g_iconst E 1 dL_isIn_217 (by decide) ?_
          refine g_goto E 222 dL_isIn_218 (by decide) ?_
          refine g_istore E (lv' := [(9, .int 1), (7, .int (nI (k + 1))), (12, .int (r_X3_telling (itC x1 y1 (k + 1) S))), (8, .int f8), (11, .int 0), (0, .ref (x 0)), (1, .int x1), (2, .int y1), (3, .int L), (4, .int D), (5, .int (S.1 17)), (6, .int (S.1 21)), (10, .int (nI k))]) dL_isIn_222 (by decide) rfl ?_
          refine g_iinc E (j := 12) (v := (nI (k + 1))) (lv' := [(10, .int (nI (k + 1))), (9, .int 1), (7, .int (nI (k + 1))), (12, .int (r_X3_telling (itC x1 y1 (k + 1) S))), (8, .int f8), (11, .int 0), (0, .ref (x 0)), (1, .int x1), (2, .int y1), (3, .int L), (4, .int D), (5, .int (S.1 17)), (6, .int (S.1 21))]) dL_isIn_224 rfl (nI_1 _) (by decide) rfl ?_
          refine g_goto E 55 dL_isIn_227 (by decide) ?_
          refine g_lvs (lv' := [(0, .ref (x 0)), (1, .int x1), (2, .int y1), (3, .int L), (4, .int D), (5, .int (S.1 17)), (6, .int (S.1 21)), (7, .int (nI (k + 1))), (8, .int f8), (9, .int 1), (10, .int (nI (k + 1)))]) [6, 7, 8, 9, 10, 11, 12, 2, 4, 1, 0] rfl ?_
          refine g_widen (k1 := 6 + 6 * (k + 1)) (n1 := 57 + 57 * (k + 1)) (by (try dsimp only [R_X4_restore, R_X4_count, R_X4_of, R_X4_sample]); omega) (by (try dsimp only [R_X4_restore, R_X4_count, R_X4_of, R_X4_sample]); omega) ?_
          exact ih (k + 1) f8 (c_X1_keep_y yk (itC x1 y1 k S)) p9 (by omega) (by omega) (keep_hy _ hyk) (FD_no hf th)
      · skip
        refine g_iload_n E 2 dL_isIn_75 rfl rfl ?_
        refine g_aload_n E 0 dL_isIn_76 rfl rfl ?_
        refine g_iconst E 1 dL_isIn_77 (by decide) ?_
        refine g_iconst E 0 dL_isIn_78 (by decide) ?_
        refine g_callVi0 E gc_X4_of ml_L_14 (t_X4_of d x a b c e 1 0 p q (itC x1 y1 k S) T h t yk ss ) rfl rfl (ci := 4) 0 rfl rfl rfl rfl (ok_le rfl) ⟨ok_le rfl, ok_le rfl, (by show _ ≤ (384 : Nat); (try dsimp only [R_X4_restore, R_X4_count, R_X4_of, R_X4_sample]); omega), (by show _ ≤ (3705 : Nat); (try dsimp only [R_X4_restore, R_X4_count, R_X4_of, R_X4_sample]); omega)⟩ rfl rfl dL_isIn_79 ?_
        refine g_top (b := ((itC x1 y1 k S).1) 8) (of_1_0 _) ?_
        refine g_bipush E 16 dL_isIn_82 (by decide) ?_
        refine g_idiv E dL_isIn_84 (by decide) ?_
        refine g_icmpne E 92 dL_isIn_85 (by decide) (fun c_85 => ?_) (fun c_85 => ?_)
        · skip
          have th : ¬ TH x1 y1 (itC x1 y1 k S) := fun q => c_85 q.2
          refine g_iconst E 0 dL_isIn_92 (by decide) ?_
          refine g_istore E (lv' := [(11, .int 0), (0, .ref (x 0)), (1, .int x1), (2, .int y1), (3, .int L), (4, .int D), (5, .int (S.1 17)), (6, .int (S.1 21)), (7, .int (nI k)), (8, .int f8), (9, .int 1), (10, .int (nI k))]) dL_isIn_93 (by decide) rfl ?_
          refine g_iload E 10 dL_isIn_95 rfl ?_
          refine g_ifeq E 139 dL_isIn_97 (by decide) (fun q_ => absurd q_ (by decide)) (fun _ => ?_)
          refine g_iload E 0 dL_isIn_100 rfl ?_
          refine g_ifeq E 129 dL_isIn_102 (by decide) (fun _ => ?_) (fun q_ => absurd q_ (by decide))
          refine g_iload_n E 4 dL_isIn_129 rfl rfl ?_
          refine g_iload E 11 dL_isIn_130 rfl ?_
          refine g_icmpeq E 139 dL_isIn_132 (by decide) (fun q_ => absurd q_ (not_th hL k60 th)) (fun _ => ?_)
          refine g_iconst E 1 dL_isIn_135 (by decide) ?_
          refine g_goto E 140 dL_isIn_136 (by decide) ?_
          refine g_istore E (lv' := [(9, .int 1), (11, .int 0), (0, .ref (x 0)), (1, .int x1), (2, .int y1), (3, .int L), (4, .int D), (5, .int (S.1 17)), (6, .int (S.1 21)), (7, .int (nI k)), (8, .int f8), (10, .int (nI k))]) dL_isIn_140 (by decide) rfl ?_
          refine g_iload E 1 dL_isIn_142 rfl ?_
          refine g_ifeq E 157 dL_isIn_144 (by decide) (fun _ => ?_) (fun q_ => absurd q_ (by decide))
          refine g_iload E 10 dL_isIn_157 rfl ?_
          refine g_istore E (lv' := [(8, .int f8), (9, .int 1), (11, .int 0), (0, .ref (x 0)), (1, .int x1), (2, .int y1), (3, .int L), (4, .int D), (5, .int (S.1 17)), (6, .int (S.1 21)), (7, .int (nI k)), (10, .int (nI k))]) dL_isIn_159 (by decide) rfl ?_
          refine g_aload_n E 3 dL_isIn_161 rfl rfl ?_
          refine g_iload_n E 4 dL_isIn_162 rfl rfl ?_
          refine g_iload_n E 5 dL_isIn_163 rfl rfl ?_
          refine g_callVi E (wr := []) gc_X4_sample ml_L_32 (t3_X4_sample d x a b c e x1 y1 p q (itC x1 y1 k S) T h t yk ss hyk (IV_hu Ik) hp h21k) rfl (List.append_nil _).symm (ci := 4) 0 rfl rfl rfl rfl (ok_le rfl) ⟨ok_le rfl, ok_le rfl, (by show _ ≤ (384 : Nat); (try dsimp only [R_X4_restore, R_X4_count, R_X4_of, R_X4_sample]); omega), (by show _ ≤ (3705 : Nat); (try dsimp only [R_X4_restore, R_X4_count, R_X4_of, R_X4_sample]); omega)⟩ rfl rfl dL_isIn_164 ?_
          rintro v_ u_ ⟨rfl, p9, rfl⟩
          refine g_eq (ws' := XW d (x, a, b, c, e) p9 q (itC x1 y1 (k + 1) S) T h t (c_X1_keep_y yk (itC x1 y1 k S)) ss) (List.append_nil _) ?_
          refine g_top (b := r_X3_telling (itC x1 y1 (k + 1) S)) rfl ?_
          refine g_istore E (lv' := [(12, .int (r_X3_telling (itC x1 y1 (k + 1) S))), (8, .int f8), (9, .int 1), (11, .int 0), (0, .ref (x 0)), (1, .int x1), (2, .int y1), (3, .int L), (4, .int D), (5, .int (S.1 17)), (6, .int (S.1 21)), (7, .int (nI k)), (10, .int (nI k))]) dL_isIn_167 (by decide) rfl ?_
          refine g_iinc E (j := 11) (v := (nI (k + 1))) (lv' := [(7, .int (nI (k + 1))), (12, .int (r_X3_telling (itC x1 y1 (k + 1) S))), (8, .int f8), (9, .int 1), (11, .int 0), (0, .ref (x 0)), (1, .int x1), (2, .int y1), (3, .int L), (4, .int D), (5, .int (S.1 17)), (6, .int (S.1 21)), (10, .int (nI k))]) dL_isIn_169 rfl (nI_1 _) (by decide) rfl ?_
          refine g_iload E 3 dL_isIn_172 rfl ?_
          refine g_ifeq E 221 dL_isIn_174 (by decide) (fun q_ => absurd q_ (by decide)) (fun _ => ?_)
          refine g_iload E 1 dL_isIn_177 rfl ?_
          refine g_iflt E 221 dL_isIn_179 (by decide) (fun q_ => absurd q_ (tell_nn Ik1)) (fun _ => ?_)
          refine g_aload_n E 5 dL_isIn_182 rfl rfl ?_
          refine g_iconst E 5 dL_isIn_183 (by decide) ?_
          refine g_callVi0 E gc_X4_count ml_L_8 (t_X4_count d x a b c e 5 p9 q (itC x1 y1 (k + 1) S) T h t (c_X1_keep_y yk (itC x1 y1 k S)) ss ) rfl rfl (ci := 4) 0 rfl rfl rfl rfl (ok_le rfl) ⟨ok_le rfl, ok_le rfl, (by show _ ≤ (384 : Nat); (try dsimp only [R_X4_restore, R_X4_count, R_X4_of, R_X4_sample]); omega), (by show _ ≤ (3705 : Nat); (try dsimp only [R_X4_restore, R_X4_count, R_X4_of, R_X4_sample]); omega)⟩ rfl rfl dL_isIn_184 ?_
          refine g_top (b := ((itC x1 y1 (k + 1) S).1) 17) (count_5 _ _ _) ?_
          refine g_iload E 10 dL_isIn_187 rfl ?_
          refine g_icmple E 196 dL_isIn_189 (by decide) (fun c_189 => ?_) (fun c_189 => ?_)
          · skip
            refine g_iconst E 0 dL_isIn_196 (by decide) ?_
            refine g_iload E 9 dL_isIn_197 rfl ?_
            refine g_ifle E 213 dL_isIn_199 (by decide) (fun c_199 => ?_) (fun c_199 => ?_)
            · skip
              refine g_iconst E 0 dL_isIn_213 (by decide) ?_
              refine g_icmpne E 221 dL_isIn_214 (by decide) (fun q_ => absurd q_ (by decide)) (fun _ => ?_)
              refine g_iconst E 1 dL_isIn_217 (by decide) ?_
              refine g_goto E 222 dL_isIn_218 (by decide) ?_
              refine g_istore E (lv' := [(9, .int 1), (7, .int (nI (k + 1))), (12, .int (r_X3_telling (itC x1 y1 (k + 1) S))), (8, .int f8), (11, .int 0), (0, .ref (x 0)), (1, .int x1), (2, .int y1), (3, .int L), (4, .int D), (5, .int (S.1 17)), (6, .int (S.1 21)), (10, .int (nI k))]) dL_isIn_222 (by decide) rfl ?_
              refine g_iinc E (j := 12) (v := (nI (k + 1))) (lv' := [(10, .int (nI (k + 1))), (9, .int 1), (7, .int (nI (k + 1))), (12, .int (r_X3_telling (itC x1 y1 (k + 1) S))), (8, .int f8), (11, .int 0), (0, .ref (x 0)), (1, .int x1), (2, .int y1), (3, .int L), (4, .int D), (5, .int (S.1 17)), (6, .int (S.1 21))]) dL_isIn_224 rfl (nI_1 _) (by decide) rfl ?_
              refine g_goto E 55 dL_isIn_227 (by decide) ?_
              refine g_lvs (lv' := [(0, .ref (x 0)), (1, .int x1), (2, .int y1), (3, .int L), (4, .int D), (5, .int (S.1 17)), (6, .int (S.1 21)), (7, .int (nI (k + 1))), (8, .int f8), (9, .int 1), (10, .int (nI (k + 1)))]) [6, 7, 8, 9, 10, 11, 12, 2, 4, 1, 0] rfl ?_
              refine g_widen (k1 := 6 + 6 * (k + 1)) (n1 := 57 + 57 * (k + 1)) (by (try dsimp only [R_X4_restore, R_X4_count, R_X4_of, R_X4_sample]); omega) (by (try dsimp only [R_X4_restore, R_X4_count, R_X4_of, R_X4_sample]); omega) ?_
              exact ih (k + 1) f8 (c_X1_keep_y yk (itC x1 y1 k S)) p9 (by omega) (by omega) (keep_hy _ hyk) (FD_no hf th)
            · skip
              refine g_iload E 0 dL_isIn_202 rfl ?_
              refine g_iload E 9 dL_isIn_204 rfl ?_
              refine g_icmplt E 213 dL_isIn_206 (by decide) (fun _ => ?_) (fun q_ => absurd (Classical.byContradiction (fun q_ => c_189 ((drift_iff I hp hB hD k k60).mpr ⟨c_199, q_⟩))) q_)
              refine g_iconst E 0 dL_isIn_213 (by decide) ?_
              refine g_icmpne E 221 dL_isIn_214 (by decide) (fun q_ => absurd q_ (by decide)) (fun _ => ?_)
              refine g_iconst E 1 dL_isIn_217 (by decide) ?_
              refine g_goto E 222 dL_isIn_218 (by decide) ?_
              refine g_istore E (lv' := [(9, .int 1), (7, .int (nI (k + 1))), (12, .int (r_X3_telling (itC x1 y1 (k + 1) S))), (8, .int f8), (11, .int 0), (0, .ref (x 0)), (1, .int x1), (2, .int y1), (3, .int L), (4, .int D), (5, .int (S.1 17)), (6, .int (S.1 21)), (10, .int (nI k))]) dL_isIn_222 (by decide) rfl ?_
              refine g_iinc E (j := 12) (v := (nI (k + 1))) (lv' := [(10, .int (nI (k + 1))), (9, .int 1), (7, .int (nI (k + 1))), (12, .int (r_X3_telling (itC x1 y1 (k + 1) S))), (8, .int f8), (11, .int 0), (0, .ref (x 0)), (1, .int x1), (2, .int y1), (3, .int L), (4, .int D), (5, .int (S.1 17)), (6, .int (S.1 21))]) dL_isIn_224 rfl (nI_1 _) (by decide) rfl ?_
              refine g_goto E 55 dL_isIn_227 (by decide) ?_
              refine g_lvs (lv' := [(0, .ref (x 0)), (1, .int x1), (2, .int y1), (3, .int L), (4, .int D), (5, .int (S.1 17)), (6, .int (S.1 21)), (7, .int (nI (k + 1))), (8, .int f8), (9, .int 1), (10, .int (nI (k + 1)))]) [6, 7, 8, 9, 10, 11, 12, 2, 4, 1, 0] rfl ?_
              refine g_widen (k1 := 6 + 6 * (k + 1)) (n1 := 57 + 57 * (k + 1)) (by (try dsimp only [R_X4_restore, R_X4_count, R_X4_of, R_X4_sample]); omega) (by (try dsimp only [R_X4_restore, R_X4_count, R_X4_of, R_X4_sample]); omega) ?_
              exact ih (k + 1) f8 (c_X1_keep_y yk (itC x1 y1 k S)) p9 (by omega) (by omega) (keep_hy _ hyk) (FD_no hf th)
          · skip
            refine g_iconst E 1 dL_isIn_192 (by decide) ?_
            refine g_goto E 197 dL_isIn_193 (by decide) ?_
            refine g_iload E 9 dL_isIn_197 rfl ?_
            refine g_ifle E 213 dL_isIn_199 (by decide) (fun q_ => absurd ((drift_iff I hp hB hD k k60).mp c_189).1 q_) (fun _ => ?_)
            refine g_iload E 0 dL_isIn_202 rfl ?_
            refine g_iload E 9 dL_isIn_204 rfl ?_
            refine g_icmplt E 213 dL_isIn_206 (by decide) (fun q_ => absurd q_ ((drift_iff I hp hB hD k k60).mp c_189).2) (fun _ => ?_)
            refine g_iconst E 1 dL_isIn_209 (by decide) ?_
            refine g_goto E 214 dL_isIn_210 (by decide) ?_
            refine g_icmpne E 221 dL_isIn_214 (by decide) (fun q_ => absurd q_ (by decide)) (fun _ => ?_)
            refine g_iconst E 1 dL_isIn_217 (by decide) ?_
            refine g_goto E 222 dL_isIn_218 (by decide) ?_
            refine g_istore E (lv' := [(9, .int 1), (7, .int (nI (k + 1))), (12, .int (r_X3_telling (itC x1 y1 (k + 1) S))), (8, .int f8), (11, .int 0), (0, .ref (x 0)), (1, .int x1), (2, .int y1), (3, .int L), (4, .int D), (5, .int (S.1 17)), (6, .int (S.1 21)), (10, .int (nI k))]) dL_isIn_222 (by decide) rfl ?_
            refine g_iinc E (j := 12) (v := (nI (k + 1))) (lv' := [(10, .int (nI (k + 1))), (9, .int 1), (7, .int (nI (k + 1))), (12, .int (r_X3_telling (itC x1 y1 (k + 1) S))), (8, .int f8), (11, .int 0), (0, .ref (x 0)), (1, .int x1), (2, .int y1), (3, .int L), (4, .int D), (5, .int (S.1 17)), (6, .int (S.1 21))]) dL_isIn_224 rfl (nI_1 _) (by decide) rfl ?_
            refine g_goto E 55 dL_isIn_227 (by decide) ?_
            refine g_lvs (lv' := [(0, .ref (x 0)), (1, .int x1), (2, .int y1), (3, .int L), (4, .int D), (5, .int (S.1 17)), (6, .int (S.1 21)), (7, .int (nI (k + 1))), (8, .int f8), (9, .int 1), (10, .int (nI (k + 1)))]) [6, 7, 8, 9, 10, 11, 12, 2, 4, 1, 0] rfl ?_
            refine g_widen (k1 := 6 + 6 * (k + 1)) (n1 := 57 + 57 * (k + 1)) (by (try dsimp only [R_X4_restore, R_X4_count, R_X4_of, R_X4_sample]); omega) (by (try dsimp only [R_X4_restore, R_X4_count, R_X4_of, R_X4_sample]); omega) ?_
            exact ih (k + 1) f8 (c_X1_keep_y yk (itC x1 y1 k S)) p9 (by omega) (by omega) (keep_hy _ hyk) (FD_no hf th)
        · skip
          have th : TH x1 y1 (itC x1 y1 k S) := ⟨c_72, c_85⟩
          refine g_iconst E 1 dL_isIn_88 (by decide) ?_
          refine g_goto E 93 dL_isIn_89 (by decide) ?_
          refine g_istore E (lv' := [(11, .int 1), (0, .ref (x 0)), (1, .int x1), (2, .int y1), (3, .int L), (4, .int D), (5, .int (S.1 17)), (6, .int (S.1 21)), (7, .int (nI k)), (8, .int f8), (9, .int 1), (10, .int (nI k))]) dL_isIn_93 (by decide) rfl ?_
          refine g_iload E 10 dL_isIn_95 rfl ?_
          refine g_ifeq E 139 dL_isIn_97 (by decide) (fun q_ => absurd q_ (by decide)) (fun _ => ?_)
          refine g_iload E 0 dL_isIn_100 rfl ?_
          refine g_ifeq E 129 dL_isIn_102 (by decide) (fun q_ => absurd q_ (by decide)) (fun _ => ?_)
          refine g_iload_n E 4 dL_isIn_105 rfl rfl ?_
          refine g_iflt E 139 dL_isIn_106 (by decide) (fun q_ => absurd q_ (th_nn hL k60 th)) (fun _ => ?_)
          refine g_iload_n E 4 dL_isIn_109 rfl rfl ?_
          refine g_iload E 11 dL_isIn_110 rfl ?_
          refine g_icmpeq E 135 dL_isIn_112 (by decide) (fun c_112 => ?_) (fun c_112 => ?_)
          · skip
            refine g_iconst E 1 dL_isIn_135 (by decide) ?_
            refine g_goto E 140 dL_isIn_136 (by decide) ?_
            refine g_istore E (lv' := [(9, .int 1), (11, .int 1), (0, .ref (x 0)), (1, .int x1), (2, .int y1), (3, .int L), (4, .int D), (5, .int (S.1 17)), (6, .int (S.1 21)), (7, .int (nI k)), (8, .int f8), (10, .int (nI k))]) dL_isIn_140 (by decide) rfl ?_
            refine g_iload E 1 dL_isIn_142 rfl ?_
            refine g_ifeq E 157 dL_isIn_144 (by decide) (fun q_ => absurd q_ (by decide)) (fun _ => ?_)
            refine g_iload E 10 dL_isIn_147 rfl ?_
            refine g_ifge E 157 dL_isIn_149 (by decide) (fun q_ => absurd (FD_now hf k60 c_112) q_) (fun _ => ?_)
            refine g_iload E 11 dL_isIn_152 rfl ?_
            refine g_goto E 159 dL_isIn_154 (by decide) ?_
            refine g_istore E (lv' := [(8, .int (nI k)), (9, .int 1), (11, .int 1), (0, .ref (x 0)), (1, .int x1), (2, .int y1), (3, .int L), (4, .int D), (5, .int (S.1 17)), (6, .int (S.1 21)), (7, .int (nI k)), (10, .int (nI k))]) dL_isIn_159 (by decide) rfl ?_
            refine g_aload_n E 3 dL_isIn_161 rfl rfl ?_
            refine g_iload_n E 4 dL_isIn_162 rfl rfl ?_
            refine g_iload_n E 5 dL_isIn_163 rfl rfl ?_
            refine g_callVi E (wr := []) gc_X4_sample ml_L_32 (t3_X4_sample d x a b c e x1 y1 p q (itC x1 y1 k S) T h t yk ss hyk (IV_hu Ik) hp h21k) rfl (List.append_nil _).symm (ci := 4) 0 rfl rfl rfl rfl (ok_le rfl) ⟨ok_le rfl, ok_le rfl, (by show _ ≤ (384 : Nat); (try dsimp only [R_X4_restore, R_X4_count, R_X4_of, R_X4_sample]); omega), (by show _ ≤ (3705 : Nat); (try dsimp only [R_X4_restore, R_X4_count, R_X4_of, R_X4_sample]); omega)⟩ rfl rfl dL_isIn_164 ?_
            rintro v_ u_ ⟨rfl, p9, rfl⟩
            refine g_eq (ws' := XW d (x, a, b, c, e) p9 q (itC x1 y1 (k + 1) S) T h t (c_X1_keep_y yk (itC x1 y1 k S)) ss) (List.append_nil _) ?_
            refine g_top (b := r_X3_telling (itC x1 y1 (k + 1) S)) rfl ?_
            refine g_istore E (lv' := [(12, .int (r_X3_telling (itC x1 y1 (k + 1) S))), (8, .int (nI k)), (9, .int 1), (11, .int 1), (0, .ref (x 0)), (1, .int x1), (2, .int y1), (3, .int L), (4, .int D), (5, .int (S.1 17)), (6, .int (S.1 21)), (7, .int (nI k)), (10, .int (nI k))]) dL_isIn_167 (by decide) rfl ?_
            refine g_iinc E (j := 11) (v := (nI (k + 1))) (lv' := [(7, .int (nI (k + 1))), (12, .int (r_X3_telling (itC x1 y1 (k + 1) S))), (8, .int (nI k)), (9, .int 1), (11, .int 1), (0, .ref (x 0)), (1, .int x1), (2, .int y1), (3, .int L), (4, .int D), (5, .int (S.1 17)), (6, .int (S.1 21)), (10, .int (nI k))]) dL_isIn_169 rfl (nI_1 _) (by decide) rfl ?_
            refine g_iload E 3 dL_isIn_172 rfl ?_
            refine g_ifeq E 221 dL_isIn_174 (by decide) (fun q_ => absurd q_ (by decide)) (fun _ => ?_)
            refine g_iload E 1 dL_isIn_177 rfl ?_
            refine g_iflt E 221 dL_isIn_179 (by decide) (fun q_ => absurd q_ (tell_nn Ik1)) (fun _ => ?_)
            refine g_aload_n E 5 dL_isIn_182 rfl rfl ?_
            refine g_iconst E 5 dL_isIn_183 (by decide) ?_
            refine g_callVi0 E gc_X4_count ml_L_8 (t_X4_count d x a b c e 5 p9 q (itC x1 y1 (k + 1) S) T h t (c_X1_keep_y yk (itC x1 y1 k S)) ss ) rfl rfl (ci := 4) 0 rfl rfl rfl rfl (ok_le rfl) ⟨ok_le rfl, ok_le rfl, (by show _ ≤ (384 : Nat); (try dsimp only [R_X4_restore, R_X4_count, R_X4_of, R_X4_sample]); omega), (by show _ ≤ (3705 : Nat); (try dsimp only [R_X4_restore, R_X4_count, R_X4_of, R_X4_sample]); omega)⟩ rfl rfl dL_isIn_184 ?_
            refine g_top (b := ((itC x1 y1 (k + 1) S).1) 17) (count_5 _ _ _) ?_
            refine g_iload E 10 dL_isIn_187 rfl ?_
            refine g_icmple E 196 dL_isIn_189 (by decide) (fun c_189 => ?_) (fun c_189 => ?_)
            · skip
              refine g_iconst E 0 dL_isIn_196 (by decide) ?_
              refine g_iload E 9 dL_isIn_197 rfl ?_
              refine g_ifle E 213 dL_isIn_199 (by decide) (fun c_199 => ?_) (fun c_199 => ?_)
              · skip
                refine g_iconst E 0 dL_isIn_213 (by decide) ?_
                refine g_icmpne E 221 dL_isIn_214 (by decide) (fun q_ => absurd q_ (by decide)) (fun _ => ?_)
                refine g_iconst E 1 dL_isIn_217 (by decide) ?_
                refine g_goto E 222 dL_isIn_218 (by decide) ?_
                refine g_istore E (lv' := [(9, .int 1), (7, .int (nI (k + 1))), (12, .int (r_X3_telling (itC x1 y1 (k + 1) S))), (8, .int (nI k)), (11, .int 1), (0, .ref (x 0)), (1, .int x1), (2, .int y1), (3, .int L), (4, .int D), (5, .int (S.1 17)), (6, .int (S.1 21)), (10, .int (nI k))]) dL_isIn_222 (by decide) rfl ?_
                refine g_iinc E (j := 12) (v := (nI (k + 1))) (lv' := [(10, .int (nI (k + 1))), (9, .int 1), (7, .int (nI (k + 1))), (12, .int (r_X3_telling (itC x1 y1 (k + 1) S))), (8, .int (nI k)), (11, .int 1), (0, .ref (x 0)), (1, .int x1), (2, .int y1), (3, .int L), (4, .int D), (5, .int (S.1 17)), (6, .int (S.1 21))]) dL_isIn_224 rfl (nI_1 _) (by decide) rfl ?_
                refine g_goto E 55 dL_isIn_227 (by decide) ?_
                refine g_lvs (lv' := [(0, .ref (x 0)), (1, .int x1), (2, .int y1), (3, .int L), (4, .int D), (5, .int (S.1 17)), (6, .int (S.1 21)), (7, .int (nI (k + 1))), (8, .int (nI k)), (9, .int 1), (10, .int (nI (k + 1)))]) [6, 7, 8, 9, 10, 11, 12, 2, 4, 1, 0] rfl ?_
                refine g_widen (k1 := 6 + 6 * (k + 1)) (n1 := 57 + 57 * (k + 1)) (by (try dsimp only [R_X4_restore, R_X4_count, R_X4_of, R_X4_sample]); omega) (by (try dsimp only [R_X4_restore, R_X4_count, R_X4_of, R_X4_sample]); omega) ?_
                exact ih (k + 1) (nI k) (c_X1_keep_y yk (itC x1 y1 k S)) p9 (by omega) (by omega) (keep_hy _ hyk) (FD_here c_112 th)
              · skip
                refine g_iload E 0 dL_isIn_202 rfl ?_
                refine g_iload E 9 dL_isIn_204 rfl ?_
                refine g_icmplt E 213 dL_isIn_206 (by decide) (fun _ => ?_) (fun q_ => absurd (Classical.byContradiction (fun q_ => c_189 ((drift_iff I hp hB hD k k60).mpr ⟨c_199, q_⟩))) q_)
                refine g_iconst E 0 dL_isIn_213 (by decide) ?_
                refine g_icmpne E 221 dL_isIn_214 (by decide) (fun q_ => absurd q_ (by decide)) (fun _ => ?_)
                refine g_iconst E 1 dL_isIn_217 (by decide) ?_
                refine g_goto E 222 dL_isIn_218 (by decide) ?_
                refine g_istore E (lv' := [(9, .int 1), (7, .int (nI (k + 1))), (12, .int (r_X3_telling (itC x1 y1 (k + 1) S))), (8, .int (nI k)), (11, .int 1), (0, .ref (x 0)), (1, .int x1), (2, .int y1), (3, .int L), (4, .int D), (5, .int (S.1 17)), (6, .int (S.1 21)), (10, .int (nI k))]) dL_isIn_222 (by decide) rfl ?_
                refine g_iinc E (j := 12) (v := (nI (k + 1))) (lv' := [(10, .int (nI (k + 1))), (9, .int 1), (7, .int (nI (k + 1))), (12, .int (r_X3_telling (itC x1 y1 (k + 1) S))), (8, .int (nI k)), (11, .int 1), (0, .ref (x 0)), (1, .int x1), (2, .int y1), (3, .int L), (4, .int D), (5, .int (S.1 17)), (6, .int (S.1 21))]) dL_isIn_224 rfl (nI_1 _) (by decide) rfl ?_
                refine g_goto E 55 dL_isIn_227 (by decide) ?_
                refine g_lvs (lv' := [(0, .ref (x 0)), (1, .int x1), (2, .int y1), (3, .int L), (4, .int D), (5, .int (S.1 17)), (6, .int (S.1 21)), (7, .int (nI (k + 1))), (8, .int (nI k)), (9, .int 1), (10, .int (nI (k + 1)))]) [6, 7, 8, 9, 10, 11, 12, 2, 4, 1, 0] rfl ?_
                refine g_widen (k1 := 6 + 6 * (k + 1)) (n1 := 57 + 57 * (k + 1)) (by (try dsimp only [R_X4_restore, R_X4_count, R_X4_of, R_X4_sample]); omega) (by (try dsimp only [R_X4_restore, R_X4_count, R_X4_of, R_X4_sample]); omega) ?_
                exact ih (k + 1) (nI k) (c_X1_keep_y yk (itC x1 y1 k S)) p9 (by omega) (by omega) (keep_hy _ hyk) (FD_here c_112 th)
            · skip
              refine g_iconst E 1 dL_isIn_192 (by decide) ?_
              refine g_goto E 197 dL_isIn_193 (by decide) ?_
              refine g_iload E 9 dL_isIn_197 rfl ?_
              refine g_ifle E 213 dL_isIn_199 (by decide) (fun q_ => absurd ((drift_iff I hp hB hD k k60).mp c_189).1 q_) (fun _ => ?_)
              refine g_iload E 0 dL_isIn_202 rfl ?_
              refine g_iload E 9 dL_isIn_204 rfl ?_
              refine g_icmplt E 213 dL_isIn_206 (by decide) (fun q_ => absurd q_ ((drift_iff I hp hB hD k k60).mp c_189).2) (fun _ => ?_)
              refine g_iconst E 1 dL_isIn_209 (by decide) ?_
              refine g_goto E 214 dL_isIn_210 (by decide) ?_
              refine g_icmpne E 221 dL_isIn_214 (by decide) (fun q_ => absurd q_ (by decide)) (fun _ => ?_)
              refine g_iconst E 1 dL_isIn_217 (by decide) ?_
              refine g_goto E 222 dL_isIn_218 (by decide) ?_
              refine g_istore E (lv' := [(9, .int 1), (7, .int (nI (k + 1))), (12, .int (r_X3_telling (itC x1 y1 (k + 1) S))), (8, .int (nI k)), (11, .int 1), (0, .ref (x 0)), (1, .int x1), (2, .int y1), (3, .int L), (4, .int D), (5, .int (S.1 17)), (6, .int (S.1 21)), (10, .int (nI k))]) dL_isIn_222 (by decide) rfl ?_
              refine g_iinc E (j := 12) (v := (nI (k + 1))) (lv' := [(10, .int (nI (k + 1))), (9, .int 1), (7, .int (nI (k + 1))), (12, .int (r_X3_telling (itC x1 y1 (k + 1) S))), (8, .int (nI k)), (11, .int 1), (0, .ref (x 0)), (1, .int x1), (2, .int y1), (3, .int L), (4, .int D), (5, .int (S.1 17)), (6, .int (S.1 21))]) dL_isIn_224 rfl (nI_1 _) (by decide) rfl ?_
              refine g_goto E 55 dL_isIn_227 (by decide) ?_
              refine g_lvs (lv' := [(0, .ref (x 0)), (1, .int x1), (2, .int y1), (3, .int L), (4, .int D), (5, .int (S.1 17)), (6, .int (S.1 21)), (7, .int (nI (k + 1))), (8, .int (nI k)), (9, .int 1), (10, .int (nI (k + 1)))]) [6, 7, 8, 9, 10, 11, 12, 2, 4, 1, 0] rfl ?_
              refine g_widen (k1 := 6 + 6 * (k + 1)) (n1 := 57 + 57 * (k + 1)) (by (try dsimp only [R_X4_restore, R_X4_count, R_X4_of, R_X4_sample]); omega) (by (try dsimp only [R_X4_restore, R_X4_count, R_X4_of, R_X4_sample]); omega) ?_
              exact ih (k + 1) (nI k) (c_X1_keep_y yk (itC x1 y1 k S)) p9 (by omega) (by omega) (keep_hy _ hyk) (FD_here c_112 th)
          · skip
            refine g_iload E 9 dL_isIn_115 rfl ?_
            refine g_iflt E 139 dL_isIn_117 (by decide) (fun q_ => absurd q_ (FD_before hf hL k60 th c_112).1) (fun _ => ?_)
            refine g_iload_n E 4 dL_isIn_120 rfl rfl ?_
            refine g_iload E 9 dL_isIn_121 rfl ?_
            refine g_icmpne E 139 dL_isIn_123 (by decide) (fun q_ => absurd (FD_before hf hL k60 th c_112).2 q_) (fun _ => ?_)
            refine g_goto E 135 dL_isIn_126 (by decide) ?_
            refine g_iconst E 1 dL_isIn_135 (by decide) ?_
            refine g_goto E 140 dL_isIn_136 (by decide) ?_
            refine g_istore E (lv' := [(9, .int 1), (11, .int 1), (0, .ref (x 0)), (1, .int x1), (2, .int y1), (3, .int L), (4, .int D), (5, .int (S.1 17)), (6, .int (S.1 21)), (7, .int (nI k)), (8, .int f8), (10, .int (nI k))]) dL_isIn_140 (by decide) rfl ?_
            refine g_iload E 1 dL_isIn_142 rfl ?_
            refine g_ifeq E 157 dL_isIn_144 (by decide) (fun q_ => absurd q_ (by decide)) (fun _ => ?_)
            refine g_iload E 10 dL_isIn_147 rfl ?_
            refine g_ifge E 157 dL_isIn_149 (by decide) (fun _ => ?_) (fun q_ => absurd q_ (FD_before hf hL k60 th c_112).1)
            refine g_iload E 10 dL_isIn_157 rfl ?_
            refine g_istore E (lv' := [(8, .int f8), (9, .int 1), (11, .int 1), (0, .ref (x 0)), (1, .int x1), (2, .int y1), (3, .int L), (4, .int D), (5, .int (S.1 17)), (6, .int (S.1 21)), (7, .int (nI k)), (10, .int (nI k))]) dL_isIn_159 (by decide) rfl ?_
            refine g_aload_n E 3 dL_isIn_161 rfl rfl ?_
            refine g_iload_n E 4 dL_isIn_162 rfl rfl ?_
            refine g_iload_n E 5 dL_isIn_163 rfl rfl ?_
            refine g_callVi E (wr := []) gc_X4_sample ml_L_32 (t3_X4_sample d x a b c e x1 y1 p q (itC x1 y1 k S) T h t yk ss hyk (IV_hu Ik) hp h21k) rfl (List.append_nil _).symm (ci := 4) 0 rfl rfl rfl rfl (ok_le rfl) ⟨ok_le rfl, ok_le rfl, (by show _ ≤ (384 : Nat); (try dsimp only [R_X4_restore, R_X4_count, R_X4_of, R_X4_sample]); omega), (by show _ ≤ (3705 : Nat); (try dsimp only [R_X4_restore, R_X4_count, R_X4_of, R_X4_sample]); omega)⟩ rfl rfl dL_isIn_164 ?_
            rintro v_ u_ ⟨rfl, p9, rfl⟩
            refine g_eq (ws' := XW d (x, a, b, c, e) p9 q (itC x1 y1 (k + 1) S) T h t (c_X1_keep_y yk (itC x1 y1 k S)) ss) (List.append_nil _) ?_
            refine g_top (b := r_X3_telling (itC x1 y1 (k + 1) S)) rfl ?_
            refine g_istore E (lv' := [(12, .int (r_X3_telling (itC x1 y1 (k + 1) S))), (8, .int f8), (9, .int 1), (11, .int 1), (0, .ref (x 0)), (1, .int x1), (2, .int y1), (3, .int L), (4, .int D), (5, .int (S.1 17)), (6, .int (S.1 21)), (7, .int (nI k)), (10, .int (nI k))]) dL_isIn_167 (by decide) rfl ?_
            refine g_iinc E (j := 11) (v := (nI (k + 1))) (lv' := [(7, .int (nI (k + 1))), (12, .int (r_X3_telling (itC x1 y1 (k + 1) S))), (8, .int f8), (9, .int 1), (11, .int 1), (0, .ref (x 0)), (1, .int x1), (2, .int y1), (3, .int L), (4, .int D), (5, .int (S.1 17)), (6, .int (S.1 21)), (10, .int (nI k))]) dL_isIn_169 rfl (nI_1 _) (by decide) rfl ?_
            refine g_iload E 3 dL_isIn_172 rfl ?_
            refine g_ifeq E 221 dL_isIn_174 (by decide) (fun q_ => absurd q_ (by decide)) (fun _ => ?_)
            refine g_iload E 1 dL_isIn_177 rfl ?_
            refine g_iflt E 221 dL_isIn_179 (by decide) (fun q_ => absurd q_ (tell_nn Ik1)) (fun _ => ?_)
            refine g_aload_n E 5 dL_isIn_182 rfl rfl ?_
            refine g_iconst E 5 dL_isIn_183 (by decide) ?_
            refine g_callVi0 E gc_X4_count ml_L_8 (t_X4_count d x a b c e 5 p9 q (itC x1 y1 (k + 1) S) T h t (c_X1_keep_y yk (itC x1 y1 k S)) ss ) rfl rfl (ci := 4) 0 rfl rfl rfl rfl (ok_le rfl) ⟨ok_le rfl, ok_le rfl, (by show _ ≤ (384 : Nat); (try dsimp only [R_X4_restore, R_X4_count, R_X4_of, R_X4_sample]); omega), (by show _ ≤ (3705 : Nat); (try dsimp only [R_X4_restore, R_X4_count, R_X4_of, R_X4_sample]); omega)⟩ rfl rfl dL_isIn_184 ?_
            refine g_top (b := ((itC x1 y1 (k + 1) S).1) 17) (count_5 _ _ _) ?_
            refine g_iload E 10 dL_isIn_187 rfl ?_
            refine g_icmple E 196 dL_isIn_189 (by decide) (fun c_189 => ?_) (fun c_189 => ?_)
            · skip
              refine g_iconst E 0 dL_isIn_196 (by decide) ?_
              refine g_iload E 9 dL_isIn_197 rfl ?_
              refine g_ifle E 213 dL_isIn_199 (by decide) (fun c_199 => ?_) (fun c_199 => ?_)
              · skip
                refine g_iconst E 0 dL_isIn_213 (by decide) ?_
                refine g_icmpne E 221 dL_isIn_214 (by decide) (fun q_ => absurd q_ (by decide)) (fun _ => ?_)
                refine g_iconst E 1 dL_isIn_217 (by decide) ?_
                refine g_goto E 222 dL_isIn_218 (by decide) ?_
                refine g_istore E (lv' := [(9, .int 1), (7, .int (nI (k + 1))), (12, .int (r_X3_telling (itC x1 y1 (k + 1) S))), (8, .int f8), (11, .int 1), (0, .ref (x 0)), (1, .int x1), (2, .int y1), (3, .int L), (4, .int D), (5, .int (S.1 17)), (6, .int (S.1 21)), (10, .int (nI k))]) dL_isIn_222 (by decide) rfl ?_
                refine g_iinc E (j := 12) (v := (nI (k + 1))) (lv' := [(10, .int (nI (k + 1))), (9, .int 1), (7, .int (nI (k + 1))), (12, .int (r_X3_telling (itC x1 y1 (k + 1) S))), (8, .int f8), (11, .int 1), (0, .ref (x 0)), (1, .int x1), (2, .int y1), (3, .int L), (4, .int D), (5, .int (S.1 17)), (6, .int (S.1 21))]) dL_isIn_224 rfl (nI_1 _) (by decide) rfl ?_
                refine g_goto E 55 dL_isIn_227 (by decide) ?_
                refine g_lvs (lv' := [(0, .ref (x 0)), (1, .int x1), (2, .int y1), (3, .int L), (4, .int D), (5, .int (S.1 17)), (6, .int (S.1 21)), (7, .int (nI (k + 1))), (8, .int f8), (9, .int 1), (10, .int (nI (k + 1)))]) [6, 7, 8, 9, 10, 11, 12, 2, 4, 1, 0] rfl ?_
                refine g_widen (k1 := 6 + 6 * (k + 1)) (n1 := 57 + 57 * (k + 1)) (by (try dsimp only [R_X4_restore, R_X4_count, R_X4_of, R_X4_sample]); omega) (by (try dsimp only [R_X4_restore, R_X4_count, R_X4_of, R_X4_sample]); omega) ?_
                exact ih (k + 1) f8 (c_X1_keep_y yk (itC x1 y1 k S)) p9 (by omega) (by omega) (keep_hy _ hyk) (FD_old hf (FD_before hf hL k60 th c_112).1)
              · skip
                refine g_iload E 0 dL_isIn_202 rfl ?_
                refine g_iload E 9 dL_isIn_204 rfl ?_
                refine g_icmplt E 213 dL_isIn_206 (by decide) (fun _ => ?_) (fun q_ => absurd (Classical.byContradiction (fun q_ => c_189 ((drift_iff I hp hB hD k k60).mpr ⟨c_199, q_⟩))) q_)
                refine g_iconst E 0 dL_isIn_213 (by decide) ?_
                refine g_icmpne E 221 dL_isIn_214 (by decide) (fun q_ => absurd q_ (by decide)) (fun _ => ?_)
                refine g_iconst E 1 dL_isIn_217 (by decide) ?_
                refine g_goto E 222 dL_isIn_218 (by decide) ?_
                refine g_istore E (lv' := [(9, .int 1), (7, .int (nI (k + 1))), (12, .int (r_X3_telling (itC x1 y1 (k + 1) S))), (8, .int f8), (11, .int 1), (0, .ref (x 0)), (1, .int x1), (2, .int y1), (3, .int L), (4, .int D), (5, .int (S.1 17)), (6, .int (S.1 21)), (10, .int (nI k))]) dL_isIn_222 (by decide) rfl ?_
                refine g_iinc E (j := 12) (v := (nI (k + 1))) (lv' := [(10, .int (nI (k + 1))), (9, .int 1), (7, .int (nI (k + 1))), (12, .int (r_X3_telling (itC x1 y1 (k + 1) S))), (8, .int f8), (11, .int 1), (0, .ref (x 0)), (1, .int x1), (2, .int y1), (3, .int L), (4, .int D), (5, .int (S.1 17)), (6, .int (S.1 21))]) dL_isIn_224 rfl (nI_1 _) (by decide) rfl ?_
                refine g_goto E 55 dL_isIn_227 (by decide) ?_
                refine g_lvs (lv' := [(0, .ref (x 0)), (1, .int x1), (2, .int y1), (3, .int L), (4, .int D), (5, .int (S.1 17)), (6, .int (S.1 21)), (7, .int (nI (k + 1))), (8, .int f8), (9, .int 1), (10, .int (nI (k + 1)))]) [6, 7, 8, 9, 10, 11, 12, 2, 4, 1, 0] rfl ?_
                refine g_widen (k1 := 6 + 6 * (k + 1)) (n1 := 57 + 57 * (k + 1)) (by (try dsimp only [R_X4_restore, R_X4_count, R_X4_of, R_X4_sample]); omega) (by (try dsimp only [R_X4_restore, R_X4_count, R_X4_of, R_X4_sample]); omega) ?_
                exact ih (k + 1) f8 (c_X1_keep_y yk (itC x1 y1 k S)) p9 (by omega) (by omega) (keep_hy _ hyk) (FD_old hf (FD_before hf hL k60 th c_112).1)
            · skip
              refine g_iconst E 1 dL_isIn_192 (by decide) ?_
              refine g_goto E 197 dL_isIn_193 (by decide) ?_
              refine g_iload E 9 dL_isIn_197 rfl ?_
              refine g_ifle E 213 dL_isIn_199 (by decide) (fun q_ => absurd ((drift_iff I hp hB hD k k60).mp c_189).1 q_) (fun _ => ?_)
              refine g_iload E 0 dL_isIn_202 rfl ?_
              refine g_iload E 9 dL_isIn_204 rfl ?_
              refine g_icmplt E 213 dL_isIn_206 (by decide) (fun q_ => absurd q_ ((drift_iff I hp hB hD k k60).mp c_189).2) (fun _ => ?_)
              refine g_iconst E 1 dL_isIn_209 (by decide) ?_
              refine g_goto E 214 dL_isIn_210 (by decide) ?_
              refine g_icmpne E 221 dL_isIn_214 (by decide) (fun q_ => absurd q_ (by decide)) (fun _ => ?_)
              refine g_iconst E 1 dL_isIn_217 (by decide) ?_
              refine g_goto E 222 dL_isIn_218 (by decide) ?_
              refine g_istore E (lv' := [(9, .int 1), (7, .int (nI (k + 1))), (12, .int (r_X3_telling (itC x1 y1 (k + 1) S))), (8, .int f8), (11, .int 1), (0, .ref (x 0)), (1, .int x1), (2, .int y1), (3, .int L), (4, .int D), (5, .int (S.1 17)), (6, .int (S.1 21)), (10, .int (nI k))]) dL_isIn_222 (by decide) rfl ?_
              refine g_iinc E (j := 12) (v := (nI (k + 1))) (lv' := [(10, .int (nI (k + 1))), (9, .int 1), (7, .int (nI (k + 1))), (12, .int (r_X3_telling (itC x1 y1 (k + 1) S))), (8, .int f8), (11, .int 1), (0, .ref (x 0)), (1, .int x1), (2, .int y1), (3, .int L), (4, .int D), (5, .int (S.1 17)), (6, .int (S.1 21))]) dL_isIn_224 rfl (nI_1 _) (by decide) rfl ?_
              refine g_goto E 55 dL_isIn_227 (by decide) ?_
              refine g_lvs (lv' := [(0, .ref (x 0)), (1, .int x1), (2, .int y1), (3, .int L), (4, .int D), (5, .int (S.1 17)), (6, .int (S.1 21)), (7, .int (nI (k + 1))), (8, .int f8), (9, .int 1), (10, .int (nI (k + 1)))]) [6, 7, 8, 9, 10, 11, 12, 2, 4, 1, 0] rfl ?_
              refine g_widen (k1 := 6 + 6 * (k + 1)) (n1 := 57 + 57 * (k + 1)) (by (try dsimp only [R_X4_restore, R_X4_count, R_X4_of, R_X4_sample]); omega) (by (try dsimp only [R_X4_restore, R_X4_count, R_X4_of, R_X4_sample]); omega) ?_
              exact ih (k + 1) f8 (c_X1_keep_y yk (itC x1 y1 k S)) p9 (by omega) (by omega) (keep_hy _ hyk) (FD_old hf (FD_before hf hL k60 th c_112).1)
set_option maxHeartbeats 4000000 in
set_option maxRecDepth 100000 in
theorem t_L_isIn (d : gD) (x a b c e : Nat → Nat) (x1 y1 : Int32) (p q : Nat → Nat → Nat) (S T : SS) (h t : Nat → Int32) (y : HS) (ss : Nat → Option SS) {B : Int} (I : IV S B) (hB : B ≤ 9000) (hp : rgP x1 y1) (hy : YK y) : gMi d yL_isIn cL_isIn 13 (some .boolean) R_L_isIn [.ref (x 0), .int x1, .int y1] (XW d (x, a, b, c, e) p q S T h t y ss) (fun r u => r = 1 ∧ ∃ (p_ q_ : Nat → Nat → Nat) (T_ : SS) (y_ : HS) (ss_ : Nat → Option SS), u = XW d (x, a, b, c, e) p_ q_ S T_ h t y_ ss_ ∧ YK y_) := by
  refine g_met_i RL rfl (by decide +kernel) (Nat.le_of_ble_eq_true rfl) [(0, .ref (x 0)), (1, .int x1), (2, .int y1)] rfl (fun X E RET => ?_)
  refine g_aload_n E 0 dL_isIn_0 rfl rfl ?_
  refine g_iload_n E 1 dL_isIn_1 rfl rfl ?_
  refine g_iload_n E 2 dL_isIn_2 rfl rfl ?_
  refine g_callVi0 E gc_X4_learnedIn ml_L_35 (t_X4_learnedIn d x a b c e x1 y1 p q S T h t y ss (IV_hu I)) rfl rfl (ci := 4) 0 rfl rfl rfl rfl (ok_le rfl) ⟨ok_le rfl, ok_le rfl, ok_le rfl, ok_le rfl⟩ rfl rfl dL_isIn_3 ?_
  obtain ⟨S1_, hS1_⟩ : ∃ z, c_X4_learnedIn_2 x1 y1 S T = z := ⟨_, rfl⟩
  rw [hS1_]
  refine g_nm (fun v2_ hv2_ => ?_)
  refine g_istore_n E (lv' := [(3, .int v2_), (0, .ref (x 0)), (1, .int x1), (2, .int y1)]) dL_isIn_6 rfl (by decide) rfl ?_
  refine g_aload_n E 1 dL_isIn_7 rfl rfl ?_
  refine g_iload_n E 2 dL_isIn_8 rfl rfl ?_
  refine g_iload_n E 3 dL_isIn_9 rfl rfl ?_
  refine g_callVi0 E gc_X4_driftsIn ml_L_38 (t_X4_driftsIn d x a b c e x1 y1 p q S S1_ h t y ss (IV_hu I)) rfl rfl (ci := 4) 0 rfl rfl rfl rfl (ok_le rfl) ⟨ok_le rfl, ok_le rfl, ok_le rfl, ok_le rfl⟩ rfl rfl dL_isIn_10 ?_
  obtain ⟨S3_, hS3_⟩ : ∃ z, c_X4_driftsIn_2 x1 y1 S S1_ = z := ⟨_, rfl⟩
  rw [hS3_]
  refine g_nm (fun v4_ hv4_ => ?_)
  refine g_istore E (lv' := [(4, .int v4_), (3, .int v2_), (0, .ref (x 0)), (1, .int x1), (2, .int y1)]) dL_isIn_13 (by decide) rfl ?_
  refine g_aload_n E 2 dL_isIn_15 rfl rfl ?_
  refine g_iconst E 5 dL_isIn_16 (by decide) ?_
  refine g_callVi0 E gc_X4_count ml_L_8 (t_X4_count d x a b c e 5 p q S S3_ h t y ss ) rfl rfl (ci := 4) 0 rfl rfl rfl rfl (ok_le rfl) ⟨ok_le rfl, ok_le rfl, ok_le rfl, ok_le rfl⟩ rfl rfl dL_isIn_17 ?_
  refine g_top (b := S.1 17) (count_5 _ _ _) ?_
  refine g_istore E (lv' := [(5, .int (S.1 17)), (4, .int v4_), (3, .int v2_), (0, .ref (x 0)), (1, .int x1), (2, .int y1)]) dL_isIn_20 (by decide) rfl ?_
  refine g_aload_n E 3 dL_isIn_22 rfl rfl ?_
  refine g_iconst E 1 dL_isIn_23 (by decide) ?_
  refine g_callVi E (wr := []) gc_X4_save ml_L_41 (t_X4_save d x a b c e 1 p q S S3_ h t y ss) rfl (List.append_nil _).symm (ci := 4) 0 rfl rfl rfl rfl (ok_le rfl) ⟨ok_le rfl, ok_le rfl, ok_le rfl, ok_le rfl⟩ rfl rfl dL_isIn_24 ?_
  rintro v_ u_ ⟨rfl, q1, rfl⟩
  refine g_eq (ws' := XW d (x, a, b, c, e) p q1 S S3_ h t y (c_X4_save_ss 1 S ss)) (List.append_nil _) ?_
  refine g_top (b := S.1 21) rfl ?_
  refine g_istore E (lv' := [(6, .int (S.1 21)), (5, .int (S.1 17)), (4, .int v4_), (3, .int v2_), (0, .ref (x 0)), (1, .int x1), (2, .int y1)]) dL_isIn_27 (by decide) rfl ?_
  refine g_iconst E 0 dL_isIn_29 (by decide) ?_
  refine g_istore E (lv' := [(7, .int 0), (6, .int (S.1 21)), (5, .int (S.1 17)), (4, .int v4_), (3, .int v2_), (0, .ref (x 0)), (1, .int x1), (2, .int y1)]) dL_isIn_30 (by decide) rfl ?_
  refine g_iconst E (-1) dL_isIn_32 (by decide) ?_
  refine g_istore E (lv' := [(8, .int (-1)), (7, .int 0), (6, .int (S.1 21)), (5, .int (S.1 17)), (4, .int v4_), (3, .int v2_), (0, .ref (x 0)), (1, .int x1), (2, .int y1)]) dL_isIn_33 (by decide) rfl ?_
  refine g_iload E 2 dL_isIn_35 rfl ?_
  refine g_aload_n E 6 dL_isIn_37 rfl rfl ?_
  refine g_iconst E 0 dL_isIn_38 (by decide) ?_
  refine g_callVi0 E gc_X4_count ml_L_8 (t_X4_count d x a b c e 0 p q1 S S3_ h t y (c_X4_save_ss 1 S ss) ) rfl rfl (ci := 4) 0 rfl rfl rfl rfl (ok_le rfl) ⟨ok_le rfl, ok_le rfl, ok_le rfl, ok_le rfl⟩ rfl rfl dL_isIn_39 ?_
  refine g_top (b := S.1 21) (count_0 _ _ _) ?_
  refine g_icmpne E 49 dL_isIn_42 (by decide) (fun q_ => absurd rfl q_) (fun _ => ?_)
  refine g_iconst E 1 dL_isIn_45 (by decide) ?_
  refine g_goto E 50 dL_isIn_46 (by decide) ?_
  refine g_istore E (lv' := [(9, .int 1), (8, .int (-1)), (7, .int 0), (6, .int (S.1 21)), (5, .int (S.1 17)), (4, .int v4_), (3, .int v2_), (0, .ref (x 0)), (1, .int x1), (2, .int y1)]) dL_isIn_50 (by decide) rfl ?_
  refine g_iconst E 0 dL_isIn_52 (by decide) ?_
  refine g_istore E (lv' := [(10, .int 0), (9, .int 1), (8, .int (-1)), (7, .int 0), (6, .int (S.1 21)), (5, .int (S.1 17)), (4, .int v4_), (3, .int v2_), (0, .ref (x 0)), (1, .int x1), (2, .int y1)]) dL_isIn_53 (by decide) rfl ?_
  refine g_lvs (lv' := [(0, .ref (x 0)), (1, .int x1), (2, .int y1), (3, .int v2_), (4, .int v4_), (5, .int (S.1 17)), (6, .int (S.1 21)), (7, .int 0), (8, .int (-1)), (9, .int 1), (10, .int 0)]) [8, 9, 10, 7, 6, 5, 4, 3, 2, 1, 0] rfl ?_
  refine g_widen (k1 := 6 + 6 * 0) (n1 := 57 + 57 * 0) (ok_le rfl) (ok_le rfl) ?_
  exact in_loop d x a b c e x1 y1 q1 S S3_ h t (c_X4_save_ss 1 S ss) I hB hp (by rw [← hv2_]; exact learned_is hp S _) (by rw [← hv4_]; exact drifts_is hp S _) (save_1 S ss) E (fun pc_ lv_ v_ u_ h1_ h2_ h3_ h4_ => RET pc_ lv_ v_ u_ h1_ h2_ ⟨h3_, by obtain ⟨p_, y_, rfl, k_⟩ := h4_; exact ⟨p_, _, _, y_, _, rfl, k_⟩⟩) 62 0 (-1) y p (by omega) (by omega) hy FD_0
