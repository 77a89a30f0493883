set_option maxHeartbeats 4000000 in
set_option maxRecDepth 100000 in
theorem law_set (d : gD) (x a b c e a5 : Nat → Nat) (sa L : Nat) (xs : Nat → Int32) (i : Nat) (hi : i + 4 ≤ L) (hL : L ≤ 2048) {X : gX} (E : gE d X RL cL_law 4 room_1) (SC : gScr X sa L xs) (p q : Nat → Nat → Nat) (S T : SS) (h t : Nat → Int32) (y : HS) (ss : Nat → Option SS) (r f past : Nat → Int32) (kk : Nat) (sl sv pd : Nat → Int32) (ln : Int32) (I : INV S h t y ss r past kk sl sv pd ln) {cells slots : Nat} (hc : cells + 6 ≤ 600000) (hs : slots + 57 ≤ 7302250) (K : ∀ (p q : Nat → Nat → Nat) (S T : SS) (h t : Nat → Int32) (y : HS) (ss : Nat → Option SS) (r f past : Nat → Int32) (kk : Nat) (sl sv pd : Nat → Int32) (ln : Int32), INV S h t y ss r past kk sl sv pd ln → G d X (XW d (x, a, b, c, e) p q S T h t y ss ++ MW d a5 (pr 0 r f) (past, nI kk, sl, sv, pd, ln)) (cells + 6) (slots + 57) 668 [(0, .ref sa), (1, .ref (x 0)), (2, .ref (a5 0)), (3, .int (nI i))] []) : G d X (XW d (x, a, b, c, e) p q S T h t y ss ++ MW d a5 (pr 0 r f) (past, nI kk, sl, sv, pd, ln)) (cells) (slots) 128 [(0, .ref sa), (1, .ref (x 0)), (2, .ref (a5 0)), (3, .int (nI i))] [] := by
  have hy := I.hy
  have hkk := I.hkk
  have hu := I.hu
  have hl := I.hl
  have hln := I.hln
  have hT := I.hT
  have hSH := RS_SH I.1.1
  obtain ⟨hs0, hz, hc4, nd, hd⟩ := hSH
  have hSH := RS_SH I.1.1
  have hc' : cells ≤ 600000 := Nat.le_of_add_right_le hc
  have hs' : slots ≤ 7302250 := Nat.le_of_add_right_le hs
  obtain ⟨H1, k1, H2, H3⟩ := set_sim I.1 (xs (i + 1)) (xs (i + 2))
  refine g_aload_n E 1 dL_law_128 rfl rfl ?_
  refine g_aload_n E 0 dL_law_129 rfl rfl ?_
  refine g_iload_n E 3 dL_law_130 rfl rfl ?_
  refine g_iconst E 1 dL_law_131 (by decide) ?_
  refine g_iadd E dL_law_132 ?_
  refine g_top (nI_add i 1) ?_
  refine g_sld E SC (i + 1) rfl (by omega) hL dL_law_133 ?_
  refine g_aload_n E 0 dL_law_134 rfl rfl ?_
  refine g_iload_n E 3 dL_law_135 rfl rfl ?_
  refine g_iconst E 2 dL_law_136 (by decide) ?_
  refine g_iadd E dL_law_137 ?_
  refine g_top (nI_add i 2) ?_
  refine g_sld E SC (i + 2) rfl (by omega) hL dL_law_138 ?_
  refine g_callVi E gc_X4_set ml_L_13 (t_X4_set d x a b c e (xs (i + 1)) (xs (i + 2)) p q S T h t y ss hy) rfl rfl (ci := 4) 0 rfl rfl rfl rfl (ok_le rfl) ⟨ok_le rfl, ok_le rfl, hc, hs⟩ (c2 := cells + 6) (n2 := slots + 57) rfl rfl dL_law_139 (fun r_ u_ hp_ => ?_)
  obtain ⟨rfl, p1, rfl⟩ := hp_
  refine g_perm List.perm_append_comm ?_
  refine g_aload_n E 2 dL_law_142 rfl rfl ?_
  refine g_aload_n E 0 dL_law_143 rfl rfl ?_
  refine g_iload_n E 3 dL_law_144 rfl rfl ?_
  refine g_iconst E 1 dL_law_145 (by decide) ?_
  refine g_iadd E dL_law_146 ?_
  refine g_top (nI_add i 1) ?_
  refine g_sld E SC (i + 1) rfl (by omega) hL dL_law_147 ?_
  refine g_aload_n E 0 dL_law_148 rfl rfl ?_
  refine g_iload_n E 3 dL_law_149 rfl rfl ?_
  refine g_iconst E 2 dL_law_150 (by decide) ?_
  refine g_iadd E dL_law_151 ?_
  refine g_top (nI_add i 2) ?_
  refine g_sld E SC (i + 2) rfl (by omega) hL dL_law_152 ?_
  refine g_callViD E gc_X5_set ml_L_17 (t_X5_set d a5 (xs (i + 1)) (xs (i + 2)) r f past kk sl sv pd ln hkk) rfl rfl (ci := 5) 0 rfl rfl rfl rfl (ok_le rfl) ⟨ok_le rfl, ok_le rfl, hc, hs⟩ (c2 := cells + 6) (n2 := slots + 57) rfl rfl dL_law_153 ?_
  refine g_perm List.perm_append_comm ?_
  rw [H2]
  refine g_icmpeq E 668 dL_law_156 (by decide) (fun _ => ?_) (fun ne => absurd H1 ne)
  exact K _ _ _ _ _ _ _ _ _ _ _ _ _ _ _ _ ⟨H3, I.2⟩
set_option maxHeartbeats 4000000 in
set_option maxRecDepth 100000 in
theorem law_sample (d : gD) (x a b c e a5 : Nat → Nat) (sa L : Nat) (xs : Nat → Int32) (i : Nat) (hi : i + 4 ≤ L) (hL : L ≤ 2048) {X : gX} (E : gE d X RL cL_law 4 room_1) (SC : gScr X sa L xs) (p q : Nat → Nat → Nat) (S T : SS) (h t : Nat → Int32) (y : HS) (ss : Nat → Option SS) (r f past : Nat → Int32) (kk : Nat) (sl sv pd : Nat → Int32) (ln : Int32) (I : INV S h t y ss r past kk sl sv pd ln) {cells slots : Nat} (hc : cells + 6 ≤ 600000) (hs : slots + 57 ≤ 7302250) (K : ∀ (p q : Nat → Nat → Nat) (S T : SS) (h t : Nat → Int32) (y : HS) (ss : Nat → Option SS) (r f past : Nat → Int32) (kk : Nat) (sl sv pd : Nat → Int32) (ln : Int32), INV S h t y ss r past kk sl sv pd ln → G d X (XW d (x, a, b, c, e) p q S T h t y ss ++ MW d a5 (pr 0 r f) (past, nI kk, sl, sv, pd, ln)) (cells + 6) (slots + 57) 668 [(0, .ref sa), (1, .ref (x 0)), (2, .ref (a5 0)), (3, .int (nI i))] []) : G d X (XW d (x, a, b, c, e) p q S T h t y ss ++ MW d a5 (pr 0 r f) (past, nI kk, sl, sv, pd, ln)) (cells) (slots) 161 [(0, .ref sa), (1, .ref (x 0)), (2, .ref (a5 0)), (3, .int (nI i))] [] := by
  have hy := I.hy
  have hkk := I.hkk
  have hu := I.hu
  have hl := I.hl
  have hln := I.hln
  have hT := I.hT
  have hSH := RS_SH I.1.1
  obtain ⟨hs0, hz, hc4, nd, hd⟩ := hSH
  have hSH := RS_SH I.1.1
  have hc' : cells ≤ 600000 := Nat.le_of_add_right_le hc
  have hs' : slots ≤ 7302250 := Nat.le_of_add_right_le hs
  obtain ⟨H1, k1, H2, H3⟩ := sample_sim I.1 (xs (i + 1)) (xs (i + 2))
  refine g_aload_n E 1 dL_law_161 rfl rfl ?_
  refine g_aload_n E 0 dL_law_162 rfl rfl ?_
  refine g_iload_n E 3 dL_law_163 rfl rfl ?_
  refine g_iconst E 1 dL_law_164 (by decide) ?_
  refine g_iadd E dL_law_165 ?_
  refine g_top (nI_add i 1) ?_
  refine g_sld E SC (i + 1) rfl (by omega) hL dL_law_166 ?_
  refine g_aload_n E 0 dL_law_167 rfl rfl ?_
  refine g_iload_n E 3 dL_law_168 rfl rfl ?_
  refine g_iconst E 2 dL_law_169 (by decide) ?_
  refine g_iadd E dL_law_170 ?_
  refine g_top (nI_add i 2) ?_
  refine g_sld E SC (i + 2) rfl (by omega) hL dL_law_171 ?_
  refine g_callVi E gc_X4_sample ml_L_18 (t_X4_sample d x a b c e (xs (i + 1)) (xs (i + 2)) p q S T h t y ss hy hu) rfl rfl (ci := 4) 0 rfl rfl rfl rfl (ok_le rfl) ⟨ok_le rfl, ok_le rfl, hc, hs⟩ (c2 := cells + 6) (n2 := slots + 57) rfl rfl dL_law_172 (fun r_ u_ hp_ => ?_)
  obtain ⟨rfl, p1, rfl⟩ := hp_
  refine g_perm List.perm_append_comm ?_
  refine g_aload_n E 2 dL_law_175 rfl rfl ?_
  refine g_aload_n E 0 dL_law_176 rfl rfl ?_
  refine g_iload_n E 3 dL_law_177 rfl rfl ?_
  refine g_iconst E 1 dL_law_178 (by decide) ?_
  refine g_iadd E dL_law_179 ?_
  refine g_top (nI_add i 1) ?_
  refine g_sld E SC (i + 1) rfl (by omega) hL dL_law_180 ?_
  refine g_aload_n E 0 dL_law_181 rfl rfl ?_
  refine g_iload_n E 3 dL_law_182 rfl rfl ?_
  refine g_iconst E 2 dL_law_183 (by decide) ?_
  refine g_iadd E dL_law_184 ?_
  refine g_top (nI_add i 2) ?_
  refine g_sld E SC (i + 2) rfl (by omega) hL dL_law_185 ?_
  refine g_callViD E gc_X5_sample ml_L_21 (t_X5_sample d a5 (xs (i + 1)) (xs (i + 2)) r f past kk sl sv pd ln nd hkk hs0 hz hc4 hd) rfl rfl (ci := 5) 0 rfl rfl rfl rfl (ok_le rfl) ⟨ok_le rfl, ok_le rfl, hc, hs⟩ (c2 := cells + 6) (n2 := slots + 57) rfl rfl dL_law_186 ?_
  refine g_perm List.perm_append_comm ?_
  rw [H2]
  refine g_icmpeq E 668 dL_law_189 (by decide) (fun _ => ?_) (fun ne => absurd H1 ne)
  exact K _ _ _ _ _ _ _ _ _ _ _ _ _ _ _ _ ⟨H3, I.2⟩
set_option maxHeartbeats 4000000 in
set_option maxRecDepth 100000 in
theorem law_hold (d : gD) (x a b c e a5 : Nat → Nat) (sa L : Nat) (xs : Nat → Int32) (i : Nat) (hi : i + 4 ≤ L) (hL : L ≤ 2048) {X : gX} (E : gE d X RL cL_law 4 room_1) (SC : gScr X sa L xs) (p q : Nat → Nat → Nat) (S T : SS) (h t : Nat → Int32) (y : HS) (ss : Nat → Option SS) (r f past : Nat → Int32) (kk : Nat) (sl sv pd : Nat → Int32) (ln : Int32) (I : INV S h t y ss r past kk sl sv pd ln) {cells slots : Nat} (hc : cells + 6 ≤ 600000) (hs : slots + 57 ≤ 7302250) (K : ∀ (p q : Nat → Nat → Nat) (S T : SS) (h t : Nat → Int32) (y : HS) (ss : Nat → Option SS) (r f past : Nat → Int32) (kk : Nat) (sl sv pd : Nat → Int32) (ln : Int32), INV S h t y ss r past kk sl sv pd ln → G d X (XW d (x, a, b, c, e) p q S T h t y ss ++ MW d a5 (pr 0 r f) (past, nI kk, sl, sv, pd, ln)) (cells + 6) (slots + 57) 668 [(0, .ref sa), (1, .ref (x 0)), (2, .ref (a5 0)), (3, .int (nI i))] []) : G d X (XW d (x, a, b, c, e) p q S T h t y ss ++ MW d a5 (pr 0 r f) (past, nI kk, sl, sv, pd, ln)) (cells) (slots) 194 [(0, .ref sa), (1, .ref (x 0)), (2, .ref (a5 0)), (3, .int (nI i))] [] := by
  have hy := I.hy
  have hkk := I.hkk
  have hu := I.hu
  have hl := I.hl
  have hln := I.hln
  have hT := I.hT
  have hSH := RS_SH I.1.1
  obtain ⟨hs0, hz, hc4, nd, hd⟩ := hSH
  have hSH := RS_SH I.1.1
  have hc' : cells ≤ 600000 := Nat.le_of_add_right_le hc
  have hs' : slots ≤ 7302250 := Nat.le_of_add_right_le hs
  obtain ⟨H1, k1, H2, H3⟩ := hold_sim I.1 (xs (i + 1)) (xs (i + 2)) (xs (i + 3))
  have hall : ¬ r_X5_whyNot (xs (i + 1)) (xs (i + 2)) (xs (i + 3)) r < 0 → ∀ j, j ≤ 501 → SH (it (xs (i + 1)) (xs (i + 2)) j r) := fun q => it_SH I.1.1 (right_P (why_ok (Classical.not_not.mp (fun z => q (why_lt.mpr z)))).1) (by omega)
  refine g_aload_n E 1 dL_law_194 rfl rfl ?_
  refine g_aload_n E 0 dL_law_195 rfl rfl ?_
  refine g_iload_n E 3 dL_law_196 rfl rfl ?_
  refine g_iconst E 1 dL_law_197 (by decide) ?_
  refine g_iadd E dL_law_198 ?_
  refine g_top (nI_add i 1) ?_
  refine g_sld E SC (i + 1) rfl (by omega) hL dL_law_199 ?_
  refine g_aload_n E 0 dL_law_200 rfl rfl ?_
  refine g_iload_n E 3 dL_law_201 rfl rfl ?_
  refine g_iconst E 2 dL_law_202 (by decide) ?_
  refine g_iadd E dL_law_203 ?_
  refine g_top (nI_add i 2) ?_
  refine g_sld E SC (i + 2) rfl (by omega) hL dL_law_204 ?_
  refine g_aload_n E 0 dL_law_205 rfl rfl ?_
  refine g_iload_n E 3 dL_law_206 rfl rfl ?_
  refine g_iconst E 3 dL_law_207 (by decide) ?_
  refine g_iadd E dL_law_208 ?_
  refine g_top (nI_add i 3) ?_
  refine g_sld E SC (i + 3) rfl (by omega) hL dL_law_209 ?_
  refine g_callVi E gc_X4_hold ml_L_22 (t_X4_hold d x a b c e (xs (i + 1)) (xs (i + 2)) (xs (i + 3)) p q S T h t y ss hy hu) rfl rfl (ci := 4) 0 rfl rfl rfl rfl (ok_le rfl) ⟨ok_le rfl, ok_le rfl, hc, hs⟩ (c2 := cells + 6) (n2 := slots + 57) rfl rfl dL_law_210 (fun r_ u_ hp_ => ?_)
  obtain ⟨rfl, p1, rfl⟩ := hp_
  refine g_perm List.perm_append_comm ?_
  refine g_aload_n E 2 dL_law_213 rfl rfl ?_
  refine g_aload_n E 0 dL_law_214 rfl rfl ?_
  refine g_iload_n E 3 dL_law_215 rfl rfl ?_
  refine g_iconst E 1 dL_law_216 (by decide) ?_
  refine g_iadd E dL_law_217 ?_
  refine g_top (nI_add i 1) ?_
  refine g_sld E SC (i + 1) rfl (by omega) hL dL_law_218 ?_
  refine g_aload_n E 0 dL_law_219 rfl rfl ?_
  refine g_iload_n E 3 dL_law_220 rfl rfl ?_
  refine g_iconst E 2 dL_law_221 (by decide) ?_
  refine g_iadd E dL_law_222 ?_
  refine g_top (nI_add i 2) ?_
  refine g_sld E SC (i + 2) rfl (by omega) hL dL_law_223 ?_
  refine g_aload_n E 0 dL_law_224 rfl rfl ?_
  refine g_iload_n E 3 dL_law_225 rfl rfl ?_
  refine g_iconst E 3 dL_law_226 (by decide) ?_
  refine g_iadd E dL_law_227 ?_
  refine g_top (nI_add i 3) ?_
  refine g_sld E SC (i + 3) rfl (by omega) hL dL_law_228 ?_
  refine g_callViD E gc_X5_hold ml_L_26 (t_X5_hold d a5 (xs (i + 1)) (xs (i + 2)) (xs (i + 3)) r f past kk sl sv pd ln hkk hall) rfl rfl (ci := 5) 0 rfl rfl rfl rfl (ok_le rfl) ⟨ok_le rfl, ok_le rfl, hc, hs⟩ (c2 := cells + 6) (n2 := slots + 57) rfl rfl dL_law_229 ?_
  refine g_perm List.perm_append_comm ?_
  rw [H2]
  refine g_icmpeq E 668 dL_law_232 (by decide) (fun _ => ?_) (fun ne => absurd H1 ne)
  exact K _ _ _ _ _ _ _ _ _ _ _ _ _ _ _ _ ⟨H3, I.2⟩
set_option maxHeartbeats 4000000 in
set_option maxRecDepth 100000 in
theorem law_press (d : gD) (x a b c e a5 : Nat → Nat) (sa L : Nat) (xs : Nat → Int32) (i : Nat) (hi : i + 4 ≤ L) (hL : L ≤ 2048) {X : gX} (E : gE d X RL cL_law 4 room_1) (SC : gScr X sa L xs) (p q : Nat → Nat → Nat) (S T : SS) (h t : Nat → Int32) (y : HS) (ss : Nat → Option SS) (r f past : Nat → Int32) (kk : Nat) (sl sv pd : Nat → Int32) (ln : Int32) (I : INV S h t y ss r past kk sl sv pd ln) {cells slots : Nat} (hc : cells + 6 ≤ 600000) (hs : slots + 57 ≤ 7302250) (K : ∀ (p q : Nat → Nat → Nat) (S T : SS) (h t : Nat → Int32) (y : HS) (ss : Nat → Option SS) (r f past : Nat → Int32) (kk : Nat) (sl sv pd : Nat → Int32) (ln : Int32), INV S h t y ss r past kk sl sv pd ln → G d X (XW d (x, a, b, c, e) p q S T h t y ss ++ MW d a5 (pr 0 r f) (past, nI kk, sl, sv, pd, ln)) (cells + 6) (slots + 57) 668 [(0, .ref sa), (1, .ref (x 0)), (2, .ref (a5 0)), (3, .int (nI i))] []) : G d X (XW d (x, a, b, c, e) p q S T h t y ss ++ MW d a5 (pr 0 r f) (past, nI kk, sl, sv, pd, ln)) (cells) (slots) 237 [(0, .ref sa), (1, .ref (x 0)), (2, .ref (a5 0)), (3, .int (nI i))] [] := by
  have hy := I.hy
  have hkk := I.hkk
  have hu := I.hu
  have hl := I.hl
  have hln := I.hln
  have hT := I.hT
  have hSH := RS_SH I.1.1
  obtain ⟨hs0, hz, hc4, nd, hd⟩ := hSH
  have hSH := RS_SH I.1.1
  have hc' : cells ≤ 600000 := Nat.le_of_add_right_le hc
  have hs' : slots ≤ 7302250 := Nat.le_of_add_right_le hs
  obtain ⟨H1, k1, H2, H3⟩ := press_sim I.1 (xs (i + 1))
  refine g_aload_n E 1 dL_law_237 rfl rfl ?_
  refine g_aload_n E 0 dL_law_238 rfl rfl ?_
  refine g_iload_n E 3 dL_law_239 rfl rfl ?_
  refine g_iconst E 1 dL_law_240 (by decide) ?_
  refine g_iadd E dL_law_241 ?_
  refine g_top (nI_add i 1) ?_
  refine g_sld E SC (i + 1) rfl (by omega) hL dL_law_242 ?_
  refine g_callVi E gc_X4_press ml_L_27 (t_X4_press d x a b c e (xs (i + 1)) p q S T h t y ss hy) rfl rfl (ci := 4) 0 rfl rfl rfl rfl (ok_le rfl) ⟨ok_le rfl, ok_le rfl, hc, hs⟩ (c2 := cells + 6) (n2 := slots + 57) rfl rfl dL_law_243 (fun r_ u_ hp_ => ?_)
  obtain ⟨rfl, p1, rfl⟩ := hp_
  refine g_perm List.perm_append_comm ?_
  refine g_aload_n E 2 dL_law_246 rfl rfl ?_
  refine g_aload_n E 0 dL_law_247 rfl rfl ?_
  refine g_iload_n E 3 dL_law_248 rfl rfl ?_
  refine g_iconst E 1 dL_law_249 (by decide) ?_
  refine g_iadd E dL_law_250 ?_
  refine g_top (nI_add i 1) ?_
  refine g_sld E SC (i + 1) rfl (by omega) hL dL_law_251 ?_
  refine g_callViD E gc_X5_press ml_L_31 (t_X5_press d a5 (xs (i + 1)) r f past kk sl sv pd ln hkk) rfl rfl (ci := 5) 0 rfl rfl rfl rfl (ok_le rfl) ⟨ok_le rfl, ok_le rfl, hc, hs⟩ (c2 := cells + 6) (n2 := slots + 57) rfl rfl dL_law_252 ?_
  refine g_perm List.perm_append_comm ?_
  rw [H2]
  refine g_icmpeq E 668 dL_law_255 (by decide) (fun _ => ?_) (fun ne => absurd H1 ne)
  exact K _ _ _ _ _ _ _ _ _ _ _ _ _ _ _ _ ⟨H3, I.2⟩
set_option maxHeartbeats 4000000 in
set_option maxRecDepth 100000 in
theorem law_letUp (d : gD) (x a b c e a5 : Nat → Nat) (sa L : Nat) (xs : Nat → Int32) (i : Nat) (hi : i + 4 ≤ L) (hL : L ≤ 2048) {X : gX} (E : gE d X RL cL_law 4 room_1) (SC : gScr X sa L xs) (p q : Nat → Nat → Nat) (S T : SS) (h t : Nat → Int32) (y : HS) (ss : Nat → Option SS) (r f past : Nat → Int32) (kk : Nat) (sl sv pd : Nat → Int32) (ln : Int32) (I : INV S h t y ss r past kk sl sv pd ln) {cells slots : Nat} (hc : cells + 6 ≤ 600000) (hs : slots + 57 ≤ 7302250) (K : ∀ (p q : Nat → Nat → Nat) (S T : SS) (h t : Nat → Int32) (y : HS) (ss : Nat → Option SS) (r f past : Nat → Int32) (kk : Nat) (sl sv pd : Nat → Int32) (ln : Int32), INV S h t y ss r past kk sl sv pd ln → G d X (XW d (x, a, b, c, e) p q S T h t y ss ++ MW d a5 (pr 0 r f) (past, nI kk, sl, sv, pd, ln)) (cells + 6) (slots + 57) 668 [(0, .ref sa), (1, .ref (x 0)), (2, .ref (a5 0)), (3, .int (nI i))] []) : G d X (XW d (x, a, b, c, e) p q S T h t y ss ++ MW d a5 (pr 0 r f) (past, nI kk, sl, sv, pd, ln)) (cells) (slots) 260 [(0, .ref sa), (1, .ref (x 0)), (2, .ref (a5 0)), (3, .int (nI i))] [] := by
  have hy := I.hy
  have hkk := I.hkk
  have hu := I.hu
  have hl := I.hl
  have hln := I.hln
  have hT := I.hT
  have hSH := RS_SH I.1.1
  obtain ⟨hs0, hz, hc4, nd, hd⟩ := hSH
  have hSH := RS_SH I.1.1
  have hc' : cells ≤ 600000 := Nat.le_of_add_right_le hc
  have hs' : slots ≤ 7302250 := Nat.le_of_add_right_le hs
  obtain ⟨H1, k1, H2, H3⟩ := letUp_sim I.1 (xs (i + 1))
  refine g_aload_n E 1 dL_law_260 rfl rfl ?_
  refine g_aload_n E 0 dL_law_261 rfl rfl ?_
  refine g_iload_n E 3 dL_law_262 rfl rfl ?_
  refine g_iconst E 1 dL_law_263 (by decide) ?_
  refine g_iadd E dL_law_264 ?_
  refine g_top (nI_add i 1) ?_
  refine g_sld E SC (i + 1) rfl (by omega) hL dL_law_265 ?_
  refine g_callVi E gc_X4_letUp ml_L_32 (t_X4_letUp d x a b c e (xs (i + 1)) p q S T h t y ss hy) rfl rfl (ci := 4) 0 rfl rfl rfl rfl (ok_le rfl) ⟨ok_le rfl, ok_le rfl, hc, hs⟩ (c2 := cells + 6) (n2 := slots + 57) rfl rfl dL_law_266 (fun r_ u_ hp_ => ?_)
  obtain ⟨rfl, p1, rfl⟩ := hp_
  refine g_perm List.perm_append_comm ?_
  refine g_aload_n E 2 dL_law_269 rfl rfl ?_
  refine g_aload_n E 0 dL_law_270 rfl rfl ?_
  refine g_iload_n E 3 dL_law_271 rfl rfl ?_
  refine g_iconst E 1 dL_law_272 (by decide) ?_
  refine g_iadd E dL_law_273 ?_
  refine g_top (nI_add i 1) ?_
  refine g_sld E SC (i + 1) rfl (by omega) hL dL_law_274 ?_
  refine g_callViD E gc_X5_letUp ml_L_35 (t_X5_letUp d a5 (xs (i + 1)) r f past kk sl sv pd ln hkk) rfl rfl (ci := 5) 0 rfl rfl rfl rfl (ok_le rfl) ⟨ok_le rfl, ok_le rfl, hc, hs⟩ (c2 := cells + 6) (n2 := slots + 57) rfl rfl dL_law_275 ?_
  refine g_perm List.perm_append_comm ?_
  rw [H2]
  refine g_icmpeq E 668 dL_law_278 (by decide) (fun _ => ?_) (fun ne => absurd H1 ne)
  exact K _ _ _ _ _ _ _ _ _ _ _ _ _ _ _ _ ⟨H3, I.2⟩
