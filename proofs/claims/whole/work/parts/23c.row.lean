def dirOK (r : Nat → Int32) (nd : Nat) : Prop := r 22 = nI nd ∧ nd ≤ 9 ∧ (nd = 9 → ∀ sx sy : Int32, (sx = 0 ∨ sx = 1 ∨ sx = 2) → (sy = 0 ∨ sy = 1 ∨ sy = 2) → ∃ j, j < 9 ∧ r (25 + 4 * j) = sx ∧ r (26 + 4 * j) = sy)
theorem dirOK.congr {r r' : Nat → Int32} {nd : Nat} (h : dirOK r nd) (e : ∀ k, 22 ≤ k → r' k = r k) : dirOK r' nd := by
  obtain ⟨h1, h2, h3⟩ := h
  refine ⟨by rw [e 22 (by omega)]; exact h1, h2, fun h9 sx sy hx hy => ?_⟩
  obtain ⟨j, q1, q2, q3⟩ := h3 h9 sx sy hx hy
  exact ⟨j, q1, by rw [e _ (by omega)]; exact q2, by rw [e _ (by omega)]; exact q3⟩
theorem nm_suc {k : Nat} {P : Nat → Prop} (h : ∀ j, j < k → ¬ P j) (hk : ¬ P k) : ∀ j, j < k + 1 → ¬ P j := fun j hj q => by
  rcases Nat.lt_succ_iff_lt_or_eq.mp hj with h1 | h1
  · exact h j h1 q
  · subst h1
    exact hk q
theorem sgn3 (v : Int32) : r_X5_sign v = 0 ∨ r_X5_sign v = 1 ∨ r_X5_sign v = 2 := by
  unfold r_X5_sign
  repeat' split
  all_goals decide
theorem cnt8 {r : Nat → Int32} {nd k : Nat} {sx sy : Int32} (hd : dirOK r nd) (hk : k ≤ nd) (hnm : ∀ j, j < k → ¬ (r (25 + 4 * j) = sx ∧ r (26 + 4 * j) = sy)) (hc : ¬ nI k < r 22) (hx : sx = 0 ∨ sx = 1 ∨ sx = 2) (hy : sy = 0 ∨ sy = 1 ∨ sy = 2) : k ≤ 8 := by
  obtain ⟨h1, h2, h3⟩ := hd
  rw [h1] at hc
  have hge : ¬ k < nd := fun q => hc ((nI_ltI (by omega) (by omega)).mpr q)
  rcases Nat.lt_or_ge 8 k with h | h
  · obtain ⟨j, q1, q2, q3⟩ := h3 (by omega) sx sy hx hy
    exact absurd ⟨q2, q3⟩ (hnm j (by omega))
  · exact h
abbrev R_X5_counts : Room := { frames := 1, cells := 0, slots := 0, locals := 21 }
def c_X5_counts_s_at202 (r : Nat → Int32) (k : Nat) (r1 : Nat → Int32) (w : Int32) : Nat → Int32 := if (r_X5_isTelling (upd (upd (upd (upd r1 24 w) 23 (nI k)) (27 + (4 * k)) (((upd (upd r1 24 w) 23 (nI k)) (27 + (4 * k))) + 1)) (28 + (4 * k)) (r_X5_greater ((upd (upd (upd r1 24 w) 23 (nI k)) (27 + (4 * k)) (((upd (upd r1 24 w) 23 (nI k)) (27 + (4 * k))) + 1)) (28 + (4 * k))) ((upd (upd (upd r1 24 w) 23 (nI k)) (27 + (4 * k)) (((upd (upd r1 24 w) 23 (nI k)) (27 + (4 * k))) + 1)) 24)))) = 0 then (upd (upd (upd (upd (upd r1 24 w) 23 (nI k)) (27 + (4 * k)) (((upd (upd r1 24 w) 23 (nI k)) (27 + (4 * k))) + 1)) (28 + (4 * k)) (r_X5_greater ((upd (upd (upd r1 24 w) 23 (nI k)) (27 + (4 * k)) (((upd (upd r1 24 w) 23 (nI k)) (27 + (4 * k))) + 1)) (28 + (4 * k))) ((upd (upd (upd r1 24 w) 23 (nI k)) (27 + (4 * k)) (((upd (upd r1 24 w) 23 (nI k)) (27 + (4 * k))) + 1)) 24))) 19 (((upd (upd (upd (upd r1 24 w) 23 (nI k)) (27 + (4 * k)) (((upd (upd r1 24 w) 23 (nI k)) (27 + (4 * k))) + 1)) (28 + (4 * k)) (r_X5_greater ((upd (upd (upd r1 24 w) 23 (nI k)) (27 + (4 * k)) (((upd (upd r1 24 w) 23 (nI k)) (27 + (4 * k))) + 1)) (28 + (4 * k))) ((upd (upd (upd r1 24 w) 23 (nI k)) (27 + (4 * k)) (((upd (upd r1 24 w) 23 (nI k)) (27 + (4 * k))) + 1)) 24))) 19) + 0)) else (upd (upd (upd (upd (upd r1 24 w) 23 (nI k)) (27 + (4 * k)) (((upd (upd r1 24 w) 23 (nI k)) (27 + (4 * k))) + 1)) (28 + (4 * k)) (r_X5_greater ((upd (upd (upd r1 24 w) 23 (nI k)) (27 + (4 * k)) (((upd (upd r1 24 w) 23 (nI k)) (27 + (4 * k))) + 1)) (28 + (4 * k))) ((upd (upd (upd r1 24 w) 23 (nI k)) (27 + (4 * k)) (((upd (upd r1 24 w) 23 (nI k)) (27 + (4 * k))) + 1)) 24))) 19 (((upd (upd (upd (upd r1 24 w) 23 (nI k)) (27 + (4 * k)) (((upd (upd r1 24 w) 23 (nI k)) (27 + (4 * k))) + 1)) (28 + (4 * k)) (r_X5_greater ((upd (upd (upd r1 24 w) 23 (nI k)) (27 + (4 * k)) (((upd (upd r1 24 w) 23 (nI k)) (27 + (4 * k))) + 1)) (28 + (4 * k))) ((upd (upd (upd r1 24 w) 23 (nI k)) (27 + (4 * k)) (((upd (upd r1 24 w) 23 (nI k)) (27 + (4 * k))) + 1)) 24))) 19) + 1))
def c_X5_counts_s_at165 (r : Nat → Int32) (k : Nat) (r1 : Nat → Int32) : Nat → Int32 := if (nI k) = (r1 23) then (c_X5_counts_s_at202 r k r1 ((r1 24) + 1)) else (c_X5_counts_s_at202 r k r1 1)
def c_X5_counts_s_at89 (r : Nat → Int32) (k : Nat) : Nat → Int32 := if (nI k) = (r 22) then (c_X5_counts_s_at165 r k (upd (upd (upd (upd (upd r 22 ((r 22) + 1)) (25 + (4 * k)) (r_X5_sign (r 14))) (26 + (4 * k)) (r_X5_sign (r 15))) (27 + (4 * k)) 0) (28 + (4 * k)) 0)) else (c_X5_counts_s_at165 r k r)
def c_X5_counts_s_at31 (r : Nat → Int32) : Nat → (Nat) → Nat → Int32
  | 0, _ => r
  | n + 1, k => if (nI k) < (r 22) then (if (r (25 + (4 * k))) = (r_X5_sign (r 14)) then (if (r (26 + (4 * k))) = (r_X5_sign (r 15)) then (c_X5_counts_s_at89 r k) else (c_X5_counts_s_at31 r n (k + 1))) else (c_X5_counts_s_at31 r n (k + 1))) else (c_X5_counts_s_at89 r k)
def c_X5_counts_s (r : Nat → Int32) : Nat → Int32 := c_X5_counts_s_at31 r 10 0
set_option maxHeartbeats 1000000 in
set_option maxRecDepth 100000 in
theorem s_X5_counts_202 (d : gD) (a : Nat → Nat) (p : Nat) (r : Nat → Int32) (f : Nat → Int32) (Z : MR) (nd : Nat) (hp : p ≤ 61) (hd : dirOK r nd) (k : Nat) (r1 : Nat → Int32) (w : Int32) (hk8 : k ≤ 8) {X : gX} (E : gE d X RX5 cX5_counts 6 R_X5_counts) (RET : ∀ (pc_ : Nat) (lv_ : List (Nat × Value)) (u_ : va_W), decode cX5_counts pc_ = .ok (.return_, 1) → u_ = MW d a (pr p (c_X5_counts_s_at202 r k r1 w) f) Z → G d X u_ R_X5_counts.cells R_X5_counts.slots pc_ lv_ []) : G d X (MW d a (pr p r1 f) Z) 0 0 202 [(0, .ref (a 0)), (1, .int (nI p)), (2, .int (r_X5_sign (r 14))), (3, .int (r_X5_sign (r 15))), (4, .int (nI k)), (5, .int (nI (p + 25 + (4 * k))))] [.int w, .int (nI (p + 24)), .ref (a 1)] := by
  obtain ⟨v1_, hv1_⟩ : ∃ z, r_X5_sign (r 14) = z := ⟨_, rfl⟩
  rw [hv1_]
  obtain ⟨v2_, hv2_⟩ : ∃ z, r_X5_sign (r 15) = z := ⟨_, rfl⟩
  rw [hv2_]
  refine g_mput E (p := p) (r := r1) (f := f) 1 rfl rfl 24 (congrArg nI (by omega)) (by omega) (by omega) (ws' := MW d a (pr p (upd r1 24 w) f) Z) rfl dX5_counts_202 ?_
  refine g_aload_n E 0 dX5_counts_203 rfl rfl ?_
  refine g_get E (ci := 5) inlX5 0 rfl rfl 0 (by decide) fl_X5_7 rfl (.ref (a 1)) rfl dX5_counts_204 ?_
  refine g_iload_n E 1 dX5_counts_207 rfl rfl ?_
  refine g_bipush E 23 dX5_counts_208 (by decide) ?_
  refine g_iadd E dX5_counts_210 ?_
  refine g_top (nI_add p 23) ?_
  refine g_iload E 4 dX5_counts_211 rfl ?_
  refine g_mput E (p := p) (r := (upd r1 24 w)) (f := f) 1 rfl rfl 23 (congrArg nI (by omega)) (by omega) (by omega) (ws' := MW d a (pr p (upd (upd r1 24 w) 23 (nI k)) f) Z) rfl dX5_counts_213 ?_
  refine g_aload_n E 0 dX5_counts_214 rfl rfl ?_
  refine g_get E (ci := 5) inlX5 0 rfl rfl 0 (by decide) fl_X5_7 rfl (.ref (a 1)) rfl dX5_counts_215 ?_
  refine g_iload E 5 dX5_counts_218 rfl ?_
  refine g_iconst E 2 dX5_counts_220 (by decide) ?_
  refine g_iadd E dX5_counts_221 ?_
  refine g_top (nI_add (p + 25 + (4 * k)) 2) ?_
  refine g_dup2 E dX5_counts_222 rfl rfl ?_
  refine g_mget E (p := p) (r := (upd (upd r1 24 w) 23 (nI k))) (f := f) 1 rfl rfl (27 + (4 * k)) (congrArg nI (by omega)) (by omega) (by omega) dX5_counts_223 ?_
  refine g_top (b := (upd (upd r1 24 w) 23 (nI k)) (27 + (4 * k))) rfl ?_
  refine g_iconst E 1 dX5_counts_224 (by decide) ?_
  refine g_iadd E dX5_counts_225 ?_
  refine g_mput E (p := p) (r := (upd (upd r1 24 w) 23 (nI k))) (f := f) 1 rfl rfl (27 + (4 * k)) (congrArg nI (by omega)) (by omega) (by omega) (ws' := MW d a (pr p (upd (upd (upd r1 24 w) 23 (nI k)) (27 + (4 * k)) (((upd (upd r1 24 w) 23 (nI k)) (27 + (4 * k))) + 1)) f) Z) rfl dX5_counts_226 ?_
  refine g_aload_n E 0 dX5_counts_227 rfl rfl ?_
  refine g_get E (ci := 5) inlX5 0 rfl rfl 0 (by decide) fl_X5_7 rfl (.ref (a 1)) rfl dX5_counts_228 ?_
  refine g_iload E 5 dX5_counts_231 rfl ?_
  refine g_iconst E 3 dX5_counts_233 (by decide) ?_
  refine g_iadd E dX5_counts_234 ?_
  refine g_top (nI_add (p + 25 + (4 * k)) 3) ?_
  refine g_aload_n E 0 dX5_counts_235 rfl rfl ?_
  refine g_get E (ci := 5) inlX5 0 rfl rfl 0 (by decide) fl_X5_7 rfl (.ref (a 1)) rfl dX5_counts_236 ?_
  refine g_iload E 5 dX5_counts_239 rfl ?_
  refine g_iconst E 3 dX5_counts_241 (by decide) ?_
  refine g_iadd E dX5_counts_242 ?_
  refine g_top (nI_add (p + 25 + (4 * k)) 3) ?_
  refine g_mget E (p := p) (r := (upd (upd (upd r1 24 w) 23 (nI k)) (27 + (4 * k)) (((upd (upd r1 24 w) 23 (nI k)) (27 + (4 * k))) + 1))) (f := f) 1 rfl rfl (28 + (4 * k)) (congrArg nI (by omega)) (by omega) (by omega) dX5_counts_243 ?_
  refine g_top (b := (upd (upd (upd r1 24 w) 23 (nI k)) (27 + (4 * k)) (((upd (upd r1 24 w) 23 (nI k)) (27 + (4 * k))) + 1)) (28 + (4 * k))) rfl ?_
  refine g_aload_n E 0 dX5_counts_244 rfl rfl ?_
  refine g_get E (ci := 5) inlX5 0 rfl rfl 0 (by decide) fl_X5_7 rfl (.ref (a 1)) rfl dX5_counts_245 ?_
  refine g_iload_n E 1 dX5_counts_248 rfl rfl ?_
  refine g_bipush E 24 dX5_counts_249 (by decide) ?_
  refine g_iadd E dX5_counts_251 ?_
  refine g_top (nI_add p 24) ?_
  refine g_mget E (p := p) (r := (upd (upd (upd r1 24 w) 23 (nI k)) (27 + (4 * k)) (((upd (upd r1 24 w) 23 (nI k)) (27 + (4 * k))) + 1))) (f := f) 1 rfl rfl 24 (congrArg nI (by omega)) (by omega) (by omega) dX5_counts_252 ?_
  refine g_top (b := (upd (upd (upd r1 24 w) 23 (nI k)) (27 + (4 * k)) (((upd (upd r1 24 w) 23 (nI k)) (27 + (4 * k))) + 1)) 24) rfl ?_
  refine g_callSp E gc_X5_greater ml_X5_42 (t_X5_greater d ((upd (upd (upd r1 24 w) 23 (nI k)) (27 + (4 * k)) (((upd (upd r1 24 w) 23 (nI k)) (27 + (4 * k))) + 1)) (28 + (4 * k))) ((upd (upd (upd r1 24 w) 23 (nI k)) (27 + (4 * k)) (((upd (upd r1 24 w) 23 (nI k)) (27 + (4 * k))) + 1)) 24) ) rfl rfl rfl (ok_le rfl) ⟨ok_le rfl, ok_le rfl, ok_le rfl, ok_le rfl⟩ rfl rfl dX5_counts_253 ?_
  refine g_nm (fun v3_ hv3_ => ?_)
  refine g_mput E (p := p) (r := (upd (upd (upd r1 24 w) 23 (nI k)) (27 + (4 * k)) (((upd (upd r1 24 w) 23 (nI k)) (27 + (4 * k))) + 1))) (f := f) 1 rfl rfl (28 + (4 * k)) (congrArg nI (by omega)) (by omega) (by omega) (ws' := MW d a (pr p (upd (upd (upd (upd r1 24 w) 23 (nI k)) (27 + (4 * k)) (((upd (upd r1 24 w) 23 (nI k)) (27 + (4 * k))) + 1)) (28 + (4 * k)) v3_) f) Z) rfl dX5_counts_256 ?_
  refine g_aload_n E 0 dX5_counts_257 rfl rfl ?_
  refine g_get E (ci := 5) inlX5 0 rfl rfl 0 (by decide) fl_X5_7 rfl (.ref (a 1)) rfl dX5_counts_258 ?_
  refine g_iload_n E 1 dX5_counts_261 rfl rfl ?_
  refine g_bipush E 19 dX5_counts_262 (by decide) ?_
  refine g_iadd E dX5_counts_264 ?_
  refine g_top (nI_add p 19) ?_
  refine g_dup2 E dX5_counts_265 rfl rfl ?_
  refine g_mget E (p := p) (r := (upd (upd (upd (upd r1 24 w) 23 (nI k)) (27 + (4 * k)) (((upd (upd r1 24 w) 23 (nI k)) (27 + (4 * k))) + 1)) (28 + (4 * k)) v3_)) (f := f) 1 rfl rfl 19 (congrArg nI (by omega)) (by omega) (by omega) dX5_counts_266 ?_
  refine g_top (b := (upd (upd (upd (upd r1 24 w) 23 (nI k)) (27 + (4 * k)) (((upd (upd r1 24 w) 23 (nI k)) (27 + (4 * k))) + 1)) (28 + (4 * k)) v3_) 19) rfl ?_
  refine g_aload_n E 0 dX5_counts_267 rfl rfl ?_
  refine g_iload_n E 1 dX5_counts_268 rfl rfl ?_
  refine g_callVi0 E gc_X5_isTelling ml_X5_46 (t_X5_isTelling d a p (upd (upd (upd (upd r1 24 w) 23 (nI k)) (27 + (4 * k)) (((upd (upd r1 24 w) 23 (nI k)) (27 + (4 * k))) + 1)) (28 + (4 * k)) v3_) f Z hp) rfl rfl (ci := 5) 0 rfl rfl rfl rfl (ok_le rfl) ⟨ok_le rfl, ok_le rfl, ok_le rfl, ok_le rfl⟩ rfl rfl dX5_counts_269 ?_
  refine g_nm (fun v4_ hv4_ => ?_)
  refine g_ifeq E 279 dX5_counts_272 (by decide) (fun c_272 => ?_) (fun c_272 => ?_)
  · skip
    refine g_iconst E 0 dX5_counts_279 (by decide) ?_
    refine g_iadd E dX5_counts_280 ?_
    refine g_mput E (p := p) (r := (upd (upd (upd (upd r1 24 w) 23 (nI k)) (27 + (4 * k)) (((upd (upd r1 24 w) 23 (nI k)) (27 + (4 * k))) + 1)) (28 + (4 * k)) v3_)) (f := f) 1 rfl rfl 19 (congrArg nI (by omega)) (by omega) (by omega) (ws' := MW d a (pr p (upd (upd (upd (upd (upd r1 24 w) 23 (nI k)) (27 + (4 * k)) (((upd (upd r1 24 w) 23 (nI k)) (27 + (4 * k))) + 1)) (28 + (4 * k)) v3_) 19 (((upd (upd (upd (upd r1 24 w) 23 (nI k)) (27 + (4 * k)) (((upd (upd r1 24 w) 23 (nI k)) (27 + (4 * k))) + 1)) (28 + (4 * k)) v3_) 19) + 0)) f) Z) rfl dX5_counts_281 ?_
    subst hv4_
    subst hv3_
    subst hv2_
    subst hv1_
    exact RET 282 _ _ dX5_counts_282 (by rw [c_X5_counts_s_at202, if_pos c_272])
  · skip
    refine g_iconst E 1 dX5_counts_275 (by decide) ?_
    refine g_goto E 280 dX5_counts_276 (by decide) ?_
    refine g_iadd E dX5_counts_280 ?_
    refine g_mput E (p := p) (r := (upd (upd (upd (upd r1 24 w) 23 (nI k)) (27 + (4 * k)) (((upd (upd r1 24 w) 23 (nI k)) (27 + (4 * k))) + 1)) (28 + (4 * k)) v3_)) (f := f) 1 rfl rfl 19 (congrArg nI (by omega)) (by omega) (by omega) (ws' := MW d a (pr p (upd (upd (upd (upd (upd r1 24 w) 23 (nI k)) (27 + (4 * k)) (((upd (upd r1 24 w) 23 (nI k)) (27 + (4 * k))) + 1)) (28 + (4 * k)) v3_) 19 (((upd (upd (upd (upd r1 24 w) 23 (nI k)) (27 + (4 * k)) (((upd (upd r1 24 w) 23 (nI k)) (27 + (4 * k))) + 1)) (28 + (4 * k)) v3_) 19) + 1)) f) Z) rfl dX5_counts_281 ?_
    subst hv4_
    subst hv3_
    subst hv2_
    subst hv1_
    exact RET 282 _ _ dX5_counts_282 (by rw [c_X5_counts_s_at202, if_neg c_272])
set_option maxHeartbeats 1000000 in
set_option maxRecDepth 100000 in
theorem s_X5_counts_165 (d : gD) (a : Nat → Nat) (p : Nat) (r : Nat → Int32) (f : Nat → Int32) (Z : MR) (nd : Nat) (hp : p ≤ 61) (hd : dirOK r nd) (k : Nat) (r1 : Nat → Int32) (hk8 : k ≤ 8) {X : gX} (E : gE d X RX5 cX5_counts 6 R_X5_counts) (RET : ∀ (pc_ : Nat) (lv_ : List (Nat × Value)) (u_ : va_W), decode cX5_counts pc_ = .ok (.return_, 1) → u_ = MW d a (pr p (c_X5_counts_s_at165 r k r1) f) Z → G d X u_ R_X5_counts.cells R_X5_counts.slots pc_ lv_ []) : G d X (MW d a (pr p r1 f) Z) 0 0 165 [(0, .ref (a 0)), (1, .int (nI p)), (2, .int (r_X5_sign (r 14))), (3, .int (r_X5_sign (r 15))), (4, .int (nI k)), (5, .int (nI (p + 25 + (4 * k))))] [] := by
  obtain ⟨v1_, hv1_⟩ : ∃ z, r_X5_sign (r 14) = z := ⟨_, rfl⟩
  rw [hv1_]
  obtain ⟨v2_, hv2_⟩ : ∃ z, r_X5_sign (r 15) = z := ⟨_, rfl⟩
  rw [hv2_]
  refine g_aload_n E 0 dX5_counts_165 rfl rfl ?_
  refine g_get E (ci := 5) inlX5 0 rfl rfl 0 (by decide) fl_X5_7 rfl (.ref (a 1)) rfl dX5_counts_166 ?_
  refine g_iload_n E 1 dX5_counts_169 rfl rfl ?_
  refine g_bipush E 24 dX5_counts_170 (by decide) ?_
  refine g_iadd E dX5_counts_172 ?_
  refine g_top (nI_add p 24) ?_
  refine g_iload E 4 dX5_counts_173 rfl ?_
  refine g_aload_n E 0 dX5_counts_175 rfl rfl ?_
  refine g_get E (ci := 5) inlX5 0 rfl rfl 0 (by decide) fl_X5_7 rfl (.ref (a 1)) rfl dX5_counts_176 ?_
  refine g_iload_n E 1 dX5_counts_179 rfl rfl ?_
  refine g_bipush E 23 dX5_counts_180 (by decide) ?_
  refine g_iadd E dX5_counts_182 ?_
  refine g_top (nI_add p 23) ?_
  refine g_mget E (p := p) (r := r1) (f := f) 1 rfl rfl 23 (congrArg nI (by omega)) (by omega) (by omega) dX5_counts_183 ?_
  refine g_top (b := r1 23) rfl ?_
  refine g_icmpne E 201 dX5_counts_184 (by decide) (fun c_184 => ?_) (fun c_184 => ?_)
  · skip
    refine g_iconst E 1 dX5_counts_201 (by decide) ?_
    subst hv2_
    subst hv1_
    exact s_X5_counts_202 d a p r f Z nd hp hd k r1 1 hk8 E (fun pc_ lv_ u_ h1_ h2_ => RET pc_ lv_ u_ h1_ (h2_.trans (by rw [c_X5_counts_s_at165, if_neg c_184])))
  · skip
    refine g_aload_n E 0 dX5_counts_187 rfl rfl ?_
    refine g_get E (ci := 5) inlX5 0 rfl rfl 0 (by decide) fl_X5_7 rfl (.ref (a 1)) rfl dX5_counts_188 ?_
    refine g_iload_n E 1 dX5_counts_191 rfl rfl ?_
    refine g_bipush E 24 dX5_counts_192 (by decide) ?_
    refine g_iadd E dX5_counts_194 ?_
    refine g_top (nI_add p 24) ?_
    refine g_mget E (p := p) (r := r1) (f := f) 1 rfl rfl 24 (congrArg nI (by omega)) (by omega) (by omega) dX5_counts_195 ?_
    refine g_top (b := r1 24) rfl ?_
    refine g_iconst E 1 dX5_counts_196 (by decide) ?_
    refine g_iadd E dX5_counts_197 ?_
    refine g_goto E 202 dX5_counts_198 (by decide) ?_
    subst hv2_
    subst hv1_
    exact s_X5_counts_202 d a p r f Z nd hp hd k r1 ((r1 24) + 1) hk8 E (fun pc_ lv_ u_ h1_ h2_ => RET pc_ lv_ u_ h1_ (h2_.trans (by rw [c_X5_counts_s_at165, if_pos c_184])))
set_option maxHeartbeats 1000000 in
set_option maxRecDepth 100000 in
theorem s_X5_counts_89 (d : gD) (a : Nat → Nat) (p : Nat) (r : Nat → Int32) (f : Nat → Int32) (Z : MR) (nd : Nat) (hp : p ≤ 61) (hd : dirOK r nd) (k : Nat) (hk8 : k ≤ 8) {X : gX} (E : gE d X RX5 cX5_counts 6 R_X5_counts) (RET : ∀ (pc_ : Nat) (lv_ : List (Nat × Value)) (u_ : va_W), decode cX5_counts pc_ = .ok (.return_, 1) → u_ = MW d a (pr p (c_X5_counts_s_at89 r k) f) Z → G d X u_ R_X5_counts.cells R_X5_counts.slots pc_ lv_ []) : G d X (MW d a (pr p r f) Z) 0 0 89 [(0, .ref (a 0)), (1, .int (nI p)), (2, .int (r_X5_sign (r 14))), (3, .int (r_X5_sign (r 15))), (4, .int (nI k))] [] := by
  obtain ⟨v1_, hv1_⟩ : ∃ z, r_X5_sign (r 14) = z := ⟨_, rfl⟩
  rw [hv1_]
  obtain ⟨v2_, hv2_⟩ : ∃ z, r_X5_sign (r 15) = z := ⟨_, rfl⟩
  rw [hv2_]
  refine g_iload_n E 1 dX5_counts_89 rfl rfl ?_
  refine g_bipush E 25 dX5_counts_90 (by decide) ?_
  refine g_iadd E dX5_counts_92 ?_
  refine g_top (nI_add p 25) ?_
  refine g_iconst E 4 dX5_counts_93 (by decide) ?_
  refine g_iload E 4 dX5_counts_94 rfl ?_
  refine g_imul E dX5_counts_96 ?_
  refine g_top (pk_mul 4 k) ?_
  refine g_iadd E dX5_counts_97 ?_
  refine g_top (nI_add (p + 25) (4 * k)) ?_
  refine g_istore E (lv' := [(5, .int (nI (p + 25 + (4 * k)))), (0, .ref (a 0)), (1, .int (nI p)), (2, .int v1_), (3, .int v2_), (4, .int (nI k))]) dX5_counts_98 (by decide) rfl ?_
  refine g_iload E 5 dX5_counts_100 rfl ?_
  refine g_aload_n E 1 dX5_counts_102 rfl rfl ?_
  refine g_get E (ci := 5) inlX5 0 rfl rfl 0 (by decide) fl_X5_7 rfl (.ref (a 1)) rfl dX5_counts_103 ?_
  refine g_iload_n E 2 dX5_counts_106 rfl rfl ?_
  refine g_bipush E 22 dX5_counts_107 (by decide) ?_
  refine g_iadd E dX5_counts_109 ?_
  refine g_top (nI_add p 22) ?_
  refine g_mget E (p := p) (r := r) (f := f) 1 rfl rfl 22 (congrArg nI (by omega)) (by omega) (by omega) dX5_counts_110 ?_
  refine g_top (b := r 22) rfl ?_
  refine g_icmpne E 165 dX5_counts_111 (by decide) (fun c_111 => ?_) (fun c_111 => ?_)
  · skip
    refine g_lvs (lv' := [(0, .ref (a 0)), (1, .int (nI p)), (2, .int v1_), (3, .int v2_), (4, .int (nI k)), (5, .int (nI (p + 25 + (4 * k))))]) [1, 2, 3, 4, 5, 0] rfl ?_
    subst hv2_
    subst hv1_
    exact s_X5_counts_165 d a p r f Z nd hp hd k r hk8 E (fun pc_ lv_ u_ h1_ h2_ => RET pc_ lv_ u_ h1_ (h2_.trans (by rw [c_X5_counts_s_at89, if_neg c_111])))
  · skip
    refine g_aload_n E 1 dX5_counts_114 rfl rfl ?_
    refine g_get E (ci := 5) inlX5 0 rfl rfl 0 (by decide) fl_X5_7 rfl (.ref (a 1)) rfl dX5_counts_115 ?_
    refine g_iload_n E 2 dX5_counts_118 rfl rfl ?_
    refine g_bipush E 22 dX5_counts_119 (by decide) ?_
    refine g_iadd E dX5_counts_121 ?_
    refine g_top (nI_add p 22) ?_
    refine g_dup2 E dX5_counts_122 rfl rfl ?_
    refine g_mget E (p := p) (r := r) (f := f) 1 rfl rfl 22 (congrArg nI (by omega)) (by omega) (by omega) dX5_counts_123 ?_
    refine g_top (b := r 22) rfl ?_
    refine g_iconst E 1 dX5_counts_124 (by decide) ?_
    refine g_iadd E dX5_counts_125 ?_
    refine g_mput E (p := p) (r := r) (f := f) 1 rfl rfl 22 (congrArg nI (by omega)) (by omega) (by omega) (ws' := MW d a (pr p (upd r 22 ((r 22) + 1)) f) Z) rfl dX5_counts_126 ?_
    refine g_aload_n E 1 dX5_counts_127 rfl rfl ?_
    refine g_get E (ci := 5) inlX5 0 rfl rfl 0 (by decide) fl_X5_7 rfl (.ref (a 1)) rfl dX5_counts_128 ?_
    refine g_iload E 0 dX5_counts_131 rfl ?_
    refine g_iload_n E 3 dX5_counts_133 rfl rfl ?_
    refine g_mput E (p := p) (r := (upd r 22 ((r 22) + 1))) (f := f) 1 rfl rfl (25 + (4 * k)) (congrArg nI (by omega)) (by omega) (by omega) (ws' := MW d a (pr p (upd (upd r 22 ((r 22) + 1)) (25 + (4 * k)) v1_) f) Z) rfl dX5_counts_134 ?_
    refine g_aload_n E 1 dX5_counts_135 rfl rfl ?_
    refine g_get E (ci := 5) inlX5 0 rfl rfl 0 (by decide) fl_X5_7 rfl (.ref (a 1)) rfl dX5_counts_136 ?_
    refine g_iload E 0 dX5_counts_139 rfl ?_
    refine g_iconst E 1 dX5_counts_141 (by decide) ?_
    refine g_iadd E dX5_counts_142 ?_
    refine g_top (nI_add (p + 25 + (4 * k)) 1) ?_
    refine g_iload_n E 4 dX5_counts_143 rfl rfl ?_
    refine g_mput E (p := p) (r := (upd (upd r 22 ((r 22) + 1)) (25 + (4 * k)) v1_)) (f := f) 1 rfl rfl (26 + (4 * k)) (congrArg nI (by omega)) (by omega) (by omega) (ws' := MW d a (pr p (upd (upd (upd r 22 ((r 22) + 1)) (25 + (4 * k)) v1_) (26 + (4 * k)) v2_) f) Z) rfl dX5_counts_144 ?_
    refine g_aload_n E 1 dX5_counts_145 rfl rfl ?_
    refine g_get E (ci := 5) inlX5 0 rfl rfl 0 (by decide) fl_X5_7 rfl (.ref (a 1)) rfl dX5_counts_146 ?_
    refine g_iload E 0 dX5_counts_149 rfl ?_
    refine g_iconst E 2 dX5_counts_151 (by decide) ?_
    refine g_iadd E dX5_counts_152 ?_
    refine g_top (nI_add (p + 25 + (4 * k)) 2) ?_
    refine g_iconst E 0 dX5_counts_153 (by decide) ?_
    refine g_mput E (p := p) (r := (upd (upd (upd r 22 ((r 22) + 1)) (25 + (4 * k)) v1_) (26 + (4 * k)) v2_)) (f := f) 1 rfl rfl (27 + (4 * k)) (congrArg nI (by omega)) (by omega) (by omega) (ws' := MW d a (pr p (upd (upd (upd (upd r 22 ((r 22) + 1)) (25 + (4 * k)) v1_) (26 + (4 * k)) v2_) (27 + (4 * k)) 0) f) Z) rfl dX5_counts_154 ?_
    refine g_aload_n E 1 dX5_counts_155 rfl rfl ?_
    refine g_get E (ci := 5) inlX5 0 rfl rfl 0 (by decide) fl_X5_7 rfl (.ref (a 1)) rfl dX5_counts_156 ?_
    refine g_iload E 0 dX5_counts_159 rfl ?_
    refine g_iconst E 3 dX5_counts_161 (by decide) ?_
    refine g_iadd E dX5_counts_162 ?_
    refine g_top (nI_add (p + 25 + (4 * k)) 3) ?_
    refine g_iconst E 0 dX5_counts_163 (by decide) ?_
    refine g_mput E (p := p) (r := (upd (upd (upd (upd r 22 ((r 22) + 1)) (25 + (4 * k)) v1_) (26 + (4 * k)) v2_) (27 + (4 * k)) 0)) (f := f) 1 rfl rfl (28 + (4 * k)) (congrArg nI (by omega)) (by omega) (by omega) (ws' := MW d a (pr p (upd (upd (upd (upd (upd r 22 ((r 22) + 1)) (25 + (4 * k)) v1_) (26 + (4 * k)) v2_) (27 + (4 * k)) 0) (28 + (4 * k)) 0) f) Z) rfl dX5_counts_164 ?_
    refine g_lvs (lv' := [(0, .ref (a 0)), (1, .int (nI p)), (2, .int v1_), (3, .int v2_), (4, .int (nI k)), (5, .int (nI (p + 25 + (4 * k))))]) [1, 2, 3, 4, 5, 0] rfl ?_
    subst hv2_
    subst hv1_
    exact s_X5_counts_165 d a p r f Z nd hp hd k (upd (upd (upd (upd (upd r 22 ((r 22) + 1)) (25 + (4 * k)) (r_X5_sign (r 14))) (26 + (4 * k)) (r_X5_sign (r 15))) (27 + (4 * k)) 0) (28 + (4 * k)) 0) hk8 E (fun pc_ lv_ u_ h1_ h2_ => RET pc_ lv_ u_ h1_ (h2_.trans (by rw [c_X5_counts_s_at89, if_pos c_111])))
set_option maxHeartbeats 1000000 in
set_option maxRecDepth 100000 in
theorem s_X5_counts_31 (d : gD) (a : Nat → Nat) (p : Nat) (r : Nat → Int32) (f : Nat → Int32) (Z : MR) (nd : Nat) (hp : p ≤ 61) (hd : dirOK r nd) {X : gX} (E : gE d X RX5 cX5_counts 6 R_X5_counts) : ∀ (n : Nat) (k : Nat) (hk : k ≤ nd) (hnm : ∀ j, j < k → ¬ (r (25 + 4 * j) = r_X5_sign (r 14) ∧ r (26 + 4 * j) = r_X5_sign (r 15))) (hm : nd - k < n) (RET : ∀ (pc_ : Nat) (lv_ : List (Nat × Value)) (u_ : va_W), decode cX5_counts pc_ = .ok (.return_, 1) → u_ = MW d a (pr p (c_X5_counts_s_at31 r n k) f) Z → G d X u_ R_X5_counts.cells R_X5_counts.slots pc_ lv_ []), G d X (MW d a (pr p r f) Z) 0 0 31 [(0, .ref (a 0)), (1, .int (nI p)), (2, .int (r_X5_sign (r 14))), (3, .int (r_X5_sign (r 15))), (4, .int (nI k))] [] := by
  intro n
  induction n with
  | zero => intro k hk hnm hm; omega
  | succ n ih =>
    intro k hk hnm hm RET
    have hd9 : nd ≤ 9 := hd.2.1
    obtain ⟨v1_, hv1_⟩ : ∃ z, r_X5_sign (r 14) = z := ⟨_, rfl⟩
    rw [hv1_]
    obtain ⟨v2_, hv2_⟩ : ∃ z, r_X5_sign (r 15) = z := ⟨_, rfl⟩
    rw [hv2_]
    refine g_iload E 4 dX5_counts_31 rfl ?_
    refine g_aload_n E 0 dX5_counts_33 rfl rfl ?_
    refine g_get E (ci := 5) inlX5 0 rfl rfl 0 (by decide) fl_X5_7 rfl (.ref (a 1)) rfl dX5_counts_34 ?_
    refine g_iload_n E 1 dX5_counts_37 rfl rfl ?_
    refine g_bipush E 22 dX5_counts_38 (by decide) ?_
    refine g_iadd E dX5_counts_40 ?_
    refine g_top (nI_add p 22) ?_
    refine g_mget E (p := p) (r := r) (f := f) 1 rfl rfl 22 (congrArg nI (by omega)) (by omega) (by omega) dX5_counts_41 ?_
    refine g_top (b := r 22) rfl ?_
    refine g_icmpge E 89 dX5_counts_42 (by decide) (fun c_42 => ?_) (fun c_42 => ?_)
    · skip
      subst hv2_
      subst hv1_
      exact s_X5_counts_89 d a p r f Z nd hp hd k (by first | omega | exact cnt8 hd hk hnm c_42 (sgn3 _) (sgn3 _)) E (fun pc_ lv_ u_ h1_ h2_ => RET pc_ lv_ u_ h1_ (h2_.trans (by rw [c_X5_counts_s_at31, if_neg c_42])))
    · skip
      have k42 : k < nd := by have q := c_42; rw [hd.1] at q; exact (nI_ltI (by omega) (by omega)).mp q
      refine g_aload_n E 0 dX5_counts_45 rfl rfl ?_
      refine g_get E (ci := 5) inlX5 0 rfl rfl 0 (by decide) fl_X5_7 rfl (.ref (a 1)) rfl dX5_counts_46 ?_
      refine g_iload_n E 1 dX5_counts_49 rfl rfl ?_
      refine g_bipush E 25 dX5_counts_50 (by decide) ?_
      refine g_iadd E dX5_counts_52 ?_
      refine g_top (nI_add p 25) ?_
      refine g_iconst E 4 dX5_counts_53 (by decide) ?_
      refine g_iload E 4 dX5_counts_54 rfl ?_
      refine g_imul E dX5_counts_56 ?_
      refine g_top (pk_mul 4 k) ?_
      refine g_iadd E dX5_counts_57 ?_
      refine g_top (nI_add (p + 25) (4 * k)) ?_
      refine g_mget E (p := p) (r := r) (f := f) 1 rfl rfl (25 + (4 * k)) (congrArg nI (by omega)) (by omega) (by omega) dX5_counts_58 ?_
      refine g_top (b := r (25 + (4 * k))) rfl ?_
      refine g_iload_n E 2 dX5_counts_59 rfl rfl ?_
      refine g_icmpne E 83 dX5_counts_60 (by decide) (fun c_60 => ?_) (fun c_60 => ?_)
      · skip
        refine g_iinc E (j := 4) (v := (nI (k + 1))) (lv' := [(4, .int (nI (k + 1))), (0, .ref (a 0)), (1, .int (nI p)), (2, .int v1_), (3, .int v2_)]) dX5_counts_83 rfl (nI_1 _) (by decide) rfl ?_
        refine g_goto E 31 dX5_counts_86 (by decide) ?_
        refine g_lvs (lv' := [(0, .ref (a 0)), (1, .int (nI p)), (2, .int v1_), (3, .int v2_), (4, .int (nI (k + 1)))]) [1, 2, 3, 4, 0] rfl ?_
        subst hv2_
        subst hv1_
        exact ih (k + 1) (by omega) (nm_suc hnm (fun q => by first | exact absurd q.1 c_60 | exact absurd q.2 c_80)) (by omega) (fun pc_ lv_ u_ h1_ h2_ => RET pc_ lv_ u_ h1_ (h2_.trans (by rw [c_X5_counts_s_at31, if_pos c_42, if_neg c_60])))
      · skip
        refine g_aload_n E 0 dX5_counts_63 rfl rfl ?_
        refine g_get E (ci := 5) inlX5 0 rfl rfl 0 (by decide) fl_X5_7 rfl (.ref (a 1)) rfl dX5_counts_64 ?_
        refine g_iload_n E 1 dX5_counts_67 rfl rfl ?_
        refine g_bipush E 25 dX5_counts_68 (by decide) ?_
        refine g_iadd E dX5_counts_70 ?_
        refine g_top (nI_add p 25) ?_
        refine g_iconst E 4 dX5_counts_71 (by decide) ?_
        refine g_iload E 4 dX5_counts_72 rfl ?_
        refine g_imul E dX5_counts_74 ?_
        refine g_top (pk_mul 4 k) ?_
        refine g_iadd E dX5_counts_75 ?_
        refine g_top (nI_add (p + 25) (4 * k)) ?_
        refine g_iconst E 1 dX5_counts_76 (by decide) ?_
        refine g_iadd E dX5_counts_77 ?_
        refine g_top (nI_add (p + 25 + (4 * k)) 1) ?_
        refine g_mget E (p := p) (r := r) (f := f) 1 rfl rfl (26 + (4 * k)) (congrArg nI (by omega)) (by omega) (by omega) dX5_counts_78 ?_
        refine g_top (b := r (26 + (4 * k))) rfl ?_
        refine g_iload_n E 3 dX5_counts_79 rfl rfl ?_
        refine g_icmpeq E 89 dX5_counts_80 (by decide) (fun c_80 => ?_) (fun c_80 => ?_)
        · skip
          subst hv2_
          subst hv1_
          exact s_X5_counts_89 d a p r f Z nd hp hd k (by first | omega | exact cnt8 hd hk hnm c_42 (sgn3 _) (sgn3 _)) E (fun pc_ lv_ u_ h1_ h2_ => RET pc_ lv_ u_ h1_ (h2_.trans (by rw [c_X5_counts_s_at31, if_pos c_42, if_pos c_60, if_pos c_80])))
        · skip
          refine g_iinc E (j := 4) (v := (nI (k + 1))) (lv' := [(4, .int (nI (k + 1))), (0, .ref (a 0)), (1, .int (nI p)), (2, .int v1_), (3, .int v2_)]) dX5_counts_83 rfl (nI_1 _) (by decide) rfl ?_
          refine g_goto E 31 dX5_counts_86 (by decide) ?_
          refine g_lvs (lv' := [(0, .ref (a 0)), (1, .int (nI p)), (2, .int v1_), (3, .int v2_), (4, .int (nI (k + 1)))]) [1, 2, 3, 4, 0] rfl ?_
          subst hv2_
          subst hv1_
          exact ih (k + 1) (by omega) (nm_suc hnm (fun q => by first | exact absurd q.1 c_60 | exact absurd q.2 c_80)) (by omega) (fun pc_ lv_ u_ h1_ h2_ => RET pc_ lv_ u_ h1_ (h2_.trans (by rw [c_X5_counts_s_at31, if_pos c_42, if_pos c_60, if_neg c_80])))
set_option maxHeartbeats 1000000 in
set_option maxRecDepth 100000 in
theorem s_X5_counts_0 (d : gD) (a : Nat → Nat) (p : Nat) (r : Nat → Int32) (f : Nat → Int32) (Z : MR) (nd : Nat) (hp : p ≤ 61) (hd : dirOK r nd)  {X : gX} (E : gE d X RX5 cX5_counts 6 R_X5_counts) (RET : ∀ (pc_ : Nat) (lv_ : List (Nat × Value)) (u_ : va_W), decode cX5_counts pc_ = .ok (.return_, 1) → u_ = MW d a (pr p (c_X5_counts_s r) f) Z → G d X u_ R_X5_counts.cells R_X5_counts.slots pc_ lv_ []) : G d X (MW d a (pr p r f) Z) 0 0 0 [(0, .ref (a 0)), (1, .int (nI p))] [] := by
  refine g_aload_n E 0 dX5_counts_0 rfl rfl ?_
  refine g_get E (ci := 5) inlX5 0 rfl rfl 0 (by decide) fl_X5_7 rfl (.ref (a 1)) rfl dX5_counts_1 ?_
  refine g_iload_n E 1 dX5_counts_4 rfl rfl ?_
  refine g_bipush E 14 dX5_counts_5 (by decide) ?_
  refine g_iadd E dX5_counts_7 ?_
  refine g_top (nI_add p 14) ?_
  refine g_mget E (p := p) (r := r) (f := f) 1 rfl rfl 14 (congrArg nI (by omega)) (by omega) (by omega) dX5_counts_8 ?_
  refine g_top (b := r 14) rfl ?_
  refine g_callSp E gc_X5_sign ml_X5_60 (t_X5_sign d (r 14) ) rfl rfl rfl (ok_le rfl) ⟨ok_le rfl, ok_le rfl, ok_le rfl, ok_le rfl⟩ rfl rfl dX5_counts_9 ?_
  refine g_nm (fun v1_ hv1_ => ?_)
  refine g_istore_n E (lv' := [(2, .int v1_), (0, .ref (a 0)), (1, .int (nI p))]) dX5_counts_12 rfl (by decide) rfl ?_
  refine g_aload_n E 1 dX5_counts_13 rfl rfl ?_
  refine g_get E (ci := 5) inlX5 0 rfl rfl 0 (by decide) fl_X5_7 rfl (.ref (a 1)) rfl dX5_counts_14 ?_
  refine g_iload_n E 2 dX5_counts_17 rfl rfl ?_
  refine g_bipush E 14 dX5_counts_18 (by decide) ?_
  refine g_iadd E dX5_counts_20 ?_
  refine g_top (nI_add p 14) ?_
  refine g_iconst E 1 dX5_counts_21 (by decide) ?_
  refine g_iadd E dX5_counts_22 ?_
  refine g_top (nI_add (p + 14) 1) ?_
  refine g_mget E (p := p) (r := r) (f := f) 1 rfl rfl 15 (congrArg nI (by omega)) (by omega) (by omega) dX5_counts_23 ?_
  refine g_top (b := r 15) rfl ?_
  refine g_callSp E gc_X5_sign ml_X5_60 (t_X5_sign d (r 15) ) rfl rfl rfl (ok_le rfl) ⟨ok_le rfl, ok_le rfl, ok_le rfl, ok_le rfl⟩ rfl rfl dX5_counts_24 ?_
  refine g_nm (fun v2_ hv2_ => ?_)
  refine g_istore_n E (lv' := [(3, .int v2_), (2, .int v1_), (0, .ref (a 0)), (1, .int (nI p))]) dX5_counts_27 rfl (by decide) rfl ?_
  refine g_iconst E 0 dX5_counts_28 (by decide) ?_
  refine g_istore E (lv' := [(4, .int 0), (3, .int v2_), (2, .int v1_), (0, .ref (a 0)), (1, .int (nI p))]) dX5_counts_29 (by decide) rfl ?_
  refine g_lvs (lv' := [(0, .ref (a 0)), (1, .int (nI p)), (2, .int v1_), (3, .int v2_), (4, .int 0)]) [3, 4, 2, 1, 0] rfl ?_
  subst hv2_
  subst hv1_
  exact s_X5_counts_31 d a p r f Z nd hp hd E 10 0 (by omega) (fun j hj => absurd hj (by omega)) (by have := hd.2.1; omega) (fun pc_ lv_ u_ h1_ h2_ => RET pc_ lv_ u_ h1_ (h2_.trans (by rw [c_X5_counts_s])))
set_option maxHeartbeats 1000000 in
set_option maxRecDepth 100000 in
theorem t_X5_counts (d : gD) (a : Nat → Nat) (p : Nat) (r : Nat → Int32) (f : Nat → Int32) (Z : MR) (nd : Nat) (hp : p ≤ 61) (hd : dirOK r nd) : gMv d yX5_counts cX5_counts 6 R_X5_counts [.ref (a 0), .int (nI p)] (MW d a (pr p r f) Z) (fun u_ => u_ = MW d a (pr p (c_X5_counts_s r) f) Z) :=
  g_met_v RX5 rfl (by decide +kernel) (Nat.le_of_ble_eq_true rfl) [(0, .ref (a 0)), (1, .int (nI p))] rfl (fun X E _ RET => s_X5_counts_0 d a p r f Z nd hp hd E (fun pc_ lv_ u_ h1_ h2_ => RET pc_ lv_ u_ h1_ h2_))
