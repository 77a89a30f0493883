abbrev R_X5_tells : Room := { frames := 2, cells := 0, slots := 0, locals := 46 }
def j_X5_tells_59_s0 (x : Int32) (y : Int32) (r : Nat → Int32) : Int32 := if (r 4) < ((r_X5_size (r_X5_axis (r_X5_off 0 x r) r)) + (r_X5_size (r_X5_axis (r_X5_off 1 y r) r))) then 1 else 0
def j_X5_tells_93_s0 (x : Int32) (y : Int32) (r : Nat → Int32) : Int32 := if (j_X5_tells_59_s0 x y r) = 0 then (r_X5_axis (r_X5_off 0 x r) r) else (((r_X5_axis (r_X5_off 0 x r) r) * (r 4)) / ((r_X5_size (r_X5_axis (r_X5_off 0 x r) r)) + (r_X5_size (r_X5_axis (r_X5_off 1 y r) r))))
def j_X5_tells_128_s0 (x : Int32) (y : Int32) (r : Nat → Int32) : Int32 := if (j_X5_tells_59_s0 x y r) = 0 then (r_X5_axis (r_X5_off 1 y r) r) else (((r_X5_axis (r_X5_off 1 y r) r) * (r 4)) / ((r_X5_size (r_X5_axis (r_X5_off 0 x r) r)) + (r_X5_size (r_X5_axis (r_X5_off 1 y r) r))))
def j_X5_tells_188_s0 (x : Int32) (y : Int32) (r : Nat → Int32) : Int32 := if (r 13) = 0 then (if (r 12) < (r 5) then 0 else (if ((r 9) + 8) < (r_X5_far x y (upd (upd r 14 (j_X5_tells_93_s0 x y r)) 15 (j_X5_tells_128_s0 x y r))) then 0 else 1)) else 0
def c_X5_tells_s_at188 (x : Int32) (y : Int32) (r : Nat → Int32) : Nat → Int32 := if (j_X5_tells_188_s0 x y r) = 0 then (upd (upd r 14 (j_X5_tells_93_s0 x y r)) 15 (j_X5_tells_128_s0 x y r)) else (upd (upd (upd (upd (upd (upd (upd (upd r 14 (j_X5_tells_93_s0 x y r)) 15 (j_X5_tells_128_s0 x y r)) 7 (16 * x)) 8 (16 * y)) 12 0) 14 0) 15 0) 17 ((r 17) + 1))
def c_X5_tells_s_at128 (x : Int32) (y : Int32) (r : Nat → Int32) : Nat → Int32 := c_X5_tells_s_at188 x y r
def c_X5_tells_s_at93 (x : Int32) (y : Int32) (r : Nat → Int32) : Nat → Int32 := c_X5_tells_s_at128 x y r
def c_X5_tells_s_at59 (x : Int32) (y : Int32) (r : Nat → Int32) : Nat → Int32 := c_X5_tells_s_at93 x y r
def c_X5_tells_s (x : Int32) (y : Int32) (r : Nat → Int32) : Nat → Int32 := c_X5_tells_s_at59 x y r
theorem tells_j {x y : Int32} {r : Nat → Int32} (e : r_X5_size (r_X5_axis (r_X5_off 0 x r) r) + r_X5_size (r_X5_axis (r_X5_off 1 y r) r) = 0) (hc4 : ¬ r 4 < 0) : j_X5_tells_59_s0 x y r = 0 := by
  unfold j_X5_tells_59_s0
  rw [e, if_neg hc4]
set_option maxHeartbeats 4000000 in
set_option maxRecDepth 100000 in
theorem s_X5_tells_188 (d : gD) (a : Nat → Nat) (p : Nat) (x : Int32) (y : Int32) (r : Nat → Int32) (f : Nat → Int32) (Z : MR) (hp : p ≤ 61) (hz : ¬ (r 3) - (r 9) = 0) (hc4 : ¬ r 4 < 0)  {X : gX} (E : gE d X RX5 cX5_tells 9 R_X5_tells) (RET : ∀ (pc_ : Nat) (lv_ : List (Nat × Value)) (u_ : va_W), decode cX5_tells pc_ = .ok (.return_, 1) → u_ = MW d a (pr p (c_X5_tells_s_at188 x y r) f) Z → G d X u_ R_X5_tells.cells R_X5_tells.slots pc_ lv_ []) : G d X (MW d a (pr p (upd (upd r 14 (j_X5_tells_93_s0 x y r)) 15 (j_X5_tells_128_s0 x y r)) f) Z) 0 0 188 [(0, .ref (a 0)), (1, .int (nI p)), (2, .int x), (3, .int y), (4, .int (r_X5_axis (r_X5_off 0 x r) r)), (5, .int (r_X5_axis (r_X5_off 1 y r) r)), (6, .int ((r_X5_size (r_X5_axis (r_X5_off 0 x r) r)) + (r_X5_size (r_X5_axis (r_X5_off 1 y r) r)))), (7, .int (j_X5_tells_59_s0 x y r))] [.int (j_X5_tells_188_s0 x y r)] := by
  obtain ⟨v1_, hv1_⟩ : ∃ z, r_X5_off 0 x r = z := ⟨_, rfl⟩
  rw [hv1_]
  obtain ⟨v2_, hv2_⟩ : ∃ z, r_X5_axis v1_ r = z := ⟨_, rfl⟩
  rw [hv2_]
  obtain ⟨v3_, hv3_⟩ : ∃ z, r_X5_off 1 y r = z := ⟨_, rfl⟩
  rw [hv3_]
  obtain ⟨v4_, hv4_⟩ : ∃ z, r_X5_axis v3_ r = z := ⟨_, rfl⟩
  rw [hv4_]
  obtain ⟨v5_, hv5_⟩ : ∃ z, r_X5_size v2_ = z := ⟨_, rfl⟩
  rw [hv5_]
  obtain ⟨v6_, hv6_⟩ : ∃ z, r_X5_size v4_ = z := ⟨_, rfl⟩
  rw [hv6_]
  obtain ⟨J7_, hJ7_⟩ : ∃ z, j_X5_tells_59_s0 x y r = z := ⟨_, rfl⟩
  rw [hJ7_]
  obtain ⟨J8_, hJ8_⟩ : ∃ z, j_X5_tells_93_s0 x y r = z := ⟨_, rfl⟩
  rw [hJ8_]
  obtain ⟨J9_, hJ9_⟩ : ∃ z, j_X5_tells_128_s0 x y r = z := ⟨_, rfl⟩
  rw [hJ9_]
  obtain ⟨J11_, hJ11_⟩ : ∃ z, j_X5_tells_188_s0 x y r = z := ⟨_, rfl⟩
  rw [hJ11_]
  refine g_istore E (lv' := [(8, .int J11_), (0, .ref (a 0)), (1, .int (nI p)), (2, .int x), (3, .int y), (4, .int v2_), (5, .int v4_), (6, .int (v5_ + v6_)), (7, .int J7_)]) dX5_tells_188 (by decide) rfl ?_
  refine g_iload E 0 dX5_tells_190 rfl ?_
  refine g_ifeq E 268 dX5_tells_192 (by decide) (fun c_192 => ?_) (fun c_192 => ?_)
  · skip
    subst hJ11_
    subst hJ9_
    subst hJ8_
    subst hJ7_
    subst hv6_
    subst hv5_
    subst hv4_
    subst hv3_
    subst hv2_
    subst hv1_
    exact RET 268 _ _ dX5_tells_268 (by rw [c_X5_tells_s_at188, if_pos c_192])
  · skip
    refine g_aload_n E 1 dX5_tells_195 rfl rfl ?_
    refine g_get E (ci := 5) inlX5 0 rfl rfl 0 (by decide) fl_X5_7 rfl (.ref (a 1)) rfl dX5_tells_196 ?_
    refine g_iload_n E 2 dX5_tells_199 rfl rfl ?_
    refine g_bipush E 7 dX5_tells_200 (by decide) ?_
    refine g_iadd E dX5_tells_202 ?_
    refine g_top (nI_add p 7) ?_
    refine g_bipush E 16 dX5_tells_203 (by decide) ?_
    refine g_iload_n E 3 dX5_tells_205 rfl rfl ?_
    refine g_imul E dX5_tells_206 ?_
    refine g_mput E (p := p) (r := (upd (upd r 14 J8_) 15 J9_)) (f := f) 1 rfl rfl 7 (congrArg nI (by omega)) (by omega) (by omega) (ws' := MW d a (pr p (upd (upd (upd r 14 J8_) 15 J9_) 7 (16 * x)) f) Z) rfl dX5_tells_207 ?_
    refine g_aload_n E 1 dX5_tells_208 rfl rfl ?_
    refine g_get E (ci := 5) inlX5 0 rfl rfl 0 (by decide) fl_X5_7 rfl (.ref (a 1)) rfl dX5_tells_209 ?_
    refine g_iload_n E 2 dX5_tells_212 rfl rfl ?_
    refine g_bipush E 7 dX5_tells_213 (by decide) ?_
    refine g_iadd E dX5_tells_215 ?_
    refine g_top (nI_add p 7) ?_
    refine g_iconst E 1 dX5_tells_216 (by decide) ?_
    refine g_iadd E dX5_tells_217 ?_
    refine g_top (nI_add (p + 7) 1) ?_
    refine g_bipush E 16 dX5_tells_218 (by decide) ?_
    refine g_iload_n E 4 dX5_tells_220 rfl rfl ?_
    refine g_imul E dX5_tells_221 ?_
    refine g_mput E (p := p) (r := (upd (upd (upd r 14 J8_) 15 J9_) 7 (16 * x))) (f := f) 1 rfl rfl 8 (congrArg nI (by omega)) (by omega) (by omega) (ws' := MW d a (pr p (upd (upd (upd (upd r 14 J8_) 15 J9_) 7 (16 * x)) 8 (16 * y)) f) Z) rfl dX5_tells_222 ?_
    refine g_aload_n E 1 dX5_tells_223 rfl rfl ?_
    refine g_get E (ci := 5) inlX5 0 rfl rfl 0 (by decide) fl_X5_7 rfl (.ref (a 1)) rfl dX5_tells_224 ?_
    refine g_iload_n E 2 dX5_tells_227 rfl rfl ?_
    refine g_bipush E 12 dX5_tells_228 (by decide) ?_
    refine g_iadd E dX5_tells_230 ?_
    refine g_top (nI_add p 12) ?_
    refine g_iconst E 0 dX5_tells_231 (by decide) ?_
    refine g_mput E (p := p) (r := (upd (upd (upd (upd r 14 J8_) 15 J9_) 7 (16 * x)) 8 (16 * y))) (f := f) 1 rfl rfl 12 (congrArg nI (by omega)) (by omega) (by omega) (ws' := MW d a (pr p (upd (upd (upd (upd (upd r 14 J8_) 15 J9_) 7 (16 * x)) 8 (16 * y)) 12 0) f) Z) rfl dX5_tells_232 ?_
    refine g_aload_n E 1 dX5_tells_233 rfl rfl ?_
    refine g_get E (ci := 5) inlX5 0 rfl rfl 0 (by decide) fl_X5_7 rfl (.ref (a 1)) rfl dX5_tells_234 ?_
    refine g_iload_n E 2 dX5_tells_237 rfl rfl ?_
    refine g_bipush E 14 dX5_tells_238 (by decide) ?_
    refine g_iadd E dX5_tells_240 ?_
    refine g_top (nI_add p 14) ?_
    refine g_iconst E 0 dX5_tells_241 (by decide) ?_
    refine g_mput E (p := p) (r := (upd (upd (upd (upd (upd r 14 J8_) 15 J9_) 7 (16 * x)) 8 (16 * y)) 12 0)) (f := f) 1 rfl rfl 14 (congrArg nI (by omega)) (by omega) (by omega) (ws' := MW d a (pr p (upd (upd (upd (upd (upd (upd r 14 J8_) 15 J9_) 7 (16 * x)) 8 (16 * y)) 12 0) 14 0) f) Z) rfl dX5_tells_242 ?_
    refine g_aload_n E 1 dX5_tells_243 rfl rfl ?_
    refine g_get E (ci := 5) inlX5 0 rfl rfl 0 (by decide) fl_X5_7 rfl (.ref (a 1)) rfl dX5_tells_244 ?_
    refine g_iload_n E 2 dX5_tells_247 rfl rfl ?_
    refine g_bipush E 14 dX5_tells_248 (by decide) ?_
    refine g_iadd E dX5_tells_250 ?_
    refine g_top (nI_add p 14) ?_
    refine g_iconst E 1 dX5_tells_251 (by decide) ?_
    refine g_iadd E dX5_tells_252 ?_
    refine g_top (nI_add (p + 14) 1) ?_
    refine g_iconst E 0 dX5_tells_253 (by decide) ?_
    refine g_mput E (p := p) (r := (upd (upd (upd (upd (upd (upd r 14 J8_) 15 J9_) 7 (16 * x)) 8 (16 * y)) 12 0) 14 0)) (f := f) 1 rfl rfl 15 (congrArg nI (by omega)) (by omega) (by omega) (ws' := MW d a (pr p (upd (upd (upd (upd (upd (upd (upd r 14 J8_) 15 J9_) 7 (16 * x)) 8 (16 * y)) 12 0) 14 0) 15 0) f) Z) rfl dX5_tells_254 ?_
    refine g_aload_n E 1 dX5_tells_255 rfl rfl ?_
    refine g_get E (ci := 5) inlX5 0 rfl rfl 0 (by decide) fl_X5_7 rfl (.ref (a 1)) rfl dX5_tells_256 ?_
    refine g_iload_n E 2 dX5_tells_259 rfl rfl ?_
    refine g_bipush E 17 dX5_tells_260 (by decide) ?_
    refine g_iadd E dX5_tells_262 ?_
    refine g_top (nI_add p 17) ?_
    refine g_dup2 E dX5_tells_263 rfl rfl ?_
    refine g_mget E (p := p) (r := (upd (upd (upd (upd (upd (upd (upd r 14 J8_) 15 J9_) 7 (16 * x)) 8 (16 * y)) 12 0) 14 0) 15 0)) (f := f) 1 rfl rfl 17 (congrArg nI (by omega)) (by omega) (by omega) dX5_tells_264 ?_
    refine g_top (b := r 17) rfl ?_
    refine g_iconst E 1 dX5_tells_265 (by decide) ?_
    refine g_iadd E dX5_tells_266 ?_
    refine g_mput E (p := p) (r := (upd (upd (upd (upd (upd (upd (upd r 14 J8_) 15 J9_) 7 (16 * x)) 8 (16 * y)) 12 0) 14 0) 15 0)) (f := f) 1 rfl rfl 17 (congrArg nI (by omega)) (by omega) (by omega) (ws' := MW d a (pr p (upd (upd (upd (upd (upd (upd (upd (upd r 14 J8_) 15 J9_) 7 (16 * x)) 8 (16 * y)) 12 0) 14 0) 15 0) 17 ((r 17) + 1)) f) Z) rfl dX5_tells_267 ?_
    subst hJ11_
    subst hJ9_
    subst hJ8_
    subst hJ7_
    subst hv6_
    subst hv5_
    subst hv4_
    subst hv3_
    subst hv2_
    subst hv1_
    exact RET 268 _ _ dX5_tells_268 (by rw [c_X5_tells_s_at188, if_neg c_192])
set_option maxHeartbeats 4000000 in
set_option maxRecDepth 100000 in
theorem s_X5_tells_128 (d : gD) (a : Nat → Nat) (p : Nat) (x : Int32) (y : Int32) (r : Nat → Int32) (f : Nat → Int32) (Z : MR) (hp : p ≤ 61) (hz : ¬ (r 3) - (r 9) = 0) (hc4 : ¬ r 4 < 0)  {X : gX} (E : gE d X RX5 cX5_tells 9 R_X5_tells) (RET : ∀ (pc_ : Nat) (lv_ : List (Nat × Value)) (u_ : va_W), decode cX5_tells pc_ = .ok (.return_, 1) → u_ = MW d a (pr p (c_X5_tells_s_at128 x y r) f) Z → G d X u_ R_X5_tells.cells R_X5_tells.slots pc_ lv_ []) : G d X (MW d a (pr p (upd r 14 (j_X5_tells_93_s0 x y r)) f) Z) 0 0 128 [(0, .ref (a 0)), (1, .int (nI p)), (2, .int x), (3, .int y), (4, .int (r_X5_axis (r_X5_off 0 x r) r)), (5, .int (r_X5_axis (r_X5_off 1 y r) r)), (6, .int ((r_X5_size (r_X5_axis (r_X5_off 0 x r) r)) + (r_X5_size (r_X5_axis (r_X5_off 1 y r) r)))), (7, .int (j_X5_tells_59_s0 x y r))] [.int (j_X5_tells_128_s0 x y r), .int (nI (p + 14 + 1)), .ref (a 1)] := by
  obtain ⟨v1_, hv1_⟩ : ∃ z, r_X5_off 0 x r = z := ⟨_, rfl⟩
  rw [hv1_]
  obtain ⟨v2_, hv2_⟩ : ∃ z, r_X5_axis v1_ r = z := ⟨_, rfl⟩
  rw [hv2_]
  obtain ⟨v3_, hv3_⟩ : ∃ z, r_X5_off 1 y r = z := ⟨_, rfl⟩
  rw [hv3_]
  obtain ⟨v4_, hv4_⟩ : ∃ z, r_X5_axis v3_ r = z := ⟨_, rfl⟩
  rw [hv4_]
  obtain ⟨v5_, hv5_⟩ : ∃ z, r_X5_size v2_ = z := ⟨_, rfl⟩
  rw [hv5_]
  obtain ⟨v6_, hv6_⟩ : ∃ z, r_X5_size v4_ = z := ⟨_, rfl⟩
  rw [hv6_]
  obtain ⟨J7_, hJ7_⟩ : ∃ z, j_X5_tells_59_s0 x y r = z := ⟨_, rfl⟩
  rw [hJ7_]
  obtain ⟨J8_, hJ8_⟩ : ∃ z, j_X5_tells_93_s0 x y r = z := ⟨_, rfl⟩
  rw [hJ8_]
  obtain ⟨J9_, hJ9_⟩ : ∃ z, j_X5_tells_128_s0 x y r = z := ⟨_, rfl⟩
  rw [hJ9_]
  refine g_mput E (p := p) (r := (upd r 14 J8_)) (f := f) 1 rfl rfl 15 (congrArg nI (by omega)) (by omega) (by omega) (ws' := MW d a (pr p (upd (upd r 14 J8_) 15 J9_) f) Z) rfl dX5_tells_128 ?_
  refine g_aload_n E 0 dX5_tells_129 rfl rfl ?_
  refine g_get E (ci := 5) inlX5 0 rfl rfl 0 (by decide) fl_X5_7 rfl (.ref (a 1)) rfl dX5_tells_130 ?_
  refine g_iload_n E 1 dX5_tells_133 rfl rfl ?_
  refine g_bipush E 13 dX5_tells_134 (by decide) ?_
  refine g_iadd E dX5_tells_136 ?_
  refine g_top (nI_add p 13) ?_
  refine g_mget E (p := p) (r := (upd (upd r 14 J8_) 15 J9_)) (f := f) 1 rfl rfl 13 (congrArg nI (by omega)) (by omega) (by omega) dX5_tells_137 ?_
  refine g_top (b := r 13) rfl ?_
  refine g_ifne E 187 dX5_tells_138 (by decide) (fun c_138 => ?_) (fun c_138 => ?_)
  · skip
    refine g_iconst E 0 dX5_tells_187 (by decide) ?_
    subst hJ9_
    subst hJ8_
    subst hJ7_
    subst hv6_
    subst hv5_
    subst hv4_
    subst hv3_
    subst hv2_
    subst hv1_
    have J := s_X5_tells_188 d a p x y r f Z hp hz hc4  E (fun pc_ lv_ u_ h1_ h2_ => RET pc_ lv_ u_ h1_ (h2_.trans (by rw [c_X5_tells_s_at128])))
    rw [j_X5_tells_188_s0, if_neg c_138] at J
    exact J
  · skip
    refine g_aload_n E 0 dX5_tells_141 rfl rfl ?_
    refine g_get E (ci := 5) inlX5 0 rfl rfl 0 (by decide) fl_X5_7 rfl (.ref (a 1)) rfl dX5_tells_142 ?_
    refine g_iload_n E 1 dX5_tells_145 rfl rfl ?_
    refine g_bipush E 12 dX5_tells_146 (by decide) ?_
    refine g_iadd E dX5_tells_148 ?_
    refine g_top (nI_add p 12) ?_
    refine g_mget E (p := p) (r := (upd (upd r 14 J8_) 15 J9_)) (f := f) 1 rfl rfl 12 (congrArg nI (by omega)) (by omega) (by omega) dX5_tells_149 ?_
    refine g_top (b := r 12) rfl ?_
    refine g_aload_n E 0 dX5_tells_150 rfl rfl ?_
    refine g_get E (ci := 5) inlX5 0 rfl rfl 0 (by decide) fl_X5_7 rfl (.ref (a 1)) rfl dX5_tells_151 ?_
    refine g_iload_n E 1 dX5_tells_154 rfl rfl ?_
    refine g_iconst E 5 dX5_tells_155 (by decide) ?_
    refine g_iadd E dX5_tells_156 ?_
    refine g_top (nI_add p 5) ?_
    refine g_mget E (p := p) (r := (upd (upd r 14 J8_) 15 J9_)) (f := f) 1 rfl rfl 5 (congrArg nI (by omega)) (by omega) (by omega) dX5_tells_157 ?_
    refine g_top (b := r 5) rfl ?_
    refine g_icmplt E 187 dX5_tells_158 (by decide) (fun c_158 => ?_) (fun c_158 => ?_)
    · skip
      refine g_iconst E 0 dX5_tells_187 (by decide) ?_
      subst hJ9_
      subst hJ8_
      subst hJ7_
      subst hv6_
      subst hv5_
      subst hv4_
      subst hv3_
      subst hv2_
      subst hv1_
      have J := s_X5_tells_188 d a p x y r f Z hp hz hc4  E (fun pc_ lv_ u_ h1_ h2_ => RET pc_ lv_ u_ h1_ (h2_.trans (by rw [c_X5_tells_s_at128])))
      rw [j_X5_tells_188_s0, if_pos c_138, if_pos c_158] at J
      exact J
    · skip
      refine g_aload_n E 0 dX5_tells_161 rfl rfl ?_
      refine g_iload_n E 1 dX5_tells_162 rfl rfl ?_
      refine g_iload_n E 2 dX5_tells_163 rfl rfl ?_
      refine g_iload_n E 3 dX5_tells_164 rfl rfl ?_
      refine g_callVi0 E gc_X5_far ml_X5_50 (t_X5_far d a p x y (upd (upd r 14 J8_) 15 J9_) f Z (by first | assumption | omega)) rfl rfl (ci := 5) 0 rfl rfl rfl rfl (ok_le rfl) ⟨ok_le rfl, ok_le rfl, ok_le rfl, ok_le rfl⟩ rfl rfl dX5_tells_165 ?_
      refine g_nm (fun v10_ hv10_ => ?_)
      refine g_aload_n E 0 dX5_tells_168 rfl rfl ?_
      refine g_get E (ci := 5) inlX5 0 rfl rfl 0 (by decide) fl_X5_7 rfl (.ref (a 1)) rfl dX5_tells_169 ?_
      refine g_iload_n E 1 dX5_tells_172 rfl rfl ?_
      refine g_bipush E 9 dX5_tells_173 (by decide) ?_
      refine g_iadd E dX5_tells_175 ?_
      refine g_top (nI_add p 9) ?_
      refine g_mget E (p := p) (r := (upd (upd r 14 J8_) 15 J9_)) (f := f) 1 rfl rfl 9 (congrArg nI (by omega)) (by omega) (by omega) dX5_tells_176 ?_
      refine g_top (b := r 9) rfl ?_
      refine g_bipush E 8 dX5_tells_177 (by decide) ?_
      refine g_iadd E dX5_tells_179 ?_
      refine g_icmpgt E 187 dX5_tells_180 (by decide) (fun c_180 => ?_) (fun c_180 => ?_)
      · skip
        refine g_iconst E 0 dX5_tells_187 (by decide) ?_
        subst hv10_
        subst hJ9_
        subst hJ8_
        subst hJ7_
        subst hv6_
        subst hv5_
        subst hv4_
        subst hv3_
        subst hv2_
        subst hv1_
        have J := s_X5_tells_188 d a p x y r f Z hp hz hc4  E (fun pc_ lv_ u_ h1_ h2_ => RET pc_ lv_ u_ h1_ (h2_.trans (by rw [c_X5_tells_s_at128])))
        rw [j_X5_tells_188_s0, if_pos c_138, if_neg c_158, if_pos c_180] at J
        exact J
      · skip
        refine g_iconst E 1 dX5_tells_183 (by decide) ?_
        refine g_goto E 188 dX5_tells_184 (by decide) ?_
        subst hv10_
        subst hJ9_
        subst hJ8_
        subst hJ7_
        subst hv6_
        subst hv5_
        subst hv4_
        subst hv3_
        subst hv2_
        subst hv1_
        have J := s_X5_tells_188 d a p x y r f Z hp hz hc4  E (fun pc_ lv_ u_ h1_ h2_ => RET pc_ lv_ u_ h1_ (h2_.trans (by rw [c_X5_tells_s_at128])))
        rw [j_X5_tells_188_s0, if_pos c_138, if_neg c_158, if_neg c_180] at J
        exact J
set_option maxHeartbeats 4000000 in
set_option maxRecDepth 100000 in
theorem s_X5_tells_93 (d : gD) (a : Nat → Nat) (p : Nat) (x : Int32) (y : Int32) (r : Nat → Int32) (f : Nat → Int32) (Z : MR) (hp : p ≤ 61) (hz : ¬ (r 3) - (r 9) = 0) (hc4 : ¬ r 4 < 0)  {X : gX} (E : gE d X RX5 cX5_tells 9 R_X5_tells) (RET : ∀ (pc_ : Nat) (lv_ : List (Nat × Value)) (u_ : va_W), decode cX5_tells pc_ = .ok (.return_, 1) → u_ = MW d a (pr p (c_X5_tells_s_at93 x y r) f) Z → G d X u_ R_X5_tells.cells R_X5_tells.slots pc_ lv_ []) : G d X (MW d a (pr p r f) Z) 0 0 93 [(0, .ref (a 0)), (1, .int (nI p)), (2, .int x), (3, .int y), (4, .int (r_X5_axis (r_X5_off 0 x r) r)), (5, .int (r_X5_axis (r_X5_off 1 y r) r)), (6, .int ((r_X5_size (r_X5_axis (r_X5_off 0 x r) r)) + (r_X5_size (r_X5_axis (r_X5_off 1 y r) r)))), (7, .int (j_X5_tells_59_s0 x y r))] [.int (j_X5_tells_93_s0 x y r), .int (nI (p + 14)), .ref (a 1)] := by
  obtain ⟨v1_, hv1_⟩ : ∃ z, r_X5_off 0 x r = z := ⟨_, rfl⟩
  rw [hv1_]
  obtain ⟨v2_, hv2_⟩ : ∃ z, r_X5_axis v1_ r = z := ⟨_, rfl⟩
  rw [hv2_]
  obtain ⟨v3_, hv3_⟩ : ∃ z, r_X5_off 1 y r = z := ⟨_, rfl⟩
  rw [hv3_]
  obtain ⟨v4_, hv4_⟩ : ∃ z, r_X5_axis v3_ r = z := ⟨_, rfl⟩
  rw [hv4_]
  obtain ⟨v5_, hv5_⟩ : ∃ z, r_X5_size v2_ = z := ⟨_, rfl⟩
  rw [hv5_]
  obtain ⟨v6_, hv6_⟩ : ∃ z, r_X5_size v4_ = z := ⟨_, rfl⟩
  rw [hv6_]
  obtain ⟨J7_, hJ7_⟩ : ∃ z, j_X5_tells_59_s0 x y r = z := ⟨_, rfl⟩
  rw [hJ7_]
  obtain ⟨J8_, hJ8_⟩ : ∃ z, j_X5_tells_93_s0 x y r = z := ⟨_, rfl⟩
  rw [hJ8_]
  refine g_mput E (p := p) (r := r) (f := f) 1 rfl rfl 14 (congrArg nI (by omega)) (by omega) (by omega) (ws' := MW d a (pr p (upd r 14 J8_) f) Z) rfl dX5_tells_93 ?_
  refine g_aload_n E 0 dX5_tells_94 rfl rfl ?_
  refine g_get E (ci := 5) inlX5 0 rfl rfl 0 (by decide) fl_X5_7 rfl (.ref (a 1)) rfl dX5_tells_95 ?_
  refine g_iload_n E 1 dX5_tells_98 rfl rfl ?_
  refine g_bipush E 14 dX5_tells_99 (by decide) ?_
  refine g_iadd E dX5_tells_101 ?_
  refine g_top (nI_add p 14) ?_
  refine g_iconst E 1 dX5_tells_102 (by decide) ?_
  refine g_iadd E dX5_tells_103 ?_
  refine g_top (nI_add (p + 14) 1) ?_
  refine g_iload E 7 dX5_tells_104 rfl ?_
  refine g_ifeq E 126 dX5_tells_106 (by decide) (fun c_106 => ?_) (fun c_106 => ?_)
  · skip
    refine g_iload E 5 dX5_tells_126 rfl ?_
    subst hJ8_
    subst hJ7_
    subst hv6_
    subst hv5_
    subst hv4_
    subst hv3_
    subst hv2_
    subst hv1_
    have J := s_X5_tells_128 d a p x y r f Z hp hz hc4  E (fun pc_ lv_ u_ h1_ h2_ => RET pc_ lv_ u_ h1_ (h2_.trans (by rw [c_X5_tells_s_at93])))
    rw [j_X5_tells_128_s0, if_pos c_106] at J
    exact J
  · skip
    refine g_iload E 5 dX5_tells_109 rfl ?_
    refine g_aload_n E 0 dX5_tells_111 rfl rfl ?_
    refine g_get E (ci := 5) inlX5 0 rfl rfl 0 (by decide) fl_X5_7 rfl (.ref (a 1)) rfl dX5_tells_112 ?_
    refine g_iload_n E 1 dX5_tells_115 rfl rfl ?_
    refine g_iconst E 4 dX5_tells_116 (by decide) ?_
    refine g_iadd E dX5_tells_117 ?_
    refine g_top (nI_add p 4) ?_
    refine g_mget E (p := p) (r := (upd r 14 J8_)) (f := f) 1 rfl rfl 4 (congrArg nI (by omega)) (by omega) (by omega) dX5_tells_118 ?_
    refine g_top (b := r 4) rfl ?_
    refine g_imul E dX5_tells_119 ?_
    refine g_iload E 6 dX5_tells_120 rfl ?_
    refine g_idiv E dX5_tells_122 (by intro e; apply c_106; subst_vars; exact tells_j e hc4) ?_
    refine g_goto E 128 dX5_tells_123 (by decide) ?_
    subst hJ8_
    subst hJ7_
    subst hv6_
    subst hv5_
    subst hv4_
    subst hv3_
    subst hv2_
    subst hv1_
    have J := s_X5_tells_128 d a p x y r f Z hp hz hc4  E (fun pc_ lv_ u_ h1_ h2_ => RET pc_ lv_ u_ h1_ (h2_.trans (by rw [c_X5_tells_s_at93])))
    rw [j_X5_tells_128_s0, if_neg c_106] at J
    exact J
set_option maxHeartbeats 4000000 in
set_option maxRecDepth 100000 in
theorem s_X5_tells_59 (d : gD) (a : Nat → Nat) (p : Nat) (x : Int32) (y : Int32) (r : Nat → Int32) (f : Nat → Int32) (Z : MR) (hp : p ≤ 61) (hz : ¬ (r 3) - (r 9) = 0) (hc4 : ¬ r 4 < 0)  {X : gX} (E : gE d X RX5 cX5_tells 9 R_X5_tells) (RET : ∀ (pc_ : Nat) (lv_ : List (Nat × Value)) (u_ : va_W), decode cX5_tells pc_ = .ok (.return_, 1) → u_ = MW d a (pr p (c_X5_tells_s_at59 x y r) f) Z → G d X u_ R_X5_tells.cells R_X5_tells.slots pc_ lv_ []) : G d X (MW d a (pr p r f) Z) 0 0 59 [(0, .ref (a 0)), (1, .int (nI p)), (2, .int x), (3, .int y), (4, .int (r_X5_axis (r_X5_off 0 x r) r)), (5, .int (r_X5_axis (r_X5_off 1 y r) r)), (6, .int ((r_X5_size (r_X5_axis (r_X5_off 0 x r) r)) + (r_X5_size (r_X5_axis (r_X5_off 1 y r) r))))] [.int (j_X5_tells_59_s0 x y r)] := by
  obtain ⟨v1_, hv1_⟩ : ∃ z, r_X5_off 0 x r = z := ⟨_, rfl⟩
  rw [hv1_]
  obtain ⟨v2_, hv2_⟩ : ∃ z, r_X5_axis v1_ r = z := ⟨_, rfl⟩
  rw [hv2_]
  obtain ⟨v3_, hv3_⟩ : ∃ z, r_X5_off 1 y r = z := ⟨_, rfl⟩
  rw [hv3_]
  obtain ⟨v4_, hv4_⟩ : ∃ z, r_X5_axis v3_ r = z := ⟨_, rfl⟩
  rw [hv4_]
  obtain ⟨v5_, hv5_⟩ : ∃ z, r_X5_size v2_ = z := ⟨_, rfl⟩
  rw [hv5_]
  obtain ⟨v6_, hv6_⟩ : ∃ z, r_X5_size v4_ = z := ⟨_, rfl⟩
  rw [hv6_]
  obtain ⟨J7_, hJ7_⟩ : ∃ z, j_X5_tells_59_s0 x y r = z := ⟨_, rfl⟩
  rw [hJ7_]
  refine g_istore E (lv' := [(7, .int J7_), (0, .ref (a 0)), (1, .int (nI p)), (2, .int x), (3, .int y), (4, .int v2_), (5, .int v4_), (6, .int (v5_ + v6_))]) dX5_tells_59 (by decide) rfl ?_
  refine g_aload_n E 1 dX5_tells_61 rfl rfl ?_
  refine g_get E (ci := 5) inlX5 0 rfl rfl 0 (by decide) fl_X5_7 rfl (.ref (a 1)) rfl dX5_tells_62 ?_
  refine g_iload_n E 2 dX5_tells_65 rfl rfl ?_
  refine g_bipush E 14 dX5_tells_66 (by decide) ?_
  refine g_iadd E dX5_tells_68 ?_
  refine g_top (nI_add p 14) ?_
  refine g_iload E 0 dX5_tells_69 rfl ?_
  refine g_ifeq E 91 dX5_tells_71 (by decide) (fun c_71 => ?_) (fun c_71 => ?_)
  · skip
    refine g_iload E 5 dX5_tells_91 rfl ?_
    refine g_lvs (lv' := [(0, .ref (a 0)), (1, .int (nI p)), (2, .int x), (3, .int y), (4, .int v2_), (5, .int v4_), (6, .int (v5_ + v6_)), (7, .int J7_)]) [1, 2, 3, 4, 5, 6, 7, 0] rfl ?_
    subst hJ7_
    subst hv6_
    subst hv5_
    subst hv4_
    subst hv3_
    subst hv2_
    subst hv1_
    have J := s_X5_tells_93 d a p x y r f Z hp hz hc4  E (fun pc_ lv_ u_ h1_ h2_ => RET pc_ lv_ u_ h1_ (h2_.trans (by rw [c_X5_tells_s_at59])))
    rw [j_X5_tells_93_s0, if_pos c_71] at J
    exact J
  · skip
    refine g_iload E 5 dX5_tells_74 rfl ?_
    refine g_aload_n E 1 dX5_tells_76 rfl rfl ?_
    refine g_get E (ci := 5) inlX5 0 rfl rfl 0 (by decide) fl_X5_7 rfl (.ref (a 1)) rfl dX5_tells_77 ?_
    refine g_iload_n E 2 dX5_tells_80 rfl rfl ?_
    refine g_iconst E 4 dX5_tells_81 (by decide) ?_
    refine g_iadd E dX5_tells_82 ?_
    refine g_top (nI_add p 4) ?_
    refine g_mget E (p := p) (r := r) (f := f) 1 rfl rfl 4 (congrArg nI (by omega)) (by omega) (by omega) dX5_tells_83 ?_
    refine g_top (b := r 4) rfl ?_
    refine g_imul E dX5_tells_84 ?_
    refine g_iload E 7 dX5_tells_85 rfl ?_
    refine g_idiv E dX5_tells_87 (by intro e; apply c_71; subst_vars; exact tells_j e hc4) ?_
    refine g_goto E 93 dX5_tells_88 (by decide) ?_
    refine g_lvs (lv' := [(0, .ref (a 0)), (1, .int (nI p)), (2, .int x), (3, .int y), (4, .int v2_), (5, .int v4_), (6, .int (v5_ + v6_)), (7, .int J7_)]) [1, 2, 3, 4, 5, 6, 7, 0] rfl ?_
    subst hJ7_
    subst hv6_
    subst hv5_
    subst hv4_
    subst hv3_
    subst hv2_
    subst hv1_
    have J := s_X5_tells_93 d a p x y r f Z hp hz hc4  E (fun pc_ lv_ u_ h1_ h2_ => RET pc_ lv_ u_ h1_ (h2_.trans (by rw [c_X5_tells_s_at59])))
    rw [j_X5_tells_93_s0, if_neg c_71] at J
    exact J
set_option maxHeartbeats 4000000 in
set_option maxRecDepth 100000 in
theorem s_X5_tells_0 (d : gD) (a : Nat → Nat) (p : Nat) (x : Int32) (y : Int32) (r : Nat → Int32) (f : Nat → Int32) (Z : MR) (hp : p ≤ 61) (hz : ¬ (r 3) - (r 9) = 0) (hc4 : ¬ r 4 < 0)  {X : gX} (E : gE d X RX5 cX5_tells 9 R_X5_tells) (RET : ∀ (pc_ : Nat) (lv_ : List (Nat × Value)) (u_ : va_W), decode cX5_tells pc_ = .ok (.return_, 1) → u_ = MW d a (pr p (c_X5_tells_s x y r) f) Z → G d X u_ R_X5_tells.cells R_X5_tells.slots pc_ lv_ []) : G d X (MW d a (pr p r f) Z) 0 0 0 [(0, .ref (a 0)), (1, .int (nI p)), (2, .int x), (3, .int y)] [] := by
  refine g_aload_n E 0 dX5_tells_0 rfl rfl ?_
  refine g_iload_n E 1 dX5_tells_1 rfl rfl ?_
  refine g_aload_n E 0 dX5_tells_2 rfl rfl ?_
  refine g_iload_n E 1 dX5_tells_3 rfl rfl ?_
  refine g_iconst E 0 dX5_tells_4 (by decide) ?_
  refine g_iload_n E 2 dX5_tells_5 rfl rfl ?_
  refine g_callVi0 E gc_X5_off ml_X5_34 (t_X5_off d a p 0 x r f Z hp (by omega)) rfl rfl (ci := 5) 0 rfl rfl rfl rfl (ok_le rfl) ⟨ok_le rfl, ok_le rfl, ok_le rfl, ok_le rfl⟩ rfl rfl dX5_tells_6 ?_
  refine g_nm (fun v1_ hv1_ => ?_)
  refine g_callVi0 E gc_X5_axis ml_X5_57 (t_X5_axis d a p v1_ r f Z hp hz) rfl rfl (ci := 5) 0 rfl rfl rfl rfl (ok_le rfl) ⟨ok_le rfl, ok_le rfl, ok_le rfl, ok_le rfl⟩ rfl rfl dX5_tells_9 ?_
  refine g_nm (fun v2_ hv2_ => ?_)
  refine g_istore E (lv' := [(4, .int v2_), (0, .ref (a 0)), (1, .int (nI p)), (2, .int x), (3, .int y)]) dX5_tells_12 (by decide) rfl ?_
  refine g_aload_n E 1 dX5_tells_14 rfl rfl ?_
  refine g_iload_n E 2 dX5_tells_15 rfl rfl ?_
  refine g_aload_n E 1 dX5_tells_16 rfl rfl ?_
  refine g_iload_n E 2 dX5_tells_17 rfl rfl ?_
  refine g_iconst E 1 dX5_tells_18 (by decide) ?_
  refine g_iload_n E 4 dX5_tells_19 rfl rfl ?_
  refine g_callVi0 E gc_X5_off ml_X5_34 (t_X5_off d a p 1 y r f Z hp (by omega)) rfl rfl (ci := 5) 0 rfl rfl rfl rfl (ok_le rfl) ⟨ok_le rfl, ok_le rfl, ok_le rfl, ok_le rfl⟩ rfl rfl dX5_tells_20 ?_
  refine g_nm (fun v3_ hv3_ => ?_)
  refine g_callVi0 E gc_X5_axis ml_X5_57 (t_X5_axis d a p v3_ r f Z hp hz) rfl rfl (ci := 5) 0 rfl rfl rfl rfl (ok_le rfl) ⟨ok_le rfl, ok_le rfl, ok_le rfl, ok_le rfl⟩ rfl rfl dX5_tells_23 ?_
  refine g_nm (fun v4_ hv4_ => ?_)
  refine g_istore E (lv' := [(5, .int v4_), (4, .int v2_), (0, .ref (a 0)), (1, .int (nI p)), (2, .int x), (3, .int y)]) dX5_tells_26 (by decide) rfl ?_
  refine g_iload E 1 dX5_tells_28 rfl ?_
  refine g_callSp E gc_X5_size ml_X5_38 (t_X5_size d v2_ ) rfl rfl rfl (ok_le rfl) ⟨ok_le rfl, ok_le rfl, ok_le rfl, ok_le rfl⟩ rfl rfl dX5_tells_30 ?_
  refine g_nm (fun v5_ hv5_ => ?_)
  refine g_iload E 0 dX5_tells_33 rfl ?_
  refine g_callSp E gc_X5_size ml_X5_38 (t_X5_size d v4_ ) rfl rfl rfl (ok_le rfl) ⟨ok_le rfl, ok_le rfl, ok_le rfl, ok_le rfl⟩ rfl rfl dX5_tells_35 ?_
  refine g_nm (fun v6_ hv6_ => ?_)
  refine g_iadd E dX5_tells_38 ?_
  refine g_istore E (lv' := [(6, .int (v5_ + v6_)), (5, .int v4_), (4, .int v2_), (0, .ref (a 0)), (1, .int (nI p)), (2, .int x), (3, .int y)]) dX5_tells_39 (by decide) rfl ?_
  refine g_iload E 0 dX5_tells_41 rfl ?_
  refine g_aload_n E 3 dX5_tells_43 rfl rfl ?_
  refine g_get E (ci := 5) inlX5 0 rfl rfl 0 (by decide) fl_X5_7 rfl (.ref (a 1)) rfl dX5_tells_44 ?_
  refine g_iload_n E 4 dX5_tells_47 rfl rfl ?_
  refine g_iconst E 4 dX5_tells_48 (by decide) ?_
  refine g_iadd E dX5_tells_49 ?_
  refine g_top (nI_add p 4) ?_
  refine g_mget E (p := p) (r := r) (f := f) 1 rfl rfl 4 (congrArg nI (by omega)) (by omega) (by omega) dX5_tells_50 ?_
  refine g_top (b := r 4) rfl ?_
  refine g_icmple E 58 dX5_tells_51 (by decide) (fun c_51 => ?_) (fun c_51 => ?_)
  · skip
    refine g_iconst E 0 dX5_tells_58 (by decide) ?_
    refine g_lvs (lv' := [(0, .ref (a 0)), (1, .int (nI p)), (2, .int x), (3, .int y), (4, .int v2_), (5, .int v4_), (6, .int (v5_ + v6_))]) [3, 4, 5, 6, 2, 1, 0] rfl ?_
    subst hv6_
    subst hv5_
    subst hv4_
    subst hv3_
    subst hv2_
    subst hv1_
    have J := s_X5_tells_59 d a p x y r f Z hp hz hc4  E (fun pc_ lv_ u_ h1_ h2_ => RET pc_ lv_ u_ h1_ (h2_.trans (by rw [c_X5_tells_s])))
    rw [j_X5_tells_59_s0, if_neg c_51] at J
    exact J
  · skip
    refine g_iconst E 1 dX5_tells_54 (by decide) ?_
    refine g_goto E 59 dX5_tells_55 (by decide) ?_
    refine g_lvs (lv' := [(0, .ref (a 0)), (1, .int (nI p)), (2, .int x), (3, .int y), (4, .int v2_), (5, .int v4_), (6, .int (v5_ + v6_))]) [3, 4, 5, 6, 2, 1, 0] rfl ?_
    subst hv6_
    subst hv5_
    subst hv4_
    subst hv3_
    subst hv2_
    subst hv1_
    have J := s_X5_tells_59 d a p x y r f Z hp hz hc4  E (fun pc_ lv_ u_ h1_ h2_ => RET pc_ lv_ u_ h1_ (h2_.trans (by rw [c_X5_tells_s])))
    rw [j_X5_tells_59_s0, if_pos c_51] at J
    exact J
set_option maxHeartbeats 4000000 in
set_option maxRecDepth 100000 in
theorem t_X5_tells (d : gD) (a : Nat → Nat) (p : Nat) (x : Int32) (y : Int32) (r : Nat → Int32) (f : Nat → Int32) (Z : MR) (hp : p ≤ 61) (hz : ¬ (r 3) - (r 9) = 0) (hc4 : ¬ r 4 < 0) : gMv d yX5_tells cX5_tells 9 R_X5_tells [.ref (a 0), .int (nI p), .int x, .int y] (MW d a (pr p r f) Z) (fun u_ => u_ = MW d a (pr p (c_X5_tells_s x y r) f) Z) :=
  g_met_v RX5 rfl (by decide +kernel) (Nat.le_of_ble_eq_true rfl) [(0, .ref (a 0)), (1, .int (nI p)), (2, .int x), (3, .int y)] rfl (fun X E _ RET => s_X5_tells_0 d a p x y r f Z hp hz hc4 E (fun pc_ lv_ u_ h1_ h2_ => RET pc_ lv_ u_ h1_ h2_))
