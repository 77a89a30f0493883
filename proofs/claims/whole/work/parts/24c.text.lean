theorem i_k {a k : Int32} {n : Int} (hk : k.toInt = n) (h : -100000 ≤ a.toInt ∧ a.toInt ≤ 100000) (hn : -100000 ≤ n ∧ n ≤ 100000 := by decide) : (a + k).toInt = a.toInt + n := by
  rw [ti_add (by omega) (by omega), hk]
theorem i_kk {a b : Int32} (h : -100000 ≤ a.toInt ∧ a.toInt ≤ 100000) (hn : -100000 ≤ b.toInt ∧ b.toInt ≤ 100000) : (a + b).toInt = a.toInt + b.toInt := ti_add (by omega) (by omega)
theorem i_1 {a : Int32} (h : -100000 ≤ a.toInt ∧ a.toInt ≤ 100000) : (a + 1).toInt = a.toInt + 1 := i_k rfl h
theorem i_2 {a : Int32} (h : -100000 ≤ a.toInt ∧ a.toInt ≤ 100000) : (a + 2).toInt = a.toInt + 2 := i_k rfl h
theorem i_3 {a : Int32} (h : -100000 ≤ a.toInt ∧ a.toInt ≤ 100000) : (a + 3).toInt = a.toInt + 3 := i_k rfl h
theorem i_m {c a : Int32} {n : Int} (hk : c.toInt = n) (h : -100000 ≤ a.toInt ∧ a.toInt ≤ 100000) (hn : -100000 ≤ n ∧ n ≤ 100000 := by decide) : (c - a).toInt = n - a.toInt := by
  rw [ti_sub (by omega) (by omega), hk]
theorem i_nn {v : Int32} (h : 0 ≤ v.toInt) : ¬ v < 0 := fun q => by
  have := ti_lt.mp q
  have e1 : (0 : Int32).toInt = 0 := rfl
  omega
theorem i_nn' {v : Int32} (h : ¬ v < 0) : 0 ≤ v.toInt := by
  have := mt ti_lt.mpr h
  have e1 : (0 : Int32).toInt = 0 := rfl
  omega
theorem i_ng {v : Int32} (h : v < 0) : v.toInt < 0 := ti_lt.mp h
theorem i_cl {v : Int32} (h : 0 ≤ v.toInt) : (v.toNatClampNeg : Int) = v.toInt := by
  obtain ⟨j, hj, rfl⟩ := nI_of (i_nn h)
  rw [nI_clamp hj, nI_toInt hj]
theorem b_inc {m : Int32} {k : Nat} (h : 0 ≤ m.toInt ∧ m.toInt ≤ k) (hk : k < 8) : 0 ≤ (m + 0).toInt ∧ (m + 0).toInt ≤ (k + 1 : Nat) := by
  rw [i_k (n := 0) rfl (by omega)]
  omega
theorem b_inc1 {m : Int32} {k : Nat} (h : 0 ≤ m.toInt ∧ m.toInt ≤ k) (hk : k < 8) : 0 ≤ (m + 1).toInt ∧ (m + 1).toInt ≤ (k + 1 : Nat) := by
  rw [i_1 (by omega)]
  omega
abbrev R_X5_put : Room := { frames := 1, cells := 0, slots := 0, locals := 22 }
def r_X5_put_at136 (w : Int64) (pd : Nat → Int32) (ln : Int32) : Nat → (Int32) → (Nat → Int32) → (Int32) → Int32
  | 0, _, _, _ => 0
  | n + 1, b, pd1, ln1 => if b < 0 then ln1 else (r_X5_put_at136 w pd ln n (b + (-1)) (upd pd1 ln1.toNatClampNeg (((w >>> ((8 * b).toInt64 &&& 63)) &&& 255).toInt32)) (ln1 + 1))
def c_X5_put_pd_at136 (w : Int64) (pd : Nat → Int32) (ln : Int32) : Nat → (Int32) → (Nat → Int32) → (Int32) → Nat → Int32
  | 0, _, pd1, _ => pd1
  | n + 1, b, pd1, ln1 => if b < 0 then pd1 else (c_X5_put_pd_at136 w pd ln n (b + (-1)) (upd pd1 ln1.toNatClampNeg (((w >>> ((8 * b).toInt64 &&& 63)) &&& 255).toInt32)) (ln1 + 1))
def c_X5_put_ln_at136 (w : Int64) (pd : Nat → Int32) (ln : Int32) : Nat → (Int32) → (Nat → Int32) → (Int32) → Int32
  | 0, _, _, _ => 0
  | n + 1, b, pd1, ln1 => if b < 0 then ln1 else (c_X5_put_ln_at136 w pd ln n (b + (-1)) (upd pd1 ln1.toNatClampNeg (((w >>> ((8 * b).toInt64 &&& 63)) &&& 255).toInt32)) (ln1 + 1))
def r_X5_put_at11 (w : Int64) (pd : Nat → Int32) (ln : Int32) : Nat → (Nat) → (Int32) → (Int32) → (Int32) → Int32
  | 0, _, _, _, _ => 0
  | n + 1, k, many, ok, en => if (nI k) < 8 then (if en = 0 then (if (((w >>> ((nI (8 * k)).toInt64 &&& 63)) &&& 255).toInt32) = 0 then (if ok = 0 then (r_X5_put_at11 w pd ln n (k + 1) (many + 0) 0 1) else (if (((w >>> ((nI (8 * k)).toInt64 &&& 63)) &&& 255).toInt32) = 0 then (r_X5_put_at11 w pd ln n (k + 1) (many + 0) 1 1) else (r_X5_put_at11 w pd ln n (k + 1) (many + 0) 0 1))) else (if ok = 0 then (r_X5_put_at11 w pd ln n (k + 1) (many + 1) 0 0) else (if (r_X5_in (((w >>> ((nI (8 * k)).toInt64 &&& 63)) &&& 255).toInt32) 33 126) = 0 then (r_X5_put_at11 w pd ln n (k + 1) (many + 1) 0 0) else (r_X5_put_at11 w pd ln n (k + 1) (many + 1) 1 0)))) else (if ok = 0 then (r_X5_put_at11 w pd ln n (k + 1) (many + 0) 0 1) else (if (((w >>> ((nI (8 * k)).toInt64 &&& 63)) &&& 255).toInt32) = 0 then (r_X5_put_at11 w pd ln n (k + 1) (many + 0) 1 1) else (r_X5_put_at11 w pd ln n (k + 1) (many + 0) 0 1)))) else (if ok = 0 then (-2) else (if many = 0 then (-2) else (if 80 < (ln + many) then (-4) else (r_X5_put_at136 w pd ln 10 (many - 1) pd ln))))
def c_X5_put_pd_at11 (w : Int64) (pd : Nat → Int32) (ln : Int32) : Nat → (Nat) → (Int32) → (Int32) → (Int32) → Nat → Int32
  | 0, _, _, _, _ => pd
  | n + 1, k, many, ok, en => if (nI k) < 8 then (if en = 0 then (if (((w >>> ((nI (8 * k)).toInt64 &&& 63)) &&& 255).toInt32) = 0 then (if ok = 0 then (c_X5_put_pd_at11 w pd ln n (k + 1) (many + 0) 0 1) else (if (((w >>> ((nI (8 * k)).toInt64 &&& 63)) &&& 255).toInt32) = 0 then (c_X5_put_pd_at11 w pd ln n (k + 1) (many + 0) 1 1) else (c_X5_put_pd_at11 w pd ln n (k + 1) (many + 0) 0 1))) else (if ok = 0 then (c_X5_put_pd_at11 w pd ln n (k + 1) (many + 1) 0 0) else (if (r_X5_in (((w >>> ((nI (8 * k)).toInt64 &&& 63)) &&& 255).toInt32) 33 126) = 0 then (c_X5_put_pd_at11 w pd ln n (k + 1) (many + 1) 0 0) else (c_X5_put_pd_at11 w pd ln n (k + 1) (many + 1) 1 0)))) else (if ok = 0 then (c_X5_put_pd_at11 w pd ln n (k + 1) (many + 0) 0 1) else (if (((w >>> ((nI (8 * k)).toInt64 &&& 63)) &&& 255).toInt32) = 0 then (c_X5_put_pd_at11 w pd ln n (k + 1) (many + 0) 1 1) else (c_X5_put_pd_at11 w pd ln n (k + 1) (many + 0) 0 1)))) else (if ok = 0 then pd else (if many = 0 then pd else (if 80 < (ln + many) then pd else (c_X5_put_pd_at136 w pd ln 10 (many - 1) pd ln))))
def c_X5_put_ln_at11 (w : Int64) (pd : Nat → Int32) (ln : Int32) : Nat → (Nat) → (Int32) → (Int32) → (Int32) → Int32
  | 0, _, _, _, _ => 0
  | n + 1, k, many, ok, en => if (nI k) < 8 then (if en = 0 then (if (((w >>> ((nI (8 * k)).toInt64 &&& 63)) &&& 255).toInt32) = 0 then (if ok = 0 then (c_X5_put_ln_at11 w pd ln n (k + 1) (many + 0) 0 1) else (if (((w >>> ((nI (8 * k)).toInt64 &&& 63)) &&& 255).toInt32) = 0 then (c_X5_put_ln_at11 w pd ln n (k + 1) (many + 0) 1 1) else (c_X5_put_ln_at11 w pd ln n (k + 1) (many + 0) 0 1))) else (if ok = 0 then (c_X5_put_ln_at11 w pd ln n (k + 1) (many + 1) 0 0) else (if (r_X5_in (((w >>> ((nI (8 * k)).toInt64 &&& 63)) &&& 255).toInt32) 33 126) = 0 then (c_X5_put_ln_at11 w pd ln n (k + 1) (many + 1) 0 0) else (c_X5_put_ln_at11 w pd ln n (k + 1) (many + 1) 1 0)))) else (if ok = 0 then (c_X5_put_ln_at11 w pd ln n (k + 1) (many + 0) 0 1) else (if (((w >>> ((nI (8 * k)).toInt64 &&& 63)) &&& 255).toInt32) = 0 then (c_X5_put_ln_at11 w pd ln n (k + 1) (many + 0) 1 1) else (c_X5_put_ln_at11 w pd ln n (k + 1) (many + 0) 0 1)))) else (if ok = 0 then ln else (if many = 0 then ln else (if 80 < (ln + many) then ln else (c_X5_put_ln_at136 w pd ln 10 (many - 1) pd ln))))
def r_X5_put (w : Int64) (pd : Nat → Int32) (ln : Int32) : Int32 := r_X5_put_at11 w pd ln 9 0 0 1 0
def c_X5_put_pd (w : Int64) (pd : Nat → Int32) (ln : Int32) : Nat → Int32 := c_X5_put_pd_at11 w pd ln 9 0 0 1 0
def c_X5_put_ln (w : Int64) (pd : Nat → Int32) (ln : Int32) : Int32 := c_X5_put_ln_at11 w pd ln 9 0 0 1 0
set_option maxHeartbeats 1000000 in
set_option maxRecDepth 100000 in
theorem s_X5_put_136 (d : gD) (a : Nat → Nat) (w : Int64) (s : Nat → Int32) (past : Nat → Int32) (kn : Int32) (sl : Nat → Int32) (sv : Nat → Int32) (pd : Nat → Int32) (ln : Int32) (hl : 0 ≤ ln.toInt ∧ ln.toInt ≤ 80) {X : gX} (E : gE d X RX5 cX5_put 8 R_X5_put) : ∀ (n : Nat) (b : Int32) (pd1 : Nat → Int32) (ln1 : Int32) (hb : -1 ≤ b.toInt) (hl1 : 0 ≤ ln1.toInt ∧ ln1.toInt + b.toInt + 1 ≤ 80) (hm : (b.toInt + 1).toNat < n) (RET : ∀ (pc_ : Nat) (lv_ : List (Nat × Value)) (v_ : Int32) (u_ : va_W), decode cX5_put pc_ = .ok (.ireturn, 1) → narrow .int (.int v_) = .int v_ → v_ = r_X5_put_at136 w pd ln n b pd1 ln1 → u_ = MW d a s (past, kn, sl, sv, (c_X5_put_pd_at136 w pd ln n b pd1 ln1), (c_X5_put_ln_at136 w pd ln n b pd1 ln1)) → G d X u_ R_X5_put.cells R_X5_put.slots pc_ lv_ [.int v_]), G d X (MW d a s (past, kn, sl, sv, pd1, ln1)) 0 0 136 [(0, .ref (a 0)), (1, .long w), (6, .int b)] [] := by
  intro n
  induction n with
  | zero => intro b pd1 ln1 hb hl1 hm; omega
  | succ n ih =>
    intro b pd1 ln1 hb hl1 hm RET
    refine g_iload E 2 dX5_put_136 rfl ?_
    refine g_iflt E 178 dX5_put_138 (by decide) (fun c_138 => ?_) (fun c_138 => ?_)
    · skip
      refine g_aload_n E 0 dX5_put_178 rfl rfl ?_
      refine g_get E (ci := 5) inlX5 0 rfl rfl 6 (by decide) fl_X5_108 rfl (.int ln1) rfl dX5_put_179 ?_
      exact RET 182 _ ln1 _ dX5_put_182 rfl (by rw [r_X5_put_at136, if_pos c_138]) (by rw [c_X5_put_pd_at136, if_pos c_138, c_X5_put_ln_at136, if_pos c_138])
    · skip
      have k138 := i_dec c_138
      have k139 : (ln1 + 1).toInt = ln1.toInt + 1 := i_1 (by omega)
      refine g_aload_n E 0 dX5_put_141 rfl rfl ?_
      refine g_get E (ci := 5) inlX5 0 rfl rfl 5 (by decide) fl_X5_23 rfl (.ref (a 5)) rfl dX5_put_142 ?_
      refine g_aload_n E 0 dX5_put_145 rfl rfl ?_
      refine g_get E (ci := 5) inlX5 0 rfl rfl 6 (by decide) fl_X5_108 rfl (.int ln1) rfl dX5_put_146 ?_
      refine g_lload_n E 1 dX5_put_149 rfl rfl ?_
      refine g_bipush E 8 dX5_put_150 (by decide) ?_
      refine g_iload E 2 dX5_put_152 rfl ?_
      refine g_imul E dX5_put_154 ?_
      refine g_lshr E dX5_put_155 ?_
      refine g_ldc2 E kl_X5_114 dX5_put_156 ?_
      refine g_land E dX5_put_159 ?_
      refine g_l2i E dX5_put_160 ?_
      refine g_iast E 5 rfl rfl ln1.toNatClampNeg (ix_eq (i_nn hl1.1)) (by have := i_cl hl1.1; omega) (by decide) (ws' := MW d a s (past, kn, sl, sv, upd pd1 ln1.toNatClampNeg (((w >>> ((8 * b).toInt64 &&& 63)) &&& 255).toInt32), ln1)) rfl dX5_put_161 ?_
      refine g_aload_n E 0 dX5_put_162 rfl rfl ?_
      refine g_dup E dX5_put_163 rfl ?_
      refine g_get E (ci := 5) inlX5 0 rfl rfl 6 (by decide) fl_X5_108 rfl (.int ln1) rfl dX5_put_164 ?_
      refine g_iconst E 1 dX5_put_167 (by decide) ?_
      refine g_iadd E dX5_put_168 ?_
      refine g_put E (ci := 5) inlX5 0 rfl rfl 6 (by decide) tyX5 tyX5_ok nmX5 fl_X5_108 rfl rfl rfl rfl (ok_lt rfl) (ws' := MW d a s (past, kn, sl, sv, upd pd1 ln1.toNatClampNeg (((w >>> ((8 * b).toInt64 &&& 63)) &&& 255).toInt32), (ln1 + 1))) rfl dX5_put_169 ?_
      refine g_iinc E (j := 2) (v := (b + (-1))) (lv' := [(6, .int (b + (-1))), (0, .ref (a 0)), (1, .long w)]) dX5_put_172 rfl rfl (by decide) rfl ?_
      refine g_goto E 136 dX5_put_175 (by decide) ?_
      refine g_lvs (lv' := [(0, .ref (a 0)), (1, .long w), (6, .int (b + (-1)))]) [1, 2, 0] rfl ?_
      exact ih (b + (-1)) (upd pd1 ln1.toNatClampNeg (((w >>> ((8 * b).toInt64 &&& 63)) &&& 255).toInt32)) (ln1 + 1) (by omega) (by omega) (by omega) (fun pc_ lv_ v_ u_ h1_ h2_ h3_ h4_ => RET pc_ lv_ v_ u_ h1_ h2_ (h3_.trans (by rw [r_X5_put_at136, if_neg c_138])) (h4_.trans (by rw [c_X5_put_pd_at136, if_neg c_138, c_X5_put_ln_at136, if_neg c_138])))
set_option maxHeartbeats 1000000 in
set_option maxRecDepth 100000 in
theorem s_X5_put_11 (d : gD) (a : Nat → Nat) (w : Int64) (s : Nat → Int32) (past : Nat → Int32) (kn : Int32) (sl : Nat → Int32) (sv : Nat → Int32) (pd : Nat → Int32) (ln : Int32) (hl : 0 ≤ ln.toInt ∧ ln.toInt ≤ 80) {X : gX} (E : gE d X RX5 cX5_put 8 R_X5_put) : ∀ (n : Nat) (k : Nat) (many : Int32) (ok : Int32) (en : Int32) (hk : k ≤ 8) (hmy : 0 ≤ many.toInt ∧ many.toInt ≤ k) (hm : 8 - k < n) (RET : ∀ (pc_ : Nat) (lv_ : List (Nat × Value)) (v_ : Int32) (u_ : va_W), decode cX5_put pc_ = .ok (.ireturn, 1) → narrow .int (.int v_) = .int v_ → v_ = r_X5_put_at11 w pd ln n k many ok en → u_ = MW d a s (past, kn, sl, sv, (c_X5_put_pd_at11 w pd ln n k many ok en), (c_X5_put_ln_at11 w pd ln n k many ok en)) → G d X u_ R_X5_put.cells R_X5_put.slots pc_ lv_ [.int v_]), G d X (MW d a s (past, kn, sl, sv, pd, ln)) 0 0 11 [(0, .ref (a 0)), (1, .long w), (3, .int many), (4, .int ok), (5, .int en), (6, .int (nI k))] [] := by
  intro n
  induction n with
  | zero => intro k many ok en hk hmy hm; omega
  | succ n ih =>
    intro k many ok en hk hmy hm RET
    refine g_iload E 5 dX5_put_11 rfl ?_
    refine g_bipush E 8 dX5_put_13 (by decide) ?_
    refine g_icmpge E 105 dX5_put_15 (by decide) (fun c_15 => ?_) (fun c_15 => ?_)
    · skip
      refine g_iload E 3 dX5_put_105 rfl ?_
      refine g_ifeq E 114 dX5_put_107 (by decide) (fun c_107 => ?_) (fun c_107 => ?_)
      · skip
        refine g_bipush E (-2) dX5_put_114 (by decide) ?_
        exact RET 116 _ (-2) _ dX5_put_116 rfl (by rw [r_X5_put_at11, if_neg c_15, if_pos c_107]) (by rw [c_X5_put_pd_at11, if_neg c_15, if_pos c_107, c_X5_put_ln_at11, if_neg c_15, if_pos c_107])
      · skip
        refine g_iload_n E 2 dX5_put_110 rfl rfl ?_
        refine g_ifne E 117 dX5_put_111 (by decide) (fun c_111 => ?_) (fun c_111 => ?_)
        · skip
          refine g_aload_n E 0 dX5_put_117 rfl rfl ?_
          refine g_get E (ci := 5) inlX5 0 rfl rfl 6 (by decide) fl_X5_108 rfl (.int ln) rfl dX5_put_118 ?_
          refine g_iload_n E 2 dX5_put_121 rfl rfl ?_
          refine g_iadd E dX5_put_122 ?_
          refine g_bipush E 80 dX5_put_123 (by decide) ?_
          refine g_icmple E 131 dX5_put_125 (by decide) (fun c_125 => ?_) (fun c_125 => ?_)
          · skip
            have k125 : ln.toInt + many.toInt ≤ 80 := by have q := mt ti_lt.mpr c_125; rw [i_kk (by omega) (by omega)] at q; have e1 : (80 : Int32).toInt = 80 := rfl; omega
            have k126 : (many - 1).toInt = many.toInt - 1 := i_many (by omega)
            refine g_iload_n E 2 dX5_put_131 rfl rfl ?_
            refine g_iconst E 1 dX5_put_132 (by decide) ?_
            refine g_isub E dX5_put_133 ?_
            refine g_istore E (lv' := [(6, .int (many - 1)), (0, .ref (a 0)), (1, .long w), (3, .int many), (4, .int ok), (5, .int en)]) dX5_put_134 (by decide) rfl ?_
            refine g_lvs (lv' := [(0, .ref (a 0)), (1, .long w), (6, .int (many - 1))]) [1, 2, 0] rfl ?_
            exact s_X5_put_136 d a w s past kn sl sv pd ln hl E 10 (many - 1) pd ln (by omega) (by omega) (by omega) (fun pc_ lv_ v_ u_ h1_ h2_ h3_ h4_ => RET pc_ lv_ v_ u_ h1_ h2_ (h3_.trans (by rw [r_X5_put_at11, if_neg c_15, if_neg c_107, if_neg c_111, if_neg c_125])) (h4_.trans (by rw [c_X5_put_pd_at11, if_neg c_15, if_neg c_107, if_neg c_111, if_neg c_125, c_X5_put_ln_at11, if_neg c_15, if_neg c_107, if_neg c_111, if_neg c_125])))
          · skip
            refine g_bipush E (-4) dX5_put_128 (by decide) ?_
            exact RET 130 _ (-4) _ dX5_put_130 rfl (by rw [r_X5_put_at11, if_neg c_15, if_neg c_107, if_neg c_111, if_pos c_125]) (by rw [c_X5_put_pd_at11, if_neg c_15, if_neg c_107, if_neg c_111, if_pos c_125, c_X5_put_ln_at11, if_neg c_15, if_neg c_107, if_neg c_111, if_pos c_125])
        · skip
          refine g_bipush E (-2) dX5_put_114 (by decide) ?_
          exact RET 116 _ (-2) _ dX5_put_116 rfl (by rw [r_X5_put_at11, if_neg c_15, if_neg c_107, if_pos c_111]) (by rw [c_X5_put_pd_at11, if_neg c_15, if_neg c_107, if_pos c_111, c_X5_put_ln_at11, if_neg c_15, if_neg c_107, if_pos c_111])
    · skip
      have k15 : k < 8 := (nI_ltI (a := k) (b := 8) (by omega) (by omega)).mp c_15
      refine g_lload_n E 1 dX5_put_18 rfl rfl ?_
      refine g_bipush E 8 dX5_put_19 (by decide) ?_
      refine g_iload E 5 dX5_put_21 rfl ?_
      refine g_imul E dX5_put_23 ?_
      refine g_top (pk_mul 8 k) ?_
      refine g_lshr E dX5_put_24 ?_
      refine g_ldc2 E kl_X5_114 dX5_put_25 ?_
      refine g_land E dX5_put_28 ?_
      refine g_l2i E dX5_put_29 ?_
      refine g_istore E (lv' := [(7, .int (((w >>> ((nI (8 * k)).toInt64 &&& 63)) &&& 255).toInt32)), (0, .ref (a 0)), (1, .long w), (3, .int many), (4, .int ok), (5, .int en), (6, .int (nI k))]) dX5_put_30 (by decide) rfl ?_
      refine g_iload E 5 dX5_put_32 rfl ?_
      refine g_ifne E 42 dX5_put_34 (by decide) (fun c_34 => ?_) (fun c_34 => ?_)
      · skip
        refine g_iconst E 1 dX5_put_42 (by decide) ?_
        refine g_goto E 47 dX5_put_43 (by decide) ?_
        refine g_istore E (lv' := [(5, .int 1), (7, .int (((w >>> ((nI (8 * k)).toInt64 &&& 63)) &&& 255).toInt32)), (0, .ref (a 0)), (1, .long w), (3, .int many), (4, .int ok), (6, .int (nI k))]) dX5_put_47 (by decide) rfl ?_
        refine g_iload E 5 dX5_put_49 rfl ?_
        refine g_ifeq E 83 dX5_put_51 (by decide) (fun c_51 => ?_) (fun c_51 => ?_)
        · skip
          refine g_iconst E 0 dX5_put_83 (by decide) ?_
          refine g_istore E (lv' := [(4, .int 0), (5, .int 1), (7, .int (((w >>> ((nI (8 * k)).toInt64 &&& 63)) &&& 255).toInt32)), (0, .ref (a 0)), (1, .long w), (3, .int many), (6, .int (nI k))]) dX5_put_84 (by decide) rfl ?_
          refine g_iload_n E 5 dX5_put_86 rfl rfl ?_
          refine g_iload E 1 dX5_put_87 rfl ?_
          refine g_ifeq E 96 dX5_put_89 (by decide) (fun q_ => absurd q_ (by decide)) (fun _ => ?_)
          refine g_iconst E 0 dX5_put_92 (by decide) ?_
          refine g_goto E 97 dX5_put_93 (by decide) ?_
          refine g_iadd E dX5_put_97 ?_
          refine g_istore_n E (lv' := [(3, .int (many + 0)), (4, .int 0), (5, .int 1), (7, .int (((w >>> ((nI (8 * k)).toInt64 &&& 63)) &&& 255).toInt32)), (0, .ref (a 0)), (1, .long w), (6, .int (nI k))]) dX5_put_98 rfl (by decide) rfl ?_
          refine g_iinc E (j := 6) (v := (nI (k + 1))) (lv' := [(6, .int (nI (k + 1))), (3, .int (many + 0)), (4, .int 0), (5, .int 1), (7, .int (((w >>> ((nI (8 * k)).toInt64 &&& 63)) &&& 255).toInt32)), (0, .ref (a 0)), (1, .long w)]) dX5_put_99 rfl (nI_1 _) (by decide) rfl ?_
          refine g_goto E 11 dX5_put_102 (by decide) ?_
          refine g_lvs (lv' := [(0, .ref (a 0)), (1, .long w), (3, .int (many + 0)), (4, .int 0), (5, .int 1), (6, .int (nI (k + 1)))]) [5, 6, 1, 2, 3, 0] rfl ?_
          exact ih (k + 1) (many + 0) 0 1 (by omega) (by first | exact b_inc hmy k15 | exact b_inc1 hmy k15) (by omega) (fun pc_ lv_ v_ u_ h1_ h2_ h3_ h4_ => RET pc_ lv_ v_ u_ h1_ h2_ (h3_.trans (by rw [r_X5_put_at11, if_pos c_15, if_neg c_34, if_pos c_51])) (h4_.trans (by rw [c_X5_put_pd_at11, if_pos c_15, if_neg c_34, if_pos c_51, c_X5_put_ln_at11, if_pos c_15, if_neg c_34, if_pos c_51])))
        · skip
          refine g_iload E 0 dX5_put_54 rfl ?_
          refine g_ifeq E 67 dX5_put_56 (by decide) (fun q_ => absurd q_ (by decide)) (fun _ => ?_)
          refine g_iload E 1 dX5_put_59 rfl ?_
          refine g_ifne E 83 dX5_put_61 (by decide) (fun c_61 => ?_) (fun c_61 => ?_)
          · skip
            refine g_iconst E 0 dX5_put_83 (by decide) ?_
            refine g_istore E (lv' := [(4, .int 0), (5, .int 1), (7, .int (((w >>> ((nI (8 * k)).toInt64 &&& 63)) &&& 255).toInt32)), (0, .ref (a 0)), (1, .long w), (3, .int many), (6, .int (nI k))]) dX5_put_84 (by decide) rfl ?_
            refine g_iload_n E 5 dX5_put_86 rfl rfl ?_
            refine g_iload E 1 dX5_put_87 rfl ?_
            refine g_ifeq E 96 dX5_put_89 (by decide) (fun q_ => absurd q_ (by decide)) (fun _ => ?_)
            refine g_iconst E 0 dX5_put_92 (by decide) ?_
            refine g_goto E 97 dX5_put_93 (by decide) ?_
            refine g_iadd E dX5_put_97 ?_
            refine g_istore_n E (lv' := [(3, .int (many + 0)), (4, .int 0), (5, .int 1), (7, .int (((w >>> ((nI (8 * k)).toInt64 &&& 63)) &&& 255).toInt32)), (0, .ref (a 0)), (1, .long w), (6, .int (nI k))]) dX5_put_98 rfl (by decide) rfl ?_
            refine g_iinc E (j := 6) (v := (nI (k + 1))) (lv' := [(6, .int (nI (k + 1))), (3, .int (many + 0)), (4, .int 0), (5, .int 1), (7, .int (((w >>> ((nI (8 * k)).toInt64 &&& 63)) &&& 255).toInt32)), (0, .ref (a 0)), (1, .long w)]) dX5_put_99 rfl (nI_1 _) (by decide) rfl ?_
            refine g_goto E 11 dX5_put_102 (by decide) ?_
            refine g_lvs (lv' := [(0, .ref (a 0)), (1, .long w), (3, .int (many + 0)), (4, .int 0), (5, .int 1), (6, .int (nI (k + 1)))]) [5, 6, 1, 2, 3, 0] rfl ?_
            exact ih (k + 1) (many + 0) 0 1 (by omega) (by first | exact b_inc hmy k15 | exact b_inc1 hmy k15) (by omega) (fun pc_ lv_ v_ u_ h1_ h2_ h3_ h4_ => RET pc_ lv_ v_ u_ h1_ h2_ (h3_.trans (by rw [r_X5_put_at11, if_pos c_15, if_neg c_34, if_neg c_51, if_neg c_61])) (h4_.trans (by rw [c_X5_put_pd_at11, if_pos c_15, if_neg c_34, if_neg c_51, if_neg c_61, c_X5_put_ln_at11, if_pos c_15, if_neg c_34, if_neg c_51, if_neg c_61])))
          · skip
            refine g_goto E 79 dX5_put_64 (by decide) ?_
            refine g_iconst E 1 dX5_put_79 (by decide) ?_
            refine g_goto E 84 dX5_put_80 (by decide) ?_
            refine g_istore E (lv' := [(4, .int 1), (5, .int 1), (7, .int (((w >>> ((nI (8 * k)).toInt64 &&& 63)) &&& 255).toInt32)), (0, .ref (a 0)), (1, .long w), (3, .int many), (6, .int (nI k))]) dX5_put_84 (by decide) rfl ?_
            refine g_iload_n E 5 dX5_put_86 rfl rfl ?_
            refine g_iload E 1 dX5_put_87 rfl ?_
            refine g_ifeq E 96 dX5_put_89 (by decide) (fun q_ => absurd q_ (by decide)) (fun _ => ?_)
            refine g_iconst E 0 dX5_put_92 (by decide) ?_
            refine g_goto E 97 dX5_put_93 (by decide) ?_
            refine g_iadd E dX5_put_97 ?_
            refine g_istore_n E (lv' := [(3, .int (many + 0)), (4, .int 1), (5, .int 1), (7, .int (((w >>> ((nI (8 * k)).toInt64 &&& 63)) &&& 255).toInt32)), (0, .ref (a 0)), (1, .long w), (6, .int (nI k))]) dX5_put_98 rfl (by decide) rfl ?_
            refine g_iinc E (j := 6) (v := (nI (k + 1))) (lv' := [(6, .int (nI (k + 1))), (3, .int (many + 0)), (4, .int 1), (5, .int 1), (7, .int (((w >>> ((nI (8 * k)).toInt64 &&& 63)) &&& 255).toInt32)), (0, .ref (a 0)), (1, .long w)]) dX5_put_99 rfl (nI_1 _) (by decide) rfl ?_
            refine g_goto E 11 dX5_put_102 (by decide) ?_
            refine g_lvs (lv' := [(0, .ref (a 0)), (1, .long w), (3, .int (many + 0)), (4, .int 1), (5, .int 1), (6, .int (nI (k + 1)))]) [5, 6, 1, 2, 3, 0] rfl ?_
            exact ih (k + 1) (many + 0) 1 1 (by omega) (by first | exact b_inc hmy k15 | exact b_inc1 hmy k15) (by omega) (fun pc_ lv_ v_ u_ h1_ h2_ h3_ h4_ => RET pc_ lv_ v_ u_ h1_ h2_ (h3_.trans (by rw [r_X5_put_at11, if_pos c_15, if_neg c_34, if_neg c_51, if_pos c_61])) (h4_.trans (by rw [c_X5_put_pd_at11, if_pos c_15, if_neg c_34, if_neg c_51, if_pos c_61, c_X5_put_ln_at11, if_pos c_15, if_neg c_34, if_neg c_51, if_pos c_61])))
      · skip
        refine g_iload E 0 dX5_put_37 rfl ?_
        refine g_ifne E 46 dX5_put_39 (by decide) (fun c_39 => ?_) (fun c_39 => ?_)
        · skip
          refine g_iconst E 0 dX5_put_46 (by decide) ?_
          refine g_istore E (lv' := [(5, .int 0), (7, .int (((w >>> ((nI (8 * k)).toInt64 &&& 63)) &&& 255).toInt32)), (0, .ref (a 0)), (1, .long w), (3, .int many), (4, .int ok), (6, .int (nI k))]) dX5_put_47 (by decide) rfl ?_
          refine g_iload E 5 dX5_put_49 rfl ?_
          refine g_ifeq E 83 dX5_put_51 (by decide) (fun c_51 => ?_) (fun c_51 => ?_)
          · skip
            refine g_iconst E 0 dX5_put_83 (by decide) ?_
            refine g_istore E (lv' := [(4, .int 0), (5, .int 0), (7, .int (((w >>> ((nI (8 * k)).toInt64 &&& 63)) &&& 255).toInt32)), (0, .ref (a 0)), (1, .long w), (3, .int many), (6, .int (nI k))]) dX5_put_84 (by decide) rfl ?_
            refine g_iload_n E 5 dX5_put_86 rfl rfl ?_
            refine g_iload E 1 dX5_put_87 rfl ?_
            refine g_ifeq E 96 dX5_put_89 (by decide) (fun _ => ?_) (fun q_ => absurd q_ (by decide))
            refine g_iconst E 1 dX5_put_96 (by decide) ?_
            refine g_iadd E dX5_put_97 ?_
            refine g_istore_n E (lv' := [(3, .int (many + 1)), (4, .int 0), (5, .int 0), (7, .int (((w >>> ((nI (8 * k)).toInt64 &&& 63)) &&& 255).toInt32)), (0, .ref (a 0)), (1, .long w), (6, .int (nI k))]) dX5_put_98 rfl (by decide) rfl ?_
            refine g_iinc E (j := 6) (v := (nI (k + 1))) (lv' := [(6, .int (nI (k + 1))), (3, .int (many + 1)), (4, .int 0), (5, .int 0), (7, .int (((w >>> ((nI (8 * k)).toInt64 &&& 63)) &&& 255).toInt32)), (0, .ref (a 0)), (1, .long w)]) dX5_put_99 rfl (nI_1 _) (by decide) rfl ?_
            refine g_goto E 11 dX5_put_102 (by decide) ?_
            refine g_lvs (lv' := [(0, .ref (a 0)), (1, .long w), (3, .int (many + 1)), (4, .int 0), (5, .int 0), (6, .int (nI (k + 1)))]) [5, 6, 1, 2, 3, 0] rfl ?_
            exact ih (k + 1) (many + 1) 0 0 (by omega) (by first | exact b_inc hmy k15 | exact b_inc1 hmy k15) (by omega) (fun pc_ lv_ v_ u_ h1_ h2_ h3_ h4_ => RET pc_ lv_ v_ u_ h1_ h2_ (h3_.trans (by rw [r_X5_put_at11, if_pos c_15, if_pos c_34, if_neg c_39, if_pos c_51])) (h4_.trans (by rw [c_X5_put_pd_at11, if_pos c_15, if_pos c_34, if_neg c_39, if_pos c_51, c_X5_put_ln_at11, if_pos c_15, if_pos c_34, if_neg c_39, if_pos c_51])))
          · skip
            refine g_iload E 0 dX5_put_54 rfl ?_
            refine g_ifeq E 67 dX5_put_56 (by decide) (fun _ => ?_) (fun q_ => absurd q_ (by decide))
            refine g_iload E 1 dX5_put_67 rfl ?_
            refine g_bipush E 33 dX5_put_69 (by decide) ?_
            refine g_bipush E 126 dX5_put_71 (by decide) ?_
            refine g_callSp E gc_X5_in ml_X5_26 (t_X5_in d (((w >>> ((nI (8 * k)).toInt64 &&& 63)) &&& 255).toInt32) 33 126 ) rfl rfl rfl (ok_le rfl) ⟨ok_le rfl, ok_le rfl, ok_le rfl, ok_le rfl⟩ rfl rfl dX5_put_73 ?_
            refine g_nm (fun v1_ hv1_ => ?_)
            refine g_ifeq E 83 dX5_put_76 (by decide) (fun c_76 => ?_) (fun c_76 => ?_)
            · skip
              refine g_iconst E 0 dX5_put_83 (by decide) ?_
              refine g_istore E (lv' := [(4, .int 0), (5, .int 0), (7, .int (((w >>> ((nI (8 * k)).toInt64 &&& 63)) &&& 255).toInt32)), (0, .ref (a 0)), (1, .long w), (3, .int many), (6, .int (nI k))]) dX5_put_84 (by decide) rfl ?_
              refine g_iload_n E 5 dX5_put_86 rfl rfl ?_
              refine g_iload E 1 dX5_put_87 rfl ?_
              refine g_ifeq E 96 dX5_put_89 (by decide) (fun _ => ?_) (fun q_ => absurd q_ (by decide))
              refine g_iconst E 1 dX5_put_96 (by decide) ?_
              refine g_iadd E dX5_put_97 ?_
              refine g_istore_n E (lv' := [(3, .int (many + 1)), (4, .int 0), (5, .int 0), (7, .int (((w >>> ((nI (8 * k)).toInt64 &&& 63)) &&& 255).toInt32)), (0, .ref (a 0)), (1, .long w), (6, .int (nI k))]) dX5_put_98 rfl (by decide) rfl ?_
              refine g_iinc E (j := 6) (v := (nI (k + 1))) (lv' := [(6, .int (nI (k + 1))), (3, .int (many + 1)), (4, .int 0), (5, .int 0), (7, .int (((w >>> ((nI (8 * k)).toInt64 &&& 63)) &&& 255).toInt32)), (0, .ref (a 0)), (1, .long w)]) dX5_put_99 rfl (nI_1 _) (by decide) rfl ?_
              refine g_goto E 11 dX5_put_102 (by decide) ?_
              refine g_lvs (lv' := [(0, .ref (a 0)), (1, .long w), (3, .int (many + 1)), (4, .int 0), (5, .int 0), (6, .int (nI (k + 1)))]) [5, 6, 1, 2, 3, 0] rfl ?_
              subst hv1_
              exact ih (k + 1) (many + 1) 0 0 (by omega) (by first | exact b_inc hmy k15 | exact b_inc1 hmy k15) (by omega) (fun pc_ lv_ v_ u_ h1_ h2_ h3_ h4_ => RET pc_ lv_ v_ u_ h1_ h2_ (h3_.trans (by rw [r_X5_put_at11, if_pos c_15, if_pos c_34, if_neg c_39, if_neg c_51, if_pos c_76])) (h4_.trans (by rw [c_X5_put_pd_at11, if_pos c_15, if_pos c_34, if_neg c_39, if_neg c_51, if_pos c_76, c_X5_put_ln_at11, if_pos c_15, if_pos c_34, if_neg c_39, if_neg c_51, if_pos c_76])))
            · skip
              refine g_iconst E 1 dX5_put_79 (by decide) ?_
              refine g_goto E 84 dX5_put_80 (by decide) ?_
              refine g_istore E (lv' := [(4, .int 1), (5, .int 0), (7, .int (((w >>> ((nI (8 * k)).toInt64 &&& 63)) &&& 255).toInt32)), (0, .ref (a 0)), (1, .long w), (3, .int many), (6, .int (nI k))]) dX5_put_84 (by decide) rfl ?_
              refine g_iload_n E 5 dX5_put_86 rfl rfl ?_
              refine g_iload E 1 dX5_put_87 rfl ?_
              refine g_ifeq E 96 dX5_put_89 (by decide) (fun _ => ?_) (fun q_ => absurd q_ (by decide))
              refine g_iconst E 1 dX5_put_96 (by decide) ?_
              refine g_iadd E dX5_put_97 ?_
              refine g_istore_n E (lv' := [(3, .int (many + 1)), (4, .int 1), (5, .int 0), (7, .int (((w >>> ((nI (8 * k)).toInt64 &&& 63)) &&& 255).toInt32)), (0, .ref (a 0)), (1, .long w), (6, .int (nI k))]) dX5_put_98 rfl (by decide) rfl ?_
              refine g_iinc E (j := 6) (v := (nI (k + 1))) (lv' := [(6, .int (nI (k + 1))), (3, .int (many + 1)), (4, .int 1), (5, .int 0), (7, .int (((w >>> ((nI (8 * k)).toInt64 &&& 63)) &&& 255).toInt32)), (0, .ref (a 0)), (1, .long w)]) dX5_put_99 rfl (nI_1 _) (by decide) rfl ?_
              refine g_goto E 11 dX5_put_102 (by decide) ?_
              refine g_lvs (lv' := [(0, .ref (a 0)), (1, .long w), (3, .int (many + 1)), (4, .int 1), (5, .int 0), (6, .int (nI (k + 1)))]) [5, 6, 1, 2, 3, 0] rfl ?_
              subst hv1_
              exact ih (k + 1) (many + 1) 1 0 (by omega) (by first | exact b_inc hmy k15 | exact b_inc1 hmy k15) (by omega) (fun pc_ lv_ v_ u_ h1_ h2_ h3_ h4_ => RET pc_ lv_ v_ u_ h1_ h2_ (h3_.trans (by rw [r_X5_put_at11, if_pos c_15, if_pos c_34, if_neg c_39, if_neg c_51, if_neg c_76])) (h4_.trans (by rw [c_X5_put_pd_at11, if_pos c_15, if_pos c_34, if_neg c_39, if_neg c_51, if_neg c_76, c_X5_put_ln_at11, if_pos c_15, if_pos c_34, if_neg c_39, if_neg c_51, if_neg c_76])))
        · skip
          refine g_iconst E 1 dX5_put_42 (by decide) ?_
          refine g_goto E 47 dX5_put_43 (by decide) ?_
          refine g_istore E (lv' := [(5, .int 1), (7, .int (((w >>> ((nI (8 * k)).toInt64 &&& 63)) &&& 255).toInt32)), (0, .ref (a 0)), (1, .long w), (3, .int many), (4, .int ok), (6, .int (nI k))]) dX5_put_47 (by decide) rfl ?_
          refine g_iload E 5 dX5_put_49 rfl ?_
          refine g_ifeq E 83 dX5_put_51 (by decide) (fun c_51 => ?_) (fun c_51 => ?_)
          · skip
            refine g_iconst E 0 dX5_put_83 (by decide) ?_
            refine g_istore E (lv' := [(4, .int 0), (5, .int 1), (7, .int (((w >>> ((nI (8 * k)).toInt64 &&& 63)) &&& 255).toInt32)), (0, .ref (a 0)), (1, .long w), (3, .int many), (6, .int (nI k))]) dX5_put_84 (by decide) rfl ?_
            refine g_iload_n E 5 dX5_put_86 rfl rfl ?_
            refine g_iload E 1 dX5_put_87 rfl ?_
            refine g_ifeq E 96 dX5_put_89 (by decide) (fun q_ => absurd q_ (by decide)) (fun _ => ?_)
            refine g_iconst E 0 dX5_put_92 (by decide) ?_
            refine g_goto E 97 dX5_put_93 (by decide) ?_
            refine g_iadd E dX5_put_97 ?_
            refine g_istore_n E (lv' := [(3, .int (many + 0)), (4, .int 0), (5, .int 1), (7, .int (((w >>> ((nI (8 * k)).toInt64 &&& 63)) &&& 255).toInt32)), (0, .ref (a 0)), (1, .long w), (6, .int (nI k))]) dX5_put_98 rfl (by decide) rfl ?_
            refine g_iinc E (j := 6) (v := (nI (k + 1))) (lv' := [(6, .int (nI (k + 1))), (3, .int (many + 0)), (4, .int 0), (5, .int 1), (7, .int (((w >>> ((nI (8 * k)).toInt64 &&& 63)) &&& 255).toInt32)), (0, .ref (a 0)), (1, .long w)]) dX5_put_99 rfl (nI_1 _) (by decide) rfl ?_
            refine g_goto E 11 dX5_put_102 (by decide) ?_
            refine g_lvs (lv' := [(0, .ref (a 0)), (1, .long w), (3, .int (many + 0)), (4, .int 0), (5, .int 1), (6, .int (nI (k + 1)))]) [5, 6, 1, 2, 3, 0] rfl ?_
            exact ih (k + 1) (many + 0) 0 1 (by omega) (by first | exact b_inc hmy k15 | exact b_inc1 hmy k15) (by omega) (fun pc_ lv_ v_ u_ h1_ h2_ h3_ h4_ => RET pc_ lv_ v_ u_ h1_ h2_ (h3_.trans (by rw [r_X5_put_at11, if_pos c_15, if_pos c_34, if_pos c_39, if_pos c_51])) (h4_.trans (by rw [c_X5_put_pd_at11, if_pos c_15, if_pos c_34, if_pos c_39, if_pos c_51, c_X5_put_ln_at11, if_pos c_15, if_pos c_34, if_pos c_39, if_pos c_51])))
          · skip
            refine g_iload E 0 dX5_put_54 rfl ?_
            refine g_ifeq E 67 dX5_put_56 (by decide) (fun q_ => absurd q_ (by decide)) (fun _ => ?_)
            refine g_iload E 1 dX5_put_59 rfl ?_
            refine g_ifne E 83 dX5_put_61 (by decide) (fun c_61 => ?_) (fun c_61 => ?_)
            · skip
              refine g_iconst E 0 dX5_put_83 (by decide) ?_
              refine g_istore E (lv' := [(4, .int 0), (5, .int 1), (7, .int (((w >>> ((nI (8 * k)).toInt64 &&& 63)) &&& 255).toInt32)), (0, .ref (a 0)), (1, .long w), (3, .int many), (6, .int (nI k))]) dX5_put_84 (by decide) rfl ?_
              refine g_iload_n E 5 dX5_put_86 rfl rfl ?_
              refine g_iload E 1 dX5_put_87 rfl ?_
              refine g_ifeq E 96 dX5_put_89 (by decide) (fun q_ => absurd q_ (by decide)) (fun _ => ?_)
              refine g_iconst E 0 dX5_put_92 (by decide) ?_
              refine g_goto E 97 dX5_put_93 (by decide) ?_
              refine g_iadd E dX5_put_97 ?_
              refine g_istore_n E (lv' := [(3, .int (many + 0)), (4, .int 0), (5, .int 1), (7, .int (((w >>> ((nI (8 * k)).toInt64 &&& 63)) &&& 255).toInt32)), (0, .ref (a 0)), (1, .long w), (6, .int (nI k))]) dX5_put_98 rfl (by decide) rfl ?_
              refine g_iinc E (j := 6) (v := (nI (k + 1))) (lv' := [(6, .int (nI (k + 1))), (3, .int (many + 0)), (4, .int 0), (5, .int 1), (7, .int (((w >>> ((nI (8 * k)).toInt64 &&& 63)) &&& 255).toInt32)), (0, .ref (a 0)), (1, .long w)]) dX5_put_99 rfl (nI_1 _) (by decide) rfl ?_
              refine g_goto E 11 dX5_put_102 (by decide) ?_
              refine g_lvs (lv' := [(0, .ref (a 0)), (1, .long w), (3, .int (many + 0)), (4, .int 0), (5, .int 1), (6, .int (nI (k + 1)))]) [5, 6, 1, 2, 3, 0] rfl ?_
              exact ih (k + 1) (many + 0) 0 1 (by omega) (by first | exact b_inc hmy k15 | exact b_inc1 hmy k15) (by omega) (fun pc_ lv_ v_ u_ h1_ h2_ h3_ h4_ => RET pc_ lv_ v_ u_ h1_ h2_ (h3_.trans (by rw [r_X5_put_at11, if_pos c_15, if_pos c_34, if_pos c_39, if_neg c_51, if_neg c_61])) (h4_.trans (by rw [c_X5_put_pd_at11, if_pos c_15, if_pos c_34, if_pos c_39, if_neg c_51, if_neg c_61, c_X5_put_ln_at11, if_pos c_15, if_pos c_34, if_pos c_39, if_neg c_51, if_neg c_61])))
            · skip
              refine g_goto E 79 dX5_put_64 (by decide) ?_
              refine g_iconst E 1 dX5_put_79 (by decide) ?_
              refine g_goto E 84 dX5_put_80 (by decide) ?_
              refine g_istore E (lv' := [(4, .int 1), (5, .int 1), (7, .int (((w >>> ((nI (8 * k)).toInt64 &&& 63)) &&& 255).toInt32)), (0, .ref (a 0)), (1, .long w), (3, .int many), (6, .int (nI k))]) dX5_put_84 (by decide) rfl ?_
              refine g_iload_n E 5 dX5_put_86 rfl rfl ?_
              refine g_iload E 1 dX5_put_87 rfl ?_
              refine g_ifeq E 96 dX5_put_89 (by decide) (fun q_ => absurd q_ (by decide)) (fun _ => ?_)
              refine g_iconst E 0 dX5_put_92 (by decide) ?_
              refine g_goto E 97 dX5_put_93 (by decide) ?_
              refine g_iadd E dX5_put_97 ?_
              refine g_istore_n E (lv' := [(3, .int (many + 0)), (4, .int 1), (5, .int 1), (7, .int (((w >>> ((nI (8 * k)).toInt64 &&& 63)) &&& 255).toInt32)), (0, .ref (a 0)), (1, .long w), (6, .int (nI k))]) dX5_put_98 rfl (by decide) rfl ?_
              refine g_iinc E (j := 6) (v := (nI (k + 1))) (lv' := [(6, .int (nI (k + 1))), (3, .int (many + 0)), (4, .int 1), (5, .int 1), (7, .int (((w >>> ((nI (8 * k)).toInt64 &&& 63)) &&& 255).toInt32)), (0, .ref (a 0)), (1, .long w)]) dX5_put_99 rfl (nI_1 _) (by decide) rfl ?_
              refine g_goto E 11 dX5_put_102 (by decide) ?_
              refine g_lvs (lv' := [(0, .ref (a 0)), (1, .long w), (3, .int (many + 0)), (4, .int 1), (5, .int 1), (6, .int (nI (k + 1)))]) [5, 6, 1, 2, 3, 0] rfl ?_
              exact ih (k + 1) (many + 0) 1 1 (by omega) (by first | exact b_inc hmy k15 | exact b_inc1 hmy k15) (by omega) (fun pc_ lv_ v_ u_ h1_ h2_ h3_ h4_ => RET pc_ lv_ v_ u_ h1_ h2_ (h3_.trans (by rw [r_X5_put_at11, if_pos c_15, if_pos c_34, if_pos c_39, if_neg c_51, if_pos c_61])) (h4_.trans (by rw [c_X5_put_pd_at11, if_pos c_15, if_pos c_34, if_pos c_39, if_neg c_51, if_pos c_61, c_X5_put_ln_at11, if_pos c_15, if_pos c_34, if_pos c_39, if_neg c_51, if_pos c_61])))
set_option maxHeartbeats 1000000 in
set_option maxRecDepth 100000 in
theorem s_X5_put_0 (d : gD) (a : Nat → Nat) (w : Int64) (s : Nat → Int32) (past : Nat → Int32) (kn : Int32) (sl : Nat → Int32) (sv : Nat → Int32) (pd : Nat → Int32) (ln : Int32) (hl : 0 ≤ ln.toInt ∧ ln.toInt ≤ 80)  {X : gX} (E : gE d X RX5 cX5_put 8 R_X5_put) (RET : ∀ (pc_ : Nat) (lv_ : List (Nat × Value)) (v_ : Int32) (u_ : va_W), decode cX5_put pc_ = .ok (.ireturn, 1) → narrow .int (.int v_) = .int v_ → v_ = r_X5_put w pd ln → u_ = MW d a s (past, kn, sl, sv, (c_X5_put_pd w pd ln), (c_X5_put_ln w pd ln)) → G d X u_ R_X5_put.cells R_X5_put.slots pc_ lv_ [.int v_]) : G d X (MW d a s (past, kn, sl, sv, pd, ln)) 0 0 0 [(0, .ref (a 0)), (1, .long w)] [] := by
  refine g_iconst E 0 dX5_put_0 (by decide) ?_
  refine g_istore_n E (lv' := [(3, .int 0), (0, .ref (a 0)), (1, .long w)]) dX5_put_1 rfl (by decide) rfl ?_
  refine g_iconst E 1 dX5_put_2 (by decide) ?_
  refine g_istore E (lv' := [(4, .int 1), (3, .int 0), (0, .ref (a 0)), (1, .long w)]) dX5_put_3 (by decide) rfl ?_
  refine g_iconst E 0 dX5_put_5 (by decide) ?_
  refine g_istore E (lv' := [(5, .int 0), (4, .int 1), (3, .int 0), (0, .ref (a 0)), (1, .long w)]) dX5_put_6 (by decide) rfl ?_
  refine g_iconst E 0 dX5_put_8 (by decide) ?_
  refine g_istore E (lv' := [(6, .int 0), (5, .int 0), (4, .int 1), (3, .int 0), (0, .ref (a 0)), (1, .long w)]) dX5_put_9 (by decide) rfl ?_
  refine g_lvs (lv' := [(0, .ref (a 0)), (1, .long w), (3, .int 0), (4, .int 1), (5, .int 0), (6, .int 0)]) [4, 5, 3, 2, 1, 0] rfl ?_
  exact s_X5_put_11 d a w s past kn sl sv pd ln hl E 9 0 0 1 0 (by omega) (by decide) (by omega) (fun pc_ lv_ v_ u_ h1_ h2_ h3_ h4_ => RET pc_ lv_ v_ u_ h1_ h2_ (h3_.trans (by rw [r_X5_put])) (h4_.trans (by rw [c_X5_put_pd, c_X5_put_ln])))
set_option maxHeartbeats 1000000 in
set_option maxRecDepth 100000 in
theorem t_X5_put (d : gD) (a : Nat → Nat) (w : Int64) (s : Nat → Int32) (past : Nat → Int32) (kn : Int32) (sl : Nat → Int32) (sv : Nat → Int32) (pd : Nat → Int32) (ln : Int32) (hl : 0 ≤ ln.toInt ∧ ln.toInt ≤ 80) : gMi d yX5_put cX5_put 8 (some .int) R_X5_put [.ref (a 0), .long w] (MW d a s (past, kn, sl, sv, pd, ln)) (fun r_ u_ => r_ = r_X5_put w pd ln ∧ u_ = MW d a s (past, kn, sl, sv, (c_X5_put_pd w pd ln), (c_X5_put_ln w pd ln))) :=
  g_met_i RX5 rfl (by decide +kernel) (Nat.le_of_ble_eq_true rfl) [(0, .ref (a 0)), (1, .long w)] rfl (fun X E RET => s_X5_put_0 d a w s past kn sl sv pd ln hl E (fun pc_ lv_ v_ u_ h1_ h2_ h3_ h4_ => RET pc_ lv_ v_ u_ h1_ h2_ ⟨h3_, h4_⟩))
abbrev R_X5_wipe : Room := { frames := 0, cells := 0, slots := 0, locals := 0 }
def r_X5_wipe (ln : Int32) : Int32 := ln
def c_X5_wipe_ln (ln : Int32) : Int32 := 0
set_option maxHeartbeats 1000000 in
set_option maxRecDepth 100000 in
theorem s_X5_wipe_0 (d : gD) (a : Nat → Nat) (s : Nat → Int32) (past : Nat → Int32) (kn : Int32) (sl : Nat → Int32) (sv : Nat → Int32) (pd : Nat → Int32) (ln : Int32)   {X : gX} (E : gE d X RX5 cX5_wipe 2 R_X5_wipe) (RET : ∀ (pc_ : Nat) (lv_ : List (Nat × Value)) (v_ : Int32) (u_ : va_W), decode cX5_wipe pc_ = .ok (.ireturn, 1) → narrow .int (.int v_) = .int v_ → v_ = r_X5_wipe ln → u_ = MW d a s (past, kn, sl, sv, pd, (c_X5_wipe_ln ln)) → G d X u_ R_X5_wipe.cells R_X5_wipe.slots pc_ lv_ [.int v_]) : G d X (MW d a s (past, kn, sl, sv, pd, ln)) 0 0 0 [(0, .ref (a 0))] [] := by
  refine g_aload_n E 0 dX5_wipe_0 rfl rfl ?_
  refine g_get E (ci := 5) inlX5 0 rfl rfl 6 (by decide) fl_X5_108 rfl (.int ln) rfl dX5_wipe_1 ?_
  refine g_istore_n E (lv' := [(1, .int ln), (0, .ref (a 0))]) dX5_wipe_4 rfl (by decide) rfl ?_
  refine g_aload_n E 1 dX5_wipe_5 rfl rfl ?_
  refine g_iconst E 0 dX5_wipe_6 (by decide) ?_
  refine g_put E (ci := 5) inlX5 0 rfl rfl 6 (by decide) tyX5 tyX5_ok nmX5 fl_X5_108 rfl rfl rfl rfl (ok_lt rfl) (ws' := MW d a s (past, kn, sl, sv, pd, 0)) rfl dX5_wipe_7 ?_
  refine g_iload_n E 0 dX5_wipe_10 rfl rfl ?_
  exact RET 11 _ ln _ dX5_wipe_11 rfl (by rw [r_X5_wipe]) (by rw [c_X5_wipe_ln])
set_option maxHeartbeats 1000000 in
set_option maxRecDepth 100000 in
theorem t_X5_wipe (d : gD) (a : Nat → Nat) (s : Nat → Int32) (past : Nat → Int32) (kn : Int32) (sl : Nat → Int32) (sv : Nat → Int32) (pd : Nat → Int32) (ln : Int32)  : gMi d yX5_wipe cX5_wipe 2 (some .int) R_X5_wipe [.ref (a 0)] (MW d a s (past, kn, sl, sv, pd, ln)) (fun r_ u_ => r_ = r_X5_wipe ln ∧ u_ = MW d a s (past, kn, sl, sv, pd, (c_X5_wipe_ln ln))) :=
  g_met_i RX5 rfl (by decide +kernel) (Nat.le_of_ble_eq_true rfl) [(0, .ref (a 0))] rfl (fun X E RET => s_X5_wipe_0 d a s past kn sl sv pd ln  E (fun pc_ lv_ v_ u_ h1_ h2_ h3_ h4_ => RET pc_ lv_ v_ u_ h1_ h2_ ⟨h3_, h4_⟩))
abbrev R_X5_signAt : Room := { frames := 0, cells := 0, slots := 0, locals := 0 }
def r_X5_signAt (pl : Int32) (pd : Nat → Int32) (ln : Int32) : Int32 := if pl < ln then (pd pl.toNatClampNeg) else (-1)
set_option maxHeartbeats 1000000 in
set_option maxRecDepth 100000 in
theorem s_X5_signAt_0 (d : gD) (a : Nat → Nat) (pl : Int32) (s : Nat → Int32) (past : Nat → Int32) (kn : Int32) (sl : Nat → Int32) (sv : Nat → Int32) (pd : Nat → Int32) (ln : Int32) (h0 : 0 ≤ pl.toInt) (hl : ln.toInt ≤ 80)  {X : gX} (E : gE d X RX5 cX5_signAt 2 R_X5_signAt) (RET : ∀ (pc_ : Nat) (lv_ : List (Nat × Value)) (v_ : Int32) (u_ : va_W), decode cX5_signAt pc_ = .ok (.ireturn, 1) → narrow .int (.int v_) = .int v_ → v_ = r_X5_signAt pl pd ln → u_ = MW d a s (past, kn, sl, sv, pd, ln) → G d X u_ R_X5_signAt.cells R_X5_signAt.slots pc_ lv_ [.int v_]) : G d X (MW d a s (past, kn, sl, sv, pd, ln)) 0 0 0 [(0, .ref (a 0)), (1, .int pl)] [] := by
  refine g_iload_n E 1 dX5_signAt_0 rfl rfl ?_
  refine g_aload_n E 0 dX5_signAt_1 rfl rfl ?_
  refine g_get E (ci := 5) inlX5 0 rfl rfl 6 (by decide) fl_X5_108 rfl (.int ln) rfl dX5_signAt_2 ?_
  refine g_icmpge E 17 dX5_signAt_5 (by decide) (fun c_5 => ?_) (fun c_5 => ?_)
  · skip
    refine g_iconst E (-1) dX5_signAt_17 (by decide) ?_
    exact RET 18 _ (-1) _ dX5_signAt_18 rfl (by rw [r_X5_signAt, if_neg c_5]) rfl
  · skip
    refine g_aload_n E 0 dX5_signAt_8 rfl rfl ?_
    refine g_get E (ci := 5) inlX5 0 rfl rfl 5 (by decide) fl_X5_23 rfl (.ref (a 5)) rfl dX5_signAt_9 ?_
    refine g_iload_n E 1 dX5_signAt_12 rfl rfl ?_
    refine g_iald E 5 rfl rfl pl.toNatClampNeg (ix_eq (i_nn h0)) (by have := i_cl h0; have := ti_lt.mp c_5; omega) (by decide) dX5_signAt_13 ?_
    refine g_goto E 18 dX5_signAt_14 (by decide) ?_
    exact RET 18 _ (pd pl.toNatClampNeg) _ dX5_signAt_18 rfl (by rw [r_X5_signAt, if_pos c_5]) rfl
set_option maxHeartbeats 1000000 in
set_option maxRecDepth 100000 in
theorem t_X5_signAt (d : gD) (a : Nat → Nat) (pl : Int32) (s : Nat → Int32) (past : Nat → Int32) (kn : Int32) (sl : Nat → Int32) (sv : Nat → Int32) (pd : Nat → Int32) (ln : Int32) (h0 : 0 ≤ pl.toInt) (hl : ln.toInt ≤ 80) : gMi d yX5_signAt cX5_signAt 2 (some .int) R_X5_signAt [.ref (a 0), .int pl] (MW d a s (past, kn, sl, sv, pd, ln)) (fun r_ u_ => r_ = r_X5_signAt pl pd ln ∧ u_ = MW d a s (past, kn, sl, sv, pd, ln)) :=
  g_met_i RX5 rfl (by decide +kernel) (Nat.le_of_ble_eq_true rfl) [(0, .ref (a 0)), (1, .int pl)] rfl (fun X E RET => s_X5_signAt_0 d a pl s past kn sl sv pd ln h0 hl E (fun pc_ lv_ v_ u_ h1_ h2_ h3_ h4_ => RET pc_ lv_ v_ u_ h1_ h2_ ⟨h3_, h4_⟩))
abbrev R_X5_digit : Room := { frames := 1, cells := 0, slots := 0, locals := 22 }
def r_X5_digit (pl : Int32) (pd : Nat → Int32) (ln : Int32) : Int32 := if (r_X5_in (r_X5_signAt pl pd ln) 48 57) = 0 then (-1) else ((r_X5_signAt pl pd ln) - 48)
set_option maxHeartbeats 1000000 in
set_option maxRecDepth 100000 in
theorem s_X5_digit_0 (d : gD) (a : Nat → Nat) (pl : Int32) (s : Nat → Int32) (past : Nat → Int32) (kn : Int32) (sl : Nat → Int32) (sv : Nat → Int32) (pd : Nat → Int32) (ln : Int32) (h0 : 0 ≤ pl.toInt) (hl : ln.toInt ≤ 80)  {X : gX} (E : gE d X RX5 cX5_digit 2 R_X5_digit) (RET : ∀ (pc_ : Nat) (lv_ : List (Nat × Value)) (v_ : Int32) (u_ : va_W), decode cX5_digit pc_ = .ok (.ireturn, 1) → narrow .int (.int v_) = .int v_ → v_ = r_X5_digit pl pd ln → u_ = MW d a s (past, kn, sl, sv, pd, ln) → G d X u_ R_X5_digit.cells R_X5_digit.slots pc_ lv_ [.int v_]) : G d X (MW d a s (past, kn, sl, sv, pd, ln)) 0 0 0 [(0, .ref (a 0)), (1, .int pl)] [] := by
  refine g_aload_n E 0 dX5_digit_0 rfl rfl ?_
  refine g_iload_n E 1 dX5_digit_1 rfl rfl ?_
  refine g_callVi0 E gc_X5_signAt ml_X5_116 (t_X5_signAt d a pl s past kn sl sv pd ln (by first | assumption | omega) (by first | assumption | omega)) rfl rfl (ci := 5) 0 rfl rfl rfl rfl (ok_le rfl) ⟨ok_le rfl, ok_le rfl, ok_le rfl, ok_le rfl⟩ rfl rfl dX5_digit_2 ?_
  refine g_nm (fun v1_ hv1_ => ?_)
  refine g_bipush E 48 dX5_digit_5 (by decide) ?_
  refine g_bipush E 57 dX5_digit_7 (by decide) ?_
  refine g_callSp E gc_X5_in ml_X5_26 (t_X5_in d v1_ 48 57 ) rfl rfl rfl (ok_le rfl) ⟨ok_le rfl, ok_le rfl, ok_le rfl, ok_le rfl⟩ rfl rfl dX5_digit_9 ?_
  refine g_nm (fun v2_ hv2_ => ?_)
  refine g_ifeq E 26 dX5_digit_12 (by decide) (fun c_12 => ?_) (fun c_12 => ?_)
  · skip
    refine g_iconst E (-1) dX5_digit_26 (by decide) ?_
    subst hv2_
    subst hv1_
    exact RET 27 _ (-1) _ dX5_digit_27 rfl (by rw [r_X5_digit, if_pos c_12]) rfl
  · skip
    refine g_aload_n E 0 dX5_digit_15 rfl rfl ?_
    refine g_iload_n E 1 dX5_digit_16 rfl rfl ?_
    refine g_callVi0 E gc_X5_signAt ml_X5_116 (t_X5_signAt d a pl s past kn sl sv pd ln (by first | assumption | omega) (by first | assumption | omega)) rfl rfl (ci := 5) 0 rfl rfl rfl rfl (ok_le rfl) ⟨ok_le rfl, ok_le rfl, ok_le rfl, ok_le rfl⟩ rfl rfl dX5_digit_17 ?_
    refine g_nm (fun v3_ hv3_ => ?_)
    refine g_bipush E 48 dX5_digit_20 (by decide) ?_
    refine g_isub E dX5_digit_22 ?_
    refine g_goto E 27 dX5_digit_23 (by decide) ?_
    subst hv3_
    subst hv2_
    subst hv1_
    exact RET 27 _ ((r_X5_signAt pl pd ln) - 48) _ dX5_digit_27 rfl (by rw [r_X5_digit, if_neg c_12]) rfl
set_option maxHeartbeats 1000000 in
set_option maxRecDepth 100000 in
theorem t_X5_digit (d : gD) (a : Nat → Nat) (pl : Int32) (s : Nat → Int32) (past : Nat → Int32) (kn : Int32) (sl : Nat → Int32) (sv : Nat → Int32) (pd : Nat → Int32) (ln : Int32) (h0 : 0 ≤ pl.toInt) (hl : ln.toInt ≤ 80) : gMi d yX5_digit cX5_digit 2 (some .int) R_X5_digit [.ref (a 0), .int pl] (MW d a s (past, kn, sl, sv, pd, ln)) (fun r_ u_ => r_ = r_X5_digit pl pd ln ∧ u_ = MW d a s (past, kn, sl, sv, pd, ln)) :=
  g_met_i RX5 rfl (by decide +kernel) (Nat.le_of_ble_eq_true rfl) [(0, .ref (a 0)), (1, .int pl)] rfl (fun X E RET => s_X5_digit_0 d a pl s past kn sl sv pd ln h0 hl E (fun pc_ lv_ v_ u_ h1_ h2_ h3_ h4_ => RET pc_ lv_ v_ u_ h1_ h2_ ⟨h3_, h4_⟩))
abbrev R_X5_numberEnd : Room := { frames := 2, cells := 0, slots := 0, locals := 43 }
def r_X5_numberEnd_at22 (pl : Int32) (pd : Nat → Int32) (ln : Int32) : Nat → (Int32) → Int32
  | 0, _ => 0
  | n + 1, e => if 0 < (r_X5_digit pl pd ln) then (if e < (pl + 3) then (if (r_X5_digit e pd ln) < 0 then e else (r_X5_numberEnd_at22 pl pd ln n (e + 1))) else e) else e
def r_X5_numberEnd (pl : Int32) (pd : Nat → Int32) (ln : Int32) : Int32 := if pl < 0 then pl else (if (r_X5_digit pl pd ln) < 0 then ((-1) - pl) else (r_X5_numberEnd_at22 pl pd ln 3 (pl + 1)))
set_option maxHeartbeats 1000000 in
set_option maxRecDepth 100000 in
theorem s_X5_numberEnd_22 (d : gD) (a : Nat → Nat) (pl : Int32) (s : Nat → Int32) (past : Nat → Int32) (kn : Int32) (sl : Nat → Int32) (sv : Nat → Int32) (pd : Nat → Int32) (ln : Int32) (hp : pl.toInt ≤ 1000) (hl : ln.toInt ≤ 80) {X : gX} (E : gE d X RX5 cX5_numberEnd 3 R_X5_numberEnd) : ∀ (n : Nat) (e : Int32) (h0 : 0 ≤ pl.toInt) (he : pl.toInt < e.toInt ∧ e.toInt ≤ pl.toInt + 3) (hm : (pl.toInt + 3 - e.toInt).toNat < n) (RET : ∀ (pc_ : Nat) (lv_ : List (Nat × Value)) (v_ : Int32) (u_ : va_W), decode cX5_numberEnd pc_ = .ok (.ireturn, 1) → narrow .int (.int v_) = .int v_ → v_ = r_X5_numberEnd_at22 pl pd ln n e → u_ = MW d a s (past, kn, sl, sv, pd, ln) → G d X u_ R_X5_numberEnd.cells R_X5_numberEnd.slots pc_ lv_ [.int v_]), G d X (MW d a s (past, kn, sl, sv, pd, ln)) 0 0 22 [(0, .ref (a 0)), (1, .int pl), (2, .int e)] [] := by
  intro n
  induction n with
  | zero => intro e h0 he hm; omega
  | succ n ih =>
    intro e h0 he hm RET
    refine g_aload_n E 0 dX5_numberEnd_22 rfl rfl ?_
    refine g_iload_n E 1 dX5_numberEnd_23 rfl rfl ?_
    refine g_callVi0 E gc_X5_digit ml_X5_119 (t_X5_digit d a pl s past kn sl sv pd ln h0 hl) rfl rfl (ci := 5) 0 rfl rfl rfl rfl (ok_le rfl) ⟨ok_le rfl, ok_le rfl, ok_le rfl, ok_le rfl⟩ rfl rfl dX5_numberEnd_24 ?_
    refine g_nm (fun v2_ hv2_ => ?_)
    refine g_ifle E 51 dX5_numberEnd_27 (by decide) (fun c_27 => ?_) (fun c_27 => ?_)
    · skip
      refine g_iload_n E 2 dX5_numberEnd_51 rfl rfl ?_
      subst hv2_
      exact RET 52 _ e _ dX5_numberEnd_52 rfl (by rw [r_X5_numberEnd_at22, if_neg c_27]) rfl
    · skip
      refine g_iload_n E 2 dX5_numberEnd_30 rfl rfl ?_
      refine g_iload_n E 1 dX5_numberEnd_31 rfl rfl ?_
      refine g_iconst E 3 dX5_numberEnd_32 (by decide) ?_
      refine g_iadd E dX5_numberEnd_33 ?_
      refine g_icmpge E 51 dX5_numberEnd_34 (by decide) (fun c_34 => ?_) (fun c_34 => ?_)
      · skip
        refine g_iload_n E 2 dX5_numberEnd_51 rfl rfl ?_
        subst hv2_
        exact RET 52 _ e _ dX5_numberEnd_52 rfl (by rw [r_X5_numberEnd_at22, if_pos c_27, if_neg c_34]) rfl
      · skip
        have k34 := ti_lt.mp c_34
        have k35 : (pl + 3).toInt = pl.toInt + 3 := i_3 (by omega)
        have k36 : (e + 1).toInt = e.toInt + 1 := i_1 (by omega)
        refine g_aload_n E 0 dX5_numberEnd_37 rfl rfl ?_
        refine g_iload_n E 2 dX5_numberEnd_38 rfl rfl ?_
        refine g_callVi0 E gc_X5_digit ml_X5_119 (t_X5_digit d a e s past kn sl sv pd ln (by omega) hl) rfl rfl (ci := 5) 0 rfl rfl rfl rfl (ok_le rfl) ⟨ok_le rfl, ok_le rfl, ok_le rfl, ok_le rfl⟩ rfl rfl dX5_numberEnd_39 ?_
        refine g_nm (fun v3_ hv3_ => ?_)
        refine g_iflt E 51 dX5_numberEnd_42 (by decide) (fun c_42 => ?_) (fun c_42 => ?_)
        · skip
          refine g_iload_n E 2 dX5_numberEnd_51 rfl rfl ?_
          subst hv3_
          subst hv2_
          exact RET 52 _ e _ dX5_numberEnd_52 rfl (by rw [r_X5_numberEnd_at22, if_pos c_27, if_pos c_34, if_pos c_42]) rfl
        · skip
          refine g_iinc E (j := 2) (v := (e + 1)) (lv' := [(2, .int (e + 1)), (0, .ref (a 0)), (1, .int pl)]) dX5_numberEnd_45 rfl rfl (by decide) rfl ?_
          refine g_goto E 22 dX5_numberEnd_48 (by decide) ?_
          refine g_lvs (lv' := [(0, .ref (a 0)), (1, .int pl), (2, .int (e + 1))]) [1, 2, 0] rfl ?_
          subst hv3_
          subst hv2_
          exact ih (e + 1) h0 (by omega) (by omega) (fun pc_ lv_ v_ u_ h1_ h2_ h3_ h4_ => RET pc_ lv_ v_ u_ h1_ h2_ (h3_.trans (by rw [r_X5_numberEnd_at22, if_pos c_27, if_pos c_34, if_neg c_42])) h4_)
set_option maxHeartbeats 1000000 in
set_option maxRecDepth 100000 in
theorem s_X5_numberEnd_0 (d : gD) (a : Nat → Nat) (pl : Int32) (s : Nat → Int32) (past : Nat → Int32) (kn : Int32) (sl : Nat → Int32) (sv : Nat → Int32) (pd : Nat → Int32) (ln : Int32) (hp : pl.toInt ≤ 1000) (hl : ln.toInt ≤ 80)  {X : gX} (E : gE d X RX5 cX5_numberEnd 3 R_X5_numberEnd) (RET : ∀ (pc_ : Nat) (lv_ : List (Nat × Value)) (v_ : Int32) (u_ : va_W), decode cX5_numberEnd pc_ = .ok (.ireturn, 1) → narrow .int (.int v_) = .int v_ → v_ = r_X5_numberEnd pl pd ln → u_ = MW d a s (past, kn, sl, sv, pd, ln) → G d X u_ R_X5_numberEnd.cells R_X5_numberEnd.slots pc_ lv_ [.int v_]) : G d X (MW d a s (past, kn, sl, sv, pd, ln)) 0 0 0 [(0, .ref (a 0)), (1, .int pl)] [] := by
  refine g_iload_n E 1 dX5_numberEnd_0 rfl rfl ?_
  refine g_ifge E 6 dX5_numberEnd_1 (by decide) (fun c_1 => ?_) (fun c_1 => ?_)
  · skip
    have k1 := i_nn' c_1
    have k2 : (pl + 1).toInt = pl.toInt + 1 := i_1 (by omega)
    refine g_aload_n E 0 dX5_numberEnd_6 rfl rfl ?_
    refine g_iload_n E 1 dX5_numberEnd_7 rfl rfl ?_
    refine g_callVi0 E gc_X5_digit ml_X5_119 (t_X5_digit d a pl s past kn sl sv pd ln k1 hl) rfl rfl (ci := 5) 0 rfl rfl rfl rfl (ok_le rfl) ⟨ok_le rfl, ok_le rfl, ok_le rfl, ok_le rfl⟩ rfl rfl dX5_numberEnd_8 ?_
    refine g_nm (fun v1_ hv1_ => ?_)
    refine g_ifge E 18 dX5_numberEnd_11 (by decide) (fun c_11 => ?_) (fun c_11 => ?_)
    · skip
      refine g_iload_n E 1 dX5_numberEnd_18 rfl rfl ?_
      refine g_iconst E 1 dX5_numberEnd_19 (by decide) ?_
      refine g_iadd E dX5_numberEnd_20 ?_
      refine g_istore_n E (lv' := [(2, .int (pl + 1)), (0, .ref (a 0)), (1, .int pl)]) dX5_numberEnd_21 rfl (by decide) rfl ?_
      refine g_lvs (lv' := [(0, .ref (a 0)), (1, .int pl), (2, .int (pl + 1))]) [1, 2, 0] rfl ?_
      subst hv1_
      exact s_X5_numberEnd_22 d a pl s past kn sl sv pd ln hp hl E 3 (pl + 1) k1 (by omega) (by omega) (fun pc_ lv_ v_ u_ h1_ h2_ h3_ h4_ => RET pc_ lv_ v_ u_ h1_ h2_ (h3_.trans (by rw [r_X5_numberEnd, if_neg c_1, if_neg c_11])) h4_)
    · skip
      refine g_iconst E (-1) dX5_numberEnd_14 (by decide) ?_
      refine g_iload_n E 1 dX5_numberEnd_15 rfl rfl ?_
      refine g_isub E dX5_numberEnd_16 ?_
      subst hv1_
      exact RET 17 _ ((-1) - pl) _ dX5_numberEnd_17 rfl (by rw [r_X5_numberEnd, if_neg c_1, if_pos c_11]) rfl
  · skip
    refine g_iload_n E 1 dX5_numberEnd_4 rfl rfl ?_
    exact RET 5 _ pl _ dX5_numberEnd_5 rfl (by rw [r_X5_numberEnd, if_pos c_1]) rfl
set_option maxHeartbeats 1000000 in
set_option maxRecDepth 100000 in
theorem t_X5_numberEnd (d : gD) (a : Nat → Nat) (pl : Int32) (s : Nat → Int32) (past : Nat → Int32) (kn : Int32) (sl : Nat → Int32) (sv : Nat → Int32) (pd : Nat → Int32) (ln : Int32) (hp : pl.toInt ≤ 1000) (hl : ln.toInt ≤ 80) : gMi d yX5_numberEnd cX5_numberEnd 3 (some .int) R_X5_numberEnd [.ref (a 0), .int pl] (MW d a s (past, kn, sl, sv, pd, ln)) (fun r_ u_ => r_ = r_X5_numberEnd pl pd ln ∧ u_ = MW d a s (past, kn, sl, sv, pd, ln)) :=
  g_met_i RX5 rfl (by decide +kernel) (Nat.le_of_ble_eq_true rfl) [(0, .ref (a 0)), (1, .int pl)] rfl (fun X E RET => s_X5_numberEnd_0 d a pl s past kn sl sv pd ln hp hl E (fun pc_ lv_ v_ u_ h1_ h2_ h3_ h4_ => RET pc_ lv_ v_ u_ h1_ h2_ ⟨h3_, h4_⟩))
theorem nE_at {pl : Int32} (pd : Nat → Int32) (ln : Int32) (h0 : 0 ≤ pl.toInt) (hp : pl.toInt ≤ 1000) : ∀ (n : Nat) (e : Int32), pl.toInt < e.toInt ∧ e.toInt ≤ pl.toInt + 3 → (pl.toInt + 3 - e.toInt).toNat < n → pl.toInt < (r_X5_numberEnd_at22 pl pd ln n e).toInt ∧ (r_X5_numberEnd_at22 pl pd ln n e).toInt ≤ pl.toInt + 3 := by
  intro n
  induction n with
  | zero => intro e he h; omega
  | succ n ih =>
    intro e he h
    rw [r_X5_numberEnd_at22]
    have k35 : (pl + 3).toInt = pl.toInt + 3 := i_3 (by omega)
    have k36 : (e + 1).toInt = e.toInt + 1 := i_1 (by omega)
    split
    · split
      · next c =>
        have := ti_lt.mp c
        split
        · exact he
        · exact ih (e + 1) (by omega) (by omega)
      · exact he
    · exact he
/-- where a number's end lies -/
theorem nE_b {pl : Int32} (pd : Nat → Int32) (ln : Int32) (hp : -3000 ≤ pl.toInt ∧ pl.toInt ≤ 1000) : (pl < 0 → r_X5_numberEnd pl pd ln = pl) ∧ (0 ≤ pl.toInt → (pl.toInt < (r_X5_numberEnd pl pd ln).toInt ∧ (r_X5_numberEnd pl pd ln).toInt ≤ pl.toInt + 3) ∨ (r_X5_numberEnd pl pd ln).toInt = -1 - pl.toInt) := by
  refine ⟨fun h => ?_, fun h => ?_⟩
  · rw [r_X5_numberEnd, if_pos h]
  · rw [r_X5_numberEnd, if_neg (i_nn h)]
    split
    · right
      exact i_m rfl (by omega)
    · left
      have k2 : (pl + 1).toInt = pl.toInt + 1 := i_1 (by omega)
      exact nE_at pd ln h hp.2 _ _ (by omega) (by omega)
theorem nE_r {pl : Int32} (pd : Nat → Int32) (ln : Int32) (hp : -3000 ≤ pl.toInt ∧ pl.toInt ≤ 1000) : (pl.toInt ≤ (r_X5_numberEnd pl pd ln).toInt ∨ -1 - pl.toInt ≤ (r_X5_numberEnd pl pd ln).toInt) ∧ (r_X5_numberEnd pl pd ln).toInt ≤ pl.toInt + 3 := by
  obtain ⟨h1, h2⟩ := nE_b pd ln hp
  rcases Int.lt_or_le pl.toInt 0 with h | h
  · rw [h1 (ti_lt.mpr h)]
    omega
  · have := h2 h
    omega
abbrev R_X5_behind : Room := { frames := 1, cells := 0, slots := 0, locals := 21 }
def r_X5_behind (pl : Int32) (sg : Int32) (pd : Nat → Int32) (ln : Int32) : Int32 := if pl < 0 then pl else (if (r_X5_signAt pl pd ln) = sg then (pl + 1) else ((-1) - pl))
set_option maxHeartbeats 1000000 in
set_option maxRecDepth 100000 in
theorem s_X5_behind_0 (d : gD) (a : Nat → Nat) (pl : Int32) (sg : Int32) (s : Nat → Int32) (past : Nat → Int32) (kn : Int32) (sl : Nat → Int32) (sv : Nat → Int32) (pd : Nat → Int32) (ln : Int32) (hl : ln.toInt ≤ 80)  {X : gX} (E : gE d X RX5 cX5_behind 3 R_X5_behind) (RET : ∀ (pc_ : Nat) (lv_ : List (Nat × Value)) (v_ : Int32) (u_ : va_W), decode cX5_behind pc_ = .ok (.ireturn, 1) → narrow .int (.int v_) = .int v_ → v_ = r_X5_behind pl sg pd ln → u_ = MW d a s (past, kn, sl, sv, pd, ln) → G d X u_ R_X5_behind.cells R_X5_behind.slots pc_ lv_ [.int v_]) : G d X (MW d a s (past, kn, sl, sv, pd, ln)) 0 0 0 [(0, .ref (a 0)), (1, .int pl), (2, .int sg)] [] := by
  refine g_iload_n E 1 dX5_behind_0 rfl rfl ?_
  refine g_ifge E 8 dX5_behind_1 (by decide) (fun c_1 => ?_) (fun c_1 => ?_)
  · skip
    refine g_aload_n E 0 dX5_behind_8 rfl rfl ?_
    refine g_iload_n E 1 dX5_behind_9 rfl rfl ?_
    refine g_callVi0 E gc_X5_signAt ml_X5_116 (t_X5_signAt d a pl s past kn sl sv pd ln (i_nn' c_1) hl) rfl rfl (ci := 5) 0 rfl rfl rfl rfl (ok_le rfl) ⟨ok_le rfl, ok_le rfl, ok_le rfl, ok_le rfl⟩ rfl rfl dX5_behind_10 ?_
    refine g_nm (fun v1_ hv1_ => ?_)
    refine g_iload_n E 2 dX5_behind_13 rfl rfl ?_
    refine g_icmpne E 23 dX5_behind_14 (by decide) (fun c_14 => ?_) (fun c_14 => ?_)
    · skip
      refine g_iconst E (-1) dX5_behind_23 (by decide) ?_
      refine g_iload_n E 1 dX5_behind_24 rfl rfl ?_
      refine g_isub E dX5_behind_25 ?_
      subst hv1_
      exact RET 26 _ ((-1) - pl) _ dX5_behind_26 rfl (by rw [r_X5_behind, if_neg c_1, if_neg c_14]) rfl
    · skip
      refine g_iload_n E 1 dX5_behind_17 rfl rfl ?_
      refine g_iconst E 1 dX5_behind_18 (by decide) ?_
      refine g_iadd E dX5_behind_19 ?_
      refine g_goto E 26 dX5_behind_20 (by decide) ?_
      subst hv1_
      exact RET 26 _ (pl + 1) _ dX5_behind_26 rfl (by rw [r_X5_behind, if_neg c_1, if_pos c_14]) rfl
  · skip
    refine g_iload_n E 1 dX5_behind_4 rfl rfl ?_
    refine g_goto E 26 dX5_behind_5 (by decide) ?_
    exact RET 26 _ pl _ dX5_behind_26 rfl (by rw [r_X5_behind, if_pos c_1]) rfl
set_option maxHeartbeats 1000000 in
set_option maxRecDepth 100000 in
theorem t_X5_behind (d : gD) (a : Nat → Nat) (pl : Int32) (sg : Int32) (s : Nat → Int32) (past : Nat → Int32) (kn : Int32) (sl : Nat → Int32) (sv : Nat → Int32) (pd : Nat → Int32) (ln : Int32) (hl : ln.toInt ≤ 80) : gMi d yX5_behind cX5_behind 3 (some .int) R_X5_behind [.ref (a 0), .int pl, .int sg] (MW d a s (past, kn, sl, sv, pd, ln)) (fun r_ u_ => r_ = r_X5_behind pl sg pd ln ∧ u_ = MW d a s (past, kn, sl, sv, pd, ln)) :=
  g_met_i RX5 rfl (by decide +kernel) (Nat.le_of_ble_eq_true rfl) [(0, .ref (a 0)), (1, .int pl), (2, .int sg)] rfl (fun X E RET => s_X5_behind_0 d a pl sg s past kn sl sv pd ln hl E (fun pc_ lv_ v_ u_ h1_ h2_ h3_ h4_ => RET pc_ lv_ v_ u_ h1_ h2_ ⟨h3_, h4_⟩))
theorem bh_b {pl : Int32} (sg : Int32) (pd : Nat → Int32) (ln : Int32) (hp : -1100 ≤ pl.toInt ∧ pl.toInt ≤ 1100) : -1101 ≤ (r_X5_behind pl sg pd ln).toInt ∧ (r_X5_behind pl sg pd ln).toInt ≤ pl.toInt + 1 := by
  have k1 : (pl + 1).toInt = pl.toInt + 1 := i_1 (by omega)
  have k2 : ((-1) - pl).toInt = -1 - pl.toInt := i_m rfl (by omega)
  rw [r_X5_behind]
  split
  · omega
  · next c =>
    have := i_nn' c
    split
    · omega
    · omega
theorem nA_go {pl e : Int32} {pd : Nat → Int32} {ln : Int32} (hp : -500 ≤ pl.toInt ∧ pl.toInt ≤ 500) (he : pl.toInt ≤ e.toInt ∧ e.toInt ≤ pl.toInt + 3) (c : e < r_X5_numberEnd pl pd ln) : 0 ≤ pl.toInt ∧ e.toInt < pl.toInt + 3 := by
  obtain ⟨h1, h2⟩ := nE_b (pl := pl) pd ln (by omega)
  have c' := ti_lt.mp c
  rcases Int.lt_or_le pl.toInt 0 with h | h
  · rw [h1 (ti_lt.mpr h)] at c'
    omega
  · have := h2 h
    omega
abbrev R_X5_numberAt : Room := { frames := 3, cells := 0, slots := 0, locals := 65 }
def r_X5_numberAt_at4 (pl : Int32) (pd : Nat → Int32) (ln : Int32) : Nat → (Int32) → (Int32) → Int32
  | 0, _, _ => 0
  | n + 1, v, e => if e < (r_X5_numberEnd pl pd ln) then (r_X5_numberAt_at4 pl pd ln n ((10 * v) + (r_X5_digit e pd ln)) (e + 1)) else v
def r_X5_numberAt (pl : Int32) (pd : Nat → Int32) (ln : Int32) : Int32 := r_X5_numberAt_at4 pl pd ln 4 0 pl
set_option maxHeartbeats 1000000 in
set_option maxRecDepth 100000 in
theorem s_X5_numberAt_4 (d : gD) (a : Nat → Nat) (pl : Int32) (s : Nat → Int32) (past : Nat → Int32) (kn : Int32) (sl : Nat → Int32) (sv : Nat → Int32) (pd : Nat → Int32) (ln : Int32) (hp : -500 ≤ pl.toInt ∧ pl.toInt ≤ 500) (hl : ln.toInt ≤ 80) {X : gX} (E : gE d X RX5 cX5_numberAt 4 R_X5_numberAt) : ∀ (n : Nat) (v : Int32) (e : Int32) (he : pl.toInt ≤ e.toInt ∧ e.toInt ≤ pl.toInt + 3) (hm : (pl.toInt + 3 - e.toInt).toNat < n) (RET : ∀ (pc_ : Nat) (lv_ : List (Nat × Value)) (v_ : Int32) (u_ : va_W), decode cX5_numberAt pc_ = .ok (.ireturn, 1) → narrow .int (.int v_) = .int v_ → v_ = r_X5_numberAt_at4 pl pd ln n v e → u_ = MW d a s (past, kn, sl, sv, pd, ln) → G d X u_ R_X5_numberAt.cells R_X5_numberAt.slots pc_ lv_ [.int v_]), G d X (MW d a s (past, kn, sl, sv, pd, ln)) 0 0 4 [(0, .ref (a 0)), (1, .int pl), (2, .int v), (3, .int e)] [] := by
  intro n
  induction n with
  | zero => intro v e he hm; omega
  | succ n ih =>
    intro v e he hm RET
    refine g_iload_n E 3 dX5_numberAt_4 rfl rfl ?_
    refine g_aload_n E 0 dX5_numberAt_5 rfl rfl ?_
    refine g_iload_n E 1 dX5_numberAt_6 rfl rfl ?_
    refine g_callVi0 E gc_X5_numberEnd ml_X5_122 (t_X5_numberEnd d a pl s past kn sl sv pd ln (by omega) hl) rfl rfl (ci := 5) 0 rfl rfl rfl rfl (ok_le rfl) ⟨ok_le rfl, ok_le rfl, ok_le rfl, ok_le rfl⟩ rfl rfl dX5_numberAt_7 ?_
    refine g_nm (fun v1_ hv1_ => ?_)
    refine g_icmpge E 30 dX5_numberAt_10 (by decide) (fun c_10 => ?_) (fun c_10 => ?_)
    · skip
      refine g_iload_n E 2 dX5_numberAt_30 rfl rfl ?_
      subst hv1_
      exact RET 31 _ v _ dX5_numberAt_31 rfl (by rw [r_X5_numberAt_at4, if_neg c_10]) rfl
    · skip
      have k10 : 0 ≤ pl.toInt ∧ e.toInt < pl.toInt + 3 := by subst_vars; exact nA_go hp he c_10
      have k11 : (e + 1).toInt = e.toInt + 1 := i_1 (by omega)
      refine g_bipush E 10 dX5_numberAt_13 (by decide) ?_
      refine g_iload_n E 2 dX5_numberAt_15 rfl rfl ?_
      refine g_imul E dX5_numberAt_16 ?_
      refine g_aload_n E 0 dX5_numberAt_17 rfl rfl ?_
      refine g_iload_n E 3 dX5_numberAt_18 rfl rfl ?_
      refine g_callVi0 E gc_X5_digit ml_X5_119 (t_X5_digit d a e s past kn sl sv pd ln (by omega) hl) rfl rfl (ci := 5) 0 rfl rfl rfl rfl (ok_le rfl) ⟨ok_le rfl, ok_le rfl, ok_le rfl, ok_le rfl⟩ rfl rfl dX5_numberAt_19 ?_
      refine g_nm (fun v2_ hv2_ => ?_)
      refine g_iadd E dX5_numberAt_22 ?_
      refine g_istore_n E (lv' := [(2, .int ((10 * v) + v2_)), (0, .ref (a 0)), (1, .int pl), (3, .int e)]) dX5_numberAt_23 rfl (by decide) rfl ?_
      refine g_iinc E (j := 3) (v := (e + 1)) (lv' := [(3, .int (e + 1)), (2, .int ((10 * v) + v2_)), (0, .ref (a 0)), (1, .int pl)]) dX5_numberAt_24 rfl rfl (by decide) rfl ?_
      refine g_goto E 4 dX5_numberAt_27 (by decide) ?_
      refine g_lvs (lv' := [(0, .ref (a 0)), (1, .int pl), (2, .int ((10 * v) + v2_)), (3, .int (e + 1))]) [2, 3, 1, 0] rfl ?_
      subst hv2_
      subst hv1_
      exact ih ((10 * v) + (r_X5_digit e pd ln)) (e + 1) (by omega) (by omega) (fun pc_ lv_ v_ u_ h1_ h2_ h3_ h4_ => RET pc_ lv_ v_ u_ h1_ h2_ (h3_.trans (by rw [r_X5_numberAt_at4, if_pos c_10])) h4_)
set_option maxHeartbeats 1000000 in
set_option maxRecDepth 100000 in
theorem s_X5_numberAt_0 (d : gD) (a : Nat → Nat) (pl : Int32) (s : Nat → Int32) (past : Nat → Int32) (kn : Int32) (sl : Nat → Int32) (sv : Nat → Int32) (pd : Nat → Int32) (ln : Int32) (hp : -500 ≤ pl.toInt ∧ pl.toInt ≤ 500) (hl : ln.toInt ≤ 80)  {X : gX} (E : gE d X RX5 cX5_numberAt 4 R_X5_numberAt) (RET : ∀ (pc_ : Nat) (lv_ : List (Nat × Value)) (v_ : Int32) (u_ : va_W), decode cX5_numberAt pc_ = .ok (.ireturn, 1) → narrow .int (.int v_) = .int v_ → v_ = r_X5_numberAt pl pd ln → u_ = MW d a s (past, kn, sl, sv, pd, ln) → G d X u_ R_X5_numberAt.cells R_X5_numberAt.slots pc_ lv_ [.int v_]) : G d X (MW d a s (past, kn, sl, sv, pd, ln)) 0 0 0 [(0, .ref (a 0)), (1, .int pl)] [] := by
  refine g_iconst E 0 dX5_numberAt_0 (by decide) ?_
  refine g_istore_n E (lv' := [(2, .int 0), (0, .ref (a 0)), (1, .int pl)]) dX5_numberAt_1 rfl (by decide) rfl ?_
  refine g_iload_n E 2 dX5_numberAt_2 rfl rfl ?_
  refine g_istore_n E (lv' := [(3, .int pl), (2, .int 0), (0, .ref (a 0)), (1, .int pl)]) dX5_numberAt_3 rfl (by decide) rfl ?_
  refine g_lvs (lv' := [(0, .ref (a 0)), (1, .int pl), (2, .int 0), (3, .int pl)]) [2, 3, 1, 0] rfl ?_
  exact s_X5_numberAt_4 d a pl s past kn sl sv pd ln hp hl E 4 0 pl (by omega) (by omega) (fun pc_ lv_ v_ u_ h1_ h2_ h3_ h4_ => RET pc_ lv_ v_ u_ h1_ h2_ (h3_.trans (by rw [r_X5_numberAt])) h4_)
set_option maxHeartbeats 1000000 in
set_option maxRecDepth 100000 in
theorem t_X5_numberAt (d : gD) (a : Nat → Nat) (pl : Int32) (s : Nat → Int32) (past : Nat → Int32) (kn : Int32) (sl : Nat → Int32) (sv : Nat → Int32) (pd : Nat → Int32) (ln : Int32) (hp : -500 ≤ pl.toInt ∧ pl.toInt ≤ 500) (hl : ln.toInt ≤ 80) : gMi d yX5_numberAt cX5_numberAt 4 (some .int) R_X5_numberAt [.ref (a 0), .int pl] (MW d a s (past, kn, sl, sv, pd, ln)) (fun r_ u_ => r_ = r_X5_numberAt pl pd ln ∧ u_ = MW d a s (past, kn, sl, sv, pd, ln)) :=
  g_met_i RX5 rfl (by decide +kernel) (Nat.le_of_ble_eq_true rfl) [(0, .ref (a 0)), (1, .int pl)] rfl (fun X E RET => s_X5_numberAt_0 d a pl s past kn sl sv pd ln hp hl E (fun pc_ lv_ v_ u_ h1_ h2_ h3_ h4_ => RET pc_ lv_ v_ u_ h1_ h2_ ⟨h3_, h4_⟩))
theorem oE_in (pl : Int32) (pd : Nat → Int32) (ln : Int32) (h0 : 0 ≤ pl.toInt ∧ pl.toInt ≤ 80) : -1110 ≤ (r_X5_numberEnd (r_X5_behind (r_X5_numberEnd (pl + 1) pd ln) 44 pd ln) pd ln).toInt ∧ (r_X5_numberEnd (r_X5_behind (r_X5_numberEnd (pl + 1) pd ln) 44 pd ln) pd ln).toInt ≤ pl.toInt + 8 := by
  have e1 : (pl + 1).toInt = pl.toInt + 1 := i_1 (by omega)
  have q0 : -82 ≤ (r_X5_numberEnd (pl + 1) pd ln).toInt := by
    have := (nE_b (pl := pl + 1) pd ln (by omega)).2 (by omega)
    omega
  have q1 := nE_r (pl := pl + 1) pd ln (by omega)
  have q2 : -100 ≤ (r_X5_behind (r_X5_numberEnd (pl + 1) pd ln) 44 pd ln).toInt ∧ (r_X5_behind (r_X5_numberEnd (pl + 1) pd ln) 44 pd ln).toInt ≤ pl.toInt + 5 := by
    have k1 : (r_X5_numberEnd (pl + 1) pd ln + 1).toInt = (r_X5_numberEnd (pl + 1) pd ln).toInt + 1 := i_1 (by omega)
    have k2 : ((-1) - r_X5_numberEnd (pl + 1) pd ln).toInt = -1 - (r_X5_numberEnd (pl + 1) pd ln).toInt := i_m rfl (by omega)
    rw [r_X5_behind]
    split
    · omega
    · next c =>
      have := i_nn' c
      split
      · omega
      · omega
  have q3 := nE_r (pl := r_X5_behind (r_X5_numberEnd (pl + 1) pd ln) 44 pd ln) pd ln (by omega)
  omega
abbrev R_X5_orderEnd : Room := { frames := 3, cells := 0, slots := 0, locals := 65 }
def r_X5_orderEnd (pl : Int32) (pd : Nat → Int32) (ln : Int32) : Int32 := if (r_X5_signAt pl pd ln) = 98 then (if (r_X5_digit (pl + 1) pd ln) < 0 then ((-2) - pl) else (pl + 2)) else (if (r_X5_signAt pl pd ln) = 115 then (if 0 < (r_X5_numberEnd (r_X5_behind (r_X5_numberEnd (pl + 1) pd ln) 44 pd ln) pd ln) then (if (r_X5_signAt (r_X5_numberEnd (r_X5_behind (r_X5_numberEnd (pl + 1) pd ln) 44 pd ln) pd ln) pd ln) = 42 then (r_X5_numberEnd ((r_X5_numberEnd (r_X5_behind (r_X5_numberEnd (pl + 1) pd ln) 44 pd ln) pd ln) + 1) pd ln) else (r_X5_numberEnd (r_X5_behind (r_X5_numberEnd (pl + 1) pd ln) 44 pd ln) pd ln)) else (r_X5_numberEnd (r_X5_behind (r_X5_numberEnd (pl + 1) pd ln) 44 pd ln) pd ln)) else (if (r_X5_signAt pl pd ln) = 117 then (if (r_X5_digit (pl + 1) pd ln) < 0 then ((-2) - pl) else (pl + 2)) else ((-1) - pl)))
set_option maxHeartbeats 1000000 in
set_option maxRecDepth 100000 in
theorem s_X5_orderEnd_0 (d : gD) (a : Nat → Nat) (pl : Int32) (s : Nat → Int32) (past : Nat → Int32) (kn : Int32) (sl : Nat → Int32) (sv : Nat → Int32) (pd : Nat → Int32) (ln : Int32) (h0 : 0 ≤ pl.toInt ∧ pl.toInt ≤ 80) (hl : ln.toInt ≤ 80)  {X : gX} (E : gE d X RX5 cX5_orderEnd 3 R_X5_orderEnd) (RET : ∀ (pc_ : Nat) (lv_ : List (Nat × Value)) (v_ : Int32) (u_ : va_W), decode cX5_orderEnd pc_ = .ok (.ireturn, 1) → narrow .int (.int v_) = .int v_ → v_ = r_X5_orderEnd pl pd ln → u_ = MW d a s (past, kn, sl, sv, pd, ln) → G d X u_ R_X5_orderEnd.cells R_X5_orderEnd.slots pc_ lv_ [.int v_]) : G d X (MW d a s (past, kn, sl, sv, pd, ln)) 0 0 0 [(0, .ref (a 0)), (1, .int pl)] [] := by
  refine g_aload_n E 0 dX5_orderEnd_0 rfl rfl ?_
  refine g_iload_n E 1 dX5_orderEnd_1 rfl rfl ?_
  refine g_callVi0 E gc_X5_signAt ml_X5_116 (t_X5_signAt d a pl s past kn sl sv pd ln h0.1 hl) rfl rfl (ci := 5) 0 rfl rfl rfl rfl (ok_le rfl) ⟨ok_le rfl, ok_le rfl, ok_le rfl, ok_le rfl⟩ rfl rfl dX5_orderEnd_2 ?_
  refine g_nm (fun v1_ hv1_ => ?_)
  by_cases w_5_98 : v1_ = 98
  · skip
    refine g_lookup E (off := 79) 84 dX5_orderEnd_5 (by decide) (by rw [w_5_98] <;> rfl) (by decide) ?_
    refine g_aload_n E 0 dX5_orderEnd_84 rfl rfl ?_
    refine g_iload_n E 1 dX5_orderEnd_85 rfl rfl ?_
    refine g_iconst E 1 dX5_orderEnd_86 (by decide) ?_
    refine g_iadd E dX5_orderEnd_87 ?_
    refine g_callVi0 E gc_X5_digit ml_X5_119 (t_X5_digit d a (pl + 1) s past kn sl sv pd ln (by rw [i_1 (by omega)]; omega) hl) rfl rfl (ci := 5) 0 rfl rfl rfl rfl (ok_le rfl) ⟨ok_le rfl, ok_le rfl, ok_le rfl, ok_le rfl⟩ rfl rfl dX5_orderEnd_88 ?_
    refine g_nm (fun v2_ hv2_ => ?_)
    refine g_ifge E 101 dX5_orderEnd_91 (by decide) (fun c_91 => ?_) (fun c_91 => ?_)
    · skip
      refine g_iload_n E 1 dX5_orderEnd_101 rfl rfl ?_
      refine g_iconst E 2 dX5_orderEnd_102 (by decide) ?_
      refine g_iadd E dX5_orderEnd_103 ?_
      subst hv2_
      subst hv1_
      exact RET 104 _ (pl + 2) _ dX5_orderEnd_104 rfl (by rw [r_X5_orderEnd, if_pos w_5_98, if_neg c_91]) rfl
    · skip
      refine g_bipush E (-2) dX5_orderEnd_94 (by decide) ?_
      refine g_iload_n E 1 dX5_orderEnd_96 rfl rfl ?_
      refine g_isub E dX5_orderEnd_97 ?_
      refine g_goto E 104 dX5_orderEnd_98 (by decide) ?_
      subst hv2_
      subst hv1_
      exact RET 104 _ ((-2) - pl) _ dX5_orderEnd_104 rfl (by rw [r_X5_orderEnd, if_pos w_5_98, if_pos c_91]) rfl
  · skip
    by_cases w_5_115 : v1_ = 115
    · skip
      refine g_lookup E (off := 35) 40 dX5_orderEnd_5 (by decide) (by rw [w_5_115] <;> rfl) (by decide) ?_
      refine g_aload_n E 0 dX5_orderEnd_40 rfl rfl ?_
      refine g_aload_n E 0 dX5_orderEnd_41 rfl rfl ?_
      refine g_aload_n E 0 dX5_orderEnd_42 rfl rfl ?_
      refine g_iload_n E 1 dX5_orderEnd_43 rfl rfl ?_
      refine g_iconst E 1 dX5_orderEnd_44 (by decide) ?_
      refine g_iadd E dX5_orderEnd_45 ?_
      refine g_callVi0 E gc_X5_numberEnd ml_X5_122 (t_X5_numberEnd d a (pl + 1) s past kn sl sv pd ln (by rw [i_1 (by omega)]; omega) hl) rfl rfl (ci := 5) 0 rfl rfl rfl rfl (ok_le rfl) ⟨ok_le rfl, ok_le rfl, ok_le rfl, ok_le rfl⟩ rfl rfl dX5_orderEnd_46 ?_
      refine g_nm (fun v3_ hv3_ => ?_)
      refine g_bipush E 44 dX5_orderEnd_49 (by decide) ?_
      refine g_callVi0 E gc_X5_behind ml_X5_125 (t_X5_behind d a v3_ 44 s past kn sl sv pd ln hl) rfl rfl (ci := 5) 0 rfl rfl rfl rfl (ok_le rfl) ⟨ok_le rfl, ok_le rfl, ok_le rfl, ok_le rfl⟩ rfl rfl dX5_orderEnd_51 ?_
      refine g_nm (fun v4_ hv4_ => ?_)
      refine g_callVi0 E gc_X5_numberEnd ml_X5_122 (t_X5_numberEnd d a v4_ s past kn sl sv pd ln (by subst_vars; have q1 := nE_r (pl := pl + 1) pd ln (by rw [i_1 (by omega)]; omega); rw [i_1 (by omega)] at q1; have q2 := bh_b (pl := r_X5_numberEnd (pl + 1) pd ln) 44 pd ln (by omega); omega) hl) rfl rfl (ci := 5) 0 rfl rfl rfl rfl (ok_le rfl) ⟨ok_le rfl, ok_le rfl, ok_le rfl, ok_le rfl⟩ rfl rfl dX5_orderEnd_54 ?_
      refine g_nm (fun v5_ hv5_ => ?_)
      refine g_istore_n E (lv' := [(2, .int v5_), (0, .ref (a 0)), (1, .int pl)]) dX5_orderEnd_57 rfl (by decide) rfl ?_
      refine g_iload_n E 0 dX5_orderEnd_58 rfl rfl ?_
      refine g_ifle E 82 dX5_orderEnd_59 (by decide) (fun c_59 => ?_) (fun c_59 => ?_)
      · skip
        refine g_iload_n E 0 dX5_orderEnd_82 rfl rfl ?_
        subst hv5_
        subst hv4_
        subst hv3_
        subst hv1_
        exact RET 83 _ (r_X5_numberEnd (r_X5_behind (r_X5_numberEnd (pl + 1) pd ln) 44 pd ln) pd ln) _ dX5_orderEnd_83 rfl (by rw [r_X5_orderEnd, if_neg w_5_98, if_pos w_5_115, if_neg c_59]) rfl
      · skip
        refine g_aload_n E 1 dX5_orderEnd_62 rfl rfl ?_
        refine g_iload_n E 0 dX5_orderEnd_63 rfl rfl ?_
        refine g_callVi0 E gc_X5_signAt ml_X5_116 (t_X5_signAt d a v5_ s past kn sl sv pd ln (by subst_vars; have := ti_lt.mp c_59; have e1 : (0 : Int32).toInt = 0 := rfl; omega) hl) rfl rfl (ci := 5) 0 rfl rfl rfl rfl (ok_le rfl) ⟨ok_le rfl, ok_le rfl, ok_le rfl, ok_le rfl⟩ rfl rfl dX5_orderEnd_64 ?_
        refine g_nm (fun v6_ hv6_ => ?_)
        refine g_bipush E 42 dX5_orderEnd_67 (by decide) ?_
        refine g_icmpne E 82 dX5_orderEnd_69 (by decide) (fun c_69 => ?_) (fun c_69 => ?_)
        · skip
          refine g_iload_n E 0 dX5_orderEnd_82 rfl rfl ?_
          subst hv6_
          subst hv5_
          subst hv4_
          subst hv3_
          subst hv1_
          exact RET 83 _ (r_X5_numberEnd (r_X5_behind (r_X5_numberEnd (pl + 1) pd ln) 44 pd ln) pd ln) _ dX5_orderEnd_83 rfl (by rw [r_X5_orderEnd, if_neg w_5_98, if_pos w_5_115, if_pos c_59, if_neg c_69]) rfl
        · skip
          refine g_aload_n E 1 dX5_orderEnd_72 rfl rfl ?_
          refine g_iload_n E 0 dX5_orderEnd_73 rfl rfl ?_
          refine g_iconst E 1 dX5_orderEnd_74 (by decide) ?_
          refine g_iadd E dX5_orderEnd_75 ?_
          refine g_callVi0 E gc_X5_numberEnd ml_X5_122 (t_X5_numberEnd d a (v5_ + 1) s past kn sl sv pd ln (by subst_vars; have q := oE_in pl pd ln h0; rw [i_1 (by omega)]; omega) hl) rfl rfl (ci := 5) 0 rfl rfl rfl rfl (ok_le rfl) ⟨ok_le rfl, ok_le rfl, ok_le rfl, ok_le rfl⟩ rfl rfl dX5_orderEnd_76 ?_
          refine g_nm (fun v7_ hv7_ => ?_)
          refine g_goto E 83 dX5_orderEnd_79 (by decide) ?_
          subst hv7_
          subst hv6_
          subst hv5_
          subst hv4_
          subst hv3_
          subst hv1_
          exact RET 83 _ (r_X5_numberEnd ((r_X5_numberEnd (r_X5_behind (r_X5_numberEnd (pl + 1) pd ln) 44 pd ln) pd ln) + 1) pd ln) _ dX5_orderEnd_83 rfl (by rw [r_X5_orderEnd, if_neg w_5_98, if_pos w_5_115, if_pos c_59, if_pos c_69]) rfl
    · skip
      by_cases w_5_117 : v1_ = 117
      · skip
        refine g_lookup E (off := 79) 84 dX5_orderEnd_5 (by decide) (by rw [w_5_117] <;> rfl) (by decide) ?_
        refine g_aload_n E 0 dX5_orderEnd_84 rfl rfl ?_
        refine g_iload_n E 1 dX5_orderEnd_85 rfl rfl ?_
        refine g_iconst E 1 dX5_orderEnd_86 (by decide) ?_
        refine g_iadd E dX5_orderEnd_87 ?_
        refine g_callVi0 E gc_X5_digit ml_X5_119 (t_X5_digit d a (pl + 1) s past kn sl sv pd ln (by rw [i_1 (by omega)]; omega) hl) rfl rfl (ci := 5) 0 rfl rfl rfl rfl (ok_le rfl) ⟨ok_le rfl, ok_le rfl, ok_le rfl, ok_le rfl⟩ rfl rfl dX5_orderEnd_88 ?_
        refine g_nm (fun v8_ hv8_ => ?_)
        refine g_ifge E 101 dX5_orderEnd_91 (by decide) (fun c_91 => ?_) (fun c_91 => ?_)
        · skip
          refine g_iload_n E 1 dX5_orderEnd_101 rfl rfl ?_
          refine g_iconst E 2 dX5_orderEnd_102 (by decide) ?_
          refine g_iadd E dX5_orderEnd_103 ?_
          subst hv8_
          subst hv1_
          exact RET 104 _ (pl + 2) _ dX5_orderEnd_104 rfl (by rw [r_X5_orderEnd, if_neg w_5_98, if_neg w_5_115, if_pos w_5_117, if_neg c_91]) rfl
        · skip
          refine g_bipush E (-2) dX5_orderEnd_94 (by decide) ?_
          refine g_iload_n E 1 dX5_orderEnd_96 rfl rfl ?_
          refine g_isub E dX5_orderEnd_97 ?_
          refine g_goto E 104 dX5_orderEnd_98 (by decide) ?_
          subst hv8_
          subst hv1_
          exact RET 104 _ ((-2) - pl) _ dX5_orderEnd_104 rfl (by rw [r_X5_orderEnd, if_neg w_5_98, if_neg w_5_115, if_pos w_5_117, if_pos c_91]) rfl
      · skip
        refine g_lookup E (off := 100) 105 dX5_orderEnd_5 (by decide) (by show (if (98 : Int) = Int32.toInt v1_ then (79 : Int) else (if (115 : Int) = Int32.toInt v1_ then (35 : Int) else (if (117 : Int) = Int32.toInt v1_ then (79 : Int) else (100)))) = 100; rw [if_neg (Ne.symm (lv_neT (x := v1_) (k := 98) (a := 98) w_5_98 (by decide))), if_neg (Ne.symm (lv_neT (x := v1_) (k := 115) (a := 115) w_5_115 (by decide))), if_neg (Ne.symm (lv_neT (x := v1_) (k := 117) (a := 117) w_5_117 (by decide)))]) (by decide) ?_
        refine g_iconst E (-1) dX5_orderEnd_105 (by decide) ?_
        refine g_iload_n E 1 dX5_orderEnd_106 rfl rfl ?_
        refine g_isub E dX5_orderEnd_107 ?_
        subst hv1_
        exact RET 108 _ ((-1) - pl) _ dX5_orderEnd_108 rfl (by rw [r_X5_orderEnd, if_neg w_5_98, if_neg w_5_115, if_neg w_5_117]) rfl
set_option maxHeartbeats 1000000 in
set_option maxRecDepth 100000 in
theorem t_X5_orderEnd (d : gD) (a : Nat → Nat) (pl : Int32) (s : Nat → Int32) (past : Nat → Int32) (kn : Int32) (sl : Nat → Int32) (sv : Nat → Int32) (pd : Nat → Int32) (ln : Int32) (h0 : 0 ≤ pl.toInt ∧ pl.toInt ≤ 80) (hl : ln.toInt ≤ 80) : gMi d yX5_orderEnd cX5_orderEnd 3 (some .int) R_X5_orderEnd [.ref (a 0), .int pl] (MW d a s (past, kn, sl, sv, pd, ln)) (fun r_ u_ => r_ = r_X5_orderEnd pl pd ln ∧ u_ = MW d a s (past, kn, sl, sv, pd, ln)) :=
  g_met_i RX5 rfl (by decide +kernel) (Nat.le_of_ble_eq_true rfl) [(0, .ref (a 0)), (1, .int pl)] rfl (fun X E RET => s_X5_orderEnd_0 d a pl s past kn sl sv pd ln h0 hl E (fun pc_ lv_ v_ u_ h1_ h2_ h3_ h4_ => RET pc_ lv_ v_ u_ h1_ h2_ ⟨h3_, h4_⟩))
theorem oE_b (pl : Int32) (pd : Nat → Int32) (ln : Int32) (h0 : 0 ≤ pl.toInt ∧ pl.toInt ≤ 80) : (r_X5_orderEnd pl pd ln).toInt ≤ pl.toInt + 12 ∧ -1200 ≤ (r_X5_orderEnd pl pd ln).toInt := by
  have q := oE_in pl pd ln h0
  have e2 : (pl + 2).toInt = pl.toInt + 2 := i_2 (by omega)
  have e3 : ((-2) - pl).toInt = -2 - pl.toInt := i_m rfl (by omega)
  have e4 : ((-1) - pl).toInt = -1 - pl.toInt := i_m rfl (by omega)
  rw [r_X5_orderEnd]
  repeat' split
  all_goals first | omega | skip
  all_goals
    have e5 : (r_X5_numberEnd (r_X5_behind (r_X5_numberEnd (pl + 1) pd ln) 44 pd ln) pd ln + 1).toInt = _ := i_1 (by omega)
    have q5 := nE_r (pl := r_X5_numberEnd (r_X5_behind (r_X5_numberEnd (pl + 1) pd ln) 44 pd ln) pd ln + 1) pd ln (by omega)
    omega
theorem sg_lt {v : Int32} {pd : Nat → Int32} {ln s : Int32} (hs : ¬ (-1 : Int32) = s) (h : r_X5_signAt v pd ln = s) : v < ln := by
  rw [r_X5_signAt] at h
  split at h
  · assumption
  · exact absurd h hs
theorem sg_next {v : Int32} (pd : Nat → Int32) {ln : Int32} (h0 : ¬ v < 0) (h : r_X5_signAt v pd ln = 59) (hl : ln.toInt ≤ 80) : 0 ≤ (v + 1).toInt ∧ (v + 1).toInt ≤ 80 := by
  have h1 := ti_lt.mp (sg_lt (by decide) h)
  have h2 := i_nn' h0
  rw [i_1 (by omega)]
  omega
abbrev R_X5_fault : Room := { frames := 4, cells := 0, slots := 0, locals := 87 }
def r_X5_fault_at4 (pd : Nat → Int32) (ln : Int32) : Nat → (Int32) → (Nat) → Int32
  | 0, _, _ => 0
  | n + 1, pl, k => if (nI k) < 80 then (if (r_X5_orderEnd pl pd ln) < 0 then ((-1) - (r_X5_orderEnd pl pd ln)) else (if (r_X5_orderEnd pl pd ln) = ln then (-6) else (if (r_X5_signAt (r_X5_orderEnd pl pd ln) pd ln) = 59 then (r_X5_fault_at4 pd ln n ((r_X5_orderEnd pl pd ln) + 1) (k + 1)) else (r_X5_orderEnd pl pd ln)))) else (-6)
def r_X5_fault (pd : Nat → Int32) (ln : Int32) : Int32 := r_X5_fault_at4 pd ln 81 0 0
set_option maxHeartbeats 1000000 in
set_option maxRecDepth 100000 in
theorem s_X5_fault_4 (d : gD) (a : Nat → Nat) (s : Nat → Int32) (past : Nat → Int32) (kn : Int32) (sl : Nat → Int32) (sv : Nat → Int32) (pd : Nat → Int32) (ln : Int32) (hl : ln.toInt ≤ 80) {X : gX} (E : gE d X RX5 cX5_fault 4 R_X5_fault) : ∀ (n : Nat) (pl : Int32) (k : Nat) (hk : k ≤ 80) (h0 : 0 ≤ pl.toInt ∧ pl.toInt ≤ 80) (hm : 80 - k < n) (RET : ∀ (pc_ : Nat) (lv_ : List (Nat × Value)) (v_ : Int32) (u_ : va_W), decode cX5_fault pc_ = .ok (.ireturn, 1) → narrow .int (.int v_) = .int v_ → v_ = r_X5_fault_at4 pd ln n pl k → u_ = MW d a s (past, kn, sl, sv, pd, ln) → G d X u_ R_X5_fault.cells R_X5_fault.slots pc_ lv_ [.int v_]), G d X (MW d a s (past, kn, sl, sv, pd, ln)) 0 0 4 [(0, .ref (a 0)), (1, .int pl), (2, .int (nI k))] [] := by
  intro n
  induction n with
  | zero => intro pl k hk h0 hm; omega
  | succ n ih =>
    intro pl k hk h0 hm RET
    refine g_iload_n E 2 dX5_fault_4 rfl rfl ?_
    refine g_bipush E 80 dX5_fault_5 (by decide) ?_
    refine g_icmpge E 57 dX5_fault_7 (by decide) (fun c_7 => ?_) (fun c_7 => ?_)
    · skip
      refine g_bipush E (-6) dX5_fault_57 (by decide) ?_
      exact RET 59 _ (-6) _ dX5_fault_59 rfl (by rw [r_X5_fault_at4, if_neg c_7]) rfl
    · skip
      have k7 : k < 80 := (nI_ltI (a := k) (b := 80) (by omega) (by omega)).mp c_7
      refine g_aload_n E 0 dX5_fault_10 rfl rfl ?_
      refine g_iload_n E 1 dX5_fault_11 rfl rfl ?_
      refine g_callVi0 E gc_X5_orderEnd ml_X5_128 (t_X5_orderEnd d a pl s past kn sl sv pd ln h0 hl) rfl rfl (ci := 5) 0 rfl rfl rfl rfl (ok_le rfl) ⟨ok_le rfl, ok_le rfl, ok_le rfl, ok_le rfl⟩ rfl rfl dX5_fault_12 ?_
      refine g_nm (fun v1_ hv1_ => ?_)
      refine g_istore_n E (lv' := [(3, .int v1_), (0, .ref (a 0)), (1, .int pl), (2, .int (nI k))]) dX5_fault_15 rfl (by decide) rfl ?_
      refine g_iload_n E 0 dX5_fault_16 rfl rfl ?_
      refine g_ifge E 24 dX5_fault_17 (by decide) (fun c_17 => ?_) (fun c_17 => ?_)
      · skip
        refine g_iload_n E 0 dX5_fault_24 rfl rfl ?_
        refine g_aload_n E 1 dX5_fault_25 rfl rfl ?_
        refine g_get E (ci := 5) inlX5 0 rfl rfl 6 (by decide) fl_X5_108 rfl (.int ln) rfl dX5_fault_26 ?_
        refine g_icmpne E 35 dX5_fault_29 (by decide) (fun c_29 => ?_) (fun c_29 => ?_)
        · skip
          refine g_aload_n E 1 dX5_fault_35 rfl rfl ?_
          refine g_iload_n E 0 dX5_fault_36 rfl rfl ?_
          refine g_callVi0 E gc_X5_signAt ml_X5_116 (t_X5_signAt d a v1_ s past kn sl sv pd ln (i_nn' c_17) hl) rfl rfl (ci := 5) 0 rfl rfl rfl rfl (ok_le rfl) ⟨ok_le rfl, ok_le rfl, ok_le rfl, ok_le rfl⟩ rfl rfl dX5_fault_37 ?_
          refine g_nm (fun v2_ hv2_ => ?_)
          refine g_bipush E 59 dX5_fault_40 (by decide) ?_
          refine g_icmpeq E 47 dX5_fault_42 (by decide) (fun c_42 => ?_) (fun c_42 => ?_)
          · skip
            refine g_iload_n E 0 dX5_fault_47 rfl rfl ?_
            refine g_iconst E 1 dX5_fault_48 (by decide) ?_
            refine g_iadd E dX5_fault_49 ?_
            refine g_istore_n E (lv' := [(1, .int (v1_ + 1)), (3, .int v1_), (0, .ref (a 0)), (2, .int (nI k))]) dX5_fault_50 rfl (by decide) rfl ?_
            refine g_iinc E (j := 3) (v := (nI (k + 1))) (lv' := [(2, .int (nI (k + 1))), (1, .int (v1_ + 1)), (3, .int v1_), (0, .ref (a 0))]) dX5_fault_51 rfl (nI_1 _) (by decide) rfl ?_
            refine g_goto E 4 dX5_fault_54 (by decide) ?_
            refine g_lvs (lv' := [(0, .ref (a 0)), (1, .int (v1_ + 1)), (2, .int (nI (k + 1)))]) [3, 1, 0] rfl ?_
            subst hv2_
            subst hv1_
            exact ih ((r_X5_orderEnd pl pd ln) + 1) (k + 1) (by omega) (by subst_vars; exact sg_next pd c_17 c_42 hl) (by omega) (fun pc_ lv_ v_ u_ h1_ h2_ h3_ h4_ => RET pc_ lv_ v_ u_ h1_ h2_ (h3_.trans (by rw [r_X5_fault_at4, if_pos c_7, if_neg c_17, if_neg c_29, if_pos c_42])) h4_)
          · skip
            refine g_iload_n E 0 dX5_fault_45 rfl rfl ?_
            subst hv2_
            subst hv1_
            exact RET 46 _ (r_X5_orderEnd pl pd ln) _ dX5_fault_46 rfl (by rw [r_X5_fault_at4, if_pos c_7, if_neg c_17, if_neg c_29, if_neg c_42]) rfl
        · skip
          refine g_bipush E (-6) dX5_fault_32 (by decide) ?_
          subst hv1_
          exact RET 34 _ (-6) _ dX5_fault_34 rfl (by rw [r_X5_fault_at4, if_pos c_7, if_neg c_17, if_pos c_29]) rfl
      · skip
        refine g_iconst E (-1) dX5_fault_20 (by decide) ?_
        refine g_iload_n E 0 dX5_fault_21 rfl rfl ?_
        refine g_isub E dX5_fault_22 ?_
        subst hv1_
        exact RET 23 _ ((-1) - (r_X5_orderEnd pl pd ln)) _ dX5_fault_23 rfl (by rw [r_X5_fault_at4, if_pos c_7, if_pos c_17]) rfl
set_option maxHeartbeats 1000000 in
set_option maxRecDepth 100000 in
theorem s_X5_fault_0 (d : gD) (a : Nat → Nat) (s : Nat → Int32) (past : Nat → Int32) (kn : Int32) (sl : Nat → Int32) (sv : Nat → Int32) (pd : Nat → Int32) (ln : Int32) (hl : ln.toInt ≤ 80)  {X : gX} (E : gE d X RX5 cX5_fault 4 R_X5_fault) (RET : ∀ (pc_ : Nat) (lv_ : List (Nat × Value)) (v_ : Int32) (u_ : va_W), decode cX5_fault pc_ = .ok (.ireturn, 1) → narrow .int (.int v_) = .int v_ → v_ = r_X5_fault pd ln → u_ = MW d a s (past, kn, sl, sv, pd, ln) → G d X u_ R_X5_fault.cells R_X5_fault.slots pc_ lv_ [.int v_]) : G d X (MW d a s (past, kn, sl, sv, pd, ln)) 0 0 0 [(0, .ref (a 0))] [] := by
  refine g_iconst E 0 dX5_fault_0 (by decide) ?_
  refine g_istore_n E (lv' := [(1, .int 0), (0, .ref (a 0))]) dX5_fault_1 rfl (by decide) rfl ?_
  refine g_iconst E 0 dX5_fault_2 (by decide) ?_
  refine g_istore_n E (lv' := [(2, .int 0), (1, .int 0), (0, .ref (a 0))]) dX5_fault_3 rfl (by decide) rfl ?_
  refine g_lvs (lv' := [(0, .ref (a 0)), (1, .int 0), (2, .int 0)]) [2, 1, 0] rfl ?_
  exact s_X5_fault_4 d a s past kn sl sv pd ln hl E 81 0 0 (by omega) (by decide) (by omega) (fun pc_ lv_ v_ u_ h1_ h2_ h3_ h4_ => RET pc_ lv_ v_ u_ h1_ h2_ (h3_.trans (by rw [r_X5_fault])) h4_)
set_option maxHeartbeats 1000000 in
set_option maxRecDepth 100000 in
theorem t_X5_fault (d : gD) (a : Nat → Nat) (s : Nat → Int32) (past : Nat → Int32) (kn : Int32) (sl : Nat → Int32) (sv : Nat → Int32) (pd : Nat → Int32) (ln : Int32) (hl : ln.toInt ≤ 80) : gMi d yX5_fault cX5_fault 4 (some .int) R_X5_fault [.ref (a 0)] (MW d a s (past, kn, sl, sv, pd, ln)) (fun r_ u_ => r_ = r_X5_fault pd ln ∧ u_ = MW d a s (past, kn, sl, sv, pd, ln)) :=
  g_met_i RX5 rfl (by decide +kernel) (Nat.le_of_ble_eq_true rfl) [(0, .ref (a 0))] rfl (fun X E RET => s_X5_fault_0 d a s past kn sl sv pd ln hl E (fun pc_ lv_ v_ u_ h1_ h2_ h3_ h4_ => RET pc_ lv_ v_ u_ h1_ h2_ ⟨h3_, h4_⟩))
