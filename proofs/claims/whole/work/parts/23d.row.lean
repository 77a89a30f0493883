abbrev R_X5_samples : Room := { frames := 3, cells := 0, slots := 0, locals := 74 }
def j_X5_samples_55_s0 (x : Int32) (y : Int32) (r : Nat → Int32) : Int32 := if 0 < (r 21) then (if 1 < (r_X5_size (x - (r 10))) then 0 else (if 1 < (r_X5_size (y - (r 11))) then 0 else 1)) else 0
def j_X5_samples_85_s0 (x : Int32) (y : Int32) (r : Nat → Int32) : Int32 := if (j_X5_samples_55_s0 x y r) = 0 then 0 else ((r 12) + 1)
def j_X5_samples_144_s (x : Int32) (y : Int32) (r : Nat → Int32) : Nat → Int32 := if (r 9) < (r_X5_far x y (upd (upd (upd r 12 (j_X5_samples_85_s0 x y r)) 10 x) 11 y)) then (c_X5_tells_s x y (upd (upd (upd r 12 (j_X5_samples_85_s0 x y r)) 10 x) 11 y)) else (c_X5_rests_s x y (upd (upd (upd r 12 (j_X5_samples_85_s0 x y r)) 10 x) 11 y))
def j_X5_samples_171_s0 (x : Int32) (y : Int32) (r : Nat → Int32) : Int32 := if 0 < ((j_X5_samples_144_s x y r) 13) then 1 else 0
def c_X5_samples_s_at171 (x : Int32) (y : Int32) (r : Nat → Int32) : Nat → Int32 := (c_X5_counts_s (upd (upd (j_X5_samples_144_s x y r) 13 (((j_X5_samples_144_s x y r) 13) - (j_X5_samples_171_s0 x y r))) 21 (((j_X5_samples_144_s x y r) 21) + 1)))
def c_X5_samples_s_at144 (x : Int32) (y : Int32) (r : Nat → Int32) : Nat → Int32 := c_X5_samples_s_at171 x y r
def c_X5_samples_s_at85 (x : Int32) (y : Int32) (r : Nat → Int32) : Nat → Int32 := c_X5_samples_s_at144 x y r
def c_X5_samples_s_at55 (x : Int32) (y : Int32) (r : Nat → Int32) : Nat → Int32 := c_X5_samples_s_at85 x y r
def c_X5_samples_s (x : Int32) (y : Int32) (r : Nat → Int32) : Nat → Int32 := c_X5_samples_s_at55 x y r
theorem rests_hi (x y : Int32) (r : Nat → Int32) {k : Nat} (h : 21 ≤ k) : c_X5_rests_s x y r k = r k := by
  unfold c_X5_rests_s c_X5_rests_s_at21 c_X5_rests_s_at133 c_X5_rests_s_at168
  repeat' split
  all_goals simp (disch := omega) only [upd_lo, j21_k, learns_k, j168_k]
theorem tells_hi (x y : Int32) (r : Nat → Int32) {k : Nat} (h : 21 ≤ k) : c_X5_tells_s x y r k = r k := by
  unfold c_X5_tells_s c_X5_tells_s_at59 c_X5_tells_s_at93 c_X5_tells_s_at128 c_X5_tells_s_at188
  repeat' split
  all_goals simp (disch := omega) only [upd_lo]
theorem j144_hi (x y : Int32) (r : Nat → Int32) {k : Nat} (h : 21 ≤ k) : j_X5_samples_144_s x y r k = r k := by
  unfold j_X5_samples_144_s
  repeat' split
  all_goals first | rw [rests_hi _ _ _ h] | rw [tells_hi _ _ _ h]
  all_goals simp (disch := omega) only [upd_lo]
set_option maxHeartbeats 1000000 in
set_option maxRecDepth 100000 in
theorem s_X5_samples_171 (d : gD) (a : Nat → Nat) (p : Nat) (x : Int32) (y : Int32) (r : Nat → Int32) (f : Nat → Int32) (Z : MR) (nd : Nat) (hp : p ≤ 61) (hs : ¬ r 0 = 0) (hz : ¬ (r 3) - (r 9) = 0) (hc4 : ¬ r 4 < 0) (hd : dirOK r nd)  {X : gX} (E : gE d X RX5 cX5_samples 5 R_X5_samples) (RET : ∀ (pc_ : Nat) (lv_ : List (Nat × Value)) (u_ : va_W), decode cX5_samples pc_ = .ok (.return_, 1) → u_ = MW d a (pr p (c_X5_samples_s_at171 x y r) f) Z → G d X u_ R_X5_samples.cells R_X5_samples.slots pc_ lv_ []) : G d X (MW d a (pr p (j_X5_samples_144_s x y r) f) Z) 0 0 171 [(0, .ref (a 0)), (1, .int (nI p)), (2, .int x), (3, .int y), (4, .int (j_X5_samples_55_s0 x y r))] [.int (j_X5_samples_171_s0 x y r), .int ((j_X5_samples_144_s x y r) 13), .int (nI (p + 13)), .ref (a 1)] := by
  obtain ⟨J3_, hJ3_⟩ : ∃ z, j_X5_samples_55_s0 x y r = z := ⟨_, rfl⟩
  rw [hJ3_]
  obtain ⟨J8_, hJ8_⟩ : ∃ z, j_X5_samples_144_s x y r = z := ⟨_, rfl⟩
  rw [hJ8_]
  obtain ⟨J9_, hJ9_⟩ : ∃ z, j_X5_samples_171_s0 x y r = z := ⟨_, rfl⟩
  rw [hJ9_]
  refine g_isub E dX5_samples_171 ?_
  refine g_mput E (p := p) (r := J8_) (f := f) 1 rfl rfl 13 (congrArg nI (by omega)) (by omega) (by omega) (ws' := MW d a (pr p (upd J8_ 13 ((J8_ 13) - J9_)) f) Z) rfl dX5_samples_172 ?_
  refine g_aload_n E 0 dX5_samples_173 rfl rfl ?_
  refine g_get E (ci := 5) inlX5 0 rfl rfl 0 (by decide) fl_X5_7 rfl (.ref (a 1)) rfl dX5_samples_174 ?_
  refine g_iload_n E 1 dX5_samples_177 rfl rfl ?_
  refine g_bipush E 21 dX5_samples_178 (by decide) ?_
  refine g_iadd E dX5_samples_180 ?_
  refine g_top (nI_add p 21) ?_
  refine g_dup2 E dX5_samples_181 rfl rfl ?_
  refine g_mget E (p := p) (r := (upd J8_ 13 ((J8_ 13) - J9_))) (f := f) 1 rfl rfl 21 (congrArg nI (by omega)) (by omega) (by omega) dX5_samples_182 ?_
  refine g_top (b := J8_ 21) rfl ?_
  refine g_iconst E 1 dX5_samples_183 (by decide) ?_
  refine g_iadd E dX5_samples_184 ?_
  refine g_mput E (p := p) (r := (upd J8_ 13 ((J8_ 13) - J9_))) (f := f) 1 rfl rfl 21 (congrArg nI (by omega)) (by omega) (by omega) (ws' := MW d a (pr p (upd (upd J8_ 13 ((J8_ 13) - J9_)) 21 ((J8_ 21) + 1)) f) Z) rfl dX5_samples_185 ?_
  refine g_aload_n E 0 dX5_samples_186 rfl rfl ?_
  refine g_iload_n E 1 dX5_samples_187 rfl rfl ?_
  refine g_callVv0 E gc_X5_counts ml_X5_69 (t_X5_counts d a p (upd (upd J8_ 13 ((J8_ 13) - J9_)) 21 ((J8_ 21) + 1)) f Z nd hp (by subst_vars; exact hd.congr (fun k hk => by simp (disch := omega) only [upd_lo, j144_hi]))) rfl rfl (ci := 5) 0 rfl rfl rfl rfl (ok_le rfl) ⟨ok_le rfl, ok_le rfl, ok_le rfl, ok_le rfl⟩ rfl rfl dX5_samples_188 ?_
  obtain ⟨S10_, hS10_⟩ : ∃ z, c_X5_counts_s (upd (upd J8_ 13 ((J8_ 13) - J9_)) 21 ((J8_ 21) + 1)) = z := ⟨_, rfl⟩
  rw [hS10_]
  subst hS10_
  subst hJ9_
  subst hJ8_
  subst hJ3_
  exact RET 191 _ _ dX5_samples_191 (by rw [c_X5_samples_s_at171])
set_option maxHeartbeats 1000000 in
set_option maxRecDepth 100000 in
theorem s_X5_samples_144 (d : gD) (a : Nat → Nat) (p : Nat) (x : Int32) (y : Int32) (r : Nat → Int32) (f : Nat → Int32) (Z : MR) (nd : Nat) (hp : p ≤ 61) (hs : ¬ r 0 = 0) (hz : ¬ (r 3) - (r 9) = 0) (hc4 : ¬ r 4 < 0) (hd : dirOK r nd)  {X : gX} (E : gE d X RX5 cX5_samples 5 R_X5_samples) (RET : ∀ (pc_ : Nat) (lv_ : List (Nat × Value)) (u_ : va_W), decode cX5_samples pc_ = .ok (.return_, 1) → u_ = MW d a (pr p (c_X5_samples_s_at144 x y r) f) Z → G d X u_ R_X5_samples.cells R_X5_samples.slots pc_ lv_ []) : G d X (MW d a (pr p (j_X5_samples_144_s x y r) f) Z) 0 0 144 [(0, .ref (a 0)), (1, .int (nI p)), (2, .int x), (3, .int y), (4, .int (j_X5_samples_55_s0 x y r))] [] := by
  obtain ⟨J3_, hJ3_⟩ : ∃ z, j_X5_samples_55_s0 x y r = z := ⟨_, rfl⟩
  rw [hJ3_]
  obtain ⟨J8_, hJ8_⟩ : ∃ z, j_X5_samples_144_s x y r = z := ⟨_, rfl⟩
  rw [hJ8_]
  refine g_aload_n E 0 dX5_samples_144 rfl rfl ?_
  refine g_get E (ci := 5) inlX5 0 rfl rfl 0 (by decide) fl_X5_7 rfl (.ref (a 1)) rfl dX5_samples_145 ?_
  refine g_iload_n E 1 dX5_samples_148 rfl rfl ?_
  refine g_bipush E 13 dX5_samples_149 (by decide) ?_
  refine g_iadd E dX5_samples_151 ?_
  refine g_top (nI_add p 13) ?_
  refine g_dup2 E dX5_samples_152 rfl rfl ?_
  refine g_mget E (p := p) (r := J8_) (f := f) 1 rfl rfl 13 (congrArg nI (by omega)) (by omega) (by omega) dX5_samples_153 ?_
  refine g_top (b := J8_ 13) rfl ?_
  refine g_aload_n E 0 dX5_samples_154 rfl rfl ?_
  refine g_get E (ci := 5) inlX5 0 rfl rfl 0 (by decide) fl_X5_7 rfl (.ref (a 1)) rfl dX5_samples_155 ?_
  refine g_iload_n E 1 dX5_samples_158 rfl rfl ?_
  refine g_bipush E 13 dX5_samples_159 (by decide) ?_
  refine g_iadd E dX5_samples_161 ?_
  refine g_top (nI_add p 13) ?_
  refine g_mget E (p := p) (r := J8_) (f := f) 1 rfl rfl 13 (congrArg nI (by omega)) (by omega) (by omega) dX5_samples_162 ?_
  refine g_top (b := J8_ 13) rfl ?_
  refine g_ifle E 170 dX5_samples_163 (by decide) (fun c_163 => ?_) (fun c_163 => ?_)
  · skip
    refine g_iconst E 0 dX5_samples_170 (by decide) ?_
    subst hJ8_
    subst hJ3_
    have J := s_X5_samples_171 d a p x y r f Z nd hp hs hz hc4 hd  E (fun pc_ lv_ u_ h1_ h2_ => RET pc_ lv_ u_ h1_ (h2_.trans (by rw [c_X5_samples_s_at144])))
    rw [j_X5_samples_171_s0, if_neg c_163] at J
    exact J
  · skip
    refine g_iconst E 1 dX5_samples_166 (by decide) ?_
    refine g_goto E 171 dX5_samples_167 (by decide) ?_
    subst hJ8_
    subst hJ3_
    have J := s_X5_samples_171 d a p x y r f Z nd hp hs hz hc4 hd  E (fun pc_ lv_ u_ h1_ h2_ => RET pc_ lv_ u_ h1_ (h2_.trans (by rw [c_X5_samples_s_at144])))
    rw [j_X5_samples_171_s0, if_pos c_163] at J
    exact J
set_option maxHeartbeats 1000000 in
set_option maxRecDepth 100000 in
theorem s_X5_samples_85 (d : gD) (a : Nat → Nat) (p : Nat) (x : Int32) (y : Int32) (r : Nat → Int32) (f : Nat → Int32) (Z : MR) (nd : Nat) (hp : p ≤ 61) (hs : ¬ r 0 = 0) (hz : ¬ (r 3) - (r 9) = 0) (hc4 : ¬ r 4 < 0) (hd : dirOK r nd)  {X : gX} (E : gE d X RX5 cX5_samples 5 R_X5_samples) (RET : ∀ (pc_ : Nat) (lv_ : List (Nat × Value)) (u_ : va_W), decode cX5_samples pc_ = .ok (.return_, 1) → u_ = MW d a (pr p (c_X5_samples_s_at85 x y r) f) Z → G d X u_ R_X5_samples.cells R_X5_samples.slots pc_ lv_ []) : G d X (MW d a (pr p r f) Z) 0 0 85 [(0, .ref (a 0)), (1, .int (nI p)), (2, .int x), (3, .int y), (4, .int (j_X5_samples_55_s0 x y r))] [.int (j_X5_samples_85_s0 x y r), .int (nI (p + 12)), .ref (a 1)] := by
  obtain ⟨J3_, hJ3_⟩ : ∃ z, j_X5_samples_55_s0 x y r = z := ⟨_, rfl⟩
  rw [hJ3_]
  obtain ⟨J4_, hJ4_⟩ : ∃ z, j_X5_samples_85_s0 x y r = z := ⟨_, rfl⟩
  rw [hJ4_]
  refine g_mput E (p := p) (r := r) (f := f) 1 rfl rfl 12 (congrArg nI (by omega)) (by omega) (by omega) (ws' := MW d a (pr p (upd r 12 J4_) f) Z) rfl dX5_samples_85 ?_
  refine g_aload_n E 0 dX5_samples_86 rfl rfl ?_
  refine g_get E (ci := 5) inlX5 0 rfl rfl 0 (by decide) fl_X5_7 rfl (.ref (a 1)) rfl dX5_samples_87 ?_
  refine g_iload_n E 1 dX5_samples_90 rfl rfl ?_
  refine g_bipush E 10 dX5_samples_91 (by decide) ?_
  refine g_iadd E dX5_samples_93 ?_
  refine g_top (nI_add p 10) ?_
  refine g_iload_n E 2 dX5_samples_94 rfl rfl ?_
  refine g_mput E (p := p) (r := (upd r 12 J4_)) (f := f) 1 rfl rfl 10 (congrArg nI (by omega)) (by omega) (by omega) (ws' := MW d a (pr p (upd (upd r 12 J4_) 10 x) f) Z) rfl dX5_samples_95 ?_
  refine g_aload_n E 0 dX5_samples_96 rfl rfl ?_
  refine g_get E (ci := 5) inlX5 0 rfl rfl 0 (by decide) fl_X5_7 rfl (.ref (a 1)) rfl dX5_samples_97 ?_
  refine g_iload_n E 1 dX5_samples_100 rfl rfl ?_
  refine g_bipush E 10 dX5_samples_101 (by decide) ?_
  refine g_iadd E dX5_samples_103 ?_
  refine g_top (nI_add p 10) ?_
  refine g_iconst E 1 dX5_samples_104 (by decide) ?_
  refine g_iadd E dX5_samples_105 ?_
  refine g_top (nI_add (p + 10) 1) ?_
  refine g_iload_n E 3 dX5_samples_106 rfl rfl ?_
  refine g_mput E (p := p) (r := (upd (upd r 12 J4_) 10 x)) (f := f) 1 rfl rfl 11 (congrArg nI (by omega)) (by omega) (by omega) (ws' := MW d a (pr p (upd (upd (upd r 12 J4_) 10 x) 11 y) f) Z) rfl dX5_samples_107 ?_
  refine g_aload_n E 0 dX5_samples_108 rfl rfl ?_
  refine g_iload_n E 1 dX5_samples_109 rfl rfl ?_
  refine g_iload_n E 2 dX5_samples_110 rfl rfl ?_
  refine g_iload_n E 3 dX5_samples_111 rfl rfl ?_
  refine g_callVi0 E gc_X5_far ml_X5_50 (t_X5_far d a p x y (upd (upd (upd r 12 J4_) 10 x) 11 y) f Z hp) rfl rfl (ci := 5) 0 rfl rfl rfl rfl (ok_le rfl) ⟨ok_le rfl, ok_le rfl, ok_le rfl, ok_le rfl⟩ rfl rfl dX5_samples_112 ?_
  refine g_nm (fun v5_ hv5_ => ?_)
  refine g_aload_n E 0 dX5_samples_115 rfl rfl ?_
  refine g_get E (ci := 5) inlX5 0 rfl rfl 0 (by decide) fl_X5_7 rfl (.ref (a 1)) rfl dX5_samples_116 ?_
  refine g_iload_n E 1 dX5_samples_119 rfl rfl ?_
  refine g_bipush E 9 dX5_samples_120 (by decide) ?_
  refine g_iadd E dX5_samples_122 ?_
  refine g_top (nI_add p 9) ?_
  refine g_mget E (p := p) (r := (upd (upd (upd r 12 J4_) 10 x) 11 y)) (f := f) 1 rfl rfl 9 (congrArg nI (by omega)) (by omega) (by omega) dX5_samples_123 ?_
  refine g_top (b := r 9) rfl ?_
  refine g_icmpgt E 137 dX5_samples_124 (by decide) (fun c_124 => ?_) (fun c_124 => ?_)
  · skip
    refine g_aload_n E 0 dX5_samples_137 rfl rfl ?_
    refine g_iload_n E 1 dX5_samples_138 rfl rfl ?_
    refine g_iload_n E 2 dX5_samples_139 rfl rfl ?_
    refine g_iload_n E 3 dX5_samples_140 rfl rfl ?_
    refine g_callVv0 E gc_X5_tells ml_X5_66 (t_X5_tells d a p x y (upd (upd (upd r 12 J4_) 10 x) 11 y) f Z hp hz hc4) rfl rfl (ci := 5) 0 rfl rfl rfl rfl (ok_le rfl) ⟨ok_le rfl, ok_le rfl, ok_le rfl, ok_le rfl⟩ rfl rfl dX5_samples_141 ?_
    obtain ⟨S6_, hS6_⟩ : ∃ z, c_X5_tells_s x y (upd (upd (upd r 12 J4_) 10 x) 11 y) = z := ⟨_, rfl⟩
    rw [hS6_]
    subst hS6_
    subst hv5_
    subst hJ4_
    subst hJ3_
    have J := s_X5_samples_144 d a p x y r f Z nd hp hs hz hc4 hd  E (fun pc_ lv_ u_ h1_ h2_ => RET pc_ lv_ u_ h1_ (h2_.trans (by rw [c_X5_samples_s_at85])))
    rw [j_X5_samples_144_s, if_pos c_124] at J
    exact J
  · skip
    refine g_aload_n E 0 dX5_samples_127 rfl rfl ?_
    refine g_iload_n E 1 dX5_samples_128 rfl rfl ?_
    refine g_iload_n E 2 dX5_samples_129 rfl rfl ?_
    refine g_iload_n E 3 dX5_samples_130 rfl rfl ?_
    refine g_callVv0 E gc_X5_rests ml_X5_63 (t_X5_rests d a p x y (upd (upd (upd r 12 J4_) 10 x) 11 y) f Z hp hs) rfl rfl (ci := 5) 0 rfl rfl rfl rfl (ok_le rfl) ⟨ok_le rfl, ok_le rfl, ok_le rfl, ok_le rfl⟩ rfl rfl dX5_samples_131 ?_
    obtain ⟨S7_, hS7_⟩ : ∃ z, c_X5_rests_s x y (upd (upd (upd r 12 J4_) 10 x) 11 y) = z := ⟨_, rfl⟩
    rw [hS7_]
    refine g_goto E 144 dX5_samples_134 (by decide) ?_
    subst hS7_
    subst hv5_
    subst hJ4_
    subst hJ3_
    have J := s_X5_samples_144 d a p x y r f Z nd hp hs hz hc4 hd  E (fun pc_ lv_ u_ h1_ h2_ => RET pc_ lv_ u_ h1_ (h2_.trans (by rw [c_X5_samples_s_at85])))
    rw [j_X5_samples_144_s, if_neg c_124] at J
    exact J
set_option maxHeartbeats 1000000 in
set_option maxRecDepth 100000 in
theorem s_X5_samples_55 (d : gD) (a : Nat → Nat) (p : Nat) (x : Int32) (y : Int32) (r : Nat → Int32) (f : Nat → Int32) (Z : MR) (nd : Nat) (hp : p ≤ 61) (hs : ¬ r 0 = 0) (hz : ¬ (r 3) - (r 9) = 0) (hc4 : ¬ r 4 < 0) (hd : dirOK r nd)  {X : gX} (E : gE d X RX5 cX5_samples 5 R_X5_samples) (RET : ∀ (pc_ : Nat) (lv_ : List (Nat × Value)) (u_ : va_W), decode cX5_samples pc_ = .ok (.return_, 1) → u_ = MW d a (pr p (c_X5_samples_s_at55 x y r) f) Z → G d X u_ R_X5_samples.cells R_X5_samples.slots pc_ lv_ []) : G d X (MW d a (pr p r f) Z) 0 0 55 [(0, .ref (a 0)), (1, .int (nI p)), (2, .int x), (3, .int y)] [.int (j_X5_samples_55_s0 x y r)] := by
  obtain ⟨J3_, hJ3_⟩ : ∃ z, j_X5_samples_55_s0 x y r = z := ⟨_, rfl⟩
  rw [hJ3_]
  refine g_istore E (lv' := [(4, .int J3_), (0, .ref (a 0)), (1, .int (nI p)), (2, .int x), (3, .int y)]) dX5_samples_55 (by decide) rfl ?_
  refine g_aload_n E 1 dX5_samples_57 rfl rfl ?_
  refine g_get E (ci := 5) inlX5 0 rfl rfl 0 (by decide) fl_X5_7 rfl (.ref (a 1)) rfl dX5_samples_58 ?_
  refine g_iload_n E 2 dX5_samples_61 rfl rfl ?_
  refine g_bipush E 12 dX5_samples_62 (by decide) ?_
  refine g_iadd E dX5_samples_64 ?_
  refine g_top (nI_add p 12) ?_
  refine g_iload E 0 dX5_samples_65 rfl ?_
  refine g_ifeq E 84 dX5_samples_67 (by decide) (fun c_67 => ?_) (fun c_67 => ?_)
  · skip
    refine g_iconst E 0 dX5_samples_84 (by decide) ?_
    refine g_lvs (lv' := [(0, .ref (a 0)), (1, .int (nI p)), (2, .int x), (3, .int y), (4, .int J3_)]) [1, 2, 3, 4, 0] rfl ?_
    subst hJ3_
    have J := s_X5_samples_85 d a p x y r f Z nd hp hs hz hc4 hd  E (fun pc_ lv_ u_ h1_ h2_ => RET pc_ lv_ u_ h1_ (h2_.trans (by rw [c_X5_samples_s_at55])))
    rw [j_X5_samples_85_s0, if_pos c_67] at J
    exact J
  · skip
    refine g_aload_n E 1 dX5_samples_70 rfl rfl ?_
    refine g_get E (ci := 5) inlX5 0 rfl rfl 0 (by decide) fl_X5_7 rfl (.ref (a 1)) rfl dX5_samples_71 ?_
    refine g_iload_n E 2 dX5_samples_74 rfl rfl ?_
    refine g_bipush E 12 dX5_samples_75 (by decide) ?_
    refine g_iadd E dX5_samples_77 ?_
    refine g_top (nI_add p 12) ?_
    refine g_mget E (p := p) (r := r) (f := f) 1 rfl rfl 12 (congrArg nI (by omega)) (by omega) (by omega) dX5_samples_78 ?_
    refine g_top (b := r 12) rfl ?_
    refine g_iconst E 1 dX5_samples_79 (by decide) ?_
    refine g_iadd E dX5_samples_80 ?_
    refine g_goto E 85 dX5_samples_81 (by decide) ?_
    refine g_lvs (lv' := [(0, .ref (a 0)), (1, .int (nI p)), (2, .int x), (3, .int y), (4, .int J3_)]) [1, 2, 3, 4, 0] rfl ?_
    subst hJ3_
    have J := s_X5_samples_85 d a p x y r f Z nd hp hs hz hc4 hd  E (fun pc_ lv_ u_ h1_ h2_ => RET pc_ lv_ u_ h1_ (h2_.trans (by rw [c_X5_samples_s_at55])))
    rw [j_X5_samples_85_s0, if_neg c_67] at J
    exact J
set_option maxHeartbeats 1000000 in
set_option maxRecDepth 100000 in
theorem s_X5_samples_0 (d : gD) (a : Nat → Nat) (p : Nat) (x : Int32) (y : Int32) (r : Nat → Int32) (f : Nat → Int32) (Z : MR) (nd : Nat) (hp : p ≤ 61) (hs : ¬ r 0 = 0) (hz : ¬ (r 3) - (r 9) = 0) (hc4 : ¬ r 4 < 0) (hd : dirOK r nd)  {X : gX} (E : gE d X RX5 cX5_samples 5 R_X5_samples) (RET : ∀ (pc_ : Nat) (lv_ : List (Nat × Value)) (u_ : va_W), decode cX5_samples pc_ = .ok (.return_, 1) → u_ = MW d a (pr p (c_X5_samples_s x y r) f) Z → G d X u_ R_X5_samples.cells R_X5_samples.slots pc_ lv_ []) : G d X (MW d a (pr p r f) Z) 0 0 0 [(0, .ref (a 0)), (1, .int (nI p)), (2, .int x), (3, .int y)] [] := by
  refine g_aload_n E 0 dX5_samples_0 rfl rfl ?_
  refine g_get E (ci := 5) inlX5 0 rfl rfl 0 (by decide) fl_X5_7 rfl (.ref (a 1)) rfl dX5_samples_1 ?_
  refine g_iload_n E 1 dX5_samples_4 rfl rfl ?_
  refine g_bipush E 21 dX5_samples_5 (by decide) ?_
  refine g_iadd E dX5_samples_7 ?_
  refine g_top (nI_add p 21) ?_
  refine g_mget E (p := p) (r := r) (f := f) 1 rfl rfl 21 (congrArg nI (by omega)) (by omega) (by omega) dX5_samples_8 ?_
  refine g_top (b := r 21) rfl ?_
  refine g_ifle E 54 dX5_samples_9 (by decide) (fun c_9 => ?_) (fun c_9 => ?_)
  · skip
    refine g_iconst E 0 dX5_samples_54 (by decide) ?_
    have J := s_X5_samples_55 d a p x y r f Z nd hp hs hz hc4 hd  E (fun pc_ lv_ u_ h1_ h2_ => RET pc_ lv_ u_ h1_ (h2_.trans (by rw [c_X5_samples_s])))
    rw [j_X5_samples_55_s0, if_neg c_9] at J
    exact J
  · skip
    refine g_iload_n E 2 dX5_samples_12 rfl rfl ?_
    refine g_aload_n E 0 dX5_samples_13 rfl rfl ?_
    refine g_get E (ci := 5) inlX5 0 rfl rfl 0 (by decide) fl_X5_7 rfl (.ref (a 1)) rfl dX5_samples_14 ?_
    refine g_iload_n E 1 dX5_samples_17 rfl rfl ?_
    refine g_bipush E 10 dX5_samples_18 (by decide) ?_
    refine g_iadd E dX5_samples_20 ?_
    refine g_top (nI_add p 10) ?_
    refine g_mget E (p := p) (r := r) (f := f) 1 rfl rfl 10 (congrArg nI (by omega)) (by omega) (by omega) dX5_samples_21 ?_
    refine g_top (b := r 10) rfl ?_
    refine g_isub E dX5_samples_22 ?_
    refine g_callSp E gc_X5_size ml_X5_38 (t_X5_size d (x - (r 10)) ) rfl rfl rfl (ok_le rfl) ⟨ok_le rfl, ok_le rfl, ok_le rfl, ok_le rfl⟩ rfl rfl dX5_samples_23 ?_
    refine g_nm (fun v1_ hv1_ => ?_)
    refine g_iconst E 1 dX5_samples_26 (by decide) ?_
    refine g_icmpgt E 54 dX5_samples_27 (by decide) (fun c_27 => ?_) (fun c_27 => ?_)
    · skip
      refine g_iconst E 0 dX5_samples_54 (by decide) ?_
      subst hv1_
      have J := s_X5_samples_55 d a p x y r f Z nd hp hs hz hc4 hd  E (fun pc_ lv_ u_ h1_ h2_ => RET pc_ lv_ u_ h1_ (h2_.trans (by rw [c_X5_samples_s])))
      rw [j_X5_samples_55_s0, if_pos c_9, if_pos c_27] at J
      exact J
    · skip
      refine g_iload_n E 3 dX5_samples_30 rfl rfl ?_
      refine g_aload_n E 0 dX5_samples_31 rfl rfl ?_
      refine g_get E (ci := 5) inlX5 0 rfl rfl 0 (by decide) fl_X5_7 rfl (.ref (a 1)) rfl dX5_samples_32 ?_
      refine g_iload_n E 1 dX5_samples_35 rfl rfl ?_
      refine g_bipush E 10 dX5_samples_36 (by decide) ?_
      refine g_iadd E dX5_samples_38 ?_
      refine g_top (nI_add p 10) ?_
      refine g_iconst E 1 dX5_samples_39 (by decide) ?_
      refine g_iadd E dX5_samples_40 ?_
      refine g_top (nI_add (p + 10) 1) ?_
      refine g_mget E (p := p) (r := r) (f := f) 1 rfl rfl 11 (congrArg nI (by omega)) (by omega) (by omega) dX5_samples_41 ?_
      refine g_top (b := r 11) rfl ?_
      refine g_isub E dX5_samples_42 ?_
      refine g_callSp E gc_X5_size ml_X5_38 (t_X5_size d (y - (r 11)) ) rfl rfl rfl (ok_le rfl) ⟨ok_le rfl, ok_le rfl, ok_le rfl, ok_le rfl⟩ rfl rfl dX5_samples_43 ?_
      refine g_nm (fun v2_ hv2_ => ?_)
      refine g_iconst E 1 dX5_samples_46 (by decide) ?_
      refine g_icmpgt E 54 dX5_samples_47 (by decide) (fun c_47 => ?_) (fun c_47 => ?_)
      · skip
        refine g_iconst E 0 dX5_samples_54 (by decide) ?_
        subst hv2_
        subst hv1_
        have J := s_X5_samples_55 d a p x y r f Z nd hp hs hz hc4 hd  E (fun pc_ lv_ u_ h1_ h2_ => RET pc_ lv_ u_ h1_ (h2_.trans (by rw [c_X5_samples_s])))
        rw [j_X5_samples_55_s0, if_pos c_9, if_neg c_27, if_pos c_47] at J
        exact J
      · skip
        refine g_iconst E 1 dX5_samples_50 (by decide) ?_
        refine g_goto E 55 dX5_samples_51 (by decide) ?_
        subst hv2_
        subst hv1_
        have J := s_X5_samples_55 d a p x y r f Z nd hp hs hz hc4 hd  E (fun pc_ lv_ u_ h1_ h2_ => RET pc_ lv_ u_ h1_ (h2_.trans (by rw [c_X5_samples_s])))
        rw [j_X5_samples_55_s0, if_pos c_9, if_neg c_27, if_neg c_47] at J
        exact J
set_option maxHeartbeats 1000000 in
set_option maxRecDepth 100000 in
theorem t_X5_samples (d : gD) (a : Nat → Nat) (p : Nat) (x : Int32) (y : Int32) (r : Nat → Int32) (f : Nat → Int32) (Z : MR) (nd : Nat) (hp : p ≤ 61) (hs : ¬ r 0 = 0) (hz : ¬ (r 3) - (r 9) = 0) (hc4 : ¬ r 4 < 0) (hd : dirOK r nd) : gMv d yX5_samples cX5_samples 5 R_X5_samples [.ref (a 0), .int (nI p), .int x, .int y] (MW d a (pr p r f) Z) (fun u_ => u_ = MW d a (pr p (c_X5_samples_s x y r) f) Z) :=
  g_met_v RX5 rfl (by decide +kernel) (Nat.le_of_ble_eq_true rfl) [(0, .ref (a 0)), (1, .int (nI p)), (2, .int x), (3, .int y)] rfl (fun X E _ RET => s_X5_samples_0 d a p x y r f Z nd hp hs hz hc4 hd E (fun pc_ lv_ u_ h1_ h2_ => RET pc_ lv_ u_ h1_ h2_))
abbrev R_X5_told : Room := { frames := 0, cells := 0, slots := 0, locals := 0 }
def r_X5_told (r : Nat → Int32) : Int32 := (((1000 * ((r 14) + 100)) + (r 15)) + 100)
set_option maxHeartbeats 1000000 in
set_option maxRecDepth 100000 in
theorem s_X5_told_0 (d : gD) (a : Nat → Nat) (p : Nat) (r : Nat → Int32) (f : Nat → Int32) (Z : MR) (hp : p ≤ 61)  {X : gX} (E : gE d X RX5 cX5_told 2 R_X5_told) (RET : ∀ (pc_ : Nat) (lv_ : List (Nat × Value)) (v_ : Int32) (u_ : va_W), decode cX5_told pc_ = .ok (.ireturn, 1) → narrow .int (.int v_) = .int v_ → v_ = r_X5_told r → u_ = MW d a (pr p r f) Z → G d X u_ R_X5_told.cells R_X5_told.slots pc_ lv_ [.int v_]) : G d X (MW d a (pr p r f) Z) 0 0 0 [(0, .ref (a 0)), (1, .int (nI p))] [] := by
  refine g_sipush E 1000 dX5_told_0 (by decide) ?_
  refine g_aload_n E 0 dX5_told_3 rfl rfl ?_
  refine g_get E (ci := 5) inlX5 0 rfl rfl 0 (by decide) fl_X5_7 rfl (.ref (a 1)) rfl dX5_told_4 ?_
  refine g_iload_n E 1 dX5_told_7 rfl rfl ?_
  refine g_bipush E 14 dX5_told_8 (by decide) ?_
  refine g_iadd E dX5_told_10 ?_
  refine g_top (nI_add p 14) ?_
  refine g_mget E (p := p) (r := r) (f := f) 1 rfl rfl 14 (congrArg nI (by omega)) (by omega) (by omega) dX5_told_11 ?_
  refine g_top (b := r 14) rfl ?_
  refine g_bipush E 100 dX5_told_12 (by decide) ?_
  refine g_iadd E dX5_told_14 ?_
  refine g_imul E dX5_told_15 ?_
  refine g_aload_n E 0 dX5_told_16 rfl rfl ?_
  refine g_get E (ci := 5) inlX5 0 rfl rfl 0 (by decide) fl_X5_7 rfl (.ref (a 1)) rfl dX5_told_17 ?_
  refine g_iload_n E 1 dX5_told_20 rfl rfl ?_
  refine g_bipush E 14 dX5_told_21 (by decide) ?_
  refine g_iadd E dX5_told_23 ?_
  refine g_top (nI_add p 14) ?_
  refine g_iconst E 1 dX5_told_24 (by decide) ?_
  refine g_iadd E dX5_told_25 ?_
  refine g_top (nI_add (p + 14) 1) ?_
  refine g_mget E (p := p) (r := r) (f := f) 1 rfl rfl 15 (congrArg nI (by omega)) (by omega) (by omega) dX5_told_26 ?_
  refine g_top (b := r 15) rfl ?_
  refine g_iadd E dX5_told_27 ?_
  refine g_bipush E 100 dX5_told_28 (by decide) ?_
  refine g_iadd E dX5_told_30 ?_
  exact RET 31 _ (((1000 * ((r 14) + 100)) + (r 15)) + 100) _ dX5_told_31 rfl (by rw [r_X5_told]) rfl
set_option maxHeartbeats 1000000 in
set_option maxRecDepth 100000 in
theorem t_X5_told (d : gD) (a : Nat → Nat) (p : Nat) (r : Nat → Int32) (f : Nat → Int32) (Z : MR) (hp : p ≤ 61) : gMi d yX5_told cX5_told 2 (some .int) R_X5_told [.ref (a 0), .int (nI p)] (MW d a (pr p r f) Z) (fun r_ u_ => r_ = r_X5_told r ∧ u_ = MW d a (pr p r f) Z) :=
  g_met_i RX5 rfl (by decide +kernel) (Nat.le_of_ble_eq_true rfl) [(0, .ref (a 0)), (1, .int (nI p))] rfl (fun X E RET => s_X5_told_0 d a p r f Z hp E (fun pc_ lv_ v_ u_ h1_ h2_ h3_ h4_ => RET pc_ lv_ v_ u_ h1_ h2_ ⟨h3_, h4_⟩))

