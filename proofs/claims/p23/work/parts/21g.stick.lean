abbrev R_X3_take : Room := { frames := 4, cells := 0, slots := 0, locals := 91 }
def j_X3_take_25_s0 (x : Int32) (y : Int32) (S : SS) : Int32 := if (S.1 9) < (r_X3_farthestOff x y S) then 0 else 1
def j_X3_take_80_g (x : Int32) (y : Int32) (S : SS) : Nat → Int32 := if (j_X3_take_25_s0 x y S) = 0 then (if (r_X3_wouldDrift x y S) = 0 then (upd (upd (upd S.1 12 (r_X3_stillWith x y S)) 10 x) 11 y) else (c_X3_driftTo x y (upd (upd (upd S.1 12 (r_X3_stillWith x y S)) 10 x) 11 y, S.2)).1) else (c_X3_comeToRest x y (upd (upd (upd S.1 12 (r_X3_stillWith x y S)) 10 x) 11 y, S.2)).1
def j_X3_take_80_st (x : Int32) (y : Int32) (S : SS) : Nat → Int32 := if (j_X3_take_25_s0 x y S) = 0 then (if (r_X3_wouldDrift x y S) = 0 then S.2.1 else (c_X3_driftTo x y (upd (upd (upd S.1 12 (r_X3_stillWith x y S)) 10 x) 11 y, S.2)).2.1) else (c_X3_comeToRest x y (upd (upd (upd S.1 12 (r_X3_stillWith x y S)) 10 x) 11 y, S.2)).2.1
def j_X3_take_80_D (x : Int32) (y : Int32) (S : SS) : DD := if (j_X3_take_25_s0 x y S) = 0 then (if (r_X3_wouldDrift x y S) = 0 then S.2.2 else (c_X3_driftTo x y (upd (upd (upd S.1 12 (r_X3_stillWith x y S)) 10 x) 11 y, S.2)).2.2) else (c_X3_comeToRest x y (upd (upd (upd S.1 12 (r_X3_stillWith x y S)) 10 x) 11 y, S.2)).2.2
def j_X3_take_102_g (x : Int32) (y : Int32) (S : SS) : Nat → Int32 := if 0 < ((c_X3_tell (r_X3_tellingAt x y S) ((j_X3_take_80_g x y S), (j_X3_take_80_st x y S), (j_X3_take_80_D x y S))).1 13) then (upd (c_X3_tell (r_X3_tellingAt x y S) ((j_X3_take_80_g x y S), (j_X3_take_80_st x y S), (j_X3_take_80_D x y S))).1 13 (((c_X3_tell (r_X3_tellingAt x y S) ((j_X3_take_80_g x y S), (j_X3_take_80_st x y S), (j_X3_take_80_D x y S))).1 13) - 1)) else (c_X3_tell (r_X3_tellingAt x y S) ((j_X3_take_80_g x y S), (j_X3_take_80_st x y S), (j_X3_take_80_D x y S))).1
def c_X3_take_at102 (x : Int32) (y : Int32) (S : SS) : SS := (upd (j_X3_take_102_g x y S) 21 (((j_X3_take_102_g x y S) 21) + 1), (c_X3_tell (r_X3_tellingAt x y S) ((j_X3_take_80_g x y S), (j_X3_take_80_st x y S), (j_X3_take_80_D x y S))).2)
def c_X3_take_at80 (x : Int32) (y : Int32) (S : SS) : SS := c_X3_take_at102 x y S
def c_X3_take_at25 (x : Int32) (y : Int32) (S : SS) : SS := c_X3_take_at80 x y S
def c_X3_take (x : Int32) (y : Int32) (S : SS) : SS := c_X3_take_at25 x y S
theorem fitZone_2 (off : Int32) (S : SS) : (c_X3_fitZone off S).2 = S.2 := by
  unfold c_X3_fitZone
  split
  · rfl
  · split <;> rfl
theorem comeToRest_2 (x y : Int32) (S : SS) : (c_X3_comeToRest x y S).2 = S.2 := by
  unfold c_X3_comeToRest c_X3_comeToRest_at17
  split
  · rfl
  · exact fitZone_2 _ _
theorem j80D (x y : Int32) (S : SS) : j_X3_take_80_D x y S = S.2.2 := by
  unfold j_X3_take_80_D
  split
  · split <;> rfl
  · exact congrArg (fun q => q.2) (comeToRest_2 _ _ _)
set_option maxHeartbeats 1000000 in
set_option maxRecDepth 100000 in
theorem s_X3_take_102 (d : gD) (a : Nat → Nat) (x : Int32) (y : Int32) (S : SS) (hu : ¬ S.2.2.1 0 < 0)  {X : gX} (E : gE d X RX3 cX3_take 6 R_X3_take) (RET : ∀ (pc_ : Nat) (lv_ : List (Nat × Value)) (u_ : va_W), decode cX3_take pc_ = .ok (.return_, 1) → u_ = SK d a (c_X3_take_at102 x y S) → G d X u_ R_X3_take.cells R_X3_take.slots pc_ lv_ []) : G d X (SK d a ((j_X3_take_102_g x y S), (c_X3_tell (r_X3_tellingAt x y S) ((j_X3_take_80_g x y S), (j_X3_take_80_st x y S), (j_X3_take_80_D x y S))).2)) 0 0 102 [(0, .ref (a 0)), (1, .int x), (2, .int y), (3, .int (r_X3_tellingAt x y S)), (4, .int (j_X3_take_25_s0 x y S)), (5, .int (r_X3_wouldDrift x y S))] [] := by
  obtain ⟨v1_, hv1_⟩ : ∃ z, r_X3_tellingAt x y S = z := ⟨_, rfl⟩
  rw [hv1_]
  obtain ⟨J3_, hJ3_⟩ : ∃ z, j_X3_take_25_s0 x y S = z := ⟨_, rfl⟩
  rw [hJ3_]
  obtain ⟨v4_, hv4_⟩ : ∃ z, r_X3_wouldDrift x y S = z := ⟨_, rfl⟩
  rw [hv4_]
  obtain ⟨J8_, hJ8_⟩ : ∃ z, j_X3_take_80_g x y S = z := ⟨_, rfl⟩
  rw [hJ8_]
  obtain ⟨J9_, hJ9_⟩ : ∃ z, j_X3_take_80_st x y S = z := ⟨_, rfl⟩
  rw [hJ9_]
  obtain ⟨J10_, hJ10_⟩ : ∃ z, j_X3_take_80_D x y S = z := ⟨_, rfl⟩
  rw [hJ10_]
  obtain ⟨S11_, hS11_⟩ : ∃ z, c_X3_tell v1_ (J8_, J9_, J10_) = z := ⟨_, rfl⟩
  rw [hS11_]
  obtain ⟨J12_, hJ12_⟩ : ∃ z, j_X3_take_102_g x y S = z := ⟨_, rfl⟩
  rw [hJ12_]
  refine g_aload_n E 0 dX3_take_102 rfl rfl ?_
  refine g_dup E dX3_take_103 rfl ?_
  refine g_get E (ci := 3) inlX3 4 rfl rfl 11 (by decide) fl_X3_68 rfl (.int (J12_ 21)) rfl dX3_take_104 ?_
  refine g_iconst E 1 dX3_take_107 (by decide) ?_
  refine g_iadd E dX3_take_108 ?_
  refine g_put E (ci := 3) inlX3 4 rfl rfl 11 (by decide) tyX3 tyX3_ok nmX3 fl_X3_68 rfl rfl rfl rfl (ok_lt rfl) (ws' := SK d a (upd J12_ 21 ((J12_ 21) + 1), S11_.2)) rfl dX3_take_109 ?_
  subst hJ12_
  subst hS11_
  subst hJ10_
  subst hJ9_
  subst hJ8_
  subst hv4_
  subst hJ3_
  subst hv1_
  exact RET 112 _ _ dX3_take_112 (by rw [c_X3_take_at102])
set_option maxHeartbeats 1000000 in
set_option maxRecDepth 100000 in
theorem s_X3_take_80 (d : gD) (a : Nat → Nat) (x : Int32) (y : Int32) (S : SS) (hu : ¬ S.2.2.1 0 < 0)  {X : gX} (E : gE d X RX3 cX3_take 6 R_X3_take) (RET : ∀ (pc_ : Nat) (lv_ : List (Nat × Value)) (u_ : va_W), decode cX3_take pc_ = .ok (.return_, 1) → u_ = SK d a (c_X3_take_at80 x y S) → G d X u_ R_X3_take.cells R_X3_take.slots pc_ lv_ []) : G d X (SK d a ((j_X3_take_80_g x y S), (j_X3_take_80_st x y S), (j_X3_take_80_D x y S))) 0 0 80 [(0, .ref (a 0)), (1, .int x), (2, .int y), (3, .int (r_X3_tellingAt x y S)), (4, .int (j_X3_take_25_s0 x y S)), (5, .int (r_X3_wouldDrift x y S))] [] := by
  obtain ⟨v1_, hv1_⟩ : ∃ z, r_X3_tellingAt x y S = z := ⟨_, rfl⟩
  rw [hv1_]
  obtain ⟨J3_, hJ3_⟩ : ∃ z, j_X3_take_25_s0 x y S = z := ⟨_, rfl⟩
  rw [hJ3_]
  obtain ⟨v4_, hv4_⟩ : ∃ z, r_X3_wouldDrift x y S = z := ⟨_, rfl⟩
  rw [hv4_]
  obtain ⟨J8_, hJ8_⟩ : ∃ z, j_X3_take_80_g x y S = z := ⟨_, rfl⟩
  rw [hJ8_]
  obtain ⟨J9_, hJ9_⟩ : ∃ z, j_X3_take_80_st x y S = z := ⟨_, rfl⟩
  rw [hJ9_]
  obtain ⟨J10_, hJ10_⟩ : ∃ z, j_X3_take_80_D x y S = z := ⟨_, rfl⟩
  rw [hJ10_]
  refine g_aload_n E 0 dX3_take_80 rfl rfl ?_
  refine g_iload_n E 3 dX3_take_81 rfl rfl ?_
  refine g_callVv0 E gc_X3_tell ml_X3_145 (t_X3_tell d a v1_ (J8_, J9_, J10_) (by subst_vars; show ¬ (j_X3_take_80_D x y S).1 0 < 0; rw [j80D]; exact hu)) rfl rfl (ci := 3) 4 rfl rfl rfl rfl (ok_le rfl) ⟨ok_le rfl, ok_le rfl, ok_le rfl, ok_le rfl⟩ rfl rfl dX3_take_82 ?_
  obtain ⟨S11_, hS11_⟩ : ∃ z, c_X3_tell v1_ (J8_, J9_, J10_) = z := ⟨_, rfl⟩
  rw [hS11_]
  refine g_aload_n E 0 dX3_take_85 rfl rfl ?_
  refine g_get E (ci := 3) inlX3 4 rfl rfl 10 (by decide) fl_X3_65 rfl (.int (S11_.1 13)) rfl dX3_take_86 ?_
  refine g_ifle E 102 dX3_take_89 (by decide) (fun c_89 => ?_) (fun c_89 => ?_)
  · skip
    subst hS11_
    subst hJ10_
    subst hJ9_
    subst hJ8_
    subst hv4_
    subst hJ3_
    subst hv1_
    have J := s_X3_take_102 d a x y S hu  E (fun pc_ lv_ u_ h1_ h2_ => RET pc_ lv_ u_ h1_ (h2_.trans (by rw [c_X3_take_at80])))
    rw [j_X3_take_102_g, if_neg c_89] at J
    exact J
  · skip
    refine g_aload_n E 0 dX3_take_92 rfl rfl ?_
    refine g_dup E dX3_take_93 rfl ?_
    refine g_get E (ci := 3) inlX3 4 rfl rfl 10 (by decide) fl_X3_65 rfl (.int (S11_.1 13)) rfl dX3_take_94 ?_
    refine g_iconst E 1 dX3_take_97 (by decide) ?_
    refine g_isub E dX3_take_98 ?_
    refine g_put E (ci := 3) inlX3 4 rfl rfl 10 (by decide) tyX3 tyX3_ok nmX3 fl_X3_65 rfl rfl rfl rfl (ok_lt rfl) (ws' := SK d a (upd S11_.1 13 ((S11_.1 13) - 1), S11_.2)) rfl dX3_take_99 ?_
    subst hS11_
    subst hJ10_
    subst hJ9_
    subst hJ8_
    subst hv4_
    subst hJ3_
    subst hv1_
    have J := s_X3_take_102 d a x y S hu  E (fun pc_ lv_ u_ h1_ h2_ => RET pc_ lv_ u_ h1_ (h2_.trans (by rw [c_X3_take_at80])))
    rw [j_X3_take_102_g, if_pos c_89] at J
    exact J
set_option maxHeartbeats 1000000 in
set_option maxRecDepth 100000 in
theorem s_X3_take_25 (d : gD) (a : Nat → Nat) (x : Int32) (y : Int32) (S : SS) (hu : ¬ S.2.2.1 0 < 0)  {X : gX} (E : gE d X RX3 cX3_take 6 R_X3_take) (RET : ∀ (pc_ : Nat) (lv_ : List (Nat × Value)) (u_ : va_W), decode cX3_take pc_ = .ok (.return_, 1) → u_ = SK d a (c_X3_take_at25 x y S) → G d X u_ R_X3_take.cells R_X3_take.slots pc_ lv_ []) : G d X (SK d a S) 0 0 25 [(0, .ref (a 0)), (1, .int x), (2, .int y), (3, .int (r_X3_tellingAt x y S))] [.int (j_X3_take_25_s0 x y S)] := by
  obtain ⟨v1_, hv1_⟩ : ∃ z, r_X3_tellingAt x y S = z := ⟨_, rfl⟩
  rw [hv1_]
  obtain ⟨J3_, hJ3_⟩ : ∃ z, j_X3_take_25_s0 x y S = z := ⟨_, rfl⟩
  rw [hJ3_]
  refine g_istore E (lv' := [(4, .int J3_), (0, .ref (a 0)), (1, .int x), (2, .int y), (3, .int v1_)]) dX3_take_25 (by decide) rfl ?_
  refine g_aload_n E 1 dX3_take_27 rfl rfl ?_
  refine g_iload_n E 2 dX3_take_28 rfl rfl ?_
  refine g_iload_n E 3 dX3_take_29 rfl rfl ?_
  refine g_callVi0 E gc_X3_wouldDrift ml_X3_120 (t_X3_wouldDrift d a x y S ) rfl rfl (ci := 3) 4 rfl rfl rfl rfl (ok_le rfl) ⟨ok_le rfl, ok_le rfl, ok_le rfl, ok_le rfl⟩ rfl rfl dX3_take_30 ?_
  refine g_nm (fun v4_ hv4_ => ?_)
  refine g_istore E (lv' := [(5, .int v4_), (4, .int J3_), (0, .ref (a 0)), (1, .int x), (2, .int y), (3, .int v1_)]) dX3_take_33 (by decide) rfl ?_
  refine g_aload_n E 2 dX3_take_35 rfl rfl ?_
  refine g_aload_n E 2 dX3_take_36 rfl rfl ?_
  refine g_iload_n E 3 dX3_take_37 rfl rfl ?_
  refine g_iload_n E 4 dX3_take_38 rfl rfl ?_
  refine g_callVi0 E gc_X3_stillWith ml_X3_117 (t_X3_stillWith d a x y S ) rfl rfl (ci := 3) 4 rfl rfl rfl rfl (ok_le rfl) ⟨ok_le rfl, ok_le rfl, ok_le rfl, ok_le rfl⟩ rfl rfl dX3_take_39 ?_
  refine g_nm (fun v5_ hv5_ => ?_)
  refine g_put E (ci := 3) inlX3 4 rfl rfl 9 (by decide) tyX3 tyX3_ok nmX3 fl_X3_62 rfl rfl rfl rfl (ok_lt rfl) (ws' := SK d a (upd S.1 12 v5_, S.2)) rfl dX3_take_42 ?_
  refine g_aload_n E 2 dX3_take_45 rfl rfl ?_
  refine g_iload_n E 3 dX3_take_46 rfl rfl ?_
  refine g_put E (ci := 3) inlX3 4 rfl rfl 7 (by decide) tyX3 tyX3_ok nmX3 fl_X3_56 rfl rfl rfl rfl (ok_lt rfl) (ws' := SK d a (upd (upd S.1 12 v5_) 10 x, S.2)) rfl dX3_take_47 ?_
  refine g_aload_n E 2 dX3_take_50 rfl rfl ?_
  refine g_iload_n E 4 dX3_take_51 rfl rfl ?_
  refine g_put E (ci := 3) inlX3 4 rfl rfl 8 (by decide) tyX3 tyX3_ok nmX3 fl_X3_59 rfl rfl rfl rfl (ok_lt rfl) (ws' := SK d a (upd (upd (upd S.1 12 v5_) 10 x) 11 y, S.2)) rfl dX3_take_52 ?_
  refine g_iload E 1 dX3_take_55 rfl ?_
  refine g_ifeq E 69 dX3_take_57 (by decide) (fun c_57 => ?_) (fun c_57 => ?_)
  · skip
    refine g_iload E 0 dX3_take_69 rfl ?_
    refine g_ifeq E 80 dX3_take_71 (by decide) (fun c_71 => ?_) (fun c_71 => ?_)
    · skip
      refine g_lvs (lv' := [(0, .ref (a 0)), (1, .int x), (2, .int y), (3, .int v1_), (4, .int J3_), (5, .int v4_)]) [2, 3, 4, 5, 1, 0] rfl ?_
      subst hv5_
      subst hv4_
      subst hJ3_
      subst hv1_
      have J := s_X3_take_80 d a x y S hu  E (fun pc_ lv_ u_ h1_ h2_ => RET pc_ lv_ u_ h1_ (h2_.trans (by rw [c_X3_take_at25])))
      rw [j_X3_take_80_g, if_pos c_57, if_pos c_71, j_X3_take_80_st, if_pos c_57, if_pos c_71, j_X3_take_80_D, if_pos c_57, if_pos c_71] at J
      exact J
    · skip
      refine g_aload_n E 2 dX3_take_74 rfl rfl ?_
      refine g_iload_n E 3 dX3_take_75 rfl rfl ?_
      refine g_iload_n E 4 dX3_take_76 rfl rfl ?_
      refine g_callVv0 E gc_X3_driftTo ml_X3_142 (t_X3_driftTo d a x y (upd (upd (upd S.1 12 v5_) 10 x) 11 y, S.2) ) rfl rfl (ci := 3) 4 rfl rfl rfl rfl (ok_le rfl) ⟨ok_le rfl, ok_le rfl, ok_le rfl, ok_le rfl⟩ rfl rfl dX3_take_77 ?_
      obtain ⟨S6_, hS6_⟩ : ∃ z, c_X3_driftTo x y (upd (upd (upd S.1 12 v5_) 10 x) 11 y, S.2) = z := ⟨_, rfl⟩
      rw [hS6_]
      refine g_lvs (lv' := [(0, .ref (a 0)), (1, .int x), (2, .int y), (3, .int v1_), (4, .int J3_), (5, .int v4_)]) [2, 3, 4, 5, 1, 0] rfl ?_
      subst hS6_
      subst hv5_
      subst hv4_
      subst hJ3_
      subst hv1_
      have J := s_X3_take_80 d a x y S hu  E (fun pc_ lv_ u_ h1_ h2_ => RET pc_ lv_ u_ h1_ (h2_.trans (by rw [c_X3_take_at25])))
      rw [j_X3_take_80_g, if_pos c_57, if_neg c_71, j_X3_take_80_st, if_pos c_57, if_neg c_71, j_X3_take_80_D, if_pos c_57, if_neg c_71] at J
      exact J
  · skip
    refine g_aload_n E 2 dX3_take_60 rfl rfl ?_
    refine g_iload_n E 3 dX3_take_61 rfl rfl ?_
    refine g_iload_n E 4 dX3_take_62 rfl rfl ?_
    refine g_callVv0 E gc_X3_comeToRest ml_X3_138 (t_X3_comeToRest d a x y (upd (upd (upd S.1 12 v5_) 10 x) 11 y, S.2) ) rfl rfl (ci := 3) 4 rfl rfl rfl rfl (ok_le rfl) ⟨ok_le rfl, ok_le rfl, ok_le rfl, ok_le rfl⟩ rfl rfl dX3_take_63 ?_
    obtain ⟨S7_, hS7_⟩ : ∃ z, c_X3_comeToRest x y (upd (upd (upd S.1 12 v5_) 10 x) 11 y, S.2) = z := ⟨_, rfl⟩
    rw [hS7_]
    refine g_goto E 80 dX3_take_66 (by decide) ?_
    refine g_lvs (lv' := [(0, .ref (a 0)), (1, .int x), (2, .int y), (3, .int v1_), (4, .int J3_), (5, .int v4_)]) [2, 3, 4, 5, 1, 0] rfl ?_
    subst hS7_
    subst hv5_
    subst hv4_
    subst hJ3_
    subst hv1_
    have J := s_X3_take_80 d a x y S hu  E (fun pc_ lv_ u_ h1_ h2_ => RET pc_ lv_ u_ h1_ (h2_.trans (by rw [c_X3_take_at25])))
    rw [j_X3_take_80_g, if_neg c_57, j_X3_take_80_st, if_neg c_57, j_X3_take_80_D, if_neg c_57] at J
    exact J
set_option maxHeartbeats 1000000 in
set_option maxRecDepth 100000 in
theorem s_X3_take_0 (d : gD) (a : Nat → Nat) (x : Int32) (y : Int32) (S : SS) (hu : ¬ S.2.2.1 0 < 0)  {X : gX} (E : gE d X RX3 cX3_take 6 R_X3_take) (RET : ∀ (pc_ : Nat) (lv_ : List (Nat × Value)) (u_ : va_W), decode cX3_take pc_ = .ok (.return_, 1) → u_ = SK d a (c_X3_take x y S) → G d X u_ R_X3_take.cells R_X3_take.slots pc_ lv_ []) : G d X (SK d a S) 0 0 0 [(0, .ref (a 0)), (1, .int x), (2, .int y)] [] := by
  refine g_aload_n E 0 dX3_take_0 rfl rfl ?_
  refine g_iload_n E 1 dX3_take_1 rfl rfl ?_
  refine g_iload_n E 2 dX3_take_2 rfl rfl ?_
  refine g_callVi0 E gc_X3_tellingAt ml_X3_135 (t_X3_tellingAt d a x y S ) rfl rfl (ci := 3) 4 rfl rfl rfl rfl (ok_le rfl) ⟨ok_le rfl, ok_le rfl, ok_le rfl, ok_le rfl⟩ rfl rfl dX3_take_3 ?_
  refine g_nm (fun v1_ hv1_ => ?_)
  refine g_istore_n E (lv' := [(3, .int v1_), (0, .ref (a 0)), (1, .int x), (2, .int y)]) dX3_take_6 rfl (by decide) rfl ?_
  refine g_aload_n E 1 dX3_take_7 rfl rfl ?_
  refine g_iload_n E 2 dX3_take_8 rfl rfl ?_
  refine g_iload_n E 3 dX3_take_9 rfl rfl ?_
  refine g_callVi0 E gc_X3_farthestOff ml_X3_114 (t_X3_farthestOff d a x y S ) rfl rfl (ci := 3) 4 rfl rfl rfl rfl (ok_le rfl) ⟨ok_le rfl, ok_le rfl, ok_le rfl, ok_le rfl⟩ rfl rfl dX3_take_10 ?_
  refine g_nm (fun v2_ hv2_ => ?_)
  refine g_aload_n E 1 dX3_take_13 rfl rfl ?_
  refine g_get E (ci := 3) inlX3 4 rfl rfl 4 (by decide) fl_X3_37 rfl (.int (S.1 9)) rfl dX3_take_14 ?_
  refine g_icmpgt E 24 dX3_take_17 (by decide) (fun c_17 => ?_) (fun c_17 => ?_)
  · skip
    refine g_iconst E 0 dX3_take_24 (by decide) ?_
    refine g_lvs (lv' := [(0, .ref (a 0)), (1, .int x), (2, .int y), (3, .int v1_)]) [1, 2, 3, 0] rfl ?_
    subst hv2_
    subst hv1_
    have J := s_X3_take_25 d a x y S hu  E (fun pc_ lv_ u_ h1_ h2_ => RET pc_ lv_ u_ h1_ (h2_.trans (by rw [c_X3_take])))
    rw [j_X3_take_25_s0, if_pos c_17] at J
    exact J
  · skip
    refine g_iconst E 1 dX3_take_20 (by decide) ?_
    refine g_goto E 25 dX3_take_21 (by decide) ?_
    refine g_lvs (lv' := [(0, .ref (a 0)), (1, .int x), (2, .int y), (3, .int v1_)]) [1, 2, 3, 0] rfl ?_
    subst hv2_
    subst hv1_
    have J := s_X3_take_25 d a x y S hu  E (fun pc_ lv_ u_ h1_ h2_ => RET pc_ lv_ u_ h1_ (h2_.trans (by rw [c_X3_take])))
    rw [j_X3_take_25_s0, if_neg c_17] at J
    exact J
set_option maxHeartbeats 1000000 in
set_option maxRecDepth 100000 in
theorem t_X3_take (d : gD) (a : Nat → Nat) (x : Int32) (y : Int32) (S : SS) (hu : ¬ S.2.2.1 0 < 0) : gMv d yX3_take cX3_take 6 R_X3_take [.ref (a 0), .int x, .int y] (SK d a S) (fun u_ => u_ = SK d a (c_X3_take x y S)) :=
  g_met_v RX3 rfl (by decide +kernel) (Nat.le_of_ble_eq_true rfl) [(0, .ref (a 0)), (1, .int x), (2, .int y)] rfl (fun X E _ RET => s_X3_take_0 d a x y S hu E (fun pc_ lv_ u_ h1_ h2_ => RET pc_ lv_ u_ h1_ h2_))
