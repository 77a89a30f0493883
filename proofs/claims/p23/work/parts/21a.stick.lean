abbrev R_X0_note : Room := { frames := 1, cells := 0, slots := 0, locals := 15 }
def j_X0_note_59_g (x : Int32) (y : Int32) (D : DD) : Nat → Int32 := if (((3 * (x + 1)) + y) + 1) < 0 then D.1 else (if (((3 * (x + 1)) + y) + 1) < 9 then (if (D.2.2.1 ((((3 * (x + 1)) + y) + 1).toNatClampNeg)) = 0 then (if (D.1 0) < 9 then (upd D.1 0 ((D.1 0) + 1)) else D.1) else D.1) else D.1)
def j_X0_note_59_br (x : Int32) (y : Int32) (D : DD) : Nat → Int32 := if (((3 * (x + 1)) + y) + 1) < 0 then D.2.1 else (if (((3 * (x + 1)) + y) + 1) < 9 then (if (D.2.2.1 ((((3 * (x + 1)) + y) + 1).toNatClampNeg)) = 0 then (if (D.1 0) < 9 then (upd D.2.1 ((D.1 0).toNatClampNeg) (((3 * (x + 1)) + y) + 1)) else D.2.1) else D.2.1) else D.2.1)
def j_X0_note_78_s0 (x : Int32) (y : Int32) (D : DD) : Int32 := if (((3 * (x + 1)) + y) + 1) = ((j_X0_note_59_g x y D) 1) then (((j_X0_note_59_g x y D) 2) + 1) else 1
def c_X0_note_at78 (x : Int32) (y : Int32) (D : DD) : DD := (upd (upd (j_X0_note_59_g x y D) 2 (j_X0_note_78_s0 x y D)) 1 (((3 * (x + 1)) + y) + 1), (j_X0_note_59_br x y D), upd D.2.2.1 ((((3 * (x + 1)) + y) + 1).toNatClampNeg) ((D.2.2.1 ((((3 * (x + 1)) + y) + 1).toNatClampNeg)) + 1), upd D.2.2.2 ((((3 * (x + 1)) + y) + 1).toNatClampNeg) (imax (D.2.2.2 ((((3 * (x + 1)) + y) + 1).toNatClampNeg)) (j_X0_note_78_s0 x y D)))
def c_X0_note_at59 (x : Int32) (y : Int32) (D : DD) : DD := c_X0_note_at78 x y D
def c_X0_note (x : Int32) (y : Int32) (D : DD) : DD := if (((3 * (x + 1)) + y) + 1) < 0 then D else (if (((3 * (x + 1)) + y) + 1) < 9 then (c_X0_note_at59 x y D) else D)
set_option maxHeartbeats 1000000 in
set_option maxRecDepth 100000 in
theorem s_X0_note_78 (d : gD) (a : Nat → Nat) (x : Int32) (y : Int32) (D : DD) (hu : ¬ D.1 0 < 0) (c_11 : ¬ (((3 * (x + 1)) + y) + 1) < 0) (c_17 : (((3 * (x + 1)) + y) + 1) < 9) {X : gX} (E : gE d X RX0 cX0_note 4 R_X0_note) (RET : ∀ (pc_ : Nat) (lv_ : List (Nat × Value)) (u_ : va_W), decode cX0_note pc_ = .ok (.return_, 1) → u_ = DK d a (c_X0_note_at78 x y D) → G d X u_ R_X0_note.cells R_X0_note.slots pc_ lv_ []) : G d X (DK d a ((j_X0_note_59_g x y D), (j_X0_note_59_br x y D), D.2.2)) 0 0 78 [(0, .ref (a 2)), (1, .int x), (2, .int y), (3, .int (((3 * (x + 1)) + y) + 1))] [.int (j_X0_note_78_s0 x y D), .ref (a 2)] := by
  obtain ⟨J1_, hJ1_⟩ : ∃ z, j_X0_note_59_g x y D = z := ⟨_, rfl⟩
  rw [hJ1_]
  obtain ⟨J2_, hJ2_⟩ : ∃ z, j_X0_note_59_br x y D = z := ⟨_, rfl⟩
  rw [hJ2_]
  obtain ⟨J3_, hJ3_⟩ : ∃ z, j_X0_note_78_s0 x y D = z := ⟨_, rfl⟩
  rw [hJ3_]
  refine g_put E (ci := 0) inlX0 0 rfl rfl 5 (by decide) tyX0 tyX0_ok nmX0 fl_X0_34 rfl rfl rfl rfl (ok_lt rfl) (ws' := DK d a (upd J1_ 2 J3_, J2_, D.2.2)) rfl dX0_note_78 ?_
  refine g_aload_n E 0 dX0_note_81 rfl rfl ?_
  refine g_iload_n E 3 dX0_note_82 rfl rfl ?_
  refine g_put E (ci := 0) inlX0 0 rfl rfl 4 (by decide) tyX0 tyX0_ok nmX0 fl_X0_21 rfl rfl rfl rfl (ok_lt rfl) (ws' := DK d a (upd (upd J1_ 2 J3_) 1 (((3 * (x + 1)) + y) + 1), J2_, D.2.2)) rfl dX0_note_83 ?_
  refine g_aload_n E 0 dX0_note_86 rfl rfl ?_
  refine g_get E (ci := 0) inlX0 0 rfl rfl 1 (by decide) fl_X0_15 rfl (.ref (a 4)) rfl dX0_note_87 ?_
  refine g_iload_n E 3 dX0_note_90 rfl rfl ?_
  refine g_dup2 E dX0_note_91 rfl rfl ?_
  refine g_iald E 2 rfl rfl ((((3 * (x + 1)) + y) + 1).toNatClampNeg) (ix_eq c_11) (ix_lt (N := 9) c_11 c_17) (by decide) dX0_note_92 ?_
  refine g_iconst E 1 dX0_note_93 (by decide) ?_
  refine g_iadd E dX0_note_94 ?_
  refine g_iast E 2 rfl rfl ((((3 * (x + 1)) + y) + 1).toNatClampNeg) (ix_eq c_11) (ix_lt (N := 9) c_11 c_17) (by decide) (ws' := DK d a (upd (upd J1_ 2 J3_) 1 (((3 * (x + 1)) + y) + 1), J2_, upd D.2.2.1 ((((3 * (x + 1)) + y) + 1).toNatClampNeg) ((D.2.2.1 ((((3 * (x + 1)) + y) + 1).toNatClampNeg)) + 1), D.2.2.2)) rfl dX0_note_95 ?_
  refine g_aload_n E 0 dX0_note_96 rfl rfl ?_
  refine g_get E (ci := 0) inlX0 0 rfl rfl 2 (by decide) fl_X0_18 rfl (.ref (a 5)) rfl dX0_note_97 ?_
  refine g_iload_n E 3 dX0_note_100 rfl rfl ?_
  refine g_aload_n E 0 dX0_note_101 rfl rfl ?_
  refine g_get E (ci := 0) inlX0 0 rfl rfl 2 (by decide) fl_X0_18 rfl (.ref (a 5)) rfl dX0_note_102 ?_
  refine g_iload_n E 3 dX0_note_105 rfl rfl ?_
  refine g_iald E 3 rfl rfl ((((3 * (x + 1)) + y) + 1).toNatClampNeg) (ix_eq c_11) (ix_lt (N := 9) c_11 c_17) (by decide) dX0_note_106 ?_
  refine g_aload_n E 0 dX0_note_107 rfl rfl ?_
  refine g_get E (ci := 0) inlX0 0 rfl rfl 5 (by decide) fl_X0_34 rfl (.int J3_) rfl dX0_note_108 ?_
  refine g_max E ml_X0_37 (ok_le rfl) (ok_le rfl) (ok_le rfl) (ok_le rfl) dX0_note_111 ?_
  refine g_top (b := imax (D.2.2.2 ((((3 * (x + 1)) + y) + 1).toNatClampNeg)) J3_) rfl ?_
  refine g_iast E 3 rfl rfl ((((3 * (x + 1)) + y) + 1).toNatClampNeg) (ix_eq c_11) (ix_lt (N := 9) c_11 c_17) (by decide) (ws' := DK d a (upd (upd J1_ 2 J3_) 1 (((3 * (x + 1)) + y) + 1), J2_, upd D.2.2.1 ((((3 * (x + 1)) + y) + 1).toNatClampNeg) ((D.2.2.1 ((((3 * (x + 1)) + y) + 1).toNatClampNeg)) + 1), upd D.2.2.2 ((((3 * (x + 1)) + y) + 1).toNatClampNeg) (imax (D.2.2.2 ((((3 * (x + 1)) + y) + 1).toNatClampNeg)) J3_))) rfl dX0_note_114 ?_
  subst hJ3_
  subst hJ2_
  subst hJ1_
  exact RET 115 _ _ dX0_note_115 (by rw [c_X0_note_at78])
set_option maxHeartbeats 1000000 in
set_option maxRecDepth 100000 in
theorem s_X0_note_59 (d : gD) (a : Nat → Nat) (x : Int32) (y : Int32) (D : DD) (hu : ¬ D.1 0 < 0) (c_11 : ¬ (((3 * (x + 1)) + y) + 1) < 0) (c_17 : (((3 * (x + 1)) + y) + 1) < 9) {X : gX} (E : gE d X RX0 cX0_note 4 R_X0_note) (RET : ∀ (pc_ : Nat) (lv_ : List (Nat × Value)) (u_ : va_W), decode cX0_note pc_ = .ok (.return_, 1) → u_ = DK d a (c_X0_note_at59 x y D) → G d X u_ R_X0_note.cells R_X0_note.slots pc_ lv_ []) : G d X (DK d a ((j_X0_note_59_g x y D), (j_X0_note_59_br x y D), D.2.2)) 0 0 59 [(0, .ref (a 2)), (1, .int x), (2, .int y), (3, .int (((3 * (x + 1)) + y) + 1))] [] := by
  obtain ⟨J1_, hJ1_⟩ : ∃ z, j_X0_note_59_g x y D = z := ⟨_, rfl⟩
  rw [hJ1_]
  obtain ⟨J2_, hJ2_⟩ : ∃ z, j_X0_note_59_br x y D = z := ⟨_, rfl⟩
  rw [hJ2_]
  refine g_aload_n E 0 dX0_note_59 rfl rfl ?_
  refine g_iload_n E 3 dX0_note_60 rfl rfl ?_
  refine g_aload_n E 0 dX0_note_61 rfl rfl ?_
  refine g_get E (ci := 0) inlX0 0 rfl rfl 4 (by decide) fl_X0_21 rfl (.int (J1_ 1)) rfl dX0_note_62 ?_
  refine g_icmpne E 77 dX0_note_65 (by decide) (fun c_65 => ?_) (fun c_65 => ?_)
  · skip
    refine g_iconst E 1 dX0_note_77 (by decide) ?_
    subst hJ2_
    subst hJ1_
    have J := s_X0_note_78 d a x y D hu c_11 c_17 E (fun pc_ lv_ u_ h1_ h2_ => RET pc_ lv_ u_ h1_ (h2_.trans (by rw [c_X0_note_at59])))
    rw [j_X0_note_78_s0, if_neg c_65] at J
    exact J
  · skip
    refine g_aload_n E 0 dX0_note_68 rfl rfl ?_
    refine g_get E (ci := 0) inlX0 0 rfl rfl 5 (by decide) fl_X0_34 rfl (.int (J1_ 2)) rfl dX0_note_69 ?_
    refine g_iconst E 1 dX0_note_72 (by decide) ?_
    refine g_iadd E dX0_note_73 ?_
    refine g_goto E 78 dX0_note_74 (by decide) ?_
    subst hJ2_
    subst hJ1_
    have J := s_X0_note_78 d a x y D hu c_11 c_17 E (fun pc_ lv_ u_ h1_ h2_ => RET pc_ lv_ u_ h1_ (h2_.trans (by rw [c_X0_note_at59])))
    rw [j_X0_note_78_s0, if_pos c_65] at J
    exact J
set_option maxHeartbeats 1000000 in
set_option maxRecDepth 100000 in
theorem s_X0_note_0 (d : gD) (a : Nat → Nat) (x : Int32) (y : Int32) (D : DD) (hu : ¬ D.1 0 < 0)  {X : gX} (E : gE d X RX0 cX0_note 4 R_X0_note) (RET : ∀ (pc_ : Nat) (lv_ : List (Nat × Value)) (u_ : va_W), decode cX0_note pc_ = .ok (.return_, 1) → u_ = DK d a (c_X0_note x y D) → G d X u_ R_X0_note.cells R_X0_note.slots pc_ lv_ []) : G d X (DK d a D) 0 0 0 [(0, .ref (a 2)), (1, .int x), (2, .int y)] [] := by
  refine g_iconst E 3 dX0_note_0 (by decide) ?_
  refine g_iload_n E 1 dX0_note_1 rfl rfl ?_
  refine g_iconst E 1 dX0_note_2 (by decide) ?_
  refine g_iadd E dX0_note_3 ?_
  refine g_imul E dX0_note_4 ?_
  refine g_iload_n E 2 dX0_note_5 rfl rfl ?_
  refine g_iadd E dX0_note_6 ?_
  refine g_iconst E 1 dX0_note_7 (by decide) ?_
  refine g_iadd E dX0_note_8 ?_
  refine g_istore_n E (lv' := [(3, .int (((3 * (x + 1)) + y) + 1)), (0, .ref (a 2)), (1, .int x), (2, .int y)]) dX0_note_9 rfl (by decide) rfl ?_
  refine g_iload_n E 0 dX0_note_10 rfl rfl ?_
  refine g_iflt E 20 dX0_note_11 (by decide) (fun c_11 => ?_) (fun c_11 => ?_)
  · skip
    exact RET 20 _ _ dX0_note_20 (by rw [c_X0_note, if_pos c_11])
  · skip
    refine g_iload_n E 0 dX0_note_14 rfl rfl ?_
    refine g_bipush E 9 dX0_note_15 (by decide) ?_
    refine g_icmplt E 21 dX0_note_17 (by decide) (fun c_17 => ?_) (fun c_17 => ?_)
    · skip
      refine g_aload_n E 1 dX0_note_21 rfl rfl ?_
      refine g_get E (ci := 0) inlX0 0 rfl rfl 1 (by decide) fl_X0_15 rfl (.ref (a 4)) rfl dX0_note_22 ?_
      refine g_iload_n E 0 dX0_note_25 rfl rfl ?_
      refine g_iald E 2 rfl rfl ((((3 * (x + 1)) + y) + 1).toNatClampNeg) (ix_eq c_11) (ix_lt (N := 9) c_11 c_17) (by decide) dX0_note_26 ?_
      refine g_ifne E 59 dX0_note_27 (by decide) (fun c_27 => ?_) (fun c_27 => ?_)
      · skip
        refine g_lvs (lv' := [(0, .ref (a 2)), (1, .int x), (2, .int y), (3, .int (((3 * (x + 1)) + y) + 1))]) [1, 2, 3, 0] rfl ?_
        have J := s_X0_note_59 d a x y D hu c_11 c_17 E (fun pc_ lv_ u_ h1_ h2_ => RET pc_ lv_ u_ h1_ (h2_.trans (by rw [c_X0_note, if_neg c_11, if_pos c_17])))
        rw [j_X0_note_59_g, if_neg c_11, if_pos c_17, if_neg c_27, j_X0_note_59_br, if_neg c_11, if_pos c_17, if_neg c_27] at J
        exact J
      · skip
        refine g_aload_n E 1 dX0_note_30 rfl rfl ?_
        refine g_get E (ci := 0) inlX0 0 rfl rfl 3 (by decide) fl_X0_31 rfl (.int (D.1 0)) rfl dX0_note_31 ?_
        refine g_bipush E 9 dX0_note_34 (by decide) ?_
        refine g_icmpge E 59 dX0_note_36 (by decide) (fun c_36 => ?_) (fun c_36 => ?_)
        · skip
          refine g_lvs (lv' := [(0, .ref (a 2)), (1, .int x), (2, .int y), (3, .int (((3 * (x + 1)) + y) + 1))]) [1, 2, 3, 0] rfl ?_
          have J := s_X0_note_59 d a x y D hu c_11 c_17 E (fun pc_ lv_ u_ h1_ h2_ => RET pc_ lv_ u_ h1_ (h2_.trans (by rw [c_X0_note, if_neg c_11, if_pos c_17])))
          rw [j_X0_note_59_g, if_neg c_11, if_pos c_17, if_pos c_27, if_neg c_36, j_X0_note_59_br, if_neg c_11, if_pos c_17, if_pos c_27, if_neg c_36] at J
          exact J
        · skip
          refine g_aload_n E 1 dX0_note_39 rfl rfl ?_
          refine g_get E (ci := 0) inlX0 0 rfl rfl 0 (by decide) fl_X0_9 rfl (.ref (a 3)) rfl dX0_note_40 ?_
          refine g_aload_n E 1 dX0_note_43 rfl rfl ?_
          refine g_get E (ci := 0) inlX0 0 rfl rfl 3 (by decide) fl_X0_31 rfl (.int (D.1 0)) rfl dX0_note_44 ?_
          refine g_iload_n E 0 dX0_note_47 rfl rfl ?_
          refine g_iast E 1 rfl rfl ((D.1 0).toNatClampNeg) (ix_eq hu) (ix_lt (N := 9) hu c_36) (by decide) (ws' := DK d a (D.1, upd D.2.1 ((D.1 0).toNatClampNeg) (((3 * (x + 1)) + y) + 1), D.2.2)) rfl dX0_note_48 ?_
          refine g_aload_n E 1 dX0_note_49 rfl rfl ?_
          refine g_dup E dX0_note_50 rfl ?_
          refine g_get E (ci := 0) inlX0 0 rfl rfl 3 (by decide) fl_X0_31 rfl (.int (D.1 0)) rfl dX0_note_51 ?_
          refine g_iconst E 1 dX0_note_54 (by decide) ?_
          refine g_iadd E dX0_note_55 ?_
          refine g_put E (ci := 0) inlX0 0 rfl rfl 3 (by decide) tyX0 tyX0_ok nmX0 fl_X0_31 rfl rfl rfl rfl (ok_lt rfl) (ws' := DK d a (upd D.1 0 ((D.1 0) + 1), upd D.2.1 ((D.1 0).toNatClampNeg) (((3 * (x + 1)) + y) + 1), D.2.2)) rfl dX0_note_56 ?_
          refine g_lvs (lv' := [(0, .ref (a 2)), (1, .int x), (2, .int y), (3, .int (((3 * (x + 1)) + y) + 1))]) [1, 2, 3, 0] rfl ?_
          have J := s_X0_note_59 d a x y D hu c_11 c_17 E (fun pc_ lv_ u_ h1_ h2_ => RET pc_ lv_ u_ h1_ (h2_.trans (by rw [c_X0_note, if_neg c_11, if_pos c_17])))
          rw [j_X0_note_59_g, if_neg c_11, if_pos c_17, if_pos c_27, if_pos c_36, j_X0_note_59_br, if_neg c_11, if_pos c_17, if_pos c_27, if_pos c_36] at J
          exact J
    · skip
      exact RET 20 _ _ dX0_note_20 (by rw [c_X0_note, if_neg c_11, if_neg c_17])
set_option maxHeartbeats 1000000 in
set_option maxRecDepth 100000 in
theorem t_X0_note (d : gD) (a : Nat → Nat) (x : Int32) (y : Int32) (D : DD) (hu : ¬ D.1 0 < 0) : gMv d yX0_note cX0_note 4 R_X0_note [.ref (a 2), .int x, .int y] (DK d a D) (fun u_ => u_ = DK d a (c_X0_note x y D)) :=
  g_met_v RX0 rfl (by decide +kernel) (Nat.le_of_ble_eq_true rfl) [(0, .ref (a 2)), (1, .int x), (2, .int y)] rfl (fun X E _ RET => s_X0_note_0 d a x y D hu E (fun pc_ lv_ u_ h1_ h2_ => RET pc_ lv_ u_ h1_ h2_))
abbrev R_X0_about : Room := { frames := 0, cells := 0, slots := 0, locals := 0 }
def r_X0_about (rank : Int32) (what : Int32) (D : DD) : Int32 := if rank < 0 then (-1) else (if rank < (D.1 0) then (if rank < 9 then (if (D.2.1 ((rank).toNatClampNeg)) < 0 then (-1) else (if (D.2.1 ((rank).toNatClampNeg)) < 9 then (if what = 0 then ((D.2.1 ((rank).toNatClampNeg)) / 3) else (if what = 1 then ((D.2.1 ((rank).toNatClampNeg)) - (D.2.1 ((rank).toNatClampNeg)) / 3 * 3) else (if what = 2 then (D.2.2.1 ((D.2.1 ((rank).toNatClampNeg)).toNatClampNeg)) else (if what = 3 then (D.2.2.2 ((D.2.1 ((rank).toNatClampNeg)).toNatClampNeg)) else (-2))))) else (-1))) else (-1)) else (-1))
set_option maxHeartbeats 1000000 in
set_option maxRecDepth 100000 in
theorem s_X0_about_0 (d : gD) (a : Nat → Nat) (rank : Int32) (what : Int32) (D : DD)   {X : gX} (E : gE d X RX0 cX0_about 4 R_X0_about) (RET : ∀ (pc_ : Nat) (lv_ : List (Nat × Value)) (v_ : Int32) (u_ : va_W), decode cX0_about pc_ = .ok (.ireturn, 1) → narrow .int (.int v_) = .int v_ → v_ = r_X0_about rank what D → u_ = DK d a D → G d X u_ R_X0_about.cells R_X0_about.slots pc_ lv_ [.int v_]) : G d X (DK d a D) 0 0 0 [(0, .ref (a 2)), (1, .int rank), (2, .int what)] [] := by
  refine g_iload_n E 1 dX0_about_0 rfl rfl ?_
  refine g_iflt E 18 dX0_about_1 (by decide) (fun c_1 => ?_) (fun c_1 => ?_)
  · skip
    refine g_iconst E (-1) dX0_about_18 (by decide) ?_
    exact RET 19 _ (-1) _ dX0_about_19 rfl (by rw [r_X0_about, if_pos c_1]) rfl
  · skip
    refine g_iload_n E 1 dX0_about_4 rfl rfl ?_
    refine g_aload_n E 0 dX0_about_5 rfl rfl ?_
    refine g_get E (ci := 0) inlX0 0 rfl rfl 3 (by decide) fl_X0_31 rfl (.int (D.1 0)) rfl dX0_about_6 ?_
    refine g_icmpge E 18 dX0_about_9 (by decide) (fun c_9 => ?_) (fun c_9 => ?_)
    · skip
      refine g_iconst E (-1) dX0_about_18 (by decide) ?_
      exact RET 19 _ (-1) _ dX0_about_19 rfl (by rw [r_X0_about, if_neg c_1, if_neg c_9]) rfl
    · skip
      refine g_iload_n E 1 dX0_about_12 rfl rfl ?_
      refine g_bipush E 9 dX0_about_13 (by decide) ?_
      refine g_icmplt E 20 dX0_about_15 (by decide) (fun c_15 => ?_) (fun c_15 => ?_)
      · skip
        refine g_aload_n E 0 dX0_about_20 rfl rfl ?_
        refine g_get E (ci := 0) inlX0 0 rfl rfl 0 (by decide) fl_X0_9 rfl (.ref (a 3)) rfl dX0_about_21 ?_
        refine g_iload_n E 1 dX0_about_24 rfl rfl ?_
        refine g_iald E 1 rfl rfl ((rank).toNatClampNeg) (ix_eq c_1) (ix_lt (N := 9) c_1 c_15) (by decide) dX0_about_25 ?_
        refine g_istore_n E (lv' := [(3, .int (D.2.1 ((rank).toNatClampNeg))), (0, .ref (a 2)), (1, .int rank), (2, .int what)]) dX0_about_26 rfl (by decide) rfl ?_
        refine g_iload_n E 0 dX0_about_27 rfl rfl ?_
        refine g_iflt E 37 dX0_about_28 (by decide) (fun c_28 => ?_) (fun c_28 => ?_)
        · skip
          refine g_iconst E (-1) dX0_about_37 (by decide) ?_
          exact RET 38 _ (-1) _ dX0_about_38 rfl (by rw [r_X0_about, if_neg c_1, if_pos c_9, if_pos c_15, if_pos c_28]) rfl
        · skip
          refine g_iload_n E 0 dX0_about_31 rfl rfl ?_
          refine g_bipush E 9 dX0_about_32 (by decide) ?_
          refine g_icmplt E 39 dX0_about_34 (by decide) (fun c_34 => ?_) (fun c_34 => ?_)
          · skip
            refine g_iload_n E 3 dX0_about_39 rfl rfl ?_
            by_cases w_40_0 : what = 0
            · skip
              refine g_tableIn E 72 dX0_about_40 (by rw [w_40_0]; decide) (by rw [w_40_0]; decide) (by rw [w_40_0]; rfl) (by decide) ?_
              refine g_iload_n E 0 dX0_about_72 rfl rfl ?_
              refine g_iconst E 3 dX0_about_73 (by decide) ?_
              refine g_idiv E dX0_about_74 (by decide) ?_
              exact RET 75 _ ((D.2.1 ((rank).toNatClampNeg)) / 3) _ dX0_about_75 rfl (by rw [r_X0_about, if_neg c_1, if_pos c_9, if_pos c_15, if_neg c_28, if_pos c_34, if_pos w_40_0]) rfl
            · skip
              by_cases w_40_1 : what = 1
              · skip
                refine g_tableIn E 76 dX0_about_40 (by rw [w_40_1]; decide) (by rw [w_40_1]; decide) (by rw [w_40_1]; rfl) (by decide) ?_
                refine g_iload_n E 0 dX0_about_76 rfl rfl ?_
                refine g_iconst E 3 dX0_about_77 (by decide) ?_
                refine g_irem E dX0_about_78 (by decide) ?_
                exact RET 79 _ ((D.2.1 ((rank).toNatClampNeg)) - (D.2.1 ((rank).toNatClampNeg)) / 3 * 3) _ dX0_about_79 rfl (by rw [r_X0_about, if_neg c_1, if_pos c_9, if_pos c_15, if_neg c_28, if_pos c_34, if_neg w_40_0, if_pos w_40_1]) rfl
              · skip
                by_cases w_40_2 : what = 2
                · skip
                  refine g_tableIn E 80 dX0_about_40 (by rw [w_40_2]; decide) (by rw [w_40_2]; decide) (by rw [w_40_2]; rfl) (by decide) ?_
                  refine g_aload_n E 1 dX0_about_80 rfl rfl ?_
                  refine g_get E (ci := 0) inlX0 0 rfl rfl 1 (by decide) fl_X0_15 rfl (.ref (a 4)) rfl dX0_about_81 ?_
                  refine g_iload_n E 0 dX0_about_84 rfl rfl ?_
                  refine g_iald E 2 rfl rfl ((D.2.1 ((rank).toNatClampNeg)).toNatClampNeg) (ix_eq c_28) (ix_lt (N := 9) c_28 c_34) (by decide) dX0_about_85 ?_
                  exact RET 86 _ (D.2.2.1 ((D.2.1 ((rank).toNatClampNeg)).toNatClampNeg)) _ dX0_about_86 rfl (by rw [r_X0_about, if_neg c_1, if_pos c_9, if_pos c_15, if_neg c_28, if_pos c_34, if_neg w_40_0, if_neg w_40_1, if_pos w_40_2]) rfl
                · skip
                  by_cases w_40_3 : what = 3
                  · skip
                    refine g_tableIn E 87 dX0_about_40 (by rw [w_40_3]; decide) (by rw [w_40_3]; decide) (by rw [w_40_3]; rfl) (by decide) ?_
                    refine g_aload_n E 1 dX0_about_87 rfl rfl ?_
                    refine g_get E (ci := 0) inlX0 0 rfl rfl 2 (by decide) fl_X0_18 rfl (.ref (a 5)) rfl dX0_about_88 ?_
                    refine g_iload_n E 0 dX0_about_91 rfl rfl ?_
                    refine g_iald E 3 rfl rfl ((D.2.1 ((rank).toNatClampNeg)).toNatClampNeg) (ix_eq c_28) (ix_lt (N := 9) c_28 c_34) (by decide) dX0_about_92 ?_
                    exact RET 93 _ (D.2.2.2 ((D.2.1 ((rank).toNatClampNeg)).toNatClampNeg)) _ dX0_about_93 rfl (by rw [r_X0_about, if_neg c_1, if_pos c_9, if_pos c_15, if_neg c_28, if_pos c_34, if_neg w_40_0, if_neg w_40_1, if_neg w_40_2, if_pos w_40_3]) rfl
                  · skip
                    refine g_tableOut E 94 dX0_about_40 (by have z0 := lv_neT (x := what) (k := 0) (a := 0) w_40_0 (by decide); have z1 := lv_neT (x := what) (k := 1) (a := 1) w_40_1 (by decide); have z2 := lv_neT (x := what) (k := 2) (a := 2) w_40_2 (by decide); have z3 := lv_neT (x := what) (k := 3) (a := 3) w_40_3 (by decide); omega) (by decide) ?_
                    refine g_bipush E (-2) dX0_about_94 (by decide) ?_
                    exact RET 96 _ (-2) _ dX0_about_96 rfl (by rw [r_X0_about, if_neg c_1, if_pos c_9, if_pos c_15, if_neg c_28, if_pos c_34, if_neg w_40_0, if_neg w_40_1, if_neg w_40_2, if_neg w_40_3]) rfl
          · skip
            refine g_iconst E (-1) dX0_about_37 (by decide) ?_
            exact RET 38 _ (-1) _ dX0_about_38 rfl (by rw [r_X0_about, if_neg c_1, if_pos c_9, if_pos c_15, if_neg c_28, if_neg c_34]) rfl
      · skip
        refine g_iconst E (-1) dX0_about_18 (by decide) ?_
        exact RET 19 _ (-1) _ dX0_about_19 rfl (by rw [r_X0_about, if_neg c_1, if_pos c_9, if_neg c_15]) rfl
set_option maxHeartbeats 1000000 in
set_option maxRecDepth 100000 in
theorem t_X0_about (d : gD) (a : Nat → Nat) (rank : Int32) (what : Int32) (D : DD)  : gMi d yX0_about cX0_about 4 (some .int) R_X0_about [.ref (a 2), .int rank, .int what] (DK d a D) (fun r_ u_ => r_ = r_X0_about rank what D ∧ u_ = DK d a D) :=
  g_met_i RX0 rfl (by decide +kernel) (Nat.le_of_ble_eq_true rfl) [(0, .ref (a 2)), (1, .int rank), (2, .int what)] rfl (fun X E RET => s_X0_about_0 d a rank what D  E (fun pc_ lv_ v_ u_ h1_ h2_ h3_ h4_ => RET pc_ lv_ v_ u_ h1_ h2_ ⟨h3_, h4_⟩))
abbrev R_X0_becomeLike : Room := { frames := 1, cells := 0, slots := 0, locals := 19 }
def c_X0_becomeLike_0 (D : DD) (F : DD) : DD := (upd (upd (upd D.1 0 (F.1 0)) 1 (F.1 1)) 2 (F.1 2), F.2.1, F.2.2.1, F.2.2.2)
set_option maxHeartbeats 1000000 in
set_option maxRecDepth 100000 in
theorem s_X0_becomeLike_0 (d : gD) (a : Nat → Nat) (b : Nat → Nat) (D : DD) (F : DD)   {X : gX} (E : gE d X RX0 cX0_becomeLike 2 R_X0_becomeLike) (RET : ∀ (pc_ : Nat) (lv_ : List (Nat × Value)) (u_ : va_W), decode cX0_becomeLike pc_ = .ok (.return_, 1) → u_ = DK d a (c_X0_becomeLike_0 D F) ++ (DK d b F) → G d X u_ R_X0_becomeLike.cells R_X0_becomeLike.slots pc_ lv_ []) : G d X (DK d a D ++ (DK d b F)) 0 0 0 [(0, .ref (a 2)), (1, .ref (b 2))] [] := by
  refine g_aload_n E 1 dX0_becomeLike_0 rfl rfl ?_
  refine g_get E (ci := 0) inlX0 4 rfl rfl 0 (by decide) fl_X0_9 rfl (.ref (b 3)) rfl dX0_becomeLike_1 ?_
  refine g_iconst E 0 dX0_becomeLike_4 (by decide) ?_
  refine g_aload_n E 0 dX0_becomeLike_5 rfl rfl ?_
  refine g_get E (ci := 0) inlX0 0 rfl rfl 0 (by decide) fl_X0_9 rfl (.ref (a 3)) rfl dX0_becomeLike_6 ?_
  refine g_iconst E 0 dX0_becomeLike_9 (by decide) ?_
  refine g_bipush E 9 dX0_becomeLike_10 (by decide) ?_
  refine g_copyAll E 5 1 rfl rfl rfl rfl rfl (by decide) ml_X0_25 (ok_le rfl) (ok_le rfl) (ws' := DK d a (D.1, F.2.1, D.2.2) ++ (DK d b F)) rfl dX0_becomeLike_12 ?_
  refine g_aload_n E 1 dX0_becomeLike_15 rfl rfl ?_
  refine g_get E (ci := 0) inlX0 4 rfl rfl 1 (by decide) fl_X0_15 rfl (.ref (b 4)) rfl dX0_becomeLike_16 ?_
  refine g_iconst E 0 dX0_becomeLike_19 (by decide) ?_
  refine g_aload_n E 0 dX0_becomeLike_20 rfl rfl ?_
  refine g_get E (ci := 0) inlX0 0 rfl rfl 1 (by decide) fl_X0_15 rfl (.ref (a 4)) rfl dX0_becomeLike_21 ?_
  refine g_iconst E 0 dX0_becomeLike_24 (by decide) ?_
  refine g_bipush E 9 dX0_becomeLike_25 (by decide) ?_
  refine g_copyAll E 6 2 rfl rfl rfl rfl rfl (by decide) ml_X0_25 (ok_le rfl) (ok_le rfl) (ws' := DK d a (D.1, F.2.1, F.2.2.1, D.2.2.2) ++ (DK d b F)) rfl dX0_becomeLike_27 ?_
  refine g_aload_n E 1 dX0_becomeLike_30 rfl rfl ?_
  refine g_get E (ci := 0) inlX0 4 rfl rfl 2 (by decide) fl_X0_18 rfl (.ref (b 5)) rfl dX0_becomeLike_31 ?_
  refine g_iconst E 0 dX0_becomeLike_34 (by decide) ?_
  refine g_aload_n E 0 dX0_becomeLike_35 rfl rfl ?_
  refine g_get E (ci := 0) inlX0 0 rfl rfl 2 (by decide) fl_X0_18 rfl (.ref (a 5)) rfl dX0_becomeLike_36 ?_
  refine g_iconst E 0 dX0_becomeLike_39 (by decide) ?_
  refine g_bipush E 9 dX0_becomeLike_40 (by decide) ?_
  refine g_copyAll E 7 3 rfl rfl rfl rfl rfl (by decide) ml_X0_25 (ok_le rfl) (ok_le rfl) (ws' := DK d a (D.1, F.2.1, F.2.2.1, F.2.2.2) ++ (DK d b F)) rfl dX0_becomeLike_42 ?_
  refine g_aload_n E 0 dX0_becomeLike_45 rfl rfl ?_
  refine g_aload_n E 1 dX0_becomeLike_46 rfl rfl ?_
  refine g_get E (ci := 0) inlX0 4 rfl rfl 3 (by decide) fl_X0_31 rfl (.int (F.1 0)) rfl dX0_becomeLike_47 ?_
  refine g_put E (ci := 0) inlX0 0 rfl rfl 3 (by decide) tyX0 tyX0_ok nmX0 fl_X0_31 rfl rfl rfl rfl (ok_lt rfl) (ws' := DK d a (upd D.1 0 (F.1 0), F.2.1, F.2.2.1, F.2.2.2) ++ (DK d b F)) rfl dX0_becomeLike_50 ?_
  refine g_aload_n E 0 dX0_becomeLike_53 rfl rfl ?_
  refine g_aload_n E 1 dX0_becomeLike_54 rfl rfl ?_
  refine g_get E (ci := 0) inlX0 4 rfl rfl 4 (by decide) fl_X0_21 rfl (.int (F.1 1)) rfl dX0_becomeLike_55 ?_
  refine g_put E (ci := 0) inlX0 0 rfl rfl 4 (by decide) tyX0 tyX0_ok nmX0 fl_X0_21 rfl rfl rfl rfl (ok_lt rfl) (ws' := DK d a (upd (upd D.1 0 (F.1 0)) 1 (F.1 1), F.2.1, F.2.2.1, F.2.2.2) ++ (DK d b F)) rfl dX0_becomeLike_58 ?_
  refine g_aload_n E 0 dX0_becomeLike_61 rfl rfl ?_
  refine g_aload_n E 1 dX0_becomeLike_62 rfl rfl ?_
  refine g_get E (ci := 0) inlX0 4 rfl rfl 5 (by decide) fl_X0_34 rfl (.int (F.1 2)) rfl dX0_becomeLike_63 ?_
  refine g_put E (ci := 0) inlX0 0 rfl rfl 5 (by decide) tyX0 tyX0_ok nmX0 fl_X0_34 rfl rfl rfl rfl (ok_lt rfl) (ws' := DK d a (upd (upd (upd D.1 0 (F.1 0)) 1 (F.1 1)) 2 (F.1 2), F.2.1, F.2.2.1, F.2.2.2) ++ (DK d b F)) rfl dX0_becomeLike_66 ?_
  exact RET 69 _ _ dX0_becomeLike_69 (by rw [c_X0_becomeLike_0])
set_option maxHeartbeats 1000000 in
set_option maxRecDepth 100000 in
theorem t_X0_becomeLike (d : gD) (a : Nat → Nat) (b : Nat → Nat) (D : DD) (F : DD)  : gMv d yX0_becomeLike cX0_becomeLike 2 R_X0_becomeLike [.ref (a 2), .ref (b 2)] (DK d a D ++ (DK d b F)) (fun u_ => u_ = DK d a (c_X0_becomeLike_0 D F) ++ (DK d b F)) :=
  g_met_v RX0 rfl (by decide +kernel) (Nat.le_of_ble_eq_true rfl) [(0, .ref (a 2)), (1, .ref (b 2))] rfl (fun X E _ RET => s_X0_becomeLike_0 d a b D F  E (fun pc_ lv_ u_ h1_ h2_ => RET pc_ lv_ u_ h1_ h2_))
theorem t2_X0_becomeLike (d : gD) (a : Nat → Nat) (b : Nat → Nat) (D : DD) (F : DD) : gMv d yX0_becomeLike cX0_becomeLike 2 R_X0_becomeLike [.ref (a 2), .ref (b 2)] (DK d a D ++ (DK d b F)) (fun u_ => u_ = DK d a F ++ (DK d b F)) := t_X0_becomeLike d a b D F
