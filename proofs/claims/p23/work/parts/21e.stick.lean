abbrev R_X3_comeToRest : Room := { frames := 2, cells := 0, slots := 0, locals := 42 }
def j_X3_comeToRest_17_g (x : Int32) (y : Int32) (S : SS) : Nat → Int32 := if (r_X3_tellsSomething S) = 0 then S.1 else (upd S.1 16 ((S.1 16) + 1))
def c_X3_comeToRest_at17 (x : Int32) (y : Int32) (S : SS) : SS := if 0 < ((j_X3_comeToRest_17_g x y S) 13) then (upd (j_X3_comeToRest_17_g x y S) 20 (((j_X3_comeToRest_17_g x y S) 20) + 1), S.2) else (upd (upd (c_X3_fitZone (r_X3_farthestOff x y ((j_X3_comeToRest_17_g x y S), S.2)) ((j_X3_comeToRest_17_g x y S), S.2)).1 7 (((c_X3_fitZone (r_X3_farthestOff x y ((j_X3_comeToRest_17_g x y S), S.2)) ((j_X3_comeToRest_17_g x y S), S.2)).1 7) + (r_X4_quotient ((16 * x) - ((c_X3_fitZone (r_X3_farthestOff x y ((j_X3_comeToRest_17_g x y S), S.2)) ((j_X3_comeToRest_17_g x y S), S.2)).1 7)) ((c_X3_fitZone (r_X3_farthestOff x y ((j_X3_comeToRest_17_g x y S), S.2)) ((j_X3_comeToRest_17_g x y S), S.2)).2.1 0)))) 8 (((c_X3_fitZone (r_X3_farthestOff x y ((j_X3_comeToRest_17_g x y S), S.2)) ((j_X3_comeToRest_17_g x y S), S.2)).1 8) + (r_X4_quotient ((16 * y) - ((c_X3_fitZone (r_X3_farthestOff x y ((j_X3_comeToRest_17_g x y S), S.2)) ((j_X3_comeToRest_17_g x y S), S.2)).1 8)) ((c_X3_fitZone (r_X3_farthestOff x y ((j_X3_comeToRest_17_g x y S), S.2)) ((j_X3_comeToRest_17_g x y S), S.2)).2.1 0))), (c_X3_fitZone (r_X3_farthestOff x y ((j_X3_comeToRest_17_g x y S), S.2)) ((j_X3_comeToRest_17_g x y S), S.2)).2)
def c_X3_comeToRest (x : Int32) (y : Int32) (S : SS) : SS := c_X3_comeToRest_at17 x y S
set_option maxHeartbeats 1000000 in
set_option maxRecDepth 100000 in
theorem s_X3_comeToRest_17 (d : gD) (a : Nat → Nat) (x : Int32) (y : Int32) (S : SS)   {X : gX} (E : gE d X RX3 cX3_comeToRest 3 R_X3_comeToRest) (RET : ∀ (pc_ : Nat) (lv_ : List (Nat × Value)) (u_ : va_W), decode cX3_comeToRest pc_ = .ok (.return_, 1) → u_ = SK d a (c_X3_comeToRest_at17 x y S) → G d X u_ R_X3_comeToRest.cells R_X3_comeToRest.slots pc_ lv_ []) : G d X (SK d a ((j_X3_comeToRest_17_g x y S), S.2)) 0 0 17 [(0, .ref (a 0)), (1, .int x), (2, .int y)] [] := by
  obtain ⟨J2_, hJ2_⟩ : ∃ z, j_X3_comeToRest_17_g x y S = z := ⟨_, rfl⟩
  rw [hJ2_]
  refine g_aload_n E 0 dX3_comeToRest_17 rfl rfl ?_
  refine g_get E (ci := 3) inlX3 4 rfl rfl 10 (by decide) fl_X3_65 rfl (.int (J2_ 13)) rfl dX3_comeToRest_18 ?_
  refine g_ifle E 35 dX3_comeToRest_21 (by decide) (fun c_21 => ?_) (fun c_21 => ?_)
  · skip
    refine g_aload_n E 0 dX3_comeToRest_35 rfl rfl ?_
    refine g_aload_n E 0 dX3_comeToRest_36 rfl rfl ?_
    refine g_iload_n E 1 dX3_comeToRest_37 rfl rfl ?_
    refine g_iload_n E 2 dX3_comeToRest_38 rfl rfl ?_
    refine g_callVi0 E gc_X3_farthestOff ml_X3_114 (t_X3_farthestOff d a x y (J2_, S.2) ) rfl rfl (ci := 3) 4 rfl rfl rfl rfl (ok_le rfl) ⟨ok_le rfl, ok_le rfl, ok_le rfl, ok_le rfl⟩ rfl rfl dX3_comeToRest_39 ?_
    refine g_nm (fun v3_ hv3_ => ?_)
    refine g_callVv0 E gc_X3_fitZone ml_X3_161 (t_X3_fitZone d a v3_ (J2_, S.2) ) rfl rfl (ci := 3) 4 rfl rfl rfl rfl (ok_le rfl) ⟨ok_le rfl, ok_le rfl, ok_le rfl, ok_le rfl⟩ rfl rfl dX3_comeToRest_42 ?_
    obtain ⟨S4_, hS4_⟩ : ∃ z, c_X3_fitZone v3_ (J2_, S.2) = z := ⟨_, rfl⟩
    rw [hS4_]
    refine g_aload_n E 0 dX3_comeToRest_45 rfl rfl ?_
    refine g_dup E dX3_comeToRest_46 rfl ?_
    refine g_get E (ci := 3) inlX3 4 rfl rfl 2 (by decide) fl_X3_30 rfl (.int (S4_.1 7)) rfl dX3_comeToRest_47 ?_
    refine g_bipush E 16 dX3_comeToRest_50 (by decide) ?_
    refine g_iload_n E 1 dX3_comeToRest_52 rfl rfl ?_
    refine g_imul E dX3_comeToRest_53 ?_
    refine g_aload_n E 0 dX3_comeToRest_54 rfl rfl ?_
    refine g_get E (ci := 3) inlX3 4 rfl rfl 2 (by decide) fl_X3_30 rfl (.int (S4_.1 7)) rfl dX3_comeToRest_55 ?_
    refine g_isub E dX3_comeToRest_58 ?_
    refine g_aload_n E 0 dX3_comeToRest_59 rfl rfl ?_
    refine g_get E (ci := 3) inlX3 4 rfl rfl 0 (by decide) fl_X3_18 rfl (.ref (a 1)) rfl dX3_comeToRest_60 ?_
    refine g_iconst E 0 dX3_comeToRest_63 (by decide) ?_
    refine g_iald E 5 rfl rfl 0 rfl (by decide) (by decide) dX3_comeToRest_64 ?_
    refine g_callSNp E gc_X4_quotient (List.mem_of_getElem? (i := 8) rfl) (t_X4_quotient d ((16 * x) - (S4_.1 7)) (S4_.2.1 0) ) rfl rfl rfl (ok_le rfl) ⟨ok_le rfl, ok_le rfl, ok_le rfl, ok_le rfl⟩ rfl rfl dX3_comeToRest_65 ?_
    refine g_nm (fun v5_ hv5_ => ?_)
    refine g_iadd E dX3_comeToRest_68 ?_
    refine g_put E (ci := 3) inlX3 4 rfl rfl 2 (by decide) tyX3 tyX3_ok nmX3 fl_X3_30 rfl rfl rfl rfl (ok_lt rfl) (ws' := SK d a (upd S4_.1 7 ((S4_.1 7) + v5_), S4_.2)) rfl dX3_comeToRest_69 ?_
    refine g_aload_n E 0 dX3_comeToRest_72 rfl rfl ?_
    refine g_dup E dX3_comeToRest_73 rfl ?_
    refine g_get E (ci := 3) inlX3 4 rfl rfl 3 (by decide) fl_X3_34 rfl (.int (S4_.1 8)) rfl dX3_comeToRest_74 ?_
    refine g_bipush E 16 dX3_comeToRest_77 (by decide) ?_
    refine g_iload_n E 2 dX3_comeToRest_79 rfl rfl ?_
    refine g_imul E dX3_comeToRest_80 ?_
    refine g_aload_n E 0 dX3_comeToRest_81 rfl rfl ?_
    refine g_get E (ci := 3) inlX3 4 rfl rfl 3 (by decide) fl_X3_34 rfl (.int (S4_.1 8)) rfl dX3_comeToRest_82 ?_
    refine g_isub E dX3_comeToRest_85 ?_
    refine g_aload_n E 0 dX3_comeToRest_86 rfl rfl ?_
    refine g_get E (ci := 3) inlX3 4 rfl rfl 0 (by decide) fl_X3_18 rfl (.ref (a 1)) rfl dX3_comeToRest_87 ?_
    refine g_iconst E 0 dX3_comeToRest_90 (by decide) ?_
    refine g_iald E 5 rfl rfl 0 rfl (by decide) (by decide) dX3_comeToRest_91 ?_
    refine g_callSNp E gc_X4_quotient (List.mem_of_getElem? (i := 8) rfl) (t_X4_quotient d ((16 * y) - (S4_.1 8)) (S4_.2.1 0) ) rfl rfl rfl (ok_le rfl) ⟨ok_le rfl, ok_le rfl, ok_le rfl, ok_le rfl⟩ rfl rfl dX3_comeToRest_92 ?_
    refine g_nm (fun v6_ hv6_ => ?_)
    refine g_iadd E dX3_comeToRest_95 ?_
    refine g_put E (ci := 3) inlX3 4 rfl rfl 3 (by decide) tyX3 tyX3_ok nmX3 fl_X3_34 rfl rfl rfl rfl (ok_lt rfl) (ws' := SK d a (upd (upd S4_.1 7 ((S4_.1 7) + v5_)) 8 ((S4_.1 8) + v6_), S4_.2)) rfl dX3_comeToRest_96 ?_
    subst hv6_
    subst hv5_
    subst hS4_
    subst hv3_
    subst hJ2_
    exact RET 99 _ _ dX3_comeToRest_99 (by rw [c_X3_comeToRest_at17, if_neg c_21])
  · skip
    refine g_aload_n E 0 dX3_comeToRest_24 rfl rfl ?_
    refine g_dup E dX3_comeToRest_25 rfl ?_
    refine g_get E (ci := 3) inlX3 4 rfl rfl 16 (by decide) fl_X3_83 rfl (.int (J2_ 20)) rfl dX3_comeToRest_26 ?_
    refine g_iconst E 1 dX3_comeToRest_29 (by decide) ?_
    refine g_iadd E dX3_comeToRest_30 ?_
    refine g_put E (ci := 3) inlX3 4 rfl rfl 16 (by decide) tyX3 tyX3_ok nmX3 fl_X3_83 rfl rfl rfl rfl (ok_lt rfl) (ws' := SK d a (upd J2_ 20 ((J2_ 20) + 1), S.2)) rfl dX3_comeToRest_31 ?_
    subst hJ2_
    exact RET 34 _ _ dX3_comeToRest_34 (by rw [c_X3_comeToRest_at17, if_pos c_21])
set_option maxHeartbeats 1000000 in
set_option maxRecDepth 100000 in
theorem s_X3_comeToRest_0 (d : gD) (a : Nat → Nat) (x : Int32) (y : Int32) (S : SS)   {X : gX} (E : gE d X RX3 cX3_comeToRest 3 R_X3_comeToRest) (RET : ∀ (pc_ : Nat) (lv_ : List (Nat × Value)) (u_ : va_W), decode cX3_comeToRest pc_ = .ok (.return_, 1) → u_ = SK d a (c_X3_comeToRest x y S) → G d X u_ R_X3_comeToRest.cells R_X3_comeToRest.slots pc_ lv_ []) : G d X (SK d a S) 0 0 0 [(0, .ref (a 0)), (1, .int x), (2, .int y)] [] := by
  refine g_aload_n E 0 dX3_comeToRest_0 rfl rfl ?_
  refine g_callVi0 E gc_X3_tellsSomething ml_X3_149 (t_X3_tellsSomething d a S ) rfl rfl (ci := 3) 4 rfl rfl rfl rfl (ok_le rfl) ⟨ok_le rfl, ok_le rfl, ok_le rfl, ok_le rfl⟩ rfl rfl dX3_comeToRest_1 ?_
  refine g_nm (fun v1_ hv1_ => ?_)
  refine g_ifeq E 17 dX3_comeToRest_4 (by decide) (fun c_4 => ?_) (fun c_4 => ?_)
  · skip
    subst hv1_
    have J := s_X3_comeToRest_17 d a x y S   E (fun pc_ lv_ u_ h1_ h2_ => RET pc_ lv_ u_ h1_ (h2_.trans (by rw [c_X3_comeToRest])))
    rw [j_X3_comeToRest_17_g, if_pos c_4] at J
    exact J
  · skip
    refine g_aload_n E 0 dX3_comeToRest_7 rfl rfl ?_
    refine g_dup E dX3_comeToRest_8 rfl ?_
    refine g_get E (ci := 3) inlX3 4 rfl rfl 12 (by decide) fl_X3_71 rfl (.int (S.1 16)) rfl dX3_comeToRest_9 ?_
    refine g_iconst E 1 dX3_comeToRest_12 (by decide) ?_
    refine g_iadd E dX3_comeToRest_13 ?_
    refine g_put E (ci := 3) inlX3 4 rfl rfl 12 (by decide) tyX3 tyX3_ok nmX3 fl_X3_71 rfl rfl rfl rfl (ok_lt rfl) (ws' := SK d a (upd S.1 16 ((S.1 16) + 1), S.2)) rfl dX3_comeToRest_14 ?_
    subst hv1_
    have J := s_X3_comeToRest_17 d a x y S   E (fun pc_ lv_ u_ h1_ h2_ => RET pc_ lv_ u_ h1_ (h2_.trans (by rw [c_X3_comeToRest])))
    rw [j_X3_comeToRest_17_g, if_neg c_4] at J
    exact J
set_option maxHeartbeats 1000000 in
set_option maxRecDepth 100000 in
theorem t_X3_comeToRest (d : gD) (a : Nat → Nat) (x : Int32) (y : Int32) (S : SS)  : gMv d yX3_comeToRest cX3_comeToRest 3 R_X3_comeToRest [.ref (a 0), .int x, .int y] (SK d a S) (fun u_ => u_ = SK d a (c_X3_comeToRest x y S)) :=
  g_met_v RX3 rfl (by decide +kernel) (Nat.le_of_ble_eq_true rfl) [(0, .ref (a 0)), (1, .int x), (2, .int y)] rfl (fun X E _ RET => s_X3_comeToRest_0 d a x y S  E (fun pc_ lv_ u_ h1_ h2_ => RET pc_ lv_ u_ h1_ h2_))
