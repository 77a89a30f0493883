abbrev R_X3_becomeLike : Room := { frames := 2, cells := 0, slots := 0, locals := 40 }
def c_X3_becomeLike_0 (S : SS) (T : SS) : SS := (upd (upd (upd (upd (upd (upd (upd (upd (upd (upd (upd (upd (upd (upd (upd S.1 7 (T.1 7)) 8 (T.1 8)) 9 (T.1 9)) 14 (T.1 14)) 15 (T.1 15)) 10 (T.1 10)) 11 (T.1 11)) 12 (T.1 12)) 13 (T.1 13)) 21 (T.1 21)) 16 (T.1 16)) 17 (T.1 17)) 18 (T.1 18)) 19 (T.1 19)) 20 (T.1 20), T.2.1, T.2.2)
set_option maxHeartbeats 1000000 in
set_option maxRecDepth 100000 in
theorem s_X3_becomeLike_0 (d : gD) (a : Nat → Nat) (b : Nat → Nat) (S : SS) (T : SS)   {X : gX} (E : gE d X RX3 cX3_becomeLike 2 R_X3_becomeLike) (RET : ∀ (pc_ : Nat) (lv_ : List (Nat × Value)) (u_ : va_W), decode cX3_becomeLike pc_ = .ok (.return_, 1) → u_ = SK d a (c_X3_becomeLike_0 S T) ++ (SK d b T) → G d X u_ R_X3_becomeLike.cells R_X3_becomeLike.slots pc_ lv_ []) : G d X (SK d a S ++ (SK d b T)) 0 0 0 [(0, .ref (a 0)), (1, .ref (b 0))] [] := by
  refine g_aload_n E 1 dX3_becomeLike_0 rfl rfl ?_
  refine g_get E (ci := 3) inlX3 10 rfl rfl 0 (by decide) fl_X3_18 rfl (.ref (b 1)) rfl dX3_becomeLike_1 ?_
  refine g_iconst E 0 dX3_becomeLike_4 (by decide) ?_
  refine g_aload_n E 0 dX3_becomeLike_5 rfl rfl ?_
  refine g_get E (ci := 3) inlX3 4 rfl rfl 0 (by decide) fl_X3_18 rfl (.ref (a 1)) rfl dX3_becomeLike_6 ?_
  refine g_iconst E 0 dX3_becomeLike_9 (by decide) ?_
  refine g_bipush E 7 dX3_becomeLike_10 (by decide) ?_
  refine g_copyAll E 11 5 rfl rfl rfl rfl rfl (by decide) ml_X3_40 (ok_le rfl) (ok_le rfl) (ws' := SK d a (S.1, T.2.1, S.2.2) ++ (SK d b T)) rfl dX3_becomeLike_12 ?_
  refine g_aload_n E 0 dX3_becomeLike_15 rfl rfl ?_
  refine g_get E (ci := 3) inlX3 4 rfl rfl 1 (by decide) fl_X3_26 rfl (.ref (a 2)) rfl dX3_becomeLike_16 ?_
  refine g_aload_n E 1 dX3_becomeLike_19 rfl rfl ?_
  refine g_get E (ci := 3) inlX3 10 rfl rfl 1 (by decide) fl_X3_26 rfl (.ref (b 2)) rfl dX3_becomeLike_20 ?_
  refine g_perm (ws' := (DK d a S.2.2 ++ DK d b T.2.2) ++ (SO d a S.1 T.2.1 ++ SO d b T.1 T.2.1)) (perm4 _ _ _ _) ?_
  refine g_callVvD E gc_X0_becomeLike ml_X3_46 (t2_X0_becomeLike d a b S.2.2 T.2.2 ) rfl (wr := SO d a S.1 T.2.1 ++ SO d b T.1 T.2.1) rfl (ci := 0) 0 rfl rfl rfl rfl (ok_le rfl) ⟨ok_le rfl, ok_le rfl, ok_le rfl, ok_le rfl⟩ rfl rfl dX3_becomeLike_23 ?_
  refine g_perm (ws' := (DK d a T.2.2 ++ SO d a S.1 T.2.1) ++ (DK d b T.2.2 ++ SO d b T.1 T.2.1)) (perm4 _ _ _ _) ?_
  refine g_eq (ws' := SK d a (S.1, T.2.1, T.2.2) ++ (SK d b T)) (SK_mk2 d a S.1 T.2.1 T.2.2 b T.1 T.2.1 T.2.2) ?_
  refine g_aload_n E 0 dX3_becomeLike_26 rfl rfl ?_
  refine g_aload_n E 1 dX3_becomeLike_27 rfl rfl ?_
  refine g_get E (ci := 3) inlX3 10 rfl rfl 2 (by decide) fl_X3_30 rfl (.int (T.1 7)) rfl dX3_becomeLike_28 ?_
  refine g_put E (ci := 3) inlX3 4 rfl rfl 2 (by decide) tyX3 tyX3_ok nmX3 fl_X3_30 rfl rfl rfl rfl (ok_lt rfl) (ws' := SK d a (upd S.1 7 (T.1 7), T.2.1, T.2.2) ++ (SK d b T)) rfl dX3_becomeLike_31 ?_
  refine g_aload_n E 0 dX3_becomeLike_34 rfl rfl ?_
  refine g_aload_n E 1 dX3_becomeLike_35 rfl rfl ?_
  refine g_get E (ci := 3) inlX3 10 rfl rfl 3 (by decide) fl_X3_34 rfl (.int (T.1 8)) rfl dX3_becomeLike_36 ?_
  refine g_put E (ci := 3) inlX3 4 rfl rfl 3 (by decide) tyX3 tyX3_ok nmX3 fl_X3_34 rfl rfl rfl rfl (ok_lt rfl) (ws' := SK d a (upd (upd S.1 7 (T.1 7)) 8 (T.1 8), T.2.1, T.2.2) ++ (SK d b T)) rfl dX3_becomeLike_39 ?_
  refine g_aload_n E 0 dX3_becomeLike_42 rfl rfl ?_
  refine g_aload_n E 1 dX3_becomeLike_43 rfl rfl ?_
  refine g_get E (ci := 3) inlX3 10 rfl rfl 4 (by decide) fl_X3_37 rfl (.int (T.1 9)) rfl dX3_becomeLike_44 ?_
  refine g_put E (ci := 3) inlX3 4 rfl rfl 4 (by decide) tyX3 tyX3_ok nmX3 fl_X3_37 rfl rfl rfl rfl (ok_lt rfl) (ws' := SK d a (upd (upd (upd S.1 7 (T.1 7)) 8 (T.1 8)) 9 (T.1 9), T.2.1, T.2.2) ++ (SK d b T)) rfl dX3_becomeLike_47 ?_
  refine g_aload_n E 0 dX3_becomeLike_50 rfl rfl ?_
  refine g_aload_n E 1 dX3_becomeLike_51 rfl rfl ?_
  refine g_get E (ci := 3) inlX3 10 rfl rfl 5 (by decide) fl_X3_50 rfl (.int (T.1 14)) rfl dX3_becomeLike_52 ?_
  refine g_put E (ci := 3) inlX3 4 rfl rfl 5 (by decide) tyX3 tyX3_ok nmX3 fl_X3_50 rfl rfl rfl rfl (ok_lt rfl) (ws' := SK d a (upd (upd (upd (upd S.1 7 (T.1 7)) 8 (T.1 8)) 9 (T.1 9)) 14 (T.1 14), T.2.1, T.2.2) ++ (SK d b T)) rfl dX3_becomeLike_55 ?_
  refine g_aload_n E 0 dX3_becomeLike_58 rfl rfl ?_
  refine g_aload_n E 1 dX3_becomeLike_59 rfl rfl ?_
  refine g_get E (ci := 3) inlX3 10 rfl rfl 6 (by decide) fl_X3_53 rfl (.int (T.1 15)) rfl dX3_becomeLike_60 ?_
  refine g_put E (ci := 3) inlX3 4 rfl rfl 6 (by decide) tyX3 tyX3_ok nmX3 fl_X3_53 rfl rfl rfl rfl (ok_lt rfl) (ws' := SK d a (upd (upd (upd (upd (upd S.1 7 (T.1 7)) 8 (T.1 8)) 9 (T.1 9)) 14 (T.1 14)) 15 (T.1 15), T.2.1, T.2.2) ++ (SK d b T)) rfl dX3_becomeLike_63 ?_
  refine g_aload_n E 0 dX3_becomeLike_66 rfl rfl ?_
  refine g_aload_n E 1 dX3_becomeLike_67 rfl rfl ?_
  refine g_get E (ci := 3) inlX3 10 rfl rfl 7 (by decide) fl_X3_56 rfl (.int (T.1 10)) rfl dX3_becomeLike_68 ?_
  refine g_put E (ci := 3) inlX3 4 rfl rfl 7 (by decide) tyX3 tyX3_ok nmX3 fl_X3_56 rfl rfl rfl rfl (ok_lt rfl) (ws' := SK d a (upd (upd (upd (upd (upd (upd S.1 7 (T.1 7)) 8 (T.1 8)) 9 (T.1 9)) 14 (T.1 14)) 15 (T.1 15)) 10 (T.1 10), T.2.1, T.2.2) ++ (SK d b T)) rfl dX3_becomeLike_71 ?_
  refine g_aload_n E 0 dX3_becomeLike_74 rfl rfl ?_
  refine g_aload_n E 1 dX3_becomeLike_75 rfl rfl ?_
  refine g_get E (ci := 3) inlX3 10 rfl rfl 8 (by decide) fl_X3_59 rfl (.int (T.1 11)) rfl dX3_becomeLike_76 ?_
  refine g_put E (ci := 3) inlX3 4 rfl rfl 8 (by decide) tyX3 tyX3_ok nmX3 fl_X3_59 rfl rfl rfl rfl (ok_lt rfl) (ws' := SK d a (upd (upd (upd (upd (upd (upd (upd S.1 7 (T.1 7)) 8 (T.1 8)) 9 (T.1 9)) 14 (T.1 14)) 15 (T.1 15)) 10 (T.1 10)) 11 (T.1 11), T.2.1, T.2.2) ++ (SK d b T)) rfl dX3_becomeLike_79 ?_
  refine g_aload_n E 0 dX3_becomeLike_82 rfl rfl ?_
  refine g_aload_n E 1 dX3_becomeLike_83 rfl rfl ?_
  refine g_get E (ci := 3) inlX3 10 rfl rfl 9 (by decide) fl_X3_62 rfl (.int (T.1 12)) rfl dX3_becomeLike_84 ?_
  refine g_put E (ci := 3) inlX3 4 rfl rfl 9 (by decide) tyX3 tyX3_ok nmX3 fl_X3_62 rfl rfl rfl rfl (ok_lt rfl) (ws' := SK d a (upd (upd (upd (upd (upd (upd (upd (upd S.1 7 (T.1 7)) 8 (T.1 8)) 9 (T.1 9)) 14 (T.1 14)) 15 (T.1 15)) 10 (T.1 10)) 11 (T.1 11)) 12 (T.1 12), T.2.1, T.2.2) ++ (SK d b T)) rfl dX3_becomeLike_87 ?_
  refine g_aload_n E 0 dX3_becomeLike_90 rfl rfl ?_
  refine g_aload_n E 1 dX3_becomeLike_91 rfl rfl ?_
  refine g_get E (ci := 3) inlX3 10 rfl rfl 10 (by decide) fl_X3_65 rfl (.int (T.1 13)) rfl dX3_becomeLike_92 ?_
  refine g_put E (ci := 3) inlX3 4 rfl rfl 10 (by decide) tyX3 tyX3_ok nmX3 fl_X3_65 rfl rfl rfl rfl (ok_lt rfl) (ws' := SK d a (upd (upd (upd (upd (upd (upd (upd (upd (upd S.1 7 (T.1 7)) 8 (T.1 8)) 9 (T.1 9)) 14 (T.1 14)) 15 (T.1 15)) 10 (T.1 10)) 11 (T.1 11)) 12 (T.1 12)) 13 (T.1 13), T.2.1, T.2.2) ++ (SK d b T)) rfl dX3_becomeLike_95 ?_
  refine g_aload_n E 0 dX3_becomeLike_98 rfl rfl ?_
  refine g_aload_n E 1 dX3_becomeLike_99 rfl rfl ?_
  refine g_get E (ci := 3) inlX3 10 rfl rfl 11 (by decide) fl_X3_68 rfl (.int (T.1 21)) rfl dX3_becomeLike_100 ?_
  refine g_put E (ci := 3) inlX3 4 rfl rfl 11 (by decide) tyX3 tyX3_ok nmX3 fl_X3_68 rfl rfl rfl rfl (ok_lt rfl) (ws' := SK d a (upd (upd (upd (upd (upd (upd (upd (upd (upd (upd S.1 7 (T.1 7)) 8 (T.1 8)) 9 (T.1 9)) 14 (T.1 14)) 15 (T.1 15)) 10 (T.1 10)) 11 (T.1 11)) 12 (T.1 12)) 13 (T.1 13)) 21 (T.1 21), T.2.1, T.2.2) ++ (SK d b T)) rfl dX3_becomeLike_103 ?_
  refine g_aload_n E 0 dX3_becomeLike_106 rfl rfl ?_
  refine g_aload_n E 1 dX3_becomeLike_107 rfl rfl ?_
  refine g_get E (ci := 3) inlX3 10 rfl rfl 12 (by decide) fl_X3_71 rfl (.int (T.1 16)) rfl dX3_becomeLike_108 ?_
  refine g_put E (ci := 3) inlX3 4 rfl rfl 12 (by decide) tyX3 tyX3_ok nmX3 fl_X3_71 rfl rfl rfl rfl (ok_lt rfl) (ws' := SK d a (upd (upd (upd (upd (upd (upd (upd (upd (upd (upd (upd S.1 7 (T.1 7)) 8 (T.1 8)) 9 (T.1 9)) 14 (T.1 14)) 15 (T.1 15)) 10 (T.1 10)) 11 (T.1 11)) 12 (T.1 12)) 13 (T.1 13)) 21 (T.1 21)) 16 (T.1 16), T.2.1, T.2.2) ++ (SK d b T)) rfl dX3_becomeLike_111 ?_
  refine g_aload_n E 0 dX3_becomeLike_114 rfl rfl ?_
  refine g_aload_n E 1 dX3_becomeLike_115 rfl rfl ?_
  refine g_get E (ci := 3) inlX3 10 rfl rfl 13 (by decide) fl_X3_74 rfl (.int (T.1 17)) rfl dX3_becomeLike_116 ?_
  refine g_put E (ci := 3) inlX3 4 rfl rfl 13 (by decide) tyX3 tyX3_ok nmX3 fl_X3_74 rfl rfl rfl rfl (ok_lt rfl) (ws' := SK d a (upd (upd (upd (upd (upd (upd (upd (upd (upd (upd (upd (upd S.1 7 (T.1 7)) 8 (T.1 8)) 9 (T.1 9)) 14 (T.1 14)) 15 (T.1 15)) 10 (T.1 10)) 11 (T.1 11)) 12 (T.1 12)) 13 (T.1 13)) 21 (T.1 21)) 16 (T.1 16)) 17 (T.1 17), T.2.1, T.2.2) ++ (SK d b T)) rfl dX3_becomeLike_119 ?_
  refine g_aload_n E 0 dX3_becomeLike_122 rfl rfl ?_
  refine g_aload_n E 1 dX3_becomeLike_123 rfl rfl ?_
  refine g_get E (ci := 3) inlX3 10 rfl rfl 14 (by decide) fl_X3_77 rfl (.int (T.1 18)) rfl dX3_becomeLike_124 ?_
  refine g_put E (ci := 3) inlX3 4 rfl rfl 14 (by decide) tyX3 tyX3_ok nmX3 fl_X3_77 rfl rfl rfl rfl (ok_lt rfl) (ws' := SK d a (upd (upd (upd (upd (upd (upd (upd (upd (upd (upd (upd (upd (upd S.1 7 (T.1 7)) 8 (T.1 8)) 9 (T.1 9)) 14 (T.1 14)) 15 (T.1 15)) 10 (T.1 10)) 11 (T.1 11)) 12 (T.1 12)) 13 (T.1 13)) 21 (T.1 21)) 16 (T.1 16)) 17 (T.1 17)) 18 (T.1 18), T.2.1, T.2.2) ++ (SK d b T)) rfl dX3_becomeLike_127 ?_
  refine g_aload_n E 0 dX3_becomeLike_130 rfl rfl ?_
  refine g_aload_n E 1 dX3_becomeLike_131 rfl rfl ?_
  refine g_get E (ci := 3) inlX3 10 rfl rfl 15 (by decide) fl_X3_80 rfl (.int (T.1 19)) rfl dX3_becomeLike_132 ?_
  refine g_put E (ci := 3) inlX3 4 rfl rfl 15 (by decide) tyX3 tyX3_ok nmX3 fl_X3_80 rfl rfl rfl rfl (ok_lt rfl) (ws' := SK d a (upd (upd (upd (upd (upd (upd (upd (upd (upd (upd (upd (upd (upd (upd S.1 7 (T.1 7)) 8 (T.1 8)) 9 (T.1 9)) 14 (T.1 14)) 15 (T.1 15)) 10 (T.1 10)) 11 (T.1 11)) 12 (T.1 12)) 13 (T.1 13)) 21 (T.1 21)) 16 (T.1 16)) 17 (T.1 17)) 18 (T.1 18)) 19 (T.1 19), T.2.1, T.2.2) ++ (SK d b T)) rfl dX3_becomeLike_135 ?_
  refine g_aload_n E 0 dX3_becomeLike_138 rfl rfl ?_
  refine g_aload_n E 1 dX3_becomeLike_139 rfl rfl ?_
  refine g_get E (ci := 3) inlX3 10 rfl rfl 16 (by decide) fl_X3_83 rfl (.int (T.1 20)) rfl dX3_becomeLike_140 ?_
  refine g_put E (ci := 3) inlX3 4 rfl rfl 16 (by decide) tyX3 tyX3_ok nmX3 fl_X3_83 rfl rfl rfl rfl (ok_lt rfl) (ws' := SK d a (upd (upd (upd (upd (upd (upd (upd (upd (upd (upd (upd (upd (upd (upd (upd S.1 7 (T.1 7)) 8 (T.1 8)) 9 (T.1 9)) 14 (T.1 14)) 15 (T.1 15)) 10 (T.1 10)) 11 (T.1 11)) 12 (T.1 12)) 13 (T.1 13)) 21 (T.1 21)) 16 (T.1 16)) 17 (T.1 17)) 18 (T.1 18)) 19 (T.1 19)) 20 (T.1 20), T.2.1, T.2.2) ++ (SK d b T)) rfl dX3_becomeLike_143 ?_
  exact RET 146 _ _ dX3_becomeLike_146 (by rw [c_X3_becomeLike_0])
set_option maxHeartbeats 1000000 in
set_option maxRecDepth 100000 in
theorem t_X3_becomeLike (d : gD) (a : Nat → Nat) (b : Nat → Nat) (S : SS) (T : SS)  : gMv d yX3_becomeLike cX3_becomeLike 2 R_X3_becomeLike [.ref (a 0), .ref (b 0)] (SK d a S ++ (SK d b T)) (fun u_ => u_ = SK d a (c_X3_becomeLike_0 S T) ++ (SK d b T)) :=
  g_met_v RX3 rfl (by decide +kernel) (Nat.le_of_ble_eq_true rfl) [(0, .ref (a 0)), (1, .ref (b 0))] rfl (fun X E _ RET => s_X3_becomeLike_0 d a b S T  E (fun pc_ lv_ u_ h1_ h2_ => RET pc_ lv_ u_ h1_ h2_))
theorem t2_X3_becomeLike (d : gD) (a : Nat → Nat) (b : Nat → Nat) (S : SS) (T : SS) : gMv d yX3_becomeLike cX3_becomeLike 2 R_X3_becomeLike [.ref (a 0), .ref (b 0)] (SK d a S ++ (SK d b T)) (fun u_ => u_ = SK d a T ++ (SK d b T)) := t_X3_becomeLike d a b S T

