abbrev R_X3_about : Room := { frames := 0, cells := 0, slots := 0, locals := 0 }
def r_X3_about (what : Int32) (rest : Int32) (tells : Int32) (latest : Int32) (S : SS) : Int32 := if what = 0 then rest else (if what = 1 then (tells + 100) else (if what = 2 then (if (S.1 21) = 0 then (-6) else latest) else (if what = 3 then (if (S.1 21) = 0 then (-6) else ((latest - (rest / 16)) + 1000)) else (-2))))
set_option maxHeartbeats 1000000 in
set_option maxRecDepth 100000 in
theorem s_X3_about_0 (d : gD) (a : Nat → Nat) (what : Int32) (rest : Int32) (tells : Int32) (latest : Int32) (S : SS)   {X : gX} (E : gE d X RX3 cX3_about 5 R_X3_about) (RET : ∀ (pc_ : Nat) (lv_ : List (Nat × Value)) (v_ : Int32) (u_ : va_W), decode cX3_about pc_ = .ok (.ireturn, 1) → narrow .int (.int v_) = .int v_ → v_ = r_X3_about what rest tells latest S → u_ = SK d a S → G d X u_ R_X3_about.cells R_X3_about.slots pc_ lv_ [.int v_]) : G d X (SK d a S) 0 0 0 [(0, .ref (a 0)), (1, .int what), (2, .int rest), (3, .int tells), (4, .int latest)] [] := by
  refine g_iload_n E 1 dX3_about_0 rfl rfl ?_
  by_cases w_1_0 : what = 0
  · skip
    refine g_tableIn E 32 dX3_about_1 (by rw [w_1_0]; decide) (by rw [w_1_0]; decide) (by rw [w_1_0]; rfl) (by decide) ?_
    refine g_iload_n E 2 dX3_about_32 rfl rfl ?_
    exact RET 33 _ rest _ dX3_about_33 rfl (by rw [r_X3_about, if_pos w_1_0]) rfl
  · skip
    by_cases w_1_1 : what = 1
    · skip
      refine g_tableIn E 34 dX3_about_1 (by rw [w_1_1]; decide) (by rw [w_1_1]; decide) (by rw [w_1_1]; rfl) (by decide) ?_
      refine g_iload_n E 3 dX3_about_34 rfl rfl ?_
      refine g_bipush E 100 dX3_about_35 (by decide) ?_
      refine g_iadd E dX3_about_37 ?_
      exact RET 38 _ (tells + 100) _ dX3_about_38 rfl (by rw [r_X3_about, if_neg w_1_0, if_pos w_1_1]) rfl
    · skip
      by_cases w_1_2 : what = 2
      · skip
        refine g_tableIn E 39 dX3_about_1 (by rw [w_1_2]; decide) (by rw [w_1_2]; decide) (by rw [w_1_2]; rfl) (by decide) ?_
        refine g_aload_n E 0 dX3_about_39 rfl rfl ?_
        refine g_get E (ci := 3) inlX3 4 rfl rfl 11 (by decide) fl_X3_68 rfl (.int (S.1 21)) rfl dX3_about_40 ?_
        refine g_ifne E 51 dX3_about_43 (by decide) (fun c_43 => ?_) (fun c_43 => ?_)
        · skip
          refine g_iload E 4 dX3_about_51 rfl ?_
          exact RET 53 _ latest _ dX3_about_53 rfl (by rw [r_X3_about, if_neg w_1_0, if_neg w_1_1, if_pos w_1_2, if_neg c_43]) rfl
        · skip
          refine g_bipush E (-6) dX3_about_46 (by decide) ?_
          refine g_goto E 53 dX3_about_48 (by decide) ?_
          exact RET 53 _ (-6) _ dX3_about_53 rfl (by rw [r_X3_about, if_neg w_1_0, if_neg w_1_1, if_pos w_1_2, if_pos c_43]) rfl
      · skip
        by_cases w_1_3 : what = 3
        · skip
          refine g_tableIn E 54 dX3_about_1 (by rw [w_1_3]; decide) (by rw [w_1_3]; decide) (by rw [w_1_3]; rfl) (by decide) ?_
          refine g_aload_n E 0 dX3_about_54 rfl rfl ?_
          refine g_get E (ci := 3) inlX3 4 rfl rfl 11 (by decide) fl_X3_68 rfl (.int (S.1 21)) rfl dX3_about_55 ?_
          refine g_ifne E 66 dX3_about_58 (by decide) (fun c_58 => ?_) (fun c_58 => ?_)
          · skip
            refine g_iload E 4 dX3_about_66 rfl ?_
            refine g_iload_n E 2 dX3_about_68 rfl rfl ?_
            refine g_bipush E 16 dX3_about_69 (by decide) ?_
            refine g_idiv E dX3_about_71 (by decide) ?_
            refine g_isub E dX3_about_72 ?_
            refine g_sipush E 1000 dX3_about_73 (by decide) ?_
            refine g_iadd E dX3_about_76 ?_
            exact RET 77 _ ((latest - (rest / 16)) + 1000) _ dX3_about_77 rfl (by rw [r_X3_about, if_neg w_1_0, if_neg w_1_1, if_neg w_1_2, if_pos w_1_3, if_neg c_58]) rfl
          · skip
            refine g_bipush E (-6) dX3_about_61 (by decide) ?_
            refine g_goto E 77 dX3_about_63 (by decide) ?_
            exact RET 77 _ (-6) _ dX3_about_77 rfl (by rw [r_X3_about, if_neg w_1_0, if_neg w_1_1, if_neg w_1_2, if_pos w_1_3, if_pos c_58]) rfl
        · skip
          refine g_tableOut E 78 dX3_about_1 (by have z0 := lv_neT (x := what) (k := 0) (a := 0) w_1_0 (by decide); have z1 := lv_neT (x := what) (k := 1) (a := 1) w_1_1 (by decide); have z2 := lv_neT (x := what) (k := 2) (a := 2) w_1_2 (by decide); have z3 := lv_neT (x := what) (k := 3) (a := 3) w_1_3 (by decide); omega) (by decide) ?_
          refine g_bipush E (-2) dX3_about_78 (by decide) ?_
          exact RET 80 _ (-2) _ dX3_about_80 rfl (by rw [r_X3_about, if_neg w_1_0, if_neg w_1_1, if_neg w_1_2, if_neg w_1_3]) rfl
set_option maxHeartbeats 1000000 in
set_option maxRecDepth 100000 in
theorem t_X3_about (d : gD) (a : Nat → Nat) (what : Int32) (rest : Int32) (tells : Int32) (latest : Int32) (S : SS)  : gMi d yX3_about cX3_about 5 (some .int) R_X3_about [.ref (a 0), .int what, .int rest, .int tells, .int latest] (SK d a S) (fun r_ u_ => r_ = r_X3_about what rest tells latest S ∧ u_ = SK d a S) :=
  g_met_i RX3 rfl (by decide +kernel) (Nat.le_of_ble_eq_true rfl) [(0, .ref (a 0)), (1, .int what), (2, .int rest), (3, .int tells), (4, .int latest)] rfl (fun X E RET => s_X3_about_0 d a what rest tells latest S  E (fun pc_ lv_ v_ u_ h1_ h2_ h3_ h4_ => RET pc_ lv_ v_ u_ h1_ h2_ ⟨h3_, h4_⟩))
abbrev R_X3_aboutX : Room := { frames := 1, cells := 0, slots := 0, locals := 24 }
def r_X3_aboutX (what : Int32) (S : SS) : Int32 := (r_X3_about what (S.1 7) (S.1 14) (S.1 10) S)
set_option maxHeartbeats 1000000 in
set_option maxRecDepth 100000 in
theorem s_X3_aboutX_0 (d : gD) (a : Nat → Nat) (what : Int32) (S : SS)   {X : gX} (E : gE d X RX3 cX3_aboutX 2 R_X3_aboutX) (RET : ∀ (pc_ : Nat) (lv_ : List (Nat × Value)) (v_ : Int32) (u_ : va_W), decode cX3_aboutX pc_ = .ok (.ireturn, 1) → narrow .int (.int v_) = .int v_ → v_ = r_X3_aboutX what S → u_ = SK d a S → G d X u_ R_X3_aboutX.cells R_X3_aboutX.slots pc_ lv_ [.int v_]) : G d X (SK d a S) 0 0 0 [(0, .ref (a 0)), (1, .int what)] [] := by
  refine g_aload_n E 0 dX3_aboutX_0 rfl rfl ?_
  refine g_iload_n E 1 dX3_aboutX_1 rfl rfl ?_
  refine g_aload_n E 0 dX3_aboutX_2 rfl rfl ?_
  refine g_get E (ci := 3) inlX3 4 rfl rfl 2 (by decide) fl_X3_30 rfl (.int (S.1 7)) rfl dX3_aboutX_3 ?_
  refine g_aload_n E 0 dX3_aboutX_6 rfl rfl ?_
  refine g_get E (ci := 3) inlX3 4 rfl rfl 5 (by decide) fl_X3_50 rfl (.int (S.1 14)) rfl dX3_aboutX_7 ?_
  refine g_aload_n E 0 dX3_aboutX_10 rfl rfl ?_
  refine g_get E (ci := 3) inlX3 4 rfl rfl 7 (by decide) fl_X3_56 rfl (.int (S.1 10)) rfl dX3_aboutX_11 ?_
  refine g_callVi0 E gc_X3_about ml_X3_164 (t_X3_about d a what (S.1 7) (S.1 14) (S.1 10) S ) rfl rfl (ci := 3) 4 rfl rfl rfl rfl (ok_le rfl) ⟨ok_le rfl, ok_le rfl, ok_le rfl, ok_le rfl⟩ rfl rfl dX3_aboutX_14 ?_
  refine g_nm (fun v1_ hv1_ => ?_)
  subst hv1_
  exact RET 17 _ (r_X3_about what (S.1 7) (S.1 14) (S.1 10) S) _ dX3_aboutX_17 rfl (by rw [r_X3_aboutX]) rfl
set_option maxHeartbeats 1000000 in
set_option maxRecDepth 100000 in
theorem t_X3_aboutX (d : gD) (a : Nat → Nat) (what : Int32) (S : SS)  : gMi d yX3_aboutX cX3_aboutX 2 (some .int) R_X3_aboutX [.ref (a 0), .int what] (SK d a S) (fun r_ u_ => r_ = r_X3_aboutX what S ∧ u_ = SK d a S) :=
  g_met_i RX3 rfl (by decide +kernel) (Nat.le_of_ble_eq_true rfl) [(0, .ref (a 0)), (1, .int what)] rfl (fun X E RET => s_X3_aboutX_0 d a what S  E (fun pc_ lv_ v_ u_ h1_ h2_ h3_ h4_ => RET pc_ lv_ v_ u_ h1_ h2_ ⟨h3_, h4_⟩))
abbrev R_X3_aboutY : Room := { frames := 1, cells := 0, slots := 0, locals := 24 }
def r_X3_aboutY (what : Int32) (S : SS) : Int32 := (r_X3_about what (S.1 8) (S.1 15) (S.1 11) S)
set_option maxHeartbeats 1000000 in
set_option maxRecDepth 100000 in
theorem s_X3_aboutY_0 (d : gD) (a : Nat → Nat) (what : Int32) (S : SS)   {X : gX} (E : gE d X RX3 cX3_aboutY 2 R_X3_aboutY) (RET : ∀ (pc_ : Nat) (lv_ : List (Nat × Value)) (v_ : Int32) (u_ : va_W), decode cX3_aboutY pc_ = .ok (.ireturn, 1) → narrow .int (.int v_) = .int v_ → v_ = r_X3_aboutY what S → u_ = SK d a S → G d X u_ R_X3_aboutY.cells R_X3_aboutY.slots pc_ lv_ [.int v_]) : G d X (SK d a S) 0 0 0 [(0, .ref (a 0)), (1, .int what)] [] := by
  refine g_aload_n E 0 dX3_aboutY_0 rfl rfl ?_
  refine g_iload_n E 1 dX3_aboutY_1 rfl rfl ?_
  refine g_aload_n E 0 dX3_aboutY_2 rfl rfl ?_
  refine g_get E (ci := 3) inlX3 4 rfl rfl 3 (by decide) fl_X3_34 rfl (.int (S.1 8)) rfl dX3_aboutY_3 ?_
  refine g_aload_n E 0 dX3_aboutY_6 rfl rfl ?_
  refine g_get E (ci := 3) inlX3 4 rfl rfl 6 (by decide) fl_X3_53 rfl (.int (S.1 15)) rfl dX3_aboutY_7 ?_
  refine g_aload_n E 0 dX3_aboutY_10 rfl rfl ?_
  refine g_get E (ci := 3) inlX3 4 rfl rfl 8 (by decide) fl_X3_59 rfl (.int (S.1 11)) rfl dX3_aboutY_11 ?_
  refine g_callVi0 E gc_X3_about ml_X3_164 (t_X3_about d a what (S.1 8) (S.1 15) (S.1 11) S ) rfl rfl (ci := 3) 4 rfl rfl rfl rfl (ok_le rfl) ⟨ok_le rfl, ok_le rfl, ok_le rfl, ok_le rfl⟩ rfl rfl dX3_aboutY_14 ?_
  refine g_nm (fun v1_ hv1_ => ?_)
  subst hv1_
  exact RET 17 _ (r_X3_about what (S.1 8) (S.1 15) (S.1 11) S) _ dX3_aboutY_17 rfl (by rw [r_X3_aboutY]) rfl
set_option maxHeartbeats 1000000 in
set_option maxRecDepth 100000 in
theorem t_X3_aboutY (d : gD) (a : Nat → Nat) (what : Int32) (S : SS)  : gMi d yX3_aboutY cX3_aboutY 2 (some .int) R_X3_aboutY [.ref (a 0), .int what] (SK d a S) (fun r_ u_ => r_ = r_X3_aboutY what S ∧ u_ = SK d a S) :=
  g_met_i RX3 rfl (by decide +kernel) (Nat.le_of_ble_eq_true rfl) [(0, .ref (a 0)), (1, .int what)] rfl (fun X E RET => s_X3_aboutY_0 d a what S  E (fun pc_ lv_ v_ u_ h1_ h2_ h3_ h4_ => RET pc_ lv_ v_ u_ h1_ h2_ ⟨h3_, h4_⟩))
abbrev R_X3_number : Room := { frames := 0, cells := 0, slots := 0, locals := 0 }
def r_X3_number (what : Int32) (S : SS) : Int32 := if what < 10 then (if what = 0 then (S.1 21) else (if what = 1 then (S.1 9) else (if what = 2 then (S.1 12) else (if what = 3 then (S.1 13) else (if what = 4 then (S.1 16) else (if what = 5 then (S.1 17) else (if what = 6 then (S.1 18) else (if what = 7 then (S.1 19) else (if what = 8 then (S.2.2.1 0) else (if what = 9 then (S.1 20) else (-2))))))))))) else (if (what - 10) < 7 then (S.2.1 ((what - 10).toNatClampNeg)) else (if what = 0 then (S.1 21) else (if what = 1 then (S.1 9) else (if what = 2 then (S.1 12) else (if what = 3 then (S.1 13) else (if what = 4 then (S.1 16) else (if what = 5 then (S.1 17) else (if what = 6 then (S.1 18) else (if what = 7 then (S.1 19) else (if what = 8 then (S.2.2.1 0) else (if what = 9 then (S.1 20) else (-2))))))))))))
set_option maxHeartbeats 1000000 in
set_option maxRecDepth 100000 in
theorem s_X3_number_0 (d : gD) (a : Nat → Nat) (what : Int32) (S : SS)   {X : gX} (E : gE d X RX3 cX3_number 2 R_X3_number) (RET : ∀ (pc_ : Nat) (lv_ : List (Nat × Value)) (v_ : Int32) (u_ : va_W), decode cX3_number pc_ = .ok (.ireturn, 1) → narrow .int (.int v_) = .int v_ → v_ = r_X3_number what S → u_ = SK d a S → G d X u_ R_X3_number.cells R_X3_number.slots pc_ lv_ [.int v_]) : G d X (SK d a S) 0 0 0 [(0, .ref (a 0)), (1, .int what)] [] := by
  refine g_iload_n E 1 dX3_number_0 rfl rfl ?_
  refine g_bipush E 10 dX3_number_1 (by decide) ?_
  refine g_icmplt E 25 dX3_number_3 (by decide) (fun c_3 => ?_) (fun c_3 => ?_)
  · skip
    refine g_iload_n E 1 dX3_number_25 rfl rfl ?_
    by_cases w_26_0 : what = 0
    · skip
      refine g_tableIn E 80 dX3_number_26 (by rw [w_26_0]; decide) (by rw [w_26_0]; decide) (by rw [w_26_0]; rfl) (by decide) ?_
      refine g_aload_n E 0 dX3_number_80 rfl rfl ?_
      refine g_get E (ci := 3) inlX3 4 rfl rfl 11 (by decide) fl_X3_68 rfl (.int (S.1 21)) rfl dX3_number_81 ?_
      exact RET 84 _ (S.1 21) _ dX3_number_84 rfl (by rw [r_X3_number, if_pos c_3, if_pos w_26_0]) rfl
    · skip
      by_cases w_26_1 : what = 1
      · skip
        refine g_tableIn E 85 dX3_number_26 (by rw [w_26_1]; decide) (by rw [w_26_1]; decide) (by rw [w_26_1]; rfl) (by decide) ?_
        refine g_aload_n E 0 dX3_number_85 rfl rfl ?_
        refine g_get E (ci := 3) inlX3 4 rfl rfl 4 (by decide) fl_X3_37 rfl (.int (S.1 9)) rfl dX3_number_86 ?_
        exact RET 89 _ (S.1 9) _ dX3_number_89 rfl (by rw [r_X3_number, if_pos c_3, if_neg w_26_0, if_pos w_26_1]) rfl
      · skip
        by_cases w_26_2 : what = 2
        · skip
          refine g_tableIn E 90 dX3_number_26 (by rw [w_26_2]; decide) (by rw [w_26_2]; decide) (by rw [w_26_2]; rfl) (by decide) ?_
          refine g_aload_n E 0 dX3_number_90 rfl rfl ?_
          refine g_get E (ci := 3) inlX3 4 rfl rfl 9 (by decide) fl_X3_62 rfl (.int (S.1 12)) rfl dX3_number_91 ?_
          exact RET 94 _ (S.1 12) _ dX3_number_94 rfl (by rw [r_X3_number, if_pos c_3, if_neg w_26_0, if_neg w_26_1, if_pos w_26_2]) rfl
        · skip
          by_cases w_26_3 : what = 3
          · skip
            refine g_tableIn E 95 dX3_number_26 (by rw [w_26_3]; decide) (by rw [w_26_3]; decide) (by rw [w_26_3]; rfl) (by decide) ?_
            refine g_aload_n E 0 dX3_number_95 rfl rfl ?_
            refine g_get E (ci := 3) inlX3 4 rfl rfl 10 (by decide) fl_X3_65 rfl (.int (S.1 13)) rfl dX3_number_96 ?_
            exact RET 99 _ (S.1 13) _ dX3_number_99 rfl (by rw [r_X3_number, if_pos c_3, if_neg w_26_0, if_neg w_26_1, if_neg w_26_2, if_pos w_26_3]) rfl
          · skip
            by_cases w_26_4 : what = 4
            · skip
              refine g_tableIn E 100 dX3_number_26 (by rw [w_26_4]; decide) (by rw [w_26_4]; decide) (by rw [w_26_4]; rfl) (by decide) ?_
              refine g_aload_n E 0 dX3_number_100 rfl rfl ?_
              refine g_get E (ci := 3) inlX3 4 rfl rfl 12 (by decide) fl_X3_71 rfl (.int (S.1 16)) rfl dX3_number_101 ?_
              exact RET 104 _ (S.1 16) _ dX3_number_104 rfl (by rw [r_X3_number, if_pos c_3, if_neg w_26_0, if_neg w_26_1, if_neg w_26_2, if_neg w_26_3, if_pos w_26_4]) rfl
            · skip
              by_cases w_26_5 : what = 5
              · skip
                refine g_tableIn E 105 dX3_number_26 (by rw [w_26_5]; decide) (by rw [w_26_5]; decide) (by rw [w_26_5]; rfl) (by decide) ?_
                refine g_aload_n E 0 dX3_number_105 rfl rfl ?_
                refine g_get E (ci := 3) inlX3 4 rfl rfl 13 (by decide) fl_X3_74 rfl (.int (S.1 17)) rfl dX3_number_106 ?_
                exact RET 109 _ (S.1 17) _ dX3_number_109 rfl (by rw [r_X3_number, if_pos c_3, if_neg w_26_0, if_neg w_26_1, if_neg w_26_2, if_neg w_26_3, if_neg w_26_4, if_pos w_26_5]) rfl
              · skip
                by_cases w_26_6 : what = 6
                · skip
                  refine g_tableIn E 110 dX3_number_26 (by rw [w_26_6]; decide) (by rw [w_26_6]; decide) (by rw [w_26_6]; rfl) (by decide) ?_
                  refine g_aload_n E 0 dX3_number_110 rfl rfl ?_
                  refine g_get E (ci := 3) inlX3 4 rfl rfl 14 (by decide) fl_X3_77 rfl (.int (S.1 18)) rfl dX3_number_111 ?_
                  exact RET 114 _ (S.1 18) _ dX3_number_114 rfl (by rw [r_X3_number, if_pos c_3, if_neg w_26_0, if_neg w_26_1, if_neg w_26_2, if_neg w_26_3, if_neg w_26_4, if_neg w_26_5, if_pos w_26_6]) rfl
                · skip
                  by_cases w_26_7 : what = 7
                  · skip
                    refine g_tableIn E 115 dX3_number_26 (by rw [w_26_7]; decide) (by rw [w_26_7]; decide) (by rw [w_26_7]; rfl) (by decide) ?_
                    refine g_aload_n E 0 dX3_number_115 rfl rfl ?_
                    refine g_get E (ci := 3) inlX3 4 rfl rfl 15 (by decide) fl_X3_80 rfl (.int (S.1 19)) rfl dX3_number_116 ?_
                    exact RET 119 _ (S.1 19) _ dX3_number_119 rfl (by rw [r_X3_number, if_pos c_3, if_neg w_26_0, if_neg w_26_1, if_neg w_26_2, if_neg w_26_3, if_neg w_26_4, if_neg w_26_5, if_neg w_26_6, if_pos w_26_7]) rfl
                  · skip
                    by_cases w_26_8 : what = 8
                    · skip
                      refine g_tableIn E 120 dX3_number_26 (by rw [w_26_8]; decide) (by rw [w_26_8]; decide) (by rw [w_26_8]; rfl) (by decide) ?_
                      refine g_aload_n E 0 dX3_number_120 rfl rfl ?_
                      refine g_get E (ci := 3) inlX3 4 rfl rfl 1 (by decide) fl_X3_26 rfl (.ref (a 2)) rfl dX3_number_121 ?_
                      refine g_getN E (ci := 0) inlX0 0 rfl rfl 3 (by decide) (List.mem_of_getElem? (i := 1) rfl) rfl (.int (S.2.2.1 0)) rfl dX3_number_124 ?_
                      exact RET 127 _ (S.2.2.1 0) _ dX3_number_127 rfl (by rw [r_X3_number, if_pos c_3, if_neg w_26_0, if_neg w_26_1, if_neg w_26_2, if_neg w_26_3, if_neg w_26_4, if_neg w_26_5, if_neg w_26_6, if_neg w_26_7, if_pos w_26_8]) rfl
                    · skip
                      by_cases w_26_9 : what = 9
                      · skip
                        refine g_tableIn E 128 dX3_number_26 (by rw [w_26_9]; decide) (by rw [w_26_9]; decide) (by rw [w_26_9]; rfl) (by decide) ?_
                        refine g_aload_n E 0 dX3_number_128 rfl rfl ?_
                        refine g_get E (ci := 3) inlX3 4 rfl rfl 16 (by decide) fl_X3_83 rfl (.int (S.1 20)) rfl dX3_number_129 ?_
                        exact RET 132 _ (S.1 20) _ dX3_number_132 rfl (by rw [r_X3_number, if_pos c_3, if_neg w_26_0, if_neg w_26_1, if_neg w_26_2, if_neg w_26_3, if_neg w_26_4, if_neg w_26_5, if_neg w_26_6, if_neg w_26_7, if_neg w_26_8, if_pos w_26_9]) rfl
                      · skip
                        refine g_tableOut E 133 dX3_number_26 (by have z0 := lv_neT (x := what) (k := 0) (a := 0) w_26_0 (by decide); have z1 := lv_neT (x := what) (k := 1) (a := 1) w_26_1 (by decide); have z2 := lv_neT (x := what) (k := 2) (a := 2) w_26_2 (by decide); have z3 := lv_neT (x := what) (k := 3) (a := 3) w_26_3 (by decide); have z4 := lv_neT (x := what) (k := 4) (a := 4) w_26_4 (by decide); have z5 := lv_neT (x := what) (k := 5) (a := 5) w_26_5 (by decide); have z6 := lv_neT (x := what) (k := 6) (a := 6) w_26_6 (by decide); have z7 := lv_neT (x := what) (k := 7) (a := 7) w_26_7 (by decide); have z8 := lv_neT (x := what) (k := 8) (a := 8) w_26_8 (by decide); have z9 := lv_neT (x := what) (k := 9) (a := 9) w_26_9 (by decide); omega) (by decide) ?_
                        refine g_bipush E (-2) dX3_number_133 (by decide) ?_
                        exact RET 135 _ (-2) _ dX3_number_135 rfl (by rw [r_X3_number, if_pos c_3, if_neg w_26_0, if_neg w_26_1, if_neg w_26_2, if_neg w_26_3, if_neg w_26_4, if_neg w_26_5, if_neg w_26_6, if_neg w_26_7, if_neg w_26_8, if_neg w_26_9]) rfl
  · skip
    refine g_iload_n E 1 dX3_number_6 rfl rfl ?_
    refine g_bipush E 10 dX3_number_7 (by decide) ?_
    refine g_isub E dX3_number_9 ?_
    refine g_bipush E 7 dX3_number_10 (by decide) ?_
    refine g_icmpge E 25 dX3_number_12 (by decide) (fun c_12 => ?_) (fun c_12 => ?_)
    · skip
      refine g_iload_n E 1 dX3_number_25 rfl rfl ?_
      by_cases w_26_0 : what = 0
      · skip
        refine g_tableIn E 80 dX3_number_26 (by rw [w_26_0]; decide) (by rw [w_26_0]; decide) (by rw [w_26_0]; rfl) (by decide) ?_
        refine g_aload_n E 0 dX3_number_80 rfl rfl ?_
        refine g_get E (ci := 3) inlX3 4 rfl rfl 11 (by decide) fl_X3_68 rfl (.int (S.1 21)) rfl dX3_number_81 ?_
        exact RET 84 _ (S.1 21) _ dX3_number_84 rfl (by rw [r_X3_number, if_neg c_3, if_neg c_12, if_pos w_26_0]) rfl
      · skip
        by_cases w_26_1 : what = 1
        · skip
          refine g_tableIn E 85 dX3_number_26 (by rw [w_26_1]; decide) (by rw [w_26_1]; decide) (by rw [w_26_1]; rfl) (by decide) ?_
          refine g_aload_n E 0 dX3_number_85 rfl rfl ?_
          refine g_get E (ci := 3) inlX3 4 rfl rfl 4 (by decide) fl_X3_37 rfl (.int (S.1 9)) rfl dX3_number_86 ?_
          exact RET 89 _ (S.1 9) _ dX3_number_89 rfl (by rw [r_X3_number, if_neg c_3, if_neg c_12, if_neg w_26_0, if_pos w_26_1]) rfl
        · skip
          by_cases w_26_2 : what = 2
          · skip
            refine g_tableIn E 90 dX3_number_26 (by rw [w_26_2]; decide) (by rw [w_26_2]; decide) (by rw [w_26_2]; rfl) (by decide) ?_
            refine g_aload_n E 0 dX3_number_90 rfl rfl ?_
            refine g_get E (ci := 3) inlX3 4 rfl rfl 9 (by decide) fl_X3_62 rfl (.int (S.1 12)) rfl dX3_number_91 ?_
            exact RET 94 _ (S.1 12) _ dX3_number_94 rfl (by rw [r_X3_number, if_neg c_3, if_neg c_12, if_neg w_26_0, if_neg w_26_1, if_pos w_26_2]) rfl
          · skip
            by_cases w_26_3 : what = 3
            · skip
              refine g_tableIn E 95 dX3_number_26 (by rw [w_26_3]; decide) (by rw [w_26_3]; decide) (by rw [w_26_3]; rfl) (by decide) ?_
              refine g_aload_n E 0 dX3_number_95 rfl rfl ?_
              refine g_get E (ci := 3) inlX3 4 rfl rfl 10 (by decide) fl_X3_65 rfl (.int (S.1 13)) rfl dX3_number_96 ?_
              exact RET 99 _ (S.1 13) _ dX3_number_99 rfl (by rw [r_X3_number, if_neg c_3, if_neg c_12, if_neg w_26_0, if_neg w_26_1, if_neg w_26_2, if_pos w_26_3]) rfl
            · skip
              by_cases w_26_4 : what = 4
              · skip
                refine g_tableIn E 100 dX3_number_26 (by rw [w_26_4]; decide) (by rw [w_26_4]; decide) (by rw [w_26_4]; rfl) (by decide) ?_
                refine g_aload_n E 0 dX3_number_100 rfl rfl ?_
                refine g_get E (ci := 3) inlX3 4 rfl rfl 12 (by decide) fl_X3_71 rfl (.int (S.1 16)) rfl dX3_number_101 ?_
                exact RET 104 _ (S.1 16) _ dX3_number_104 rfl (by rw [r_X3_number, if_neg c_3, if_neg c_12, if_neg w_26_0, if_neg w_26_1, if_neg w_26_2, if_neg w_26_3, if_pos w_26_4]) rfl
              · skip
                by_cases w_26_5 : what = 5
                · skip
                  refine g_tableIn E 105 dX3_number_26 (by rw [w_26_5]; decide) (by rw [w_26_5]; decide) (by rw [w_26_5]; rfl) (by decide) ?_
                  refine g_aload_n E 0 dX3_number_105 rfl rfl ?_
                  refine g_get E (ci := 3) inlX3 4 rfl rfl 13 (by decide) fl_X3_74 rfl (.int (S.1 17)) rfl dX3_number_106 ?_
                  exact RET 109 _ (S.1 17) _ dX3_number_109 rfl (by rw [r_X3_number, if_neg c_3, if_neg c_12, if_neg w_26_0, if_neg w_26_1, if_neg w_26_2, if_neg w_26_3, if_neg w_26_4, if_pos w_26_5]) rfl
                · skip
                  by_cases w_26_6 : what = 6
                  · skip
                    refine g_tableIn E 110 dX3_number_26 (by rw [w_26_6]; decide) (by rw [w_26_6]; decide) (by rw [w_26_6]; rfl) (by decide) ?_
                    refine g_aload_n E 0 dX3_number_110 rfl rfl ?_
                    refine g_get E (ci := 3) inlX3 4 rfl rfl 14 (by decide) fl_X3_77 rfl (.int (S.1 18)) rfl dX3_number_111 ?_
                    exact RET 114 _ (S.1 18) _ dX3_number_114 rfl (by rw [r_X3_number, if_neg c_3, if_neg c_12, if_neg w_26_0, if_neg w_26_1, if_neg w_26_2, if_neg w_26_3, if_neg w_26_4, if_neg w_26_5, if_pos w_26_6]) rfl
                  · skip
                    by_cases w_26_7 : what = 7
                    · skip
                      refine g_tableIn E 115 dX3_number_26 (by rw [w_26_7]; decide) (by rw [w_26_7]; decide) (by rw [w_26_7]; rfl) (by decide) ?_
                      refine g_aload_n E 0 dX3_number_115 rfl rfl ?_
                      refine g_get E (ci := 3) inlX3 4 rfl rfl 15 (by decide) fl_X3_80 rfl (.int (S.1 19)) rfl dX3_number_116 ?_
                      exact RET 119 _ (S.1 19) _ dX3_number_119 rfl (by rw [r_X3_number, if_neg c_3, if_neg c_12, if_neg w_26_0, if_neg w_26_1, if_neg w_26_2, if_neg w_26_3, if_neg w_26_4, if_neg w_26_5, if_neg w_26_6, if_pos w_26_7]) rfl
                    · skip
                      by_cases w_26_8 : what = 8
                      · skip
                        refine g_tableIn E 120 dX3_number_26 (by rw [w_26_8]; decide) (by rw [w_26_8]; decide) (by rw [w_26_8]; rfl) (by decide) ?_
                        refine g_aload_n E 0 dX3_number_120 rfl rfl ?_
                        refine g_get E (ci := 3) inlX3 4 rfl rfl 1 (by decide) fl_X3_26 rfl (.ref (a 2)) rfl dX3_number_121 ?_
                        refine g_getN E (ci := 0) inlX0 0 rfl rfl 3 (by decide) (List.mem_of_getElem? (i := 1) rfl) rfl (.int (S.2.2.1 0)) rfl dX3_number_124 ?_
                        exact RET 127 _ (S.2.2.1 0) _ dX3_number_127 rfl (by rw [r_X3_number, if_neg c_3, if_neg c_12, if_neg w_26_0, if_neg w_26_1, if_neg w_26_2, if_neg w_26_3, if_neg w_26_4, if_neg w_26_5, if_neg w_26_6, if_neg w_26_7, if_pos w_26_8]) rfl
                      · skip
                        by_cases w_26_9 : what = 9
                        · skip
                          refine g_tableIn E 128 dX3_number_26 (by rw [w_26_9]; decide) (by rw [w_26_9]; decide) (by rw [w_26_9]; rfl) (by decide) ?_
                          refine g_aload_n E 0 dX3_number_128 rfl rfl ?_
                          refine g_get E (ci := 3) inlX3 4 rfl rfl 16 (by decide) fl_X3_83 rfl (.int (S.1 20)) rfl dX3_number_129 ?_
                          exact RET 132 _ (S.1 20) _ dX3_number_132 rfl (by rw [r_X3_number, if_neg c_3, if_neg c_12, if_neg w_26_0, if_neg w_26_1, if_neg w_26_2, if_neg w_26_3, if_neg w_26_4, if_neg w_26_5, if_neg w_26_6, if_neg w_26_7, if_neg w_26_8, if_pos w_26_9]) rfl
                        · skip
                          refine g_tableOut E 133 dX3_number_26 (by have z0 := lv_neT (x := what) (k := 0) (a := 0) w_26_0 (by decide); have z1 := lv_neT (x := what) (k := 1) (a := 1) w_26_1 (by decide); have z2 := lv_neT (x := what) (k := 2) (a := 2) w_26_2 (by decide); have z3 := lv_neT (x := what) (k := 3) (a := 3) w_26_3 (by decide); have z4 := lv_neT (x := what) (k := 4) (a := 4) w_26_4 (by decide); have z5 := lv_neT (x := what) (k := 5) (a := 5) w_26_5 (by decide); have z6 := lv_neT (x := what) (k := 6) (a := 6) w_26_6 (by decide); have z7 := lv_neT (x := what) (k := 7) (a := 7) w_26_7 (by decide); have z8 := lv_neT (x := what) (k := 8) (a := 8) w_26_8 (by decide); have z9 := lv_neT (x := what) (k := 9) (a := 9) w_26_9 (by decide); omega) (by decide) ?_
                          refine g_bipush E (-2) dX3_number_133 (by decide) ?_
                          exact RET 135 _ (-2) _ dX3_number_135 rfl (by rw [r_X3_number, if_neg c_3, if_neg c_12, if_neg w_26_0, if_neg w_26_1, if_neg w_26_2, if_neg w_26_3, if_neg w_26_4, if_neg w_26_5, if_neg w_26_6, if_neg w_26_7, if_neg w_26_8, if_neg w_26_9]) rfl
    · skip
      refine g_aload_n E 0 dX3_number_15 rfl rfl ?_
      refine g_get E (ci := 3) inlX3 4 rfl rfl 0 (by decide) fl_X3_18 rfl (.ref (a 1)) rfl dX3_number_16 ?_
      refine g_iload_n E 1 dX3_number_19 rfl rfl ?_
      refine g_bipush E 10 dX3_number_20 (by decide) ?_
      refine g_isub E dX3_number_22 ?_
      refine g_iald E 5 rfl rfl ((what - 10).toNatClampNeg) (ix_eq (ix_sub10 c_3 c_12)) (ix_lt (N := 7) (ix_sub10 c_3 c_12) c_12) (by decide) dX3_number_23 ?_
      exact RET 24 _ (S.2.1 ((what - 10).toNatClampNeg)) _ dX3_number_24 rfl (by rw [r_X3_number, if_neg c_3, if_pos c_12]) rfl
set_option maxHeartbeats 1000000 in
set_option maxRecDepth 100000 in
theorem t_X3_number (d : gD) (a : Nat → Nat) (what : Int32) (S : SS)  : gMi d yX3_number cX3_number 2 (some .int) R_X3_number [.ref (a 0), .int what] (SK d a S) (fun r_ u_ => r_ = r_X3_number what S ∧ u_ = SK d a S) :=
  g_met_i RX3 rfl (by decide +kernel) (Nat.le_of_ble_eq_true rfl) [(0, .ref (a 0)), (1, .int what)] rfl (fun X E RET => s_X3_number_0 d a what S  E (fun pc_ lv_ v_ u_ h1_ h2_ h3_ h4_ => RET pc_ lv_ v_ u_ h1_ h2_ ⟨h3_, h4_⟩))
abbrev R_X3_changeSetting : Room := { frames := 0, cells := 0, slots := 0, locals := 0 }
def j_X3_changeSetting_47_g (setting : Int32) (value : Int32) (S : SS) : Nat → Int32 := if setting < 0 then (upd S.1 9 ((upd S.2.1 ((setting).toNatClampNeg) value) 1)) else (if setting < 7 then (if setting = 1 then (upd S.1 9 ((upd S.2.1 ((setting).toNatClampNeg) value) 1)) else (if setting = 2 then (upd S.1 9 ((upd S.2.1 ((setting).toNatClampNeg) value) 1)) else S.1)) else (upd S.1 9 ((upd S.2.1 ((setting).toNatClampNeg) value) 1)))
def r_X3_changeSetting_at47 (setting : Int32) (value : Int32) (S : SS) : Int32 := (S.2.1 ((setting).toNatClampNeg))
def c_X3_changeSetting_at47 (setting : Int32) (value : Int32) (S : SS) : SS := ((j_X3_changeSetting_47_g setting value S), upd S.2.1 ((setting).toNatClampNeg) value, S.2.2)
def r_X3_changeSetting (setting : Int32) (value : Int32) (S : SS) : Int32 := if setting < 0 then (-2) else (if setting < 7 then (r_X3_changeSetting_at47 setting value S) else (-2))
def c_X3_changeSetting (setting : Int32) (value : Int32) (S : SS) : SS := if setting < 0 then S else (if setting < 7 then (c_X3_changeSetting_at47 setting value S) else S)
set_option maxHeartbeats 1000000 in
set_option maxRecDepth 100000 in
theorem s_X3_changeSetting_47 (d : gD) (a : Nat → Nat) (setting : Int32) (value : Int32) (S : SS)   {X : gX} (E : gE d X RX3 cX3_changeSetting 4 R_X3_changeSetting) (RET : ∀ (pc_ : Nat) (lv_ : List (Nat × Value)) (v_ : Int32) (u_ : va_W), decode cX3_changeSetting pc_ = .ok (.ireturn, 1) → narrow .int (.int v_) = .int v_ → v_ = r_X3_changeSetting_at47 setting value S → u_ = SK d a (c_X3_changeSetting_at47 setting value S) → G d X u_ R_X3_changeSetting.cells R_X3_changeSetting.slots pc_ lv_ [.int v_]) : G d X (SK d a ((j_X3_changeSetting_47_g setting value S), upd S.2.1 ((setting).toNatClampNeg) value, S.2.2)) 0 0 47 [(0, .ref (a 0)), (1, .int setting), (2, .int value), (3, .int (S.2.1 ((setting).toNatClampNeg)))] [] := by
  obtain ⟨J1_, hJ1_⟩ : ∃ z, j_X3_changeSetting_47_g setting value S = z := ⟨_, rfl⟩
  rw [hJ1_]
  refine g_iload_n E 3 dX3_changeSetting_47 rfl rfl ?_
  subst hJ1_
  exact RET 48 _ (S.2.1 ((setting).toNatClampNeg)) _ dX3_changeSetting_48 rfl (by rw [r_X3_changeSetting_at47]) (by rw [c_X3_changeSetting_at47])
set_option maxHeartbeats 1000000 in
set_option maxRecDepth 100000 in
theorem s_X3_changeSetting_0 (d : gD) (a : Nat → Nat) (setting : Int32) (value : Int32) (S : SS)   {X : gX} (E : gE d X RX3 cX3_changeSetting 4 R_X3_changeSetting) (RET : ∀ (pc_ : Nat) (lv_ : List (Nat × Value)) (v_ : Int32) (u_ : va_W), decode cX3_changeSetting pc_ = .ok (.ireturn, 1) → narrow .int (.int v_) = .int v_ → v_ = r_X3_changeSetting setting value S → u_ = SK d a (c_X3_changeSetting setting value S) → G d X u_ R_X3_changeSetting.cells R_X3_changeSetting.slots pc_ lv_ [.int v_]) : G d X (SK d a S) 0 0 0 [(0, .ref (a 0)), (1, .int setting), (2, .int value)] [] := by
  refine g_iload_n E 1 dX3_changeSetting_0 rfl rfl ?_
  refine g_iflt E 10 dX3_changeSetting_1 (by decide) (fun c_1 => ?_) (fun c_1 => ?_)
  · skip
    refine g_bipush E (-2) dX3_changeSetting_10 (by decide) ?_
    exact RET 12 _ (-2) _ dX3_changeSetting_12 rfl (by rw [r_X3_changeSetting, if_pos c_1]) (by rw [c_X3_changeSetting, if_pos c_1])
  · skip
    refine g_iload_n E 1 dX3_changeSetting_4 rfl rfl ?_
    refine g_bipush E 7 dX3_changeSetting_5 (by decide) ?_
    refine g_icmplt E 13 dX3_changeSetting_7 (by decide) (fun c_7 => ?_) (fun c_7 => ?_)
    · skip
      refine g_aload_n E 0 dX3_changeSetting_13 rfl rfl ?_
      refine g_get E (ci := 3) inlX3 4 rfl rfl 0 (by decide) fl_X3_18 rfl (.ref (a 1)) rfl dX3_changeSetting_14 ?_
      refine g_iload_n E 1 dX3_changeSetting_17 rfl rfl ?_
      refine g_iald E 5 rfl rfl ((setting).toNatClampNeg) (ix_eq c_1) (ix_lt (N := 7) c_1 c_7) (by decide) dX3_changeSetting_18 ?_
      refine g_istore_n E (lv' := [(3, .int (S.2.1 ((setting).toNatClampNeg))), (0, .ref (a 0)), (1, .int setting), (2, .int value)]) dX3_changeSetting_19 rfl (by decide) rfl ?_
      refine g_aload_n E 1 dX3_changeSetting_20 rfl rfl ?_
      refine g_get E (ci := 3) inlX3 4 rfl rfl 0 (by decide) fl_X3_18 rfl (.ref (a 1)) rfl dX3_changeSetting_21 ?_
      refine g_iload_n E 2 dX3_changeSetting_24 rfl rfl ?_
      refine g_iload_n E 3 dX3_changeSetting_25 rfl rfl ?_
      refine g_iast E 5 rfl rfl ((setting).toNatClampNeg) (ix_eq c_1) (ix_lt (N := 7) c_1 c_7) (by decide) (ws' := SK d a (S.1, upd S.2.1 ((setting).toNatClampNeg) value, S.2.2)) rfl dX3_changeSetting_26 ?_
      refine g_iload_n E 2 dX3_changeSetting_27 rfl rfl ?_
      refine g_iconst E 1 dX3_changeSetting_28 (by decide) ?_
      refine g_icmpeq E 37 dX3_changeSetting_29 (by decide) (fun c_29 => ?_) (fun c_29 => ?_)
      · skip
        refine g_aload_n E 1 dX3_changeSetting_37 rfl rfl ?_
        refine g_aload_n E 1 dX3_changeSetting_38 rfl rfl ?_
        refine g_get E (ci := 3) inlX3 4 rfl rfl 0 (by decide) fl_X3_18 rfl (.ref (a 1)) rfl dX3_changeSetting_39 ?_
        refine g_iconst E 1 dX3_changeSetting_42 (by decide) ?_
        refine g_iald E 5 rfl rfl 1 rfl (by decide) (by decide) dX3_changeSetting_43 ?_
        refine g_top (b := (upd S.2.1 ((setting).toNatClampNeg) value) 1) rfl ?_
        refine g_put E (ci := 3) inlX3 4 rfl rfl 4 (by decide) tyX3 tyX3_ok nmX3 fl_X3_37 rfl rfl rfl rfl (ok_lt rfl) (ws' := SK d a (upd S.1 9 ((upd S.2.1 ((setting).toNatClampNeg) value) 1), upd S.2.1 ((setting).toNatClampNeg) value, S.2.2)) rfl dX3_changeSetting_44 ?_
        refine g_lvs (lv' := [(0, .ref (a 0)), (1, .int setting), (2, .int value), (3, .int (S.2.1 ((setting).toNatClampNeg)))]) [1, 2, 3, 0] rfl ?_
        have J := s_X3_changeSetting_47 d a setting value S   E (fun pc_ lv_ v_ u_ h1_ h2_ h3_ h4_ => RET pc_ lv_ v_ u_ h1_ h2_ (h3_.trans (by rw [r_X3_changeSetting, if_neg c_1, if_pos c_7])) (h4_.trans (by rw [c_X3_changeSetting, if_neg c_1, if_pos c_7])))
        rw [j_X3_changeSetting_47_g, if_neg c_1, if_pos c_7, if_pos c_29] at J
        exact J
      · skip
        refine g_iload_n E 2 dX3_changeSetting_32 rfl rfl ?_
        refine g_iconst E 2 dX3_changeSetting_33 (by decide) ?_
        refine g_icmpne E 47 dX3_changeSetting_34 (by decide) (fun c_34 => ?_) (fun c_34 => ?_)
        · skip
          refine g_lvs (lv' := [(0, .ref (a 0)), (1, .int setting), (2, .int value), (3, .int (S.2.1 ((setting).toNatClampNeg)))]) [1, 2, 3, 0] rfl ?_
          have J := s_X3_changeSetting_47 d a setting value S   E (fun pc_ lv_ v_ u_ h1_ h2_ h3_ h4_ => RET pc_ lv_ v_ u_ h1_ h2_ (h3_.trans (by rw [r_X3_changeSetting, if_neg c_1, if_pos c_7])) (h4_.trans (by rw [c_X3_changeSetting, if_neg c_1, if_pos c_7])))
          rw [j_X3_changeSetting_47_g, if_neg c_1, if_pos c_7, if_neg c_29, if_neg c_34] at J
          exact J
        · skip
          refine g_aload_n E 1 dX3_changeSetting_37 rfl rfl ?_
          refine g_aload_n E 1 dX3_changeSetting_38 rfl rfl ?_
          refine g_get E (ci := 3) inlX3 4 rfl rfl 0 (by decide) fl_X3_18 rfl (.ref (a 1)) rfl dX3_changeSetting_39 ?_
          refine g_iconst E 1 dX3_changeSetting_42 (by decide) ?_
          refine g_iald E 5 rfl rfl 1 rfl (by decide) (by decide) dX3_changeSetting_43 ?_
          refine g_top (b := (upd S.2.1 ((setting).toNatClampNeg) value) 1) rfl ?_
          refine g_put E (ci := 3) inlX3 4 rfl rfl 4 (by decide) tyX3 tyX3_ok nmX3 fl_X3_37 rfl rfl rfl rfl (ok_lt rfl) (ws' := SK d a (upd S.1 9 ((upd S.2.1 ((setting).toNatClampNeg) value) 1), upd S.2.1 ((setting).toNatClampNeg) value, S.2.2)) rfl dX3_changeSetting_44 ?_
          refine g_lvs (lv' := [(0, .ref (a 0)), (1, .int setting), (2, .int value), (3, .int (S.2.1 ((setting).toNatClampNeg)))]) [1, 2, 3, 0] rfl ?_
          have J := s_X3_changeSetting_47 d a setting value S   E (fun pc_ lv_ v_ u_ h1_ h2_ h3_ h4_ => RET pc_ lv_ v_ u_ h1_ h2_ (h3_.trans (by rw [r_X3_changeSetting, if_neg c_1, if_pos c_7])) (h4_.trans (by rw [c_X3_changeSetting, if_neg c_1, if_pos c_7])))
          rw [j_X3_changeSetting_47_g, if_neg c_1, if_pos c_7, if_neg c_29, if_pos c_34] at J
          exact J
    · skip
      refine g_bipush E (-2) dX3_changeSetting_10 (by decide) ?_
      exact RET 12 _ (-2) _ dX3_changeSetting_12 rfl (by rw [r_X3_changeSetting, if_neg c_1, if_neg c_7]) (by rw [c_X3_changeSetting, if_neg c_1, if_neg c_7])
set_option maxHeartbeats 1000000 in
set_option maxRecDepth 100000 in
theorem t_X3_changeSetting (d : gD) (a : Nat → Nat) (setting : Int32) (value : Int32) (S : SS)  : gMi d yX3_changeSetting cX3_changeSetting 4 (some .int) R_X3_changeSetting [.ref (a 0), .int setting, .int value] (SK d a S) (fun r_ u_ => r_ = r_X3_changeSetting setting value S ∧ u_ = SK d a (c_X3_changeSetting setting value S)) :=
  g_met_i RX3 rfl (by decide +kernel) (Nat.le_of_ble_eq_true rfl) [(0, .ref (a 0)), (1, .int setting), (2, .int value)] rfl (fun X E RET => s_X3_changeSetting_0 d a setting value S  E (fun pc_ lv_ v_ u_ h1_ h2_ h3_ h4_ => RET pc_ lv_ v_ u_ h1_ h2_ ⟨h3_, h4_⟩))
abbrev R_X3_toMiddle : Room := { frames := 1, cells := 0, slots := 0, locals := 14 }
def r_X3_toMiddle (S : SS) : Int32 := ((iabs ((S.1 7) - 2048)) + (iabs ((S.1 8) - 2048)))
def c_X3_toMiddle (S : SS) : SS := (upd (upd (upd (upd S.1 7 2048) 8 2048) 9 (S.2.1 1)) 12 0, S.2)
set_option maxHeartbeats 1000000 in
set_option maxRecDepth 100000 in
theorem s_X3_toMiddle_0 (d : gD) (a : Nat → Nat) (S : SS)   {X : gX} (E : gE d X RX3 cX3_toMiddle 2 R_X3_toMiddle) (RET : ∀ (pc_ : Nat) (lv_ : List (Nat × Value)) (v_ : Int32) (u_ : va_W), decode cX3_toMiddle pc_ = .ok (.ireturn, 1) → narrow .int (.int v_) = .int v_ → v_ = r_X3_toMiddle S → u_ = SK d a (c_X3_toMiddle S) → G d X u_ R_X3_toMiddle.cells R_X3_toMiddle.slots pc_ lv_ [.int v_]) : G d X (SK d a S) 0 0 0 [(0, .ref (a 0))] [] := by
  refine g_aload_n E 0 dX3_toMiddle_0 rfl rfl ?_
  refine g_get E (ci := 3) inlX3 4 rfl rfl 2 (by decide) fl_X3_30 rfl (.int (S.1 7)) rfl dX3_toMiddle_1 ?_
  refine g_sipush E 2048 dX3_toMiddle_4 (by decide) ?_
  refine g_isub E dX3_toMiddle_7 ?_
  refine g_abs E ml_X3_86 (ok_le rfl) (ok_le rfl) (ok_le rfl) (ok_le rfl) dX3_toMiddle_8 ?_
  refine g_top (b := iabs ((S.1 7) - 2048)) rfl ?_
  refine g_aload_n E 0 dX3_toMiddle_11 rfl rfl ?_
  refine g_get E (ci := 3) inlX3 4 rfl rfl 3 (by decide) fl_X3_34 rfl (.int (S.1 8)) rfl dX3_toMiddle_12 ?_
  refine g_sipush E 2048 dX3_toMiddle_15 (by decide) ?_
  refine g_isub E dX3_toMiddle_18 ?_
  refine g_abs E ml_X3_86 (ok_le rfl) (ok_le rfl) (ok_le rfl) (ok_le rfl) dX3_toMiddle_19 ?_
  refine g_top (b := iabs ((S.1 8) - 2048)) rfl ?_
  refine g_iadd E dX3_toMiddle_22 ?_
  refine g_istore_n E (lv' := [(1, .int ((iabs ((S.1 7) - 2048)) + (iabs ((S.1 8) - 2048)))), (0, .ref (a 0))]) dX3_toMiddle_23 rfl (by decide) rfl ?_
  refine g_aload_n E 1 dX3_toMiddle_24 rfl rfl ?_
  refine g_sipush E 2048 dX3_toMiddle_25 (by decide) ?_
  refine g_put E (ci := 3) inlX3 4 rfl rfl 2 (by decide) tyX3 tyX3_ok nmX3 fl_X3_30 rfl rfl rfl rfl (ok_lt rfl) (ws' := SK d a (upd S.1 7 2048, S.2)) rfl dX3_toMiddle_28 ?_
  refine g_aload_n E 1 dX3_toMiddle_31 rfl rfl ?_
  refine g_sipush E 2048 dX3_toMiddle_32 (by decide) ?_
  refine g_put E (ci := 3) inlX3 4 rfl rfl 3 (by decide) tyX3 tyX3_ok nmX3 fl_X3_34 rfl rfl rfl rfl (ok_lt rfl) (ws' := SK d a (upd (upd S.1 7 2048) 8 2048, S.2)) rfl dX3_toMiddle_35 ?_
  refine g_aload_n E 1 dX3_toMiddle_38 rfl rfl ?_
  refine g_aload_n E 1 dX3_toMiddle_39 rfl rfl ?_
  refine g_get E (ci := 3) inlX3 4 rfl rfl 0 (by decide) fl_X3_18 rfl (.ref (a 1)) rfl dX3_toMiddle_40 ?_
  refine g_iconst E 1 dX3_toMiddle_43 (by decide) ?_
  refine g_iald E 5 rfl rfl 1 rfl (by decide) (by decide) dX3_toMiddle_44 ?_
  refine g_put E (ci := 3) inlX3 4 rfl rfl 4 (by decide) tyX3 tyX3_ok nmX3 fl_X3_37 rfl rfl rfl rfl (ok_lt rfl) (ws' := SK d a (upd (upd (upd S.1 7 2048) 8 2048) 9 (S.2.1 1), S.2)) rfl dX3_toMiddle_45 ?_
  refine g_aload_n E 1 dX3_toMiddle_48 rfl rfl ?_
  refine g_iconst E 0 dX3_toMiddle_49 (by decide) ?_
  refine g_put E (ci := 3) inlX3 4 rfl rfl 9 (by decide) tyX3 tyX3_ok nmX3 fl_X3_62 rfl rfl rfl rfl (ok_lt rfl) (ws' := SK d a (upd (upd (upd (upd S.1 7 2048) 8 2048) 9 (S.2.1 1)) 12 0, S.2)) rfl dX3_toMiddle_50 ?_
  refine g_iload_n E 0 dX3_toMiddle_53 rfl rfl ?_
  exact RET 54 _ ((iabs ((S.1 7) - 2048)) + (iabs ((S.1 8) - 2048))) _ dX3_toMiddle_54 rfl (by rw [r_X3_toMiddle]) (by rw [c_X3_toMiddle])
set_option maxHeartbeats 1000000 in
set_option maxRecDepth 100000 in
theorem t_X3_toMiddle (d : gD) (a : Nat → Nat) (S : SS)  : gMi d yX3_toMiddle cX3_toMiddle 2 (some .int) R_X3_toMiddle [.ref (a 0)] (SK d a S) (fun r_ u_ => r_ = r_X3_toMiddle S ∧ u_ = SK d a (c_X3_toMiddle S)) :=
  g_met_i RX3 rfl (by decide +kernel) (Nat.le_of_ble_eq_true rfl) [(0, .ref (a 0))] rfl (fun X E RET => s_X3_toMiddle_0 d a S  E (fun pc_ lv_ v_ u_ h1_ h2_ h3_ h4_ => RET pc_ lv_ v_ u_ h1_ h2_ ⟨h3_, h4_⟩))
