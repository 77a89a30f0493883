abbrev R_J6_compare_7cf53 : Room := { frames := 0, cells := 0, slots := 0, locals := 0 }
def r_J6_compare_7cf53 (x : Int32) (y : Int32) : Int32 := if x < y then (-1) else (if x = y then 0 else 1)
set_option maxHeartbeats 1000000 in
set_option maxRecDepth 100000 in
theorem s_J6_compare_7cf53_0 (d : gD) (x : Int32) (y : Int32)   {X : gX} (E : gE d X RJ6 cJ6_compare_7cf53 2 R_J6_compare_7cf53) (RET : ∀ (pc_ : Nat) (lv_ : List (Nat × Value)) (v_ : Int32) (u_ : va_W), decode cJ6_compare_7cf53 pc_ = .ok (.ireturn, 1) → narrow .int (.int v_) = .int v_ → v_ = r_J6_compare_7cf53 x y → u_ = [] → G d X u_ R_J6_compare_7cf53.cells R_J6_compare_7cf53.slots pc_ lv_ [.int v_]) : G d X ([]) 0 0 0 [(0, .int x), (1, .int y)] [] := by
  refine g_iload_n E 0 dJ6_compare_7cf53_0 rfl rfl ?_
  refine g_iload_n E 1 dJ6_compare_7cf53_1 rfl rfl ?_
  refine g_icmpge E 9 dJ6_compare_7cf53_2 (by decide) (fun c_2 => ?_) (fun c_2 => ?_)
  · skip
    refine g_iload_n E 0 dJ6_compare_7cf53_9 rfl rfl ?_
    refine g_iload_n E 1 dJ6_compare_7cf53_10 rfl rfl ?_
    refine g_icmpne E 18 dJ6_compare_7cf53_11 (by decide) (fun c_11 => ?_) (fun c_11 => ?_)
    · skip
      refine g_iconst E 1 dJ6_compare_7cf53_18 (by decide) ?_
      exact RET 19 _ 1 _ dJ6_compare_7cf53_19 rfl (by rw [r_J6_compare_7cf53, if_neg c_2, if_neg c_11]) rfl
    · skip
      refine g_iconst E 0 dJ6_compare_7cf53_14 (by decide) ?_
      refine g_goto E 19 dJ6_compare_7cf53_15 (by decide) ?_
      exact RET 19 _ 0 _ dJ6_compare_7cf53_19 rfl (by rw [r_J6_compare_7cf53, if_neg c_2, if_pos c_11]) rfl
  · skip
    refine g_iconst E (-1) dJ6_compare_7cf53_5 (by decide) ?_
    refine g_goto E 19 dJ6_compare_7cf53_6 (by decide) ?_
    exact RET 19 _ (-1) _ dJ6_compare_7cf53_19 rfl (by rw [r_J6_compare_7cf53, if_pos c_2]) rfl
set_option maxHeartbeats 1000000 in
set_option maxRecDepth 100000 in
theorem t_J6_compare_7cf53 (d : gD) (x : Int32) (y : Int32)  : gMi d yJ6_compare_7cf53 cJ6_compare_7cf53 2 (some .int) R_J6_compare_7cf53 [.int x, .int y] ([]) (fun r_ u_ => r_ = r_J6_compare_7cf53 x y ∧ u_ = []) :=
  g_met_i RJ6 rfl (by decide +kernel) (Nat.le_of_ble_eq_true rfl) [(0, .int x), (1, .int y)] rfl (fun X E RET => s_J6_compare_7cf53_0 d x y  E (fun pc_ lv_ v_ u_ h1_ h2_ h3_ h4_ => RET pc_ lv_ v_ u_ h1_ h2_ ⟨h3_, h4_⟩))
abbrev R_J9_floorMod_7cf53 : Room := { frames := 0, cells := 0, slots := 0, locals := 0 }
def r_J9_floorMod_7cf53 (x : Int32) (y : Int32) : Int32 := if (x ^^^ y) < 0 then (if (x - x / y * y) = 0 then (x - x / y * y) else ((x - x / y * y) + y)) else (x - x / y * y)
set_option maxHeartbeats 1000000 in
set_option maxRecDepth 100000 in
theorem s_J9_floorMod_7cf53_0 (d : gD) (x : Int32) (y : Int32) (hy : ¬ y = 0)  {X : gX} (E : gE d X RJ9 cJ9_floorMod_7cf53 3 R_J9_floorMod_7cf53) (RET : ∀ (pc_ : Nat) (lv_ : List (Nat × Value)) (v_ : Int32) (u_ : va_W), decode cJ9_floorMod_7cf53 pc_ = .ok (.ireturn, 1) → narrow .int (.int v_) = .int v_ → v_ = r_J9_floorMod_7cf53 x y → u_ = [] → G d X u_ R_J9_floorMod_7cf53.cells R_J9_floorMod_7cf53.slots pc_ lv_ [.int v_]) : G d X ([]) 0 0 0 [(0, .int x), (1, .int y)] [] := by
  refine g_iload_n E 0 dJ9_floorMod_7cf53_0 rfl rfl ?_
  refine g_iload_n E 1 dJ9_floorMod_7cf53_1 rfl rfl ?_
  refine g_irem E dJ9_floorMod_7cf53_2 hy ?_
  refine g_istore_n E (lv' := [(2, .int (x - x / y * y)), (0, .int x), (1, .int y)]) dJ9_floorMod_7cf53_3 rfl (by decide) rfl ?_
  refine g_iload_n E 1 dJ9_floorMod_7cf53_4 rfl rfl ?_
  refine g_iload_n E 2 dJ9_floorMod_7cf53_5 rfl rfl ?_
  refine g_ixor E dJ9_floorMod_7cf53_6 ?_
  refine g_ifge E 18 dJ9_floorMod_7cf53_7 (by decide) (fun c_7 => ?_) (fun c_7 => ?_)
  · skip
    refine g_iload_n E 0 dJ9_floorMod_7cf53_18 rfl rfl ?_
    exact RET 19 _ (x - x / y * y) _ dJ9_floorMod_7cf53_19 rfl (by rw [r_J9_floorMod_7cf53, if_neg c_7]) rfl
  · skip
    refine g_iload_n E 0 dJ9_floorMod_7cf53_10 rfl rfl ?_
    refine g_ifeq E 18 dJ9_floorMod_7cf53_11 (by decide) (fun c_11 => ?_) (fun c_11 => ?_)
    · skip
      refine g_iload_n E 0 dJ9_floorMod_7cf53_18 rfl rfl ?_
      exact RET 19 _ (x - x / y * y) _ dJ9_floorMod_7cf53_19 rfl (by rw [r_J9_floorMod_7cf53, if_pos c_7, if_pos c_11]) rfl
    · skip
      refine g_iload_n E 0 dJ9_floorMod_7cf53_14 rfl rfl ?_
      refine g_iload_n E 2 dJ9_floorMod_7cf53_15 rfl rfl ?_
      refine g_iadd E dJ9_floorMod_7cf53_16 ?_
      exact RET 17 _ ((x - x / y * y) + y) _ dJ9_floorMod_7cf53_17 rfl (by rw [r_J9_floorMod_7cf53, if_pos c_7, if_neg c_11]) rfl
set_option maxHeartbeats 1000000 in
set_option maxRecDepth 100000 in
theorem t_J9_floorMod_7cf53 (d : gD) (x : Int32) (y : Int32) (hy : ¬ y = 0) : gMi d yJ9_floorMod_7cf53 cJ9_floorMod_7cf53 3 (some .int) R_J9_floorMod_7cf53 [.int x, .int y] ([]) (fun r_ u_ => r_ = r_J9_floorMod_7cf53 x y ∧ u_ = []) :=
  g_met_i RJ9 rfl (by decide +kernel) (Nat.le_of_ble_eq_true rfl) [(0, .int x), (1, .int y)] rfl (fun X E RET => s_J9_floorMod_7cf53_0 d x y hy E (fun pc_ lv_ v_ u_ h1_ h2_ h3_ h4_ => RET pc_ lv_ v_ u_ h1_ h2_ ⟨h3_, h4_⟩))
abbrev R_X4_isSample : Room := { frames := 0, cells := 0, slots := 0, locals := 0 }
def r_X4_isSample (x : Int32) (y : Int32) : Int32 := if x < 0 then 0 else (if 255 < x then 0 else (if y < 0 then 0 else (if 255 < y then 0 else 1)))
set_option maxHeartbeats 1000000 in
set_option maxRecDepth 100000 in
theorem s_X4_isSample_0 (d : gD) (x : Int32) (y : Int32)   {X : gX} (E : gE d X RX4 cX4_isSample 2 R_X4_isSample) (RET : ∀ (pc_ : Nat) (lv_ : List (Nat × Value)) (v_ : Int32) (u_ : va_W), decode cX4_isSample pc_ = .ok (.ireturn, 1) → narrow .boolean (.int v_) = .int v_ → v_ = r_X4_isSample x y → u_ = [] → G d X u_ R_X4_isSample.cells R_X4_isSample.slots pc_ lv_ [.int v_]) : G d X ([]) 0 0 0 [(0, .int x), (1, .int y)] [] := by
  refine g_iload_n E 0 dX4_isSample_0 rfl rfl ?_
  refine g_iflt E 26 dX4_isSample_1 (by decide) (fun c_1 => ?_) (fun c_1 => ?_)
  · skip
    refine g_iconst E 0 dX4_isSample_26 (by decide) ?_
    exact RET 27 _ 0 _ dX4_isSample_27 rfl (by rw [r_X4_isSample, if_pos c_1]) rfl
  · skip
    refine g_iload_n E 0 dX4_isSample_4 rfl rfl ?_
    refine g_sipush E 255 dX4_isSample_5 (by decide) ?_
    refine g_icmpgt E 26 dX4_isSample_8 (by decide) (fun c_8 => ?_) (fun c_8 => ?_)
    · skip
      refine g_iconst E 0 dX4_isSample_26 (by decide) ?_
      exact RET 27 _ 0 _ dX4_isSample_27 rfl (by rw [r_X4_isSample, if_neg c_1, if_pos c_8]) rfl
    · skip
      refine g_iload_n E 1 dX4_isSample_11 rfl rfl ?_
      refine g_iflt E 26 dX4_isSample_12 (by decide) (fun c_12 => ?_) (fun c_12 => ?_)
      · skip
        refine g_iconst E 0 dX4_isSample_26 (by decide) ?_
        exact RET 27 _ 0 _ dX4_isSample_27 rfl (by rw [r_X4_isSample, if_neg c_1, if_neg c_8, if_pos c_12]) rfl
      · skip
        refine g_iload_n E 1 dX4_isSample_15 rfl rfl ?_
        refine g_sipush E 255 dX4_isSample_16 (by decide) ?_
        refine g_icmpgt E 26 dX4_isSample_19 (by decide) (fun c_19 => ?_) (fun c_19 => ?_)
        · skip
          refine g_iconst E 0 dX4_isSample_26 (by decide) ?_
          exact RET 27 _ 0 _ dX4_isSample_27 rfl (by rw [r_X4_isSample, if_neg c_1, if_neg c_8, if_neg c_12, if_pos c_19]) rfl
        · skip
          refine g_iconst E 1 dX4_isSample_22 (by decide) ?_
          refine g_goto E 27 dX4_isSample_23 (by decide) ?_
          exact RET 27 _ 1 _ dX4_isSample_27 rfl (by rw [r_X4_isSample, if_neg c_1, if_neg c_8, if_neg c_12, if_neg c_19]) rfl
set_option maxHeartbeats 1000000 in
set_option maxRecDepth 100000 in
theorem t_X4_isSample (d : gD) (x : Int32) (y : Int32)  : gMi d yX4_isSample cX4_isSample 2 (some .boolean) R_X4_isSample [.int x, .int y] ([]) (fun r_ u_ => r_ = r_X4_isSample x y ∧ u_ = []) :=
  g_met_i RX4 rfl (by decide +kernel) (Nat.le_of_ble_eq_true rfl) [(0, .int x), (1, .int y)] rfl (fun X E RET => s_X4_isSample_0 d x y  E (fun pc_ lv_ v_ u_ h1_ h2_ h3_ h4_ => RET pc_ lv_ v_ u_ h1_ h2_ ⟨h3_, h4_⟩))
abbrev R_X4_packed : Room := { frames := 0, cells := 0, slots := 0, locals := 0 }
def r_X4_packed (x : Int32) (y : Int32) : Int32 := (((1000 * (x + 100)) + y) + 100)
set_option maxHeartbeats 1000000 in
set_option maxRecDepth 100000 in
theorem s_X4_packed_0 (d : gD) (x : Int32) (y : Int32)   {X : gX} (E : gE d X RX4 cX4_packed 2 R_X4_packed) (RET : ∀ (pc_ : Nat) (lv_ : List (Nat × Value)) (v_ : Int32) (u_ : va_W), decode cX4_packed pc_ = .ok (.ireturn, 1) → narrow .int (.int v_) = .int v_ → v_ = r_X4_packed x y → u_ = [] → G d X u_ R_X4_packed.cells R_X4_packed.slots pc_ lv_ [.int v_]) : G d X ([]) 0 0 0 [(0, .int x), (1, .int y)] [] := by
  refine g_sipush E 1000 dX4_packed_0 (by decide) ?_
  refine g_iload_n E 0 dX4_packed_3 rfl rfl ?_
  refine g_bipush E 100 dX4_packed_4 (by decide) ?_
  refine g_iadd E dX4_packed_6 ?_
  refine g_imul E dX4_packed_7 ?_
  refine g_iload_n E 1 dX4_packed_8 rfl rfl ?_
  refine g_iadd E dX4_packed_9 ?_
  refine g_bipush E 100 dX4_packed_10 (by decide) ?_
  refine g_iadd E dX4_packed_12 ?_
  exact RET 13 _ (((1000 * (x + 100)) + y) + 100) _ dX4_packed_13 rfl (by rw [r_X4_packed]) rfl
set_option maxHeartbeats 1000000 in
set_option maxRecDepth 100000 in
theorem t_X4_packed (d : gD) (x : Int32) (y : Int32)  : gMi d yX4_packed cX4_packed 2 (some .int) R_X4_packed [.int x, .int y] ([]) (fun r_ u_ => r_ = r_X4_packed x y ∧ u_ = []) :=
  g_met_i RX4 rfl (by decide +kernel) (Nat.le_of_ble_eq_true rfl) [(0, .int x), (1, .int y)] rfl (fun X E RET => s_X4_packed_0 d x y  E (fun pc_ lv_ v_ u_ h1_ h2_ h3_ h4_ => RET pc_ lv_ v_ u_ h1_ h2_ ⟨h3_, h4_⟩))
abbrev R_X4_quotient : Room := { frames := 0, cells := 0, slots := 0, locals := 0 }
def r_X4_quotient (x : Int32) (y : Int32) : Int32 := if y = 0 then 0 else (x / y)
set_option maxHeartbeats 1000000 in
set_option maxRecDepth 100000 in
theorem s_X4_quotient_0 (d : gD) (x : Int32) (y : Int32)   {X : gX} (E : gE d X RX4 cX4_quotient 2 R_X4_quotient) (RET : ∀ (pc_ : Nat) (lv_ : List (Nat × Value)) (v_ : Int32) (u_ : va_W), decode cX4_quotient pc_ = .ok (.ireturn, 1) → narrow .int (.int v_) = .int v_ → v_ = r_X4_quotient x y → u_ = [] → G d X u_ R_X4_quotient.cells R_X4_quotient.slots pc_ lv_ [.int v_]) : G d X ([]) 0 0 0 [(0, .int x), (1, .int y)] [] := by
  refine g_iload_n E 1 dX4_quotient_0 rfl rfl ?_
  refine g_ifne E 8 dX4_quotient_1 (by decide) (fun c_1 => ?_) (fun c_1 => ?_)
  · skip
    refine g_iload_n E 0 dX4_quotient_8 rfl rfl ?_
    refine g_iload_n E 1 dX4_quotient_9 rfl rfl ?_
    refine g_idiv E dX4_quotient_10 c_1 ?_
    exact RET 11 _ (x / y) _ dX4_quotient_11 rfl (by rw [r_X4_quotient, if_neg c_1]) rfl
  · skip
    refine g_iconst E 0 dX4_quotient_4 (by decide) ?_
    refine g_goto E 11 dX4_quotient_5 (by decide) ?_
    exact RET 11 _ 0 _ dX4_quotient_11 rfl (by rw [r_X4_quotient, if_pos c_1]) rfl
set_option maxHeartbeats 1000000 in
set_option maxRecDepth 100000 in
theorem t_X4_quotient (d : gD) (x : Int32) (y : Int32)  : gMi d yX4_quotient cX4_quotient 2 (some .int) R_X4_quotient [.int x, .int y] ([]) (fun r_ u_ => r_ = r_X4_quotient x y ∧ u_ = []) :=
  g_met_i RX4 rfl (by decide +kernel) (Nat.le_of_ble_eq_true rfl) [(0, .int x), (1, .int y)] rfl (fun X E RET => s_X4_quotient_0 d x y  E (fun pc_ lv_ v_ u_ h1_ h2_ h3_ h4_ => RET pc_ lv_ v_ u_ h1_ h2_ ⟨h3_, h4_⟩))
