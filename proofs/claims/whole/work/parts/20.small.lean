abbrev R_J6_compare_7cf53 : Room := { frames := 0, cells := 0, slots := 0, locals := 0 }
def r_J6_compare_7cf53 (x : Int32) (y : Int32) : Int32 := if x < y then (-1) else (if x = y then 0 else 1)
set_option maxHeartbeats 1000000 in
set_option maxRecDepth 100000 in
theorem s_J6_compare_7cf53_0 (d : gD) (x : Int32) (y : Int32)   {X : gX} (E : gE d X RJ6 cJ6_compare_7cf53 2 R_J6_compare_7cf53) (RET : ∀ (pc_ : Nat) (lv_ : List (Nat × Value)) (v_ : Int32) (u_ : va_W), decode cJ6_compare_7cf53 pc_ = .ok (.ireturn, 1) → narrow .int (.int v_) = .int v_ → v_ = r_J6_compare_7cf53 x y → u_ = [] → G d X u_ R_J6_compare_7cf53.cells R_J6_compare_7cf53.slots pc_ lv_ [.int v_]) : G d X ([]) 0 0 0 [(0, .int x), (1, .int y)] [] := by
  refine g_iload_n E 0 dJ6_compare_7cf53_0 rfl rfl ?_
  refine g_iload_n E 1 dJ6_compare_7cf53_1 rfl rfl ?_
  refine g_icmpge E 9 dJ6_compare_7cf53_2 (by decide) (fun c_2 => ?_) (fun c_2 => ?_)
  · skip
    refine g_iload_n E 0 dJ6_compare_7cf53_9 rfl rfl ?_
    refine g_iload_n E 1 dJ6_compare_7cf53_10 rfl rfl ?_
    refine g_icmpne E 18 dJ6_compare_7cf53_11 (by decide) (fun c_11 => ?_) (fun c_11 => ?_)
    · skip
      refine g_iconst E 1 dJ6_compare_7cf53_18 (by decide) ?_
      exact RET 19 _ 1 _ dJ6_compare_7cf53_19 rfl (by rw [r_J6_compare_7cf53, if_neg c_2, if_neg c_11]) rfl
    · skip
      refine g_iconst E 0 dJ6_compare_7cf53_14 (by decide) ?_
      refine g_goto E 19 dJ6_compare_7cf53_15 (by decide) ?_
      exact RET 19 _ 0 _ dJ6_compare_7cf53_19 rfl (by rw [r_J6_compare_7cf53, if_neg c_2, if_pos c_11]) rfl
  · skip
    refine g_iconst E (-1) dJ6_compare_7cf53_5 (by decide) ?_
    refine g_goto E 19 dJ6_compare_7cf53_6 (by decide) ?_
    exact RET 19 _ (-1) _ dJ6_compare_7cf53_19 rfl (by rw [r_J6_compare_7cf53, if_pos c_2]) rfl
set_option maxHeartbeats 1000000 in
set_option maxRecDepth 100000 in
theorem t_J6_compare_7cf53 (d : gD) (x : Int32) (y : Int32)  : gMi d yJ6_compare_7cf53 cJ6_compare_7cf53 2 (some .int) R_J6_compare_7cf53 [.int x, .int y] ([]) (fun r_ u_ => r_ = r_J6_compare_7cf53 x y ∧ u_ = []) :=
  g_met_i RJ6 rfl (by decide +kernel) (Nat.le_of_ble_eq_true rfl) [(0, .int x), (1, .int y)] rfl (fun X E RET => s_J6_compare_7cf53_0 d x y  E (fun pc_ lv_ v_ u_ h1_ h2_ h3_ h4_ => RET pc_ lv_ v_ u_ h1_ h2_ ⟨h3_, h4_⟩))
abbrev R_J9_floorMod_7cf53 : Room := { frames := 0, cells := 0, slots := 0, locals := 0 }
def r_J9_floorMod_7cf53 (x : Int32) (y : Int32) : Int32 := if (x ^^^ y) < 0 then (if (x - x / y * y) = 0 then (x - x / y * y) else ((x - x / y * y) + y)) else (x - x / y * y)
set_option maxHeartbeats 1000000 in
set_option maxRecDepth 100000 in
theorem s_J9_floorMod_7cf53_0 (d : gD) (x : Int32) (y : Int32) (hy : ¬ y = 0)  {X : gX} (E : gE d X RJ9 cJ9_floorMod_7cf53 3 R_J9_floorMod_7cf53) (RET : ∀ (pc_ : Nat) (lv_ : List (Nat × Value)) (v_ : Int32) (u_ : va_W), decode cJ9_floorMod_7cf53 pc_ = .ok (.ireturn, 1) → narrow .int (.int v_) = .int v_ → v_ = r_J9_floorMod_7cf53 x y → u_ = [] → G d X u_ R_J9_floorMod_7cf53.cells R_J9_floorMod_7cf53.slots pc_ lv_ [.int v_]) : G d X ([]) 0 0 0 [(0, .int x), (1, .int y)] [] := by
  refine g_iload_n E 0 dJ9_floorMod_7cf53_0 rfl rfl ?_
  refine g_iload_n E 1 dJ9_floorMod_7cf53_1 rfl rfl ?_
  refine g_irem E dJ9_floorMod_7cf53_2 hy ?_
  refine g_istore_n E (lv' := [(2, .int (x - x / y * y)), (0, .int x), (1, .int y)]) dJ9_floorMod_7cf53_3 rfl (by decide) rfl ?_
  refine g_iload_n E 1 dJ9_floorMod_7cf53_4 rfl rfl ?_
  refine g_iload_n E 2 dJ9_floorMod_7cf53_5 rfl rfl ?_
  refine g_ixor E dJ9_floorMod_7cf53_6 ?_
  refine g_ifge E 18 dJ9_floorMod_7cf53_7 (by decide) (fun c_7 => ?_) (fun c_7 => ?_)
  · skip
    refine g_iload_n E 0 dJ9_floorMod_7cf53_18 rfl rfl ?_
    exact RET 19 _ (x - x / y * y) _ dJ9_floorMod_7cf53_19 rfl (by rw [r_J9_floorMod_7cf53, if_neg c_7]) rfl
  · skip
    refine g_iload_n E 0 dJ9_floorMod_7cf53_10 rfl rfl ?_
    refine g_ifeq E 18 dJ9_floorMod_7cf53_11 (by decide) (fun c_11 => ?_) (fun c_11 => ?_)
    · skip
      refine g_iload_n E 0 dJ9_floorMod_7cf53_18 rfl rfl ?_
      exact RET 19 _ (x - x / y * y) _ dJ9_floorMod_7cf53_19 rfl (by rw [r_J9_floorMod_7cf53, if_pos c_7, if_pos c_11]) rfl
    · skip
      refine g_iload_n E 0 dJ9_floorMod_7cf53_14 rfl rfl ?_
      refine g_iload_n E 2 dJ9_floorMod_7cf53_15 rfl rfl ?_
      refine g_iadd E dJ9_floorMod_7cf53_16 ?_
      exact RET 17 _ ((x - x / y * y) + y) _ dJ9_floorMod_7cf53_17 rfl (by rw [r_J9_floorMod_7cf53, if_pos c_7, if_neg c_11]) rfl
set_option maxHeartbeats 1000000 in
set_option maxRecDepth 100000 in
theorem t_J9_floorMod_7cf53 (d : gD) (x : Int32) (y : Int32) (hy : ¬ y = 0) : gMi d yJ9_floorMod_7cf53 cJ9_floorMod_7cf53 3 (some .int) R_J9_floorMod_7cf53 [.int x, .int y] ([]) (fun r_ u_ => r_ = r_J9_floorMod_7cf53 x y ∧ u_ = []) :=
  g_met_i RJ9 rfl (by decide +kernel) (Nat.le_of_ble_eq_true rfl) [(0, .int x), (1, .int y)] rfl (fun X E RET => s_J9_floorMod_7cf53_0 d x y hy E (fun pc_ lv_ v_ u_ h1_ h2_ h3_ h4_ => RET pc_ lv_ v_ u_ h1_ h2_ ⟨h3_, h4_⟩))
abbrev R_X4_isSample : Room := { frames := 0, cells := 0, slots := 0, locals := 0 }
def r_X4_isSample (x : Int32) (y : Int32) : Int32 := if x < 0 then 0 else (if 255 < x then 0 else (if y < 0 then 0 else (if 255 < y then 0 else 1)))
set_option maxHeartbeats 1000000 in
set_option maxRecDepth 100000 in
theorem s_X4_isSample_0 (d : gD) (x : Int32) (y : Int32)   {X : gX} (E : gE d X RX4 cX4_isSample 2 R_X4_isSample) (RET : ∀ (pc_ : Nat) (lv_ : List (Nat × Value)) (v_ : Int32) (u_ : va_W), decode cX4_isSample pc_ = .ok (.ireturn, 1) → narrow .boolean (.int v_) = .int v_ → v_ = r_X4_isSample x y → u_ = [] → G d X u_ R_X4_isSample.cells R_X4_isSample.slots pc_ lv_ [.int v_]) : G d X ([]) 0 0 0 [(0, .int x), (1, .int y)] [] := by
  refine g_iload_n E 0 dX4_isSample_0 rfl rfl ?_
  refine g_iflt E 26 dX4_isSample_1 (by decide) (fun c_1 => ?_) (fun c_1 => ?_)
  · skip
    refine g_iconst E 0 dX4_isSample_26 (by decide) ?_
    exact RET 27 _ 0 _ dX4_isSample_27 rfl (by rw [r_X4_isSample, if_pos c_1]) rfl
  · skip
    refine g_iload_n E 0 dX4_isSample_4 rfl rfl ?_
    refine g_sipush E 255 dX4_isSample_5 (by decide) ?_
    refine g_icmpgt E 26 dX4_isSample_8 (by decide) (fun c_8 => ?_) (fun c_8 => ?_)
    · skip
      refine g_iconst E 0 dX4_isSample_26 (by decide) ?_
      exact RET 27 _ 0 _ dX4_isSample_27 rfl (by rw [r_X4_isSample, if_neg c_1, if_pos c_8]) rfl
    · skip
      refine g_iload_n E 1 dX4_isSample_11 rfl rfl ?_
      refine g_iflt E 26 dX4_isSample_12 (by decide) (fun c_12 => ?_) (fun c_12 => ?_)
      · skip
        refine g_iconst E 0 dX4_isSample_26 (by decide) ?_
        exact RET 27 _ 0 _ dX4_isSample_27 rfl (by rw [r_X4_isSample, if_neg c_1, if_neg c_8, if_pos c_12]) rfl
      · skip
        refine g_iload_n E 1 dX4_isSample_15 rfl rfl ?_
        refine g_sipush E 255 dX4_isSample_16 (by decide) ?_
        refine g_icmpgt E 26 dX4_isSample_19 (by decide) (fun c_19 => ?_) (fun c_19 => ?_)
        · skip
          refine g_iconst E 0 dX4_isSample_26 (by decide) ?_
          exact RET 27 _ 0 _ dX4_isSample_27 rfl (by rw [r_X4_isSample, if_neg c_1, if_neg c_8, if_neg c_12, if_pos c_19]) rfl
        · skip
          refine g_iconst E 1 dX4_isSample_22 (by decide) ?_
          refine g_goto E 27 dX4_isSample_23 (by decide) ?_
          exact RET 27 _ 1 _ dX4_isSample_27 rfl (by rw [r_X4_isSample, if_neg c_1, if_neg c_8, if_neg c_12, if_neg c_19]) rfl
set_option maxHeartbeats 1000000 in
set_option maxRecDepth 100000 in
theorem t_X4_isSample (d : gD) (x : Int32) (y : Int32)  : gMi d yX4_isSample cX4_isSample 2 (some .boolean) R_X4_isSample [.int x, .int y] ([]) (fun r_ u_ => r_ = r_X4_isSample x y ∧ u_ = []) :=
  g_met_i RX4 rfl (by decide +kernel) (Nat.le_of_ble_eq_true rfl) [(0, .int x), (1, .int y)] rfl (fun X E RET => s_X4_isSample_0 d x y  E (fun pc_ lv_ v_ u_ h1_ h2_ h3_ h4_ => RET pc_ lv_ v_ u_ h1_ h2_ ⟨h3_, h4_⟩))
abbrev R_X4_packed : Room := { frames := 0, cells := 0, slots := 0, locals := 0 }
def r_X4_packed (x : Int32) (y : Int32) : Int32 := (((1000 * (x + 100)) + y) + 100)
set_option maxHeartbeats 1000000 in
set_option maxRecDepth 100000 in
theorem s_X4_packed_0 (d : gD) (x : Int32) (y : Int32)   {X : gX} (E : gE d X RX4 cX4_packed 2 R_X4_packed) (RET : ∀ (pc_ : Nat) (lv_ : List (Nat × Value)) (v_ : Int32) (u_ : va_W), decode cX4_packed pc_ = .ok (.ireturn, 1) → narrow .int (.int v_) = .int v_ → v_ = r_X4_packed x y → u_ = [] → G d X u_ R_X4_packed.cells R_X4_packed.slots pc_ lv_ [.int v_]) : G d X ([]) 0 0 0 [(0, .int x), (1, .int y)] [] := by
  refine g_sipush E 1000 dX4_packed_0 (by decide) ?_
  refine g_iload_n E 0 dX4_packed_3 rfl rfl ?_
  refine g_bipush E 100 dX4_packed_4 (by decide) ?_
  refine g_iadd E dX4_packed_6 ?_
  refine g_imul E dX4_packed_7 ?_
  refine g_iload_n E 1 dX4_packed_8 rfl rfl ?_
  refine g_iadd E dX4_packed_9 ?_
  refine g_bipush E 100 dX4_packed_10 (by decide) ?_
  refine g_iadd E dX4_packed_12 ?_
  exact RET 13 _ (((1000 * (x + 100)) + y) + 100) _ dX4_packed_13 rfl (by rw [r_X4_packed]) rfl
set_option maxHeartbeats 1000000 in
set_option maxRecDepth 100000 in
theorem t_X4_packed (d : gD) (x : Int32) (y : Int32)  : gMi d yX4_packed cX4_packed 2 (some .int) R_X4_packed [.int x, .int y] ([]) (fun r_ u_ => r_ = r_X4_packed x y ∧ u_ = []) :=
  g_met_i RX4 rfl (by decide +kernel) (Nat.le_of_ble_eq_true rfl) [(0, .int x), (1, .int y)] rfl (fun X E RET => s_X4_packed_0 d x y  E (fun pc_ lv_ v_ u_ h1_ h2_ h3_ h4_ => RET pc_ lv_ v_ u_ h1_ h2_ ⟨h3_, h4_⟩))
abbrev R_X4_quotient : Room := { frames := 0, cells := 0, slots := 0, locals := 0 }
def r_X4_quotient (x : Int32) (y : Int32) : Int32 := if y = 0 then 0 else (x / y)
set_option maxHeartbeats 1000000 in
set_option maxRecDepth 100000 in
theorem s_X4_quotient_0 (d : gD) (x : Int32) (y : Int32)   {X : gX} (E : gE d X RX4 cX4_quotient 2 R_X4_quotient) (RET : ∀ (pc_ : Nat) (lv_ : List (Nat × Value)) (v_ : Int32) (u_ : va_W), decode cX4_quotient pc_ = .ok (.ireturn, 1) → narrow .int (.int v_) = .int v_ → v_ = r_X4_quotient x y → u_ = [] → G d X u_ R_X4_quotient.cells R_X4_quotient.slots pc_ lv_ [.int v_]) : G d X ([]) 0 0 0 [(0, .int x), (1, .int y)] [] := by
  refine g_iload_n E 1 dX4_quotient_0 rfl rfl ?_
  refine g_ifne E 8 dX4_quotient_1 (by decide) (fun c_1 => ?_) (fun c_1 => ?_)
  · skip
    refine g_iload_n E 0 dX4_quotient_8 rfl rfl ?_
    refine g_iload_n E 1 dX4_quotient_9 rfl rfl ?_
    refine g_idiv E dX4_quotient_10 c_1 ?_
    exact RET 11 _ (x / y) _ dX4_quotient_11 rfl (by rw [r_X4_quotient, if_neg c_1]) rfl
  · skip
    refine g_iconst E 0 dX4_quotient_4 (by decide) ?_
    refine g_goto E 11 dX4_quotient_5 (by decide) ?_
    exact RET 11 _ 0 _ dX4_quotient_11 rfl (by rw [r_X4_quotient, if_pos c_1]) rfl
set_option maxHeartbeats 1000000 in
set_option maxRecDepth 100000 in
theorem t_X4_quotient (d : gD) (x : Int32) (y : Int32)  : gMi d yX4_quotient cX4_quotient 2 (some .int) R_X4_quotient [.int x, .int y] ([]) (fun r_ u_ => r_ = r_X4_quotient x y ∧ u_ = []) :=
  g_met_i RX4 rfl (by decide +kernel) (Nat.le_of_ble_eq_true rfl) [(0, .int x), (1, .int y)] rfl (fun X E RET => s_X4_quotient_0 d x y  E (fun pc_ lv_ v_ u_ h1_ h2_ h3_ h4_ => RET pc_ lv_ v_ u_ h1_ h2_ ⟨h3_, h4_⟩))
abbrev R_X5_in : Room := { frames := 0, cells := 0, slots := 0, locals := 0 }
def r_X5_in (v : Int32) (lo : Int32) (hi : Int32) : Int32 := if v < lo then 0 else (if hi < v then 0 else 1)
set_option maxHeartbeats 1000000 in
set_option maxRecDepth 100000 in
theorem s_X5_in_0 (d : gD) (v : Int32) (lo : Int32) (hi : Int32)   {X : gX} (E : gE d X RX5 cX5_in 3 R_X5_in) (RET : ∀ (pc_ : Nat) (lv_ : List (Nat × Value)) (v_ : Int32) (u_ : va_W), decode cX5_in pc_ = .ok (.ireturn, 1) → narrow .boolean (.int v_) = .int v_ → v_ = r_X5_in v lo hi → u_ = [] → G d X u_ R_X5_in.cells R_X5_in.slots pc_ lv_ [.int v_]) : G d X ([]) 0 0 0 [(0, .int v), (1, .int lo), (2, .int hi)] [] := by
  refine g_iload_n E 0 dX5_in_0 rfl rfl ?_
  refine g_iload_n E 1 dX5_in_1 rfl rfl ?_
  refine g_icmplt E 14 dX5_in_2 (by decide) (fun c_2 => ?_) (fun c_2 => ?_)
  · skip
    refine g_iconst E 0 dX5_in_14 (by decide) ?_
    exact RET 15 _ 0 _ dX5_in_15 rfl (by rw [r_X5_in, if_pos c_2]) rfl
  · skip
    refine g_iload_n E 0 dX5_in_5 rfl rfl ?_
    refine g_iload_n E 2 dX5_in_6 rfl rfl ?_
    refine g_icmpgt E 14 dX5_in_7 (by decide) (fun c_7 => ?_) (fun c_7 => ?_)
    · skip
      refine g_iconst E 0 dX5_in_14 (by decide) ?_
      exact RET 15 _ 0 _ dX5_in_15 rfl (by rw [r_X5_in, if_neg c_2, if_pos c_7]) rfl
    · skip
      refine g_iconst E 1 dX5_in_10 (by decide) ?_
      refine g_goto E 15 dX5_in_11 (by decide) ?_
      exact RET 15 _ 1 _ dX5_in_15 rfl (by rw [r_X5_in, if_neg c_2, if_neg c_7]) rfl
set_option maxHeartbeats 1000000 in
set_option maxRecDepth 100000 in
theorem t_X5_in (d : gD) (v : Int32) (lo : Int32) (hi : Int32)  : gMi d yX5_in cX5_in 3 (some .boolean) R_X5_in [.int v, .int lo, .int hi] ([]) (fun r_ u_ => r_ = r_X5_in v lo hi ∧ u_ = []) :=
  g_met_i RX5 rfl (by decide +kernel) (Nat.le_of_ble_eq_true rfl) [(0, .int v), (1, .int lo), (2, .int hi)] rfl (fun X E RET => s_X5_in_0 d v lo hi  E (fun pc_ lv_ v_ u_ h1_ h2_ h3_ h4_ => RET pc_ lv_ v_ u_ h1_ h2_ ⟨h3_, h4_⟩))
abbrev R_X5_size : Room := { frames := 0, cells := 0, slots := 0, locals := 0 }
def r_X5_size (v : Int32) : Int32 := if v < 0 then (-v) else v
set_option maxHeartbeats 1000000 in
set_option maxRecDepth 100000 in
theorem s_X5_size_0 (d : gD) (v : Int32)   {X : gX} (E : gE d X RX5 cX5_size 1 R_X5_size) (RET : ∀ (pc_ : Nat) (lv_ : List (Nat × Value)) (v_ : Int32) (u_ : va_W), decode cX5_size pc_ = .ok (.ireturn, 1) → narrow .int (.int v_) = .int v_ → v_ = r_X5_size v → u_ = [] → G d X u_ R_X5_size.cells R_X5_size.slots pc_ lv_ [.int v_]) : G d X ([]) 0 0 0 [(0, .int v)] [] := by
  refine g_iload_n E 0 dX5_size_0 rfl rfl ?_
  refine g_ifge E 9 dX5_size_1 (by decide) (fun c_1 => ?_) (fun c_1 => ?_)
  · skip
    refine g_iload_n E 0 dX5_size_9 rfl rfl ?_
    exact RET 10 _ v _ dX5_size_10 rfl (by rw [r_X5_size, if_neg c_1]) rfl
  · skip
    refine g_iload_n E 0 dX5_size_4 rfl rfl ?_
    refine g_ineg E dX5_size_5 ?_
    refine g_goto E 10 dX5_size_6 (by decide) ?_
    exact RET 10 _ (-v) _ dX5_size_10 rfl (by rw [r_X5_size, if_pos c_1]) rfl
set_option maxHeartbeats 1000000 in
set_option maxRecDepth 100000 in
theorem t_X5_size (d : gD) (v : Int32)  : gMi d yX5_size cX5_size 1 (some .int) R_X5_size [.int v] ([]) (fun r_ u_ => r_ = r_X5_size v ∧ u_ = []) :=
  g_met_i RX5 rfl (by decide +kernel) (Nat.le_of_ble_eq_true rfl) [(0, .int v)] rfl (fun X E RET => s_X5_size_0 d v  E (fun pc_ lv_ v_ u_ h1_ h2_ h3_ h4_ => RET pc_ lv_ v_ u_ h1_ h2_ ⟨h3_, h4_⟩))
abbrev R_X5_greater : Room := { frames := 0, cells := 0, slots := 0, locals := 0 }
def r_X5_greater (x : Int32) (y : Int32) : Int32 := if y < x then x else y
set_option maxHeartbeats 1000000 in
set_option maxRecDepth 100000 in
theorem s_X5_greater_0 (d : gD) (x : Int32) (y : Int32)   {X : gX} (E : gE d X RX5 cX5_greater 2 R_X5_greater) (RET : ∀ (pc_ : Nat) (lv_ : List (Nat × Value)) (v_ : Int32) (u_ : va_W), decode cX5_greater pc_ = .ok (.ireturn, 1) → narrow .int (.int v_) = .int v_ → v_ = r_X5_greater x y → u_ = [] → G d X u_ R_X5_greater.cells R_X5_greater.slots pc_ lv_ [.int v_]) : G d X ([]) 0 0 0 [(0, .int x), (1, .int y)] [] := by
  refine g_iload_n E 0 dX5_greater_0 rfl rfl ?_
  refine g_iload_n E 1 dX5_greater_1 rfl rfl ?_
  refine g_icmple E 9 dX5_greater_2 (by decide) (fun c_2 => ?_) (fun c_2 => ?_)
  · skip
    refine g_iload_n E 1 dX5_greater_9 rfl rfl ?_
    exact RET 10 _ y _ dX5_greater_10 rfl (by rw [r_X5_greater, if_neg c_2]) rfl
  · skip
    refine g_iload_n E 0 dX5_greater_5 rfl rfl ?_
    refine g_goto E 10 dX5_greater_6 (by decide) ?_
    exact RET 10 _ x _ dX5_greater_10 rfl (by rw [r_X5_greater, if_pos c_2]) rfl
set_option maxHeartbeats 1000000 in
set_option maxRecDepth 100000 in
theorem t_X5_greater (d : gD) (x : Int32) (y : Int32)  : gMi d yX5_greater cX5_greater 2 (some .int) R_X5_greater [.int x, .int y] ([]) (fun r_ u_ => r_ = r_X5_greater x y ∧ u_ = []) :=
  g_met_i RX5 rfl (by decide +kernel) (Nat.le_of_ble_eq_true rfl) [(0, .int x), (1, .int y)] rfl (fun X E RET => s_X5_greater_0 d x y  E (fun pc_ lv_ v_ u_ h1_ h2_ h3_ h4_ => RET pc_ lv_ v_ u_ h1_ h2_ ⟨h3_, h4_⟩))
abbrev R_X5_areRight : Room := { frames := 1, cells := 0, slots := 0, locals := 22 }
def r_X5_areRight (x : Int32) (y : Int32) : Int32 := if (r_X5_in x 0 255) = 0 then 0 else (if (r_X5_in y 0 255) = 0 then 0 else 1)
set_option maxHeartbeats 1000000 in
set_option maxRecDepth 100000 in
theorem s_X5_areRight_0 (d : gD) (x : Int32) (y : Int32)   {X : gX} (E : gE d X RX5 cX5_areRight 2 R_X5_areRight) (RET : ∀ (pc_ : Nat) (lv_ : List (Nat × Value)) (v_ : Int32) (u_ : va_W), decode cX5_areRight pc_ = .ok (.ireturn, 1) → narrow .boolean (.int v_) = .int v_ → v_ = r_X5_areRight x y → u_ = [] → G d X u_ R_X5_areRight.cells R_X5_areRight.slots pc_ lv_ [.int v_]) : G d X ([]) 0 0 0 [(0, .int x), (1, .int y)] [] := by
  refine g_iload_n E 0 dX5_areRight_0 rfl rfl ?_
  refine g_iconst E 0 dX5_areRight_1 (by decide) ?_
  refine g_sipush E 255 dX5_areRight_2 (by decide) ?_
  refine g_callSp E gc_X5_in ml_X5_26 (t_X5_in d x 0 255 ) rfl rfl rfl (ok_le rfl) ⟨ok_le rfl, ok_le rfl, ok_le rfl, ok_le rfl⟩ rfl rfl dX5_areRight_5 ?_
  refine g_nm (fun v1_ hv1_ => ?_)
  refine g_ifeq E 26 dX5_areRight_8 (by decide) (fun c_8 => ?_) (fun c_8 => ?_)
  · skip
    refine g_iconst E 0 dX5_areRight_26 (by decide) ?_
    subst hv1_
    exact RET 27 _ 0 _ dX5_areRight_27 rfl (by rw [r_X5_areRight, if_pos c_8]) rfl
  · skip
    refine g_iload_n E 1 dX5_areRight_11 rfl rfl ?_
    refine g_iconst E 0 dX5_areRight_12 (by decide) ?_
    refine g_sipush E 255 dX5_areRight_13 (by decide) ?_
    refine g_callSp E gc_X5_in ml_X5_26 (t_X5_in d y 0 255 ) rfl rfl rfl (ok_le rfl) ⟨ok_le rfl, ok_le rfl, ok_le rfl, ok_le rfl⟩ rfl rfl dX5_areRight_16 ?_
    refine g_nm (fun v2_ hv2_ => ?_)
    refine g_ifeq E 26 dX5_areRight_19 (by decide) (fun c_19 => ?_) (fun c_19 => ?_)
    · skip
      refine g_iconst E 0 dX5_areRight_26 (by decide) ?_
      subst hv2_
      subst hv1_
      exact RET 27 _ 0 _ dX5_areRight_27 rfl (by rw [r_X5_areRight, if_neg c_8, if_pos c_19]) rfl
    · skip
      refine g_iconst E 1 dX5_areRight_22 (by decide) ?_
      refine g_goto E 27 dX5_areRight_23 (by decide) ?_
      subst hv2_
      subst hv1_
      exact RET 27 _ 1 _ dX5_areRight_27 rfl (by rw [r_X5_areRight, if_neg c_8, if_neg c_19]) rfl
set_option maxHeartbeats 1000000 in
set_option maxRecDepth 100000 in
theorem t_X5_areRight (d : gD) (x : Int32) (y : Int32)  : gMi d yX5_areRight cX5_areRight 2 (some .boolean) R_X5_areRight [.int x, .int y] ([]) (fun r_ u_ => r_ = r_X5_areRight x y ∧ u_ = []) :=
  g_met_i RX5 rfl (by decide +kernel) (Nat.le_of_ble_eq_true rfl) [(0, .int x), (1, .int y)] rfl (fun X E RET => s_X5_areRight_0 d x y  E (fun pc_ lv_ v_ u_ h1_ h2_ h3_ h4_ => RET pc_ lv_ v_ u_ h1_ h2_ ⟨h3_, h4_⟩))
abbrev R_X5_sign : Room := { frames := 0, cells := 0, slots := 0, locals := 0 }
def r_X5_sign (v : Int32) : Int32 := if 0 < v then 2 else (if v < 0 then 0 else 1)
set_option maxHeartbeats 1000000 in
set_option maxRecDepth 100000 in
theorem s_X5_sign_0 (d : gD) (v : Int32)   {X : gX} (E : gE d X RX5 cX5_sign 1 R_X5_sign) (RET : ∀ (pc_ : Nat) (lv_ : List (Nat × Value)) (v_ : Int32) (u_ : va_W), decode cX5_sign pc_ = .ok (.ireturn, 1) → narrow .int (.int v_) = .int v_ → v_ = r_X5_sign v → u_ = [] → G d X u_ R_X5_sign.cells R_X5_sign.slots pc_ lv_ [.int v_]) : G d X ([]) 0 0 0 [(0, .int v)] [] := by
  refine g_iload_n E 0 dX5_sign_0 rfl rfl ?_
  refine g_ifle E 8 dX5_sign_1 (by decide) (fun c_1 => ?_) (fun c_1 => ?_)
  · skip
    refine g_iload_n E 0 dX5_sign_8 rfl rfl ?_
    refine g_ifge E 16 dX5_sign_9 (by decide) (fun c_9 => ?_) (fun c_9 => ?_)
    · skip
      refine g_iconst E 1 dX5_sign_16 (by decide) ?_
      exact RET 17 _ 1 _ dX5_sign_17 rfl (by rw [r_X5_sign, if_neg c_1, if_neg c_9]) rfl
    · skip
      refine g_iconst E 0 dX5_sign_12 (by decide) ?_
      refine g_goto E 17 dX5_sign_13 (by decide) ?_
      exact RET 17 _ 0 _ dX5_sign_17 rfl (by rw [r_X5_sign, if_neg c_1, if_pos c_9]) rfl
  · skip
    refine g_iconst E 2 dX5_sign_4 (by decide) ?_
    refine g_goto E 17 dX5_sign_5 (by decide) ?_
    exact RET 17 _ 2 _ dX5_sign_17 rfl (by rw [r_X5_sign, if_pos c_1]) rfl
set_option maxHeartbeats 1000000 in
set_option maxRecDepth 100000 in
theorem t_X5_sign (d : gD) (v : Int32)  : gMi d yX5_sign cX5_sign 1 (some .int) R_X5_sign [.int v] ([]) (fun r_ u_ => r_ = r_X5_sign v ∧ u_ = []) :=
  g_met_i RX5 rfl (by decide +kernel) (Nat.le_of_ble_eq_true rfl) [(0, .int v)] rfl (fun X E RET => s_X5_sign_0 d v  E (fun pc_ lv_ v_ u_ h1_ h2_ h3_ h4_ => RET pc_ lv_ v_ u_ h1_ h2_ ⟨h3_, h4_⟩))
abbrev R_X5_lowOf : Room := { frames := 0, cells := 0, slots := 0, locals := 0 }
def r_X5_lowOf (v : Int32) : Int32 := if v = 2 then 0 else (if v = 3 then 60 else (if v = 4 then 100 else (if v = 5 then 2 else (if v = 6 then 0 else 1))))
set_option maxHeartbeats 1000000 in
set_option maxRecDepth 100000 in
theorem s_X5_lowOf_0 (d : gD) (v : Int32)   {X : gX} (E : gE d X RX5 cX5_lowOf 1 R_X5_lowOf) (RET : ∀ (pc_ : Nat) (lv_ : List (Nat × Value)) (v_ : Int32) (u_ : va_W), decode cX5_lowOf pc_ = .ok (.ireturn, 1) → narrow .int (.int v_) = .int v_ → v_ = r_X5_lowOf v → u_ = [] → G d X u_ R_X5_lowOf.cells R_X5_lowOf.slots pc_ lv_ [.int v_]) : G d X ([]) 0 0 0 [(0, .int v)] [] := by
  refine g_iload_n E 0 dX5_lowOf_0 rfl rfl ?_
  by_cases w_1_2 : v = 2
  · skip
    refine g_tableIn E 36 dX5_lowOf_1 (by rw [w_1_2]; decide) (by rw [w_1_2]; decide) (by rw [w_1_2]; rfl) (by decide) ?_
    refine g_iconst E 0 dX5_lowOf_36 (by decide) ?_
    exact RET 37 _ 0 _ dX5_lowOf_37 rfl (by rw [r_X5_lowOf, if_pos w_1_2]) rfl
  · skip
    by_cases w_1_3 : v = 3
    · skip
      refine g_tableIn E 38 dX5_lowOf_1 (by rw [w_1_3]; decide) (by rw [w_1_3]; decide) (by rw [w_1_3]; rfl) (by decide) ?_
      refine g_bipush E 60 dX5_lowOf_38 (by decide) ?_
      exact RET 40 _ 60 _ dX5_lowOf_40 rfl (by rw [r_X5_lowOf, if_neg w_1_2, if_pos w_1_3]) rfl
    · skip
      by_cases w_1_4 : v = 4
      · skip
        refine g_tableIn E 41 dX5_lowOf_1 (by rw [w_1_4]; decide) (by rw [w_1_4]; decide) (by rw [w_1_4]; rfl) (by decide) ?_
        refine g_bipush E 100 dX5_lowOf_41 (by decide) ?_
        exact RET 43 _ 100 _ dX5_lowOf_43 rfl (by rw [r_X5_lowOf, if_neg w_1_2, if_neg w_1_3, if_pos w_1_4]) rfl
      · skip
        by_cases w_1_5 : v = 5
        · skip
          refine g_tableIn E 44 dX5_lowOf_1 (by rw [w_1_5]; decide) (by rw [w_1_5]; decide) (by rw [w_1_5]; rfl) (by decide) ?_
          refine g_iconst E 2 dX5_lowOf_44 (by decide) ?_
          exact RET 45 _ 2 _ dX5_lowOf_45 rfl (by rw [r_X5_lowOf, if_neg w_1_2, if_neg w_1_3, if_neg w_1_4, if_pos w_1_5]) rfl
        · skip
          by_cases w_1_6 : v = 6
          · skip
            refine g_tableIn E 36 dX5_lowOf_1 (by rw [w_1_6]; decide) (by rw [w_1_6]; decide) (by rw [w_1_6]; rfl) (by decide) ?_
            refine g_iconst E 0 dX5_lowOf_36 (by decide) ?_
            exact RET 37 _ 0 _ dX5_lowOf_37 rfl (by rw [r_X5_lowOf, if_neg w_1_2, if_neg w_1_3, if_neg w_1_4, if_neg w_1_5, if_pos w_1_6]) rfl
          · skip
            refine g_tableOut E 46 dX5_lowOf_1 (by have z2 := lv_neT (x := v) (k := 2) (a := 2) w_1_2 (by decide); have z3 := lv_neT (x := v) (k := 3) (a := 3) w_1_3 (by decide); have z4 := lv_neT (x := v) (k := 4) (a := 4) w_1_4 (by decide); have z5 := lv_neT (x := v) (k := 5) (a := 5) w_1_5 (by decide); have z6 := lv_neT (x := v) (k := 6) (a := 6) w_1_6 (by decide); omega) (by decide) ?_
            refine g_iconst E 1 dX5_lowOf_46 (by decide) ?_
            exact RET 47 _ 1 _ dX5_lowOf_47 rfl (by rw [r_X5_lowOf, if_neg w_1_2, if_neg w_1_3, if_neg w_1_4, if_neg w_1_5, if_neg w_1_6]) rfl
set_option maxHeartbeats 1000000 in
set_option maxRecDepth 100000 in
theorem t_X5_lowOf (d : gD) (v : Int32)  : gMi d yX5_lowOf cX5_lowOf 1 (some .int) R_X5_lowOf [.int v] ([]) (fun r_ u_ => r_ = r_X5_lowOf v ∧ u_ = []) :=
  g_met_i RX5 rfl (by decide +kernel) (Nat.le_of_ble_eq_true rfl) [(0, .int v)] rfl (fun X E RET => s_X5_lowOf_0 d v  E (fun pc_ lv_ v_ u_ h1_ h2_ h3_ h4_ => RET pc_ lv_ v_ u_ h1_ h2_ ⟨h3_, h4_⟩))
abbrev R_X5_highOf : Room := { frames := 0, cells := 0, slots := 0, locals := 0 }
def r_X5_highOf (v : Int32) : Int32 := if v = 0 then 64 else (if v = 1 then 30 else (if v = 2 then 20 else (if v = 3 then 127 else (if v = 4 then 200 else (if v = 5 then 60 else 20)))))
set_option maxHeartbeats 1000000 in
set_option maxRecDepth 100000 in
theorem s_X5_highOf_0 (d : gD) (v : Int32)   {X : gX} (E : gE d X RX5 cX5_highOf 1 R_X5_highOf) (RET : ∀ (pc_ : Nat) (lv_ : List (Nat × Value)) (v_ : Int32) (u_ : va_W), decode cX5_highOf pc_ = .ok (.ireturn, 1) → narrow .int (.int v_) = .int v_ → v_ = r_X5_highOf v → u_ = [] → G d X u_ R_X5_highOf.cells R_X5_highOf.slots pc_ lv_ [.int v_]) : G d X ([]) 0 0 0 [(0, .int v)] [] := by
  refine g_iload_n E 0 dX5_highOf_0 rfl rfl ?_
  by_cases w_1_0 : v = 0
  · skip
    refine g_tableIn E 40 dX5_highOf_1 (by rw [w_1_0]; decide) (by rw [w_1_0]; decide) (by rw [w_1_0]; rfl) (by decide) ?_
    refine g_bipush E 64 dX5_highOf_40 (by decide) ?_
    exact RET 42 _ 64 _ dX5_highOf_42 rfl (by rw [r_X5_highOf, if_pos w_1_0]) rfl
  · skip
    by_cases w_1_1 : v = 1
    · skip
      refine g_tableIn E 43 dX5_highOf_1 (by rw [w_1_1]; decide) (by rw [w_1_1]; decide) (by rw [w_1_1]; rfl) (by decide) ?_
      refine g_bipush E 30 dX5_highOf_43 (by decide) ?_
      exact RET 45 _ 30 _ dX5_highOf_45 rfl (by rw [r_X5_highOf, if_neg w_1_0, if_pos w_1_1]) rfl
    · skip
      by_cases w_1_2 : v = 2
      · skip
        refine g_tableIn E 56 dX5_highOf_1 (by rw [w_1_2]; decide) (by rw [w_1_2]; decide) (by rw [w_1_2]; rfl) (by decide) ?_
        refine g_bipush E 20 dX5_highOf_56 (by decide) ?_
        exact RET 58 _ 20 _ dX5_highOf_58 rfl (by rw [r_X5_highOf, if_neg w_1_0, if_neg w_1_1, if_pos w_1_2]) rfl
      · skip
        by_cases w_1_3 : v = 3
        · skip
          refine g_tableIn E 46 dX5_highOf_1 (by rw [w_1_3]; decide) (by rw [w_1_3]; decide) (by rw [w_1_3]; rfl) (by decide) ?_
          refine g_bipush E 127 dX5_highOf_46 (by decide) ?_
          exact RET 48 _ 127 _ dX5_highOf_48 rfl (by rw [r_X5_highOf, if_neg w_1_0, if_neg w_1_1, if_neg w_1_2, if_pos w_1_3]) rfl
        · skip
          by_cases w_1_4 : v = 4
          · skip
            refine g_tableIn E 49 dX5_highOf_1 (by rw [w_1_4]; decide) (by rw [w_1_4]; decide) (by rw [w_1_4]; rfl) (by decide) ?_
            refine g_sipush E 200 dX5_highOf_49 (by decide) ?_
            exact RET 52 _ 200 _ dX5_highOf_52 rfl (by rw [r_X5_highOf, if_neg w_1_0, if_neg w_1_1, if_neg w_1_2, if_neg w_1_3, if_pos w_1_4]) rfl
          · skip
            by_cases w_1_5 : v = 5
            · skip
              refine g_tableIn E 53 dX5_highOf_1 (by rw [w_1_5]; decide) (by rw [w_1_5]; decide) (by rw [w_1_5]; rfl) (by decide) ?_
              refine g_bipush E 60 dX5_highOf_53 (by decide) ?_
              exact RET 55 _ 60 _ dX5_highOf_55 rfl (by rw [r_X5_highOf, if_neg w_1_0, if_neg w_1_1, if_neg w_1_2, if_neg w_1_3, if_neg w_1_4, if_pos w_1_5]) rfl
            · skip
              refine g_tableOut E 56 dX5_highOf_1 (by have z0 := lv_neT (x := v) (k := 0) (a := 0) w_1_0 (by decide); have z1 := lv_neT (x := v) (k := 1) (a := 1) w_1_1 (by decide); have z2 := lv_neT (x := v) (k := 2) (a := 2) w_1_2 (by decide); have z3 := lv_neT (x := v) (k := 3) (a := 3) w_1_3 (by decide); have z4 := lv_neT (x := v) (k := 4) (a := 4) w_1_4 (by decide); have z5 := lv_neT (x := v) (k := 5) (a := 5) w_1_5 (by decide); omega) (by decide) ?_
              refine g_bipush E 20 dX5_highOf_56 (by decide) ?_
              exact RET 58 _ 20 _ dX5_highOf_58 rfl (by rw [r_X5_highOf, if_neg w_1_0, if_neg w_1_1, if_neg w_1_2, if_neg w_1_3, if_neg w_1_4, if_neg w_1_5]) rfl
set_option maxHeartbeats 1000000 in
set_option maxRecDepth 100000 in
theorem t_X5_highOf (d : gD) (v : Int32)  : gMi d yX5_highOf cX5_highOf 1 (some .int) R_X5_highOf [.int v] ([]) (fun r_ u_ => r_ = r_X5_highOf v ∧ u_ = []) :=
  g_met_i RX5 rfl (by decide +kernel) (Nat.le_of_ble_eq_true rfl) [(0, .int v)] rfl (fun X E RET => s_X5_highOf_0 d v  E (fun pc_ lv_ v_ u_ h1_ h2_ h3_ h4_ => RET pc_ lv_ v_ u_ h1_ h2_ ⟨h3_, h4_⟩))
