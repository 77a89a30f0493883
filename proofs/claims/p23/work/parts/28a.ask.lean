/-! what the law asks, in the words of the state -/
theorem j80S (x y : Int32) (S : SS) : j_X3_take_80_st x y S = S.2.1 := by
  unfold j_X3_take_80_st
  split
  · split <;> rfl
  · exact congrArg (fun q => q.1) (comeToRest_2 _ _ _)
theorem take_st (x y : Int32) (S : SS) : (c_X3_take x y S).2.1 = S.2.1 := by
  unfold c_X3_take c_X3_take_at25 c_X3_take_at80 c_X3_take_at102 c_X3_tell c_X3_tell_at41
  exact j80S x y S
theorem alike_st (x y m : Int32) (S : SS) (Y : HS) : ∀ (n k : Nat) (S1 : SS), (c_X4_takeAlike_1_at34 x y m S Y n k S1).2.1 = S1.2.1 := by
  intro n
  induction n with
  | zero => intro k S1; rfl
  | succ n ih =>
    intro k S1
    rw [c_X4_takeAlike_1_at34]
    split
    · exact (ih _ _).trans (take_st _ _ _)
    · rfl
theorem alike_ku (x y m : Int32) (S : SS) (Y : HS) : ∀ (n k : Nat) (S1 : SS), ¬ S1.2.2.1 0 < 0 → ¬ (c_X4_takeAlike_1_at34 x y m S Y n k S1).2.2.1 0 < 0 := by
  intro n
  induction n with
  | zero => intro k S1 h; exact h
  | succ n ih =>
    intro k S1 h
    rw [c_X4_takeAlike_1_at34]
    split
    · exact ih _ _ (KU_take h)
    · exact h
theorem samp_st (x y : Int32) (S : SS) (Y : HS) : (c_X4_sample_1 x y S Y).2.1 = S.2.1 := by
  unfold c_X4_sample_1 c_X4_takeAlike_1
  split
  · exact alike_st _ _ _ _ _ _ _ _
  · rfl
theorem samp_ku {x y : Int32} {S : SS} {Y : HS} (h : ¬ S.2.2.1 0 < 0) : ¬ (c_X4_sample_1 x y S Y).2.2.1 0 < 0 := by
  unfold c_X4_sample_1 c_X4_takeAlike_1
  split
  · exact alike_ku _ _ _ _ _ _ _ _ h
  · exact h
theorem alike_y (x y m : Int32) (S : SS) (Y : HS) : ∀ (n k : Nat) (S1 : SS), c_X4_takeAlike_y_at34 x y m S Y n k S1 = c_X1_keep_y Y S := by
  intro n
  induction n with
  | zero => intro k S1; rfl
  | succ n ih =>
    intro k S1
    rw [c_X4_takeAlike_y_at34]
    split
    · exact ih _ _
    · rfl
theorem keep_hy {Y : HS} (S : SS) (h : Y.1 < 6 ∧ Y.2.1 ≤ 6) : (c_X1_keep_y Y S).1 < 6 ∧ (c_X1_keep_y Y S).2.1 ≤ 6 := by
  obtain ⟨o, n, hs⟩ := Y
  obtain ⟨h1, h2⟩ := h
  replace h1 : o < 6 := h1
  replace h2 : n ≤ 6 := h2
  show (keepY o n hs S).1 < 6 ∧ (keepY o n hs S).2.1 ≤ 6
  unfold keepY
  split
  · exact ⟨h1, by show n + 1 ≤ 6; omega⟩
  · exact ⟨Nat.mod_lt _ (by omega), Nat.le_refl 6⟩
theorem samp_hy {x y : Int32} {S : SS} {Y : HS} (h : Y.1 < 6 ∧ Y.2.1 ≤ 6) : (c_X4_sample_y x y S Y).1 < 6 ∧ (c_X4_sample_y x y S Y).2.1 ≤ 6 := by
  unfold c_X4_sample_y c_X4_takeAlike_y
  split
  · rw [alike_y]
    exact keep_hy S h
  · exact h
def latX (S : SS) : Int32 := if S.1 21 = 0 then -6 else S.1 10
def latY (S : SS) : Int32 := if S.1 21 = 0 then -6 else S.1 11
theorem count_0 (S : SS) (h : Nat → Int32) (y : HS) : r_X4_count 0 S h y = S.1 21 := rfl
theorem count_1 (S : SS) (h : Nat → Int32) (y : HS) : r_X4_count 1 S h y = S.1 9 := rfl
theorem count_2 (S : SS) (h : Nat → Int32) (y : HS) : r_X4_count 2 S h y = S.1 12 := rfl
theorem count_3 (S : SS) (h : Nat → Int32) (y : HS) : r_X4_count 3 S h y = S.1 13 := rfl
theorem count_4 (S : SS) (h : Nat → Int32) (y : HS) : r_X4_count 4 S h y = S.1 16 := rfl
theorem count_5 (S : SS) (h : Nat → Int32) (y : HS) : r_X4_count 5 S h y = S.1 17 := rfl
theorem count_6 (S : SS) (h : Nat → Int32) (y : HS) : r_X4_count 6 S h y = S.1 18 := rfl
theorem count_7 (S : SS) (h : Nat → Int32) (y : HS) : r_X4_count 7 S h y = S.1 19 := rfl
theorem count_8 (S : SS) (h : Nat → Int32) (y : HS) : r_X4_count 8 S h y = S.2.2.1 0 := rfl
theorem count_9 (S : SS) (h : Nat → Int32) (y : HS) : r_X4_count 9 S h y = S.1 20 := rfl
theorem count_10 (S : SS) (h : Nat → Int32) (y : HS) : r_X4_count 10 S h y = S.2.1 0 := rfl
theorem count_11 (S : SS) (h : Nat → Int32) (y : HS) : r_X4_count 11 S h y = S.2.1 1 := rfl
theorem count_12 (S : SS) (h : Nat → Int32) (y : HS) : r_X4_count 12 S h y = S.2.1 2 := rfl
theorem count_13 (S : SS) (h : Nat → Int32) (y : HS) : r_X4_count 13 S h y = S.2.1 3 := rfl
theorem count_14 (S : SS) (h : Nat → Int32) (y : HS) : r_X4_count 14 S h y = S.2.1 4 := rfl
theorem count_15 (S : SS) (h : Nat → Int32) (y : HS) : r_X4_count 15 S h y = S.2.1 5 := rfl
theorem count_16 (S : SS) (h : Nat → Int32) (y : HS) : r_X4_count 16 S h y = S.2.1 6 := rfl
theorem of_0_0 (S : SS) : r_X4_of 0 0 S = S.1 7 := rfl
theorem of_0_1 (S : SS) : r_X4_of 0 1 S = S.1 14 + 100 := rfl
theorem of_0_2 (S : SS) : r_X4_of 0 2 S = latX S := rfl
theorem of_1_0 (S : SS) : r_X4_of 1 0 S = S.1 8 := rfl
theorem of_1_1 (S : SS) : r_X4_of 1 1 S = S.1 15 + 100 := rfl
theorem of_1_2 (S : SS) : r_X4_of 1 2 S = latY S := rfl
abbrev R_L_low : Room := { frames := 0, cells := 0, slots := 0, locals := 0 }
def r_L_low (v : Int32) (n : Int32) : Int32 := ((v &&& 2147483647) - (v &&& 2147483647) / n * n)
set_option maxHeartbeats 1000000 in
set_option maxRecDepth 100000 in
theorem s_L_low_0 (d : gD) (v : Int32) (n : Int32) (hn : ¬ n = 0)  {X : gX} (E : gE d X RL cL_low 2 R_L_low) (RET : ∀ (pc_ : Nat) (lv_ : List (Nat × Value)) (v_ : Int32) (u_ : va_W), decode cL_low pc_ = .ok (.ireturn, 1) → narrow .int (.int v_) = .int v_ → v_ = r_L_low v n → u_ = [] → G d X u_ R_L_low.cells R_L_low.slots pc_ lv_ [.int v_]) : G d X ([]) 0 0 0 [(0, .int v), (1, .int n)] [] := by
  refine g_iload_n E 0 dL_low_0 rfl rfl ?_
  refine g_ldc E ki_L_7 dL_low_1 ?_
  refine g_iand E dL_low_3 ?_
  refine g_iload_n E 1 dL_low_4 rfl rfl ?_
  refine g_irem E dL_low_5 hn ?_
  exact RET 6 _ ((v &&& 2147483647) - (v &&& 2147483647) / n * n) _ dL_low_6 rfl (by rw [r_L_low]) rfl
set_option maxHeartbeats 1000000 in
set_option maxRecDepth 100000 in
theorem t_L_low (d : gD) (v : Int32) (n : Int32) (hn : ¬ n = 0) : gMi d yL_low cL_low 2 (some .int) R_L_low [.int v, .int n] ([]) (fun r_ u_ => r_ = r_L_low v n ∧ u_ = []) :=
  g_met_i RL rfl (by decide +kernel) (Nat.le_of_ble_eq_true rfl) [(0, .int v), (1, .int n)] rfl (fun X E RET => s_L_low_0 d v n hn E (fun pc_ lv_ v_ u_ h1_ h2_ h3_ h4_ => RET pc_ lv_ v_ u_ h1_ h2_ ⟨h3_, h4_⟩))
abbrev R_L_size : Room := { frames := 0, cells := 0, slots := 0, locals := 0 }
def r_L_size (v : Int32) : Int32 := if v < 0 then (-v) else v
set_option maxHeartbeats 1000000 in
set_option maxRecDepth 100000 in
theorem s_L_size_0 (d : gD) (v : Int32)   {X : gX} (E : gE d X RL cL_size 1 R_L_size) (RET : ∀ (pc_ : Nat) (lv_ : List (Nat × Value)) (v_ : Int32) (u_ : va_W), decode cL_size pc_ = .ok (.ireturn, 1) → narrow .int (.int v_) = .int v_ → v_ = r_L_size v → u_ = [] → G d X u_ R_L_size.cells R_L_size.slots pc_ lv_ [.int v_]) : G d X ([]) 0 0 0 [(0, .int v)] [] := by
  refine g_iload_n E 0 dL_size_0 rfl rfl ?_
  refine g_ifge E 9 dL_size_1 (by decide) (fun c_1 => ?_) (fun c_1 => ?_)
  · skip
    refine g_iload_n E 0 dL_size_9 rfl rfl ?_
    exact RET 10 _ v _ dL_size_10 rfl (by rw [r_L_size, if_neg c_1]) rfl
  · skip
    refine g_iload_n E 0 dL_size_4 rfl rfl ?_
    refine g_ineg E dL_size_5 ?_
    refine g_goto E 10 dL_size_6 (by decide) ?_
    exact RET 10 _ (-v) _ dL_size_10 rfl (by rw [r_L_size, if_pos c_1]) rfl
set_option maxHeartbeats 1000000 in
set_option maxRecDepth 100000 in
theorem t_L_size (d : gD) (v : Int32)  : gMi d yL_size cL_size 1 (some .int) R_L_size [.int v] ([]) (fun r_ u_ => r_ = r_L_size v ∧ u_ = []) :=
  g_met_i RL rfl (by decide +kernel) (Nat.le_of_ble_eq_true rfl) [(0, .int v)] rfl (fun X E RET => s_L_size_0 d v  E (fun pc_ lv_ v_ u_ h1_ h2_ h3_ h4_ => RET pc_ lv_ v_ u_ h1_ h2_ ⟨h3_, h4_⟩))
abbrev R_L_greater : Room := { frames := 0, cells := 0, slots := 0, locals := 0 }
def r_L_greater (v : Int32) (w : Int32) : Int32 := if w < v then v else w
set_option maxHeartbeats 1000000 in
set_option maxRecDepth 100000 in
theorem s_L_greater_0 (d : gD) (v : Int32) (w : Int32)   {X : gX} (E : gE d X RL cL_greater 2 R_L_greater) (RET : ∀ (pc_ : Nat) (lv_ : List (Nat × Value)) (v_ : Int32) (u_ : va_W), decode cL_greater pc_ = .ok (.ireturn, 1) → narrow .int (.int v_) = .int v_ → v_ = r_L_greater v w → u_ = [] → G d X u_ R_L_greater.cells R_L_greater.slots pc_ lv_ [.int v_]) : G d X ([]) 0 0 0 [(0, .int v), (1, .int w)] [] := by
  refine g_iload_n E 0 dL_greater_0 rfl rfl ?_
  refine g_iload_n E 1 dL_greater_1 rfl rfl ?_
  refine g_icmple E 9 dL_greater_2 (by decide) (fun c_2 => ?_) (fun c_2 => ?_)
  · skip
    refine g_iload_n E 1 dL_greater_9 rfl rfl ?_
    exact RET 10 _ w _ dL_greater_10 rfl (by rw [r_L_greater, if_neg c_2]) rfl
  · skip
    refine g_iload_n E 0 dL_greater_5 rfl rfl ?_
    refine g_goto E 10 dL_greater_6 (by decide) ?_
    exact RET 10 _ v _ dL_greater_10 rfl (by rw [r_L_greater, if_pos c_2]) rfl
set_option maxHeartbeats 1000000 in
set_option maxRecDepth 100000 in
theorem t_L_greater (d : gD) (v : Int32) (w : Int32)  : gMi d yL_greater cL_greater 2 (some .int) R_L_greater [.int v, .int w] ([]) (fun r_ u_ => r_ = r_L_greater v w ∧ u_ = []) :=
  g_met_i RL rfl (by decide +kernel) (Nat.le_of_ble_eq_true rfl) [(0, .int v), (1, .int w)] rfl (fun X E RET => s_L_greater_0 d v w  E (fun pc_ lv_ v_ u_ h1_ h2_ h3_ h4_ => RET pc_ lv_ v_ u_ h1_ h2_ ⟨h3_, h4_⟩))
