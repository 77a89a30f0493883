abbrev R_X2_charactersIn : Room := { frames := 0, cells := 0, slots := 0, locals := 0 }
def r_X2_charactersIn_at4 (w : Int64) : Nat → (Nat) → (Int64) → Int32
  | 0, _, _ => 0
  | n + 1, k, z => if (lg_cmp z 0) = 0 then (nI k) else (if (nI k) < 8 then (if (lg_cmp (z &&& 255) 33) < 0 then 0 else (if 0 < (lg_cmp (z &&& 255) 126) then 0 else (r_X2_charactersIn_at4 w n (k + 1) ((z.toUInt64 >>> ((8 : Int32).toInt64.toUInt64 &&& Int64.toUInt64 63)).toInt64)))) else (nI k))
def r_X2_charactersIn (w : Int64) : Int32 := r_X2_charactersIn_at4 w 9 0 w
set_option maxHeartbeats 1000000 in
set_option maxRecDepth 100000 in
theorem s_X2_charactersIn_4 (d : gD) (w : Int64)  {X : gX} (E : gE d X RX2 cX2_charactersIn 7 R_X2_charactersIn) : ∀ (n : Nat) (k : Nat) (z : Int64) (hk : k ≤ 8) (hm : 8 - k < n) (RET : ∀ (pc_ : Nat) (lv_ : List (Nat × Value)) (v_ : Int32) (u_ : va_W), decode cX2_charactersIn pc_ = .ok (.ireturn, 1) → narrow .int (.int v_) = .int v_ → v_ = r_X2_charactersIn_at4 w n k z → u_ = [] → G d X u_ R_X2_charactersIn.cells R_X2_charactersIn.slots pc_ lv_ [.int v_]), G d X ([]) 0 0 4 [(0, .long w), (2, .int (nI k)), (3, .long z)] [] := by
  intro n
  induction n with
  | zero => intro k z hk hm; omega
  | succ n ih =>
    intro k z hk hm RET
    refine g_lload_n E 2 dX2_charactersIn_4 rfl rfl ?_
    refine g_lconst E 0 dX2_charactersIn_5 (by decide) ?_
    refine g_lcmp E dX2_charactersIn_6 ?_
    refine g_ifeq E 54 dX2_charactersIn_7 (by decide) (fun c_7 => ?_) (fun c_7 => ?_)
    · skip
      refine g_iload_n E 1 dX2_charactersIn_54 rfl rfl ?_
      exact RET 55 _ (nI k) _ dX2_charactersIn_55 rfl (by rw [r_X2_charactersIn_at4, if_pos c_7]) rfl
    · skip
      refine g_iload_n E 1 dX2_charactersIn_10 rfl rfl ?_
      refine g_bipush E 8 dX2_charactersIn_11 (by decide) ?_
      refine g_icmpge E 54 dX2_charactersIn_13 (by decide) (fun c_13 => ?_) (fun c_13 => ?_)
      · skip
        refine g_iload_n E 1 dX2_charactersIn_54 rfl rfl ?_
        exact RET 55 _ (nI k) _ dX2_charactersIn_55 rfl (by rw [r_X2_charactersIn_at4, if_neg c_7, if_neg c_13]) rfl
      · skip
        have k13 : k < 8 := (nI_ltI (a := k) (b := 8) (by omega) (by omega)).mp c_13
        refine g_lload_n E 2 dX2_charactersIn_16 rfl rfl ?_
        refine g_ldc2 E kl_X2_23 dX2_charactersIn_17 ?_
        refine g_land E dX2_charactersIn_20 ?_
        refine g_lstore E (lv' := [(5, .long (z &&& 255)), (0, .long w), (2, .int (nI k)), (3, .long z)]) dX2_charactersIn_21 (by decide) rfl ?_
        refine g_lload E 0 dX2_charactersIn_23 rfl ?_
        refine g_ldc2 E kl_X2_25 dX2_charactersIn_25 ?_
        refine g_lcmp E dX2_charactersIn_28 ?_
        refine g_iflt E 41 dX2_charactersIn_29 (by decide) (fun c_29 => ?_) (fun c_29 => ?_)
        · skip
          refine g_iconst E 0 dX2_charactersIn_41 (by decide) ?_
          exact RET 42 _ 0 _ dX2_charactersIn_42 rfl (by rw [r_X2_charactersIn_at4, if_neg c_7, if_pos c_13, if_pos c_29]) rfl
        · skip
          refine g_lload E 0 dX2_charactersIn_32 rfl ?_
          refine g_ldc2 E kl_X2_27 dX2_charactersIn_34 ?_
          refine g_lcmp E dX2_charactersIn_37 ?_
          refine g_ifle E 43 dX2_charactersIn_38 (by decide) (fun c_38 => ?_) (fun c_38 => ?_)
          · skip
            refine g_iinc E (j := 2) (v := (nI (k + 1))) (lv' := [(2, .int (nI (k + 1))), (5, .long (z &&& 255)), (0, .long w), (3, .long z)]) dX2_charactersIn_43 rfl (nI_1 _) (by decide) rfl ?_
            refine g_lload_n E 3 dX2_charactersIn_46 rfl rfl ?_
            refine g_bipush E 8 dX2_charactersIn_47 (by decide) ?_
            refine g_lushr E dX2_charactersIn_49 ?_
            refine g_lstore_n E (lv' := [(3, .long ((z.toUInt64 >>> ((8 : Int32).toInt64.toUInt64 &&& Int64.toUInt64 63)).toInt64)), (2, .int (nI (k + 1))), (5, .long (z &&& 255)), (0, .long w)]) dX2_charactersIn_50 rfl (by decide) rfl ?_
            refine g_goto E 4 dX2_charactersIn_51 (by decide) ?_
            refine g_lvs (lv' := [(0, .long w), (2, .int (nI (k + 1))), (3, .long ((z.toUInt64 >>> ((8 : Int32).toInt64.toUInt64 &&& Int64.toUInt64 63)).toInt64))]) [3, 1, 0] rfl ?_
            exact ih (k + 1) ((z.toUInt64 >>> ((8 : Int32).toInt64.toUInt64 &&& Int64.toUInt64 63)).toInt64) (by omega) (by omega) (fun pc_ lv_ v_ u_ h1_ h2_ h3_ h4_ => RET pc_ lv_ v_ u_ h1_ h2_ (h3_.trans (by rw [r_X2_charactersIn_at4, if_neg c_7, if_pos c_13, if_neg c_29, if_neg c_38])) h4_)
          · skip
            refine g_iconst E 0 dX2_charactersIn_41 (by decide) ?_
            exact RET 42 _ 0 _ dX2_charactersIn_42 rfl (by rw [r_X2_charactersIn_at4, if_neg c_7, if_pos c_13, if_neg c_29, if_pos c_38]) rfl
set_option maxHeartbeats 1000000 in
set_option maxRecDepth 100000 in
theorem s_X2_charactersIn_0 (d : gD) (w : Int64)   {X : gX} (E : gE d X RX2 cX2_charactersIn 7 R_X2_charactersIn) (RET : ∀ (pc_ : Nat) (lv_ : List (Nat × Value)) (v_ : Int32) (u_ : va_W), decode cX2_charactersIn pc_ = .ok (.ireturn, 1) → narrow .int (.int v_) = .int v_ → v_ = r_X2_charactersIn w → u_ = [] → G d X u_ R_X2_charactersIn.cells R_X2_charactersIn.slots pc_ lv_ [.int v_]) : G d X ([]) 0 0 0 [(0, .long w)] [] := by
  refine g_iconst E 0 dX2_charactersIn_0 (by decide) ?_
  refine g_istore_n E (lv' := [(2, .int 0), (0, .long w)]) dX2_charactersIn_1 rfl (by decide) rfl ?_
  refine g_lload_n E 1 dX2_charactersIn_2 rfl rfl ?_
  refine g_lstore_n E (lv' := [(3, .long w), (2, .int 0), (0, .long w)]) dX2_charactersIn_3 rfl (by decide) rfl ?_
  refine g_lvs (lv' := [(0, .long w), (2, .int 0), (3, .long w)]) [2, 1, 0] rfl ?_
  exact s_X2_charactersIn_4 d w  E 9 0 w (by omega) (by omega) (fun pc_ lv_ v_ u_ h1_ h2_ h3_ h4_ => RET pc_ lv_ v_ u_ h1_ h2_ (h3_.trans (by rw [r_X2_charactersIn])) h4_)
set_option maxHeartbeats 1000000 in
set_option maxRecDepth 100000 in
theorem t_X2_charactersIn (d : gD) (w : Int64)  : gMi d yX2_charactersIn cX2_charactersIn 7 (some .int) R_X2_charactersIn [.long w] ([]) (fun r_ u_ => r_ = r_X2_charactersIn w ∧ u_ = []) :=
  g_met_i RX2 rfl (by decide +kernel) (Nat.le_of_ble_eq_true rfl) [(0, .long w)] rfl (fun X E RET => s_X2_charactersIn_0 d w  E (fun pc_ lv_ v_ u_ h1_ h2_ h3_ h4_ => RET pc_ lv_ v_ u_ h1_ h2_ ⟨h3_, h4_⟩))
abbrev R_X2_next : Room := { frames := 0, cells := 0, slots := 0, locals := 0 }
def r_X2_next (h : Nat → Int32) (t : Nat → Int32) : Int32 := if (h 1) < 0 then 0 else (if (h 1) < (h 0) then (if (h 1) < 80 then (t ((h 1).toNatClampNeg)) else 0) else 0)
set_option maxHeartbeats 1000000 in
set_option maxRecDepth 100000 in
theorem s_X2_next_0 (d : gD) (a : Nat → Nat) (h : Nat → Int32) (t : Nat → Int32) (hT : chT t)  {X : gX} (E : gE d X RX2 cX2_next 1 R_X2_next) (RET : ∀ (pc_ : Nat) (lv_ : List (Nat × Value)) (v_ : Int32) (u_ : va_W), decode cX2_next pc_ = .ok (.ireturn, 1) → narrow .char (.int v_) = .int v_ → v_ = r_X2_next h t → u_ = PK d a h t → G d X u_ R_X2_next.cells R_X2_next.slots pc_ lv_ [.int v_]) : G d X (PK d a h t) 0 0 0 [(0, .ref (a 0))] [] := by
  refine g_aload_n E 0 dX2_next_0 rfl rfl ?_
  refine g_get E (ci := 2) inlX2 0 rfl rfl 2 (by decide) fl_X2_36 rfl (.int (h 1)) rfl dX2_next_1 ?_
  refine g_iflt E 42 dX2_next_4 (by decide) (fun c_4 => ?_) (fun c_4 => ?_)
  · skip
    refine g_iconst E 0 dX2_next_42 (by decide) ?_
    exact RET 43 _ 0 _ dX2_next_43 rfl (by rw [r_X2_next, if_pos c_4]) rfl
  · skip
    refine g_aload_n E 0 dX2_next_7 rfl rfl ?_
    refine g_get E (ci := 2) inlX2 0 rfl rfl 2 (by decide) fl_X2_36 rfl (.int (h 1)) rfl dX2_next_8 ?_
    refine g_aload_n E 0 dX2_next_11 rfl rfl ?_
    refine g_get E (ci := 2) inlX2 0 rfl rfl 1 (by decide) fl_X2_19 rfl (.int (h 0)) rfl dX2_next_12 ?_
    refine g_icmpge E 42 dX2_next_15 (by decide) (fun c_15 => ?_) (fun c_15 => ?_)
    · skip
      refine g_iconst E 0 dX2_next_42 (by decide) ?_
      exact RET 43 _ 0 _ dX2_next_43 rfl (by rw [r_X2_next, if_neg c_4, if_neg c_15]) rfl
    · skip
      refine g_aload_n E 0 dX2_next_18 rfl rfl ?_
      refine g_get E (ci := 2) inlX2 0 rfl rfl 2 (by decide) fl_X2_36 rfl (.int (h 1)) rfl dX2_next_19 ?_
      refine g_aload_n E 0 dX2_next_22 rfl rfl ?_
      refine g_get E (ci := 2) inlX2 0 rfl rfl 0 (by decide) fl_X2_9 rfl (.ref (a 1)) rfl dX2_next_23 ?_
      refine g_alen E 1 1 rfl rfl 80 rfl dX2_next_26 ?_
      refine g_icmpge E 42 dX2_next_27 (by decide) (fun c_27 => ?_) (fun c_27 => ?_)
      · skip
        refine g_iconst E 0 dX2_next_42 (by decide) ?_
        exact RET 43 _ 0 _ dX2_next_43 rfl (by rw [r_X2_next, if_neg c_4, if_pos c_15, if_neg c_27]) rfl
      · skip
        refine g_aload_n E 0 dX2_next_30 rfl rfl ?_
        refine g_get E (ci := 2) inlX2 0 rfl rfl 0 (by decide) fl_X2_9 rfl (.ref (a 1)) rfl dX2_next_31 ?_
        refine g_aload_n E 0 dX2_next_34 rfl rfl ?_
        refine g_get E (ci := 2) inlX2 0 rfl rfl 2 (by decide) fl_X2_36 rfl (.int (h 1)) rfl dX2_next_35 ?_
        refine g_cald E 1 rfl rfl ((h 1).toNatClampNeg) (ix_eq c_4) (ix_lt (N := 80) c_4 c_27) (by decide) dX2_next_38 ?_
        refine g_goto E 43 dX2_next_39 (by decide) ?_
        exact RET 43 _ (t ((h 1).toNatClampNeg)) _ dX2_next_43 (hT _).1 (by rw [r_X2_next, if_neg c_4, if_pos c_15, if_pos c_27]) rfl
set_option maxHeartbeats 1000000 in
set_option maxRecDepth 100000 in
theorem t_X2_next (d : gD) (a : Nat → Nat) (h : Nat → Int32) (t : Nat → Int32) (hT : chT t) : gMi d yX2_next cX2_next 1 (some .char) R_X2_next [.ref (a 0)] (PK d a h t) (fun r_ u_ => r_ = r_X2_next h t ∧ u_ = PK d a h t) :=
  g_met_i RX2 rfl (by decide +kernel) (Nat.le_of_ble_eq_true rfl) [(0, .ref (a 0))] rfl (fun X E RET => s_X2_next_0 d a h t hT E (fun pc_ lv_ v_ u_ h1_ h2_ h3_ h4_ => RET pc_ lv_ v_ u_ h1_ h2_ ⟨h3_, h4_⟩))
theorem next_ch {h t : Nat → Int32} (hT : chT t) : narrow .char (.int (r_X2_next h t)) = .int (r_X2_next h t) ∧ fits .char (.int (r_X2_next h t)) = true := by
  unfold r_X2_next
  split
  · exact ⟨rfl, rfl⟩
  · split
    · split
      · exact hT _
      · exact ⟨rfl, rfl⟩
    · exact ⟨rfl, rfl⟩
abbrev R_X2_empty : Room := { frames := 0, cells := 0, slots := 0, locals := 0 }
def r_X2_empty (h : Nat → Int32) (t : Nat → Int32) : Int32 := (h 0)
def c_X2_empty_h (h : Nat → Int32) (t : Nat → Int32) : Nat → Int32 := upd h 0 0
set_option maxHeartbeats 1000000 in
set_option maxRecDepth 100000 in
theorem s_X2_empty_0 (d : gD) (a : Nat → Nat) (h : Nat → Int32) (t : Nat → Int32)   {X : gX} (E : gE d X RX2 cX2_empty 2 R_X2_empty) (RET : ∀ (pc_ : Nat) (lv_ : List (Nat × Value)) (v_ : Int32) (u_ : va_W), decode cX2_empty pc_ = .ok (.ireturn, 1) → narrow .int (.int v_) = .int v_ → v_ = r_X2_empty h t → u_ = PK d a (c_X2_empty_h h t) t → G d X u_ R_X2_empty.cells R_X2_empty.slots pc_ lv_ [.int v_]) : G d X (PK d a h t) 0 0 0 [(0, .ref (a 0))] [] := by
  refine g_aload_n E 0 dX2_empty_0 rfl rfl ?_
  refine g_get E (ci := 2) inlX2 0 rfl rfl 1 (by decide) fl_X2_19 rfl (.int (h 0)) rfl dX2_empty_1 ?_
  refine g_istore_n E (lv' := [(1, .int (h 0)), (0, .ref (a 0))]) dX2_empty_4 rfl (by decide) rfl ?_
  refine g_aload_n E 1 dX2_empty_5 rfl rfl ?_
  refine g_iconst E 0 dX2_empty_6 (by decide) ?_
  refine g_put E (ci := 2) inlX2 0 rfl rfl 1 (by decide) tyX2 tyX2_ok nmX2 fl_X2_19 rfl rfl rfl rfl (ok_lt rfl) (ws' := PK d a (upd h 0 0) t) rfl dX2_empty_7 ?_
  refine g_iload_n E 0 dX2_empty_10 rfl rfl ?_
  exact RET 11 _ (h 0) _ dX2_empty_11 rfl (by rw [r_X2_empty]) (by rw [c_X2_empty_h])
set_option maxHeartbeats 1000000 in
set_option maxRecDepth 100000 in
theorem t_X2_empty (d : gD) (a : Nat → Nat) (h : Nat → Int32) (t : Nat → Int32)  : gMi d yX2_empty cX2_empty 2 (some .int) R_X2_empty [.ref (a 0)] (PK d a h t) (fun r_ u_ => r_ = r_X2_empty h t ∧ u_ = PK d a (c_X2_empty_h h t) t) :=
  g_met_i RX2 rfl (by decide +kernel) (Nat.le_of_ble_eq_true rfl) [(0, .ref (a 0))] rfl (fun X E RET => s_X2_empty_0 d a h t  E (fun pc_ lv_ v_ u_ h1_ h2_ h3_ h4_ => RET pc_ lv_ v_ u_ h1_ h2_ ⟨h3_, h4_⟩))
abbrev R_X2_goToStart : Room := { frames := 0, cells := 0, slots := 0, locals := 0 }
def c_X2_goToStart_h (h : Nat → Int32) (t : Nat → Int32) : Nat → Int32 := upd h 1 0
set_option maxHeartbeats 1000000 in
set_option maxRecDepth 100000 in
theorem s_X2_goToStart_0 (d : gD) (a : Nat → Nat) (h : Nat → Int32) (t : Nat → Int32)   {X : gX} (E : gE d X RX2 cX2_goToStart 1 R_X2_goToStart) (RET : ∀ (pc_ : Nat) (lv_ : List (Nat × Value)) (u_ : va_W), decode cX2_goToStart pc_ = .ok (.return_, 1) → u_ = PK d a (c_X2_goToStart_h h t) t → G d X u_ R_X2_goToStart.cells R_X2_goToStart.slots pc_ lv_ []) : G d X (PK d a h t) 0 0 0 [(0, .ref (a 0))] [] := by
  refine g_aload_n E 0 dX2_goToStart_0 rfl rfl ?_
  refine g_iconst E 0 dX2_goToStart_1 (by decide) ?_
  refine g_put E (ci := 2) inlX2 0 rfl rfl 2 (by decide) tyX2 tyX2_ok nmX2 fl_X2_36 rfl rfl rfl rfl (ok_lt rfl) (ws' := PK d a (upd h 1 0) t) rfl dX2_goToStart_2 ?_
  exact RET 5 _ _ dX2_goToStart_5 (by rw [c_X2_goToStart_h])
set_option maxHeartbeats 1000000 in
set_option maxRecDepth 100000 in
theorem t_X2_goToStart (d : gD) (a : Nat → Nat) (h : Nat → Int32) (t : Nat → Int32)  : gMv d yX2_goToStart cX2_goToStart 1 R_X2_goToStart [.ref (a 0)] (PK d a h t) (fun u_ => u_ = PK d a (c_X2_goToStart_h h t) t) :=
  g_met_v RX2 rfl (by decide +kernel) (Nat.le_of_ble_eq_true rfl) [(0, .ref (a 0))] rfl (fun X E _ RET => s_X2_goToStart_0 d a h t  E (fun pc_ lv_ u_ h1_ h2_ => RET pc_ lv_ u_ h1_ h2_))
abbrev R_X2_skip : Room := { frames := 1, cells := 0, slots := 0, locals := 20 }
def r_X2_skip (wanted : Int32) (h : Nat → Int32) (t : Nat → Int32) : Int32 := if (r_X2_next h t) = wanted then 1 else 0
def c_X2_skip_h (wanted : Int32) (h : Nat → Int32) (t : Nat → Int32) : Nat → Int32 := if (r_X2_next h t) = wanted then (upd h 1 ((h 1) + 1)) else h
set_option maxHeartbeats 1000000 in
set_option maxRecDepth 100000 in
theorem s_X2_skip_0 (d : gD) (a : Nat → Nat) (wanted : Int32) (h : Nat → Int32) (t : Nat → Int32) (hT : chT t)  {X : gX} (E : gE d X RX2 cX2_skip 2 R_X2_skip) (RET : ∀ (pc_ : Nat) (lv_ : List (Nat × Value)) (v_ : Int32) (u_ : va_W), decode cX2_skip pc_ = .ok (.ireturn, 1) → narrow .boolean (.int v_) = .int v_ → v_ = r_X2_skip wanted h t → u_ = PK d a (c_X2_skip_h wanted h t) t → G d X u_ R_X2_skip.cells R_X2_skip.slots pc_ lv_ [.int v_]) : G d X (PK d a h t) 0 0 0 [(0, .ref (a 0)), (1, .int wanted)] [] := by
  refine g_aload_n E 0 dX2_skip_0 rfl rfl ?_
  refine g_callVi0 E gc_X2_next ml_X2_43 (t_X2_next d a h t (by first | assumption | omega)) rfl rfl (ci := 2) 0 rfl rfl rfl rfl (ok_le rfl) ⟨ok_le rfl, ok_le rfl, ok_le rfl, ok_le rfl⟩ rfl rfl dX2_skip_1 ?_
  refine g_nm (fun v1_ hv1_ => ?_)
  refine g_iload_n E 1 dX2_skip_4 rfl rfl ?_
  refine g_icmpeq E 10 dX2_skip_5 (by decide) (fun c_5 => ?_) (fun c_5 => ?_)
  · skip
    refine g_aload_n E 0 dX2_skip_10 rfl rfl ?_
    refine g_dup E dX2_skip_11 rfl ?_
    refine g_get E (ci := 2) inlX2 0 rfl rfl 2 (by decide) fl_X2_36 rfl (.int (h 1)) rfl dX2_skip_12 ?_
    refine g_iconst E 1 dX2_skip_15 (by decide) ?_
    refine g_iadd E dX2_skip_16 ?_
    refine g_put E (ci := 2) inlX2 0 rfl rfl 2 (by decide) tyX2 tyX2_ok nmX2 fl_X2_36 rfl rfl rfl rfl (ok_lt rfl) (ws' := PK d a (upd h 1 ((h 1) + 1)) t) rfl dX2_skip_17 ?_
    refine g_iconst E 1 dX2_skip_20 (by decide) ?_
    subst hv1_
    exact RET 21 _ 1 _ dX2_skip_21 rfl (by rw [r_X2_skip, if_pos c_5]) (by rw [c_X2_skip_h, if_pos c_5])
  · skip
    refine g_iconst E 0 dX2_skip_8 (by decide) ?_
    subst hv1_
    exact RET 9 _ 0 _ dX2_skip_9 rfl (by rw [r_X2_skip, if_neg c_5]) (by rw [c_X2_skip_h, if_neg c_5])
set_option maxHeartbeats 1000000 in
set_option maxRecDepth 100000 in
theorem t_X2_skip (d : gD) (a : Nat → Nat) (wanted : Int32) (h : Nat → Int32) (t : Nat → Int32) (hT : chT t) : gMi d yX2_skip cX2_skip 2 (some .boolean) R_X2_skip [.ref (a 0), .int wanted] (PK d a h t) (fun r_ u_ => r_ = r_X2_skip wanted h t ∧ u_ = PK d a (c_X2_skip_h wanted h t) t) :=
  g_met_i RX2 rfl (by decide +kernel) (Nat.le_of_ble_eq_true rfl) [(0, .ref (a 0)), (1, .int wanted)] rfl (fun X E RET => s_X2_skip_0 d a wanted h t hT E (fun pc_ lv_ v_ u_ h1_ h2_ h3_ h4_ => RET pc_ lv_ v_ u_ h1_ h2_ ⟨h3_, h4_⟩))
abbrev R_X2_readDigit : Room := { frames := 1, cells := 0, slots := 0, locals := 20 }
def r_X2_readDigit (h : Nat → Int32) (t : Nat → Int32) : Int32 := if (r_X2_next h t) < 48 then (-6) else (if 57 < (r_X2_next h t) then (-6) else ((r_X2_next h t) - 48))
def c_X2_readDigit_h (h : Nat → Int32) (t : Nat → Int32) : Nat → Int32 := if (r_X2_next h t) < 48 then h else (if 57 < (r_X2_next h t) then h else (upd h 1 ((h 1) + 1)))
set_option maxHeartbeats 1000000 in
set_option maxRecDepth 100000 in
theorem s_X2_readDigit_0 (d : gD) (a : Nat → Nat) (h : Nat → Int32) (t : Nat → Int32) (hT : chT t)  {X : gX} (E : gE d X RX2 cX2_readDigit 2 R_X2_readDigit) (RET : ∀ (pc_ : Nat) (lv_ : List (Nat × Value)) (v_ : Int32) (u_ : va_W), decode cX2_readDigit pc_ = .ok (.ireturn, 1) → narrow .int (.int v_) = .int v_ → v_ = r_X2_readDigit h t → u_ = PK d a (c_X2_readDigit_h h t) t → G d X u_ R_X2_readDigit.cells R_X2_readDigit.slots pc_ lv_ [.int v_]) : G d X (PK d a h t) 0 0 0 [(0, .ref (a 0))] [] := by
  refine g_aload_n E 0 dX2_readDigit_0 rfl rfl ?_
  refine g_callVi0 E gc_X2_next ml_X2_43 (t_X2_next d a h t (by first | assumption | omega)) rfl rfl (ci := 2) 0 rfl rfl rfl rfl (ok_le rfl) ⟨ok_le rfl, ok_le rfl, ok_le rfl, ok_le rfl⟩ rfl rfl dX2_readDigit_1 ?_
  refine g_nm (fun v1_ hv1_ => ?_)
  refine g_istore_n E (lv' := [(1, .int v1_), (0, .ref (a 0))]) dX2_readDigit_4 rfl (by decide) rfl ?_
  refine g_iload_n E 0 dX2_readDigit_5 rfl rfl ?_
  refine g_bipush E 48 dX2_readDigit_6 (by decide) ?_
  refine g_icmplt E 17 dX2_readDigit_8 (by decide) (fun c_8 => ?_) (fun c_8 => ?_)
  · skip
    refine g_bipush E (-6) dX2_readDigit_17 (by decide) ?_
    subst hv1_
    exact RET 19 _ (-6) _ dX2_readDigit_19 rfl (by rw [r_X2_readDigit, if_pos c_8]) (by rw [c_X2_readDigit_h, if_pos c_8])
  · skip
    refine g_iload_n E 0 dX2_readDigit_11 rfl rfl ?_
    refine g_bipush E 57 dX2_readDigit_12 (by decide) ?_
    refine g_icmple E 20 dX2_readDigit_14 (by decide) (fun c_14 => ?_) (fun c_14 => ?_)
    · skip
      refine g_aload_n E 1 dX2_readDigit_20 rfl rfl ?_
      refine g_dup E dX2_readDigit_21 rfl ?_
      refine g_get E (ci := 2) inlX2 0 rfl rfl 2 (by decide) fl_X2_36 rfl (.int (h 1)) rfl dX2_readDigit_22 ?_
      refine g_iconst E 1 dX2_readDigit_25 (by decide) ?_
      refine g_iadd E dX2_readDigit_26 ?_
      refine g_put E (ci := 2) inlX2 0 rfl rfl 2 (by decide) tyX2 tyX2_ok nmX2 fl_X2_36 rfl rfl rfl rfl (ok_lt rfl) (ws' := PK d a (upd h 1 ((h 1) + 1)) t) rfl dX2_readDigit_27 ?_
      refine g_iload_n E 0 dX2_readDigit_30 rfl rfl ?_
      refine g_bipush E 48 dX2_readDigit_31 (by decide) ?_
      refine g_isub E dX2_readDigit_33 ?_
      subst hv1_
      exact RET 34 _ ((r_X2_next h t) - 48) _ dX2_readDigit_34 rfl (by rw [r_X2_readDigit, if_neg c_8, if_neg c_14]) (by rw [c_X2_readDigit_h, if_neg c_8, if_neg c_14])
    · skip
      refine g_bipush E (-6) dX2_readDigit_17 (by decide) ?_
      subst hv1_
      exact RET 19 _ (-6) _ dX2_readDigit_19 rfl (by rw [r_X2_readDigit, if_neg c_8, if_pos c_14]) (by rw [c_X2_readDigit_h, if_neg c_8, if_pos c_14])
set_option maxHeartbeats 1000000 in
set_option maxRecDepth 100000 in
theorem t_X2_readDigit (d : gD) (a : Nat → Nat) (h : Nat → Int32) (t : Nat → Int32) (hT : chT t) : gMi d yX2_readDigit cX2_readDigit 2 (some .int) R_X2_readDigit [.ref (a 0)] (PK d a h t) (fun r_ u_ => r_ = r_X2_readDigit h t ∧ u_ = PK d a (c_X2_readDigit_h h t) t) :=
  g_met_i RX2 rfl (by decide +kernel) (Nat.le_of_ble_eq_true rfl) [(0, .ref (a 0))] rfl (fun X E RET => s_X2_readDigit_0 d a h t hT E (fun pc_ lv_ v_ u_ h1_ h2_ h3_ h4_ => RET pc_ lv_ v_ u_ h1_ h2_ ⟨h3_, h4_⟩))
abbrev R_X2_readNumber : Room := { frames := 2, cells := 0, slots := 0, locals := 41 }
def r_X2_readNumber_at13 (h : Nat → Int32) (t : Nat → Int32) : Nat → (Int32) → (Nat) → (Nat → Int32) → Int32
  | 0, _, _, _ => 0
  | n + 1, w, k, h1 => if (nI k) < 3 then (if (r_X2_readDigit h1 t) < 0 then w else (r_X2_readNumber_at13 h t n ((10 * w) + (r_X2_readDigit h1 t)) (k + 1) (c_X2_readDigit_h h1 t))) else w
def c_X2_readNumber_h_at13 (h : Nat → Int32) (t : Nat → Int32) : Nat → (Int32) → (Nat) → (Nat → Int32) → Nat → Int32
  | 0, _, _, h1 => h1
  | n + 1, w, k, h1 => if (nI k) < 3 then (if (r_X2_readDigit h1 t) < 0 then (c_X2_readDigit_h h1 t) else (c_X2_readNumber_h_at13 h t n ((10 * w) + (r_X2_readDigit h1 t)) (k + 1) (c_X2_readDigit_h h1 t))) else h1
def r_X2_readNumber (h : Nat → Int32) (t : Nat → Int32) : Int32 := if 0 < (r_X2_readDigit h t) then (r_X2_readNumber_at13 h t 4 (r_X2_readDigit h t) 1 (c_X2_readDigit_h h t)) else (r_X2_readDigit h t)
def c_X2_readNumber_h (h : Nat → Int32) (t : Nat → Int32) : Nat → Int32 := if 0 < (r_X2_readDigit h t) then (c_X2_readNumber_h_at13 h t 4 (r_X2_readDigit h t) 1 (c_X2_readDigit_h h t)) else (c_X2_readDigit_h h t)
set_option maxHeartbeats 1000000 in
set_option maxRecDepth 100000 in
theorem s_X2_readNumber_13 (d : gD) (a : Nat → Nat) (h : Nat → Int32) (t : Nat → Int32) (hT : chT t) {X : gX} (E : gE d X RX2 cX2_readNumber 4 R_X2_readNumber) : ∀ (n : Nat) (w : Int32) (k : Nat) (h1 : Nat → Int32) (hk : k ≤ 3) (hm : 3 - k < n) (RET : ∀ (pc_ : Nat) (lv_ : List (Nat × Value)) (v_ : Int32) (u_ : va_W), decode cX2_readNumber pc_ = .ok (.ireturn, 1) → narrow .int (.int v_) = .int v_ → v_ = r_X2_readNumber_at13 h t n w k h1 → u_ = PK d a (c_X2_readNumber_h_at13 h t n w k h1) t → G d X u_ R_X2_readNumber.cells R_X2_readNumber.slots pc_ lv_ [.int v_]), G d X (PK d a h1 t) 0 0 13 [(0, .ref (a 0)), (1, .int w), (2, .int (nI k))] [] := by
  intro n
  induction n with
  | zero => intro w k h1 hk hm; omega
  | succ n ih =>
    intro w k h1 hk hm RET
    refine g_iload_n E 2 dX2_readNumber_13 rfl rfl ?_
    refine g_iconst E 3 dX2_readNumber_14 (by decide) ?_
    refine g_icmpge E 42 dX2_readNumber_15 (by decide) (fun c_15 => ?_) (fun c_15 => ?_)
    · skip
      refine g_iload_n E 1 dX2_readNumber_42 rfl rfl ?_
      exact RET 43 _ w _ dX2_readNumber_43 rfl (by rw [r_X2_readNumber_at13, if_neg c_15]) (by rw [c_X2_readNumber_h_at13, if_neg c_15])
    · skip
      have k15 : k < 3 := (nI_ltI (a := k) (b := 3) (by omega) (by omega)).mp c_15
      refine g_aload_n E 0 dX2_readNumber_18 rfl rfl ?_
      refine g_callVi0 E gc_X2_readDigit ml_X2_57 (t_X2_readDigit d a h1 t (by first | assumption | omega)) rfl rfl (ci := 2) 0 rfl rfl rfl rfl (ok_le rfl) ⟨ok_le rfl, ok_le rfl, ok_le rfl, ok_le rfl⟩ rfl rfl dX2_readNumber_19 ?_
      obtain ⟨S3_, hS3_⟩ : ∃ z, c_X2_readDigit_h h1 t = z := ⟨_, rfl⟩
      rw [hS3_]
      refine g_nm (fun v4_ hv4_ => ?_)
      refine g_istore_n E (lv' := [(3, .int v4_), (0, .ref (a 0)), (1, .int w), (2, .int (nI k))]) dX2_readNumber_22 rfl (by decide) rfl ?_
      refine g_iload_n E 0 dX2_readNumber_23 rfl rfl ?_
      refine g_ifge E 29 dX2_readNumber_24 (by decide) (fun c_24 => ?_) (fun c_24 => ?_)
      · skip
        refine g_bipush E 10 dX2_readNumber_29 (by decide) ?_
        refine g_iload_n E 2 dX2_readNumber_31 rfl rfl ?_
        refine g_imul E dX2_readNumber_32 ?_
        refine g_iload_n E 0 dX2_readNumber_33 rfl rfl ?_
        refine g_iadd E dX2_readNumber_34 ?_
        refine g_istore_n E (lv' := [(1, .int ((10 * w) + v4_)), (3, .int v4_), (0, .ref (a 0)), (2, .int (nI k))]) dX2_readNumber_35 rfl (by decide) rfl ?_
        refine g_iinc E (j := 3) (v := (nI (k + 1))) (lv' := [(2, .int (nI (k + 1))), (1, .int ((10 * w) + v4_)), (3, .int v4_), (0, .ref (a 0))]) dX2_readNumber_36 rfl (nI_1 _) (by decide) rfl ?_
        refine g_goto E 13 dX2_readNumber_39 (by decide) ?_
        refine g_lvs (lv' := [(0, .ref (a 0)), (1, .int ((10 * w) + v4_)), (2, .int (nI (k + 1)))]) [3, 1, 0] rfl ?_
        subst hv4_
        subst hS3_
        exact ih ((10 * w) + (r_X2_readDigit h1 t)) (k + 1) (c_X2_readDigit_h h1 t) (by omega) (by omega) (fun pc_ lv_ v_ u_ h1_ h2_ h3_ h4_ => RET pc_ lv_ v_ u_ h1_ h2_ (h3_.trans (by rw [r_X2_readNumber_at13, if_pos c_15, if_neg c_24])) (h4_.trans (by rw [c_X2_readNumber_h_at13, if_pos c_15, if_neg c_24])))
      · skip
        refine g_iload_n E 2 dX2_readNumber_27 rfl rfl ?_
        subst hv4_
        subst hS3_
        exact RET 28 _ w _ dX2_readNumber_28 rfl (by rw [r_X2_readNumber_at13, if_pos c_15, if_pos c_24]) (by rw [c_X2_readNumber_h_at13, if_pos c_15, if_pos c_24])
set_option maxHeartbeats 1000000 in
set_option maxRecDepth 100000 in
theorem s_X2_readNumber_0 (d : gD) (a : Nat → Nat) (h : Nat → Int32) (t : Nat → Int32) (hT : chT t)  {X : gX} (E : gE d X RX2 cX2_readNumber 4 R_X2_readNumber) (RET : ∀ (pc_ : Nat) (lv_ : List (Nat × Value)) (v_ : Int32) (u_ : va_W), decode cX2_readNumber pc_ = .ok (.ireturn, 1) → narrow .int (.int v_) = .int v_ → v_ = r_X2_readNumber h t → u_ = PK d a (c_X2_readNumber_h h t) t → G d X u_ R_X2_readNumber.cells R_X2_readNumber.slots pc_ lv_ [.int v_]) : G d X (PK d a h t) 0 0 0 [(0, .ref (a 0))] [] := by
  refine g_aload_n E 0 dX2_readNumber_0 rfl rfl ?_
  refine g_callVi0 E gc_X2_readDigit ml_X2_57 (t_X2_readDigit d a h t (by first | assumption | omega)) rfl rfl (ci := 2) 0 rfl rfl rfl rfl (ok_le rfl) ⟨ok_le rfl, ok_le rfl, ok_le rfl, ok_le rfl⟩ rfl rfl dX2_readNumber_1 ?_
  obtain ⟨S1_, hS1_⟩ : ∃ z, c_X2_readDigit_h h t = z := ⟨_, rfl⟩
  rw [hS1_]
  refine g_nm (fun v2_ hv2_ => ?_)
  refine g_istore_n E (lv' := [(1, .int v2_), (0, .ref (a 0))]) dX2_readNumber_4 rfl (by decide) rfl ?_
  refine g_iload_n E 0 dX2_readNumber_5 rfl rfl ?_
  refine g_ifgt E 11 dX2_readNumber_6 (by decide) (fun c_6 => ?_) (fun c_6 => ?_)
  · skip
    refine g_iconst E 1 dX2_readNumber_11 (by decide) ?_
    refine g_istore_n E (lv' := [(2, .int 1), (1, .int v2_), (0, .ref (a 0))]) dX2_readNumber_12 rfl (by decide) rfl ?_
    refine g_lvs (lv' := [(0, .ref (a 0)), (1, .int v2_), (2, .int 1)]) [2, 1, 0] rfl ?_
    subst hv2_
    subst hS1_
    exact s_X2_readNumber_13 d a h t hT E 4 (r_X2_readDigit h t) 1 (c_X2_readDigit_h h t) (by omega) (by omega) (fun pc_ lv_ v_ u_ h1_ h2_ h3_ h4_ => RET pc_ lv_ v_ u_ h1_ h2_ (h3_.trans (by rw [r_X2_readNumber, if_pos c_6])) (h4_.trans (by rw [c_X2_readNumber_h, if_pos c_6])))
  · skip
    refine g_iload_n E 0 dX2_readNumber_9 rfl rfl ?_
    subst hv2_
    subst hS1_
    exact RET 10 _ (r_X2_readDigit h t) _ dX2_readNumber_10 rfl (by rw [r_X2_readNumber, if_neg c_6]) (by rw [c_X2_readNumber_h, if_neg c_6])
set_option maxHeartbeats 1000000 in
set_option maxRecDepth 100000 in
theorem t_X2_readNumber (d : gD) (a : Nat → Nat) (h : Nat → Int32) (t : Nat → Int32) (hT : chT t) : gMi d yX2_readNumber cX2_readNumber 4 (some .int) R_X2_readNumber [.ref (a 0)] (PK d a h t) (fun r_ u_ => r_ = r_X2_readNumber h t ∧ u_ = PK d a (c_X2_readNumber_h h t) t) :=
  g_met_i RX2 rfl (by decide +kernel) (Nat.le_of_ble_eq_true rfl) [(0, .ref (a 0))] rfl (fun X E RET => s_X2_readNumber_0 d a h t hT E (fun pc_ lv_ v_ u_ h1_ h2_ h3_ h4_ => RET pc_ lv_ v_ u_ h1_ h2_ ⟨h3_, h4_⟩))
abbrev R_X2_readSamples : Room := { frames := 3, cells := 0, slots := 0, locals := 64 }
def r_X2_readSamples (h : Nat → Int32) (t : Nat → Int32) : Int32 := if (r_X2_readNumber h t) < 0 then 0 else (if (r_X2_skip 44 (upd (c_X2_readNumber_h h t) 3 (r_X2_readNumber h t)) t) = 0 then 0 else (if (r_X2_readNumber (c_X2_skip_h 44 (upd (c_X2_readNumber_h h t) 3 (r_X2_readNumber h t)) t) t) < 0 then (if (r_X2_readNumber (c_X2_skip_h 44 (upd (c_X2_readNumber_h h t) 3 (r_X2_readNumber h t)) t) t) < 0 then 0 else 1) else (if (r_X2_skip 42 (upd (c_X2_readNumber_h (c_X2_skip_h 44 (upd (c_X2_readNumber_h h t) 3 (r_X2_readNumber h t)) t) t) 4 (r_X2_readNumber (c_X2_skip_h 44 (upd (c_X2_readNumber_h h t) 3 (r_X2_readNumber h t)) t) t)) t) = 0 then (if ((c_X2_skip_h 42 (upd (c_X2_readNumber_h (c_X2_skip_h 44 (upd (c_X2_readNumber_h h t) 3 (r_X2_readNumber h t)) t) t) 4 (r_X2_readNumber (c_X2_skip_h 44 (upd (c_X2_readNumber_h h t) 3 (r_X2_readNumber h t)) t) t)) t) 4) < 0 then 0 else 1) else (if (r_X2_readNumber (c_X2_skip_h 42 (upd (c_X2_readNumber_h (c_X2_skip_h 44 (upd (c_X2_readNumber_h h t) 3 (r_X2_readNumber h t)) t) t) 4 (r_X2_readNumber (c_X2_skip_h 44 (upd (c_X2_readNumber_h h t) 3 (r_X2_readNumber h t)) t) t)) t) t) < 0 then 0 else 1))))
def c_X2_readSamples_h (h : Nat → Int32) (t : Nat → Int32) : Nat → Int32 := if (r_X2_readNumber h t) < 0 then (upd (c_X2_readNumber_h h t) 3 (r_X2_readNumber h t)) else (if (r_X2_skip 44 (upd (c_X2_readNumber_h h t) 3 (r_X2_readNumber h t)) t) = 0 then (c_X2_skip_h 44 (upd (c_X2_readNumber_h h t) 3 (r_X2_readNumber h t)) t) else (if (r_X2_readNumber (c_X2_skip_h 44 (upd (c_X2_readNumber_h h t) 3 (r_X2_readNumber h t)) t) t) < 0 then (upd (c_X2_readNumber_h (c_X2_skip_h 44 (upd (c_X2_readNumber_h h t) 3 (r_X2_readNumber h t)) t) t) 4 (r_X2_readNumber (c_X2_skip_h 44 (upd (c_X2_readNumber_h h t) 3 (r_X2_readNumber h t)) t) t)) else (if (r_X2_skip 42 (upd (c_X2_readNumber_h (c_X2_skip_h 44 (upd (c_X2_readNumber_h h t) 3 (r_X2_readNumber h t)) t) t) 4 (r_X2_readNumber (c_X2_skip_h 44 (upd (c_X2_readNumber_h h t) 3 (r_X2_readNumber h t)) t) t)) t) = 0 then (c_X2_skip_h 42 (upd (c_X2_readNumber_h (c_X2_skip_h 44 (upd (c_X2_readNumber_h h t) 3 (r_X2_readNumber h t)) t) t) 4 (r_X2_readNumber (c_X2_skip_h 44 (upd (c_X2_readNumber_h h t) 3 (r_X2_readNumber h t)) t) t)) t) else (upd (c_X2_readNumber_h (c_X2_skip_h 42 (upd (c_X2_readNumber_h (c_X2_skip_h 44 (upd (c_X2_readNumber_h h t) 3 (r_X2_readNumber h t)) t) t) 4 (r_X2_readNumber (c_X2_skip_h 44 (upd (c_X2_readNumber_h h t) 3 (r_X2_readNumber h t)) t) t)) t) t) 5 (r_X2_readNumber (c_X2_skip_h 42 (upd (c_X2_readNumber_h (c_X2_skip_h 44 (upd (c_X2_readNumber_h h t) 3 (r_X2_readNumber h t)) t) t) 4 (r_X2_readNumber (c_X2_skip_h 44 (upd (c_X2_readNumber_h h t) 3 (r_X2_readNumber h t)) t) t)) t) t)))))
set_option maxHeartbeats 1000000 in
set_option maxRecDepth 100000 in
theorem s_X2_readSamples_0 (d : gD) (a : Nat → Nat) (h : Nat → Int32) (t : Nat → Int32) (hT : chT t)  {X : gX} (E : gE d X RX2 cX2_readSamples 1 R_X2_readSamples) (RET : ∀ (pc_ : Nat) (lv_ : List (Nat × Value)) (v_ : Int32) (u_ : va_W), decode cX2_readSamples pc_ = .ok (.ireturn, 1) → narrow .boolean (.int v_) = .int v_ → v_ = r_X2_readSamples h t → u_ = PK d a (c_X2_readSamples_h h t) t → G d X u_ R_X2_readSamples.cells R_X2_readSamples.slots pc_ lv_ [.int v_]) : G d X (PK d a h t) 0 0 0 [(0, .ref (a 0))] [] := by
  refine g_aload_n E 0 dX2_readSamples_0 rfl rfl ?_
  refine g_aload_n E 0 dX2_readSamples_1 rfl rfl ?_
  refine g_callVi0 E gc_X2_readNumber ml_X2_64 (t_X2_readNumber d a h t (by first | assumption | omega)) rfl rfl (ci := 2) 0 rfl rfl rfl rfl (ok_le rfl) ⟨ok_le rfl, ok_le rfl, ok_le rfl, ok_le rfl⟩ rfl rfl dX2_readSamples_2 ?_
  obtain ⟨S1_, hS1_⟩ : ∃ z, c_X2_readNumber_h h t = z := ⟨_, rfl⟩
  rw [hS1_]
  refine g_nm (fun v2_ hv2_ => ?_)
  refine g_put E (ci := 2) inlX2 0 rfl rfl 4 (by decide) tyX2 tyX2_ok nmX2 fl_X2_61 rfl rfl rfl rfl (ok_lt rfl) (ws' := PK d a (upd S1_ 3 v2_) t) rfl dX2_readSamples_5 ?_
  refine g_aload_n E 0 dX2_readSamples_8 rfl rfl ?_
  refine g_get E (ci := 2) inlX2 0 rfl rfl 4 (by decide) fl_X2_61 rfl (.int v2_) rfl dX2_readSamples_9 ?_
  refine g_iflt E 24 dX2_readSamples_12 (by decide) (fun c_12 => ?_) (fun c_12 => ?_)
  · skip
    refine g_iconst E 0 dX2_readSamples_24 (by decide) ?_
    subst hv2_
    subst hS1_
    exact RET 25 _ 0 _ dX2_readSamples_25 rfl (by rw [r_X2_readSamples, if_pos c_12]) (by rw [c_X2_readSamples_h, if_pos c_12])
  · skip
    refine g_aload_n E 0 dX2_readSamples_15 rfl rfl ?_
    refine g_bipush E 44 dX2_readSamples_16 (by decide) ?_
    refine g_callVi0 E gc_X2_skip ml_X2_39 (t_X2_skip d a 44 (upd S1_ 3 v2_) t (by first | assumption | omega)) rfl rfl (ci := 2) 0 rfl rfl rfl rfl (ok_le rfl) ⟨ok_le rfl, ok_le rfl, ok_le rfl, ok_le rfl⟩ rfl rfl dX2_readSamples_18 ?_
    obtain ⟨S3_, hS3_⟩ : ∃ z, c_X2_skip_h 44 (upd S1_ 3 v2_) t = z := ⟨_, rfl⟩
    rw [hS3_]
    refine g_nm (fun v4_ hv4_ => ?_)
    refine g_ifne E 26 dX2_readSamples_21 (by decide) (fun c_21 => ?_) (fun c_21 => ?_)
    · skip
      refine g_aload_n E 0 dX2_readSamples_26 rfl rfl ?_
      refine g_aload_n E 0 dX2_readSamples_27 rfl rfl ?_
      refine g_callVi0 E gc_X2_readNumber ml_X2_64 (t_X2_readNumber d a S3_ t (by first | assumption | omega)) rfl rfl (ci := 2) 0 rfl rfl rfl rfl (ok_le rfl) ⟨ok_le rfl, ok_le rfl, ok_le rfl, ok_le rfl⟩ rfl rfl dX2_readSamples_28 ?_
      obtain ⟨S5_, hS5_⟩ : ∃ z, c_X2_readNumber_h S3_ t = z := ⟨_, rfl⟩
      rw [hS5_]
      refine g_nm (fun v6_ hv6_ => ?_)
      refine g_put E (ci := 2) inlX2 0 rfl rfl 5 (by decide) tyX2 tyX2_ok nmX2 fl_X2_67 rfl rfl rfl rfl (ok_lt rfl) (ws' := PK d a (upd S5_ 4 v6_) t) rfl dX2_readSamples_31 ?_
      refine g_aload_n E 0 dX2_readSamples_34 rfl rfl ?_
      refine g_get E (ci := 2) inlX2 0 rfl rfl 5 (by decide) fl_X2_67 rfl (.int v6_) rfl dX2_readSamples_35 ?_
      refine g_iflt E 50 dX2_readSamples_38 (by decide) (fun c_38 => ?_) (fun c_38 => ?_)
      · skip
        refine g_aload_n E 0 dX2_readSamples_50 rfl rfl ?_
        refine g_get E (ci := 2) inlX2 0 rfl rfl 5 (by decide) fl_X2_67 rfl (.int v6_) rfl dX2_readSamples_51 ?_
        refine g_iflt E 61 dX2_readSamples_54 (by decide) (fun c_54 => ?_) (fun c_54 => ?_)
        · skip
          refine g_iconst E 0 dX2_readSamples_61 (by decide) ?_
          subst hv6_
          subst hS5_
          subst hv4_
          subst hS3_
          subst hv2_
          subst hS1_
          exact RET 62 _ 0 _ dX2_readSamples_62 rfl (by rw [r_X2_readSamples, if_neg c_12, if_neg c_21, if_pos c_38, if_pos c_54]) (by rw [c_X2_readSamples_h, if_neg c_12, if_neg c_21, if_pos c_38])
        · skip
          refine g_iconst E 1 dX2_readSamples_57 (by decide) ?_
          refine g_goto E 62 dX2_readSamples_58 (by decide) ?_
          subst hv6_
          subst hS5_
          subst hv4_
          subst hS3_
          subst hv2_
          subst hS1_
          exact RET 62 _ 1 _ dX2_readSamples_62 rfl (by rw [r_X2_readSamples, if_neg c_12, if_neg c_21, if_pos c_38, if_neg c_54]) (by rw [c_X2_readSamples_h, if_neg c_12, if_neg c_21, if_pos c_38])
      · skip
        refine g_aload_n E 0 dX2_readSamples_41 rfl rfl ?_
        refine g_bipush E 42 dX2_readSamples_42 (by decide) ?_
        refine g_callVi0 E gc_X2_skip ml_X2_39 (t_X2_skip d a 42 (upd S5_ 4 v6_) t (by first | assumption | omega)) rfl rfl (ci := 2) 0 rfl rfl rfl rfl (ok_le rfl) ⟨ok_le rfl, ok_le rfl, ok_le rfl, ok_le rfl⟩ rfl rfl dX2_readSamples_44 ?_
        obtain ⟨S7_, hS7_⟩ : ∃ z, c_X2_skip_h 42 (upd S5_ 4 v6_) t = z := ⟨_, rfl⟩
        rw [hS7_]
        refine g_nm (fun v8_ hv8_ => ?_)
        refine g_ifne E 63 dX2_readSamples_47 (by decide) (fun c_47 => ?_) (fun c_47 => ?_)
        · skip
          refine g_aload_n E 0 dX2_readSamples_63 rfl rfl ?_
          refine g_aload_n E 0 dX2_readSamples_64 rfl rfl ?_
          refine g_callVi0 E gc_X2_readNumber ml_X2_64 (t_X2_readNumber d a S7_ t (by first | assumption | omega)) rfl rfl (ci := 2) 0 rfl rfl rfl rfl (ok_le rfl) ⟨ok_le rfl, ok_le rfl, ok_le rfl, ok_le rfl⟩ rfl rfl dX2_readSamples_65 ?_
          obtain ⟨S9_, hS9_⟩ : ∃ z, c_X2_readNumber_h S7_ t = z := ⟨_, rfl⟩
          rw [hS9_]
          refine g_nm (fun v10_ hv10_ => ?_)
          refine g_put E (ci := 2) inlX2 0 rfl rfl 6 (by decide) tyX2 tyX2_ok nmX2 fl_X2_51 rfl rfl rfl rfl (ok_lt rfl) (ws' := PK d a (upd S9_ 5 v10_) t) rfl dX2_readSamples_68 ?_
          refine g_aload_n E 0 dX2_readSamples_71 rfl rfl ?_
          refine g_get E (ci := 2) inlX2 0 rfl rfl 6 (by decide) fl_X2_51 rfl (.int v10_) rfl dX2_readSamples_72 ?_
          refine g_iflt E 82 dX2_readSamples_75 (by decide) (fun c_75 => ?_) (fun c_75 => ?_)
          · skip
            refine g_iconst E 0 dX2_readSamples_82 (by decide) ?_
            subst hv10_
            subst hS9_
            subst hv8_
            subst hS7_
            subst hv6_
            subst hS5_
            subst hv4_
            subst hS3_
            subst hv2_
            subst hS1_
            exact RET 83 _ 0 _ dX2_readSamples_83 rfl (by rw [r_X2_readSamples, if_neg c_12, if_neg c_21, if_neg c_38, if_neg c_47, if_pos c_75]) (by rw [c_X2_readSamples_h, if_neg c_12, if_neg c_21, if_neg c_38, if_neg c_47])
          · skip
            refine g_iconst E 1 dX2_readSamples_78 (by decide) ?_
            refine g_goto E 83 dX2_readSamples_79 (by decide) ?_
            subst hv10_
            subst hS9_
            subst hv8_
            subst hS7_
            subst hv6_
            subst hS5_
            subst hv4_
            subst hS3_
            subst hv2_
            subst hS1_
            exact RET 83 _ 1 _ dX2_readSamples_83 rfl (by rw [r_X2_readSamples, if_neg c_12, if_neg c_21, if_neg c_38, if_neg c_47, if_neg c_75]) (by rw [c_X2_readSamples_h, if_neg c_12, if_neg c_21, if_neg c_38, if_neg c_47])
        · skip
          refine g_aload_n E 0 dX2_readSamples_50 rfl rfl ?_
          refine g_get E (ci := 2) inlX2 0 rfl rfl 5 (by decide) fl_X2_67 rfl (.int (S7_ 4)) rfl dX2_readSamples_51 ?_
          refine g_iflt E 61 dX2_readSamples_54 (by decide) (fun c_54 => ?_) (fun c_54 => ?_)
          · skip
            refine g_iconst E 0 dX2_readSamples_61 (by decide) ?_
            subst hv8_
            subst hS7_
            subst hv6_
            subst hS5_
            subst hv4_
            subst hS3_
            subst hv2_
            subst hS1_
            exact RET 62 _ 0 _ dX2_readSamples_62 rfl (by rw [r_X2_readSamples, if_neg c_12, if_neg c_21, if_neg c_38, if_pos c_47, if_pos c_54]) (by rw [c_X2_readSamples_h, if_neg c_12, if_neg c_21, if_neg c_38, if_pos c_47])
          · skip
            refine g_iconst E 1 dX2_readSamples_57 (by decide) ?_
            refine g_goto E 62 dX2_readSamples_58 (by decide) ?_
            subst hv8_
            subst hS7_
            subst hv6_
            subst hS5_
            subst hv4_
            subst hS3_
            subst hv2_
            subst hS1_
            exact RET 62 _ 1 _ dX2_readSamples_62 rfl (by rw [r_X2_readSamples, if_neg c_12, if_neg c_21, if_neg c_38, if_pos c_47, if_neg c_54]) (by rw [c_X2_readSamples_h, if_neg c_12, if_neg c_21, if_neg c_38, if_pos c_47])
    · skip
      refine g_iconst E 0 dX2_readSamples_24 (by decide) ?_
      subst hv4_
      subst hS3_
      subst hv2_
      subst hS1_
      exact RET 25 _ 0 _ dX2_readSamples_25 rfl (by rw [r_X2_readSamples, if_neg c_12, if_pos c_21]) (by rw [c_X2_readSamples_h, if_neg c_12, if_pos c_21])
set_option maxHeartbeats 1000000 in
set_option maxRecDepth 100000 in
theorem t_X2_readSamples (d : gD) (a : Nat → Nat) (h : Nat → Int32) (t : Nat → Int32) (hT : chT t) : gMi d yX2_readSamples cX2_readSamples 1 (some .boolean) R_X2_readSamples [.ref (a 0)] (PK d a h t) (fun r_ u_ => r_ = r_X2_readSamples h t ∧ u_ = PK d a (c_X2_readSamples_h h t) t) :=
  g_met_i RX2 rfl (by decide +kernel) (Nat.le_of_ble_eq_true rfl) [(0, .ref (a 0))] rfl (fun X E RET => s_X2_readSamples_0 d a h t hT E (fun pc_ lv_ v_ u_ h1_ h2_ h3_ h4_ => RET pc_ lv_ v_ u_ h1_ h2_ ⟨h3_, h4_⟩))
theorem rs_bool (h t : Nat → Int32) : r_X2_readSamples h t = 0 ∨ r_X2_readSamples h t = 1 := by
  unfold r_X2_readSamples
  repeat' split
  all_goals first | exact Or.inl rfl | exact Or.inr rfl
abbrev R_X2_readOrder : Room := { frames := 4, cells := 0, slots := 0, locals := 84 }
def r_X2_readOrder (h : Nat → Int32) (t : Nat → Int32) : Int32 := if (r_X2_next h t) = 115 then (r_X2_readSamples (upd (upd (upd h 2 (r_X2_next h t)) 5 1) 1 ((h 1) + 1)) t) else (if (r_X2_next h t) = 98 then (if (r_X2_readDigit (upd (upd (upd h 2 (r_X2_next h t)) 5 1) 1 ((h 1) + 1)) t) < 0 then 0 else 1) else (if (r_X2_next h t) = 117 then (if (r_X2_readDigit (upd (upd (upd h 2 (r_X2_next h t)) 5 1) 1 ((h 1) + 1)) t) < 0 then 0 else 1) else 0))
def c_X2_readOrder_h (h : Nat → Int32) (t : Nat → Int32) : Nat → Int32 := if (r_X2_next h t) = 115 then (c_X2_readSamples_h (upd (upd (upd h 2 (r_X2_next h t)) 5 1) 1 ((h 1) + 1)) t) else (if (r_X2_next h t) = 98 then (upd (c_X2_readDigit_h (upd (upd (upd h 2 (r_X2_next h t)) 5 1) 1 ((h 1) + 1)) t) 3 (r_X2_readDigit (upd (upd (upd h 2 (r_X2_next h t)) 5 1) 1 ((h 1) + 1)) t)) else (if (r_X2_next h t) = 117 then (upd (c_X2_readDigit_h (upd (upd (upd h 2 (r_X2_next h t)) 5 1) 1 ((h 1) + 1)) t) 3 (r_X2_readDigit (upd (upd (upd h 2 (r_X2_next h t)) 5 1) 1 ((h 1) + 1)) t)) else (upd (upd h 2 (r_X2_next h t)) 5 1)))
set_option maxHeartbeats 1000000 in
set_option maxRecDepth 100000 in
theorem s_X2_readOrder_0 (d : gD) (a : Nat → Nat) (h : Nat → Int32) (t : Nat → Int32) (hT : chT t)  {X : gX} (E : gE d X RX2 cX2_readOrder 1 R_X2_readOrder) (RET : ∀ (pc_ : Nat) (lv_ : List (Nat × Value)) (v_ : Int32) (u_ : va_W), decode cX2_readOrder pc_ = .ok (.ireturn, 1) → narrow .boolean (.int v_) = .int v_ → v_ = r_X2_readOrder h t → u_ = PK d a (c_X2_readOrder_h h t) t → G d X u_ R_X2_readOrder.cells R_X2_readOrder.slots pc_ lv_ [.int v_]) : G d X (PK d a h t) 0 0 0 [(0, .ref (a 0))] [] := by
  refine g_aload_n E 0 dX2_readOrder_0 rfl rfl ?_
  refine g_aload_n E 0 dX2_readOrder_1 rfl rfl ?_
  refine g_callVi0 E gc_X2_next ml_X2_43 (t_X2_next d a h t (by first | assumption | omega)) rfl rfl (ci := 2) 0 rfl rfl rfl rfl (ok_le rfl) ⟨ok_le rfl, ok_le rfl, ok_le rfl, ok_le rfl⟩ rfl rfl dX2_readOrder_2 ?_
  refine g_nm (fun v1_ hv1_ => ?_)
  refine g_put E (ci := 2) inlX2 0 rfl rfl 3 (by decide) tyX2 tyX2_ok nmX2 fl_X2_47 rfl rfl (by rw [← hv1_]; exact (next_ch hT).1) (by rw [← hv1_]; exact (next_ch hT).2) (ok_lt rfl) (ws' := PK d a (upd h 2 v1_) t) rfl dX2_readOrder_5 ?_
  refine g_aload_n E 0 dX2_readOrder_8 rfl rfl ?_
  refine g_iconst E 1 dX2_readOrder_9 (by decide) ?_
  refine g_put E (ci := 2) inlX2 0 rfl rfl 6 (by decide) tyX2 tyX2_ok nmX2 fl_X2_51 rfl rfl rfl rfl (ok_lt rfl) (ws' := PK d a (upd (upd h 2 v1_) 5 1) t) rfl dX2_readOrder_10 ?_
  refine g_aload_n E 0 dX2_readOrder_13 rfl rfl ?_
  refine g_get E (ci := 2) inlX2 0 rfl rfl 3 (by decide) fl_X2_47 rfl (.int v1_) rfl dX2_readOrder_14 ?_
  refine g_bipush E 115 dX2_readOrder_17 (by decide) ?_
  refine g_icmpne E 37 dX2_readOrder_19 (by decide) (fun c_19 => ?_) (fun c_19 => ?_)
  · skip
    refine g_aload_n E 0 dX2_readOrder_37 rfl rfl ?_
    refine g_get E (ci := 2) inlX2 0 rfl rfl 3 (by decide) fl_X2_47 rfl (.int v1_) rfl dX2_readOrder_38 ?_
    refine g_bipush E 98 dX2_readOrder_41 (by decide) ?_
    refine g_icmpeq E 55 dX2_readOrder_43 (by decide) (fun c_43 => ?_) (fun c_43 => ?_)
    · skip
      refine g_aload_n E 0 dX2_readOrder_55 rfl rfl ?_
      refine g_dup E dX2_readOrder_56 rfl ?_
      refine g_get E (ci := 2) inlX2 0 rfl rfl 2 (by decide) fl_X2_36 rfl (.int (h 1)) rfl dX2_readOrder_57 ?_
      refine g_iconst E 1 dX2_readOrder_60 (by decide) ?_
      refine g_iadd E dX2_readOrder_61 ?_
      refine g_put E (ci := 2) inlX2 0 rfl rfl 2 (by decide) tyX2 tyX2_ok nmX2 fl_X2_36 rfl rfl rfl rfl (ok_lt rfl) (ws' := PK d a (upd (upd (upd h 2 v1_) 5 1) 1 ((h 1) + 1)) t) rfl dX2_readOrder_62 ?_
      refine g_aload_n E 0 dX2_readOrder_65 rfl rfl ?_
      refine g_aload_n E 0 dX2_readOrder_66 rfl rfl ?_
      refine g_callVi0 E gc_X2_readDigit ml_X2_57 (t_X2_readDigit d a (upd (upd (upd h 2 v1_) 5 1) 1 ((h 1) + 1)) t (by first | assumption | omega)) rfl rfl (ci := 2) 0 rfl rfl rfl rfl (ok_le rfl) ⟨ok_le rfl, ok_le rfl, ok_le rfl, ok_le rfl⟩ rfl rfl dX2_readOrder_67 ?_
      obtain ⟨S2_, hS2_⟩ : ∃ z, c_X2_readDigit_h (upd (upd (upd h 2 v1_) 5 1) 1 ((h 1) + 1)) t = z := ⟨_, rfl⟩
      rw [hS2_]
      refine g_nm (fun v3_ hv3_ => ?_)
      refine g_put E (ci := 2) inlX2 0 rfl rfl 4 (by decide) tyX2 tyX2_ok nmX2 fl_X2_61 rfl rfl rfl rfl (ok_lt rfl) (ws' := PK d a (upd S2_ 3 v3_) t) rfl dX2_readOrder_70 ?_
      refine g_aload_n E 0 dX2_readOrder_73 rfl rfl ?_
      refine g_get E (ci := 2) inlX2 0 rfl rfl 4 (by decide) fl_X2_61 rfl (.int v3_) rfl dX2_readOrder_74 ?_
      refine g_iflt E 84 dX2_readOrder_77 (by decide) (fun c_77 => ?_) (fun c_77 => ?_)
      · skip
        refine g_iconst E 0 dX2_readOrder_84 (by decide) ?_
        subst hv3_
        subst hS2_
        subst hv1_
        exact RET 85 _ 0 _ dX2_readOrder_85 rfl (by rw [r_X2_readOrder, if_neg c_19, if_pos c_43, if_pos c_77]) (by rw [c_X2_readOrder_h, if_neg c_19, if_pos c_43])
      · skip
        refine g_iconst E 1 dX2_readOrder_80 (by decide) ?_
        refine g_goto E 85 dX2_readOrder_81 (by decide) ?_
        subst hv3_
        subst hS2_
        subst hv1_
        exact RET 85 _ 1 _ dX2_readOrder_85 rfl (by rw [r_X2_readOrder, if_neg c_19, if_pos c_43, if_neg c_77]) (by rw [c_X2_readOrder_h, if_neg c_19, if_pos c_43])
    · skip
      refine g_aload_n E 0 dX2_readOrder_46 rfl rfl ?_
      refine g_get E (ci := 2) inlX2 0 rfl rfl 3 (by decide) fl_X2_47 rfl (.int v1_) rfl dX2_readOrder_47 ?_
      refine g_bipush E 117 dX2_readOrder_50 (by decide) ?_
      refine g_icmpne E 86 dX2_readOrder_52 (by decide) (fun c_52 => ?_) (fun c_52 => ?_)
      · skip
        refine g_iconst E 0 dX2_readOrder_86 (by decide) ?_
        subst hv1_
        exact RET 87 _ 0 _ dX2_readOrder_87 rfl (by rw [r_X2_readOrder, if_neg c_19, if_neg c_43, if_neg c_52]) (by rw [c_X2_readOrder_h, if_neg c_19, if_neg c_43, if_neg c_52])
      · skip
        refine g_aload_n E 0 dX2_readOrder_55 rfl rfl ?_
        refine g_dup E dX2_readOrder_56 rfl ?_
        refine g_get E (ci := 2) inlX2 0 rfl rfl 2 (by decide) fl_X2_36 rfl (.int (h 1)) rfl dX2_readOrder_57 ?_
        refine g_iconst E 1 dX2_readOrder_60 (by decide) ?_
        refine g_iadd E dX2_readOrder_61 ?_
        refine g_put E (ci := 2) inlX2 0 rfl rfl 2 (by decide) tyX2 tyX2_ok nmX2 fl_X2_36 rfl rfl rfl rfl (ok_lt rfl) (ws' := PK d a (upd (upd (upd h 2 v1_) 5 1) 1 ((h 1) + 1)) t) rfl dX2_readOrder_62 ?_
        refine g_aload_n E 0 dX2_readOrder_65 rfl rfl ?_
        refine g_aload_n E 0 dX2_readOrder_66 rfl rfl ?_
        refine g_callVi0 E gc_X2_readDigit ml_X2_57 (t_X2_readDigit d a (upd (upd (upd h 2 v1_) 5 1) 1 ((h 1) + 1)) t (by first | assumption | omega)) rfl rfl (ci := 2) 0 rfl rfl rfl rfl (ok_le rfl) ⟨ok_le rfl, ok_le rfl, ok_le rfl, ok_le rfl⟩ rfl rfl dX2_readOrder_67 ?_
        obtain ⟨S4_, hS4_⟩ : ∃ z, c_X2_readDigit_h (upd (upd (upd h 2 v1_) 5 1) 1 ((h 1) + 1)) t = z := ⟨_, rfl⟩
        rw [hS4_]
        refine g_nm (fun v5_ hv5_ => ?_)
        refine g_put E (ci := 2) inlX2 0 rfl rfl 4 (by decide) tyX2 tyX2_ok nmX2 fl_X2_61 rfl rfl rfl rfl (ok_lt rfl) (ws' := PK d a (upd S4_ 3 v5_) t) rfl dX2_readOrder_70 ?_
        refine g_aload_n E 0 dX2_readOrder_73 rfl rfl ?_
        refine g_get E (ci := 2) inlX2 0 rfl rfl 4 (by decide) fl_X2_61 rfl (.int v5_) rfl dX2_readOrder_74 ?_
        refine g_iflt E 84 dX2_readOrder_77 (by decide) (fun c_77 => ?_) (fun c_77 => ?_)
        · skip
          refine g_iconst E 0 dX2_readOrder_84 (by decide) ?_
          subst hv5_
          subst hS4_
          subst hv1_
          exact RET 85 _ 0 _ dX2_readOrder_85 rfl (by rw [r_X2_readOrder, if_neg c_19, if_neg c_43, if_pos c_52, if_pos c_77]) (by rw [c_X2_readOrder_h, if_neg c_19, if_neg c_43, if_pos c_52])
        · skip
          refine g_iconst E 1 dX2_readOrder_80 (by decide) ?_
          refine g_goto E 85 dX2_readOrder_81 (by decide) ?_
          subst hv5_
          subst hS4_
          subst hv1_
          exact RET 85 _ 1 _ dX2_readOrder_85 rfl (by rw [r_X2_readOrder, if_neg c_19, if_neg c_43, if_pos c_52, if_neg c_77]) (by rw [c_X2_readOrder_h, if_neg c_19, if_neg c_43, if_pos c_52])
  · skip
    refine g_aload_n E 0 dX2_readOrder_22 rfl rfl ?_
    refine g_dup E dX2_readOrder_23 rfl ?_
    refine g_get E (ci := 2) inlX2 0 rfl rfl 2 (by decide) fl_X2_36 rfl (.int (h 1)) rfl dX2_readOrder_24 ?_
    refine g_iconst E 1 dX2_readOrder_27 (by decide) ?_
    refine g_iadd E dX2_readOrder_28 ?_
    refine g_put E (ci := 2) inlX2 0 rfl rfl 2 (by decide) tyX2 tyX2_ok nmX2 fl_X2_36 rfl rfl rfl rfl (ok_lt rfl) (ws' := PK d a (upd (upd (upd h 2 v1_) 5 1) 1 ((h 1) + 1)) t) rfl dX2_readOrder_29 ?_
    refine g_aload_n E 0 dX2_readOrder_32 rfl rfl ?_
    refine g_callVi0 E gc_X2_readSamples ml_X2_54 (t_X2_readSamples d a (upd (upd (upd h 2 v1_) 5 1) 1 ((h 1) + 1)) t (by first | assumption | omega)) rfl rfl (ci := 2) 0 rfl rfl rfl rfl (ok_le rfl) ⟨ok_le rfl, ok_le rfl, ok_le rfl, ok_le rfl⟩ rfl rfl dX2_readOrder_33 ?_
    obtain ⟨S6_, hS6_⟩ : ∃ z, c_X2_readSamples_h (upd (upd (upd h 2 v1_) 5 1) 1 ((h 1) + 1)) t = z := ⟨_, rfl⟩
    rw [hS6_]
    refine g_nm (fun v7_ hv7_ => ?_)
    subst hv7_
    subst hS6_
    subst hv1_
    exact RET 36 _ (r_X2_readSamples (upd (upd (upd h 2 (r_X2_next h t)) 5 1) 1 ((h 1) + 1)) t) _ dX2_readOrder_36 (nar_b (rs_bool _ _)) (by rw [r_X2_readOrder, if_pos c_19]) (by rw [c_X2_readOrder_h, if_pos c_19])
set_option maxHeartbeats 1000000 in
set_option maxRecDepth 100000 in
theorem t_X2_readOrder (d : gD) (a : Nat → Nat) (h : Nat → Int32) (t : Nat → Int32) (hT : chT t) : gMi d yX2_readOrder cX2_readOrder 1 (some .boolean) R_X2_readOrder [.ref (a 0)] (PK d a h t) (fun r_ u_ => r_ = r_X2_readOrder h t ∧ u_ = PK d a (c_X2_readOrder_h h t) t) :=
  g_met_i RX2 rfl (by decide +kernel) (Nat.le_of_ble_eq_true rfl) [(0, .ref (a 0))] rfl (fun X E RET => s_X2_readOrder_0 d a h t hT E (fun pc_ lv_ v_ u_ h1_ h2_ h3_ h4_ => RET pc_ lv_ v_ u_ h1_ h2_ ⟨h3_, h4_⟩))
abbrev R_X2_firstFault : Room := { frames := 5, cells := 0, slots := 0, locals := 104 }
def r_X2_firstFault_at6 (h : Nat → Int32) (t : Nat → Int32) : Nat → (Nat) → (Nat → Int32) → Int32
  | 0, _, _ => 0
  | n + 1, k, h1 => if (nI k) < 80 then (if (r_X2_readOrder h1 t) = 0 then ((c_X2_readOrder_h h1 t) 1) else (if ((c_X2_readOrder_h h1 t) 1) = ((c_X2_readOrder_h h1 t) 0) then (-6) else (if (r_X2_skip 59 (c_X2_readOrder_h h1 t) t) = 0 then ((c_X2_skip_h 59 (c_X2_readOrder_h h1 t) t) 1) else (r_X2_firstFault_at6 h t n (k + 1) (c_X2_skip_h 59 (c_X2_readOrder_h h1 t) t))))) else (h1 1)
def c_X2_firstFault_h_at6 (h : Nat → Int32) (t : Nat → Int32) : Nat → (Nat) → (Nat → Int32) → Nat → Int32
  | 0, _, h1 => h1
  | n + 1, k, h1 => if (nI k) < 80 then (if (r_X2_readOrder h1 t) = 0 then (c_X2_readOrder_h h1 t) else (if ((c_X2_readOrder_h h1 t) 1) = ((c_X2_readOrder_h h1 t) 0) then (c_X2_readOrder_h h1 t) else (if (r_X2_skip 59 (c_X2_readOrder_h h1 t) t) = 0 then (c_X2_skip_h 59 (c_X2_readOrder_h h1 t) t) else (c_X2_firstFault_h_at6 h t n (k + 1) (c_X2_skip_h 59 (c_X2_readOrder_h h1 t) t))))) else h1
def r_X2_firstFault (h : Nat → Int32) (t : Nat → Int32) : Int32 := r_X2_firstFault_at6 h t 81 0 (c_X2_goToStart_h h t)
def c_X2_firstFault_h (h : Nat → Int32) (t : Nat → Int32) : Nat → Int32 := c_X2_firstFault_h_at6 h t 81 0 (c_X2_goToStart_h h t)
set_option maxHeartbeats 1000000 in
set_option maxRecDepth 100000 in
theorem s_X2_firstFault_6 (d : gD) (a : Nat → Nat) (h : Nat → Int32) (t : Nat → Int32) (hT : chT t) {X : gX} (E : gE d X RX2 cX2_firstFault 2 R_X2_firstFault) : ∀ (n : Nat) (k : Nat) (h1 : Nat → Int32) (hk : k ≤ 80) (hm : 80 - k < n) (RET : ∀ (pc_ : Nat) (lv_ : List (Nat × Value)) (v_ : Int32) (u_ : va_W), decode cX2_firstFault pc_ = .ok (.ireturn, 1) → narrow .int (.int v_) = .int v_ → v_ = r_X2_firstFault_at6 h t n k h1 → u_ = PK d a (c_X2_firstFault_h_at6 h t n k h1) t → G d X u_ R_X2_firstFault.cells R_X2_firstFault.slots pc_ lv_ [.int v_]), G d X (PK d a h1 t) 0 0 6 [(0, .ref (a 0)), (1, .int (nI k))] [] := by
  intro n
  induction n with
  | zero => intro k h1 hk hm; omega
  | succ n ih =>
    intro k h1 hk hm RET
    refine g_iload_n E 1 dX2_firstFault_6 rfl rfl ?_
    refine g_bipush E 80 dX2_firstFault_7 (by decide) ?_
    refine g_icmpge E 58 dX2_firstFault_9 (by decide) (fun c_9 => ?_) (fun c_9 => ?_)
    · skip
      refine g_aload_n E 0 dX2_firstFault_58 rfl rfl ?_
      refine g_get E (ci := 2) inlX2 0 rfl rfl 2 (by decide) fl_X2_36 rfl (.int (h1 1)) rfl dX2_firstFault_59 ?_
      exact RET 62 _ (h1 1) _ dX2_firstFault_62 rfl (by rw [r_X2_firstFault_at6, if_neg c_9]) (by rw [c_X2_firstFault_h_at6, if_neg c_9])
    · skip
      have k9 : k < 80 := (nI_ltI (a := k) (b := 80) (by omega) (by omega)).mp c_9
      refine g_aload_n E 0 dX2_firstFault_12 rfl rfl ?_
      refine g_callVi0 E gc_X2_readOrder ml_X2_32 (t_X2_readOrder d a h1 t (by first | assumption | omega)) rfl rfl (ci := 2) 0 rfl rfl rfl rfl (ok_le rfl) ⟨ok_le rfl, ok_le rfl, ok_le rfl, ok_le rfl⟩ rfl rfl dX2_firstFault_13 ?_
      obtain ⟨S2_, hS2_⟩ : ∃ z, c_X2_readOrder_h h1 t = z := ⟨_, rfl⟩
      rw [hS2_]
      refine g_nm (fun v3_ hv3_ => ?_)
      refine g_ifne E 24 dX2_firstFault_16 (by decide) (fun c_16 => ?_) (fun c_16 => ?_)
      · skip
        refine g_aload_n E 0 dX2_firstFault_24 rfl rfl ?_
        refine g_get E (ci := 2) inlX2 0 rfl rfl 2 (by decide) fl_X2_36 rfl (.int (S2_ 1)) rfl dX2_firstFault_25 ?_
        refine g_aload_n E 0 dX2_firstFault_28 rfl rfl ?_
        refine g_get E (ci := 2) inlX2 0 rfl rfl 1 (by decide) fl_X2_19 rfl (.int (S2_ 0)) rfl dX2_firstFault_29 ?_
        refine g_icmpne E 38 dX2_firstFault_32 (by decide) (fun c_32 => ?_) (fun c_32 => ?_)
        · skip
          refine g_aload_n E 0 dX2_firstFault_38 rfl rfl ?_
          refine g_bipush E 59 dX2_firstFault_39 (by decide) ?_
          refine g_callVi0 E gc_X2_skip ml_X2_39 (t_X2_skip d a 59 S2_ t (by first | assumption | omega)) rfl rfl (ci := 2) 0 rfl rfl rfl rfl (ok_le rfl) ⟨ok_le rfl, ok_le rfl, ok_le rfl, ok_le rfl⟩ rfl rfl dX2_firstFault_41 ?_
          obtain ⟨S4_, hS4_⟩ : ∃ z, c_X2_skip_h 59 S2_ t = z := ⟨_, rfl⟩
          rw [hS4_]
          refine g_nm (fun v5_ hv5_ => ?_)
          refine g_ifne E 52 dX2_firstFault_44 (by decide) (fun c_44 => ?_) (fun c_44 => ?_)
          · skip
            refine g_iinc E (j := 1) (v := (nI (k + 1))) (lv' := [(1, .int (nI (k + 1))), (0, .ref (a 0))]) dX2_firstFault_52 rfl (nI_1 _) (by decide) rfl ?_
            refine g_goto E 6 dX2_firstFault_55 (by decide) ?_
            refine g_lvs (lv' := [(0, .ref (a 0)), (1, .int (nI (k + 1)))]) [1, 0] rfl ?_
            subst hv5_
            subst hS4_
            subst hv3_
            subst hS2_
            exact ih (k + 1) (c_X2_skip_h 59 (c_X2_readOrder_h h1 t) t) (by omega) (by omega) (fun pc_ lv_ v_ u_ h1_ h2_ h3_ h4_ => RET pc_ lv_ v_ u_ h1_ h2_ (h3_.trans (by rw [r_X2_firstFault_at6, if_pos c_9, if_neg c_16, if_neg c_32, if_neg c_44])) (h4_.trans (by rw [c_X2_firstFault_h_at6, if_pos c_9, if_neg c_16, if_neg c_32, if_neg c_44])))
          · skip
            refine g_aload_n E 0 dX2_firstFault_47 rfl rfl ?_
            refine g_get E (ci := 2) inlX2 0 rfl rfl 2 (by decide) fl_X2_36 rfl (.int (S4_ 1)) rfl dX2_firstFault_48 ?_
            subst hv5_
            subst hS4_
            subst hv3_
            subst hS2_
            exact RET 51 _ ((c_X2_skip_h 59 (c_X2_readOrder_h h1 t) t) 1) _ dX2_firstFault_51 rfl (by rw [r_X2_firstFault_at6, if_pos c_9, if_neg c_16, if_neg c_32, if_pos c_44]) (by rw [c_X2_firstFault_h_at6, if_pos c_9, if_neg c_16, if_neg c_32, if_pos c_44])
        · skip
          refine g_bipush E (-6) dX2_firstFault_35 (by decide) ?_
          subst hv3_
          subst hS2_
          exact RET 37 _ (-6) _ dX2_firstFault_37 rfl (by rw [r_X2_firstFault_at6, if_pos c_9, if_neg c_16, if_pos c_32]) (by rw [c_X2_firstFault_h_at6, if_pos c_9, if_neg c_16, if_pos c_32])
      · skip
        refine g_aload_n E 0 dX2_firstFault_19 rfl rfl ?_
        refine g_get E (ci := 2) inlX2 0 rfl rfl 2 (by decide) fl_X2_36 rfl (.int (S2_ 1)) rfl dX2_firstFault_20 ?_
        subst hv3_
        subst hS2_
        exact RET 23 _ ((c_X2_readOrder_h h1 t) 1) _ dX2_firstFault_23 rfl (by rw [r_X2_firstFault_at6, if_pos c_9, if_pos c_16]) (by rw [c_X2_firstFault_h_at6, if_pos c_9, if_pos c_16])
set_option maxHeartbeats 1000000 in
set_option maxRecDepth 100000 in
theorem s_X2_firstFault_0 (d : gD) (a : Nat → Nat) (h : Nat → Int32) (t : Nat → Int32) (hT : chT t)  {X : gX} (E : gE d X RX2 cX2_firstFault 2 R_X2_firstFault) (RET : ∀ (pc_ : Nat) (lv_ : List (Nat × Value)) (v_ : Int32) (u_ : va_W), decode cX2_firstFault pc_ = .ok (.ireturn, 1) → narrow .int (.int v_) = .int v_ → v_ = r_X2_firstFault h t → u_ = PK d a (c_X2_firstFault_h h t) t → G d X u_ R_X2_firstFault.cells R_X2_firstFault.slots pc_ lv_ [.int v_]) : G d X (PK d a h t) 0 0 0 [(0, .ref (a 0))] [] := by
  refine g_aload_n E 0 dX2_firstFault_0 rfl rfl ?_
  refine g_callVv0 E gc_X2_goToStart ml_X2_29 (t_X2_goToStart d a h t ) rfl rfl (ci := 2) 0 rfl rfl rfl rfl (ok_le rfl) ⟨ok_le rfl, ok_le rfl, ok_le rfl, ok_le rfl⟩ rfl rfl dX2_firstFault_1 ?_
  obtain ⟨S1_, hS1_⟩ : ∃ z, c_X2_goToStart_h h t = z := ⟨_, rfl⟩
  rw [hS1_]
  refine g_iconst E 0 dX2_firstFault_4 (by decide) ?_
  refine g_istore_n E (lv' := [(1, .int 0), (0, .ref (a 0))]) dX2_firstFault_5 rfl (by decide) rfl ?_
  refine g_lvs (lv' := [(0, .ref (a 0)), (1, .int 0)]) [1, 0] rfl ?_
  subst hS1_
  exact s_X2_firstFault_6 d a h t hT E 81 0 (c_X2_goToStart_h h t) (by omega) (by omega) (fun pc_ lv_ v_ u_ h1_ h2_ h3_ h4_ => RET pc_ lv_ v_ u_ h1_ h2_ (h3_.trans (by rw [r_X2_firstFault])) (h4_.trans (by rw [c_X2_firstFault_h])))
set_option maxHeartbeats 1000000 in
set_option maxRecDepth 100000 in
theorem t_X2_firstFault (d : gD) (a : Nat → Nat) (h : Nat → Int32) (t : Nat → Int32) (hT : chT t) : gMi d yX2_firstFault cX2_firstFault 2 (some .int) R_X2_firstFault [.ref (a 0)] (PK d a h t) (fun r_ u_ => r_ = r_X2_firstFault h t ∧ u_ = PK d a (c_X2_firstFault_h h t) t) :=
  g_met_i RX2 rfl (by decide +kernel) (Nat.le_of_ble_eq_true rfl) [(0, .ref (a 0))] rfl (fun X E RET => s_X2_firstFault_0 d a h t hT E (fun pc_ lv_ v_ u_ h1_ h2_ h3_ h4_ => RET pc_ lv_ v_ u_ h1_ h2_ ⟨h3_, h4_⟩))
theorem chars_at (w : Int64) : ∀ (n k : Nat) (z : Int64), k ≤ 8 → 0 ≤ (r_X2_charactersIn_at4 w n k z).toInt ∧ (r_X2_charactersIn_at4 w n k z).toInt ≤ 8 := by
  intro n
  induction n with
  | zero => intro k z hk; rw [r_X2_charactersIn_at4]; decide
  | succ n ih =>
    intro k z hk
    have hkI : (nI k).toInt = k := nI_toInt (by omega)
    rw [r_X2_charactersIn_at4]
    split
    · omega
    · split
      · next h => 
        have : k < 8 := (nI_ltI (a := k) (b := 8) (by omega) (by omega)).mp h
        repeat' split
        all_goals first | exact ih _ _ (by omega) | decide
      · omega
theorem chars_le (w : Int64) : 0 ≤ (r_X2_charactersIn w).toInt ∧ (r_X2_charactersIn w).toInt ≤ 8 := chars_at w _ _ _ (by omega)
theorem i_dec {b : Int32} (h : ¬ b < 0) : 0 ≤ b.toInt ∧ (b + (-1)).toInt = b.toInt - 1 := by
  have h0 : ¬ b.toInt < 0 := fun q => h (ti_lt.mpr q)
  have hr := ti_rng b
  have h1 : ((-1 : Int32)).toInt = -1 := rfl
  exact ⟨by omega, by rw [ti_add (by omega) (by omega)]; omega⟩
theorem i_many {r : Int32} (h : 0 ≤ r.toInt ∧ r.toInt ≤ 8) : (r - 1).toInt = r.toInt - 1 := by
  have h1 : (1 : Int32).toInt = 1 := rfl
  rw [ti_sub (by omega) (by omega)]
  omega
theorem i_suc {b : Int32} (h : ¬ b < 0) (h2 : b < 80) : ¬ b + 1 < 0 := by grind
abbrev R_X2_append : Room := { frames := 1, cells := 0, slots := 0, locals := 26 }
def r_X2_append_at31 (w : Int64) (h : Nat → Int32) (t : Nat → Int32) : Nat → (Int32) → (Nat → Int32) → (Nat → Int32) → Int32
  | 0, _, _, _ => 0
  | n + 1, b, h1, t1 => if b < 0 then (h1 0) else (if (h1 0) < 80 then (r_X2_append_at31 w h t n (b + (-1)) (upd h1 0 ((h1 0) + 1)) (upd t1 ((h1 0).toNatClampNeg) (vp_nar .char ((((((w.toUInt64 >>> ((8 * b).toInt64.toUInt64 &&& Int64.toUInt64 63)).toInt64) &&& 255).toInt32).toUInt32 % 65536).toInt32)))) else (h1 0))
def c_X2_append_h_at31 (w : Int64) (h : Nat → Int32) (t : Nat → Int32) : Nat → (Int32) → (Nat → Int32) → (Nat → Int32) → Nat → Int32
  | 0, _, h1, _ => h1
  | n + 1, b, h1, t1 => if b < 0 then h1 else (if (h1 0) < 80 then (c_X2_append_h_at31 w h t n (b + (-1)) (upd h1 0 ((h1 0) + 1)) (upd t1 ((h1 0).toNatClampNeg) (vp_nar .char ((((((w.toUInt64 >>> ((8 * b).toInt64.toUInt64 &&& Int64.toUInt64 63)).toInt64) &&& 255).toInt32).toUInt32 % 65536).toInt32)))) else h1)
def c_X2_append_t_at31 (w : Int64) (h : Nat → Int32) (t : Nat → Int32) : Nat → (Int32) → (Nat → Int32) → (Nat → Int32) → Nat → Int32
  | 0, _, _, t1 => t1
  | n + 1, b, h1, t1 => if b < 0 then t1 else (if (h1 0) < 80 then (c_X2_append_t_at31 w h t n (b + (-1)) (upd h1 0 ((h1 0) + 1)) (upd t1 ((h1 0).toNatClampNeg) (vp_nar .char ((((((w.toUInt64 >>> ((8 * b).toInt64.toUInt64 &&& Int64.toUInt64 63)).toInt64) &&& 255).toInt32).toUInt32 % 65536).toInt32)))) else t1)
def r_X2_append (w : Int64) (h : Nat → Int32) (t : Nat → Int32) : Int32 := if (r_X2_charactersIn w) = 0 then (-2) else (if 80 < ((h 0) + (r_X2_charactersIn w)) then (-4) else (r_X2_append_at31 w h t 10 ((r_X2_charactersIn w) - 1) h t))
def c_X2_append_h (w : Int64) (h : Nat → Int32) (t : Nat → Int32) : Nat → Int32 := if (r_X2_charactersIn w) = 0 then h else (if 80 < ((h 0) + (r_X2_charactersIn w)) then h else (c_X2_append_h_at31 w h t 10 ((r_X2_charactersIn w) - 1) h t))
def c_X2_append_t (w : Int64) (h : Nat → Int32) (t : Nat → Int32) : Nat → Int32 := if (r_X2_charactersIn w) = 0 then t else (if 80 < ((h 0) + (r_X2_charactersIn w)) then t else (c_X2_append_t_at31 w h t 10 ((r_X2_charactersIn w) - 1) h t))
set_option maxHeartbeats 1000000 in
set_option maxRecDepth 100000 in
theorem s_X2_append_31 (d : gD) (a : Nat → Nat) (w : Int64) (h : Nat → Int32) (t : Nat → Int32) (hl : ¬ h 0 < 0) {X : gX} (E : gE d X RX2 cX2_append 5 R_X2_append) : ∀ (n : Nat) (b : Int32) (h1 : Nat → Int32) (t1 : Nat → Int32) (hb : -1 ≤ b.toInt) (hl1 : ¬ h1 0 < 0) (hm : (b.toInt + 1).toNat < n) (RET : ∀ (pc_ : Nat) (lv_ : List (Nat × Value)) (v_ : Int32) (u_ : va_W), decode cX2_append pc_ = .ok (.ireturn, 1) → narrow .int (.int v_) = .int v_ → v_ = r_X2_append_at31 w h t n b h1 t1 → u_ = PK d a (c_X2_append_h_at31 w h t n b h1 t1) (c_X2_append_t_at31 w h t n b h1 t1) → G d X u_ R_X2_append.cells R_X2_append.slots pc_ lv_ [.int v_]), G d X (PK d a h1 t1) 0 0 31 [(0, .ref (a 0)), (1, .long w), (4, .int b)] [] := by
  intro n
  induction n with
  | zero => intro b h1 t1 hb hl1 hm; omega
  | succ n ih =>
    intro b h1 t1 hb hl1 hm RET
    refine g_iload E 2 dX2_append_31 rfl ?_
    refine g_iflt E 86 dX2_append_33 (by decide) (fun c_33 => ?_) (fun c_33 => ?_)
    · skip
      refine g_aload_n E 0 dX2_append_86 rfl rfl ?_
      refine g_get E (ci := 2) inlX2 0 rfl rfl 1 (by decide) fl_X2_19 rfl (.int (h1 0)) rfl dX2_append_87 ?_
      exact RET 90 _ (h1 0) _ dX2_append_90 rfl (by rw [r_X2_append_at31, if_pos c_33]) (by rw [c_X2_append_h_at31, if_pos c_33, c_X2_append_t_at31, if_pos c_33])
    · skip
      refine g_aload_n E 0 dX2_append_36 rfl rfl ?_
      refine g_get E (ci := 2) inlX2 0 rfl rfl 1 (by decide) fl_X2_19 rfl (.int (h1 0)) rfl dX2_append_37 ?_
      refine g_aload_n E 0 dX2_append_40 rfl rfl ?_
      refine g_get E (ci := 2) inlX2 0 rfl rfl 0 (by decide) fl_X2_9 rfl (.ref (a 1)) rfl dX2_append_41 ?_
      refine g_alen E 1 1 rfl rfl 80 rfl dX2_append_44 ?_
      refine g_icmpge E 86 dX2_append_45 (by decide) (fun c_45 => ?_) (fun c_45 => ?_)
      · skip
        refine g_aload_n E 0 dX2_append_86 rfl rfl ?_
        refine g_get E (ci := 2) inlX2 0 rfl rfl 1 (by decide) fl_X2_19 rfl (.int (h1 0)) rfl dX2_append_87 ?_
        exact RET 90 _ (h1 0) _ dX2_append_90 rfl (by rw [r_X2_append_at31, if_neg c_33, if_neg c_45]) (by rw [c_X2_append_h_at31, if_neg c_33, if_neg c_45, c_X2_append_t_at31, if_neg c_33, if_neg c_45])
      · skip
        refine g_aload_n E 0 dX2_append_48 rfl rfl ?_
        refine g_get E (ci := 2) inlX2 0 rfl rfl 0 (by decide) fl_X2_9 rfl (.ref (a 1)) rfl dX2_append_49 ?_
        refine g_aload_n E 0 dX2_append_52 rfl rfl ?_
        refine g_get E (ci := 2) inlX2 0 rfl rfl 1 (by decide) fl_X2_19 rfl (.int (h1 0)) rfl dX2_append_53 ?_
        refine g_lload_n E 1 dX2_append_56 rfl rfl ?_
        refine g_bipush E 8 dX2_append_57 (by decide) ?_
        refine g_iload E 2 dX2_append_59 rfl ?_
        refine g_imul E dX2_append_61 ?_
        refine g_lushr E dX2_append_62 ?_
        refine g_ldc2 E kl_X2_23 dX2_append_63 ?_
        refine g_land E dX2_append_66 ?_
        refine g_l2i E dX2_append_67 ?_
        refine g_i2c E dX2_append_68 ?_
        refine g_cast E 1 rfl rfl ((h1 0).toNatClampNeg) (ix_eq hl1) (ix_lt (N := 80) hl1 c_45) (by decide) (ws' := PK d a h1 (upd t1 ((h1 0).toNatClampNeg) (vp_nar .char ((((((w.toUInt64 >>> ((8 * b).toInt64.toUInt64 &&& Int64.toUInt64 63)).toInt64) &&& 255).toInt32).toUInt32 % 65536).toInt32)))) rfl dX2_append_69 ?_
        refine g_aload_n E 0 dX2_append_70 rfl rfl ?_
        refine g_dup E dX2_append_71 rfl ?_
        refine g_get E (ci := 2) inlX2 0 rfl rfl 1 (by decide) fl_X2_19 rfl (.int (h1 0)) rfl dX2_append_72 ?_
        refine g_iconst E 1 dX2_append_75 (by decide) ?_
        refine g_iadd E dX2_append_76 ?_
        refine g_put E (ci := 2) inlX2 0 rfl rfl 1 (by decide) tyX2 tyX2_ok nmX2 fl_X2_19 rfl rfl rfl rfl (ok_lt rfl) (ws' := PK d a (upd h1 0 ((h1 0) + 1)) (upd t1 ((h1 0).toNatClampNeg) (vp_nar .char ((((((w.toUInt64 >>> ((8 * b).toInt64.toUInt64 &&& Int64.toUInt64 63)).toInt64) &&& 255).toInt32).toUInt32 % 65536).toInt32)))) rfl dX2_append_77 ?_
        refine g_iinc E (j := 2) (v := (b + (-1))) (lv' := [(4, .int (b + (-1))), (0, .ref (a 0)), (1, .long w)]) dX2_append_80 rfl rfl (by decide) rfl ?_
        refine g_goto E 31 dX2_append_83 (by decide) ?_
        refine g_lvs (lv' := [(0, .ref (a 0)), (1, .long w), (4, .int (b + (-1)))]) [1, 2, 0] rfl ?_
        exact ih (b + (-1)) (upd h1 0 ((h1 0) + 1)) (upd t1 ((h1 0).toNatClampNeg) (vp_nar .char ((((((w.toUInt64 >>> ((8 * b).toInt64.toUInt64 &&& Int64.toUInt64 63)).toInt64) &&& 255).toInt32).toUInt32 % 65536).toInt32))) (by have := i_dec c_33; omega) (i_suc hl1 c_45) (by have := i_dec c_33; omega) (fun pc_ lv_ v_ u_ h1_ h2_ h3_ h4_ => RET pc_ lv_ v_ u_ h1_ h2_ (h3_.trans (by rw [r_X2_append_at31, if_neg c_33, if_pos c_45])) (h4_.trans (by rw [c_X2_append_h_at31, if_neg c_33, if_pos c_45, c_X2_append_t_at31, if_neg c_33, if_pos c_45])))
set_option maxHeartbeats 1000000 in
set_option maxRecDepth 100000 in
theorem s_X2_append_0 (d : gD) (a : Nat → Nat) (w : Int64) (h : Nat → Int32) (t : Nat → Int32) (hl : ¬ h 0 < 0)  {X : gX} (E : gE d X RX2 cX2_append 5 R_X2_append) (RET : ∀ (pc_ : Nat) (lv_ : List (Nat × Value)) (v_ : Int32) (u_ : va_W), decode cX2_append pc_ = .ok (.ireturn, 1) → narrow .int (.int v_) = .int v_ → v_ = r_X2_append w h t → u_ = PK d a (c_X2_append_h w h t) (c_X2_append_t w h t) → G d X u_ R_X2_append.cells R_X2_append.slots pc_ lv_ [.int v_]) : G d X (PK d a h t) 0 0 0 [(0, .ref (a 0)), (1, .long w)] [] := by
  refine g_lload_n E 1 dX2_append_0 rfl rfl ?_
  refine g_callSp E gc_X2_charactersIn ml_X2_15 (t_X2_charactersIn d w ) rfl rfl rfl (ok_le rfl) ⟨ok_le rfl, ok_le rfl, ok_le rfl, ok_le rfl⟩ rfl rfl dX2_append_1 ?_
  refine g_nm (fun v1_ hv1_ => ?_)
  refine g_istore_n E (lv' := [(3, .int v1_), (0, .ref (a 0)), (1, .long w)]) dX2_append_4 rfl (by decide) rfl ?_
  refine g_iload_n E 0 dX2_append_5 rfl rfl ?_
  refine g_ifne E 12 dX2_append_6 (by decide) (fun c_6 => ?_) (fun c_6 => ?_)
  · skip
    refine g_aload_n E 1 dX2_append_12 rfl rfl ?_
    refine g_get E (ci := 2) inlX2 0 rfl rfl 1 (by decide) fl_X2_19 rfl (.int (h 0)) rfl dX2_append_13 ?_
    refine g_iload_n E 0 dX2_append_16 rfl rfl ?_
    refine g_iadd E dX2_append_17 ?_
    refine g_bipush E 80 dX2_append_18 (by decide) ?_
    refine g_icmple E 26 dX2_append_20 (by decide) (fun c_20 => ?_) (fun c_20 => ?_)
    · skip
      refine g_iload_n E 0 dX2_append_26 rfl rfl ?_
      refine g_iconst E 1 dX2_append_27 (by decide) ?_
      refine g_isub E dX2_append_28 ?_
      refine g_istore E (lv' := [(4, .int (v1_ - 1)), (3, .int v1_), (0, .ref (a 0)), (1, .long w)]) dX2_append_29 (by decide) rfl ?_
      refine g_lvs (lv' := [(0, .ref (a 0)), (1, .long w), (4, .int (v1_ - 1))]) [2, 3, 0] rfl ?_
      subst hv1_
      exact s_X2_append_31 d a w h t hl E 10 ((r_X2_charactersIn w) - 1) h t (by have := chars_le w; rw [i_many this]; omega) hl (by have := chars_le w; rw [i_many this]; omega) (fun pc_ lv_ v_ u_ h1_ h2_ h3_ h4_ => RET pc_ lv_ v_ u_ h1_ h2_ (h3_.trans (by rw [r_X2_append, if_neg c_6, if_neg c_20])) (h4_.trans (by rw [c_X2_append_h, if_neg c_6, if_neg c_20, c_X2_append_t, if_neg c_6, if_neg c_20])))
    · skip
      refine g_bipush E (-4) dX2_append_23 (by decide) ?_
      subst hv1_
      exact RET 25 _ (-4) _ dX2_append_25 rfl (by rw [r_X2_append, if_neg c_6, if_pos c_20]) (by rw [c_X2_append_h, if_neg c_6, if_pos c_20, c_X2_append_t, if_neg c_6, if_pos c_20])
  · skip
    refine g_bipush E (-2) dX2_append_9 (by decide) ?_
    subst hv1_
    exact RET 11 _ (-2) _ dX2_append_11 rfl (by rw [r_X2_append, if_pos c_6]) (by rw [c_X2_append_h, if_pos c_6, c_X2_append_t, if_pos c_6])
set_option maxHeartbeats 1000000 in
set_option maxRecDepth 100000 in
theorem t_X2_append (d : gD) (a : Nat → Nat) (w : Int64) (h : Nat → Int32) (t : Nat → Int32) (hl : ¬ h 0 < 0) : gMi d yX2_append cX2_append 5 (some .int) R_X2_append [.ref (a 0), .long w] (PK d a h t) (fun r_ u_ => r_ = r_X2_append w h t ∧ u_ = PK d a (c_X2_append_h w h t) (c_X2_append_t w h t)) :=
  g_met_i RX2 rfl (by decide +kernel) (Nat.le_of_ble_eq_true rfl) [(0, .ref (a 0)), (1, .long w)] rfl (fun X E RET => s_X2_append_0 d a w h t hl E (fun pc_ lv_ v_ u_ h1_ h2_ h3_ h4_ => RET pc_ lv_ v_ u_ h1_ h2_ ⟨h3_, h4_⟩))
