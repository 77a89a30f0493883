abbrev R_L_isStick : Room := { frames := 3, cells := 0, slots := 0, locals := 67 }
def r_L_isStick_at406 (S : SS) (w : Int32) (a5 : Int32) (b6 : Int32) : Int32 := if w = 0 then 0 else (if a5 = (S.1 21) then (if b6 = (S.1 19) then (if (r_X4_direction (S.2.2.1 0) 0 S) = (-1) then (if ((S.1 19) + (S.1 17)) < ((S.1 16) + (S.1 17)) then 0 else 1) else 0) else 0) else 0)
def r_L_isStick_at246 (S : SS) : Nat → (Nat) → (Int32) → (Int32) → (Int32) → Int32
  | 0, _, _, _, _ => 0
  | n + 1, k, a5, b6, w => if (nI k) < (S.2.2.1 0) then (if (nI k) < 9 then (if (r_X4_direction (nI k) 0 S) = 1 then (if (r_X4_direction (nI k) 1 S) = 1 then (if w = 0 then (r_L_isStick_at246 S n (k + 1) (a5 + (r_X4_direction (nI k) 2 S)) (b6 + 0) 0) else (if 0 < (r_X4_direction (nI k) 3 S) then (if (r_X4_direction (nI k) 2 S) < (r_X4_direction (nI k) 3 S) then (r_L_isStick_at246 S n (k + 1) (a5 + (r_X4_direction (nI k) 2 S)) (b6 + 0) 0) else (if (r_X4_direction (nI k) 0 S) < 0 then (r_L_isStick_at246 S n (k + 1) (a5 + (r_X4_direction (nI k) 2 S)) (b6 + 0) 0) else (if (r_X4_direction (nI k) 0 S) < 3 then (if (r_X4_direction (nI k) 1 S) < 0 then (r_L_isStick_at246 S n (k + 1) (a5 + (r_X4_direction (nI k) 2 S)) (b6 + 0) 0) else (if (r_X4_direction (nI k) 1 S) < 3 then (r_L_isStick_at246 S n (k + 1) (a5 + (r_X4_direction (nI k) 2 S)) (b6 + 0) 1) else (r_L_isStick_at246 S n (k + 1) (a5 + (r_X4_direction (nI k) 2 S)) (b6 + 0) 0))) else (r_L_isStick_at246 S n (k + 1) (a5 + (r_X4_direction (nI k) 2 S)) (b6 + 0) 0)))) else (r_L_isStick_at246 S n (k + 1) (a5 + (r_X4_direction (nI k) 2 S)) (b6 + 0) 0))) else (if w = 0 then (r_L_isStick_at246 S n (k + 1) (a5 + (r_X4_direction (nI k) 2 S)) (b6 + (r_X4_direction (nI k) 2 S)) 0) else (if 0 < (r_X4_direction (nI k) 3 S) then (if (r_X4_direction (nI k) 2 S) < (r_X4_direction (nI k) 3 S) then (r_L_isStick_at246 S n (k + 1) (a5 + (r_X4_direction (nI k) 2 S)) (b6 + (r_X4_direction (nI k) 2 S)) 0) else (if (r_X4_direction (nI k) 0 S) < 0 then (r_L_isStick_at246 S n (k + 1) (a5 + (r_X4_direction (nI k) 2 S)) (b6 + (r_X4_direction (nI k) 2 S)) 0) else (if (r_X4_direction (nI k) 0 S) < 3 then (if (r_X4_direction (nI k) 1 S) < 0 then (r_L_isStick_at246 S n (k + 1) (a5 + (r_X4_direction (nI k) 2 S)) (b6 + (r_X4_direction (nI k) 2 S)) 0) else (if (r_X4_direction (nI k) 1 S) < 3 then (r_L_isStick_at246 S n (k + 1) (a5 + (r_X4_direction (nI k) 2 S)) (b6 + (r_X4_direction (nI k) 2 S)) 1) else (r_L_isStick_at246 S n (k + 1) (a5 + (r_X4_direction (nI k) 2 S)) (b6 + (r_X4_direction (nI k) 2 S)) 0))) else (r_L_isStick_at246 S n (k + 1) (a5 + (r_X4_direction (nI k) 2 S)) (b6 + (r_X4_direction (nI k) 2 S)) 0)))) else (r_L_isStick_at246 S n (k + 1) (a5 + (r_X4_direction (nI k) 2 S)) (b6 + (r_X4_direction (nI k) 2 S)) 0)))) else (if w = 0 then (r_L_isStick_at246 S n (k + 1) (a5 + (r_X4_direction (nI k) 2 S)) (b6 + (r_X4_direction (nI k) 2 S)) 0) else (if 0 < (r_X4_direction (nI k) 3 S) then (if (r_X4_direction (nI k) 2 S) < (r_X4_direction (nI k) 3 S) then (r_L_isStick_at246 S n (k + 1) (a5 + (r_X4_direction (nI k) 2 S)) (b6 + (r_X4_direction (nI k) 2 S)) 0) else (if (r_X4_direction (nI k) 0 S) < 0 then (r_L_isStick_at246 S n (k + 1) (a5 + (r_X4_direction (nI k) 2 S)) (b6 + (r_X4_direction (nI k) 2 S)) 0) else (if (r_X4_direction (nI k) 0 S) < 3 then (if (r_X4_direction (nI k) 1 S) < 0 then (r_L_isStick_at246 S n (k + 1) (a5 + (r_X4_direction (nI k) 2 S)) (b6 + (r_X4_direction (nI k) 2 S)) 0) else (if (r_X4_direction (nI k) 1 S) < 3 then (r_L_isStick_at246 S n (k + 1) (a5 + (r_X4_direction (nI k) 2 S)) (b6 + (r_X4_direction (nI k) 2 S)) 1) else (r_L_isStick_at246 S n (k + 1) (a5 + (r_X4_direction (nI k) 2 S)) (b6 + (r_X4_direction (nI k) 2 S)) 0))) else (r_L_isStick_at246 S n (k + 1) (a5 + (r_X4_direction (nI k) 2 S)) (b6 + (r_X4_direction (nI k) 2 S)) 0)))) else (r_L_isStick_at246 S n (k + 1) (a5 + (r_X4_direction (nI k) 2 S)) (b6 + (r_X4_direction (nI k) 2 S)) 0)))) else (r_L_isStick_at406 S w a5 b6)) else (r_L_isStick_at406 S w a5 b6)
def r_L_isStick_at117 (S : SS) : Nat → (Nat) → (Int32) → Int32
  | 0, _, _ => 0
  | n + 1, k, w => if (nI k) < 2 then (if w = 0 then (r_L_isStick_at117 S n (k + 1) 0) else (if (r_X4_of (nI k) 0 S) < 0 then (r_L_isStick_at117 S n (k + 1) 0) else (if 4080 < (r_X4_of (nI k) 0 S) then (r_L_isStick_at117 S n (k + 1) 0) else (if (S.1 21) = 0 then (if (r_X4_of (nI k) 2 S) = (-6) then (if (r_X4_of (nI k) 3 S) = (-6) then (r_L_isStick_at117 S n (k + 1) 1) else (r_L_isStick_at117 S n (k + 1) 0)) else (r_L_isStick_at117 S n (k + 1) 0)) else (if (r_X4_of (nI k) 2 S) < 0 then (r_L_isStick_at117 S n (k + 1) 0) else (if (r_X4_of (nI k) 2 S) < 256 then (if (r_X4_of (nI k) 3 S) = (((r_X4_of (nI k) 2 S) - ((r_X4_of (nI k) 0 S) / 16)) + 1000) then (r_L_isStick_at117 S n (k + 1) 1) else (r_L_isStick_at117 S n (k + 1) 0)) else (r_L_isStick_at117 S n (k + 1) 0))))))) else (r_L_isStick_at246 S 10 0 0 0 w)
def r_L_isStick_at112 (S : SS) (v : Int32) : Int32 := r_L_isStick_at117 S 3 0 v
def r_L_isStick (S : SS) : Int32 := if (S.1 9) < (S.2.1 1) then (r_L_isStick_at112 S 0) else (if ((S.2.1 1) + (S.2.1 2)) < (S.1 9) then (r_L_isStick_at112 S 0) else (if 100 < (r_L_size (((S.1 14) + 100) - 100)) then (r_L_isStick_at112 S 0) else (if 100 < (r_L_size (((S.1 15) + 100) - 100)) then (r_L_isStick_at112 S 0) else (if (S.2.1 4) < ((r_L_size (((S.1 14) + 100) - 100)) + (r_L_size (((S.1 15) + 100) - 100))) then (r_L_isStick_at112 S 0) else (if (S.1 13) < 0 then (r_L_isStick_at112 S 0) else (if 20 < (S.1 13) then (r_L_isStick_at112 S 0) else (r_L_isStick_at112 S 1)))))))
set_option maxHeartbeats 1000000 in
set_option maxRecDepth 100000 in
theorem s_L_isStick_406 (d : gD) (x : Nat → Nat) (a : Nat → Nat) (b : Nat → Nat) (c : Nat → Nat) (e : Nat → Nat) (p : Nat → Nat → Nat) (q : Nat → Nat → Nat) (S : SS) (T : SS) (h : Nat → Int32) (t : Nat → Int32) (y : HS) (ss : Nat → Option SS)  (w : Int32) (a5 : Int32) (b6 : Int32)  {X : gX} (E : gE d X RL cL_isStick 11 R_L_isStick) (RET : ∀ (pc_ : Nat) (lv_ : List (Nat × Value)) (v_ : Int32) (u_ : va_W), decode cL_isStick pc_ = .ok (.ireturn, 1) → narrow .boolean (.int v_) = .int v_ → v_ = r_L_isStick_at406 S w a5 b6 → u_ = XW d (x, a, b, c, e) p q S T h t y ss → G d X u_ R_L_isStick.cells R_L_isStick.slots pc_ lv_ [.int v_]) : G d X (XW d (x, a, b, c, e) p q S T h t y ss) 0 0 406 [(0, .ref (x 0)), (4, .int w), (5, .int a5), (6, .int b6)] [] := by
  refine g_iload E 1 dL_isStick_406 rfl ?_
  refine g_ifeq E 477 dL_isStick_408 (by decide) (fun c_408 => ?_) (fun c_408 => ?_)
  · skip
    refine g_iconst E 0 dL_isStick_477 (by decide) ?_
    exact RET 478 _ 0 _ dL_isStick_478 rfl (by rw [r_L_isStick_at406, if_pos c_408]) rfl
  · skip
    refine g_iload E 2 dL_isStick_411 rfl ?_
    refine g_aload_n E 0 dL_isStick_413 rfl rfl ?_
    refine g_iconst E 0 dL_isStick_414 (by decide) ?_
    refine g_callVi0 E gc_X4_count ml_L_8 (t_X4_count d x a b c e 0 p q S T h t y ss ) rfl rfl (ci := 4) 0 rfl rfl rfl rfl (ok_le rfl) ⟨ok_le rfl, ok_le rfl, ok_le rfl, ok_le rfl⟩ rfl rfl dL_isStick_415 ?_
    refine g_top (b := S.1 21) (count_0 _ _ _) ?_
    refine g_icmpne E 477 dL_isStick_418 (by decide) (fun c_418 => ?_) (fun c_418 => ?_)
    · skip
      refine g_iconst E 0 dL_isStick_477 (by decide) ?_
      exact RET 478 _ 0 _ dL_isStick_478 rfl (by rw [r_L_isStick_at406, if_neg c_408, if_neg c_418]) rfl
    · skip
      refine g_iload E 3 dL_isStick_421 rfl ?_
      refine g_aload_n E 0 dL_isStick_423 rfl rfl ?_
      refine g_bipush E 7 dL_isStick_424 (by decide) ?_
      refine g_callVi0 E gc_X4_count ml_L_8 (t_X4_count d x a b c e 7 p q S T h t y ss ) rfl rfl (ci := 4) 0 rfl rfl rfl rfl (ok_le rfl) ⟨ok_le rfl, ok_le rfl, ok_le rfl, ok_le rfl⟩ rfl rfl dL_isStick_426 ?_
      refine g_top (b := S.1 19) (count_7 _ _ _) ?_
      refine g_icmpne E 477 dL_isStick_429 (by decide) (fun c_429 => ?_) (fun c_429 => ?_)
      · skip
        refine g_iconst E 0 dL_isStick_477 (by decide) ?_
        exact RET 478 _ 0 _ dL_isStick_478 rfl (by rw [r_L_isStick_at406, if_neg c_408, if_pos c_418, if_neg c_429]) rfl
      · skip
        refine g_aload_n E 0 dL_isStick_432 rfl rfl ?_
        refine g_aload_n E 0 dL_isStick_433 rfl rfl ?_
        refine g_bipush E 8 dL_isStick_434 (by decide) ?_
        refine g_callVi0 E gc_X4_count ml_L_8 (t_X4_count d x a b c e 8 p q S T h t y ss ) rfl rfl (ci := 4) 0 rfl rfl rfl rfl (ok_le rfl) ⟨ok_le rfl, ok_le rfl, ok_le rfl, ok_le rfl⟩ rfl rfl dL_isStick_436 ?_
        refine g_top (b := S.2.2.1 0) (count_8 _ _ _) ?_
        refine g_iconst E 0 dL_isStick_439 (by decide) ?_
        refine g_callVi0 E gc_X4_direction ml_L_23 (t_X4_direction d x a b c e (S.2.2.1 0) 0 p q S T h t y ss ) rfl rfl (ci := 4) 0 rfl rfl rfl rfl (ok_le rfl) ⟨ok_le rfl, ok_le rfl, ok_le rfl, ok_le rfl⟩ rfl rfl dL_isStick_440 ?_
        refine g_nm (fun v39_ hv39_ => ?_)
        refine g_iconst E (-1) dL_isStick_443 (by decide) ?_
        refine g_icmpne E 477 dL_isStick_444 (by decide) (fun c_444 => ?_) (fun c_444 => ?_)
        · skip
          refine g_iconst E 0 dL_isStick_477 (by decide) ?_
          subst hv39_
          exact RET 478 _ 0 _ dL_isStick_478 rfl (by rw [r_L_isStick_at406, if_neg c_408, if_pos c_418, if_pos c_429, if_neg c_444]) rfl
        · skip
          refine g_aload_n E 0 dL_isStick_447 rfl rfl ?_
          refine g_iconst E 4 dL_isStick_448 (by decide) ?_
          refine g_callVi0 E gc_X4_count ml_L_8 (t_X4_count d x a b c e 4 p q S T h t y ss ) rfl rfl (ci := 4) 0 rfl rfl rfl rfl (ok_le rfl) ⟨ok_le rfl, ok_le rfl, ok_le rfl, ok_le rfl⟩ rfl rfl dL_isStick_449 ?_
          refine g_top (b := S.1 16) (count_4 _ _ _) ?_
          refine g_aload_n E 0 dL_isStick_452 rfl rfl ?_
          refine g_iconst E 5 dL_isStick_453 (by decide) ?_
          refine g_callVi0 E gc_X4_count ml_L_8 (t_X4_count d x a b c e 5 p q S T h t y ss ) rfl rfl (ci := 4) 0 rfl rfl rfl rfl (ok_le rfl) ⟨ok_le rfl, ok_le rfl, ok_le rfl, ok_le rfl⟩ rfl rfl dL_isStick_454 ?_
          refine g_top (b := S.1 17) (count_5 _ _ _) ?_
          refine g_iadd E dL_isStick_457 ?_
          refine g_aload_n E 0 dL_isStick_458 rfl rfl ?_
          refine g_bipush E 7 dL_isStick_459 (by decide) ?_
          refine g_callVi0 E gc_X4_count ml_L_8 (t_X4_count d x a b c e 7 p q S T h t y ss ) rfl rfl (ci := 4) 0 rfl rfl rfl rfl (ok_le rfl) ⟨ok_le rfl, ok_le rfl, ok_le rfl, ok_le rfl⟩ rfl rfl dL_isStick_461 ?_
          refine g_top (b := S.1 19) (count_7 _ _ _) ?_
          refine g_aload_n E 0 dL_isStick_464 rfl rfl ?_
          refine g_iconst E 5 dL_isStick_465 (by decide) ?_
          refine g_callVi0 E gc_X4_count ml_L_8 (t_X4_count d x a b c e 5 p q S T h t y ss ) rfl rfl (ci := 4) 0 rfl rfl rfl rfl (ok_le rfl) ⟨ok_le rfl, ok_le rfl, ok_le rfl, ok_le rfl⟩ rfl rfl dL_isStick_466 ?_
          refine g_top (b := S.1 17) (count_5 _ _ _) ?_
          refine g_iadd E dL_isStick_469 ?_
          refine g_icmpgt E 477 dL_isStick_470 (by decide) (fun c_470 => ?_) (fun c_470 => ?_)
          · skip
            refine g_iconst E 0 dL_isStick_477 (by decide) ?_
            subst hv39_
            exact RET 478 _ 0 _ dL_isStick_478 rfl (by rw [r_L_isStick_at406, if_neg c_408, if_pos c_418, if_pos c_429, if_pos c_444, if_pos c_470]) rfl
          · skip
            refine g_iconst E 1 dL_isStick_473 (by decide) ?_
            refine g_goto E 478 dL_isStick_474 (by decide) ?_
            subst hv39_
            exact RET 478 _ 1 _ dL_isStick_478 rfl (by rw [r_L_isStick_at406, if_neg c_408, if_pos c_418, if_pos c_429, if_pos c_444, if_neg c_470]) rfl
set_option maxHeartbeats 1000000 in
set_option maxRecDepth 100000 in
theorem s_L_isStick_246 (d : gD) (x : Nat → Nat) (a : Nat → Nat) (b : Nat → Nat) (c : Nat → Nat) (e : Nat → Nat) (p : Nat → Nat → Nat) (q : Nat → Nat → Nat) (S : SS) (T : SS) (h : Nat → Int32) (t : Nat → Int32) (y : HS) (ss : Nat → Option SS)  {X : gX} (E : gE d X RL cL_isStick 11 R_L_isStick) : ∀ (n : Nat) (k : Nat) (a5 : Int32) (b6 : Int32) (w : Int32) (hk : k ≤ 9) (hm : 9 - k < n) (RET : ∀ (pc_ : Nat) (lv_ : List (Nat × Value)) (v_ : Int32) (u_ : va_W), decode cL_isStick pc_ = .ok (.ireturn, 1) → narrow .boolean (.int v_) = .int v_ → v_ = r_L_isStick_at246 S n k a5 b6 w → u_ = XW d (x, a, b, c, e) p q S T h t y ss → G d X u_ R_L_isStick.cells R_L_isStick.slots pc_ lv_ [.int v_]), G d X (XW d (x, a, b, c, e) p q S T h t y ss) 0 0 246 [(0, .ref (x 0)), (4, .int w), (5, .int a5), (6, .int b6), (7, .int (nI k))] [] := by
  intro n
  induction n with
  | zero => intro k a5 b6 w hk hm; omega
  | succ n ih =>
    intro k a5 b6 w hk hm RET
    refine g_iload E 4 dL_isStick_246 rfl ?_
    refine g_aload_n E 0 dL_isStick_248 rfl rfl ?_
    refine g_bipush E 8 dL_isStick_249 (by decide) ?_
    refine g_callVi0 E gc_X4_count ml_L_8 (t_X4_count d x a b c e 8 p q S T h t y ss ) rfl rfl (ci := 4) 0 rfl rfl rfl rfl (ok_le rfl) ⟨ok_le rfl, ok_le rfl, ok_le rfl, ok_le rfl⟩ rfl rfl dL_isStick_251 ?_
    refine g_top (b := S.2.2.1 0) (count_8 _ _ _) ?_
    refine g_icmpge E 406 dL_isStick_254 (by decide) (fun c_254 => ?_) (fun c_254 => ?_)
    · skip
      refine g_lvs (lv' := [(0, .ref (x 0)), (4, .int w), (5, .int a5), (6, .int b6)]) [0, 1, 2, 3] rfl ?_
      exact s_L_isStick_406 d x a b c e p q S T h t y ss  w a5 b6  E (fun pc_ lv_ v_ u_ h1_ h2_ h3_ h4_ => RET pc_ lv_ v_ u_ h1_ h2_ (h3_.trans (by rw [r_L_isStick_at246, if_neg c_254])) h4_)
    · skip
      refine g_iload E 4 dL_isStick_257 rfl ?_
      refine g_bipush E 9 dL_isStick_259 (by decide) ?_
      refine g_icmpge E 406 dL_isStick_261 (by decide) (fun c_261 => ?_) (fun c_261 => ?_)
      · skip
        refine g_lvs (lv' := [(0, .ref (x 0)), (4, .int w), (5, .int a5), (6, .int b6)]) [0, 1, 2, 3] rfl ?_
        exact s_L_isStick_406 d x a b c e p q S T h t y ss  w a5 b6  E (fun pc_ lv_ v_ u_ h1_ h2_ h3_ h4_ => RET pc_ lv_ v_ u_ h1_ h2_ (h3_.trans (by rw [r_L_isStick_at246, if_pos c_254, if_neg c_261])) h4_)
      · skip
        have k261 : k < 9 := (nI_ltI (a := k) (b := 9) (by omega) (by omega)).mp c_261
        refine g_aload_n E 0 dL_isStick_264 rfl rfl ?_
        refine g_iload E 4 dL_isStick_265 rfl ?_
        refine g_iconst E 2 dL_isStick_267 (by decide) ?_
        refine g_callVi0 E gc_X4_direction ml_L_23 (t_X4_direction d x a b c e (nI k) 2 p q S T h t y ss ) rfl rfl (ci := 4) 0 rfl rfl rfl rfl (ok_le rfl) ⟨ok_le rfl, ok_le rfl, ok_le rfl, ok_le rfl⟩ rfl rfl dL_isStick_268 ?_
        refine g_nm (fun v20_ hv20_ => ?_)
        refine g_istore E (lv' := [(8, .int v20_), (0, .ref (x 0)), (4, .int w), (5, .int a5), (6, .int b6), (7, .int (nI k))]) dL_isStick_271 (by decide) rfl ?_
        refine g_aload_n E 1 dL_isStick_273 rfl rfl ?_
        refine g_iload E 5 dL_isStick_274 rfl ?_
        refine g_iconst E 3 dL_isStick_276 (by decide) ?_
        refine g_callVi0 E gc_X4_direction ml_L_23 (t_X4_direction d x a b c e (nI k) 3 p q S T h t y ss ) rfl rfl (ci := 4) 0 rfl rfl rfl rfl (ok_le rfl) ⟨ok_le rfl, ok_le rfl, ok_le rfl, ok_le rfl⟩ rfl rfl dL_isStick_277 ?_
        refine g_nm (fun v21_ hv21_ => ?_)
        refine g_istore E (lv' := [(9, .int v21_), (8, .int v20_), (0, .ref (x 0)), (4, .int w), (5, .int a5), (6, .int b6), (7, .int (nI k))]) dL_isStick_280 (by decide) rfl ?_
        refine g_aload_n E 2 dL_isStick_282 rfl rfl ?_
        refine g_iload E 6 dL_isStick_283 rfl ?_
        refine g_iconst E 0 dL_isStick_285 (by decide) ?_
        refine g_callVi0 E gc_X4_direction ml_L_23 (t_X4_direction d x a b c e (nI k) 0 p q S T h t y ss ) rfl rfl (ci := 4) 0 rfl rfl rfl rfl (ok_le rfl) ⟨ok_le rfl, ok_le rfl, ok_le rfl, ok_le rfl⟩ rfl rfl dL_isStick_286 ?_
        refine g_nm (fun v22_ hv22_ => ?_)
        refine g_iconst E 1 dL_isStick_289 (by decide) ?_
        refine g_icmpne E 308 dL_isStick_290 (by decide) (fun c_290 => ?_) (fun c_290 => ?_)
        · skip
          refine g_iconst E 0 dL_isStick_308 (by decide) ?_
          refine g_istore E (lv' := [(10, .int 0), (9, .int v21_), (8, .int v20_), (0, .ref (x 0)), (4, .int w), (5, .int a5), (6, .int b6), (7, .int (nI k))]) dL_isStick_309 (by decide) rfl ?_
          refine g_iload E 5 dL_isStick_311 rfl ?_
          refine g_iload E 2 dL_isStick_313 rfl ?_
          refine g_iadd E dL_isStick_315 ?_
          refine g_istore E (lv' := [(5, .int (a5 + v20_)), (10, .int 0), (9, .int v21_), (8, .int v20_), (0, .ref (x 0)), (4, .int w), (6, .int b6), (7, .int (nI k))]) dL_isStick_316 (by decide) rfl ?_
          refine g_iload E 6 dL_isStick_318 rfl ?_
          refine g_iload E 1 dL_isStick_320 rfl ?_
          refine g_ifeq E 329 dL_isStick_322 (by decide) (fun _ => ?_) (fun q_ => absurd q_ (by decide))
          refine g_iload E 3 dL_isStick_329 rfl ?_
          refine g_iadd E dL_isStick_331 ?_
          refine g_istore E (lv' := [(6, .int (b6 + v20_)), (5, .int (a5 + v20_)), (10, .int 0), (9, .int v21_), (8, .int v20_), (0, .ref (x 0)), (4, .int w), (7, .int (nI k))]) dL_isStick_332 (by decide) rfl ?_
          refine g_iload E 6 dL_isStick_334 rfl ?_
          refine g_ifeq E 397 dL_isStick_336 (by decide) (fun c_336 => ?_) (fun c_336 => ?_)
          · skip
            refine g_iconst E 0 dL_isStick_397 (by decide) ?_
            refine g_istore E (lv' := [(4, .int 0), (6, .int (b6 + v20_)), (5, .int (a5 + v20_)), (10, .int 0), (9, .int v21_), (8, .int v20_), (0, .ref (x 0)), (7, .int (nI k))]) dL_isStick_398 (by decide) rfl ?_
            refine g_iinc E (j := 7) (v := (nI (k + 1))) (lv' := [(7, .int (nI (k + 1))), (4, .int 0), (6, .int (b6 + v20_)), (5, .int (a5 + v20_)), (10, .int 0), (9, .int v21_), (8, .int v20_), (0, .ref (x 0))]) dL_isStick_400 rfl (nI_1 _) (by decide) rfl ?_
            refine g_goto E 246 dL_isStick_403 (by decide) ?_
            refine g_lvs (lv' := [(0, .ref (x 0)), (4, .int 0), (5, .int (a5 + v20_)), (6, .int (b6 + v20_)), (7, .int (nI (k + 1)))]) [7, 1, 3, 2, 0] rfl ?_
            subst hv22_
            subst hv21_
            subst hv20_
            exact ih (k + 1) (a5 + (r_X4_direction (nI k) 2 S)) (b6 + (r_X4_direction (nI k) 2 S)) 0 (by omega) (by omega) (fun pc_ lv_ v_ u_ h1_ h2_ h3_ h4_ => RET pc_ lv_ v_ u_ h1_ h2_ (h3_.trans (by rw [r_L_isStick_at246, if_pos c_254, if_pos c_261, if_neg c_290, if_pos c_336])) h4_)
          · skip
            refine g_iload E 3 dL_isStick_339 rfl ?_
            refine g_ifle E 397 dL_isStick_341 (by decide) (fun c_341 => ?_) (fun c_341 => ?_)
            · skip
              refine g_iconst E 0 dL_isStick_397 (by decide) ?_
              refine g_istore E (lv' := [(4, .int 0), (6, .int (b6 + v20_)), (5, .int (a5 + v20_)), (10, .int 0), (9, .int v21_), (8, .int v20_), (0, .ref (x 0)), (7, .int (nI k))]) dL_isStick_398 (by decide) rfl ?_
              refine g_iinc E (j := 7) (v := (nI (k + 1))) (lv' := [(7, .int (nI (k + 1))), (4, .int 0), (6, .int (b6 + v20_)), (5, .int (a5 + v20_)), (10, .int 0), (9, .int v21_), (8, .int v20_), (0, .ref (x 0))]) dL_isStick_400 rfl (nI_1 _) (by decide) rfl ?_
              refine g_goto E 246 dL_isStick_403 (by decide) ?_
              refine g_lvs (lv' := [(0, .ref (x 0)), (4, .int 0), (5, .int (a5 + v20_)), (6, .int (b6 + v20_)), (7, .int (nI (k + 1)))]) [7, 1, 3, 2, 0] rfl ?_
              subst hv22_
              subst hv21_
              subst hv20_
              exact ih (k + 1) (a5 + (r_X4_direction (nI k) 2 S)) (b6 + (r_X4_direction (nI k) 2 S)) 0 (by omega) (by omega) (fun pc_ lv_ v_ u_ h1_ h2_ h3_ h4_ => RET pc_ lv_ v_ u_ h1_ h2_ (h3_.trans (by rw [r_L_isStick_at246, if_pos c_254, if_pos c_261, if_neg c_290, if_neg c_336, if_neg c_341])) h4_)
            · skip
              refine g_iload E 3 dL_isStick_344 rfl ?_
              refine g_iload E 4 dL_isStick_346 rfl ?_
              refine g_icmpgt E 397 dL_isStick_348 (by decide) (fun c_348 => ?_) (fun c_348 => ?_)
              · skip
                refine g_iconst E 0 dL_isStick_397 (by decide) ?_
                refine g_istore E (lv' := [(4, .int 0), (6, .int (b6 + v20_)), (5, .int (a5 + v20_)), (10, .int 0), (9, .int v21_), (8, .int v20_), (0, .ref (x 0)), (7, .int (nI k))]) dL_isStick_398 (by decide) rfl ?_
                refine g_iinc E (j := 7) (v := (nI (k + 1))) (lv' := [(7, .int (nI (k + 1))), (4, .int 0), (6, .int (b6 + v20_)), (5, .int (a5 + v20_)), (10, .int 0), (9, .int v21_), (8, .int v20_), (0, .ref (x 0))]) dL_isStick_400 rfl (nI_1 _) (by decide) rfl ?_
                refine g_goto E 246 dL_isStick_403 (by decide) ?_
                refine g_lvs (lv' := [(0, .ref (x 0)), (4, .int 0), (5, .int (a5 + v20_)), (6, .int (b6 + v20_)), (7, .int (nI (k + 1)))]) [7, 1, 3, 2, 0] rfl ?_
                subst hv22_
                subst hv21_
                subst hv20_
                exact ih (k + 1) (a5 + (r_X4_direction (nI k) 2 S)) (b6 + (r_X4_direction (nI k) 2 S)) 0 (by omega) (by omega) (fun pc_ lv_ v_ u_ h1_ h2_ h3_ h4_ => RET pc_ lv_ v_ u_ h1_ h2_ (h3_.trans (by rw [r_L_isStick_at246, if_pos c_254, if_pos c_261, if_neg c_290, if_neg c_336, if_pos c_341, if_pos c_348])) h4_)
              · skip
                refine g_aload_n E 5 dL_isStick_351 rfl rfl ?_
                refine g_iload E 7 dL_isStick_352 rfl ?_
                refine g_iconst E 0 dL_isStick_354 (by decide) ?_
                refine g_callVi0 E gc_X4_direction ml_L_23 (t_X4_direction d x a b c e (nI k) 0 p q S T h t y ss ) rfl rfl (ci := 4) 0 rfl rfl rfl rfl (ok_le rfl) ⟨ok_le rfl, ok_le rfl, ok_le rfl, ok_le rfl⟩ rfl rfl dL_isStick_355 ?_
                refine g_nm (fun v23_ hv23_ => ?_)
                refine g_iflt E 397 dL_isStick_358 (by decide) (fun c_358 => ?_) (fun c_358 => ?_)
                · skip
                  refine g_iconst E 0 dL_isStick_397 (by decide) ?_
                  refine g_istore E (lv' := [(4, .int 0), (6, .int (b6 + v20_)), (5, .int (a5 + v20_)), (10, .int 0), (9, .int v21_), (8, .int v20_), (0, .ref (x 0)), (7, .int (nI k))]) dL_isStick_398 (by decide) rfl ?_
                  refine g_iinc E (j := 7) (v := (nI (k + 1))) (lv' := [(7, .int (nI (k + 1))), (4, .int 0), (6, .int (b6 + v20_)), (5, .int (a5 + v20_)), (10, .int 0), (9, .int v21_), (8, .int v20_), (0, .ref (x 0))]) dL_isStick_400 rfl (nI_1 _) (by decide) rfl ?_
                  refine g_goto E 246 dL_isStick_403 (by decide) ?_
                  refine g_lvs (lv' := [(0, .ref (x 0)), (4, .int 0), (5, .int (a5 + v20_)), (6, .int (b6 + v20_)), (7, .int (nI (k + 1)))]) [7, 1, 3, 2, 0] rfl ?_
                  subst hv23_
                  subst hv22_
                  subst hv21_
                  subst hv20_
                  exact ih (k + 1) (a5 + (r_X4_direction (nI k) 2 S)) (b6 + (r_X4_direction (nI k) 2 S)) 0 (by omega) (by omega) (fun pc_ lv_ v_ u_ h1_ h2_ h3_ h4_ => RET pc_ lv_ v_ u_ h1_ h2_ (h3_.trans (by rw [r_L_isStick_at246, if_pos c_254, if_pos c_261, if_neg c_290, if_neg c_336, if_pos c_341, if_neg c_348, if_pos c_358])) h4_)
                · skip
                  refine g_aload_n E 5 dL_isStick_361 rfl rfl ?_
                  refine g_iload E 7 dL_isStick_362 rfl ?_
                  refine g_iconst E 0 dL_isStick_364 (by decide) ?_
                  refine g_callVi0 E gc_X4_direction ml_L_23 (t_X4_direction d x a b c e (nI k) 0 p q S T h t y ss ) rfl rfl (ci := 4) 0 rfl rfl rfl rfl (ok_le rfl) ⟨ok_le rfl, ok_le rfl, ok_le rfl, ok_le rfl⟩ rfl rfl dL_isStick_365 ?_
                  refine g_nm (fun v24_ hv24_ => ?_)
                  refine g_iconst E 3 dL_isStick_368 (by decide) ?_
                  refine g_icmpge E 397 dL_isStick_369 (by decide) (fun c_369 => ?_) (fun c_369 => ?_)
                  · skip
                    refine g_iconst E 0 dL_isStick_397 (by decide) ?_
                    refine g_istore E (lv' := [(4, .int 0), (6, .int (b6 + v20_)), (5, .int (a5 + v20_)), (10, .int 0), (9, .int v21_), (8, .int v20_), (0, .ref (x 0)), (7, .int (nI k))]) dL_isStick_398 (by decide) rfl ?_
                    refine g_iinc E (j := 7) (v := (nI (k + 1))) (lv' := [(7, .int (nI (k + 1))), (4, .int 0), (6, .int (b6 + v20_)), (5, .int (a5 + v20_)), (10, .int 0), (9, .int v21_), (8, .int v20_), (0, .ref (x 0))]) dL_isStick_400 rfl (nI_1 _) (by decide) rfl ?_
                    refine g_goto E 246 dL_isStick_403 (by decide) ?_
                    refine g_lvs (lv' := [(0, .ref (x 0)), (4, .int 0), (5, .int (a5 + v20_)), (6, .int (b6 + v20_)), (7, .int (nI (k + 1)))]) [7, 1, 3, 2, 0] rfl ?_
                    subst hv24_
                    subst hv23_
                    subst hv22_
                    subst hv21_
                    subst hv20_
                    exact ih (k + 1) (a5 + (r_X4_direction (nI k) 2 S)) (b6 + (r_X4_direction (nI k) 2 S)) 0 (by omega) (by omega) (fun pc_ lv_ v_ u_ h1_ h2_ h3_ h4_ => RET pc_ lv_ v_ u_ h1_ h2_ (h3_.trans (by rw [r_L_isStick_at246, if_pos c_254, if_pos c_261, if_neg c_290, if_neg c_336, if_pos c_341, if_neg c_348, if_neg c_358, if_neg c_369])) h4_)
                  · skip
                    refine g_aload_n E 5 dL_isStick_372 rfl rfl ?_
                    refine g_iload E 7 dL_isStick_373 rfl ?_
                    refine g_iconst E 1 dL_isStick_375 (by decide) ?_
                    refine g_callVi0 E gc_X4_direction ml_L_23 (t_X4_direction d x a b c e (nI k) 1 p q S T h t y ss ) rfl rfl (ci := 4) 0 rfl rfl rfl rfl (ok_le rfl) ⟨ok_le rfl, ok_le rfl, ok_le rfl, ok_le rfl⟩ rfl rfl dL_isStick_376 ?_
                    refine g_nm (fun v25_ hv25_ => ?_)
                    refine g_iflt E 397 dL_isStick_379 (by decide) (fun c_379 => ?_) (fun c_379 => ?_)
                    · skip
                      refine g_iconst E 0 dL_isStick_397 (by decide) ?_
                      refine g_istore E (lv' := [(4, .int 0), (6, .int (b6 + v20_)), (5, .int (a5 + v20_)), (10, .int 0), (9, .int v21_), (8, .int v20_), (0, .ref (x 0)), (7, .int (nI k))]) dL_isStick_398 (by decide) rfl ?_
                      refine g_iinc E (j := 7) (v := (nI (k + 1))) (lv' := [(7, .int (nI (k + 1))), (4, .int 0), (6, .int (b6 + v20_)), (5, .int (a5 + v20_)), (10, .int 0), (9, .int v21_), (8, .int v20_), (0, .ref (x 0))]) dL_isStick_400 rfl (nI_1 _) (by decide) rfl ?_
                      refine g_goto E 246 dL_isStick_403 (by decide) ?_
                      refine g_lvs (lv' := [(0, .ref (x 0)), (4, .int 0), (5, .int (a5 + v20_)), (6, .int (b6 + v20_)), (7, .int (nI (k + 1)))]) [7, 1, 3, 2, 0] rfl ?_
                      subst hv25_
                      subst hv24_
                      subst hv23_
                      subst hv22_
                      subst hv21_
                      subst hv20_
                      exact ih (k + 1) (a5 + (r_X4_direction (nI k) 2 S)) (b6 + (r_X4_direction (nI k) 2 S)) 0 (by omega) (by omega) (fun pc_ lv_ v_ u_ h1_ h2_ h3_ h4_ => RET pc_ lv_ v_ u_ h1_ h2_ (h3_.trans (by rw [r_L_isStick_at246, if_pos c_254, if_pos c_261, if_neg c_290, if_neg c_336, if_pos c_341, if_neg c_348, if_neg c_358, if_pos c_369, if_pos c_379])) h4_)
                    · skip
                      refine g_aload_n E 5 dL_isStick_382 rfl rfl ?_
                      refine g_iload E 7 dL_isStick_383 rfl ?_
                      refine g_iconst E 1 dL_isStick_385 (by decide) ?_
                      refine g_callVi0 E gc_X4_direction ml_L_23 (t_X4_direction d x a b c e (nI k) 1 p q S T h t y ss ) rfl rfl (ci := 4) 0 rfl rfl rfl rfl (ok_le rfl) ⟨ok_le rfl, ok_le rfl, ok_le rfl, ok_le rfl⟩ rfl rfl dL_isStick_386 ?_
                      refine g_nm (fun v26_ hv26_ => ?_)
                      refine g_iconst E 3 dL_isStick_389 (by decide) ?_
                      refine g_icmpge E 397 dL_isStick_390 (by decide) (fun c_390 => ?_) (fun c_390 => ?_)
                      · skip
                        refine g_iconst E 0 dL_isStick_397 (by decide) ?_
                        refine g_istore E (lv' := [(4, .int 0), (6, .int (b6 + v20_)), (5, .int (a5 + v20_)), (10, .int 0), (9, .int v21_), (8, .int v20_), (0, .ref (x 0)), (7, .int (nI k))]) dL_isStick_398 (by decide) rfl ?_
                        refine g_iinc E (j := 7) (v := (nI (k + 1))) (lv' := [(7, .int (nI (k + 1))), (4, .int 0), (6, .int (b6 + v20_)), (5, .int (a5 + v20_)), (10, .int 0), (9, .int v21_), (8, .int v20_), (0, .ref (x 0))]) dL_isStick_400 rfl (nI_1 _) (by decide) rfl ?_
                        refine g_goto E 246 dL_isStick_403 (by decide) ?_
                        refine g_lvs (lv' := [(0, .ref (x 0)), (4, .int 0), (5, .int (a5 + v20_)), (6, .int (b6 + v20_)), (7, .int (nI (k + 1)))]) [7, 1, 3, 2, 0] rfl ?_
                        subst hv26_
                        subst hv25_
                        subst hv24_
                        subst hv23_
                        subst hv22_
                        subst hv21_
                        subst hv20_
                        exact ih (k + 1) (a5 + (r_X4_direction (nI k) 2 S)) (b6 + (r_X4_direction (nI k) 2 S)) 0 (by omega) (by omega) (fun pc_ lv_ v_ u_ h1_ h2_ h3_ h4_ => RET pc_ lv_ v_ u_ h1_ h2_ (h3_.trans (by rw [r_L_isStick_at246, if_pos c_254, if_pos c_261, if_neg c_290, if_neg c_336, if_pos c_341, if_neg c_348, if_neg c_358, if_pos c_369, if_neg c_379, if_neg c_390])) h4_)
                      · skip
                        refine g_iconst E 1 dL_isStick_393 (by decide) ?_
                        refine g_goto E 398 dL_isStick_394 (by decide) ?_
                        refine g_istore E (lv' := [(4, .int 1), (6, .int (b6 + v20_)), (5, .int (a5 + v20_)), (10, .int 0), (9, .int v21_), (8, .int v20_), (0, .ref (x 0)), (7, .int (nI k))]) dL_isStick_398 (by decide) rfl ?_
                        refine g_iinc E (j := 7) (v := (nI (k + 1))) (lv' := [(7, .int (nI (k + 1))), (4, .int 1), (6, .int (b6 + v20_)), (5, .int (a5 + v20_)), (10, .int 0), (9, .int v21_), (8, .int v20_), (0, .ref (x 0))]) dL_isStick_400 rfl (nI_1 _) (by decide) rfl ?_
                        refine g_goto E 246 dL_isStick_403 (by decide) ?_
                        refine g_lvs (lv' := [(0, .ref (x 0)), (4, .int 1), (5, .int (a5 + v20_)), (6, .int (b6 + v20_)), (7, .int (nI (k + 1)))]) [7, 1, 3, 2, 0] rfl ?_
                        subst hv26_
                        subst hv25_
                        subst hv24_
                        subst hv23_
                        subst hv22_
                        subst hv21_
                        subst hv20_
                        exact ih (k + 1) (a5 + (r_X4_direction (nI k) 2 S)) (b6 + (r_X4_direction (nI k) 2 S)) 1 (by omega) (by omega) (fun pc_ lv_ v_ u_ h1_ h2_ h3_ h4_ => RET pc_ lv_ v_ u_ h1_ h2_ (h3_.trans (by rw [r_L_isStick_at246, if_pos c_254, if_pos c_261, if_neg c_290, if_neg c_336, if_pos c_341, if_neg c_348, if_neg c_358, if_pos c_369, if_neg c_379, if_pos c_390])) h4_)
        · skip
          refine g_aload_n E 2 dL_isStick_293 rfl rfl ?_
          refine g_iload E 6 dL_isStick_294 rfl ?_
          refine g_iconst E 1 dL_isStick_296 (by decide) ?_
          refine g_callVi0 E gc_X4_direction ml_L_23 (t_X4_direction d x a b c e (nI k) 1 p q S T h t y ss ) rfl rfl (ci := 4) 0 rfl rfl rfl rfl (ok_le rfl) ⟨ok_le rfl, ok_le rfl, ok_le rfl, ok_le rfl⟩ rfl rfl dL_isStick_297 ?_
          refine g_nm (fun v27_ hv27_ => ?_)
          refine g_iconst E 1 dL_isStick_300 (by decide) ?_
          refine g_icmpne E 308 dL_isStick_301 (by decide) (fun c_301 => ?_) (fun c_301 => ?_)
          · skip
            refine g_iconst E 0 dL_isStick_308 (by decide) ?_
            refine g_istore E (lv' := [(10, .int 0), (9, .int v21_), (8, .int v20_), (0, .ref (x 0)), (4, .int w), (5, .int a5), (6, .int b6), (7, .int (nI k))]) dL_isStick_309 (by decide) rfl ?_
            refine g_iload E 5 dL_isStick_311 rfl ?_
            refine g_iload E 2 dL_isStick_313 rfl ?_
            refine g_iadd E dL_isStick_315 ?_
            refine g_istore E (lv' := [(5, .int (a5 + v20_)), (10, .int 0), (9, .int v21_), (8, .int v20_), (0, .ref (x 0)), (4, .int w), (6, .int b6), (7, .int (nI k))]) dL_isStick_316 (by decide) rfl ?_
            refine g_iload E 6 dL_isStick_318 rfl ?_
            refine g_iload E 1 dL_isStick_320 rfl ?_
            refine g_ifeq E 329 dL_isStick_322 (by decide) (fun _ => ?_) (fun q_ => absurd q_ (by decide))
            refine g_iload E 3 dL_isStick_329 rfl ?_
            refine g_iadd E dL_isStick_331 ?_
            refine g_istore E (lv' := [(6, .int (b6 + v20_)), (5, .int (a5 + v20_)), (10, .int 0), (9, .int v21_), (8, .int v20_), (0, .ref (x 0)), (4, .int w), (7, .int (nI k))]) dL_isStick_332 (by decide) rfl ?_
            refine g_iload E 6 dL_isStick_334 rfl ?_
            refine g_ifeq E 397 dL_isStick_336 (by decide) (fun c_336 => ?_) (fun c_336 => ?_)
            · skip
              refine g_iconst E 0 dL_isStick_397 (by decide) ?_
              refine g_istore E (lv' := [(4, .int 0), (6, .int (b6 + v20_)), (5, .int (a5 + v20_)), (10, .int 0), (9, .int v21_), (8, .int v20_), (0, .ref (x 0)), (7, .int (nI k))]) dL_isStick_398 (by decide) rfl ?_
              refine g_iinc E (j := 7) (v := (nI (k + 1))) (lv' := [(7, .int (nI (k + 1))), (4, .int 0), (6, .int (b6 + v20_)), (5, .int (a5 + v20_)), (10, .int 0), (9, .int v21_), (8, .int v20_), (0, .ref (x 0))]) dL_isStick_400 rfl (nI_1 _) (by decide) rfl ?_
              refine g_goto E 246 dL_isStick_403 (by decide) ?_
              refine g_lvs (lv' := [(0, .ref (x 0)), (4, .int 0), (5, .int (a5 + v20_)), (6, .int (b6 + v20_)), (7, .int (nI (k + 1)))]) [7, 1, 3, 2, 0] rfl ?_
              subst hv27_
              subst hv22_
              subst hv21_
              subst hv20_
              exact ih (k + 1) (a5 + (r_X4_direction (nI k) 2 S)) (b6 + (r_X4_direction (nI k) 2 S)) 0 (by omega) (by omega) (fun pc_ lv_ v_ u_ h1_ h2_ h3_ h4_ => RET pc_ lv_ v_ u_ h1_ h2_ (h3_.trans (by rw [r_L_isStick_at246, if_pos c_254, if_pos c_261, if_pos c_290, if_neg c_301, if_pos c_336])) h4_)
            · skip
              refine g_iload E 3 dL_isStick_339 rfl ?_
              refine g_ifle E 397 dL_isStick_341 (by decide) (fun c_341 => ?_) (fun c_341 => ?_)
              · skip
                refine g_iconst E 0 dL_isStick_397 (by decide) ?_
                refine g_istore E (lv' := [(4, .int 0), (6, .int (b6 + v20_)), (5, .int (a5 + v20_)), (10, .int 0), (9, .int v21_), (8, .int v20_), (0, .ref (x 0)), (7, .int (nI k))]) dL_isStick_398 (by decide) rfl ?_
                refine g_iinc E (j := 7) (v := (nI (k + 1))) (lv' := [(7, .int (nI (k + 1))), (4, .int 0), (6, .int (b6 + v20_)), (5, .int (a5 + v20_)), (10, .int 0), (9, .int v21_), (8, .int v20_), (0, .ref (x 0))]) dL_isStick_400 rfl (nI_1 _) (by decide) rfl ?_
                refine g_goto E 246 dL_isStick_403 (by decide) ?_
                refine g_lvs (lv' := [(0, .ref (x 0)), (4, .int 0), (5, .int (a5 + v20_)), (6, .int (b6 + v20_)), (7, .int (nI (k + 1)))]) [7, 1, 3, 2, 0] rfl ?_
                subst hv27_
                subst hv22_
                subst hv21_
                subst hv20_
                exact ih (k + 1) (a5 + (r_X4_direction (nI k) 2 S)) (b6 + (r_X4_direction (nI k) 2 S)) 0 (by omega) (by omega) (fun pc_ lv_ v_ u_ h1_ h2_ h3_ h4_ => RET pc_ lv_ v_ u_ h1_ h2_ (h3_.trans (by rw [r_L_isStick_at246, if_pos c_254, if_pos c_261, if_pos c_290, if_neg c_301, if_neg c_336, if_neg c_341])) h4_)
              · skip
                refine g_iload E 3 dL_isStick_344 rfl ?_
                refine g_iload E 4 dL_isStick_346 rfl ?_
                refine g_icmpgt E 397 dL_isStick_348 (by decide) (fun c_348 => ?_) (fun c_348 => ?_)
                · skip
                  refine g_iconst E 0 dL_isStick_397 (by decide) ?_
                  refine g_istore E (lv' := [(4, .int 0), (6, .int (b6 + v20_)), (5, .int (a5 + v20_)), (10, .int 0), (9, .int v21_), (8, .int v20_), (0, .ref (x 0)), (7, .int (nI k))]) dL_isStick_398 (by decide) rfl ?_
                  refine g_iinc E (j := 7) (v := (nI (k + 1))) (lv' := [(7, .int (nI (k + 1))), (4, .int 0), (6, .int (b6 + v20_)), (5, .int (a5 + v20_)), (10, .int 0), (9, .int v21_), (8, .int v20_), (0, .ref (x 0))]) dL_isStick_400 rfl (nI_1 _) (by decide) rfl ?_
                  refine g_goto E 246 dL_isStick_403 (by decide) ?_
                  refine g_lvs (lv' := [(0, .ref (x 0)), (4, .int 0), (5, .int (a5 + v20_)), (6, .int (b6 + v20_)), (7, .int (nI (k + 1)))]) [7, 1, 3, 2, 0] rfl ?_
                  subst hv27_
                  subst hv22_
                  subst hv21_
                  subst hv20_
                  exact ih (k + 1) (a5 + (r_X4_direction (nI k) 2 S)) (b6 + (r_X4_direction (nI k) 2 S)) 0 (by omega) (by omega) (fun pc_ lv_ v_ u_ h1_ h2_ h3_ h4_ => RET pc_ lv_ v_ u_ h1_ h2_ (h3_.trans (by rw [r_L_isStick_at246, if_pos c_254, if_pos c_261, if_pos c_290, if_neg c_301, if_neg c_336, if_pos c_341, if_pos c_348])) h4_)
                · skip
                  refine g_aload_n E 5 dL_isStick_351 rfl rfl ?_
                  refine g_iload E 7 dL_isStick_352 rfl ?_
                  refine g_iconst E 0 dL_isStick_354 (by decide) ?_
                  refine g_callVi0 E gc_X4_direction ml_L_23 (t_X4_direction d x a b c e (nI k) 0 p q S T h t y ss ) rfl rfl (ci := 4) 0 rfl rfl rfl rfl (ok_le rfl) ⟨ok_le rfl, ok_le rfl, ok_le rfl, ok_le rfl⟩ rfl rfl dL_isStick_355 ?_
                  refine g_nm (fun v28_ hv28_ => ?_)
                  refine g_iflt E 397 dL_isStick_358 (by decide) (fun c_358 => ?_) (fun c_358 => ?_)
                  · skip
                    refine g_iconst E 0 dL_isStick_397 (by decide) ?_
                    refine g_istore E (lv' := [(4, .int 0), (6, .int (b6 + v20_)), (5, .int (a5 + v20_)), (10, .int 0), (9, .int v21_), (8, .int v20_), (0, .ref (x 0)), (7, .int (nI k))]) dL_isStick_398 (by decide) rfl ?_
                    refine g_iinc E (j := 7) (v := (nI (k + 1))) (lv' := [(7, .int (nI (k + 1))), (4, .int 0), (6, .int (b6 + v20_)), (5, .int (a5 + v20_)), (10, .int 0), (9, .int v21_), (8, .int v20_), (0, .ref (x 0))]) dL_isStick_400 rfl (nI_1 _) (by decide) rfl ?_
                    refine g_goto E 246 dL_isStick_403 (by decide) ?_
                    refine g_lvs (lv' := [(0, .ref (x 0)), (4, .int 0), (5, .int (a5 + v20_)), (6, .int (b6 + v20_)), (7, .int (nI (k + 1)))]) [7, 1, 3, 2, 0] rfl ?_
                    subst hv28_
                    subst hv27_
                    subst hv22_
                    subst hv21_
                    subst hv20_
                    exact ih (k + 1) (a5 + (r_X4_direction (nI k) 2 S)) (b6 + (r_X4_direction (nI k) 2 S)) 0 (by omega) (by omega) (fun pc_ lv_ v_ u_ h1_ h2_ h3_ h4_ => RET pc_ lv_ v_ u_ h1_ h2_ (h3_.trans (by rw [r_L_isStick_at246, if_pos c_254, if_pos c_261, if_pos c_290, if_neg c_301, if_neg c_336, if_pos c_341, if_neg c_348, if_pos c_358])) h4_)
                  · skip
                    refine g_aload_n E 5 dL_isStick_361 rfl rfl ?_
                    refine g_iload E 7 dL_isStick_362 rfl ?_
                    refine g_iconst E 0 dL_isStick_364 (by decide) ?_
                    refine g_callVi0 E gc_X4_direction ml_L_23 (t_X4_direction d x a b c e (nI k) 0 p q S T h t y ss ) rfl rfl (ci := 4) 0 rfl rfl rfl rfl (ok_le rfl) ⟨ok_le rfl, ok_le rfl, ok_le rfl, ok_le rfl⟩ rfl rfl dL_isStick_365 ?_
                    refine g_nm (fun v29_ hv29_ => ?_)
                    refine g_iconst E 3 dL_isStick_368 (by decide) ?_
                    refine g_icmpge E 397 dL_isStick_369 (by decide) (fun c_369 => ?_) (fun c_369 => ?_)
                    · skip
                      refine g_iconst E 0 dL_isStick_397 (by decide) ?_
                      refine g_istore E (lv' := [(4, .int 0), (6, .int (b6 + v20_)), (5, .int (a5 + v20_)), (10, .int 0), (9, .int v21_), (8, .int v20_), (0, .ref (x 0)), (7, .int (nI k))]) dL_isStick_398 (by decide) rfl ?_
                      refine g_iinc E (j := 7) (v := (nI (k + 1))) (lv' := [(7, .int (nI (k + 1))), (4, .int 0), (6, .int (b6 + v20_)), (5, .int (a5 + v20_)), (10, .int 0), (9, .int v21_), (8, .int v20_), (0, .ref (x 0))]) dL_isStick_400 rfl (nI_1 _) (by decide) rfl ?_
                      refine g_goto E 246 dL_isStick_403 (by decide) ?_
                      refine g_lvs (lv' := [(0, .ref (x 0)), (4, .int 0), (5, .int (a5 + v20_)), (6, .int (b6 + v20_)), (7, .int (nI (k + 1)))]) [7, 1, 3, 2, 0] rfl ?_
                      subst hv29_
                      subst hv28_
                      subst hv27_
                      subst hv22_
                      subst hv21_
                      subst hv20_
                      exact ih (k + 1) (a5 + (r_X4_direction (nI k) 2 S)) (b6 + (r_X4_direction (nI k) 2 S)) 0 (by omega) (by omega) (fun pc_ lv_ v_ u_ h1_ h2_ h3_ h4_ => RET pc_ lv_ v_ u_ h1_ h2_ (h3_.trans (by rw [r_L_isStick_at246, if_pos c_254, if_pos c_261, if_pos c_290, if_neg c_301, if_neg c_336, if_pos c_341, if_neg c_348, if_neg c_358, if_neg c_369])) h4_)
                    · skip
                      refine g_aload_n E 5 dL_isStick_372 rfl rfl ?_
                      refine g_iload E 7 dL_isStick_373 rfl ?_
                      refine g_iconst E 1 dL_isStick_375 (by decide) ?_
                      refine g_callVi0 E gc_X4_direction ml_L_23 (t_X4_direction d x a b c e (nI k) 1 p q S T h t y ss ) rfl rfl (ci := 4) 0 rfl rfl rfl rfl (ok_le rfl) ⟨ok_le rfl, ok_le rfl, ok_le rfl, ok_le rfl⟩ rfl rfl dL_isStick_376 ?_
                      refine g_nm (fun v30_ hv30_ => ?_)
                      refine g_iflt E 397 dL_isStick_379 (by decide) (fun c_379 => ?_) (fun c_379 => ?_)
                      · skip
                        refine g_iconst E 0 dL_isStick_397 (by decide) ?_
                        refine g_istore E (lv' := [(4, .int 0), (6, .int (b6 + v20_)), (5, .int (a5 + v20_)), (10, .int 0), (9, .int v21_), (8, .int v20_), (0, .ref (x 0)), (7, .int (nI k))]) dL_isStick_398 (by decide) rfl ?_
                        refine g_iinc E (j := 7) (v := (nI (k + 1))) (lv' := [(7, .int (nI (k + 1))), (4, .int 0), (6, .int (b6 + v20_)), (5, .int (a5 + v20_)), (10, .int 0), (9, .int v21_), (8, .int v20_), (0, .ref (x 0))]) dL_isStick_400 rfl (nI_1 _) (by decide) rfl ?_
                        refine g_goto E 246 dL_isStick_403 (by decide) ?_
                        refine g_lvs (lv' := [(0, .ref (x 0)), (4, .int 0), (5, .int (a5 + v20_)), (6, .int (b6 + v20_)), (7, .int (nI (k + 1)))]) [7, 1, 3, 2, 0] rfl ?_
                        subst hv30_
                        subst hv29_
                        subst hv28_
                        subst hv27_
                        subst hv22_
                        subst hv21_
                        subst hv20_
                        exact ih (k + 1) (a5 + (r_X4_direction (nI k) 2 S)) (b6 + (r_X4_direction (nI k) 2 S)) 0 (by omega) (by omega) (fun pc_ lv_ v_ u_ h1_ h2_ h3_ h4_ => RET pc_ lv_ v_ u_ h1_ h2_ (h3_.trans (by rw [r_L_isStick_at246, if_pos c_254, if_pos c_261, if_pos c_290, if_neg c_301, if_neg c_336, if_pos c_341, if_neg c_348, if_neg c_358, if_pos c_369, if_pos c_379])) h4_)
                      · skip
                        refine g_aload_n E 5 dL_isStick_382 rfl rfl ?_
                        refine g_iload E 7 dL_isStick_383 rfl ?_
                        refine g_iconst E 1 dL_isStick_385 (by decide) ?_
                        refine g_callVi0 E gc_X4_direction ml_L_23 (t_X4_direction d x a b c e (nI k) 1 p q S T h t y ss ) rfl rfl (ci := 4) 0 rfl rfl rfl rfl (ok_le rfl) ⟨ok_le rfl, ok_le rfl, ok_le rfl, ok_le rfl⟩ rfl rfl dL_isStick_386 ?_
                        refine g_nm (fun v31_ hv31_ => ?_)
                        refine g_iconst E 3 dL_isStick_389 (by decide) ?_
                        refine g_icmpge E 397 dL_isStick_390 (by decide) (fun c_390 => ?_) (fun c_390 => ?_)
                        · skip
                          refine g_iconst E 0 dL_isStick_397 (by decide) ?_
                          refine g_istore E (lv' := [(4, .int 0), (6, .int (b6 + v20_)), (5, .int (a5 + v20_)), (10, .int 0), (9, .int v21_), (8, .int v20_), (0, .ref (x 0)), (7, .int (nI k))]) dL_isStick_398 (by decide) rfl ?_
                          refine g_iinc E (j := 7) (v := (nI (k + 1))) (lv' := [(7, .int (nI (k + 1))), (4, .int 0), (6, .int (b6 + v20_)), (5, .int (a5 + v20_)), (10, .int 0), (9, .int v21_), (8, .int v20_), (0, .ref (x 0))]) dL_isStick_400 rfl (nI_1 _) (by decide) rfl ?_
                          refine g_goto E 246 dL_isStick_403 (by decide) ?_
                          refine g_lvs (lv' := [(0, .ref (x 0)), (4, .int 0), (5, .int (a5 + v20_)), (6, .int (b6 + v20_)), (7, .int (nI (k + 1)))]) [7, 1, 3, 2, 0] rfl ?_
                          subst hv31_
                          subst hv30_
                          subst hv29_
                          subst hv28_
                          subst hv27_
                          subst hv22_
                          subst hv21_
                          subst hv20_
                          exact ih (k + 1) (a5 + (r_X4_direction (nI k) 2 S)) (b6 + (r_X4_direction (nI k) 2 S)) 0 (by omega) (by omega) (fun pc_ lv_ v_ u_ h1_ h2_ h3_ h4_ => RET pc_ lv_ v_ u_ h1_ h2_ (h3_.trans (by rw [r_L_isStick_at246, if_pos c_254, if_pos c_261, if_pos c_290, if_neg c_301, if_neg c_336, if_pos c_341, if_neg c_348, if_neg c_358, if_pos c_369, if_neg c_379, if_neg c_390])) h4_)
                        · skip
                          refine g_iconst E 1 dL_isStick_393 (by decide) ?_
                          refine g_goto E 398 dL_isStick_394 (by decide) ?_
                          refine g_istore E (lv' := [(4, .int 1), (6, .int (b6 + v20_)), (5, .int (a5 + v20_)), (10, .int 0), (9, .int v21_), (8, .int v20_), (0, .ref (x 0)), (7, .int (nI k))]) dL_isStick_398 (by decide) rfl ?_
                          refine g_iinc E (j := 7) (v := (nI (k + 1))) (lv' := [(7, .int (nI (k + 1))), (4, .int 1), (6, .int (b6 + v20_)), (5, .int (a5 + v20_)), (10, .int 0), (9, .int v21_), (8, .int v20_), (0, .ref (x 0))]) dL_isStick_400 rfl (nI_1 _) (by decide) rfl ?_
                          refine g_goto E 246 dL_isStick_403 (by decide) ?_
                          refine g_lvs (lv' := [(0, .ref (x 0)), (4, .int 1), (5, .int (a5 + v20_)), (6, .int (b6 + v20_)), (7, .int (nI (k + 1)))]) [7, 1, 3, 2, 0] rfl ?_
                          subst hv31_
                          subst hv30_
                          subst hv29_
                          subst hv28_
                          subst hv27_
                          subst hv22_
                          subst hv21_
                          subst hv20_
                          exact ih (k + 1) (a5 + (r_X4_direction (nI k) 2 S)) (b6 + (r_X4_direction (nI k) 2 S)) 1 (by omega) (by omega) (fun pc_ lv_ v_ u_ h1_ h2_ h3_ h4_ => RET pc_ lv_ v_ u_ h1_ h2_ (h3_.trans (by rw [r_L_isStick_at246, if_pos c_254, if_pos c_261, if_pos c_290, if_neg c_301, if_neg c_336, if_pos c_341, if_neg c_348, if_neg c_358, if_pos c_369, if_neg c_379, if_pos c_390])) h4_)
          · skip
            refine g_iconst E 1 dL_isStick_304 (by decide) ?_
            refine g_goto E 309 dL_isStick_305 (by decide) ?_
            refine g_istore E (lv' := [(10, .int 1), (9, .int v21_), (8, .int v20_), (0, .ref (x 0)), (4, .int w), (5, .int a5), (6, .int b6), (7, .int (nI k))]) dL_isStick_309 (by decide) rfl ?_
            refine g_iload E 5 dL_isStick_311 rfl ?_
            refine g_iload E 2 dL_isStick_313 rfl ?_
            refine g_iadd E dL_isStick_315 ?_
            refine g_istore E (lv' := [(5, .int (a5 + v20_)), (10, .int 1), (9, .int v21_), (8, .int v20_), (0, .ref (x 0)), (4, .int w), (6, .int b6), (7, .int (nI k))]) dL_isStick_316 (by decide) rfl ?_
            refine g_iload E 6 dL_isStick_318 rfl ?_
            refine g_iload E 1 dL_isStick_320 rfl ?_
            refine g_ifeq E 329 dL_isStick_322 (by decide) (fun q_ => absurd q_ (by decide)) (fun _ => ?_)
            refine g_iconst E 0 dL_isStick_325 (by decide) ?_
            refine g_goto E 331 dL_isStick_326 (by decide) ?_
            refine g_iadd E dL_isStick_331 ?_
            refine g_istore E (lv' := [(6, .int (b6 + 0)), (5, .int (a5 + v20_)), (10, .int 1), (9, .int v21_), (8, .int v20_), (0, .ref (x 0)), (4, .int w), (7, .int (nI k))]) dL_isStick_332 (by decide) rfl ?_
            refine g_iload E 6 dL_isStick_334 rfl ?_
            refine g_ifeq E 397 dL_isStick_336 (by decide) (fun c_336 => ?_) (fun c_336 => ?_)
            · skip
              refine g_iconst E 0 dL_isStick_397 (by decide) ?_
              refine g_istore E (lv' := [(4, .int 0), (6, .int (b6 + 0)), (5, .int (a5 + v20_)), (10, .int 1), (9, .int v21_), (8, .int v20_), (0, .ref (x 0)), (7, .int (nI k))]) dL_isStick_398 (by decide) rfl ?_
              refine g_iinc E (j := 7) (v := (nI (k + 1))) (lv' := [(7, .int (nI (k + 1))), (4, .int 0), (6, .int (b6 + 0)), (5, .int (a5 + v20_)), (10, .int 1), (9, .int v21_), (8, .int v20_), (0, .ref (x 0))]) dL_isStick_400 rfl (nI_1 _) (by decide) rfl ?_
              refine g_goto E 246 dL_isStick_403 (by decide) ?_
              refine g_lvs (lv' := [(0, .ref (x 0)), (4, .int 0), (5, .int (a5 + v20_)), (6, .int (b6 + 0)), (7, .int (nI (k + 1)))]) [7, 1, 3, 2, 0] rfl ?_
              subst hv27_
              subst hv22_
              subst hv21_
              subst hv20_
              exact ih (k + 1) (a5 + (r_X4_direction (nI k) 2 S)) (b6 + 0) 0 (by omega) (by omega) (fun pc_ lv_ v_ u_ h1_ h2_ h3_ h4_ => RET pc_ lv_ v_ u_ h1_ h2_ (h3_.trans (by rw [r_L_isStick_at246, if_pos c_254, if_pos c_261, if_pos c_290, if_pos c_301, if_pos c_336])) h4_)
            · skip
              refine g_iload E 3 dL_isStick_339 rfl ?_
              refine g_ifle E 397 dL_isStick_341 (by decide) (fun c_341 => ?_) (fun c_341 => ?_)
              · skip
                refine g_iconst E 0 dL_isStick_397 (by decide) ?_
                refine g_istore E (lv' := [(4, .int 0), (6, .int (b6 + 0)), (5, .int (a5 + v20_)), (10, .int 1), (9, .int v21_), (8, .int v20_), (0, .ref (x 0)), (7, .int (nI k))]) dL_isStick_398 (by decide) rfl ?_
                refine g_iinc E (j := 7) (v := (nI (k + 1))) (lv' := [(7, .int (nI (k + 1))), (4, .int 0), (6, .int (b6 + 0)), (5, .int (a5 + v20_)), (10, .int 1), (9, .int v21_), (8, .int v20_), (0, .ref (x 0))]) dL_isStick_400 rfl (nI_1 _) (by decide) rfl ?_
                refine g_goto E 246 dL_isStick_403 (by decide) ?_
                refine g_lvs (lv' := [(0, .ref (x 0)), (4, .int 0), (5, .int (a5 + v20_)), (6, .int (b6 + 0)), (7, .int (nI (k + 1)))]) [7, 1, 3, 2, 0] rfl ?_
                subst hv27_
                subst hv22_
                subst hv21_
                subst hv20_
                exact ih (k + 1) (a5 + (r_X4_direction (nI k) 2 S)) (b6 + 0) 0 (by omega) (by omega) (fun pc_ lv_ v_ u_ h1_ h2_ h3_ h4_ => RET pc_ lv_ v_ u_ h1_ h2_ (h3_.trans (by rw [r_L_isStick_at246, if_pos c_254, if_pos c_261, if_pos c_290, if_pos c_301, if_neg c_336, if_neg c_341])) h4_)
              · skip
                refine g_iload E 3 dL_isStick_344 rfl ?_
                refine g_iload E 4 dL_isStick_346 rfl ?_
                refine g_icmpgt E 397 dL_isStick_348 (by decide) (fun c_348 => ?_) (fun c_348 => ?_)
                · skip
                  refine g_iconst E 0 dL_isStick_397 (by decide) ?_
                  refine g_istore E (lv' := [(4, .int 0), (6, .int (b6 + 0)), (5, .int (a5 + v20_)), (10, .int 1), (9, .int v21_), (8, .int v20_), (0, .ref (x 0)), (7, .int (nI k))]) dL_isStick_398 (by decide) rfl ?_
                  refine g_iinc E (j := 7) (v := (nI (k + 1))) (lv' := [(7, .int (nI (k + 1))), (4, .int 0), (6, .int (b6 + 0)), (5, .int (a5 + v20_)), (10, .int 1), (9, .int v21_), (8, .int v20_), (0, .ref (x 0))]) dL_isStick_400 rfl (nI_1 _) (by decide) rfl ?_
                  refine g_goto E 246 dL_isStick_403 (by decide) ?_
                  refine g_lvs (lv' := [(0, .ref (x 0)), (4, .int 0), (5, .int (a5 + v20_)), (6, .int (b6 + 0)), (7, .int (nI (k + 1)))]) [7, 1, 3, 2, 0] rfl ?_
                  subst hv27_
                  subst hv22_
                  subst hv21_
                  subst hv20_
                  exact ih (k + 1) (a5 + (r_X4_direction (nI k) 2 S)) (b6 + 0) 0 (by omega) (by omega) (fun pc_ lv_ v_ u_ h1_ h2_ h3_ h4_ => RET pc_ lv_ v_ u_ h1_ h2_ (h3_.trans (by rw [r_L_isStick_at246, if_pos c_254, if_pos c_261, if_pos c_290, if_pos c_301, if_neg c_336, if_pos c_341, if_pos c_348])) h4_)
                · skip
                  refine g_aload_n E 5 dL_isStick_351 rfl rfl ?_
                  refine g_iload E 7 dL_isStick_352 rfl ?_
                  refine g_iconst E 0 dL_isStick_354 (by decide) ?_
                  refine g_callVi0 E gc_X4_direction ml_L_23 (t_X4_direction d x a b c e (nI k) 0 p q S T h t y ss ) rfl rfl (ci := 4) 0 rfl rfl rfl rfl (ok_le rfl) ⟨ok_le rfl, ok_le rfl, ok_le rfl, ok_le rfl⟩ rfl rfl dL_isStick_355 ?_
                  refine g_nm (fun v32_ hv32_ => ?_)
                  refine g_iflt E 397 dL_isStick_358 (by decide) (fun c_358 => ?_) (fun c_358 => ?_)
                  · skip
                    refine g_iconst E 0 dL_isStick_397 (by decide) ?_
                    refine g_istore E (lv' := [(4, .int 0), (6, .int (b6 + 0)), (5, .int (a5 + v20_)), (10, .int 1), (9, .int v21_), (8, .int v20_), (0, .ref (x 0)), (7, .int (nI k))]) dL_isStick_398 (by decide) rfl ?_
                    refine g_iinc E (j := 7) (v := (nI (k + 1))) (lv' := [(7, .int (nI (k + 1))), (4, .int 0), (6, .int (b6 + 0)), (5, .int (a5 + v20_)), (10, .int 1), (9, .int v21_), (8, .int v20_), (0, .ref (x 0))]) dL_isStick_400 rfl (nI_1 _) (by decide) rfl ?_
                    refine g_goto E 246 dL_isStick_403 (by decide) ?_
                    refine g_lvs (lv' := [(0, .ref (x 0)), (4, .int 0), (5, .int (a5 + v20_)), (6, .int (b6 + 0)), (7, .int (nI (k + 1)))]) [7, 1, 3, 2, 0] rfl ?_
                    subst hv32_
                    subst hv27_
                    subst hv22_
                    subst hv21_
                    subst hv20_
                    exact ih (k + 1) (a5 + (r_X4_direction (nI k) 2 S)) (b6 + 0) 0 (by omega) (by omega) (fun pc_ lv_ v_ u_ h1_ h2_ h3_ h4_ => RET pc_ lv_ v_ u_ h1_ h2_ (h3_.trans (by rw [r_L_isStick_at246, if_pos c_254, if_pos c_261, if_pos c_290, if_pos c_301, if_neg c_336, if_pos c_341, if_neg c_348, if_pos c_358])) h4_)
                  · skip
                    refine g_aload_n E 5 dL_isStick_361 rfl rfl ?_
                    refine g_iload E 7 dL_isStick_362 rfl ?_
                    refine g_iconst E 0 dL_isStick_364 (by decide) ?_
                    refine g_callVi0 E gc_X4_direction ml_L_23 (t_X4_direction d x a b c e (nI k) 0 p q S T h t y ss ) rfl rfl (ci := 4) 0 rfl rfl rfl rfl (ok_le rfl) ⟨ok_le rfl, ok_le rfl, ok_le rfl, ok_le rfl⟩ rfl rfl dL_isStick_365 ?_
                    refine g_nm (fun v33_ hv33_ => ?_)
                    refine g_iconst E 3 dL_isStick_368 (by decide) ?_
                    refine g_icmpge E 397 dL_isStick_369 (by decide) (fun c_369 => ?_) (fun c_369 => ?_)
                    · skip
                      refine g_iconst E 0 dL_isStick_397 (by decide) ?_
                      refine g_istore E (lv' := [(4, .int 0), (6, .int (b6 + 0)), (5, .int (a5 + v20_)), (10, .int 1), (9, .int v21_), (8, .int v20_), (0, .ref (x 0)), (7, .int (nI k))]) dL_isStick_398 (by decide) rfl ?_
                      refine g_iinc E (j := 7) (v := (nI (k + 1))) (lv' := [(7, .int (nI (k + 1))), (4, .int 0), (6, .int (b6 + 0)), (5, .int (a5 + v20_)), (10, .int 1), (9, .int v21_), (8, .int v20_), (0, .ref (x 0))]) dL_isStick_400 rfl (nI_1 _) (by decide) rfl ?_
                      refine g_goto E 246 dL_isStick_403 (by decide) ?_
                      refine g_lvs (lv' := [(0, .ref (x 0)), (4, .int 0), (5, .int (a5 + v20_)), (6, .int (b6 + 0)), (7, .int (nI (k + 1)))]) [7, 1, 3, 2, 0] rfl ?_
                      subst hv33_
                      subst hv32_
                      subst hv27_
                      subst hv22_
                      subst hv21_
                      subst hv20_
                      exact ih (k + 1) (a5 + (r_X4_direction (nI k) 2 S)) (b6 + 0) 0 (by omega) (by omega) (fun pc_ lv_ v_ u_ h1_ h2_ h3_ h4_ => RET pc_ lv_ v_ u_ h1_ h2_ (h3_.trans (by rw [r_L_isStick_at246, if_pos c_254, if_pos c_261, if_pos c_290, if_pos c_301, if_neg c_336, if_pos c_341, if_neg c_348, if_neg c_358, if_neg c_369])) h4_)
                    · skip
                      refine g_aload_n E 5 dL_isStick_372 rfl rfl ?_
                      refine g_iload E 7 dL_isStick_373 rfl ?_
                      refine g_iconst E 1 dL_isStick_375 (by decide) ?_
                      refine g_callVi0 E gc_X4_direction ml_L_23 (t_X4_direction d x a b c e (nI k) 1 p q S T h t y ss ) rfl rfl (ci := 4) 0 rfl rfl rfl rfl (ok_le rfl) ⟨ok_le rfl, ok_le rfl, ok_le rfl, ok_le rfl⟩ rfl rfl dL_isStick_376 ?_
                      refine g_nm (fun v34_ hv34_ => ?_)
                      refine g_iflt E 397 dL_isStick_379 (by decide) (fun c_379 => ?_) (fun c_379 => ?_)
                      · skip
                        refine g_iconst E 0 dL_isStick_397 (by decide) ?_
                        refine g_istore E (lv' := [(4, .int 0), (6, .int (b6 + 0)), (5, .int (a5 + v20_)), (10, .int 1), (9, .int v21_), (8, .int v20_), (0, .ref (x 0)), (7, .int (nI k))]) dL_isStick_398 (by decide) rfl ?_
                        refine g_iinc E (j := 7) (v := (nI (k + 1))) (lv' := [(7, .int (nI (k + 1))), (4, .int 0), (6, .int (b6 + 0)), (5, .int (a5 + v20_)), (10, .int 1), (9, .int v21_), (8, .int v20_), (0, .ref (x 0))]) dL_isStick_400 rfl (nI_1 _) (by decide) rfl ?_
                        refine g_goto E 246 dL_isStick_403 (by decide) ?_
                        refine g_lvs (lv' := [(0, .ref (x 0)), (4, .int 0), (5, .int (a5 + v20_)), (6, .int (b6 + 0)), (7, .int (nI (k + 1)))]) [7, 1, 3, 2, 0] rfl ?_
                        subst hv34_
                        subst hv33_
                        subst hv32_
                        subst hv27_
                        subst hv22_
                        subst hv21_
                        subst hv20_
                        exact ih (k + 1) (a5 + (r_X4_direction (nI k) 2 S)) (b6 + 0) 0 (by omega) (by omega) (fun pc_ lv_ v_ u_ h1_ h2_ h3_ h4_ => RET pc_ lv_ v_ u_ h1_ h2_ (h3_.trans (by rw [r_L_isStick_at246, if_pos c_254, if_pos c_261, if_pos c_290, if_pos c_301, if_neg c_336, if_pos c_341, if_neg c_348, if_neg c_358, if_pos c_369, if_pos c_379])) h4_)
                      · skip
                        refine g_aload_n E 5 dL_isStick_382 rfl rfl ?_
                        refine g_iload E 7 dL_isStick_383 rfl ?_
                        refine g_iconst E 1 dL_isStick_385 (by decide) ?_
                        refine g_callVi0 E gc_X4_direction ml_L_23 (t_X4_direction d x a b c e (nI k) 1 p q S T h t y ss ) rfl rfl (ci := 4) 0 rfl rfl rfl rfl (ok_le rfl) ⟨ok_le rfl, ok_le rfl, ok_le rfl, ok_le rfl⟩ rfl rfl dL_isStick_386 ?_
                        refine g_nm (fun v35_ hv35_ => ?_)
                        refine g_iconst E 3 dL_isStick_389 (by decide) ?_
                        refine g_icmpge E 397 dL_isStick_390 (by decide) (fun c_390 => ?_) (fun c_390 => ?_)
                        · skip
                          refine g_iconst E 0 dL_isStick_397 (by decide) ?_
                          refine g_istore E (lv' := [(4, .int 0), (6, .int (b6 + 0)), (5, .int (a5 + v20_)), (10, .int 1), (9, .int v21_), (8, .int v20_), (0, .ref (x 0)), (7, .int (nI k))]) dL_isStick_398 (by decide) rfl ?_
                          refine g_iinc E (j := 7) (v := (nI (k + 1))) (lv' := [(7, .int (nI (k + 1))), (4, .int 0), (6, .int (b6 + 0)), (5, .int (a5 + v20_)), (10, .int 1), (9, .int v21_), (8, .int v20_), (0, .ref (x 0))]) dL_isStick_400 rfl (nI_1 _) (by decide) rfl ?_
                          refine g_goto E 246 dL_isStick_403 (by decide) ?_
                          refine g_lvs (lv' := [(0, .ref (x 0)), (4, .int 0), (5, .int (a5 + v20_)), (6, .int (b6 + 0)), (7, .int (nI (k + 1)))]) [7, 1, 3, 2, 0] rfl ?_
                          subst hv35_
                          subst hv34_
                          subst hv33_
                          subst hv32_
                          subst hv27_
                          subst hv22_
                          subst hv21_
                          subst hv20_
                          exact ih (k + 1) (a5 + (r_X4_direction (nI k) 2 S)) (b6 + 0) 0 (by omega) (by omega) (fun pc_ lv_ v_ u_ h1_ h2_ h3_ h4_ => RET pc_ lv_ v_ u_ h1_ h2_ (h3_.trans (by rw [r_L_isStick_at246, if_pos c_254, if_pos c_261, if_pos c_290, if_pos c_301, if_neg c_336, if_pos c_341, if_neg c_348, if_neg c_358, if_pos c_369, if_neg c_379, if_neg c_390])) h4_)
                        · skip
                          refine g_iconst E 1 dL_isStick_393 (by decide) ?_
                          refine g_goto E 398 dL_isStick_394 (by decide) ?_
                          refine g_istore E (lv' := [(4, .int 1), (6, .int (b6 + 0)), (5, .int (a5 + v20_)), (10, .int 1), (9, .int v21_), (8, .int v20_), (0, .ref (x 0)), (7, .int (nI k))]) dL_isStick_398 (by decide) rfl ?_
                          refine g_iinc E (j := 7) (v := (nI (k + 1))) (lv' := [(7, .int (nI (k + 1))), (4, .int 1), (6, .int (b6 + 0)), (5, .int (a5 + v20_)), (10, .int 1), (9, .int v21_), (8, .int v20_), (0, .ref (x 0))]) dL_isStick_400 rfl (nI_1 _) (by decide) rfl ?_
                          refine g_goto E 246 dL_isStick_403 (by decide) ?_
                          refine g_lvs (lv' := [(0, .ref (x 0)), (4, .int 1), (5, .int (a5 + v20_)), (6, .int (b6 + 0)), (7, .int (nI (k + 1)))]) [7, 1, 3, 2, 0] rfl ?_
                          subst hv35_
                          subst hv34_
                          subst hv33_
                          subst hv32_
                          subst hv27_
                          subst hv22_
                          subst hv21_
                          subst hv20_
                          exact ih (k + 1) (a5 + (r_X4_direction (nI k) 2 S)) (b6 + 0) 1 (by omega) (by omega) (fun pc_ lv_ v_ u_ h1_ h2_ h3_ h4_ => RET pc_ lv_ v_ u_ h1_ h2_ (h3_.trans (by rw [r_L_isStick_at246, if_pos c_254, if_pos c_261, if_pos c_290, if_pos c_301, if_neg c_336, if_pos c_341, if_neg c_348, if_neg c_358, if_pos c_369, if_neg c_379, if_pos c_390])) h4_)
set_option maxHeartbeats 1000000 in
set_option maxRecDepth 100000 in
theorem s_L_isStick_117 (d : gD) (x : Nat → Nat) (a : Nat → Nat) (b : Nat → Nat) (c : Nat → Nat) (e : Nat → Nat) (p : Nat → Nat → Nat) (q : Nat → Nat → Nat) (S : SS) (T : SS) (h : Nat → Int32) (t : Nat → Int32) (y : HS) (ss : Nat → Option SS)  {X : gX} (E : gE d X RL cL_isStick 11 R_L_isStick) : ∀ (n : Nat) (k : Nat) (w : Int32) (hk : k ≤ 2) (hm : 2 - k < n) (RET : ∀ (pc_ : Nat) (lv_ : List (Nat × Value)) (v_ : Int32) (u_ : va_W), decode cL_isStick pc_ = .ok (.ireturn, 1) → narrow .boolean (.int v_) = .int v_ → v_ = r_L_isStick_at117 S n k w → u_ = XW d (x, a, b, c, e) p q S T h t y ss → G d X u_ R_L_isStick.cells R_L_isStick.slots pc_ lv_ [.int v_]), G d X (XW d (x, a, b, c, e) p q S T h t y ss) 0 0 117 [(0, .ref (x 0)), (4, .int w), (5, .int (nI k))] [] := by
  intro n
  induction n with
  | zero => intro k w hk hm; omega
  | succ n ih =>
    intro k w hk hm RET
    refine g_iload E 2 dL_isStick_117 rfl ?_
    refine g_iconst E 2 dL_isStick_119 (by decide) ?_
    refine g_icmpge E 237 dL_isStick_120 (by decide) (fun c_120 => ?_) (fun c_120 => ?_)
    · skip
      refine g_iconst E 0 dL_isStick_237 (by decide) ?_
      refine g_istore E (lv' := [(5, .int 0), (0, .ref (x 0)), (4, .int w)]) dL_isStick_238 (by decide) rfl ?_
      refine g_iconst E 0 dL_isStick_240 (by decide) ?_
      refine g_istore E (lv' := [(6, .int 0), (5, .int 0), (0, .ref (x 0)), (4, .int w)]) dL_isStick_241 (by decide) rfl ?_
      refine g_iconst E 0 dL_isStick_243 (by decide) ?_
      refine g_istore E (lv' := [(7, .int 0), (6, .int 0), (5, .int 0), (0, .ref (x 0)), (4, .int w)]) dL_isStick_244 (by decide) rfl ?_
      refine g_lvs (lv' := [(0, .ref (x 0)), (4, .int w), (5, .int 0), (6, .int 0), (7, .int 0)]) [3, 4, 2, 1, 0] rfl ?_
      exact s_L_isStick_246 d x a b c e p q S T h t y ss  E 10 0 0 0 w (by omega) (by omega) (fun pc_ lv_ v_ u_ h1_ h2_ h3_ h4_ => RET pc_ lv_ v_ u_ h1_ h2_ (h3_.trans (by rw [r_L_isStick_at117, if_neg c_120])) h4_)
    · skip
      have k120 : k < 2 := (nI_ltI (a := k) (b := 2) (by omega) (by omega)).mp c_120
      refine g_aload_n E 0 dL_isStick_123 rfl rfl ?_
      refine g_iload E 2 dL_isStick_124 rfl ?_
      refine g_iconst E 0 dL_isStick_126 (by decide) ?_
      refine g_callVi0 E gc_X4_of ml_L_14 (t_X4_of d x a b c e (nI k) 0 p q S T h t y ss ) rfl rfl (ci := 4) 0 rfl rfl rfl rfl (ok_le rfl) ⟨ok_le rfl, ok_le rfl, ok_le rfl, ok_le rfl⟩ rfl rfl dL_isStick_127 ?_
      refine g_nm (fun v14_ hv14_ => ?_)
      refine g_istore E (lv' := [(6, .int v14_), (0, .ref (x 0)), (4, .int w), (5, .int (nI k))]) dL_isStick_130 (by decide) rfl ?_
      refine g_aload_n E 1 dL_isStick_132 rfl rfl ?_
      refine g_iload E 3 dL_isStick_133 rfl ?_
      refine g_iconst E 2 dL_isStick_135 (by decide) ?_
      refine g_callVi0 E gc_X4_of ml_L_14 (t_X4_of d x a b c e (nI k) 2 p q S T h t y ss ) rfl rfl (ci := 4) 0 rfl rfl rfl rfl (ok_le rfl) ⟨ok_le rfl, ok_le rfl, ok_le rfl, ok_le rfl⟩ rfl rfl dL_isStick_136 ?_
      refine g_nm (fun v15_ hv15_ => ?_)
      refine g_istore E (lv' := [(7, .int v15_), (6, .int v14_), (0, .ref (x 0)), (4, .int w), (5, .int (nI k))]) dL_isStick_139 (by decide) rfl ?_
      refine g_iload E 3 dL_isStick_141 rfl ?_
      refine g_ifeq E 228 dL_isStick_143 (by decide) (fun c_143 => ?_) (fun c_143 => ?_)
      · skip
        refine g_iconst E 0 dL_isStick_228 (by decide) ?_
        refine g_istore E (lv' := [(4, .int 0), (7, .int v15_), (6, .int v14_), (0, .ref (x 0)), (5, .int (nI k))]) dL_isStick_229 (by decide) rfl ?_
        refine g_iinc E (j := 4) (v := (nI (k + 1))) (lv' := [(5, .int (nI (k + 1))), (4, .int 0), (7, .int v15_), (6, .int v14_), (0, .ref (x 0))]) dL_isStick_231 rfl (nI_1 _) (by decide) rfl ?_
        refine g_goto E 117 dL_isStick_234 (by decide) ?_
        refine g_lvs (lv' := [(0, .ref (x 0)), (4, .int 0), (5, .int (nI (k + 1)))]) [4, 1, 0] rfl ?_
        subst hv15_
        subst hv14_
        exact ih (k + 1) 0 (by omega) (by omega) (fun pc_ lv_ v_ u_ h1_ h2_ h3_ h4_ => RET pc_ lv_ v_ u_ h1_ h2_ (h3_.trans (by rw [r_L_isStick_at117, if_pos c_120, if_pos c_143])) h4_)
      · skip
        refine g_iload E 1 dL_isStick_146 rfl ?_
        refine g_iflt E 228 dL_isStick_148 (by decide) (fun c_148 => ?_) (fun c_148 => ?_)
        · skip
          refine g_iconst E 0 dL_isStick_228 (by decide) ?_
          refine g_istore E (lv' := [(4, .int 0), (7, .int v15_), (6, .int v14_), (0, .ref (x 0)), (5, .int (nI k))]) dL_isStick_229 (by decide) rfl ?_
          refine g_iinc E (j := 4) (v := (nI (k + 1))) (lv' := [(5, .int (nI (k + 1))), (4, .int 0), (7, .int v15_), (6, .int v14_), (0, .ref (x 0))]) dL_isStick_231 rfl (nI_1 _) (by decide) rfl ?_
          refine g_goto E 117 dL_isStick_234 (by decide) ?_
          refine g_lvs (lv' := [(0, .ref (x 0)), (4, .int 0), (5, .int (nI (k + 1)))]) [4, 1, 0] rfl ?_
          subst hv15_
          subst hv14_
          exact ih (k + 1) 0 (by omega) (by omega) (fun pc_ lv_ v_ u_ h1_ h2_ h3_ h4_ => RET pc_ lv_ v_ u_ h1_ h2_ (h3_.trans (by rw [r_L_isStick_at117, if_pos c_120, if_neg c_143, if_pos c_148])) h4_)
        · skip
          refine g_iload E 1 dL_isStick_151 rfl ?_
          refine g_sipush E 4080 dL_isStick_153 (by decide) ?_
          refine g_icmpgt E 228 dL_isStick_156 (by decide) (fun c_156 => ?_) (fun c_156 => ?_)
          · skip
            refine g_iconst E 0 dL_isStick_228 (by decide) ?_
            refine g_istore E (lv' := [(4, .int 0), (7, .int v15_), (6, .int v14_), (0, .ref (x 0)), (5, .int (nI k))]) dL_isStick_229 (by decide) rfl ?_
            refine g_iinc E (j := 4) (v := (nI (k + 1))) (lv' := [(5, .int (nI (k + 1))), (4, .int 0), (7, .int v15_), (6, .int v14_), (0, .ref (x 0))]) dL_isStick_231 rfl (nI_1 _) (by decide) rfl ?_
            refine g_goto E 117 dL_isStick_234 (by decide) ?_
            refine g_lvs (lv' := [(0, .ref (x 0)), (4, .int 0), (5, .int (nI (k + 1)))]) [4, 1, 0] rfl ?_
            subst hv15_
            subst hv14_
            exact ih (k + 1) 0 (by omega) (by omega) (fun pc_ lv_ v_ u_ h1_ h2_ h3_ h4_ => RET pc_ lv_ v_ u_ h1_ h2_ (h3_.trans (by rw [r_L_isStick_at117, if_pos c_120, if_neg c_143, if_neg c_148, if_pos c_156])) h4_)
          · skip
            refine g_aload_n E 2 dL_isStick_159 rfl rfl ?_
            refine g_iconst E 0 dL_isStick_160 (by decide) ?_
            refine g_callVi0 E gc_X4_count ml_L_8 (t_X4_count d x a b c e 0 p q S T h t y ss ) rfl rfl (ci := 4) 0 rfl rfl rfl rfl (ok_le rfl) ⟨ok_le rfl, ok_le rfl, ok_le rfl, ok_le rfl⟩ rfl rfl dL_isStick_161 ?_
            refine g_top (b := S.1 21) (count_0 _ _ _) ?_
            refine g_ifne E 189 dL_isStick_164 (by decide) (fun c_164 => ?_) (fun c_164 => ?_)
            · skip
              refine g_iload E 0 dL_isStick_189 rfl ?_
              refine g_iflt E 228 dL_isStick_191 (by decide) (fun c_191 => ?_) (fun c_191 => ?_)
              · skip
                refine g_iconst E 0 dL_isStick_228 (by decide) ?_
                refine g_istore E (lv' := [(4, .int 0), (7, .int v15_), (6, .int v14_), (0, .ref (x 0)), (5, .int (nI k))]) dL_isStick_229 (by decide) rfl ?_
                refine g_iinc E (j := 4) (v := (nI (k + 1))) (lv' := [(5, .int (nI (k + 1))), (4, .int 0), (7, .int v15_), (6, .int v14_), (0, .ref (x 0))]) dL_isStick_231 rfl (nI_1 _) (by decide) rfl ?_
                refine g_goto E 117 dL_isStick_234 (by decide) ?_
                refine g_lvs (lv' := [(0, .ref (x 0)), (4, .int 0), (5, .int (nI (k + 1)))]) [4, 1, 0] rfl ?_
                subst hv15_
                subst hv14_
                exact ih (k + 1) 0 (by omega) (by omega) (fun pc_ lv_ v_ u_ h1_ h2_ h3_ h4_ => RET pc_ lv_ v_ u_ h1_ h2_ (h3_.trans (by rw [r_L_isStick_at117, if_pos c_120, if_neg c_143, if_neg c_148, if_neg c_156, if_neg c_164, if_pos c_191])) h4_)
              · skip
                refine g_iload E 0 dL_isStick_194 rfl ?_
                refine g_sipush E 256 dL_isStick_196 (by decide) ?_
                refine g_icmpge E 228 dL_isStick_199 (by decide) (fun c_199 => ?_) (fun c_199 => ?_)
                · skip
                  refine g_iconst E 0 dL_isStick_228 (by decide) ?_
                  refine g_istore E (lv' := [(4, .int 0), (7, .int v15_), (6, .int v14_), (0, .ref (x 0)), (5, .int (nI k))]) dL_isStick_229 (by decide) rfl ?_
                  refine g_iinc E (j := 4) (v := (nI (k + 1))) (lv' := [(5, .int (nI (k + 1))), (4, .int 0), (7, .int v15_), (6, .int v14_), (0, .ref (x 0))]) dL_isStick_231 rfl (nI_1 _) (by decide) rfl ?_
                  refine g_goto E 117 dL_isStick_234 (by decide) ?_
                  refine g_lvs (lv' := [(0, .ref (x 0)), (4, .int 0), (5, .int (nI (k + 1)))]) [4, 1, 0] rfl ?_
                  subst hv15_
                  subst hv14_
                  exact ih (k + 1) 0 (by omega) (by omega) (fun pc_ lv_ v_ u_ h1_ h2_ h3_ h4_ => RET pc_ lv_ v_ u_ h1_ h2_ (h3_.trans (by rw [r_L_isStick_at117, if_pos c_120, if_neg c_143, if_neg c_148, if_neg c_156, if_neg c_164, if_neg c_191, if_neg c_199])) h4_)
                · skip
                  refine g_aload_n E 2 dL_isStick_202 rfl rfl ?_
                  refine g_iload E 4 dL_isStick_203 rfl ?_
                  refine g_iconst E 3 dL_isStick_205 (by decide) ?_
                  refine g_callVi0 E gc_X4_of ml_L_14 (t_X4_of d x a b c e (nI k) 3 p q S T h t y ss ) rfl rfl (ci := 4) 0 rfl rfl rfl rfl (ok_le rfl) ⟨ok_le rfl, ok_le rfl, ok_le rfl, ok_le rfl⟩ rfl rfl dL_isStick_206 ?_
                  refine g_nm (fun v17_ hv17_ => ?_)
                  refine g_iload E 0 dL_isStick_209 rfl ?_
                  refine g_iload E 1 dL_isStick_211 rfl ?_
                  refine g_bipush E 16 dL_isStick_213 (by decide) ?_
                  refine g_idiv E dL_isStick_215 (by decide) ?_
                  refine g_isub E dL_isStick_216 ?_
                  refine g_sipush E 1000 dL_isStick_217 (by decide) ?_
                  refine g_iadd E dL_isStick_220 ?_
                  refine g_icmpne E 228 dL_isStick_221 (by decide) (fun c_221 => ?_) (fun c_221 => ?_)
                  · skip
                    refine g_iconst E 0 dL_isStick_228 (by decide) ?_
                    refine g_istore E (lv' := [(4, .int 0), (7, .int v15_), (6, .int v14_), (0, .ref (x 0)), (5, .int (nI k))]) dL_isStick_229 (by decide) rfl ?_
                    refine g_iinc E (j := 4) (v := (nI (k + 1))) (lv' := [(5, .int (nI (k + 1))), (4, .int 0), (7, .int v15_), (6, .int v14_), (0, .ref (x 0))]) dL_isStick_231 rfl (nI_1 _) (by decide) rfl ?_
                    refine g_goto E 117 dL_isStick_234 (by decide) ?_
                    refine g_lvs (lv' := [(0, .ref (x 0)), (4, .int 0), (5, .int (nI (k + 1)))]) [4, 1, 0] rfl ?_
                    subst hv17_
                    subst hv15_
                    subst hv14_
                    exact ih (k + 1) 0 (by omega) (by omega) (fun pc_ lv_ v_ u_ h1_ h2_ h3_ h4_ => RET pc_ lv_ v_ u_ h1_ h2_ (h3_.trans (by rw [r_L_isStick_at117, if_pos c_120, if_neg c_143, if_neg c_148, if_neg c_156, if_neg c_164, if_neg c_191, if_pos c_199, if_neg c_221])) h4_)
                  · skip
                    refine g_iconst E 1 dL_isStick_224 (by decide) ?_
                    refine g_goto E 229 dL_isStick_225 (by decide) ?_
                    refine g_istore E (lv' := [(4, .int 1), (7, .int v15_), (6, .int v14_), (0, .ref (x 0)), (5, .int (nI k))]) dL_isStick_229 (by decide) rfl ?_
                    refine g_iinc E (j := 4) (v := (nI (k + 1))) (lv' := [(5, .int (nI (k + 1))), (4, .int 1), (7, .int v15_), (6, .int v14_), (0, .ref (x 0))]) dL_isStick_231 rfl (nI_1 _) (by decide) rfl ?_
                    refine g_goto E 117 dL_isStick_234 (by decide) ?_
                    refine g_lvs (lv' := [(0, .ref (x 0)), (4, .int 1), (5, .int (nI (k + 1)))]) [4, 1, 0] rfl ?_
                    subst hv17_
                    subst hv15_
                    subst hv14_
                    exact ih (k + 1) 1 (by omega) (by omega) (fun pc_ lv_ v_ u_ h1_ h2_ h3_ h4_ => RET pc_ lv_ v_ u_ h1_ h2_ (h3_.trans (by rw [r_L_isStick_at117, if_pos c_120, if_neg c_143, if_neg c_148, if_neg c_156, if_neg c_164, if_neg c_191, if_pos c_199, if_pos c_221])) h4_)
            · skip
              refine g_iload E 0 dL_isStick_167 rfl ?_
              refine g_bipush E (-6) dL_isStick_169 (by decide) ?_
              refine g_icmpne E 228 dL_isStick_171 (by decide) (fun c_171 => ?_) (fun c_171 => ?_)
              · skip
                refine g_iconst E 0 dL_isStick_228 (by decide) ?_
                refine g_istore E (lv' := [(4, .int 0), (7, .int v15_), (6, .int v14_), (0, .ref (x 0)), (5, .int (nI k))]) dL_isStick_229 (by decide) rfl ?_
                refine g_iinc E (j := 4) (v := (nI (k + 1))) (lv' := [(5, .int (nI (k + 1))), (4, .int 0), (7, .int v15_), (6, .int v14_), (0, .ref (x 0))]) dL_isStick_231 rfl (nI_1 _) (by decide) rfl ?_
                refine g_goto E 117 dL_isStick_234 (by decide) ?_
                refine g_lvs (lv' := [(0, .ref (x 0)), (4, .int 0), (5, .int (nI (k + 1)))]) [4, 1, 0] rfl ?_
                subst hv15_
                subst hv14_
                exact ih (k + 1) 0 (by omega) (by omega) (fun pc_ lv_ v_ u_ h1_ h2_ h3_ h4_ => RET pc_ lv_ v_ u_ h1_ h2_ (h3_.trans (by rw [r_L_isStick_at117, if_pos c_120, if_neg c_143, if_neg c_148, if_neg c_156, if_pos c_164, if_neg c_171])) h4_)
              · skip
                refine g_aload_n E 2 dL_isStick_174 rfl rfl ?_
                refine g_iload E 4 dL_isStick_175 rfl ?_
                refine g_iconst E 3 dL_isStick_177 (by decide) ?_
                refine g_callVi0 E gc_X4_of ml_L_14 (t_X4_of d x a b c e (nI k) 3 p q S T h t y ss ) rfl rfl (ci := 4) 0 rfl rfl rfl rfl (ok_le rfl) ⟨ok_le rfl, ok_le rfl, ok_le rfl, ok_le rfl⟩ rfl rfl dL_isStick_178 ?_
                refine g_nm (fun v18_ hv18_ => ?_)
                refine g_bipush E (-6) dL_isStick_181 (by decide) ?_
                refine g_icmpne E 228 dL_isStick_183 (by decide) (fun c_183 => ?_) (fun c_183 => ?_)
                · skip
                  refine g_iconst E 0 dL_isStick_228 (by decide) ?_
                  refine g_istore E (lv' := [(4, .int 0), (7, .int v15_), (6, .int v14_), (0, .ref (x 0)), (5, .int (nI k))]) dL_isStick_229 (by decide) rfl ?_
                  refine g_iinc E (j := 4) (v := (nI (k + 1))) (lv' := [(5, .int (nI (k + 1))), (4, .int 0), (7, .int v15_), (6, .int v14_), (0, .ref (x 0))]) dL_isStick_231 rfl (nI_1 _) (by decide) rfl ?_
                  refine g_goto E 117 dL_isStick_234 (by decide) ?_
                  refine g_lvs (lv' := [(0, .ref (x 0)), (4, .int 0), (5, .int (nI (k + 1)))]) [4, 1, 0] rfl ?_
                  subst hv18_
                  subst hv15_
                  subst hv14_
                  exact ih (k + 1) 0 (by omega) (by omega) (fun pc_ lv_ v_ u_ h1_ h2_ h3_ h4_ => RET pc_ lv_ v_ u_ h1_ h2_ (h3_.trans (by rw [r_L_isStick_at117, if_pos c_120, if_neg c_143, if_neg c_148, if_neg c_156, if_pos c_164, if_pos c_171, if_neg c_183])) h4_)
                · skip
                  refine g_goto E 224 dL_isStick_186 (by decide) ?_
                  refine g_iconst E 1 dL_isStick_224 (by decide) ?_
                  refine g_goto E 229 dL_isStick_225 (by decide) ?_
                  refine g_istore E (lv' := [(4, .int 1), (7, .int v15_), (6, .int v14_), (0, .ref (x 0)), (5, .int (nI k))]) dL_isStick_229 (by decide) rfl ?_
                  refine g_iinc E (j := 4) (v := (nI (k + 1))) (lv' := [(5, .int (nI (k + 1))), (4, .int 1), (7, .int v15_), (6, .int v14_), (0, .ref (x 0))]) dL_isStick_231 rfl (nI_1 _) (by decide) rfl ?_
                  refine g_goto E 117 dL_isStick_234 (by decide) ?_
                  refine g_lvs (lv' := [(0, .ref (x 0)), (4, .int 1), (5, .int (nI (k + 1)))]) [4, 1, 0] rfl ?_
                  subst hv18_
                  subst hv15_
                  subst hv14_
                  exact ih (k + 1) 1 (by omega) (by omega) (fun pc_ lv_ v_ u_ h1_ h2_ h3_ h4_ => RET pc_ lv_ v_ u_ h1_ h2_ (h3_.trans (by rw [r_L_isStick_at117, if_pos c_120, if_neg c_143, if_neg c_148, if_neg c_156, if_pos c_164, if_pos c_171, if_pos c_183])) h4_)
set_option maxHeartbeats 1000000 in
set_option maxRecDepth 100000 in
theorem s_L_isStick_112 (d : gD) (x : Nat → Nat) (a : Nat → Nat) (b : Nat → Nat) (c : Nat → Nat) (e : Nat → Nat) (p : Nat → Nat → Nat) (q : Nat → Nat → Nat) (S : SS) (T : SS) (h : Nat → Int32) (t : Nat → Int32) (y : HS) (ss : Nat → Option SS)  (v : Int32)  {X : gX} (E : gE d X RL cL_isStick 11 R_L_isStick) (RET : ∀ (pc_ : Nat) (lv_ : List (Nat × Value)) (v_ : Int32) (u_ : va_W), decode cL_isStick pc_ = .ok (.ireturn, 1) → narrow .boolean (.int v_) = .int v_ → v_ = r_L_isStick_at112 S v → u_ = XW d (x, a, b, c, e) p q S T h t y ss → G d X u_ R_L_isStick.cells R_L_isStick.slots pc_ lv_ [.int v_]) : G d X (XW d (x, a, b, c, e) p q S T h t y ss) 0 0 112 [(0, .ref (x 0))] [.int v] := by
  refine g_istore E (lv' := [(4, .int v), (0, .ref (x 0))]) dL_isStick_112 (by decide) rfl ?_
  refine g_iconst E 0 dL_isStick_114 (by decide) ?_
  refine g_istore E (lv' := [(5, .int 0), (4, .int v), (0, .ref (x 0))]) dL_isStick_115 (by decide) rfl ?_
  refine g_lvs (lv' := [(0, .ref (x 0)), (4, .int v), (5, .int 0)]) [2, 1, 0] rfl ?_
  exact s_L_isStick_117 d x a b c e p q S T h t y ss  E 3 0 v (by omega) (by omega) (fun pc_ lv_ v_ u_ h1_ h2_ h3_ h4_ => RET pc_ lv_ v_ u_ h1_ h2_ (h3_.trans (by rw [r_L_isStick_at112])) h4_)
set_option maxHeartbeats 1000000 in
set_option maxRecDepth 100000 in
theorem s_L_isStick_0 (d : gD) (x : Nat → Nat) (a : Nat → Nat) (b : Nat → Nat) (c : Nat → Nat) (e : Nat → Nat) (p : Nat → Nat → Nat) (q : Nat → Nat → Nat) (S : SS) (T : SS) (h : Nat → Int32) (t : Nat → Int32) (y : HS) (ss : Nat → Option SS)   {X : gX} (E : gE d X RL cL_isStick 11 R_L_isStick) (RET : ∀ (pc_ : Nat) (lv_ : List (Nat × Value)) (v_ : Int32) (u_ : va_W), decode cL_isStick pc_ = .ok (.ireturn, 1) → narrow .boolean (.int v_) = .int v_ → v_ = r_L_isStick S → u_ = XW d (x, a, b, c, e) p q S T h t y ss → G d X u_ R_L_isStick.cells R_L_isStick.slots pc_ lv_ [.int v_]) : G d X (XW d (x, a, b, c, e) p q S T h t y ss) 0 0 0 [(0, .ref (x 0))] [] := by
  refine g_aload_n E 0 dL_isStick_0 rfl rfl ?_
  refine g_iconst E 1 dL_isStick_1 (by decide) ?_
  refine g_callVi0 E gc_X4_count ml_L_8 (t_X4_count d x a b c e 1 p q S T h t y ss ) rfl rfl (ci := 4) 0 rfl rfl rfl rfl (ok_le rfl) ⟨ok_le rfl, ok_le rfl, ok_le rfl, ok_le rfl⟩ rfl rfl dL_isStick_2 ?_
  refine g_top (b := S.1 9) (count_1 _ _ _) ?_
  refine g_istore_n E (lv' := [(1, .int (S.1 9)), (0, .ref (x 0))]) dL_isStick_5 rfl (by decide) rfl ?_
  refine g_aload_n E 1 dL_isStick_6 rfl rfl ?_
  refine g_iconst E 0 dL_isStick_7 (by decide) ?_
  refine g_iconst E 1 dL_isStick_8 (by decide) ?_
  refine g_callVi0 E gc_X4_of ml_L_14 (t_X4_of d x a b c e 0 1 p q S T h t y ss ) rfl rfl (ci := 4) 0 rfl rfl rfl rfl (ok_le rfl) ⟨ok_le rfl, ok_le rfl, ok_le rfl, ok_le rfl⟩ rfl rfl dL_isStick_9 ?_
  refine g_top (b := (S.1 14) + 100) (of_0_1 _) ?_
  refine g_bipush E 100 dL_isStick_12 (by decide) ?_
  refine g_isub E dL_isStick_14 ?_
  refine g_istore_n E (lv' := [(2, .int (((S.1 14) + 100) - 100)), (1, .int (S.1 9)), (0, .ref (x 0))]) dL_isStick_15 rfl (by decide) rfl ?_
  refine g_aload_n E 2 dL_isStick_16 rfl rfl ?_
  refine g_iconst E 1 dL_isStick_17 (by decide) ?_
  refine g_iconst E 1 dL_isStick_18 (by decide) ?_
  refine g_callVi0 E gc_X4_of ml_L_14 (t_X4_of d x a b c e 1 1 p q S T h t y ss ) rfl rfl (ci := 4) 0 rfl rfl rfl rfl (ok_le rfl) ⟨ok_le rfl, ok_le rfl, ok_le rfl, ok_le rfl⟩ rfl rfl dL_isStick_19 ?_
  refine g_top (b := (S.1 15) + 100) (of_1_1 _) ?_
  refine g_bipush E 100 dL_isStick_22 (by decide) ?_
  refine g_isub E dL_isStick_24 ?_
  refine g_istore_n E (lv' := [(3, .int (((S.1 15) + 100) - 100)), (2, .int (((S.1 14) + 100) - 100)), (1, .int (S.1 9)), (0, .ref (x 0))]) dL_isStick_25 rfl (by decide) rfl ?_
  refine g_iload_n E 2 dL_isStick_26 rfl rfl ?_
  refine g_aload_n E 3 dL_isStick_27 rfl rfl ?_
  refine g_bipush E 11 dL_isStick_28 (by decide) ?_
  refine g_callVi0 E gc_X4_count ml_L_8 (t_X4_count d x a b c e 11 p q S T h t y ss ) rfl rfl (ci := 4) 0 rfl rfl rfl rfl (ok_le rfl) ⟨ok_le rfl, ok_le rfl, ok_le rfl, ok_le rfl⟩ rfl rfl dL_isStick_30 ?_
  refine g_top (b := S.2.1 1) (count_11 _ _ _) ?_
  refine g_icmplt E 111 dL_isStick_33 (by decide) (fun c_33 => ?_) (fun c_33 => ?_)
  · skip
    refine g_iconst E 0 dL_isStick_111 (by decide) ?_
    refine g_lvs (lv' := [(0, .ref (x 0))]) [3] rfl ?_
    exact s_L_isStick_112 d x a b c e p q S T h t y ss  0  E (fun pc_ lv_ v_ u_ h1_ h2_ h3_ h4_ => RET pc_ lv_ v_ u_ h1_ h2_ (h3_.trans (by rw [r_L_isStick, if_pos c_33])) h4_)
  · skip
    refine g_iload_n E 2 dL_isStick_36 rfl rfl ?_
    refine g_aload_n E 3 dL_isStick_37 rfl rfl ?_
    refine g_bipush E 11 dL_isStick_38 (by decide) ?_
    refine g_callVi0 E gc_X4_count ml_L_8 (t_X4_count d x a b c e 11 p q S T h t y ss ) rfl rfl (ci := 4) 0 rfl rfl rfl rfl (ok_le rfl) ⟨ok_le rfl, ok_le rfl, ok_le rfl, ok_le rfl⟩ rfl rfl dL_isStick_40 ?_
    refine g_top (b := S.2.1 1) (count_11 _ _ _) ?_
    refine g_aload_n E 3 dL_isStick_43 rfl rfl ?_
    refine g_bipush E 12 dL_isStick_44 (by decide) ?_
    refine g_callVi0 E gc_X4_count ml_L_8 (t_X4_count d x a b c e 12 p q S T h t y ss ) rfl rfl (ci := 4) 0 rfl rfl rfl rfl (ok_le rfl) ⟨ok_le rfl, ok_le rfl, ok_le rfl, ok_le rfl⟩ rfl rfl dL_isStick_46 ?_
    refine g_top (b := S.2.1 2) (count_12 _ _ _) ?_
    refine g_iadd E dL_isStick_49 ?_
    refine g_icmpgt E 111 dL_isStick_50 (by decide) (fun c_50 => ?_) (fun c_50 => ?_)
    · skip
      refine g_iconst E 0 dL_isStick_111 (by decide) ?_
      refine g_lvs (lv' := [(0, .ref (x 0))]) [3] rfl ?_
      exact s_L_isStick_112 d x a b c e p q S T h t y ss  0  E (fun pc_ lv_ v_ u_ h1_ h2_ h3_ h4_ => RET pc_ lv_ v_ u_ h1_ h2_ (h3_.trans (by rw [r_L_isStick, if_neg c_33, if_pos c_50])) h4_)
    · skip
      refine g_iload_n E 1 dL_isStick_53 rfl rfl ?_
      refine g_callSp E gc_L_size ml_L_18 (t_L_size d (((S.1 14) + 100) - 100) ) rfl rfl rfl (ok_le rfl) ⟨ok_le rfl, ok_le rfl, ok_le rfl, ok_le rfl⟩ rfl rfl dL_isStick_54 ?_
      refine g_nm (fun v7_ hv7_ => ?_)
      refine g_bipush E 100 dL_isStick_57 (by decide) ?_
      refine g_icmpgt E 111 dL_isStick_59 (by decide) (fun c_59 => ?_) (fun c_59 => ?_)
      · skip
        refine g_iconst E 0 dL_isStick_111 (by decide) ?_
        refine g_lvs (lv' := [(0, .ref (x 0))]) [3] rfl ?_
        subst hv7_
        exact s_L_isStick_112 d x a b c e p q S T h t y ss  0  E (fun pc_ lv_ v_ u_ h1_ h2_ h3_ h4_ => RET pc_ lv_ v_ u_ h1_ h2_ (h3_.trans (by rw [r_L_isStick, if_neg c_33, if_neg c_50, if_pos c_59])) h4_)
      · skip
        refine g_iload_n E 0 dL_isStick_62 rfl rfl ?_
        refine g_callSp E gc_L_size ml_L_18 (t_L_size d (((S.1 15) + 100) - 100) ) rfl rfl rfl (ok_le rfl) ⟨ok_le rfl, ok_le rfl, ok_le rfl, ok_le rfl⟩ rfl rfl dL_isStick_63 ?_
        refine g_nm (fun v8_ hv8_ => ?_)
        refine g_bipush E 100 dL_isStick_66 (by decide) ?_
        refine g_icmpgt E 111 dL_isStick_68 (by decide) (fun c_68 => ?_) (fun c_68 => ?_)
        · skip
          refine g_iconst E 0 dL_isStick_111 (by decide) ?_
          refine g_lvs (lv' := [(0, .ref (x 0))]) [3] rfl ?_
          subst hv8_
          subst hv7_
          exact s_L_isStick_112 d x a b c e p q S T h t y ss  0  E (fun pc_ lv_ v_ u_ h1_ h2_ h3_ h4_ => RET pc_ lv_ v_ u_ h1_ h2_ (h3_.trans (by rw [r_L_isStick, if_neg c_33, if_neg c_50, if_neg c_59, if_pos c_68])) h4_)
        · skip
          refine g_iload_n E 1 dL_isStick_71 rfl rfl ?_
          refine g_callSp E gc_L_size ml_L_18 (t_L_size d (((S.1 14) + 100) - 100) ) rfl rfl rfl (ok_le rfl) ⟨ok_le rfl, ok_le rfl, ok_le rfl, ok_le rfl⟩ rfl rfl dL_isStick_72 ?_
          refine g_nm (fun v9_ hv9_ => ?_)
          refine g_iload_n E 0 dL_isStick_75 rfl rfl ?_
          refine g_callSp E gc_L_size ml_L_18 (t_L_size d (((S.1 15) + 100) - 100) ) rfl rfl rfl (ok_le rfl) ⟨ok_le rfl, ok_le rfl, ok_le rfl, ok_le rfl⟩ rfl rfl dL_isStick_76 ?_
          refine g_nm (fun v10_ hv10_ => ?_)
          refine g_iadd E dL_isStick_79 ?_
          refine g_aload_n E 3 dL_isStick_80 rfl rfl ?_
          refine g_bipush E 14 dL_isStick_81 (by decide) ?_
          refine g_callVi0 E gc_X4_count ml_L_8 (t_X4_count d x a b c e 14 p q S T h t y ss ) rfl rfl (ci := 4) 0 rfl rfl rfl rfl (ok_le rfl) ⟨ok_le rfl, ok_le rfl, ok_le rfl, ok_le rfl⟩ rfl rfl dL_isStick_83 ?_
          refine g_top (b := S.2.1 4) (count_14 _ _ _) ?_
          refine g_icmpgt E 111 dL_isStick_86 (by decide) (fun c_86 => ?_) (fun c_86 => ?_)
          · skip
            refine g_iconst E 0 dL_isStick_111 (by decide) ?_
            refine g_lvs (lv' := [(0, .ref (x 0))]) [3] rfl ?_
            subst hv10_
            subst hv9_
            subst hv8_
            subst hv7_
            exact s_L_isStick_112 d x a b c e p q S T h t y ss  0  E (fun pc_ lv_ v_ u_ h1_ h2_ h3_ h4_ => RET pc_ lv_ v_ u_ h1_ h2_ (h3_.trans (by rw [r_L_isStick, if_neg c_33, if_neg c_50, if_neg c_59, if_neg c_68, if_pos c_86])) h4_)
          · skip
            refine g_aload_n E 3 dL_isStick_89 rfl rfl ?_
            refine g_iconst E 3 dL_isStick_90 (by decide) ?_
            refine g_callVi0 E gc_X4_count ml_L_8 (t_X4_count d x a b c e 3 p q S T h t y ss ) rfl rfl (ci := 4) 0 rfl rfl rfl rfl (ok_le rfl) ⟨ok_le rfl, ok_le rfl, ok_le rfl, ok_le rfl⟩ rfl rfl dL_isStick_91 ?_
            refine g_top (b := S.1 13) (count_3 _ _ _) ?_
            refine g_iflt E 111 dL_isStick_94 (by decide) (fun c_94 => ?_) (fun c_94 => ?_)
            · skip
              refine g_iconst E 0 dL_isStick_111 (by decide) ?_
              refine g_lvs (lv' := [(0, .ref (x 0))]) [3] rfl ?_
              subst hv10_
              subst hv9_
              subst hv8_
              subst hv7_
              exact s_L_isStick_112 d x a b c e p q S T h t y ss  0  E (fun pc_ lv_ v_ u_ h1_ h2_ h3_ h4_ => RET pc_ lv_ v_ u_ h1_ h2_ (h3_.trans (by rw [r_L_isStick, if_neg c_33, if_neg c_50, if_neg c_59, if_neg c_68, if_neg c_86, if_pos c_94])) h4_)
            · skip
              refine g_aload_n E 3 dL_isStick_97 rfl rfl ?_
              refine g_iconst E 3 dL_isStick_98 (by decide) ?_
              refine g_callVi0 E gc_X4_count ml_L_8 (t_X4_count d x a b c e 3 p q S T h t y ss ) rfl rfl (ci := 4) 0 rfl rfl rfl rfl (ok_le rfl) ⟨ok_le rfl, ok_le rfl, ok_le rfl, ok_le rfl⟩ rfl rfl dL_isStick_99 ?_
              refine g_top (b := S.1 13) (count_3 _ _ _) ?_
              refine g_bipush E 20 dL_isStick_102 (by decide) ?_
              refine g_icmpgt E 111 dL_isStick_104 (by decide) (fun c_104 => ?_) (fun c_104 => ?_)
              · skip
                refine g_iconst E 0 dL_isStick_111 (by decide) ?_
                refine g_lvs (lv' := [(0, .ref (x 0))]) [3] rfl ?_
                subst hv10_
                subst hv9_
                subst hv8_
                subst hv7_
                exact s_L_isStick_112 d x a b c e p q S T h t y ss  0  E (fun pc_ lv_ v_ u_ h1_ h2_ h3_ h4_ => RET pc_ lv_ v_ u_ h1_ h2_ (h3_.trans (by rw [r_L_isStick, if_neg c_33, if_neg c_50, if_neg c_59, if_neg c_68, if_neg c_86, if_neg c_94, if_pos c_104])) h4_)
              · skip
                refine g_iconst E 1 dL_isStick_107 (by decide) ?_
                refine g_goto E 112 dL_isStick_108 (by decide) ?_
                refine g_lvs (lv' := [(0, .ref (x 0))]) [3] rfl ?_
                subst hv10_
                subst hv9_
                subst hv8_
                subst hv7_
                exact s_L_isStick_112 d x a b c e p q S T h t y ss  1  E (fun pc_ lv_ v_ u_ h1_ h2_ h3_ h4_ => RET pc_ lv_ v_ u_ h1_ h2_ (h3_.trans (by rw [r_L_isStick, if_neg c_33, if_neg c_50, if_neg c_59, if_neg c_68, if_neg c_86, if_neg c_94, if_neg c_104])) h4_)
set_option maxHeartbeats 1000000 in
set_option maxRecDepth 100000 in
theorem t_L_isStick (d : gD) (x : Nat → Nat) (a : Nat → Nat) (b : Nat → Nat) (c : Nat → Nat) (e : Nat → Nat) (p : Nat → Nat → Nat) (q : Nat → Nat → Nat) (S : SS) (T : SS) (h : Nat → Int32) (t : Nat → Int32) (y : HS) (ss : Nat → Option SS)  : gMi d yL_isStick cL_isStick 11 (some .boolean) R_L_isStick [.ref (x 0)] (XW d (x, a, b, c, e) p q S T h t y ss) (fun r_ u_ => r_ = r_L_isStick S ∧ u_ = XW d (x, a, b, c, e) p q S T h t y ss) :=
  g_met_i RL rfl (by decide +kernel) (Nat.le_of_ble_eq_true rfl) [(0, .ref (x 0))] rfl (fun X E RET => s_L_isStick_0 d x a b c e p q S T h t y ss  E (fun pc_ lv_ v_ u_ h1_ h2_ h3_ h4_ => RET pc_ lv_ v_ u_ h1_ h2_ ⟨h3_, h4_⟩))
