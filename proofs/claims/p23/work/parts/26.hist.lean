abbrev R_X1_placeOf : Room := { frames := 1, cells := 0, slots := 0, locals := 22 }
theorem t_X1_placeOf (d : gD) (e : Nat → Nat) (o n w : Int32) (q : Nat → Option Nat) : gMi d yX1_placeOf cX1_placeOf 2 (some .int) R_X1_placeOf [.ref (e 0), .int w] (HB d e o n q) (fun r u => r = r_J9_floorMod_7cf53 (o + w) 6 ∧ u = HB d e o n q) := by
  refine g_met_i RX1 rfl (by decide +kernel) (Nat.le_of_ble_eq_true rfl) [(0, .ref (e 0)), (1, .int w)] rfl (fun X E RET => ?_)
  refine g_aload_n E 0 dX1_placeOf_0 rfl rfl ?_
  refine g_get E (ci := 1) inlX1 0 rfl rfl 1 (by decide) fl_X1_17 rfl (.int o) rfl dX1_placeOf_1 ?_
  refine g_iload_n E 1 dX1_placeOf_4 rfl rfl ?_
  refine g_iadd E dX1_placeOf_5 ?_
  refine g_bipush E 6 dX1_placeOf_6 (by decide) ?_
  refine g_callSp E gc_J9_floorMod_7cf53 ml_X1_21 (t_J9_floorMod_7cf53 d (o + w) 6 (by decide)) rfl rfl rfl (ok_le rfl) ⟨ok_le rfl, ok_le rfl, ok_le rfl, ok_le rfl⟩ rfl rfl dX1_placeOf_8 ?_
  exact RET 11 _ _ _ dX1_placeOf_11 rfl ⟨rfl, rfl⟩
/-! the sticks that there are -/
def pup (p : Nat → Nat → Nat) (i : Nat) (b : Nat → Nat) : Nat → Nat → Nat := fun j => if j = i then b else p j
def sup (s : Nat → Option SS) (i : Nat) (x : Option SS) : Nat → Option SS := fun j => if j = i then x else s j
theorem sup_at (s : Nat → Option SS) (i : Nat) (x : Option SS) : sup s i x i = x := if_pos rfl
theorem sup_ne (s : Nat → Option SS) {i j : Nat} (x : Option SS) (h : j ≠ i) : sup s i x j = s j := if_neg h
theorem pup_at (p : Nat → Nat → Nat) (i : Nat) (b : Nat → Nat) : pup p i b i = b := if_pos rfl
theorem pup_ne (p : Nat → Nat → Nat) {i j : Nat} (b : Nat → Nat) (h : j ≠ i) : pup p i b j = p j := if_neg h
theorem PL_cong (d : gD) {p p' : Nat → Nat → Nat} {s s' : Nat → Option SS} : ∀ (n : Nat), (∀ j, j < n → s j = s' j ∧ p j = p' j) → PL d p s n = PL d p' s' n := by
  intro n
  induction n with
  | zero => intro _; rfl
  | succ n ih =>
    intro h
    rw [PL, PL, ih (fun j hj => h j (by omega)), (h n (by omega)).1, (h n (by omega)).2]
theorem PL_take (d : gD) (p : Nat → Nat → Nat) (s : Nat → Option SS) {i : Nat} {T : SS} (hT : s i = some T) : ∀ (n : Nat), i < n → (PL d p s n).Perm (SK d (p i) T ++ PL d p (sup s i none) n) := by
  intro n
  induction n with
  | zero => intro h; omega
  | succ n ih =>
    intro h
    rw [PL, PL]
    by_cases c : i = n
    · subst c
      rw [hT, sup_at, List.append_nil, PL_cong d (s' := sup s i none) (p' := p) i (fun j hj => ⟨(sup_ne s none (by omega)).symm, rfl⟩)]
      exact List.perm_append_comm
    · rw [sup_ne s none (show n ≠ i by omega), ← List.append_assoc]
      exact (ih (by omega)).append_right _
theorem PL_put (d : gD) (p : Nat → Nat → Nat) (s : Nat → Option SS) {i : Nat} (hn : s i = none) (b : Nat → Nat) (T : SS) : ∀ (n : Nat), i < n → (SK d b T ++ PL d p s n).Perm (PL d (pup p i b) (sup s i (some T)) n) := by
  intro n
  induction n with
  | zero => intro h; omega
  | succ n ih =>
    intro h
    rw [PL, PL]
    by_cases c : i = n
    · subst c
      rw [hn, sup_at, List.append_nil, pup_at, PL_cong d (s' := sup s i (some T)) (p' := pup p i b) i (fun j hj => ⟨(sup_ne s _ (by omega)).symm, (pup_ne p b (by omega)).symm⟩)]
      exact List.perm_append_comm
    · rw [sup_ne s _ (show n ≠ i by omega), pup_ne p b (show n ≠ i by omega), ← List.append_assoc]
      exact (ih (by omega)).append_right _
theorem pm_a {α : Type} {H P K P' A : List α} (h : P.Perm (K ++ P')) : (H ++ (P ++ A)).Perm ((K ++ A) ++ (H ++ P')) := by
  have h1 : (H ++ (P ++ A)).Perm (H ++ ((K ++ P') ++ A)) := (h.append_right A).append_left H
  have h2 : (H ++ ((K ++ P') ++ A)).Perm (H ++ ((K ++ A) ++ P')) := by
    refine List.Perm.append_left H ?_
    rw [List.append_assoc, List.append_assoc]
    exact List.Perm.append_left K List.perm_append_comm
  exact (h1.trans h2).trans (List.perm_append_comm_assoc H (K ++ A) P')
theorem pm_b {α : Type} {H P K A : List α} : (K ++ (H ++ (P ++ A))).Perm ((K ++ A) ++ (H ++ P)) := by
  have h := pm_a (H := H) (P := K ++ P) (K := K) (P' := P) (A := A) (List.Perm.refl _)
  refine List.Perm.trans ?_ h
  rw [List.append_assoc]
  exact List.perm_append_comm_assoc K H (P ++ A)
theorem pm_c {α : Type} {H P K A Q : List α} (h : (K ++ P).Perm Q) : ((K ++ A) ++ (H ++ P)).Perm (H ++ (Q ++ A)) := (pm_a h.symm).symm
theorem pm_d {α : Type} {H P K P' A : List α} (h : P.Perm (K ++ P')) : (H ++ (P ++ A)).Perm ((A ++ K) ++ (H ++ P')) := (pm_a h).trans (List.perm_append_comm.append_right _)
theorem fm_nI (k : Nat) (h : k < 12) : r_J9_floorMod_7cf53 (nI k) 6 = nI (k % 6) := by
  have : ∀ k, k < 12 → r_J9_floorMod_7cf53 (nI k) 6 = nI (k % 6) := by decide +kernel
  exact this k h
def keepY (o n : Nat) (hs : Nat → Option SS) (S : SS) : HS := if n < 6 then (o, n + 1, sup hs ((o + n) % 6) (some S)) else ((o + 1) % 6, 6, sup hs ((o + n) % 6) (some S))
theorem g_k6 {n : Nat} (h : n ≤ 6) : nI n < 6 ↔ n < 6 := nI_ltI (a := n) (b := 6) (by omega) (by omega)
abbrev R_X1_keep : Room := { frames := 3, cells := 6, slots := 57, locals := 63 }
set_option maxHeartbeats 2000000 in
set_option maxRecDepth 100000 in
theorem s_X1_keep_54 (d : gD) (e a b : Nat → Nat) (i : Int32) (o n : Nat) (q : Nat → Option Nat) (ho : o < 6) (hn : n ≤ 6) (P A : va_W) {X : gX} (E : gE d X RX1 cX1_keep 4 R_X1_keep) (RET : ∀ (pc : Nat) (lv : List (Nat × Value)) (u : va_W), decode cX1_keep pc = .ok (.return_, 1) → u = HB d e (if n < 6 then nI o else nI ((o + 1) % 6)) (if n < 6 then nI (n + 1) else nI 6) q ++ (P ++ A) → G d X u R_X1_keep.cells R_X1_keep.slots pc lv []) : G d X (HB d e (nI o) (nI n) q ++ (P ++ A)) 6 57 54 [(0, .ref (e 0)), (1, .ref (a 0)), (2, .int i), (3, .ref (b 0))] [] := by
  refine g_aload_n E 0 dX1_keep_54 rfl rfl ?_
  refine g_get E (ci := 1) inlX1 0 rfl rfl 2 (by decide) fl_X1_27 rfl (.int (nI n)) rfl dX1_keep_55 ?_
  refine g_bipush E 6 dX1_keep_58 (by decide) ?_
  refine g_icmpge E 76 dX1_keep_60 (by decide) (fun c => ?_) (fun c => ?_)
  · have h6 : ¬ n < 6 := mt (g_k6 hn).mpr c
    refine g_aload_n E 0 dX1_keep_76 rfl rfl ?_
    refine g_aload_n E 0 dX1_keep_77 rfl rfl ?_
    refine g_iconst E 1 dX1_keep_78 (by decide) ?_
    refine g_callViD E gc_X1_placeOf ml_X1_30 (t_X1_placeOf d e (nI o) (nI n) 1 q) rfl rfl (ci := 1) 0 rfl rfl rfl rfl (ok_le rfl) ⟨ok_le rfl, ok_le rfl, ok_le rfl, ok_le rfl⟩ rfl rfl dX1_keep_79 ?_
    refine g_top (b := nI ((o + 1) % 6)) (by rw [show nI o + 1 = nI (o + 1) from nI_1 _]; exact fm_nI (o + 1) (by omega)) ?_
    refine g_put E (ci := 1) inlX1 0 rfl rfl 1 (by decide) tyX1 tyX1_ok nmX1 fl_X1_17 rfl rfl rfl rfl (ok_lt rfl) (ws' := HB d e (nI ((o + 1) % 6)) (nI n) q ++ (P ++ A)) rfl dX1_keep_82 ?_
    exact RET 85 _ _ dX1_keep_85 (by rw [if_neg h6, if_neg h6, show n = 6 by omega])
  · have h6 : n < 6 := (g_k6 hn).mp c
    refine g_aload_n E 0 dX1_keep_63 rfl rfl ?_
    refine g_dup E dX1_keep_64 rfl ?_
    refine g_get E (ci := 1) inlX1 0 rfl rfl 2 (by decide) fl_X1_27 rfl (.int (nI n)) rfl dX1_keep_65 ?_
    refine g_iconst E 1 dX1_keep_68 (by decide) ?_
    refine g_iadd E dX1_keep_69 ?_
    refine g_top (b := nI (n + 1)) (nI_1 _) ?_
    refine g_put E (ci := 1) inlX1 0 rfl rfl 2 (by decide) tyX1 tyX1_ok nmX1 fl_X1_27 rfl rfl rfl rfl (ok_lt rfl) (ws' := HB d e (nI o) (nI (n + 1)) q ++ (P ++ A)) rfl dX1_keep_70 ?_
    refine g_goto E 85 dX1_keep_73 (by decide) ?_
    exact RET 85 _ _ dX1_keep_85 (by rw [if_pos h6, if_pos h6])
theorem qf_up (p : Nat → Nat → Nat) (s : Nat → Option SS) (i : Nat) (b : Nat → Nat) (T : SS) : va_up (qf p s) i (some (b 0)) = qf (pup p i b) (sup s i (some T)) := by
  funext j
  unfold va_up qf sup pup
  by_cases h : j = i
  · rw [if_pos h, if_pos h, if_pos h]
    rfl
  · rw [if_neg h, if_neg h, if_neg h]
theorem qf_same (p : Nat → Nat → Nat) (s : Nat → Option SS) {i : Nat} {T : SS} (hT : s i = some T) (T' : SS) : qf p s = qf (pup p i (p i)) (sup s i (some T')) := by
  funext j
  unfold qf sup pup
  by_cases h : j = i
  · subst h
    rw [if_pos rfl, if_pos rfl, hT]
    rfl
  · rw [if_neg h, if_neg h]
theorem sup_sup (s : Nat → Option SS) (i : Nat) (x y : Option SS) : sup (sup s i x) i y = sup s i y := by
  funext j
  unfold sup
  by_cases h : j = i
  · rw [if_pos h, if_pos h]
  · rw [if_neg h, if_neg h, if_neg h]
set_option maxHeartbeats 2000000 in
set_option maxRecDepth 100000 in
theorem s_X1_keep (d : gD) (e a : Nat → Nat) (p : Nat → Nat → Nat) (o n : Nat) (hs : Nat → Option SS) (S : SS) (ho : o < 6) (hn : n ≤ 6) {X : gX} (E : gE d X RX1 cX1_keep 4 R_X1_keep) (RET : ∀ (pc : Nat) (lv : List (Nat × Value)) (u : va_W), decode cX1_keep pc = .ok (.return_, 1) → (∃ p', u = HB d e (nI (keepY o n hs S).1) (nI (keepY o n hs S).2.1) (qf p' (keepY o n hs S).2.2) ++ (PL d p' (keepY o n hs S).2.2 6 ++ SK d a S)) → G d X u R_X1_keep.cells R_X1_keep.slots pc lv []) : G d X (HB d e (nI o) (nI n) (qf p hs) ++ (PL d p hs 6 ++ SK d a S)) 0 0 0 [(0, .ref (e 0)), (1, .ref (a 0))] [] := by
  have k1 : (if n < 6 then nI o else nI ((o + 1) % 6)) = nI (keepY o n hs S).1 := by
    unfold keepY
    split <;> rfl
  have k2 : (if n < 6 then nI (n + 1) else nI 6) = nI (keepY o n hs S).2.1 := by
    unfold keepY
    split <;> rfl
  have k3 : sup hs ((o + n) % 6) (some S) = (keepY o n hs S).2.2 := by
    unfold keepY
    split <;> rfl
  refine g_aload_n E 0 dX1_keep_0 rfl rfl ?_
  refine g_aload_n E 0 dX1_keep_1 rfl rfl ?_
  refine g_get E (ci := 1) inlX1 0 rfl rfl 2 (by decide) fl_X1_27 rfl (.int (nI n)) rfl dX1_keep_2 ?_
  refine g_callViD E gc_X1_placeOf ml_X1_30 (t_X1_placeOf d e (nI o) (nI n) (nI n) (qf p hs)) rfl rfl (ci := 1) 0 rfl rfl rfl rfl (ok_le rfl) ⟨ok_le rfl, ok_le rfl, ok_le rfl, ok_le rfl⟩ rfl rfl dX1_keep_5 ?_
  refine g_top (b := nI ((o + n) % 6)) (by rw [nI_add]; exact fm_nI (o + n) (by omega)) ?_
  obtain ⟨i, hi⟩ : ∃ i, (o + n) % 6 = i := ⟨_, rfl⟩
  have hi6 : i < 6 := by omega
  rw [hi] at k3 ⊢
  refine g_istore_n E (lv' := [(2, .int (nI i)), (0, .ref (e 0)), (1, .ref (a 0))]) dX1_keep_8 rfl (by decide) rfl ?_
  refine g_iload_n E 0 dX1_keep_9 rfl rfl ?_
  refine g_iflt E 22 dX1_keep_10 (by decide) (fun c => absurd c (nI_pos (by omega))) (fun _ => ?_)
  refine g_iload_n E 0 dX1_keep_13 rfl rfl ?_
  refine g_aload_n E 1 dX1_keep_14 rfl rfl ?_
  refine g_get E (ci := 1) inlX1 0 rfl rfl 0 (by decide) fl_X1_11 rfl (.ref (e 1)) rfl dX1_keep_15 ?_
  refine g_alen E 1 3 rfl rfl 6 rfl dX1_keep_18 ?_
  refine g_icmplt E 23 dX1_keep_19 (by decide) (fun _ => ?_) (fun c => absurd ((g_k6 (by omega)).mpr hi6) c)
  refine g_aload_n E 1 dX1_keep_23 rfl rfl ?_
  refine g_get E (ci := 1) inlX1 0 rfl rfl 0 (by decide) fl_X1_11 rfl (.ref (e 1)) rfl dX1_keep_24 ?_
  refine g_iload_n E 0 dX1_keep_27 rfl rfl ?_
  refine g_aald E 1 rfl rfl i rfl hi6 (by decide) dX1_keep_28 ?_
  cases hT : hs i with
  | some T =>
    refine g_st (st' := [.ref (p i 0)]) (by unfold qf; rw [hT]; rfl) ?_
    refine g_astore_n E (lv' := [(3, .ref (p i 0)), (2, .int (nI i)), (0, .ref (e 0)), (1, .ref (a 0))]) dX1_keep_29 rfl (by decide) rfl ?_
    refine g_aload_n E 0 dX1_keep_30 rfl rfl ?_
    refine g_ifnonnull E 49 dX1_keep_31 (by decide) ?_
    refine g_aload_n E 0 dX1_keep_49 rfl rfl ?_
    refine g_aload_n E 3 dX1_keep_50 rfl rfl ?_
    refine g_perm (ws' := (SK d (p i) T ++ SK d a S) ++ (HB d e (nI o) (nI n) (qf p hs) ++ PL d p (sup hs i none) 6)) (pm_a (PL_take d p hs hT 6 hi6)) ?_
    refine g_callVvD E gc_X3_becomeLike ml_X1_35 (t2_X3_becomeLike d (p i) a T S) rfl rfl (ci := 3) 4 rfl rfl rfl rfl (ok_le rfl) ⟨ok_le rfl, ok_le rfl, ok_le rfl, ok_le rfl⟩ rfl rfl dX1_keep_51 ?_
    refine g_perm (ws' := HB d e (nI o) (nI n) (qf p hs) ++ (PL d (pup p i (p i)) (sup hs i (some S)) 6 ++ SK d a S)) (pm_c (by rw [← sup_sup hs i none (some S)]; exact PL_put d p (sup hs i none) (sup_at _ _ _) (p i) S 6 hi6)) ?_
    refine g_widen (k1 := 6) (n1 := 57) (ok_le rfl) (ok_le rfl) ?_
    refine g_lvs (lv' := [(0, .ref (e 0)), (1, .ref (a 0)), (2, .int (nI i)), (3, .ref (p i 0))]) [2, 3, 1, 0] rfl ?_
    refine s_X1_keep_54 d e a (p i) (nI i) o n (qf p hs) ho hn _ _ E (fun pc lv u h1 h2 => RET pc lv u h1 ⟨pup p i (p i), ?_⟩)
    rw [h2, k1, k2, qf_same p hs hT S, k3]
  | none =>
    refine g_st (st' := [.null]) (by unfold qf; rw [hT]; rfl) ?_
    refine g_astore_nN E (lv' := [(3, .null), (2, .int (nI i)), (0, .ref (e 0)), (1, .ref (a 0))]) dX1_keep_29 rfl (by decide) rfl ?_
    refine g_aload_nN E 0 dX1_keep_30 rfl rfl ?_
    refine g_ifnonnullN E dX1_keep_31 ?_
    refine g_new E (T := TX3) (N := 17) (ci := 3) inlX3 tyX3 tyX3_ok cl_X1_9 ib_RX3 it_RX3 rfl dfX3 dvX3 (ok_le rfl) (ok_le rfl) dX1_keep_34 (fun q _ => ?_)
    refine g_dup E dX1_keep_37 rfl ?_
    refine g_perm (ws' := [(q, .inr (3, dfX3))] ++ (HB d e (nI o) (nI n) (qf p hs) ++ (PL d p hs 6 ++ SK d a S))) List.perm_append_comm ?_
    refine g_callIv E gc_X3_init ml_X1_34 (t_X3_init d q) rfl rfl rfl rfl (ok_le rfl) ⟨ok_le rfl, ok_le rfl, ok_le rfl, ok_le rfl⟩ rfl rfl dX1_keep_38 ?_
    rintro u ⟨b, eb, rfl⟩
    subst eb
    refine g_astore_n E (lv' := [(3, .ref (b 0)), (2, .int (nI i)), (0, .ref (e 0)), (1, .ref (a 0))]) dX1_keep_41 rfl (by decide) rfl ?_
    refine g_aload_n E 2 dX1_keep_42 rfl rfl ?_
    refine g_get E (ci := 1) inlX1 6 rfl rfl 0 (by decide) fl_X1_11 rfl (.ref (e 1)) rfl dX1_keep_43 ?_
    refine g_iload_n E 1 dX1_keep_46 rfl rfl ?_
    refine g_aload_n E 0 dX1_keep_47 rfl rfl ?_
    refine g_aast E 7 4 rfl rfl rfl i rfl hi6 (by decide) (ws' := SK d b S0 ++ (HB d e (nI o) (nI n) (va_up (qf p hs) i (some (b 0))) ++ (PL d p hs 6 ++ SK d a S))) rfl dX1_keep_48 ?_
    refine g_aload_n E 0 dX1_keep_49 rfl rfl ?_
    refine g_aload_n E 3 dX1_keep_50 rfl rfl ?_
    refine g_perm (ws' := (SK d b S0 ++ SK d a S) ++ (HB d e (nI o) (nI n) (va_up (qf p hs) i (some (b 0))) ++ PL d p hs 6)) pm_b ?_
    refine g_callVvD E gc_X3_becomeLike ml_X1_35 (t2_X3_becomeLike d b a S0 S) rfl rfl (ci := 3) 4 rfl rfl rfl rfl (ok_le rfl) ⟨ok_le rfl, ok_le rfl, ok_le rfl, ok_le rfl⟩ rfl rfl dX1_keep_51 ?_
    refine g_perm (ws' := HB d e (nI o) (nI n) (va_up (qf p hs) i (some (b 0))) ++ (PL d (pup p i b) (sup hs i (some S)) 6 ++ SK d a S)) (pm_c (PL_put d p hs hT b S 6 hi6)) ?_
    refine g_lvs (lv' := [(0, .ref (e 0)), (1, .ref (a 0)), (2, .int (nI i)), (3, .ref (b 0))]) [2, 3, 1, 0] rfl ?_
    refine s_X1_keep_54 d e a b (nI i) o n _ ho hn _ _ E (fun pc lv u h1 h2 => RET pc lv u h1 ⟨pup p i b, ?_⟩)
    rw [h2, k1, k2, qf_up p hs i b S, k3]
theorem t_X1_keep (d : gD) (e a : Nat → Nat) (p : Nat → Nat → Nat) (o n : Nat) (hs : Nat → Option SS) (S : SS) (ho : o < 6) (hn : n ≤ 6) : gMv d yX1_keep cX1_keep 4 R_X1_keep [.ref (e 0), .ref (a 0)] (HP d e p (o, n, hs) ++ SK d a S) (fun u => ∃ p', u = HP d e p' (keepY o n hs S) ++ SK d a S) := by
  refine g_met_v RX1 rfl (by decide +kernel) (Nat.le_of_ble_eq_true rfl) [(0, .ref (e 0)), (1, .ref (a 0))] rfl (fun X E _ RET => ?_)
  refine g_eq (ws' := HB d e (nI o) (nI n) (qf p hs) ++ (PL d p hs 6 ++ SK d a S)) (List.append_assoc _ _ _) ?_
  exact s_X1_keep d e a p o n hs S ho hn E (fun pc lv u h1 h2 => by
    obtain ⟨p', rfl⟩ := h2
    exact RET pc lv _ h1 ⟨p', (List.append_assoc _ _ _).symm⟩)
/-- what takeBack answers and leaves -/
def tbT (o n : Nat) (hs : Nat → Option SS) : Option SS := if n = 0 then none else hs ((o + (n - 1)) % 6)
def tbR (n : Nat) (z : Option SS) : Int32 := match z with | none => -5 | some _ => nI (n - 1)
def tbN (n : Nat) (z : Option SS) : Nat := match z with | none => n | some _ => n - 1
def tbS (S : SS) (z : Option SS) : SS := match z with | none => S | some T => T
abbrev R_X1_takeBack : Room := { frames := 3, cells := 0, slots := 0, locals := 63 }
set_option maxHeartbeats 2000000 in
set_option maxRecDepth 100000 in
theorem t_X1_takeBack (d : gD) (e a : Nat → Nat) (p : Nat → Nat → Nat) (o n : Nat) (hs : Nat → Option SS) (S : SS) (ho : o < 6) (hn : n ≤ 6) : gMi d yX1_takeBack cX1_takeBack 4 (some .int) R_X1_takeBack [.ref (e 0), .ref (a 0)] (HP d e p (o, n, hs) ++ SK d a S) (fun r u => r = tbR n (tbT o n hs) ∧ u = HP d e p (o, tbN n (tbT o n hs), hs) ++ SK d a (tbS S (tbT o n hs))) := by
  refine g_met_i RX1 rfl (by decide +kernel) (Nat.le_of_ble_eq_true rfl) [(0, .ref (e 0)), (1, .ref (a 0))] rfl (fun X E RET => ?_)
  refine g_eq (ws' := HB d e (nI o) (nI n) (qf p hs) ++ (PL d p hs 6 ++ SK d a S)) (List.append_assoc _ _ _) ?_
  refine g_aload_n E 0 dX1_takeBack_0 rfl rfl ?_
  refine g_aload_n E 0 dX1_takeBack_1 rfl rfl ?_
  refine g_get E (ci := 1) inlX1 0 rfl rfl 2 (by decide) fl_X1_27 rfl (.int (nI n)) rfl dX1_takeBack_2 ?_
  refine g_iconst E 1 dX1_takeBack_5 (by decide) ?_
  refine g_isub E dX1_takeBack_6 ?_
  refine g_callViD E gc_X1_placeOf ml_X1_30 (t_X1_placeOf d e (nI o) (nI n) (nI n - 1) (qf p hs)) rfl rfl (ci := 1) 0 rfl rfl rfl rfl (ok_le rfl) ⟨ok_le rfl, ok_le rfl, ok_le rfl, ok_le rfl⟩ rfl rfl dX1_takeBack_7 ?_
  refine g_nm (fun v hv => ?_)
  refine g_istore_n E (lv' := [(2, .int v), (0, .ref (e 0)), (1, .ref (a 0))]) dX1_takeBack_10 rfl (by decide) rfl ?_
  refine g_aload_n E 1 dX1_takeBack_11 rfl rfl ?_
  refine g_get E (ci := 1) inlX1 0 rfl rfl 2 (by decide) fl_X1_27 rfl (.int (nI n)) rfl dX1_takeBack_12 ?_
  have e0 : (nI n = 0) ↔ n = 0 := nI_eq (a := n) (b := 0) (by omega) (by omega)
  refine g_ifeq E 31 dX1_takeBack_15 (by decide) (fun c => ?_) (fun c => ?_)
  · have h0 := e0.mp c
    have ht : tbT o n hs = none := if_pos h0
    refine g_bipush E (-5) dX1_takeBack_31 (by decide) ?_
    refine RET 33 _ _ _ dX1_takeBack_33 rfl ?_
    rw [ht]
    exact ⟨rfl, (List.append_assoc _ _ _).symm⟩
  have h0 : ¬ n = 0 := mt e0.mpr c
  obtain ⟨i, hi⟩ : ∃ i, (o + (n - 1)) % 6 = i := ⟨_, rfl⟩
  have hi6 : i < 6 := by omega
  have hvi : v = nI i := by
    rw [← hv, nI_m1 (by omega), nI_add, fm_nI _ (by omega), hi]
  have ht : tbT o n hs = hs i := by
    unfold tbT
    rw [if_neg h0, hi]
  rw [ht] at RET
  subst hvi
  refine g_iload_n E 0 dX1_takeBack_18 rfl rfl ?_
  refine g_iflt E 31 dX1_takeBack_19 (by decide) (fun c => absurd c (nI_pos (by omega))) (fun _ => ?_)
  refine g_iload_n E 0 dX1_takeBack_22 rfl rfl ?_
  refine g_aload_n E 1 dX1_takeBack_23 rfl rfl ?_
  refine g_get E (ci := 1) inlX1 0 rfl rfl 0 (by decide) fl_X1_11 rfl (.ref (e 1)) rfl dX1_takeBack_24 ?_
  refine g_alen E 1 3 rfl rfl 6 rfl dX1_takeBack_27 ?_
  refine g_icmplt E 34 dX1_takeBack_28 (by decide) (fun _ => ?_) (fun c => absurd ((g_k6 (by omega)).mpr hi6) c)
  refine g_aload_n E 1 dX1_takeBack_34 rfl rfl ?_
  refine g_get E (ci := 1) inlX1 0 rfl rfl 0 (by decide) fl_X1_11 rfl (.ref (e 1)) rfl dX1_takeBack_35 ?_
  refine g_iload_n E 0 dX1_takeBack_38 rfl rfl ?_
  refine g_aald E 1 rfl rfl i rfl hi6 (by decide) dX1_takeBack_39 ?_
  cases hT : hs i with
  | none =>
    rw [hT] at RET
    refine g_st (st' := [.null]) (by unfold qf; rw [hT]; rfl) ?_
    refine g_astore_nN E (lv' := [(3, .null), (2, .int (nI i)), (0, .ref (e 0)), (1, .ref (a 0))]) dX1_takeBack_40 rfl (by decide) rfl ?_
    refine g_aload_nN E 0 dX1_takeBack_41 rfl rfl ?_
    refine g_ifnonnullN E dX1_takeBack_42 ?_
    refine g_bipush E (-5) dX1_takeBack_45 (by decide) ?_
    exact RET 47 _ _ _ dX1_takeBack_47 rfl ⟨rfl, (List.append_assoc _ _ _).symm⟩
  | some T =>
    rw [hT] at RET
    refine g_st (st' := [.ref (p i 0)]) (by unfold qf; rw [hT]; rfl) ?_
    refine g_astore_n E (lv' := [(3, .ref (p i 0)), (2, .int (nI i)), (0, .ref (e 0)), (1, .ref (a 0))]) dX1_takeBack_40 rfl (by decide) rfl ?_
    refine g_aload_n E 0 dX1_takeBack_41 rfl rfl ?_
    refine g_ifnonnull E 48 dX1_takeBack_42 (by decide) ?_
    refine g_aload_n E 3 dX1_takeBack_48 rfl rfl ?_
    refine g_aload_n E 0 dX1_takeBack_49 rfl rfl ?_
    refine g_perm (ws' := (SK d a S ++ SK d (p i) T) ++ (HB d e (nI o) (nI n) (qf p hs) ++ PL d p (sup hs i none) 6)) (pm_d (PL_take d p hs hT 6 hi6)) ?_
    refine g_callVvD E gc_X3_becomeLike ml_X1_35 (t2_X3_becomeLike d a (p i) S T) rfl rfl (ci := 3) 4 rfl rfl rfl rfl (ok_le rfl) ⟨ok_le rfl, ok_le rfl, ok_le rfl, ok_le rfl⟩ rfl rfl dX1_takeBack_50 ?_
    refine g_perm (ws' := HB d e (nI o) (nI n) (qf p hs) ++ (PL d p hs 6 ++ SK d a T)) (pm_d (PL_take d p hs hT 6 hi6)).symm ?_
    refine g_aload_n E 2 dX1_takeBack_53 rfl rfl ?_
    refine g_dup E dX1_takeBack_54 rfl ?_
    refine g_get E (ci := 1) inlX1 0 rfl rfl 2 (by decide) fl_X1_27 rfl (.int (nI n)) rfl dX1_takeBack_55 ?_
    refine g_iconst E 1 dX1_takeBack_58 (by decide) ?_
    refine g_isub E dX1_takeBack_59 ?_
    refine g_top (b := nI (n - 1)) (nI_m1 (by omega)) ?_
    refine g_put E (ci := 1) inlX1 0 rfl rfl 2 (by decide) tyX1 tyX1_ok nmX1 fl_X1_27 rfl rfl rfl rfl (ok_lt rfl) (ws' := HB d e (nI o) (nI (n - 1)) (qf p hs) ++ (PL d p hs 6 ++ SK d a T)) rfl dX1_takeBack_60 ?_
    refine g_aload_n E 2 dX1_takeBack_63 rfl rfl ?_
    refine g_get E (ci := 1) inlX1 0 rfl rfl 2 (by decide) fl_X1_27 rfl (.int (nI (n - 1))) rfl dX1_takeBack_64 ?_
    exact RET 67 _ _ _ dX1_takeBack_67 rfl ⟨rfl, (List.append_assoc _ _ _).symm⟩
