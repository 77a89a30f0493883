/-! the law's script, and the calls that read it -/
def gScr : gX → Nat → Nat → (Nat → Int32) → Prop := fun (_, _, _, _, s, _, _, _, _, _, A, _, _) b L xs => va_X b L xs s s.heap ∧ b < s.heap.size ∧ ¬ A b
def gPreX (d : gD) (b L : Nat) (xs : Nat → Int32) (sz : Nat) (U : State) : Prop := gPre d [] sz U ∧ va_X b L xs U U.heap ∧ b < sz
theorem gPreX_blind {d : gD} {av : List Value} {b L : Nat} {xs : Nat → Int32} {sz : Nat} : FrameBlind (va_Pc av (gPreX d b L xs sz)) := fun a U g mk q => by
  obtain ⟨h0, h1, h2, h3⟩ := q
  have h4 := gPre_blind (av := av) a U g mk ⟨h0, h1⟩
  exact ⟨h0, h4.2, va_X.moved (u := U) (U := U.calling g mk a) (Vm.Alike.refl U.vm) h2, h3⟩
theorem notA0 {sz b : Nat} (h : b < sz) : ¬ va_A [] sz b := fun q => by
  rcases q with ⟨k, e, h2⟩ | h2
  · rw [List.getElem?_nil] at h2
    cases h2
  · omega
section GSC
variable {d : gD} {x : gX} {own : String} {cc : ByteArray} {n : Nat} {rm : Room} {ws : va_W} {cells slots pc : Nat} {lv : List (Nat × Value)} {st : List Value}
theorem g_sld (E : gE d x own cc n rm) {b L : Nat} {xs : Nat → Int32} (SC : gScr x b L xs) {i : Int32} (j : Nat) (hi : i = nI j) (hj : j < L) (hL : L ≤ 2048) (hdg : decode cc pc = .ok (.iaload, 1)) (kk : G d x ws cells slots (pc + 1) lv (.int (xs j) :: st)) : G d x ws cells slots pc lv (.int i :: .ref b :: st) := by
  obtain ⟨p, l, e, R, s, m, args, below, meth, c, A, nL, Q⟩ := x
  obtain ⟨hx, hb, hml, hnL, hown, hts, hK, hZ, hA, hR, hlk⟩ := E
  obtain ⟨hX, hbl, hbA⟩ := SC
  subst hi
  intro H locs ls hP hD hS hl
  refine va_sld hx hb hX hbl hbA hS (nI_in hj (by omega)) hdg ?_
  rw [nI_clamp (by omega)]
  exact kk H locs ls hP hD hS hl
theorem g_slen (E : gE d x own cc n rm) {b L : Nat} {xs : Nat → Int32} (SC : gScr x b L xs) (hdg : decode cc pc = .ok (.arraylength, 1)) (kk : G d x ws cells slots (pc + 1) lv (.int (nI L) :: st)) : G d x ws cells slots pc lv (.ref b :: st) := by
  obtain ⟨p, l, e, R, s, m, args, below, meth, c, A, nL, Q⟩ := x
  obtain ⟨hx, hb, hml, hnL, hown, hts, hK, hZ, hA, hR, hlk⟩ := E
  obtain ⟨hX, hbl, hbA⟩ := SC
  intro H locs ls hP hD hS hl
  exact va_slen hx hb hX hbl hbA hS hdg (kk H locs ls hP hD hS hl)
variable {y : MethodName} {cb : ByteArray} {maxL : Nat} {ret : Option FieldType} {k index : Nat} {rmc : Room} {av As rest : List Value} {b L : Nat} {xs : Nat → Int32}
/-- a static call that reads the script: it answers F, and the world stands -/
theorem g_callSX (E : gE d x own cc n rm) (SC : gScr x b L xs) (hc : gCS y cb maxL ret k) (hl0 : Cond.methodLink own index y ∈ wsL_law) {F : Int32} (hM : ∀ (l : Launch) (sz : Nat), Met l y (uw y cb maxL ret) rmc (va_Pc av (gPreX d b L xs sz)) (gQi d [] (fun r u => r = F ∧ u = []) sz) rmc.cells rmc.slots (va_A [] sz)) (hav : av = As) (hn : As.length = k) (hst : st = As.reverse ++ rest) (hcat : (rest.map fun v => v.category).sum ≤ 8) (hf : gRm rm rmc maxL cells slots) {c2 n2 : Nat} (hz : cells + rmc.cells = c2) (hz2 : slots + rmc.slots = n2) (hdg : decode cc pc = .ok (.invokestatic index, 3)) (kk : G d x ws c2 n2 (pc + 3) lv (.int F :: rest)) : G d x ws cells slots pc lv st := by
  obtain ⟨p, l, e, R, s, m, args, below, meth, c, A, nL, Q⟩ := x
  obtain ⟨hx, hb, hml, hnL, hown, hts, hK, hZ, hA, hR, hlk⟩ := E
  obtain ⟨hX, hbl, hbA⟩ := SC
  intro H locs ls hP hD hS hl
  subst hst; subst hR; subst hav; subst hz; subst hz2
  exact g_aft_i (W0 := []) (wr := ws) (va_runS (As := av) (rest := rest) ⟨hx, hb, hml, hown, hts⟩ (hM l H.size) ⟨gCB.b hts hc.1 hl0 hf, hts _ hc.2⟩ ⟨gPreX_blind, fun U hU hW => ⟨rfl, g_pre (W := []) (wr := ws) hK hZ hP hD hS hA U hU hW, by rw [hU]; exact (hX.moved hW.alike).kept (hS.2.1 b hbl hbA), Nat.lt_of_lt_of_le hbl hS.1⟩⟩ rfl hn (hl.1.trans hnL) rfl (lv_room hcat) hdg ⟨hf.2.2.1, hf.2.2.2⟩) hP hD hS hA hl (fun r u h => by
    obtain ⟨rfl, rfl⟩ := h
    exact kk)
end GSC
theorem g_met_iX {d : gD} {y : MethodName} {cb : ByteArray} {maxL : Nat} {rt : FieldType} {rm : Room} {av : List Value} {b L : Nat} {xs : Nat → Int32} {post : Int32 → va_W → Prop} (own : String) (hown : y.cls = own) (hy : plainFor y = true) (hlen : (lg_sl av).length ≤ maxL) (lv0 : List (Nat × Value)) (hlv : lv_args 0 av = lv0)
    (body : ∀ x : gX, gE d x own cb maxL rm → gScr x b L xs → (∀ (pc : Nat) (lv : List (Nat × Value)) (v : Int32) (u : va_W), decode cb pc = .ok (.ireturn, 1) → narrow rt (.int v) = .int v → post v u → G d x u rm.cells rm.slots pc lv [.int v]) → G d x [] 0 0 0 lv0 []) : ∀ (l : Launch) (sz : Nat), Met l y (uw y cb maxL (some rt)) rm (va_Pc av (gPreX d b L xs sz)) (gQi d [] post sz) rm.cells rm.slots (va_A [] sz) := by
  intro l sz
  refine met_ofWF (cc := cb) (maxL := maxL) (ret := some rt) hy rfl ?_
  intro p e s m args below meth c s₁ B hml hv
  obtain ⟨rfl, ⟨hsz, hP, hK, hD0, hZ⟩, hX, hbl⟩ := hv
  have hx := B.exec
  have hb := B.bytes
  have hr := B.returns
  have hts := atoms_spec (ws := uw y cb maxL (some rt)) B.pre
  have hfc := findClass_of_methodNamed B.named
  rw [hown] at hfc
  have hlocks := B.notSynchronized
  subst hsz
  have hD := hD0.self (sz := s.heap.size)
  have hl := lv_entry av hlen
  rw [hlv] at hl
  rw [lg_entry_eq]
  refine body (p, l, e, rm, s, m, av.toArray, below, meth, c, va_A [] s.heap.size, maxL, MQ below (gQi d [] post s.heap.size) av.toArray s rm.cells rm.slots (va_A [] s.heap.size)) ⟨hx, hb, hml, rfl, hfc, fun w hw => hts w (List.mem_cons_of_mem _ hw), hK, hZ, fun q h => Or.inr h, rfl, hlocks⟩ ⟨hX, hbl, notA0 hbl⟩ ?_ s.heap [] _ hP hD va_S.rf hl
  intro pc lv v u hdg hn hp H locs ls hP hD hS hl
  exact W.zret hx hb hr hn (fun t ht hW => ⟨⟨v, u, rfl, hp, by rw [ht]; exact hP, hD⟩, hS.F ht⟩) hS.2.2 hdg
def cellV (L : Nat) (xs : Nat → Int32) (k : Nat) : Int32 := if nI k < nI L then xs k else 7919 * (nI k + 3) * (nI k + 11)
abbrev R_L_cell : Room := { frames := 1, cells := 0, slots := 0, locals := 0 }
set_option maxHeartbeats 1000000 in
theorem t_L_cell (d : gD) (b L : Nat) (xs : Nat → Int32) (hL : L ≤ 2048) (k : Nat) (hk : k < 2 ^ 20) : ∀ (l : Launch) (sz : Nat), Met l yL_cell (uw yL_cell cL_cell 2 (some .int)) R_L_cell (va_Pc [.ref b, .int (nI k)] (gPreX d b L xs sz)) (gQi d [] (fun r u => r = cellV L xs k ∧ u = []) sz) R_L_cell.cells R_L_cell.slots (va_A [] sz) := by
  refine g_met_iX RL rfl (by decide +kernel) (Nat.le_of_ble_eq_true rfl) [(0, .ref b), (1, .int (nI k))] rfl (fun X E SC RET => ?_)
  refine g_iload_n E 1 dL_cell_0 rfl rfl ?_
  refine g_aload_n E 0 dL_cell_1 rfl rfl ?_
  refine g_slen E SC dL_cell_2 ?_
  refine g_icmpge E 12 dL_cell_3 (by decide) (fun c_3 => ?_) (fun c_3 => ?_)
  · refine g_sipush E 7919 dL_cell_12 (by decide) ?_
    refine g_iload_n E 1 dL_cell_15 rfl rfl ?_
    refine g_iconst E 3 dL_cell_16 (by decide) ?_
    refine g_iadd E dL_cell_17 ?_
    refine g_imul E dL_cell_18 ?_
    refine g_iload_n E 1 dL_cell_19 rfl rfl ?_
    refine g_bipush E 11 dL_cell_20 (by decide) ?_
    refine g_iadd E dL_cell_22 ?_
    refine g_imul E dL_cell_23 ?_
    exact RET 24 _ _ _ dL_cell_24 rfl ⟨by unfold cellV; rw [if_neg c_3], rfl⟩
  · refine g_aload_n E 0 dL_cell_6 rfl rfl ?_
    refine g_iload_n E 1 dL_cell_7 rfl rfl ?_
    refine g_sld E SC k rfl ((nI_ltI (by omega) (by omega)).mp c_3) hL dL_cell_8 ?_
    refine g_goto E 24 dL_cell_9 (by decide) ?_
    exact RET 24 _ _ _ dL_cell_24 rfl ⟨by unfold cellV; rw [if_pos c_3], rfl⟩
