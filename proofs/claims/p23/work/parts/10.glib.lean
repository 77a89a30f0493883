/-! the walk's judgement: heap, array of locals and framing are quantified away; what is left is the world's cells, the pc, the listed locals, the stack -/
abbrev gD : Type := va_G × ClassId × ClassId × ClassId × ClassId
def gTys (d : gD) : List (ClassId × FieldType) := [(d.2.1, .int), (d.2.2.1, .char), (d.2.2.2.1, .char), (d.2.2.2.2, .object RX3)]
/-- the words of private members of nest mates -/
def gNest : List Cond := [.fieldLinkNest "StickRests$Stick" 9 "StickRests" "FIRST" "[I" "StickRests", .fieldLinkNest "StickRests$Stick" 168 "StickRests$Directions" "unlike" "I" "StickRests", .fieldLinkNest "StickRests" 89 "StickRests$Stick" "directions" "LStickRests$Directions;" "StickRests", .fieldLinkNest "StickRests" 180 "StickRests$Stick" "samples" "I" "StickRests", .fieldLinkNest "StickRests" 98 "StickRests$Pad" "length" "I" "StickRests", .fieldLinkNest "StickRests" 102 "StickRests$History" "size" "I" "StickRests", .methodLinkNest "StickRests$Stick" 99 ⟨"StickRests", "isSample", "(II)Z"⟩ "StickRests", .methodLinkNest "StickRests$Stick" 123 ⟨"StickRests", "packed", "(II)I"⟩ "StickRests", .methodLinkNest "StickRests$Stick" 129 ⟨"StickRests", "quotient", "(II)I"⟩ "StickRests"]
theorem gNest_kind : ∀ w ∈ gNest, (∃ (a : String) (i : Nat) (b n d h : String), w = .fieldLinkNest a i b n d h) ∨ (∃ (a : String) (i : Nat) (x : MethodName) (h : String), w = .methodLinkNest a i x h) := by
  intro w hw
  simp only [gNest, List.mem_cons, List.not_mem_nil, or_false] at hw
  rcases hw with rfl | rfl | rfl | rfl | rfl | rfl | rfl | rfl | rfl
  · exact Or.inl ⟨_, _, _, _, _, _, rfl⟩
  · exact Or.inl ⟨_, _, _, _, _, _, rfl⟩
  · exact Or.inl ⟨_, _, _, _, _, _, rfl⟩
  · exact Or.inl ⟨_, _, _, _, _, _, rfl⟩
  · exact Or.inl ⟨_, _, _, _, _, _, rfl⟩
  · exact Or.inl ⟨_, _, _, _, _, _, rfl⟩
  · exact Or.inr ⟨_, _, _, _, rfl⟩
  · exact Or.inr ⟨_, _, _, _, rfl⟩
  · exact Or.inr ⟨_, _, _, _, rfl⟩
/-- what the tables say of the launch's classes, beside the words -/
def gK (d : gD) (U : State) : Prop := va_K d.1 vwCl (gTys d) U ∧ va_AO RX3 U ∧ va_Nw (.castable "[I" "java/lang/Cloneable") U ∧ ∀ w ∈ gNest, va_Nw w U
theorem gK.warm {d : gD} {u U : State} (hW : u.WarmedH U.vm) (h : gK d u) : gK d U := by
  obtain ⟨h1, h2, h3, h4⟩ := h
  refine ⟨h1.moved hW.alike, h2.moved hW.alike, ?_, fun w hw => ?_⟩
  · exact va_tabs rfl (rfl : (u.setVm U.vm).vm = U.vm) (by rw [Cond.castable_setVm hW.alike]; exact h3)
  · rcases gNest_kind w hw with ⟨a, i, b, n, t, q, rfl⟩ | ⟨a, i, y, q, rfl⟩
    · exact va_Nw.warmF hW (h4 _ hw)
    · exact va_Nw.warmM hW (h4 _ hw)
theorem gK.calling {d : gD} {U : State} {g : JFrame} {mk : MethodId} {a : Array Value} (h : gK d U) : gK d (U.calling g mk a) := by
  obtain ⟨h1, h2, h3, h4⟩ := h
  refine ⟨va_K.moved (u := U) (U := U.calling g mk a) (Vm.Alike.refl U.vm) h1, va_AO.moved (u := U) (U := U.calling g mk a) (Vm.Alike.refl U.vm) h2, va_Nw.same rfl (u := U) rfl h3, fun w hw => ?_⟩
  rcases gNest_kind w hw with ⟨a, i, b, n, t, q, rfl⟩ | ⟨a, i, y, q, rfl⟩
  · exact va_Nw.same rfl (u := U) rfl (h4 _ hw)
  · exact va_Nw.same rfl (u := U) rfl (h4 _ hw)
/-- the three tables of the class: which is first, least, most -/
def tabF : Nat → Int32 := fun k => match k with | 0 => 8 | 1 => 6 | 2 => 8 | 3 => 100 | 4 => 150 | 5 => 12 | _ => 4
def tabL : Nat → Int32 := fun k => match k with | 0 => 1 | 1 => 1 | 2 => 0 | 3 => 60 | 4 => 100 | 5 => 2 | _ => 0
def tabM : Nat → Int32 := fun k => match k with | 0 => 64 | 1 => 30 | 2 => 20 | 3 => 127 | 4 => 200 | 5 => 60 | _ => 20
def gZ (n : String) (f : Nat → Int32) (A : Nat → Prop) (U : State) (H : Heap) : Prop := ∃ t : Nat, va_Z RX4 n "[I" (.ref t) A U H ∧ va_T .int t 7 (fun j => .int (f j)) A U H
/-- FIRST's own cell, for its clone -/
def gF (cI : ClassId) (A : Nat → Prop) (U : State) (H : Heap) : Prop := ∃ t : Nat, va_Z RX4 "FIRST" "[I" (.ref t) A U H ∧ ∃ cell : Cell, H[t]? = some cell ∧ cell.vm ≠ .unknown ∧ (∀ k, cell.vm ≠ .statics k) ∧ cell.cls = cI ∧ cell.slots = (vp_cell cI (7, .inl tabF)).slots ∧ U.vm.findClass "[I" = some cI ∧ ¬ A t
def gS (cI : ClassId) (A : Nat → Prop) (U : State) (H : Heap) : Prop := gF cI A U H ∧ gZ "LEAST" tabL A U H ∧ gZ "MOST" tabM A U H
theorem gZ.go {n : String} {f : Nat → Int32} {A B : Nat → Prop} {u U : State} {H H1 : Heap} (hvm : u.vm.Alike U.vm) (hAB : ∀ q, B q → A q) (hq : ∀ a : Nat, a < H.size → ¬ A a → H1[a]? = H[a]?) (h : gZ n f A u H) : gZ n f B U H1 := by
  obtain ⟨t, h1, h2⟩ := h
  exact ⟨t, ((h1.moved hvm).kept hq).narrow hAB, ((h2.moved hvm).kept hq).narrow hAB⟩
theorem gF.go {cI : ClassId} {A B : Nat → Prop} {u U : State} {H H1 : Heap} (hvm : u.vm.Alike U.vm) (hAB : ∀ q, B q → A q) (hq : ∀ a : Nat, a < H.size → ¬ A a → H1[a]? = H[a]?) (h : gF cI A u H) : gF cI B U H1 := by
  obtain ⟨t, h1, cell, h2, h3, h4, h5, h6, h7, h8⟩ := h
  exact ⟨t, ((h1.moved hvm).kept hq).narrow hAB, cell, by rw [hq t (Array.getElem?_eq_some_iff.mp h2).1 h8]; exact h2, h3, h4, h5, h6, by rw [hvm.findClass]; exact h7, fun z => h8 (hAB t z)⟩
theorem gS.go {cI : ClassId} {A B : Nat → Prop} {u U : State} {H H1 : Heap} (hvm : u.vm.Alike U.vm) (hAB : ∀ q, B q → A q) (hq : ∀ a : Nat, a < H.size → ¬ A a → H1[a]? = H[a]?) (h : gS cI A u H) : gS cI B U H1 := ⟨h.1.go hvm hAB hq, h.2.1.go hvm hAB hq, h.2.2.go hvm hAB hq⟩
/-- all that a walk stands in: program, launch, env, room, start, method, arguments, frames below, its record, its code, what it may write, the number of its locals, the end -/
abbrev gX : Type := Program × Launch × Env × Room × State × MethodId × Array Value × List Frame × Method × Code × (Nat → Prop) × Nat × (State → Prop)
def G (d : gD) : gX → va_W → Nat → Nat → Nat → List (Nat × Value) → List Value → Prop := fun (p, l, e, R, s, m, args, below, meth, c, A, nL, Q) ws cells slots pc lv st =>
  ∀ (H : Heap) (locs : List Loc) (ls : Array Slot), va_P d.1 vwCl ws H → va_D A ws → va_S A s.heap H locs → lv_has ls nL lv → W p l e R s m args below meth c H locs cells slots Q (F0 m pc ls st)
def gE (d : gD) : gX → String → ByteArray → Nat → Room → Prop := fun (p, _, _, R, s, m, args, _, meth, c, A, nL, _) own cc n rm =>
  p.tables.exec = Jvm.exec ∧ c.code = cc ∧ c.maxLocals = n ∧ nL = n ∧ s.vm.findClass own = some m.cls ∧ (∀ w ∈ wsL_law, w.before args s = true) ∧ gK d s ∧ gS d.2.1 A s s.heap ∧ (∀ q, s.heap.size ≤ q → A q) ∧ R = rm ∧ meth.locks = false
def gInit : gX → Prop := fun (_, _, _, _, _, _, _, _, meth, _, _, _, _) => meth.name = "<init>"
theorem arrV_congr {cI : ClassId} {N : Nat} {f g : Nat → Value} (h : ∀ j, j < N → f j = g j) : arrV cI N f = arrV cI N g := by
  unfold arrV
  congr 2
  funext j
  exact h j.val j.isLt
section GL
variable {d : gD} {x : gX} {own : String} {cc : ByteArray} {n : Nat} {rm : Room} {ws : va_W} {cells slots pc : Nat} {lv : List (Nat × Value)} {st : List Value}
theorem g_eq {ws' : va_W} (h : ws = ws') (k : G d x ws' cells slots pc lv st) : G d x ws cells slots pc lv st := h ▸ k
theorem g_st {st' : List Value} (h : st = st') (k : G d x ws cells slots pc lv st') : G d x ws cells slots pc lv st := h ▸ k
theorem g_top {a b : Int32} (h : a = b) (k : G d x ws cells slots pc lv (.int b :: st)) : G d x ws cells slots pc lv (.int a :: st) := h ▸ k
theorem g_topl {a b : Int64} (h : a = b) (k : G d x ws cells slots pc lv (.long b :: st)) : G d x ws cells slots pc lv (.long a :: st) := h ▸ k
theorem g_nm {a : Int32} (k : ∀ y : Int32, a = y → G d x ws cells slots pc lv (.int y :: st)) : G d x ws cells slots pc lv (.int a :: st) := k a rfl
theorem g_lv {lv' : List (Nat × Value)} (h : ∀ q ∈ lv', q ∈ lv) (k : G d x ws cells slots pc lv' st) : G d x ws cells slots pc lv st := by
  obtain ⟨p, l, e, R, s, m, args, below, meth, c, A, nL, Q⟩ := x
  intro H locs ls hP hD hS hl
  exact k H locs ls hP hD hS ⟨hl.1, hl.2.1, fun q hq => hl.2.2 q (h q hq)⟩
theorem g_lvs {lv' : List (Nat × Value)} (ks : List Nat) (h : lv_pick lv ks = lv') (k : G d x ws cells slots pc lv' st) : G d x ws cells slots pc lv st := by
  obtain ⟨p, l, e, R, s, m, args, below, meth, c, A, nL, Q⟩ := x
  intro H locs ls hP hD hS hl
  exact k H locs ls hP hD hS (lv_sub hl ks h)
theorem g_widen {k1 n1 : Nat} (h1 : cells ≤ k1) (h2 : slots ≤ n1) (k : G d x ws k1 n1 pc lv st) : G d x ws cells slots pc lv st := by
  obtain ⟨p, l, e, R, s, m, args, below, meth, c, A, nL, Q⟩ := x
  intro H locs ls hP hD hS hl
  exact W.widen h1 h2 (k H locs ls hP hD hS hl)
/-- the cells in another order, or fewer -/
theorem g_sub {ws' : va_W} (hm : ∀ q ∈ ws', q ∈ ws) (hn : (ws'.map (·.1)).Nodup) (k : G d x ws' cells slots pc lv st) : G d x ws cells slots pc lv st := by
  obtain ⟨p, l, e, R, s, m, args, below, meth, c, A, nL, Q⟩ := x
  intro H locs ls hP hD hS hl
  refine k H locs ls (fun i q hq => ?_) ⟨fun i j p q hi hj hpq => ?_, fun i q hq => ?_⟩ hS hl
  · obtain ⟨k, hk⟩ := List.getElem?_of_mem (hm q (List.mem_of_getElem? hq))
    exact hP k q hk
  · have h1 : (ws'.map (·.1))[i]? = some p.1 := by rw [List.getElem?_map, hi]; rfl
    have h2 : (ws'.map (·.1))[j]? = some q.1 := by rw [List.getElem?_map, hj]; rfl
    rw [hpq] at h1
    obtain ⟨l1, e1⟩ := List.getElem?_eq_some_iff.mp h1
    obtain ⟨l2, e2⟩ := List.getElem?_eq_some_iff.mp h2
    have hpw := List.pairwise_iff_getElem.mp hn
    rcases Nat.lt_trichotomy i j with h | h | h
    · exact absurd (e1.trans e2.symm) (hpw i j l1 l2 h)
    · exact h
    · exact absurd (e2.trans e1.symm) (hpw j i l2 l1 h)
  · obtain ⟨k, hk⟩ := List.getElem?_of_mem (hm q (List.mem_of_getElem? hq))
    exact hD.2 k q hk
theorem g_nodup {A : Nat → Prop} {ws : va_W} (hD : va_D A ws) : (ws.map (·.1)).Nodup := by
  refine List.pairwise_iff_getElem.mpr (fun i j hi hj hij h => ?_)
  have hj' : j < ws.length := by simpa using hj
  have hi' : i < ws.length := by simpa using hi
  rw [List.getElem_map, List.getElem_map] at h
  have := hD.1 i j ws[i] ws[j] (List.getElem?_eq_getElem hi') (List.getElem?_eq_getElem hj') h
  omega
theorem g_perm {ws' : va_W} (hp : ws.Perm ws') (k : G d x ws' cells slots pc lv st) : G d x ws cells slots pc lv st := by
  have k0 := k
  obtain ⟨p, l, e, R, s, m, args, below, meth, c, A, nL, Q⟩ := x
  intro H locs ls hP hD hS hl
  exact g_sub (x := (p, l, e, R, s, m, args, below, meth, c, A, nL, Q)) (fun q hq => hp.symm.subset hq) ((hp.map (·.1)).nodup_iff.mp (g_nodup hD)) k0 H locs ls hP hD hS hl
/-- an array's row may be said by any other that is the same within its length -/
theorem g_cell {a n' : Nat} {cA : ClassId} {f f' : Nat → Int32} (q0 : Nat) (he : ws[q0]? = some (a, .inl (cA, n', .inl f))) (hf : ∀ j, j < n' → f j = f' j) (k : G d x (ws.set q0 (a, .inl (cA, n', .inl f'))) cells slots pc lv st) : G d x ws cells slots pc lv st := by
  obtain ⟨p, l, e, R, s, m, args, below, meth, c, A, nL, Q⟩ := x
  intro H locs ls hP hD hS hl
  refine k H locs ls (hP.set hD he ?_ (fun _ _ => rfl)) (hD.set he) hS hl
  show H[a]? = some (vp_cell cA (n', .inl f'))
  rw [show vp_cell cA (n', .inl f') = vp_cell cA (n', .inl f) from ?_]
  · exact hP q0 _ he
  · rw [vp_cell_i, vp_cell_i]
    exact arrV_congr (fun j hj => by rw [hf j hj])
theorem g_cellq {a n' : Nat} {cA : ClassId} {f f' : Nat → Option Nat} (q0 : Nat) (he : ws[q0]? = some (a, .inl (cA, n', .inr (.inr (.inr (.inr f)))))) (hf : ∀ j, j < n' → f j = f' j) (k : G d x (ws.set q0 (a, .inl (cA, n', .inr (.inr (.inr (.inr f')))))) cells slots pc lv st) : G d x ws cells slots pc lv st := by
  obtain ⟨p, l, e, R, s, m, args, below, meth, c, A, nL, Q⟩ := x
  intro H locs ls hP hD hS hl
  refine k H locs ls (hP.set hD he ?_ (fun _ _ => rfl)) (hD.set he) hS hl
  show H[a]? = some (vp_cell cA (n', .inr (.inr (.inr (.inr f')))))
  rw [show vp_cell cA (n', .inr (.inr (.inr (.inr f')))) = vp_cell cA (n', .inr (.inr (.inr (.inr f)))) from ?_]
  · exact hP q0 _ he
  · rw [vp_cell_q, vp_cell_q]
    exact arrV_congr (fun j hj => by rw [hf j hj])
theorem g_iconst (E : gE d x own cc n rm) {k : Int} (v : Int32) (hdg : decode cc pc = .ok (.iconst k, 1)) (hv : Int32.ofInt k = v) (kk : G d x ws cells slots (pc + 1) lv (.int v :: st)) : G d x ws cells slots pc lv (st) := by
  obtain ⟨p, l, e, R, s, m, args, below, meth, c, A, nL, Q⟩ := x
  obtain ⟨hx, hb, hml, hnL, hown, hts, hK, hZ, hA, hR, hlk⟩ := E
  intro H locs ls hP hD hS hl
  exact lv_iconst hx hb hdg hv (kk H locs ls hP hD hS hl)
theorem g_bipush (E : gE d x own cc n rm) {k : Int} (v : Int32) (hdg : decode cc pc = .ok (.bipush k, 2)) (hv : (Int8.ofInt k).toInt32 = v) (kk : G d x ws cells slots (pc + 2) lv (.int v :: st)) : G d x ws cells slots pc lv (st) := by
  obtain ⟨p, l, e, R, s, m, args, below, meth, c, A, nL, Q⟩ := x
  obtain ⟨hx, hb, hml, hnL, hown, hts, hK, hZ, hA, hR, hlk⟩ := E
  intro H locs ls hP hD hS hl
  exact lv_bipush hx hb hdg hv (kk H locs ls hP hD hS hl)
theorem g_sipush (E : gE d x own cc n rm) {k : Int} (v : Int32) (hdg : decode cc pc = .ok (.sipush k, 3)) (hv : (Int16.ofInt k).toInt32 = v) (kk : G d x ws cells slots (pc + 3) lv (.int v :: st)) : G d x ws cells slots pc lv (st) := by
  obtain ⟨p, l, e, R, s, m, args, below, meth, c, A, nL, Q⟩ := x
  obtain ⟨hx, hb, hml, hnL, hown, hts, hK, hZ, hA, hR, hlk⟩ := E
  intro H locs ls hP hD hS hl
  exact lv_sipush hx hb hdg hv (kk H locs ls hP hD hS hl)
theorem g_lconst (E : gE d x own cc n rm) {k : Fin 2} (v : Int64) (hdg : decode cc pc = .ok (.lconst k, 1)) (hv : Int64.ofNat (k : Nat) = v) (kk : G d x ws cells slots (pc + 1) lv (.long v :: st)) : G d x ws cells slots pc lv (st) := by
  obtain ⟨p, l, e, R, s, m, args, below, meth, c, A, nL, Q⟩ := x
  obtain ⟨hx, hb, hml, hnL, hown, hts, hK, hZ, hA, hR, hlk⟩ := E
  intro H locs ls hP hD hS hl
  exact lv_lconst hx hb hdg hv (kk H locs ls hP hD hS hl)
theorem g_ldc (E : gE d x own cc n rm) {index : Nat} {v : Int32} (hc : Cond.constant own index v ∈ wsL_law) (hdg : decode cc pc = .ok (.ldc index, 2)) (kk : G d x ws cells slots (pc + 2) lv (.int v :: st)) : G d x ws cells slots pc lv (st) := by
  obtain ⟨p, l, e, R, s, m, args, below, meth, c, A, nL, Q⟩ := x
  obtain ⟨hx, hb, hml, hnL, hown, hts, hK, hZ, hA, hR, hlk⟩ := E
  intro H locs ls hP hD hS hl
  exact lv_ldc hx hb hown (hts _ hc) hdg (kk H locs ls hP hD hS hl)
theorem g_ldc2 (E : gE d x own cc n rm) {index : Nat} {v : Int64} (hc : Cond.constantLong own index v ∈ wsL_law) (hdg : decode cc pc = .ok (.ldc2_w index, 3)) (kk : G d x ws cells slots (pc + 3) lv (.long v :: st)) : G d x ws cells slots pc lv (st) := by
  obtain ⟨p, l, e, R, s, m, args, below, meth, c, A, nL, Q⟩ := x
  obtain ⟨hx, hb, hml, hnL, hown, hts, hK, hZ, hA, hR, hlk⟩ := E
  intro H locs ls hP hD hS hl
  exact lv_ldc2 hx hb hown (hts _ hc) hdg (kk H locs ls hP hD hS hl)
theorem g_iload_n (E : gE d x own cc n rm) {k : Fin 4} {i : Nat} {v : Int32} (j : Nat) (hdg : decode cc pc = .ok (.iload_n k, 1)) (hi : (k : Nat) = i) (hj : lv[j]? = some (i, .int v)) (kk : G d x ws cells slots (pc + 1) lv (.int v :: st)) : G d x ws cells slots pc lv (st) := by
  obtain ⟨p, l, e, R, s, m, args, below, meth, c, A, nL, Q⟩ := x
  obtain ⟨hx, hb, hml, hnL, hown, hts, hK, hZ, hA, hR, hlk⟩ := E
  intro H locs ls hP hD hS hl
  exact lv_iload_n hx hb hdg hi (lv_at hl j hj) (kk H locs ls hP hD hS hl)
theorem g_iload (E : gE d x own cc n rm) {i : Nat} {v : Int32} (j : Nat) (hdg : decode cc pc = .ok (.iload i, 2)) (hj : lv[j]? = some (i, .int v)) (kk : G d x ws cells slots (pc + 2) lv (.int v :: st)) : G d x ws cells slots pc lv (st) := by
  obtain ⟨p, l, e, R, s, m, args, below, meth, c, A, nL, Q⟩ := x
  obtain ⟨hx, hb, hml, hnL, hown, hts, hK, hZ, hA, hR, hlk⟩ := E
  intro H locs ls hP hD hS hl
  exact lv_iload hx hb hdg (lv_at hl j hj) (kk H locs ls hP hD hS hl)
theorem g_lload_n (E : gE d x own cc n rm) {k : Fin 4} {i : Nat} {v : Int64} (j : Nat) (hdg : decode cc pc = .ok (.lload_n k, 1)) (hi : (k : Nat) = i) (hj : lv[j]? = some (i, .long v)) (kk : G d x ws cells slots (pc + 1) lv (.long v :: st)) : G d x ws cells slots pc lv (st) := by
  obtain ⟨p, l, e, R, s, m, args, below, meth, c, A, nL, Q⟩ := x
  obtain ⟨hx, hb, hml, hnL, hown, hts, hK, hZ, hA, hR, hlk⟩ := E
  intro H locs ls hP hD hS hl
  exact lv_lload_n hx hb hdg hi (lv_at hl j hj) (kk H locs ls hP hD hS hl)
theorem g_lload (E : gE d x own cc n rm) {i : Nat} {v : Int64} (j : Nat) (hdg : decode cc pc = .ok (.lload i, 2)) (hj : lv[j]? = some (i, .long v)) (kk : G d x ws cells slots (pc + 2) lv (.long v :: st)) : G d x ws cells slots pc lv (st) := by
  obtain ⟨p, l, e, R, s, m, args, below, meth, c, A, nL, Q⟩ := x
  obtain ⟨hx, hb, hml, hnL, hown, hts, hK, hZ, hA, hR, hlk⟩ := E
  intro H locs ls hP hD hS hl
  exact lv_lload hx hb hdg (lv_at hl j hj) (kk H locs ls hP hD hS hl)
theorem g_aload_n (E : gE d x own cc n rm) {k : Fin 4} {i : Nat} {v : Nat} (j : Nat) (hdg : decode cc pc = .ok (.aload_n k, 1)) (hi : (k : Nat) = i) (hj : lv[j]? = some (i, .ref v)) (kk : G d x ws cells slots (pc + 1) lv (.ref v :: st)) : G d x ws cells slots pc lv (st) := by
  obtain ⟨p, l, e, R, s, m, args, below, meth, c, A, nL, Q⟩ := x
  obtain ⟨hx, hb, hml, hnL, hown, hts, hK, hZ, hA, hR, hlk⟩ := E
  intro H locs ls hP hD hS hl
  exact lv_aload_n hx hb hdg hi (lv_at hl j hj) (kk H locs ls hP hD hS hl)
theorem g_aload (E : gE d x own cc n rm) {i : Nat} {v : Nat} (j : Nat) (hdg : decode cc pc = .ok (.aload i, 2)) (hj : lv[j]? = some (i, .ref v)) (kk : G d x ws cells slots (pc + 2) lv (.ref v :: st)) : G d x ws cells slots pc lv (st) := by
  obtain ⟨p, l, e, R, s, m, args, below, meth, c, A, nL, Q⟩ := x
  obtain ⟨hx, hb, hml, hnL, hown, hts, hK, hZ, hA, hR, hlk⟩ := E
  intro H locs ls hP hD hS hl
  exact lv_aload hx hb hdg (lv_at hl j hj) (kk H locs ls hP hD hS hl)
theorem g_istore_n (E : gE d x own cc n rm) {k : Fin 4} {i : Nat} {v : Int32} {lv' : List (Nat × Value)} (hdg : decode cc pc = .ok (.istore_n k, 1)) (hi : (k : Nat) = i) (hn : i < n) (hf : (i, Value.int v) :: lv.filter (fun q => !(q.1 == i) && !(q.1 + 1 == i && q.2.category == 2)) = lv') (kk : G d x ws cells slots (pc + 1) lv' (st)) : G d x ws cells slots pc lv (.int v :: st) := by
  obtain ⟨p, l, e, R, s, m, args, below, meth, c, A, nL, Q⟩ := x
  obtain ⟨hx, hb, hml, hnL, hown, hts, hK, hZ, hA, hR, hlk⟩ := E
  intro H locs ls hP hD hS hl
  exact lv_istore_n hx hb hdg hi hl (by rw [hnL]; exact hn) hf (fun ls hl => (kk H locs ls hP hD hS hl))
theorem g_istore (E : gE d x own cc n rm) {i : Nat} {v : Int32} {lv' : List (Nat × Value)} (hdg : decode cc pc = .ok (.istore i, 2)) (hn : i < n) (hf : (i, Value.int v) :: lv.filter (fun q => !(q.1 == i) && !(q.1 + 1 == i && q.2.category == 2)) = lv') (kk : G d x ws cells slots (pc + 2) lv' (st)) : G d x ws cells slots pc lv (.int v :: st) := by
  obtain ⟨p, l, e, R, s, m, args, below, meth, c, A, nL, Q⟩ := x
  obtain ⟨hx, hb, hml, hnL, hown, hts, hK, hZ, hA, hR, hlk⟩ := E
  intro H locs ls hP hD hS hl
  exact lv_istore hx hb hdg hl (by rw [hnL]; exact hn) hf (fun ls hl => (kk H locs ls hP hD hS hl))
theorem g_lstore_n (E : gE d x own cc n rm) {k : Fin 4} {i : Nat} {v : Int64} {lv' : List (Nat × Value)} (hdg : decode cc pc = .ok (.lstore_n k, 1)) (hi : (k : Nat) = i) (hn : i + 1 < n) (hf : (i, Value.long v) :: lv.filter (fun q => !(q.1 == i) && (!(q.1 == i + 1) && !(q.1 + 1 == i && q.2.category == 2))) = lv') (kk : G d x ws cells slots (pc + 1) lv' (st)) : G d x ws cells slots pc lv (.long v :: st) := by
  obtain ⟨p, l, e, R, s, m, args, below, meth, c, A, nL, Q⟩ := x
  obtain ⟨hx, hb, hml, hnL, hown, hts, hK, hZ, hA, hR, hlk⟩ := E
  intro H locs ls hP hD hS hl
  exact lv_lstore_n hx hb hdg hi hl (by rw [hnL]; exact hn) hf (fun ls hl => (kk H locs ls hP hD hS hl))
theorem g_lstore (E : gE d x own cc n rm) {i : Nat} {v : Int64} {lv' : List (Nat × Value)} (hdg : decode cc pc = .ok (.lstore i, 2)) (hn : i + 1 < n) (hf : (i, Value.long v) :: lv.filter (fun q => !(q.1 == i) && (!(q.1 == i + 1) && !(q.1 + 1 == i && q.2.category == 2))) = lv') (kk : G d x ws cells slots (pc + 2) lv' (st)) : G d x ws cells slots pc lv (.long v :: st) := by
  obtain ⟨p, l, e, R, s, m, args, below, meth, c, A, nL, Q⟩ := x
  obtain ⟨hx, hb, hml, hnL, hown, hts, hK, hZ, hA, hR, hlk⟩ := E
  intro H locs ls hP hD hS hl
  exact lv_lstore hx hb hdg hl (by rw [hnL]; exact hn) hf (fun ls hl => (kk H locs ls hP hD hS hl))
theorem g_astore_n (E : gE d x own cc n rm) {k : Fin 4} {i : Nat} {v : Nat} {lv' : List (Nat × Value)} (hdg : decode cc pc = .ok (.astore_n k, 1)) (hi : (k : Nat) = i) (hn : i < n) (hf : (i, Value.ref v) :: lv.filter (fun q => !(q.1 == i) && !(q.1 + 1 == i && q.2.category == 2)) = lv') (kk : G d x ws cells slots (pc + 1) lv' (st)) : G d x ws cells slots pc lv (.ref v :: st) := by
  obtain ⟨p, l, e, R, s, m, args, below, meth, c, A, nL, Q⟩ := x
  obtain ⟨hx, hb, hml, hnL, hown, hts, hK, hZ, hA, hR, hlk⟩ := E
  intro H locs ls hP hD hS hl
  exact lv_astore_n hx hb hdg hi hl (by rw [hnL]; exact hn) hf (fun ls hl => (kk H locs ls hP hD hS hl))
theorem g_astore (E : gE d x own cc n rm) {i : Nat} {v : Nat} {lv' : List (Nat × Value)} (hdg : decode cc pc = .ok (.astore i, 2)) (hn : i < n) (hf : (i, Value.ref v) :: lv.filter (fun q => !(q.1 == i) && !(q.1 + 1 == i && q.2.category == 2)) = lv') (kk : G d x ws cells slots (pc + 2) lv' (st)) : G d x ws cells slots pc lv (.ref v :: st) := by
  obtain ⟨p, l, e, R, s, m, args, below, meth, c, A, nL, Q⟩ := x
  obtain ⟨hx, hb, hml, hnL, hown, hts, hK, hZ, hA, hR, hlk⟩ := E
  intro H locs ls hP hD hS hl
  exact lv_astore hx hb hdg hl (by rw [hnL]; exact hn) hf (fun ls hl => (kk H locs ls hP hD hS hl))
theorem g_iinc (E : gE d x own cc n rm) {i j : Nat} {k : Int} {a v : Int32} {lv' : List (Nat × Value)} (hdg : decode cc pc = .ok (.iinc i k, 3)) (hj : lv[j]? = some (i, .int a)) (hv : a + Int32.ofInt k = v) (hn : i < n) (hf : (i, Value.int v) :: lv.filter (fun q => !(q.1 == i) && !(q.1 + 1 == i && q.2.category == 2)) = lv') (kk : G d x ws cells slots (pc + 3) lv' (st)) : G d x ws cells slots pc lv (st) := by
  obtain ⟨p, l, e, R, s, m, args, below, meth, c, A, nL, Q⟩ := x
  obtain ⟨hx, hb, hml, hnL, hown, hts, hK, hZ, hA, hR, hlk⟩ := E
  intro H locs ls hP hD hS hl
  exact lv_iinc hx hb hdg hl hj hv (by rw [hnL]; exact hn) hf (fun ls hl => (kk H locs ls hP hD hS hl))
theorem g_iadd (E : gE d x own cc n rm) {a b : Int32} (hdg : decode cc pc = .ok (.iadd, 1))  (kk : G d x ws cells slots (pc + 1) lv (.int (a + b) :: st)) : G d x ws cells slots pc lv (.int b :: .int a :: st) := by
  obtain ⟨p, l, e, R, s, m, args, below, meth, c, A, nL, Q⟩ := x
  obtain ⟨hx, hb, hml, hnL, hown, hts, hK, hZ, hA, hR, hlk⟩ := E
  intro H locs ls hP hD hS hl
  exact lv_iadd hx hb hdg (kk H locs ls hP hD hS hl)
theorem g_isub (E : gE d x own cc n rm) {a b : Int32} (hdg : decode cc pc = .ok (.isub, 1))  (kk : G d x ws cells slots (pc + 1) lv (.int (a - b) :: st)) : G d x ws cells slots pc lv (.int b :: .int a :: st) := by
  obtain ⟨p, l, e, R, s, m, args, below, meth, c, A, nL, Q⟩ := x
  obtain ⟨hx, hb, hml, hnL, hown, hts, hK, hZ, hA, hR, hlk⟩ := E
  intro H locs ls hP hD hS hl
  exact lv_isub hx hb hdg (kk H locs ls hP hD hS hl)
theorem g_imul (E : gE d x own cc n rm) {a b : Int32} (hdg : decode cc pc = .ok (.imul, 1))  (kk : G d x ws cells slots (pc + 1) lv (.int (a * b) :: st)) : G d x ws cells slots pc lv (.int b :: .int a :: st) := by
  obtain ⟨p, l, e, R, s, m, args, below, meth, c, A, nL, Q⟩ := x
  obtain ⟨hx, hb, hml, hnL, hown, hts, hK, hZ, hA, hR, hlk⟩ := E
  intro H locs ls hP hD hS hl
  exact lv_imul hx hb hdg (kk H locs ls hP hD hS hl)
theorem g_idiv (E : gE d x own cc n rm) {a b : Int32} (hdg : decode cc pc = .ok (.idiv, 1)) (hne : ¬ b = 0) (kk : G d x ws cells slots (pc + 1) lv (.int (a / b) :: st)) : G d x ws cells slots pc lv (.int b :: .int a :: st) := by
  obtain ⟨p, l, e, R, s, m, args, below, meth, c, A, nL, Q⟩ := x
  obtain ⟨hx, hb, hml, hnL, hown, hts, hK, hZ, hA, hR, hlk⟩ := E
  intro H locs ls hP hD hS hl
  exact lv_idiv hx hb hdg hne (kk H locs ls hP hD hS hl)
theorem g_irem (E : gE d x own cc n rm) {a b : Int32} (hdg : decode cc pc = .ok (.irem, 1)) (hne : ¬ b = 0) (kk : G d x ws cells slots (pc + 1) lv (.int (a - a / b * b) :: st)) : G d x ws cells slots pc lv (.int b :: .int a :: st) := by
  obtain ⟨p, l, e, R, s, m, args, below, meth, c, A, nL, Q⟩ := x
  obtain ⟨hx, hb, hml, hnL, hown, hts, hK, hZ, hA, hR, hlk⟩ := E
  intro H locs ls hP hD hS hl
  exact lv_irem hx hb hdg hne (kk H locs ls hP hD hS hl)
theorem g_iand (E : gE d x own cc n rm) {a b : Int32} (hdg : decode cc pc = .ok (.iand, 1))  (kk : G d x ws cells slots (pc + 1) lv (.int (a &&& b) :: st)) : G d x ws cells slots pc lv (.int b :: .int a :: st) := by
  obtain ⟨p, l, e, R, s, m, args, below, meth, c, A, nL, Q⟩ := x
  obtain ⟨hx, hb, hml, hnL, hown, hts, hK, hZ, hA, hR, hlk⟩ := E
  intro H locs ls hP hD hS hl
  exact lv_iand hx hb hdg (kk H locs ls hP hD hS hl)
theorem g_ior (E : gE d x own cc n rm) {a b : Int32} (hdg : decode cc pc = .ok (.ior, 1))  (kk : G d x ws cells slots (pc + 1) lv (.int (a ||| b) :: st)) : G d x ws cells slots pc lv (.int b :: .int a :: st) := by
  obtain ⟨p, l, e, R, s, m, args, below, meth, c, A, nL, Q⟩ := x
  obtain ⟨hx, hb, hml, hnL, hown, hts, hK, hZ, hA, hR, hlk⟩ := E
  intro H locs ls hP hD hS hl
  exact lv_ior hx hb hdg (kk H locs ls hP hD hS hl)
theorem g_ixor (E : gE d x own cc n rm) {a b : Int32} (hdg : decode cc pc = .ok (.ixor, 1))  (kk : G d x ws cells slots (pc + 1) lv (.int (a ^^^ b) :: st)) : G d x ws cells slots pc lv (.int b :: .int a :: st) := by
  obtain ⟨p, l, e, R, s, m, args, below, meth, c, A, nL, Q⟩ := x
  obtain ⟨hx, hb, hml, hnL, hown, hts, hK, hZ, hA, hR, hlk⟩ := E
  intro H locs ls hP hD hS hl
  exact lv_ixor hx hb hdg (kk H locs ls hP hD hS hl)
theorem g_ishl (E : gE d x own cc n rm) {a b : Int32} (hdg : decode cc pc = .ok (.ishl, 1))  (kk : G d x ws cells slots (pc + 1) lv (.int (a <<< (b &&& 31)) :: st)) : G d x ws cells slots pc lv (.int b :: .int a :: st) := by
  obtain ⟨p, l, e, R, s, m, args, below, meth, c, A, nL, Q⟩ := x
  obtain ⟨hx, hb, hml, hnL, hown, hts, hK, hZ, hA, hR, hlk⟩ := E
  intro H locs ls hP hD hS hl
  exact lv_ishl hx hb hdg (kk H locs ls hP hD hS hl)
theorem g_ishr (E : gE d x own cc n rm) {a b : Int32} (hdg : decode cc pc = .ok (.ishr, 1))  (kk : G d x ws cells slots (pc + 1) lv (.int (a >>> (b &&& 31)) :: st)) : G d x ws cells slots pc lv (.int b :: .int a :: st) := by
  obtain ⟨p, l, e, R, s, m, args, below, meth, c, A, nL, Q⟩ := x
  obtain ⟨hx, hb, hml, hnL, hown, hts, hK, hZ, hA, hR, hlk⟩ := E
  intro H locs ls hP hD hS hl
  exact lv_ishr hx hb hdg (kk H locs ls hP hD hS hl)
theorem g_ineg (E : gE d x own cc n rm) {a : Int32} (hdg : decode cc pc = .ok (.ineg, 1)) (kk : G d x ws cells slots (pc + 1) lv (.int (-a) :: st)) : G d x ws cells slots pc lv (.int a :: st) := by
  obtain ⟨p, l, e, R, s, m, args, below, meth, c, A, nL, Q⟩ := x
  obtain ⟨hx, hb, hml, hnL, hown, hts, hK, hZ, hA, hR, hlk⟩ := E
  intro H locs ls hP hD hS hl
  exact lv_ineg hx hb hdg (kk H locs ls hP hD hS hl)
theorem g_i2l (E : gE d x own cc n rm) {a : Int32} (hdg : decode cc pc = .ok (.i2l, 1)) (kk : G d x ws cells slots (pc + 1) lv (.long a.toInt64 :: st)) : G d x ws cells slots pc lv (.int a :: st) := by
  obtain ⟨p, l, e, R, s, m, args, below, meth, c, A, nL, Q⟩ := x
  obtain ⟨hx, hb, hml, hnL, hown, hts, hK, hZ, hA, hR, hlk⟩ := E
  intro H locs ls hP hD hS hl
  exact lv_i2l hx hb hdg rfl (kk H locs ls hP hD hS hl)
theorem g_l2i (E : gE d x own cc n rm) {a : Int64} (hdg : decode cc pc = .ok (.l2i, 1)) (kk : G d x ws cells slots (pc + 1) lv (.int a.toInt32 :: st)) : G d x ws cells slots pc lv (.long a :: st) := by
  obtain ⟨p, l, e, R, s, m, args, below, meth, c, A, nL, Q⟩ := x
  obtain ⟨hx, hb, hml, hnL, hown, hts, hK, hZ, hA, hR, hlk⟩ := E
  intro H locs ls hP hD hS hl
  exact lv_l2i hx hb hdg rfl (kk H locs ls hP hD hS hl)
theorem g_i2c (E : gE d x own cc n rm) {a : Int32} (hdg : decode cc pc = .ok (.i2c, 1)) (kk : G d x ws cells slots (pc + 1) lv (.int (a.toUInt32 % 65536).toInt32 :: st)) : G d x ws cells slots pc lv (.int a :: st) := by
  obtain ⟨p, l, e, R, s, m, args, below, meth, c, A, nL, Q⟩ := x
  obtain ⟨hx, hb, hml, hnL, hown, hts, hK, hZ, hA, hR, hlk⟩ := E
  intro H locs ls hP hD hS hl
  exact lv_i2c hx hb hdg rfl (kk H locs ls hP hD hS hl)
theorem g_land (E : gE d x own cc n rm) {a b : Int64} (hdg : decode cc pc = .ok (.land, 1)) (kk : G d x ws cells slots (pc + 1) lv (.long (a &&& b) :: st)) : G d x ws cells slots pc lv (.long b :: .long a :: st) := by
  obtain ⟨p, l, e, R, s, m, args, below, meth, c, A, nL, Q⟩ := x
  obtain ⟨hx, hb, hml, hnL, hown, hts, hK, hZ, hA, hR, hlk⟩ := E
  intro H locs ls hP hD hS hl
  exact lv_land hx hb hdg (kk H locs ls hP hD hS hl)
theorem g_lor (E : gE d x own cc n rm) {a b : Int64} (hdg : decode cc pc = .ok (.lor, 1)) (kk : G d x ws cells slots (pc + 1) lv (.long (a ||| b) :: st)) : G d x ws cells slots pc lv (.long b :: .long a :: st) := by
  obtain ⟨p, l, e, R, s, m, args, below, meth, c, A, nL, Q⟩ := x
  obtain ⟨hx, hb, hml, hnL, hown, hts, hK, hZ, hA, hR, hlk⟩ := E
  intro H locs ls hP hD hS hl
  exact lv_lor hx hb hdg (kk H locs ls hP hD hS hl)
theorem g_lushr (E : gE d x own cc n rm) {a : Int64} {b : Int32} (hdg : decode cc pc = .ok (.lushr, 1)) (kk : G d x ws cells slots (pc + 1) lv (.long ((a.toUInt64 >>> (b.toInt64.toUInt64 &&& Int64.toUInt64 63)).toInt64) :: st)) : G d x ws cells slots pc lv (.int b :: .long a :: st) := by
  obtain ⟨p, l, e, R, s, m, args, below, meth, c, A, nL, Q⟩ := x
  obtain ⟨hx, hb, hml, hnL, hown, hts, hK, hZ, hA, hR, hlk⟩ := E
  intro H locs ls hP hD hS hl
  exact lv_lushr hx hb hdg rfl (kk H locs ls hP hD hS hl)
theorem g_lshl (E : gE d x own cc n rm) {a : Int64} {b : Int32} (hdg : decode cc pc = .ok (.lshl, 1)) (kk : G d x ws cells slots (pc + 1) lv (.long (a <<< (b.toInt64 &&& 63)) :: st)) : G d x ws cells slots pc lv (.int b :: .long a :: st) := by
  obtain ⟨p, l, e, R, s, m, args, below, meth, c, A, nL, Q⟩ := x
  obtain ⟨hx, hb, hml, hnL, hown, hts, hK, hZ, hA, hR, hlk⟩ := E
  intro H locs ls hP hD hS hl
  exact lv_lshl hx hb hdg rfl (kk H locs ls hP hD hS hl)
theorem g_lshr (E : gE d x own cc n rm) {a : Int64} {b : Int32} (hdg : decode cc pc = .ok (.lshr, 1)) (kk : G d x ws cells slots (pc + 1) lv (.long (a >>> (b.toInt64 &&& 63)) :: st)) : G d x ws cells slots pc lv (.int b :: .long a :: st) := by
  obtain ⟨p, l, e, R, s, m, args, below, meth, c, A, nL, Q⟩ := x
  obtain ⟨hx, hb, hml, hnL, hown, hts, hK, hZ, hA, hR, hlk⟩ := E
  intro H locs ls hP hD hS hl
  exact lv_lshr hx hb hdg rfl (kk H locs ls hP hD hS hl)
theorem g_lcmp (E : gE d x own cc n rm) {a b : Int64} (hdg : decode cc pc = .ok (.lcmp, 1)) (kk : G d x ws cells slots (pc + 1) lv (.int (lg_cmp a b) :: st)) : G d x ws cells slots pc lv (.long b :: .long a :: st) := by
  obtain ⟨p, l, e, R, s, m, args, below, meth, c, A, nL, Q⟩ := x
  obtain ⟨hx, hb, hml, hnL, hown, hts, hK, hZ, hA, hR, hlk⟩ := E
  intro H locs ls hP hD hS hl
  exact W.lcmp hx hb hdg (kk H locs ls hP hD hS hl)
theorem g_dup (E : gE d x own cc n rm) {v : Value} (hdg : decode cc pc = .ok (.dup, 1)) (hc : v.category = 1) (kk : G d x ws cells slots (pc + 1) lv (v :: v :: st)) : G d x ws cells slots pc lv (v :: st) := by
  obtain ⟨p, l, e, R, s, m, args, below, meth, c, A, nL, Q⟩ := x
  obtain ⟨hx, hb, hml, hnL, hown, hts, hK, hZ, hA, hR, hlk⟩ := E
  intro H locs ls hP hD hS hl
  exact lv_dup hx hb hdg hc (kk H locs ls hP hD hS hl)
theorem g_dup2 (E : gE d x own cc n rm) {v w : Value} (hdg : decode cc pc = .ok (.dup2, 1)) (hc : v.category = 1) (hc2 : w.category = 1) (kk : G d x ws cells slots (pc + 1) lv (v :: w :: v :: w :: st)) : G d x ws cells slots pc lv (v :: w :: st) := by
  obtain ⟨p, l, e, R, s, m, args, below, meth, c, A, nL, Q⟩ := x
  obtain ⟨hx, hb, hml, hnL, hown, hts, hK, hZ, hA, hR, hlk⟩ := E
  intro H locs ls hP hD hS hl
  exact lv_dup2_11 hx hb hdg hc hc2 (kk H locs ls hP hD hS hl)
theorem g_pop (E : gE d x own cc n rm) {v : Value} (hdg : decode cc pc = .ok (.pop, 1)) (hc : v.category = 1) (kk : G d x ws cells slots (pc + 1) lv (st)) : G d x ws cells slots pc lv (v :: st) := by
  obtain ⟨p, l, e, R, s, m, args, below, meth, c, A, nL, Q⟩ := x
  obtain ⟨hx, hb, hml, hnL, hown, hts, hK, hZ, hA, hR, hlk⟩ := E
  intro H locs ls hP hD hS hl
  exact lv_pop hx hb hdg hc (kk H locs ls hP hD hS hl)
theorem g_ifeq (E : gE d x own cc n rm) {a : Int32} {off : Int} (tgt : Nat) (hdg : decode cc pc = .ok (.ifCond .eq off, 3)) (ht : (pc : Int) + off = (tgt : Int)) (kt : a = 0 → G d x ws cells slots tgt lv (st)) (kf : ¬ a = 0 → G d x ws cells slots (pc + 3) lv (st)) : G d x ws cells slots pc lv (.int a :: st) := by
  obtain ⟨p, l, e, R, s, m, args, below, meth, c, A, nL, Q⟩ := x
  obtain ⟨hx, hb, hml, hnL, hown, hts, hK, hZ, hA, hR, hlk⟩ := E
  intro H locs ls hP hD hS hl
  exact lv_if_eq hx hb hdg ht (fun q => kt (q) H locs ls hP hD hS hl) (fun q => kf (q) H locs ls hP hD hS hl)
theorem g_ifne (E : gE d x own cc n rm) {a : Int32} {off : Int} (tgt : Nat) (hdg : decode cc pc = .ok (.ifCond .ne off, 3)) (ht : (pc : Int) + off = (tgt : Int)) (kt : ¬ a = 0 → G d x ws cells slots tgt lv (st)) (kf : a = 0 → G d x ws cells slots (pc + 3) lv (st)) : G d x ws cells slots pc lv (.int a :: st) := by
  obtain ⟨p, l, e, R, s, m, args, below, meth, c, A, nL, Q⟩ := x
  obtain ⟨hx, hb, hml, hnL, hown, hts, hK, hZ, hA, hR, hlk⟩ := E
  intro H locs ls hP hD hS hl
  exact lv_if_ne hx hb hdg ht (fun q => kt (q) H locs ls hP hD hS hl) (fun q => kf (q) H locs ls hP hD hS hl)
theorem g_iflt (E : gE d x own cc n rm) {a : Int32} {off : Int} (tgt : Nat) (hdg : decode cc pc = .ok (.ifCond .lt off, 3)) (ht : (pc : Int) + off = (tgt : Int)) (kt : a < 0 → G d x ws cells slots tgt lv (st)) (kf : ¬ a < 0 → G d x ws cells slots (pc + 3) lv (st)) : G d x ws cells slots pc lv (.int a :: st) := by
  obtain ⟨p, l, e, R, s, m, args, below, meth, c, A, nL, Q⟩ := x
  obtain ⟨hx, hb, hml, hnL, hown, hts, hK, hZ, hA, hR, hlk⟩ := E
  intro H locs ls hP hD hS hl
  exact lv_if_lt hx hb hdg ht (fun q => kt (q) H locs ls hP hD hS hl) (fun q => kf (q) H locs ls hP hD hS hl)
theorem g_ifge (E : gE d x own cc n rm) {a : Int32} {off : Int} (tgt : Nat) (hdg : decode cc pc = .ok (.ifCond .ge off, 3)) (ht : (pc : Int) + off = (tgt : Int)) (kt : ¬ a < 0 → G d x ws cells slots tgt lv (st)) (kf : a < 0 → G d x ws cells slots (pc + 3) lv (st)) : G d x ws cells slots pc lv (.int a :: st) := by
  obtain ⟨p, l, e, R, s, m, args, below, meth, c, A, nL, Q⟩ := x
  obtain ⟨hx, hb, hml, hnL, hown, hts, hK, hZ, hA, hR, hlk⟩ := E
  intro H locs ls hP hD hS hl
  exact lv_if_ge hx hb hdg ht (fun q => kt (Int32.not_lt.mpr q) H locs ls hP hD hS hl) (fun q => kf (Int32.not_le.mp q) H locs ls hP hD hS hl)
theorem g_ifgt (E : gE d x own cc n rm) {a : Int32} {off : Int} (tgt : Nat) (hdg : decode cc pc = .ok (.ifCond .gt off, 3)) (ht : (pc : Int) + off = (tgt : Int)) (kt : 0 < a → G d x ws cells slots tgt lv (st)) (kf : ¬ 0 < a → G d x ws cells slots (pc + 3) lv (st)) : G d x ws cells slots pc lv (.int a :: st) := by
  obtain ⟨p, l, e, R, s, m, args, below, meth, c, A, nL, Q⟩ := x
  obtain ⟨hx, hb, hml, hnL, hown, hts, hK, hZ, hA, hR, hlk⟩ := E
  intro H locs ls hP hD hS hl
  exact lv_if_gt hx hb hdg ht (fun q => kt (q) H locs ls hP hD hS hl) (fun q => kf (q) H locs ls hP hD hS hl)
theorem g_ifle (E : gE d x own cc n rm) {a : Int32} {off : Int} (tgt : Nat) (hdg : decode cc pc = .ok (.ifCond .le off, 3)) (ht : (pc : Int) + off = (tgt : Int)) (kt : ¬ 0 < a → G d x ws cells slots tgt lv (st)) (kf : 0 < a → G d x ws cells slots (pc + 3) lv (st)) : G d x ws cells slots pc lv (.int a :: st) := by
  obtain ⟨p, l, e, R, s, m, args, below, meth, c, A, nL, Q⟩ := x
  obtain ⟨hx, hb, hml, hnL, hown, hts, hK, hZ, hA, hR, hlk⟩ := E
  intro H locs ls hP hD hS hl
  exact lv_if_le hx hb hdg ht (fun q => kt (Int32.not_lt.mpr q) H locs ls hP hD hS hl) (fun q => kf (Int32.not_le.mp q) H locs ls hP hD hS hl)
theorem g_icmpeq (E : gE d x own cc n rm) {a b : Int32} {off : Int} (tgt : Nat) (hdg : decode cc pc = .ok (.if_icmp .eq off, 3)) (ht : (pc : Int) + off = (tgt : Int)) (kt : a = b → G d x ws cells slots tgt lv (st)) (kf : ¬ a = b → G d x ws cells slots (pc + 3) lv (st)) : G d x ws cells slots pc lv (.int b :: .int a :: st) := by
  obtain ⟨p, l, e, R, s, m, args, below, meth, c, A, nL, Q⟩ := x
  obtain ⟨hx, hb, hml, hnL, hown, hts, hK, hZ, hA, hR, hlk⟩ := E
  intro H locs ls hP hD hS hl
  exact lv_icmp_eq hx hb hdg ht (fun q => kt (q) H locs ls hP hD hS hl) (fun q => kf (q) H locs ls hP hD hS hl)
theorem g_icmpne (E : gE d x own cc n rm) {a b : Int32} {off : Int} (tgt : Nat) (hdg : decode cc pc = .ok (.if_icmp .ne off, 3)) (ht : (pc : Int) + off = (tgt : Int)) (kt : ¬ a = b → G d x ws cells slots tgt lv (st)) (kf : a = b → G d x ws cells slots (pc + 3) lv (st)) : G d x ws cells slots pc lv (.int b :: .int a :: st) := by
  obtain ⟨p, l, e, R, s, m, args, below, meth, c, A, nL, Q⟩ := x
  obtain ⟨hx, hb, hml, hnL, hown, hts, hK, hZ, hA, hR, hlk⟩ := E
  intro H locs ls hP hD hS hl
  exact lv_icmp_ne hx hb hdg ht (fun q => kt (q) H locs ls hP hD hS hl) (fun q => kf (q) H locs ls hP hD hS hl)
theorem g_icmplt (E : gE d x own cc n rm) {a b : Int32} {off : Int} (tgt : Nat) (hdg : decode cc pc = .ok (.if_icmp .lt off, 3)) (ht : (pc : Int) + off = (tgt : Int)) (kt : a < b → G d x ws cells slots tgt lv (st)) (kf : ¬ a < b → G d x ws cells slots (pc + 3) lv (st)) : G d x ws cells slots pc lv (.int b :: .int a :: st) := by
  obtain ⟨p, l, e, R, s, m, args, below, meth, c, A, nL, Q⟩ := x
  obtain ⟨hx, hb, hml, hnL, hown, hts, hK, hZ, hA, hR, hlk⟩ := E
  intro H locs ls hP hD hS hl
  exact lv_icmp_lt hx hb hdg ht (fun q => kt (q) H locs ls hP hD hS hl) (fun q => kf (q) H locs ls hP hD hS hl)
theorem g_icmpge (E : gE d x own cc n rm) {a b : Int32} {off : Int} (tgt : Nat) (hdg : decode cc pc = .ok (.if_icmp .ge off, 3)) (ht : (pc : Int) + off = (tgt : Int)) (kt : ¬ a < b → G d x ws cells slots tgt lv (st)) (kf : a < b → G d x ws cells slots (pc + 3) lv (st)) : G d x ws cells slots pc lv (.int b :: .int a :: st) := by
  obtain ⟨p, l, e, R, s, m, args, below, meth, c, A, nL, Q⟩ := x
  obtain ⟨hx, hb, hml, hnL, hown, hts, hK, hZ, hA, hR, hlk⟩ := E
  intro H locs ls hP hD hS hl
  exact lv_icmp_ge hx hb hdg ht (fun q => kt (Int32.not_lt.mpr q) H locs ls hP hD hS hl) (fun q => kf (Int32.not_le.mp q) H locs ls hP hD hS hl)
theorem g_icmpgt (E : gE d x own cc n rm) {a b : Int32} {off : Int} (tgt : Nat) (hdg : decode cc pc = .ok (.if_icmp .gt off, 3)) (ht : (pc : Int) + off = (tgt : Int)) (kt : b < a → G d x ws cells slots tgt lv (st)) (kf : ¬ b < a → G d x ws cells slots (pc + 3) lv (st)) : G d x ws cells slots pc lv (.int b :: .int a :: st) := by
  obtain ⟨p, l, e, R, s, m, args, below, meth, c, A, nL, Q⟩ := x
  obtain ⟨hx, hb, hml, hnL, hown, hts, hK, hZ, hA, hR, hlk⟩ := E
  intro H locs ls hP hD hS hl
  exact lv_icmp_gt hx hb hdg ht (fun q => kt (q) H locs ls hP hD hS hl) (fun q => kf (q) H locs ls hP hD hS hl)
theorem g_icmple (E : gE d x own cc n rm) {a b : Int32} {off : Int} (tgt : Nat) (hdg : decode cc pc = .ok (.if_icmp .le off, 3)) (ht : (pc : Int) + off = (tgt : Int)) (kt : ¬ b < a → G d x ws cells slots tgt lv (st)) (kf : b < a → G d x ws cells slots (pc + 3) lv (st)) : G d x ws cells slots pc lv (.int b :: .int a :: st) := by
  obtain ⟨p, l, e, R, s, m, args, below, meth, c, A, nL, Q⟩ := x
  obtain ⟨hx, hb, hml, hnL, hown, hts, hK, hZ, hA, hR, hlk⟩ := E
  intro H locs ls hP hD hS hl
  exact lv_icmp_le hx hb hdg ht (fun q => kt (Int32.not_lt.mpr q) H locs ls hP hD hS hl) (fun q => kf (Int32.not_le.mp q) H locs ls hP hD hS hl)
theorem g_goto (E : gE d x own cc n rm) {off : Int} (tgt : Nat) (hdg : decode cc pc = .ok (.goto off, 3)) (ht : (pc : Int) + off = (tgt : Int)) (kk : G d x ws cells slots tgt lv (st)) : G d x ws cells slots pc lv (st) := by
  obtain ⟨p, l, e, R, s, m, args, below, meth, c, A, nL, Q⟩ := x
  obtain ⟨hx, hb, hml, hnL, hown, hts, hK, hZ, hA, hR, hlk⟩ := E
  intro H locs ls hP hD hS hl
  exact lv_goto hx hb hdg ht (kk H locs ls hP hD hS hl)
theorem g_ifnonnull (E : gE d x own cc n rm) {a : Nat} {off : Int} (tgt : Nat) (hdg : decode cc pc = .ok (.ifnonnull off, 3)) (ht : (pc : Int) + off = (tgt : Int)) (kk : G d x ws cells slots tgt lv (st)) : G d x ws cells slots pc lv (.ref a :: st) := by
  obtain ⟨p, l, e, R, s, m, args, below, meth, c, A, nL, Q⟩ := x
  obtain ⟨hx, hb, hml, hnL, hown, hts, hK, hZ, hA, hR, hlk⟩ := E
  intro H locs ls hP hD hS hl
  exact lv_ifnonnull hx hb hdg ht (kk H locs ls hP hD hS hl)
theorem g_ifnonnullN (E : gE d x own cc n rm) {off : Int} (hdg : decode cc pc = .ok (.ifnonnull off, 3)) (kk : G d x ws cells slots (pc + 3) lv (st)) : G d x ws cells slots pc lv (.null :: st) := by
  obtain ⟨p, l, e, R, s, m, args, below, meth, c, A, nL, Q⟩ := x
  obtain ⟨hx, hb, hml, hnL, hown, hts, hK, hZ, hA, hR, hlk⟩ := E
  intro H locs ls hP hD hS hl
  exact lv_ifnonnullN hx hb hdg (kk H locs ls hP hD hS hl)
theorem g_aload_nN (E : gE d x own cc n rm) {k : Fin 4} {i : Nat} (j : Nat) (hdg : decode cc pc = .ok (.aload_n k, 1)) (hi : (k : Nat) = i) (hj : lv[j]? = some (i, .null)) (kk : G d x ws cells slots (pc + 1) lv (.null :: st)) : G d x ws cells slots pc lv (st) := by
  obtain ⟨p, l, e, R, s, m, args, below, meth, c, A, nL, Q⟩ := x
  obtain ⟨hx, hb, hml, hnL, hown, hts, hK, hZ, hA, hR, hlk⟩ := E
  intro H locs ls hP hD hS hl
  exact lv_aload_nN hx hb hdg hi (lv_at hl j hj) (kk H locs ls hP hD hS hl)
theorem g_astore_nN (E : gE d x own cc n rm) {k : Fin 4} {i : Nat} {lv' : List (Nat × Value)} (hdg : decode cc pc = .ok (.astore_n k, 1)) (hi : (k : Nat) = i) (hn : i < n) (hf : (i, Value.null) :: lv.filter (fun q => !(q.1 == i) && !(q.1 + 1 == i && q.2.category == 2)) = lv') (kk : G d x ws cells slots (pc + 1) lv' (st)) : G d x ws cells slots pc lv (.null :: st) := by
  obtain ⟨p, l, e, R, s, m, args, below, meth, c, A, nL, Q⟩ := x
  obtain ⟨hx, hb, hml, hnL, hown, hts, hK, hZ, hA, hR, hlk⟩ := E
  intro H locs ls hP hD hS hl
  exact lv_astore_nN hx hb hdg hi hl (by rw [hnL]; exact hn) hf (fun ls hl => (kk H locs ls hP hD hS hl))
theorem g_lookup (E : gE d x own cc n rm) {dflt : Int} {ps : Array (Int × Int)} {len : Nat} {a : Int32} {off : Int} (tgt : Nat) (hdg : decode cc pc = .ok (.lookupswitch dflt ps, len)) (hp : (ps.toList.zip (ps.toList.drop 1)).all (fun (a, next) => a.1 < next.1) = true) (ho : Op.lookupswitch.offset ps.toList dflt a.toInt = off) (ht : (pc : Int) + off = (tgt : Int)) (kk : G d x ws cells slots tgt lv (st)) : G d x ws cells slots pc lv (.int a :: st) := by
  obtain ⟨p, l, e, R, s, m, args, below, meth, c, A, nL, Q⟩ := x
  obtain ⟨hx, hb, hml, hnL, hown, hts, hK, hZ, hA, hR, hlk⟩ := E
  intro H locs ls hP hD hS hl
  exact lv_lookup hx hb hdg hp ho ht (kk H locs ls hP hD hS hl)
theorem g_tableOut (E : gE d x own cc n rm) {dflt lo hi : Int} {offs : Array Int} {len : Nat} {a : Int32} (tgt : Nat) (hdg : decode cc pc = .ok (.tableswitch dflt lo hi offs, len)) (h : a.toInt < lo ∨ hi < a.toInt) (ht : (pc : Int) + dflt = (tgt : Int)) (kk : G d x ws cells slots tgt lv (st)) : G d x ws cells slots pc lv (.int a :: st) := by
  obtain ⟨p, l, e, R, s, m, args, below, meth, c, A, nL, Q⟩ := x
  obtain ⟨hx, hb, hml, hnL, hown, hts, hK, hZ, hA, hR, hlk⟩ := E
  intro H locs ls hP hD hS hl
  exact lv_tableOut hx hb hdg h ht (kk H locs ls hP hD hS hl)
theorem g_tableIn (E : gE d x own cc n rm) {dflt lo hi : Int} {offs : Array Int} {len : Nat} {a : Int32} {off : Int} (tgt : Nat) (hdg : decode cc pc = .ok (.tableswitch dflt lo hi offs, len)) (h1 : ¬ a.toInt < lo) (h2 : ¬ hi < a.toInt) (ho : offs[(a.toInt - lo).toNat]? = some off) (ht : (pc : Int) + off = (tgt : Int)) (kk : G d x ws cells slots tgt lv (st)) : G d x ws cells slots pc lv (.int a :: st) := by
  obtain ⟨p, l, e, R, s, m, args, below, meth, c, A, nL, Q⟩ := x
  obtain ⟨hx, hb, hml, hnL, hown, hts, hK, hZ, hA, hR, hlk⟩ := E
  intro H locs ls hP hD hS hl
  exact lv_tableIn hx hb hdg h1 h2 ho ht (kk H locs ls hP hD hS hl)
theorem g_get (E : gE d x own cc n rm) {ref C : String} {T : u_T} {N ci index a : Nat} {fs : List Value} (hin : ∀ w ∈ u_ws C T N, w ∈ wsL_law) (q0 : Nat) (he : ws[q0]? = some (a, .inr (ci, fs))) (hc : vwCl[ci]? = some (C, T, N)) (k : Nat) (hk : k < N) (hlink : Cond.fieldLink own index ref (T k).2.1 (T k).2.2.1 ∈ wsL_law) (href : (T k).1 = ref) (v : Value) (hv : fs[k]? = some v) (hdg : decode cc pc = .ok (.getfield index, 3)) (kk : G d x ws cells slots (pc + 3) lv (v :: st)) : G d x ws cells slots pc lv (.ref a :: st) := by
  obtain ⟨p, l, e, R, s, m, args, below, meth, c, A, nL, Q⟩ := x
  obtain ⟨hx, hb, hml, hnL, hown, hts, hK, hZ, hA, hR, hlk⟩ := E
  intro H locs ls hP hD hS hl
  exact va_get hx hb hts hin hown hK.1 hP q0 he hc k hk (hts _ hlink) (fun _ h9 => by rw [← href]; exact h9) hv hdg (kk H locs ls hP hD hS hl)
theorem g_getN (E : gE d x own cc n rm) {ref C : String} {T : u_T} {N ci index a : Nat} {fs : List Value} (hin : ∀ w ∈ u_ws C T N, w ∈ wsL_law) (q0 : Nat) (he : ws[q0]? = some (a, .inr (ci, fs))) (hc : vwCl[ci]? = some (C, T, N)) (k : Nat) (hk : k < N) {host : String} (hlink : Cond.fieldLinkNest own index ref (T k).2.1 (T k).2.2.1 host ∈ gNest) (href : (T k).1 = ref) (v : Value) (hv : fs[k]? = some v) (hdg : decode cc pc = .ok (.getfield index, 3)) (kk : G d x ws cells slots (pc + 3) lv (v :: st)) : G d x ws cells slots pc lv (.ref a :: st) := by
  obtain ⟨p, l, e, R, s, m, args, below, meth, c, A, nL, Q⟩ := x
  obtain ⟨hx, hb, hml, hnL, hown, hts, hK, hZ, hA, hR, hlk⟩ := E
  intro H locs ls hP hD hS hl
  exact va_getN hx hb hts hin hown hK.1 hP q0 he hc k hk (va_Nw.use rfl (hK.2.2.2 _ hlink)) (fun _ h9 => by rw [← href]; exact h9) hv hdg (kk H locs ls hP hD hS hl)
theorem g_put (E : gE d x own cc n rm) {ref C : String} {T : u_T} {N ci index a : Nat} {fs : List Value} (hin : ∀ w ∈ u_ws C T N, w ∈ wsL_law) (q0 : Nat) (he : ws[q0]? = some (a, .inr (ci, fs))) (hc : vwCl[ci]? = some (C, T, N)) (k : Nat) (hk : k < N) (ty0 : Nat → FieldType) (hty : ∀ k, k < N → parseFieldDescriptor (T k).2.2.1 = some (ty0 k)) (hnm : ∀ a, a < N → ∀ b, b < N → a ≠ b → (T a).2.1 ≠ (T b).2.1) (hlink : Cond.fieldLink own index ref (T k).2.1 (T k).2.2.1 ∈ wsL_law) (href : (T k).1 = ref) (hfin : (T k).2.2.2 = false) {v : Value} (hn : narrow (ty0 k) v = v) (hfit : fits (ty0 k) v = true) (hl0 : k < fs.length) {ws' : va_W} (hws : ws.set q0 (a, .inr (ci, fs.set k v)) = ws') (hdg : decode cc pc = .ok (.putfield index, 3)) (kk : G d x ws' cells slots (pc + 3) lv (st)) : G d x ws cells slots pc lv (v :: .ref a :: st) := by
  obtain ⟨p, l, e, R, s, m, args, below, meth, c, A, nL, Q⟩ := x
  obtain ⟨hx, hb, hml, hnL, hown, hts, hK, hZ, hA, hR, hlk⟩ := E
  intro H locs ls hP hD hS hl
  exact va_put hx hb hts hin ty0 hty hnm hown hK.1 hP hD hS q0 he hc k hk (hts _ hlink) (fun _ h9 => by rw [← href]; exact h9) hfin (hty k hk) hn hfit hl0 hdg (fun H locs hP hD hS => by rw [hws] at hP hD; exact kk H locs ls hP hD hS hl)
theorem g_putF (E : gE d x own cc n rm) {ref C : String} {T : u_T} {N ci index a : Nat} {fs : List Value} (hin : ∀ w ∈ u_ws C T N, w ∈ wsL_law) (q0 : Nat) (he : ws[q0]? = some (a, .inr (ci, fs))) (hc : vwCl[ci]? = some (C, T, N)) (k : Nat) (hk : k < N) (ty0 : Nat → FieldType) (hty : ∀ k, k < N → parseFieldDescriptor (T k).2.2.1 = some (ty0 k)) (hnm : ∀ a, a < N → ∀ b, b < N → a ≠ b → (T a).2.1 ≠ (T b).2.1) (hi : gInit x) (hlink : Cond.fieldLink own index ref (T k).2.1 (T k).2.2.1 ∈ wsL_law) (href : (T k).1 = ref) (hfin : (T k).2.2.2 = true) (hown2 : (T k).1 = own) {v : Value} (hn : narrow (ty0 k) v = v) (hfit : fits (ty0 k) v = true) (hl0 : k < fs.length) {ws' : va_W} (hws : ws.set q0 (a, .inr (ci, fs.set k v)) = ws') (hdg : decode cc pc = .ok (.putfield index, 3)) (kk : G d x ws' cells slots (pc + 3) lv (st)) : G d x ws cells slots pc lv (v :: .ref a :: st) := by
  obtain ⟨p, l, e, R, s, m, args, below, meth, c, A, nL, Q⟩ := x
  obtain ⟨hx, hb, hml, hnL, hown, hts, hK, hZ, hA, hR, hlk⟩ := E
  intro H locs ls hP hD hS hl
  exact va_putF hx hb hts hin ty0 hty hnm hown hK.1 hP hD hS q0 he hc k hk (hts _ hlink) (fun _ h9 => by rw [← href]; exact h9) hfin hi hown2 (hty k hk) hn hfit hl0 hdg (fun H locs hP hD hS => by rw [hws] at hP hD; exact kk H locs ls hP hD hS hl)
theorem g_iald (E : gE d x own cc n rm) {a N : Nat} {cA : ClassId} {f : Nat → Int32} (q0 : Nat) (ha : ws[q0]? = some (a, .inl (cA, N, .inl f))) (ht : (gTys d)[0]? = some (cA, .int)) {i : Int32} (j : Nat) (hi : i = nI j) (hj : j < N) (hN : N < 2 ^ 31) (hdg : decode cc pc = .ok (.iaload, 1)) (kk : G d x ws cells slots (pc + 1) lv (.int (f j) :: st)) : G d x ws cells slots pc lv (.int i :: .ref a :: st) := by
  obtain ⟨p, l, e, R, s, m, args, below, meth, c, A, nL, Q⟩ := x
  obtain ⟨hx, hb, hml, hnL, hown, hts, hK, hZ, hA, hR, hlk⟩ := E
  intro H locs ls hP hD hS hl
  subst hi
  refine va_iald hx hb hK.1 hP q0 0 ha ht (vp_in_nI hj hN) hdg ?_
  rw [nI_clamp (by omega)]
  exact kk H locs ls hP hD hS hl
theorem g_cald (E : gE d x own cc n rm) {a N : Nat} {cA : ClassId} {f : Nat → Int32} (q0 : Nat) (ha : ws[q0]? = some (a, .inl (cA, N, .inl f))) (ht : (gTys d)[1]? = some (cA, .char)) {i : Int32} (j : Nat) (hi : i = nI j) (hj : j < N) (hN : N < 2 ^ 31) (hdg : decode cc pc = .ok (.caload, 1)) (kk : G d x ws cells slots (pc + 1) lv (.int (f j) :: st)) : G d x ws cells slots pc lv (.int i :: .ref a :: st) := by
  obtain ⟨p, l, e, R, s, m, args, below, meth, c, A, nL, Q⟩ := x
  obtain ⟨hx, hb, hml, hnL, hown, hts, hK, hZ, hA, hR, hlk⟩ := E
  intro H locs ls hP hD hS hl
  subst hi
  refine va_cald hx hb hK.1 hP q0 1 ha ht (vp_in_nI hj hN) hdg ?_
  rw [nI_clamp (by omega)]
  exact kk H locs ls hP hD hS hl
theorem g_zald (E : gE d x own cc n rm) {a N : Nat} {cA : ClassId} {f : Nat → Int32} (q0 : Nat) (ha : ws[q0]? = some (a, .inl (cA, N, .inl f))) (ht : (gTys d)[2]? = some (cA, .boolean)) {i : Int32} (j : Nat) (hi : i = nI j) (hj : j < N) (hN : N < 2 ^ 31) (hdg : decode cc pc = .ok (.baload, 1)) (kk : G d x ws cells slots (pc + 1) lv (.int (f j) :: st)) : G d x ws cells slots pc lv (.int i :: .ref a :: st) := by
  obtain ⟨p, l, e, R, s, m, args, below, meth, c, A, nL, Q⟩ := x
  obtain ⟨hx, hb, hml, hnL, hown, hts, hK, hZ, hA, hR, hlk⟩ := E
  intro H locs ls hP hD hS hl
  subst hi
  refine va_zald hx hb hK.1 hP q0 2 ha ht (vp_in_nI hj hN) hdg ?_
  rw [nI_clamp (by omega)]
  exact kk H locs ls hP hD hS hl
theorem g_iast (E : gE d x own cc n rm) {a N : Nat} {cA : ClassId} {f : Nat → Int32} (q0 : Nat) (ha : ws[q0]? = some (a, .inl (cA, N, .inl f))) (ht : (gTys d)[0]? = some (cA, .int)) {i v : Int32} (j : Nat) (hi : i = nI j) (hj : j < N) (hN : N < 2 ^ 31) {ws' : va_W} (hws : ws.set q0 (a, .inl (cA, N, .inl (upd f j v))) = ws') (hdg : decode cc pc = .ok (.iastore, 1)) (kk : G d x ws' cells slots (pc + 1) lv (st)) : G d x ws cells slots pc lv (.int v :: .int i :: .ref a :: st) := by
  obtain ⟨p, l, e, R, s, m, args, below, meth, c, A, nL, Q⟩ := x
  obtain ⟨hx, hb, hml, hnL, hown, hts, hK, hZ, hA, hR, hlk⟩ := E
  intro H locs ls hP hD hS hl
  subst hi
  refine va_iast hx hb hK.1 hP hD hS q0 0 ha ht (vp_in_nI hj hN) hdg (fun H locs hP hD hS => ?_)
  rw [nI_clamp (by omega), hws] at hP hD
  exact kk H locs ls hP hD hS hl
theorem g_cast (E : gE d x own cc n rm) {a N : Nat} {cA : ClassId} {f : Nat → Int32} (q0 : Nat) (ha : ws[q0]? = some (a, .inl (cA, N, .inl f))) (ht : (gTys d)[1]? = some (cA, .char)) {i v : Int32} (j : Nat) (hi : i = nI j) (hj : j < N) (hN : N < 2 ^ 31) {ws' : va_W} (hws : ws.set q0 (a, .inl (cA, N, .inl (upd f j (vp_nar .char v)))) = ws') (hdg : decode cc pc = .ok (.castore, 1)) (kk : G d x ws' cells slots (pc + 1) lv (st)) : G d x ws cells slots pc lv (.int v :: .int i :: .ref a :: st) := by
  obtain ⟨p, l, e, R, s, m, args, below, meth, c, A, nL, Q⟩ := x
  obtain ⟨hx, hb, hml, hnL, hown, hts, hK, hZ, hA, hR, hlk⟩ := E
  intro H locs ls hP hD hS hl
  subst hi
  refine va_cast hx hb hK.1 hP hD hS q0 1 ha ht (vp_in_nI hj hN) hdg (fun H locs hP hD hS => ?_)
  rw [nI_clamp (by omega), hws] at hP hD
  exact kk H locs ls hP hD hS hl
theorem g_zast (E : gE d x own cc n rm) {a N : Nat} {cA : ClassId} {f : Nat → Int32} (q0 : Nat) (ha : ws[q0]? = some (a, .inl (cA, N, .inl f))) (ht : (gTys d)[2]? = some (cA, .boolean)) {i v : Int32} (j : Nat) (hi : i = nI j) (hj : j < N) (hN : N < 2 ^ 31) {ws' : va_W} (hws : ws.set q0 (a, .inl (cA, N, .inl (upd f j (vp_nar .boolean v)))) = ws') (hdg : decode cc pc = .ok (.bastore, 1)) (kk : G d x ws' cells slots (pc + 1) lv (st)) : G d x ws cells slots pc lv (.int v :: .int i :: .ref a :: st) := by
  obtain ⟨p, l, e, R, s, m, args, below, meth, c, A, nL, Q⟩ := x
  obtain ⟨hx, hb, hml, hnL, hown, hts, hK, hZ, hA, hR, hlk⟩ := E
  intro H locs ls hP hD hS hl
  subst hi
  refine va_zast hx hb hK.1 hP hD hS q0 2 ha ht (vp_in_nI hj hN) hdg (fun H locs hP hD hS => ?_)
  rw [nI_clamp (by omega), hws] at hP hD
  exact kk H locs ls hP hD hS hl
theorem g_aald (E : gE d x own cc n rm) {a N : Nat} {cA : ClassId} {f : Nat → Option Nat} (q0 : Nat) (ha : ws[q0]? = some (a, .inl (cA, N, .inr (.inr (.inr (.inr f)))))) (ht : (gTys d)[3]? = some (cA, .object RX3)) {i : Int32} (j : Nat) (hi : i = nI j) (hj : j < N) (hN : N < 2 ^ 31) (hdg : decode cc pc = .ok (.aaload, 1)) (kk : G d x ws cells slots (pc + 1) lv (va_rf (f j) :: st)) : G d x ws cells slots pc lv (.int i :: .ref a :: st) := by
  obtain ⟨p, l, e, R, s, m, args, below, meth, c, A, nL, Q⟩ := x
  obtain ⟨hx, hb, hml, hnL, hown, hts, hK, hZ, hA, hR, hlk⟩ := E
  intro H locs ls hP hD hS hl
  subst hi
  refine va_aldq hx hb hK.1 hP q0 3 ha ht (vp_in_nI hj hN) hdg ?_
  rw [nI_clamp (by omega)]
  exact kk H locs ls hP hD hS hl
theorem g_aast (E : gE d x own cc n rm) {a N b : Nat} {cA : ClassId} {f : Nat → Option Nat} {vs : List Value} (q0 qk : Nat) (ha : ws[q0]? = some (a, .inl (cA, N, .inr (.inr (.inr (.inr f)))))) (ht : (gTys d)[3]? = some (cA, .object RX3)) (hv : ws[qk]? = some (b, .inr (3, vs))) {i : Int32} (j : Nat) (hi : i = nI j) (hj : j < N) (hN : N < 2 ^ 31) {ws' : va_W} (hws : ws.set q0 (a, .inl (cA, N, .inr (.inr (.inr (.inr (va_up f j (some b))))))) = ws') (hdg : decode cc pc = .ok (.aastore, 1)) (kk : G d x ws' cells slots (pc + 1) lv (st)) : G d x ws cells slots pc lv (.ref b :: .int i :: .ref a :: st) := by
  obtain ⟨p, l, e, R, s, m, args, below, meth, c, A, nL, Q⟩ := x
  obtain ⟨hx, hb, hml, hnL, hown, hts, hK, hZ, hA, hR, hlk⟩ := E
  intro H locs ls hP hD hS hl
  subst hi
  refine va_astq hx hb hK.1 hP hD hS q0 3 qk 3 (r := (RX3, TX3, 17)) ha ht hv rfl (vp_in_nI hj hN) hdg (fun H locs hP hD hS => ?_)
  rw [nI_clamp (by omega), hws] at hP hD
  exact kk H locs ls hP hD hS hl
theorem g_alen (E : gE d x own cc n rm) {a : Nat} {cA : ClassId} {y : vp_A} (q0 t0 : Nat) (ha : ws[q0]? = some (a, .inl (cA, y))) {ty : FieldType} (ht : (gTys d)[t0]? = some (cA, ty)) (v : Int32) (hv : Int32.ofNat y.1 = v) (hdg : decode cc pc = .ok (.arraylength, 1)) (kk : G d x ws cells slots (pc + 1) lv (.int v :: st)) : G d x ws cells slots pc lv (.ref a :: st) := by
  obtain ⟨p, l, e, R, s, m, args, below, meth, c, A, nL, Q⟩ := x
  obtain ⟨hx, hb, hml, hnL, hown, hts, hK, hZ, hA, hR, hlk⟩ := E
  intro H locs ls hP hD hS hl
  exact va_alen hx hb hK.1 hP q0 t0 ha ht hv hdg (kk H locs ls hP hD hS hl)
theorem g_clsuniq {U : State} {d : gD} {t0 : Nat} {cA : ClassId} {ty : FieldType} (hK : va_K d.1 vwCl (gTys d) U) (ht : (gTys d)[t0]? = some (cA, ty)) {tys : List (ClassId × FieldType)} {cB : ClassId} (h : va_K d.1 vwCl (tys ++ [(cB, ty)]) U) : cB = cA := by
  have h1 := (hK.2 t0 _ ht).2
  have h2 := (h.2 tys.length (cB, ty) (by simp)).2
  cases ty with
  | object C =>
    obtain ⟨_, _, -, -, -, e1⟩ := h1
    obtain ⟨_, _, -, -, -, e2⟩ := h2
    exact Option.some.inj (e2.symm.trans e1)
  | _ => exact Option.some.inj ((show U.vm.findClass _ = some cB from h2).symm.trans (show U.vm.findClass _ = some cA from h1))
theorem g_new (E : gE d x own cc n rm) {C : String} {T : u_T} {N ci index : Nat} (hin : ∀ w ∈ u_ws C T N, w ∈ wsL_law) (ty : Nat → FieldType) (hty : ∀ k, k < N → parseFieldDescriptor (T k).2.2.1 = some (ty k)) (hcl : Cond.classLink own index C ∈ wsL_law) (hinst : Cond.instantiable C N ∈ wsL_law) (hini : Cond.initialized C ∈ wsL_law) (hc : vwCl[ci]? = some (C, T, N)) (fs : List Value) (hfs : ∀ j, j < N → defaultValue (ty j) = vp_V fs j) (h1 : cells + 1 ≤ rm.cells) (h2 : slots + N ≤ rm.slots) (hdg : decode cc pc = .ok (.new index, 3)) (kk : ∀ q : Nat, (∀ z ∈ ws, z.1 ≠ q) → G d x (ws ++ [(q, .inr (ci, fs))]) (cells + 1) (slots + N) (pc + 3) lv (.ref q :: st)) : G d x ws cells slots pc lv (st) := by
  obtain ⟨p, l, e, R, s, m, args, below, meth, c, A, nL, Q⟩ := x
  obtain ⟨hx, hb, hml, hnL, hown, hts, hK, hZ, hA, hR, hlk⟩ := E
  intro H locs ls hP hD hS hl
  subst hR
  exact va_new hx hb hts hin ty hty hown (hts _ hcl) (hts _ hinst) (hts _ hini) hK.1 hP hD hS hA hc hfs h1 h2 hdg (fun q H1 hP1 hD1 hS1 => kk q (fun z hz e => by
    obtain ⟨k, hk⟩ := List.getElem?_of_mem hz
    have hkl := (List.getElem?_eq_some_iff.mp hk).1
    have := hD1.1 k ws.length z (q, .inr (ci, fs)) (by rw [List.getElem?_append_left hkl]; exact hk) (by simp) e
    omega) H1 locs ls hP1 hD1 hS1 hl)
theorem g_newi (E : gE d x own cc n rm) {cA : ClassId} (harr : Cond.arrayClass (newarray.typeOf .int) ∈ wsL_law) (ht : (gTys d)[0]? = some (cA, .int)) {v : Int32} {N : Nat} (hv : v = nI N) (hN : N < 65536) (h1 : cells + 1 ≤ rm.cells) (h2 : slots + N ≤ rm.slots) (hdg : decode cc pc = .ok (.newarray .int, 2)) (kk : ∀ q : Nat, (∀ z ∈ ws, z.1 ≠ q) → G d x (ws ++ [(q, .inl (cA, N, .inl (fun _ => 0)))]) (cells + 1) (slots + N) (pc + 2) lv (.ref q :: st)) : G d x ws cells slots pc lv (.int v :: st) := by
  obtain ⟨p, l, e, R, s, m, args, below, meth, c, A, nL, Q⟩ := x
  obtain ⟨hx, hb, hml, hnL, hown, hts, hK, hZ, hA, hR, hlk⟩ := E
  intro H locs ls hP hD hS hl
  subst hR
  subst hv
  refine va_newa (atype := .int) (ty := .int) (N' := N) (a0 := (N, .inl (fun _ => 0))) hx hb (hts _ harr) rfl hK.1 hP hD hS hA (fun cA => by rw [vp_cell_i]; rfl) (nI_pos (by omega)) (nI_clamp (by omega)) (by simp only [componentBytes]; omega) h1 h2 hdg (fun q cB H1 hK1 hP1 hD1 hS1 => ?_)
  have e := g_clsuniq hK.1 ht hK1
  subst e
  exact kk q (fun z hz e => by
    obtain ⟨k, hk⟩ := List.getElem?_of_mem hz
    have hkl := (List.getElem?_eq_some_iff.mp hk).1
    have := hD1.1 k ws.length z (q, _) (by rw [List.getElem?_append_left hkl]; exact hk) (by simp; rfl) e
    omega) H1 locs ls hP1 hD1 hS1 hl
theorem g_newc (E : gE d x own cc n rm) {cA : ClassId} (harr : Cond.arrayClass (newarray.typeOf .char) ∈ wsL_law) (ht : (gTys d)[1]? = some (cA, .char)) {v : Int32} {N : Nat} (hv : v = nI N) (hN : N < 65536) (h1 : cells + 1 ≤ rm.cells) (h2 : slots + N ≤ rm.slots) (hdg : decode cc pc = .ok (.newarray .char, 2)) (kk : ∀ q : Nat, (∀ z ∈ ws, z.1 ≠ q) → G d x (ws ++ [(q, .inl (cA, N, .inl (fun _ => 0)))]) (cells + 1) (slots + N) (pc + 2) lv (.ref q :: st)) : G d x ws cells slots pc lv (.int v :: st) := by
  obtain ⟨p, l, e, R, s, m, args, below, meth, c, A, nL, Q⟩ := x
  obtain ⟨hx, hb, hml, hnL, hown, hts, hK, hZ, hA, hR, hlk⟩ := E
  intro H locs ls hP hD hS hl
  subst hR
  subst hv
  refine va_newa (atype := .char) (ty := .char) (N' := N) (a0 := (N, .inl (fun _ => 0))) hx hb (hts _ harr) rfl hK.1 hP hD hS hA (fun cA => by rw [vp_cell_i]; rfl) (nI_pos (by omega)) (nI_clamp (by omega)) (by simp only [componentBytes]; omega) h1 h2 hdg (fun q cB H1 hK1 hP1 hD1 hS1 => ?_)
  have e := g_clsuniq hK.1 ht hK1
  subst e
  exact kk q (fun z hz e => by
    obtain ⟨k, hk⟩ := List.getElem?_of_mem hz
    have hkl := (List.getElem?_eq_some_iff.mp hk).1
    have := hD1.1 k ws.length z (q, _) (by rw [List.getElem?_append_left hkl]; exact hk) (by simp; rfl) e
    omega) H1 locs ls hP1 hD1 hS1 hl
theorem g_newz (E : gE d x own cc n rm) {cA : ClassId} (harr : Cond.arrayClass (newarray.typeOf .boolean) ∈ wsL_law) (ht : (gTys d)[2]? = some (cA, .boolean)) {v : Int32} {N : Nat} (hv : v = nI N) (hN : N < 65536) (h1 : cells + 1 ≤ rm.cells) (h2 : slots + N ≤ rm.slots) (hdg : decode cc pc = .ok (.newarray .boolean, 2)) (kk : ∀ q : Nat, (∀ z ∈ ws, z.1 ≠ q) → G d x (ws ++ [(q, .inl (cA, N, .inl (fun _ => 0)))]) (cells + 1) (slots + N) (pc + 2) lv (.ref q :: st)) : G d x ws cells slots pc lv (.int v :: st) := by
  obtain ⟨p, l, e, R, s, m, args, below, meth, c, A, nL, Q⟩ := x
  obtain ⟨hx, hb, hml, hnL, hown, hts, hK, hZ, hA, hR, hlk⟩ := E
  intro H locs ls hP hD hS hl
  subst hR
  subst hv
  refine va_newa (atype := .boolean) (ty := .boolean) (N' := N) (a0 := (N, .inl (fun _ => 0))) hx hb (hts _ harr) rfl hK.1 hP hD hS hA (fun cA => by rw [vp_cell_i]; rfl) (nI_pos (by omega)) (nI_clamp (by omega)) (by simp only [componentBytes]; omega) h1 h2 hdg (fun q cB H1 hK1 hP1 hD1 hS1 => ?_)
  have e := g_clsuniq hK.1 ht hK1
  subst e
  exact kk q (fun z hz e => by
    obtain ⟨k, hk⟩ := List.getElem?_of_mem hz
    have hkl := (List.getElem?_eq_some_iff.mp hk).1
    have := hD1.1 k ws.length z (q, _) (by rw [List.getElem?_append_left hkl]; exact hk) (by simp; rfl) e
    omega) H1 locs ls hP1 hD1 hS1 hl
theorem g_newq (E : gE d x own cc n rm) {cA : ClassId} {index : Nat} (hcl : Cond.classLink own index RX3 ∈ wsL_law) (ht : (gTys d)[3]? = some (cA, .object RX3)) {v : Int32} {N : Nat} (hv : v = nI N) (hN : N < 65536) (h1 : cells + 1 ≤ rm.cells) (h2 : slots + N ≤ rm.slots) (hdg : decode cc pc = .ok (.anewarray index, 3)) (kk : ∀ q : Nat, (∀ z ∈ ws, z.1 ≠ q) → G d x (ws ++ [(q, .inl (cA, N, .inr (.inr (.inr (.inr (fun _ => none))))))]) (cells + 1) (slots + N) (pc + 3) lv (.ref q :: st)) : G d x ws cells slots pc lv (.int v :: st) := by
  obtain ⟨p, l, e, R, s, m, args, below, meth, c, A, nL, Q⟩ := x
  obtain ⟨hx, hb, hml, hnL, hown, hts, hK, hZ, hA, hR, hlk⟩ := E
  intro H locs ls hP hD hS hl
  subst hR
  subst hv
  refine va_newq (C := RX3) hx hb hown (hts _ hcl) hK.2.1 hK.1 hP hD hS hA (nI_pos (by omega)) (nI_clamp (by omega)) (by omega) h1 h2 hdg (fun q cB H1 hK1 hP1 hD1 hS1 => ?_)
  have e := g_clsuniq hK.1 ht hK1
  subst e
  exact kk q (fun z hz e => by
    obtain ⟨k, hk⟩ := List.getElem?_of_mem hz
    have hkl := (List.getElem?_eq_some_iff.mp hk).1
    have := hD1.1 k ws.length z (q, _) (by rw [List.getElem?_append_left hkl]; exact hk) (by simp; rfl) e
    omega) H1 locs ls hP1 hD1 hS1 hl
theorem g_max (E : gE d x own cc n rm) {a b : Int32} {index : Nat} (hlink : Cond.methodLink own index Lib.Math.max.name ∈ wsL_law) (h1 : 1 ≤ rm.frames) (h2 : (st.map fun v => v.category).sum + 13 ≤ rm.locals) (h3 : cells ≤ rm.cells) (h4 : slots ≤ rm.slots) (hdg : decode cc pc = .ok (.invokestatic index, 3)) (kk : G d x ws cells slots (pc + 3) lv (.int (if a < b then b else a) :: st)) : G d x ws cells slots pc lv (.int b :: .int a :: st) := by
  obtain ⟨p, l, e, R, s, m, args, below, meth, c, A, nL, Q⟩ := x
  obtain ⟨hx, hb, hml, hnL, hown, hts, hK, hZ, hA, hR, hlk⟩ := E
  intro H locs ls hP hD hS hl
  subst hR
  exact va_mmax hx hb (by rw [hml, hl.1, hnL]) hown (hts _ hlink) (hts _ um_max_st) (hts _ um_math) (hts _ um_max_code) h1 h2 h3 h4 hdg (kk H locs ls hP hD hS hl)
theorem g_min (E : gE d x own cc n rm) {a b : Int32} {index : Nat} (hlink : Cond.methodLink own index Lib.Math.min.name ∈ wsL_law) (h1 : 1 ≤ rm.frames) (h2 : (st.map fun v => v.category).sum + 13 ≤ rm.locals) (h3 : cells ≤ rm.cells) (h4 : slots ≤ rm.slots) (hdg : decode cc pc = .ok (.invokestatic index, 3)) (kk : G d x ws cells slots (pc + 3) lv (.int (if b < a then b else a) :: st)) : G d x ws cells slots pc lv (.int b :: .int a :: st) := by
  obtain ⟨p, l, e, R, s, m, args, below, meth, c, A, nL, Q⟩ := x
  obtain ⟨hx, hb, hml, hnL, hown, hts, hK, hZ, hA, hR, hlk⟩ := E
  intro H locs ls hP hD hS hl
  subst hR
  exact va_mmin hx hb (by rw [hml, hl.1, hnL]) hown (hts _ hlink) (hts _ um_min_st) (hts _ um_math) (hts _ um_min_code) h1 h2 h3 h4 hdg (kk H locs ls hP hD hS hl)
theorem g_abs (E : gE d x own cc n rm) {a : Int32} {index : Nat} (hlink : Cond.methodLink own index Lib.Math.abs.name ∈ wsL_law) (h1 : 1 ≤ rm.frames) (h2 : (st.map fun v => v.category).sum + 13 ≤ rm.locals) (h3 : cells ≤ rm.cells) (h4 : slots ≤ rm.slots) (hdg : decode cc pc = .ok (.invokestatic index, 3)) (kk : G d x ws cells slots (pc + 3) lv (.int (if 0 ≤ a then a else 0 - a) :: st)) : G d x ws cells slots pc lv (.int a :: st) := by
  obtain ⟨p, l, e, R, s, m, args, below, meth, c, A, nL, Q⟩ := x
  obtain ⟨hx, hb, hml, hnL, hown, hts, hK, hZ, hA, hR, hlk⟩ := E
  intro H locs ls hP hD hS hl
  subst hR
  exact va_mabs hx hb (by rw [hml, hl.1, hnL]) hown (hts _ hlink) (hts _ um_abs_st) (hts _ um_math) (hts _ um_abs_code) h1 h2 h3 h4 hdg (kk H locs ls hP hD hS hl)
theorem g_objInit (E : gE d x own cc n rm) {a index : Nat} (hlink : Cond.methodLink own index objectInit ∈ wsL_law) (h1 : 1 ≤ rm.frames) (h2 : (st.map fun v => v.category).sum + 12 ≤ rm.locals) (hdg : decode cc pc = .ok (.invokespecial index, 3)) (kk : G d x ws cells slots (pc + 3) lv (st)) : G d x ws cells slots pc lv (.ref a :: st) := by
  obtain ⟨p, l, e, R, s, m, args, below, meth, c, A, nL, Q⟩ := x
  obtain ⟨hx, hb, hml, hnL, hown, hts, hK, hZ, hA, hR, hlk⟩ := E
  intro H locs ls hP hD hS hl
  subst hR
  exact W.objInit hx hb hown (hts _ hlink) (hts _ um_obj_in) (hts _ um_obj_code) (g := F0 m pc ls (.ref a :: st)) rfl (by rw [hml, hl.1, hnL]) rfl hdg h1 (by show 2 * 0 + _ + 12 ≤ _; omega) (kk H locs ls hP hD hS hl)
end GL
