/-! calls and methods over the judgement G -/
def gPre (d : gD) (W : va_W) (sz : Nat) (U : State) : Prop := U.heap.size = sz ∧ va_P d.1 vwCl W U.heap ∧ gK d U ∧ va_D (fun _ => True) W ∧ gS d.2.1 (va_A W sz) U U.heap
theorem gPre_blind {d : gD} {av : List Value} {W : va_W} {sz : Nat} : FrameBlind (va_Pc av (gPre d W sz)) := fun a U g mk q => by
  obtain ⟨h0, h1, h2, h3, h4, h5⟩ := q
  exact ⟨h0, h1, h2, h3.calling, h4, h5.go (U := U.calling g mk a) (Vm.Alike.refl U.vm) (fun _ h => h) (fun _ _ _ => rfl)⟩
def gQi (d : gD) (W : va_W) (post : Int32 → va_W → Prop) (sz : Nat) : Array Value → State → Outcome → State → Prop := va_Qi (S := va_W) post (fun u t => va_P d.1 vwCl u t.heap ∧ va_D (va_A W sz) u) (va_A W sz)
def gQv (d : gD) (W : va_W) (post : va_W → Prop) (sz : Nat) : Array Value → State → Outcome → State → Prop := va_Qv (S := va_W) post (fun u t => va_P d.1 vwCl u t.heap ∧ va_D (va_A W sz) u) (va_A W sz)
/-- a method's contract: in the world W, with the arguments av, it answers r in the world u, and 'post r u' -/
def gMi (d : gD) (y : MethodName) (cb : ByteArray) (maxL : Nat) (ret : Option FieldType) (rm : Room) (av : List Value) (W : va_W) (post : Int32 → va_W → Prop) : Prop := ∀ (l : Launch) (sz : Nat), Met l y (uw y cb maxL ret) rm (va_Pc av (gPre d W sz)) (gQi d W post sz) rm.cells rm.slots (va_A W sz)
def gMv (d : gD) (y : MethodName) (cb : ByteArray) (maxL : Nat) (rm : Room) (av : List Value) (W : va_W) (post : va_W → Prop) : Prop := ∀ (l : Launch) (sz : Nat), Met l y (uw y cb maxL none) rm (va_Pc av (gPre d W sz)) (gQv d W post sz) rm.cells rm.slots (va_A W sz)
theorem gMi.mono {d : gD} {y : MethodName} {cb : ByteArray} {maxL : Nat} {ret : Option FieldType} {rm : Room} {av : List Value} {W : va_W} {post post' : Int32 → va_W → Prop} (h : gMi d y cb maxL ret rm av W post) (e : post = post') : gMi d y cb maxL ret rm av W post' := e ▸ h
theorem g_app {W wr : va_W} {k : Nat} {q : Nat × va_E} (hk : W[k]? = some q) : (W ++ wr)[k]? = some q := by
  rw [List.getElem?_append_left (List.getElem?_eq_some_iff.mp hk).1]
  exact hk
theorem g_app2 {W wr : va_W} {k : Nat} {q : Nat × va_E} (hk : wr[k]? = some q) : (W ++ wr)[W.length + k]? = some q := by
  rw [List.getElem?_append_right (by omega), Nat.add_sub_cancel_left]
  exact hk
theorem g_free {d : gD} {A : Nat → Prop} {W wr : va_W} {H0 H : Heap} {locs : List Loc} (hD : va_D A (W ++ wr)) (hS : va_S A H0 H locs) (hA : ∀ q, H0.size ≤ q → A q) : ∀ q, va_A W H.size q → A q := by
  intro q h
  rcases h with ⟨k, e, h⟩ | h
  · exact hD.2 k (q, e) (g_app h)
  · exact hA q (Nat.le_trans hS.1 h)
theorem g_pre {d : gD} {A : Nat → Prop} {W wr : va_W} {s : State} {H : Heap} {locs : List Loc} (hK : gK d s) (hZ : gS d.2.1 A s s.heap) (hP : va_P d.1 vwCl (W ++ wr) H) (hD : va_D A (W ++ wr)) (hS : va_S A s.heap H locs) (hA : ∀ q, s.heap.size ≤ q → A q) (U : State) (hU : U.heap = H) (hW : s.WarmedH U.vm) : gPre d W H.size U := by
  have hPc : va_P d.1 vwCl W H := fun k q hk => hP k q (g_app hk)
  have hDc : va_D A W := ⟨fun i j p q hi hj hpq => hD.1 i j p q (g_app hi) (g_app hj) hpq, fun k q hk => hD.2 k q (g_app hk)⟩
  have hFc := g_free (d := d) hD hS hA
  refine ⟨by rw [hU], by rw [hU]; exact hPc, hK.warm hW, hDc.weaken (fun _ _ _ _ => trivial), ?_⟩
  rw [hU]
  exact hZ.go hW.alike hFc (fun a h1 h2 => hS.2.1 a h1 h2)
theorem g_back {d : gD} {A : Nat → Prop} {W wr u : va_W} {H H1 : Heap} (hP : va_P d.1 vwCl (W ++ wr) H) (hD : va_D A (W ++ wr)) (hk : ∀ q : Nat, q < H.size → ¬ va_A W H.size q → H1[q]? = H[q]?) (hF : ∀ q, va_A W H.size q → A q) (hP1 : va_P d.1 vwCl u H1) (hD1 : va_D (va_A W H.size) u) : va_P d.1 vwCl (u ++ wr) H1 ∧ va_D A (u ++ wr) := by
  have apart : ∀ (k : Nat) (q : Nat × va_E), wr[k]? = some q → q.1 < H.size ∧ ¬ va_A W H.size q.1 := by
    intro k q hq
    have hl := (hP _ q (g_app2 hq)).lt
    refine ⟨hl, fun h => ?_⟩
    rcases h with ⟨k2, e, h⟩ | h
    · have := hD.1 _ _ (q.1, e) q (g_app (wr := wr) h) (g_app2 (W := W) hq) rfl
      have := (List.getElem?_eq_some_iff.mp h).1
      omega
    · omega
  refine ⟨va_P.app hP1 (fun k q hq => ?_), va_D.app (hD1.weaken (fun k q _ h => hF q.1 h)) ⟨fun i j p q hi hj hpq => ?_, fun k q hq => hD.2 _ q (g_app2 hq)⟩ (fun i j x y hx hy hxy => ?_)⟩
  · obtain ⟨g1, g2⟩ := apart k q hq
    exact (hP _ q (g_app2 hq)).kept (hk q.1 g1 g2)
  · have := hD.1 _ _ p q (g_app2 (W := W) hi) (g_app2 (W := W) hj) hpq
    omega
  · exact (apart j y hy).2 (by rw [← hxy]; exact hD1.2 i x hx)
section GA
variable {d : gD} {p : Program} {l : Launch} {e : Env} {R : Room} {s : State} {m : MethodId} {args : Array Value} {below : List Frame} {meth : Method} {c : Code} {A : Nat → Prop} {nL : Nat} {Q : State → Prop} {H : Heap} {locs : List Loc} {cells slots mc ms pc : Nat} {ls : Array Slot} {st0 rest : List Value} {a : Array Value} {W0 wr : va_W} {lv : List (Nat × Value)}
theorem g_aft_i {post : Int32 → va_W → Prop} (hr : va_Run p l e R s m args below meth c H locs cells slots mc ms (F0 m pc ls st0) rest (gQi d W0 post H.size a) (va_A W0 H.size)) (hP : va_P d.1 vwCl (W0 ++ wr) H) (hD : va_D A (W0 ++ wr)) (hS : va_S A s.heap H locs) (hA : ∀ q, s.heap.size ≤ q → A q) (hl : lv_has ls nL lv)
    (kk : ∀ (r : Int32) (u : va_W), post r u → G d (p, l, e, R, s, m, args, below, meth, c, A, nL, Q) (u ++ wr) (cells + mc) (slots + ms) (pc + 3) lv (.int r :: rest)) : W p l e R s m args below meth c H locs cells slots Q (F0 m pc ls st0) := by
  have hFc := g_free (d := d) hD hS hA
  refine va_calli hr hS (fun q _ h => hFc q h) hFc (fun r u t H1 locs1 ht hvm hw hB hz1 hk1 hS1 => ?_)
  obtain ⟨hP1, hD1⟩ := hB
  rw [ht] at hP1
  obtain ⟨hP2, hD2⟩ := g_back hP hD hk1 hFc hP1 hD1
  exact kk r u hw H1 locs1 ls hP2 hD2 hS1 hl
theorem g_aft_v {post : va_W → Prop} (hr : va_Run p l e R s m args below meth c H locs cells slots mc ms (F0 m pc ls st0) rest (gQv d W0 post H.size a) (va_A W0 H.size)) (hP : va_P d.1 vwCl (W0 ++ wr) H) (hD : va_D A (W0 ++ wr)) (hS : va_S A s.heap H locs) (hA : ∀ q, s.heap.size ≤ q → A q) (hl : lv_has ls nL lv)
    (kk : ∀ (u : va_W), post u → G d (p, l, e, R, s, m, args, below, meth, c, A, nL, Q) (u ++ wr) (cells + mc) (slots + ms) (pc + 3) lv rest) : W p l e R s m args below meth c H locs cells slots Q (F0 m pc ls st0) := by
  have hFc := g_free (d := d) hD hS hA
  refine va_callv hr hS (fun q _ h => hFc q h) hFc (fun u t H1 locs1 ht hvm hw hB hz1 hk1 hS1 => ?_)
  obtain ⟨hP1, hD1⟩ := hB
  rw [ht] at hP1
  obtain ⟨hP2, hD2⟩ := g_back hP hD hk1 hFc hP1 hD1
  exact kk u hw H1 locs1 ls hP2 hD2 hS1 hl
end GA
/-- a call's words: of an instance method, a static one, a constructor; of a nest mate's private ones -/
def gCB (y : MethodName) (cb : ByteArray) (maxL : Nat) (ret : Option FieldType) (k : Nat) : Prop := Cond.code y cb maxL ret ∈ wsL_law ∧ Cond.initialized y.cls ∈ wsL_law ∧ (y.cls ≠ "java/lang/invoke/MethodHandle" ∧ y.cls ≠ "java/lang/invoke/VarHandle") ∧ (parseMethodDescriptor y.desc).map (fun d => d.parameters.length) = some k
def gCV (C : String) (y : MethodName) (cb : ByteArray) (maxL : Nat) (ret : Option FieldType) (k : Nat) : Prop := gCB y cb maxL ret k ∧ Cond.instanceMethod y ∈ wsL_law ∧ Cond.selects C y y ∈ wsL_law
def gCS (y : MethodName) (cb : ByteArray) (maxL : Nat) (ret : Option FieldType) (k : Nat) : Prop := gCB y cb maxL ret k ∧ Cond.static y ∈ wsL_law
def gCI (y : MethodName) (cb : ByteArray) (maxL : Nat) (k : Nat) : Prop := gCB y cb maxL none k ∧ y.name = "<init>" ∧ Cond.instanceMethod y ∈ wsL_law
abbrev gRm (rm rmc : Room) (maxL cells slots : Nat) : Prop := rmc.frames + 1 ≤ rm.frames ∧ 8 + (maxL + 11) + rmc.locals ≤ rm.locals ∧ cells + rmc.cells ≤ rm.cells ∧ slots + rmc.slots ≤ rm.slots
theorem gCB.len {y : MethodName} {cb : ByteArray} {maxL : Nat} {ret : Option FieldType} {k : Nat} (h : gCB y cb maxL ret k) : ∀ sig, parseMethodDescriptor y.desc = some sig → k = sig.parameters.length := fun sig hs => by
  have h2 := h.2.2.2
  rw [hs] at h2
  exact (Option.some.inj h2).symm
theorem gCB.b {s : State} {args : Array Value} {own : String} {index : Nat} {y : MethodName} {cb : ByteArray} {maxL : Nat} {ret : Option FieldType} {k : Nat} {rm rmc : Room} {cells slots : Nat} (hts : ∀ w ∈ wsL_law, w.before args s = true) (h : gCB y cb maxL ret k) (hl : Cond.methodLink own index y ∈ wsL_law) (hf : gRm rm rmc maxL cells slots) : CallB rm s args own index y cb maxL ret (uw y cb maxL ret) rmc rmc.cells rmc.slots k :=
  ⟨rfl, rfl, hf.1, hf.2.1, pay_in hts (uw_good h.1), List.mem_cons_self, hts _ h.1, hts _ h.2.1, h.2.2.1, h.len, hts _ hl⟩
theorem gCB.bn {s : State} {args : Array Value} {own : String} {index : Nat} {y : MethodName} {host : String} {cb : ByteArray} {maxL : Nat} {ret : Option FieldType} {k : Nat} {rm rmc : Room} {cells slots : Nat} (hts : ∀ w ∈ wsL_law, w.before args s = true) (h : gCB y cb maxL ret k) (hl : va_Nw (.methodLinkNest own index y host) s) (hf : gRm rm rmc maxL cells slots) : va_CN rm s args own index y host cb maxL ret (uw y cb maxL ret) rmc rmc.cells rmc.slots k :=
  ⟨⟨rfl, rfl, hf.1, hf.2.1, pay_in hts (uw_good h.1), List.mem_cons_self⟩, hts _ h.1, hts _ h.2.1, h.2.2.1, h.len, va_Nw.use rfl hl⟩
section GC
variable {d : gD} {x : gX} {own : String} {cc : ByteArray} {n : Nat} {rm : Room} {ws : va_W} {cells slots pc : Nat} {lv : List (Nat × Value)} {st : List Value}
variable {C : String} {y : MethodName} {cb : ByteArray} {maxL : Nat} {ret : Option FieldType} {k index : Nat} {rmc : Room} {av As rest : List Value} {W0 wr : va_W} {b : Nat}
theorem pk_cpy_in0 {f g : Nat → Int32} {N j : Nat} (h : j < N) : va_cpy f g 0 0 N j = f j := by
  simp [va_cpy, h]
theorem g_callVi (E : gE d x own cc n rm) (hc : gCV C y cb maxL ret k) (hl0 : Cond.methodLink own index y ∈ wsL_law) {post : Int32 → va_W → Prop} (hM : gMi d y cb maxL ret rmc av W0 post) (hav : av = .ref b :: As) (hws : ws = W0 ++ wr) {ci N : Nat} {T : u_T} {fs : List Value} (q0 : Nat) (he : W0[q0]? = some (b, .inr (ci, fs))) (hcl : vwCl[ci]? = some (C, T, N)) (hn : As.length = k) (hst : st = As.reverse ++ .ref b :: rest) (hcat : (rest.map fun v => v.category).sum ≤ 8) (hf : gRm rm rmc maxL cells slots) {c2 n2 : Nat} (hz : cells + rmc.cells = c2) (hz2 : slots + rmc.slots = n2) (hdg : decode cc pc = .ok (.invokevirtual index, 3)) (kk : ∀ (r : Int32) (u : va_W), post r u → G d x (u ++ wr) c2 n2 (pc + 3) lv (.int r :: rest)) : G d x ws cells slots pc lv st := by
  obtain ⟨p, l, e, R, s, m, args, below, meth, c, A, nL, Q⟩ := x
  obtain ⟨hx, hb, hml, hnL, hown, hts, hK, hZ, hA, hR, hlk⟩ := E
  intro H locs ls hP hD hS hl
  subst hws; subst hst; subst hR; subst hav; subst hz; subst hz2
  exact g_aft_i (va_runV (C := C) (As := As) (rest := rest) ⟨hx, hb, hml, hown, hts⟩ (hM l H.size) ⟨gCB.b hts hc.1 hl0 hf, hts _ hc.2.1, hts _ hc.2.2⟩ ⟨gPre_blind, va_recv hK.1 hP hcl (g_app he), fun U hU hW => ⟨rfl, g_pre hK hZ hP hD hS hA U hU hW⟩⟩ rfl hn (hl.1.trans hnL) rfl (lv_room hcat) hdg ⟨hf.2.2.1, hf.2.2.2⟩) hP hD hS hA hl kk
theorem g_callViD (E : gE d x own cc n rm) (hc : gCV C y cb maxL ret k) (hl0 : Cond.methodLink own index y ∈ wsL_law) {F : Int32} {W1 : va_W} (hM : gMi d y cb maxL ret rmc av W0 (fun r u => r = F ∧ u = W1)) (hav : av = .ref b :: As) (hws : ws = W0 ++ wr) {ci N : Nat} {T : u_T} {fs : List Value} (q0 : Nat) (he : W0[q0]? = some (b, .inr (ci, fs))) (hcl : vwCl[ci]? = some (C, T, N)) (hn : As.length = k) (hst : st = As.reverse ++ .ref b :: rest) (hcat : (rest.map fun v => v.category).sum ≤ 8) (hf : gRm rm rmc maxL cells slots) {c2 n2 : Nat} (hz : cells + rmc.cells = c2) (hz2 : slots + rmc.slots = n2) (hdg : decode cc pc = .ok (.invokevirtual index, 3)) (kk : G d x (W1 ++ wr) c2 n2 (pc + 3) lv (.int F :: rest)) : G d x ws cells slots pc lv st :=
  g_callVi E hc hl0 hM hav hws q0 he hcl hn hst hcat hf hz hz2 hdg (fun r u h => by obtain ⟨rfl, rfl⟩ := h; exact kk)
theorem g_callVi0 (E : gE d x own cc n rm) (hc : gCV C y cb maxL ret k) (hl0 : Cond.methodLink own index y ∈ wsL_law) {F : Int32} {W1 : va_W} (hM : gMi d y cb maxL ret rmc av W0 (fun r u => r = F ∧ u = W1)) (hav : av = .ref b :: As) (hws : ws = W0) {ci N : Nat} {T : u_T} {fs : List Value} (q0 : Nat) (he : W0[q0]? = some (b, .inr (ci, fs))) (hcl : vwCl[ci]? = some (C, T, N)) (hn : As.length = k) (hst : st = As.reverse ++ .ref b :: rest) (hcat : (rest.map fun v => v.category).sum ≤ 8) (hf : gRm rm rmc maxL cells slots) {c2 n2 : Nat} (hz : cells + rmc.cells = c2) (hz2 : slots + rmc.slots = n2) (hdg : decode cc pc = .ok (.invokevirtual index, 3)) (kk : G d x W1 c2 n2 (pc + 3) lv (.int F :: rest)) : G d x ws cells slots pc lv st :=
  g_callViD E hc hl0 hM hav (hws.trans (List.append_nil _).symm) q0 he hcl hn hst hcat hf hz hz2 hdg (by rw [List.append_nil]; exact kk)
theorem g_callVv (E : gE d x own cc n rm) (hc : gCV C y cb maxL none k) (hl0 : Cond.methodLink own index y ∈ wsL_law) {post : va_W → Prop} (hM : gMv d y cb maxL rmc av W0 post) (hav : av = .ref b :: As) (hws : ws = W0 ++ wr) {ci N : Nat} {T : u_T} {fs : List Value} (q0 : Nat) (he : W0[q0]? = some (b, .inr (ci, fs))) (hcl : vwCl[ci]? = some (C, T, N)) (hn : As.length = k) (hst : st = As.reverse ++ .ref b :: rest) (hcat : (rest.map fun v => v.category).sum ≤ 8) (hf : gRm rm rmc maxL cells slots) {c2 n2 : Nat} (hz : cells + rmc.cells = c2) (hz2 : slots + rmc.slots = n2) (hdg : decode cc pc = .ok (.invokevirtual index, 3)) (kk : ∀ (u : va_W), post u → G d x (u ++ wr) c2 n2 (pc + 3) lv rest) : G d x ws cells slots pc lv st := by
  obtain ⟨p, l, e, R, s, m, args, below, meth, c, A, nL, Q⟩ := x
  obtain ⟨hx, hb, hml, hnL, hown, hts, hK, hZ, hA, hR, hlk⟩ := E
  intro H locs ls hP hD hS hl
  subst hws; subst hst; subst hR; subst hav; subst hz; subst hz2
  exact g_aft_v (va_runV (C := C) (As := As) (rest := rest) ⟨hx, hb, hml, hown, hts⟩ (hM l H.size) ⟨gCB.b hts hc.1 hl0 hf, hts _ hc.2.1, hts _ hc.2.2⟩ ⟨gPre_blind, va_recv hK.1 hP hcl (g_app he), fun U hU hW => ⟨rfl, g_pre hK hZ hP hD hS hA U hU hW⟩⟩ rfl hn (hl.1.trans hnL) rfl (lv_room hcat) hdg ⟨hf.2.2.1, hf.2.2.2⟩) hP hD hS hA hl kk
theorem g_callVvD (E : gE d x own cc n rm) (hc : gCV C y cb maxL none k) (hl0 : Cond.methodLink own index y ∈ wsL_law) {W1 : va_W} (hM : gMv d y cb maxL rmc av W0 (fun u => u = W1)) (hav : av = .ref b :: As) (hws : ws = W0 ++ wr) {ci N : Nat} {T : u_T} {fs : List Value} (q0 : Nat) (he : W0[q0]? = some (b, .inr (ci, fs))) (hcl : vwCl[ci]? = some (C, T, N)) (hn : As.length = k) (hst : st = As.reverse ++ .ref b :: rest) (hcat : (rest.map fun v => v.category).sum ≤ 8) (hf : gRm rm rmc maxL cells slots) {c2 n2 : Nat} (hz : cells + rmc.cells = c2) (hz2 : slots + rmc.slots = n2) (hdg : decode cc pc = .ok (.invokevirtual index, 3)) (kk : G d x (W1 ++ wr) c2 n2 (pc + 3) lv (rest)) : G d x ws cells slots pc lv st :=
  g_callVv E hc hl0 hM hav hws q0 he hcl hn hst hcat hf hz hz2 hdg (fun u h => by subst h; exact kk)
theorem g_callVv0 (E : gE d x own cc n rm) (hc : gCV C y cb maxL none k) (hl0 : Cond.methodLink own index y ∈ wsL_law) {W1 : va_W} (hM : gMv d y cb maxL rmc av W0 (fun u => u = W1)) (hav : av = .ref b :: As) (hws : ws = W0) {ci N : Nat} {T : u_T} {fs : List Value} (q0 : Nat) (he : W0[q0]? = some (b, .inr (ci, fs))) (hcl : vwCl[ci]? = some (C, T, N)) (hn : As.length = k) (hst : st = As.reverse ++ .ref b :: rest) (hcat : (rest.map fun v => v.category).sum ≤ 8) (hf : gRm rm rmc maxL cells slots) {c2 n2 : Nat} (hz : cells + rmc.cells = c2) (hz2 : slots + rmc.slots = n2) (hdg : decode cc pc = .ok (.invokevirtual index, 3)) (kk : G d x W1 c2 n2 (pc + 3) lv (rest)) : G d x ws cells slots pc lv st :=
  g_callVvD E hc hl0 hM hav (hws.trans (List.append_nil _).symm) q0 he hcl hn hst hcat hf hz hz2 hdg (by rw [List.append_nil]; exact kk)
theorem g_callVNi (E : gE d x own cc n rm) {host : String} (hc : gCV C y cb maxL ret k) (hl0 : Cond.methodLinkNest own index y host ∈ gNest) {post : Int32 → va_W → Prop} (hM : gMi d y cb maxL ret rmc av W0 post) (hav : av = .ref b :: As) (hws : ws = W0 ++ wr) {ci N : Nat} {T : u_T} {fs : List Value} (q0 : Nat) (he : W0[q0]? = some (b, .inr (ci, fs))) (hcl : vwCl[ci]? = some (C, T, N)) (hn : As.length = k) (hst : st = As.reverse ++ .ref b :: rest) (hcat : (rest.map fun v => v.category).sum ≤ 8) (hf : gRm rm rmc maxL cells slots) {c2 n2 : Nat} (hz : cells + rmc.cells = c2) (hz2 : slots + rmc.slots = n2) (hdg : decode cc pc = .ok (.invokevirtual index, 3)) (kk : ∀ (r : Int32) (u : va_W), post r u → G d x (u ++ wr) c2 n2 (pc + 3) lv (.int r :: rest)) : G d x ws cells slots pc lv st := by
  obtain ⟨p, l, e, R, s, m, args, below, meth, c, A, nL, Q⟩ := x
  obtain ⟨hx, hb, hml, hnL, hown, hts, hK, hZ, hA, hR, hlk⟩ := E
  intro H locs ls hP hD hS hl
  subst hws; subst hst; subst hR; subst hav; subst hz; subst hz2
  exact g_aft_i (va_runVN (C := C) (As := As) (rest := rest) ⟨hx, hb, hml, hown, hts⟩ (hM l H.size) ⟨gCB.bn hts hc.1 (hK.2.2.2 _ hl0) hf, hts _ hc.2.1, hts _ hc.2.2⟩ ⟨gPre_blind, va_recv hK.1 hP hcl (g_app he), fun U hU hW => ⟨rfl, g_pre hK hZ hP hD hS hA U hU hW⟩⟩ rfl hn (hl.1.trans hnL) rfl (lv_room hcat) hdg ⟨hf.2.2.1, hf.2.2.2⟩) hP hD hS hA hl kk
theorem g_callVNiD (E : gE d x own cc n rm) {host : String} (hc : gCV C y cb maxL ret k) (hl0 : Cond.methodLinkNest own index y host ∈ gNest) {F : Int32} {W1 : va_W} (hM : gMi d y cb maxL ret rmc av W0 (fun r u => r = F ∧ u = W1)) (hav : av = .ref b :: As) (hws : ws = W0 ++ wr) {ci N : Nat} {T : u_T} {fs : List Value} (q0 : Nat) (he : W0[q0]? = some (b, .inr (ci, fs))) (hcl : vwCl[ci]? = some (C, T, N)) (hn : As.length = k) (hst : st = As.reverse ++ .ref b :: rest) (hcat : (rest.map fun v => v.category).sum ≤ 8) (hf : gRm rm rmc maxL cells slots) {c2 n2 : Nat} (hz : cells + rmc.cells = c2) (hz2 : slots + rmc.slots = n2) (hdg : decode cc pc = .ok (.invokevirtual index, 3)) (kk : G d x (W1 ++ wr) c2 n2 (pc + 3) lv (.int F :: rest)) : G d x ws cells slots pc lv st :=
  g_callVNi E hc hl0 hM hav hws q0 he hcl hn hst hcat hf hz hz2 hdg (fun r u h => by obtain ⟨rfl, rfl⟩ := h; exact kk)
theorem g_callVNi0 (E : gE d x own cc n rm) {host : String} (hc : gCV C y cb maxL ret k) (hl0 : Cond.methodLinkNest own index y host ∈ gNest) {F : Int32} {W1 : va_W} (hM : gMi d y cb maxL ret rmc av W0 (fun r u => r = F ∧ u = W1)) (hav : av = .ref b :: As) (hws : ws = W0) {ci N : Nat} {T : u_T} {fs : List Value} (q0 : Nat) (he : W0[q0]? = some (b, .inr (ci, fs))) (hcl : vwCl[ci]? = some (C, T, N)) (hn : As.length = k) (hst : st = As.reverse ++ .ref b :: rest) (hcat : (rest.map fun v => v.category).sum ≤ 8) (hf : gRm rm rmc maxL cells slots) {c2 n2 : Nat} (hz : cells + rmc.cells = c2) (hz2 : slots + rmc.slots = n2) (hdg : decode cc pc = .ok (.invokevirtual index, 3)) (kk : G d x W1 c2 n2 (pc + 3) lv (.int F :: rest)) : G d x ws cells slots pc lv st :=
  g_callVNiD E hc hl0 hM hav (hws.trans (List.append_nil _).symm) q0 he hcl hn hst hcat hf hz hz2 hdg (by rw [List.append_nil]; exact kk)
theorem g_callVNv (E : gE d x own cc n rm) {host : String} (hc : gCV C y cb maxL none k) (hl0 : Cond.methodLinkNest own index y host ∈ gNest) {post : va_W → Prop} (hM : gMv d y cb maxL rmc av W0 post) (hav : av = .ref b :: As) (hws : ws = W0 ++ wr) {ci N : Nat} {T : u_T} {fs : List Value} (q0 : Nat) (he : W0[q0]? = some (b, .inr (ci, fs))) (hcl : vwCl[ci]? = some (C, T, N)) (hn : As.length = k) (hst : st = As.reverse ++ .ref b :: rest) (hcat : (rest.map fun v => v.category).sum ≤ 8) (hf : gRm rm rmc maxL cells slots) {c2 n2 : Nat} (hz : cells + rmc.cells = c2) (hz2 : slots + rmc.slots = n2) (hdg : decode cc pc = .ok (.invokevirtual index, 3)) (kk : ∀ (u : va_W), post u → G d x (u ++ wr) c2 n2 (pc + 3) lv rest) : G d x ws cells slots pc lv st := by
  obtain ⟨p, l, e, R, s, m, args, below, meth, c, A, nL, Q⟩ := x
  obtain ⟨hx, hb, hml, hnL, hown, hts, hK, hZ, hA, hR, hlk⟩ := E
  intro H locs ls hP hD hS hl
  subst hws; subst hst; subst hR; subst hav; subst hz; subst hz2
  exact g_aft_v (va_runVN (C := C) (As := As) (rest := rest) ⟨hx, hb, hml, hown, hts⟩ (hM l H.size) ⟨gCB.bn hts hc.1 (hK.2.2.2 _ hl0) hf, hts _ hc.2.1, hts _ hc.2.2⟩ ⟨gPre_blind, va_recv hK.1 hP hcl (g_app he), fun U hU hW => ⟨rfl, g_pre hK hZ hP hD hS hA U hU hW⟩⟩ rfl hn (hl.1.trans hnL) rfl (lv_room hcat) hdg ⟨hf.2.2.1, hf.2.2.2⟩) hP hD hS hA hl kk
theorem g_callVNvD (E : gE d x own cc n rm) {host : String} (hc : gCV C y cb maxL none k) (hl0 : Cond.methodLinkNest own index y host ∈ gNest) {W1 : va_W} (hM : gMv d y cb maxL rmc av W0 (fun u => u = W1)) (hav : av = .ref b :: As) (hws : ws = W0 ++ wr) {ci N : Nat} {T : u_T} {fs : List Value} (q0 : Nat) (he : W0[q0]? = some (b, .inr (ci, fs))) (hcl : vwCl[ci]? = some (C, T, N)) (hn : As.length = k) (hst : st = As.reverse ++ .ref b :: rest) (hcat : (rest.map fun v => v.category).sum ≤ 8) (hf : gRm rm rmc maxL cells slots) {c2 n2 : Nat} (hz : cells + rmc.cells = c2) (hz2 : slots + rmc.slots = n2) (hdg : decode cc pc = .ok (.invokevirtual index, 3)) (kk : G d x (W1 ++ wr) c2 n2 (pc + 3) lv (rest)) : G d x ws cells slots pc lv st :=
  g_callVNv E hc hl0 hM hav hws q0 he hcl hn hst hcat hf hz hz2 hdg (fun u h => by subst h; exact kk)
theorem g_callVNv0 (E : gE d x own cc n rm) {host : String} (hc : gCV C y cb maxL none k) (hl0 : Cond.methodLinkNest own index y host ∈ gNest) {W1 : va_W} (hM : gMv d y cb maxL rmc av W0 (fun u => u = W1)) (hav : av = .ref b :: As) (hws : ws = W0) {ci N : Nat} {T : u_T} {fs : List Value} (q0 : Nat) (he : W0[q0]? = some (b, .inr (ci, fs))) (hcl : vwCl[ci]? = some (C, T, N)) (hn : As.length = k) (hst : st = As.reverse ++ .ref b :: rest) (hcat : (rest.map fun v => v.category).sum ≤ 8) (hf : gRm rm rmc maxL cells slots) {c2 n2 : Nat} (hz : cells + rmc.cells = c2) (hz2 : slots + rmc.slots = n2) (hdg : decode cc pc = .ok (.invokevirtual index, 3)) (kk : G d x W1 c2 n2 (pc + 3) lv (rest)) : G d x ws cells slots pc lv st :=
  g_callVNvD E hc hl0 hM hav (hws.trans (List.append_nil _).symm) q0 he hcl hn hst hcat hf hz hz2 hdg (by rw [List.append_nil]; exact kk)
theorem g_callSi (E : gE d x own cc n rm) (hc : gCS y cb maxL ret k) (hl0 : Cond.methodLink own index y ∈ wsL_law) {post : Int32 → va_W → Prop} (hM : gMi d y cb maxL ret rmc av W0 post) (hav : av = As) (hws : ws = W0 ++ wr) (hn : As.length = k) (hst : st = As.reverse ++ rest) (hcat : (rest.map fun v => v.category).sum ≤ 8) (hf : gRm rm rmc maxL cells slots) {c2 n2 : Nat} (hz : cells + rmc.cells = c2) (hz2 : slots + rmc.slots = n2) (hdg : decode cc pc = .ok (.invokestatic index, 3)) (kk : ∀ (r : Int32) (u : va_W), post r u → G d x (u ++ wr) c2 n2 (pc + 3) lv (.int r :: rest)) : G d x ws cells slots pc lv st := by
  obtain ⟨p, l, e, R, s, m, args, below, meth, c, A, nL, Q⟩ := x
  obtain ⟨hx, hb, hml, hnL, hown, hts, hK, hZ, hA, hR, hlk⟩ := E
  intro H locs ls hP hD hS hl
  subst hws; subst hst; subst hR; subst hav; subst hz; subst hz2
  exact g_aft_i (va_runS (As := av) (rest := rest) ⟨hx, hb, hml, hown, hts⟩ (hM l H.size) ⟨gCB.b hts hc.1 hl0 hf, hts _ hc.2⟩ ⟨gPre_blind, fun U hU hW => ⟨rfl, g_pre hK hZ hP hD hS hA U hU hW⟩⟩ rfl hn (hl.1.trans hnL) rfl (lv_room hcat) hdg ⟨hf.2.2.1, hf.2.2.2⟩) hP hD hS hA hl kk
theorem g_callSiD (E : gE d x own cc n rm) (hc : gCS y cb maxL ret k) (hl0 : Cond.methodLink own index y ∈ wsL_law) {F : Int32} {W1 : va_W} (hM : gMi d y cb maxL ret rmc av W0 (fun r u => r = F ∧ u = W1)) (hav : av = As) (hws : ws = W0 ++ wr) (hn : As.length = k) (hst : st = As.reverse ++ rest) (hcat : (rest.map fun v => v.category).sum ≤ 8) (hf : gRm rm rmc maxL cells slots) {c2 n2 : Nat} (hz : cells + rmc.cells = c2) (hz2 : slots + rmc.slots = n2) (hdg : decode cc pc = .ok (.invokestatic index, 3)) (kk : G d x (W1 ++ wr) c2 n2 (pc + 3) lv (.int F :: rest)) : G d x ws cells slots pc lv st :=
  g_callSi E hc hl0 hM hav hws hn hst hcat hf hz hz2 hdg (fun r u h => by obtain ⟨rfl, rfl⟩ := h; exact kk)
theorem g_callSi0 (E : gE d x own cc n rm) (hc : gCS y cb maxL ret k) (hl0 : Cond.methodLink own index y ∈ wsL_law) {F : Int32} {W1 : va_W} (hM : gMi d y cb maxL ret rmc av W0 (fun r u => r = F ∧ u = W1)) (hav : av = As) (hws : ws = W0) (hn : As.length = k) (hst : st = As.reverse ++ rest) (hcat : (rest.map fun v => v.category).sum ≤ 8) (hf : gRm rm rmc maxL cells slots) {c2 n2 : Nat} (hz : cells + rmc.cells = c2) (hz2 : slots + rmc.slots = n2) (hdg : decode cc pc = .ok (.invokestatic index, 3)) (kk : G d x W1 c2 n2 (pc + 3) lv (.int F :: rest)) : G d x ws cells slots pc lv st :=
  g_callSiD E hc hl0 hM hav (hws.trans (List.append_nil _).symm) hn hst hcat hf hz hz2 hdg (by rw [List.append_nil]; exact kk)
theorem g_callSv (E : gE d x own cc n rm) (hc : gCS y cb maxL none k) (hl0 : Cond.methodLink own index y ∈ wsL_law) {post : va_W → Prop} (hM : gMv d y cb maxL rmc av W0 post) (hav : av = As) (hws : ws = W0 ++ wr) (hn : As.length = k) (hst : st = As.reverse ++ rest) (hcat : (rest.map fun v => v.category).sum ≤ 8) (hf : gRm rm rmc maxL cells slots) {c2 n2 : Nat} (hz : cells + rmc.cells = c2) (hz2 : slots + rmc.slots = n2) (hdg : decode cc pc = .ok (.invokestatic index, 3)) (kk : ∀ (u : va_W), post u → G d x (u ++ wr) c2 n2 (pc + 3) lv rest) : G d x ws cells slots pc lv st := by
  obtain ⟨p, l, e, R, s, m, args, below, meth, c, A, nL, Q⟩ := x
  obtain ⟨hx, hb, hml, hnL, hown, hts, hK, hZ, hA, hR, hlk⟩ := E
  intro H locs ls hP hD hS hl
  subst hws; subst hst; subst hR; subst hav; subst hz; subst hz2
  exact g_aft_v (va_runS (As := av) (rest := rest) ⟨hx, hb, hml, hown, hts⟩ (hM l H.size) ⟨gCB.b hts hc.1 hl0 hf, hts _ hc.2⟩ ⟨gPre_blind, fun U hU hW => ⟨rfl, g_pre hK hZ hP hD hS hA U hU hW⟩⟩ rfl hn (hl.1.trans hnL) rfl (lv_room hcat) hdg ⟨hf.2.2.1, hf.2.2.2⟩) hP hD hS hA hl kk
theorem g_callSvD (E : gE d x own cc n rm) (hc : gCS y cb maxL none k) (hl0 : Cond.methodLink own index y ∈ wsL_law) {W1 : va_W} (hM : gMv d y cb maxL rmc av W0 (fun u => u = W1)) (hav : av = As) (hws : ws = W0 ++ wr) (hn : As.length = k) (hst : st = As.reverse ++ rest) (hcat : (rest.map fun v => v.category).sum ≤ 8) (hf : gRm rm rmc maxL cells slots) {c2 n2 : Nat} (hz : cells + rmc.cells = c2) (hz2 : slots + rmc.slots = n2) (hdg : decode cc pc = .ok (.invokestatic index, 3)) (kk : G d x (W1 ++ wr) c2 n2 (pc + 3) lv (rest)) : G d x ws cells slots pc lv st :=
  g_callSv E hc hl0 hM hav hws hn hst hcat hf hz hz2 hdg (fun u h => by subst h; exact kk)
theorem g_callSv0 (E : gE d x own cc n rm) (hc : gCS y cb maxL none k) (hl0 : Cond.methodLink own index y ∈ wsL_law) {W1 : va_W} (hM : gMv d y cb maxL rmc av W0 (fun u => u = W1)) (hav : av = As) (hws : ws = W0) (hn : As.length = k) (hst : st = As.reverse ++ rest) (hcat : (rest.map fun v => v.category).sum ≤ 8) (hf : gRm rm rmc maxL cells slots) {c2 n2 : Nat} (hz : cells + rmc.cells = c2) (hz2 : slots + rmc.slots = n2) (hdg : decode cc pc = .ok (.invokestatic index, 3)) (kk : G d x W1 c2 n2 (pc + 3) lv (rest)) : G d x ws cells slots pc lv st :=
  g_callSvD E hc hl0 hM hav (hws.trans (List.append_nil _).symm) hn hst hcat hf hz hz2 hdg (by rw [List.append_nil]; exact kk)
theorem g_callSNi (E : gE d x own cc n rm) {host : String} (hc : gCS y cb maxL ret k) (hl0 : Cond.methodLinkNest own index y host ∈ gNest) {post : Int32 → va_W → Prop} (hM : gMi d y cb maxL ret rmc av W0 post) (hav : av = As) (hws : ws = W0 ++ wr) (hn : As.length = k) (hst : st = As.reverse ++ rest) (hcat : (rest.map fun v => v.category).sum ≤ 8) (hf : gRm rm rmc maxL cells slots) {c2 n2 : Nat} (hz : cells + rmc.cells = c2) (hz2 : slots + rmc.slots = n2) (hdg : decode cc pc = .ok (.invokestatic index, 3)) (kk : ∀ (r : Int32) (u : va_W), post r u → G d x (u ++ wr) c2 n2 (pc + 3) lv (.int r :: rest)) : G d x ws cells slots pc lv st := by
  obtain ⟨p, l, e, R, s, m, args, below, meth, c, A, nL, Q⟩ := x
  obtain ⟨hx, hb, hml, hnL, hown, hts, hK, hZ, hA, hR, hlk⟩ := E
  intro H locs ls hP hD hS hl
  subst hws; subst hst; subst hR; subst hav; subst hz; subst hz2
  exact g_aft_i (va_runSN (As := av) (rest := rest) ⟨hx, hb, hml, hown, hts⟩ (hM l H.size) ⟨gCB.bn hts hc.1 (hK.2.2.2 _ hl0) hf, hts _ hc.2, trivial⟩ ⟨gPre_blind, fun U hU hW => ⟨rfl, g_pre hK hZ hP hD hS hA U hU hW⟩⟩ rfl hn (hl.1.trans hnL) rfl (lv_room hcat) hdg ⟨hf.2.2.1, hf.2.2.2⟩) hP hD hS hA hl kk
theorem g_callSNiD (E : gE d x own cc n rm) {host : String} (hc : gCS y cb maxL ret k) (hl0 : Cond.methodLinkNest own index y host ∈ gNest) {F : Int32} {W1 : va_W} (hM : gMi d y cb maxL ret rmc av W0 (fun r u => r = F ∧ u = W1)) (hav : av = As) (hws : ws = W0 ++ wr) (hn : As.length = k) (hst : st = As.reverse ++ rest) (hcat : (rest.map fun v => v.category).sum ≤ 8) (hf : gRm rm rmc maxL cells slots) {c2 n2 : Nat} (hz : cells + rmc.cells = c2) (hz2 : slots + rmc.slots = n2) (hdg : decode cc pc = .ok (.invokestatic index, 3)) (kk : G d x (W1 ++ wr) c2 n2 (pc + 3) lv (.int F :: rest)) : G d x ws cells slots pc lv st :=
  g_callSNi E hc hl0 hM hav hws hn hst hcat hf hz hz2 hdg (fun r u h => by obtain ⟨rfl, rfl⟩ := h; exact kk)
theorem g_callSNi0 (E : gE d x own cc n rm) {host : String} (hc : gCS y cb maxL ret k) (hl0 : Cond.methodLinkNest own index y host ∈ gNest) {F : Int32} {W1 : va_W} (hM : gMi d y cb maxL ret rmc av W0 (fun r u => r = F ∧ u = W1)) (hav : av = As) (hws : ws = W0) (hn : As.length = k) (hst : st = As.reverse ++ rest) (hcat : (rest.map fun v => v.category).sum ≤ 8) (hf : gRm rm rmc maxL cells slots) {c2 n2 : Nat} (hz : cells + rmc.cells = c2) (hz2 : slots + rmc.slots = n2) (hdg : decode cc pc = .ok (.invokestatic index, 3)) (kk : G d x W1 c2 n2 (pc + 3) lv (.int F :: rest)) : G d x ws cells slots pc lv st :=
  g_callSNiD E hc hl0 hM hav (hws.trans (List.append_nil _).symm) hn hst hcat hf hz hz2 hdg (by rw [List.append_nil]; exact kk)
theorem g_callSNv (E : gE d x own cc n rm) {host : String} (hc : gCS y cb maxL none k) (hl0 : Cond.methodLinkNest own index y host ∈ gNest) {post : va_W → Prop} (hM : gMv d y cb maxL rmc av W0 post) (hav : av = As) (hws : ws = W0 ++ wr) (hn : As.length = k) (hst : st = As.reverse ++ rest) (hcat : (rest.map fun v => v.category).sum ≤ 8) (hf : gRm rm rmc maxL cells slots) {c2 n2 : Nat} (hz : cells + rmc.cells = c2) (hz2 : slots + rmc.slots = n2) (hdg : decode cc pc = .ok (.invokestatic index, 3)) (kk : ∀ (u : va_W), post u → G d x (u ++ wr) c2 n2 (pc + 3) lv rest) : G d x ws cells slots pc lv st := by
  obtain ⟨p, l, e, R, s, m, args, below, meth, c, A, nL, Q⟩ := x
  obtain ⟨hx, hb, hml, hnL, hown, hts, hK, hZ, hA, hR, hlk⟩ := E
  intro H locs ls hP hD hS hl
  subst hws; subst hst; subst hR; subst hav; subst hz; subst hz2
  exact g_aft_v (va_runSN (As := av) (rest := rest) ⟨hx, hb, hml, hown, hts⟩ (hM l H.size) ⟨gCB.bn hts hc.1 (hK.2.2.2 _ hl0) hf, hts _ hc.2, trivial⟩ ⟨gPre_blind, fun U hU hW => ⟨rfl, g_pre hK hZ hP hD hS hA U hU hW⟩⟩ rfl hn (hl.1.trans hnL) rfl (lv_room hcat) hdg ⟨hf.2.2.1, hf.2.2.2⟩) hP hD hS hA hl kk
theorem g_callSNvD (E : gE d x own cc n rm) {host : String} (hc : gCS y cb maxL none k) (hl0 : Cond.methodLinkNest own index y host ∈ gNest) {W1 : va_W} (hM : gMv d y cb maxL rmc av W0 (fun u => u = W1)) (hav : av = As) (hws : ws = W0 ++ wr) (hn : As.length = k) (hst : st = As.reverse ++ rest) (hcat : (rest.map fun v => v.category).sum ≤ 8) (hf : gRm rm rmc maxL cells slots) {c2 n2 : Nat} (hz : cells + rmc.cells = c2) (hz2 : slots + rmc.slots = n2) (hdg : decode cc pc = .ok (.invokestatic index, 3)) (kk : G d x (W1 ++ wr) c2 n2 (pc + 3) lv (rest)) : G d x ws cells slots pc lv st :=
  g_callSNv E hc hl0 hM hav hws hn hst hcat hf hz hz2 hdg (fun u h => by subst h; exact kk)
theorem g_callSNv0 (E : gE d x own cc n rm) {host : String} (hc : gCS y cb maxL none k) (hl0 : Cond.methodLinkNest own index y host ∈ gNest) {W1 : va_W} (hM : gMv d y cb maxL rmc av W0 (fun u => u = W1)) (hav : av = As) (hws : ws = W0) (hn : As.length = k) (hst : st = As.reverse ++ rest) (hcat : (rest.map fun v => v.category).sum ≤ 8) (hf : gRm rm rmc maxL cells slots) {c2 n2 : Nat} (hz : cells + rmc.cells = c2) (hz2 : slots + rmc.slots = n2) (hdg : decode cc pc = .ok (.invokestatic index, 3)) (kk : G d x W1 c2 n2 (pc + 3) lv (rest)) : G d x ws cells slots pc lv st :=
  g_callSNvD E hc hl0 hM hav (hws.trans (List.append_nil _).symm) hn hst hcat hf hz hz2 hdg (by rw [List.append_nil]; exact kk)
theorem g_callIv (E : gE d x own cc n rm) (hc : gCI y cb maxL k) (hl0 : Cond.methodLink own index y ∈ wsL_law) {post : va_W → Prop} (hM : gMv d y cb maxL rmc av W0 post) (hav : av = .ref b :: As) (hws : ws = W0 ++ wr) (hn : As.length = k) (hst : st = As.reverse ++ .ref b :: rest) (hcat : (rest.map fun v => v.category).sum ≤ 8) (hf : gRm rm rmc maxL cells slots) {c2 n2 : Nat} (hz : cells + rmc.cells = c2) (hz2 : slots + rmc.slots = n2) (hdg : decode cc pc = .ok (.invokespecial index, 3)) (kk : ∀ (u : va_W), post u → G d x (u ++ wr) c2 n2 (pc + 3) lv rest) : G d x ws cells slots pc lv st := by
  obtain ⟨p, l, e, R, s, m, args, below, meth, c, A, nL, Q⟩ := x
  obtain ⟨hx, hb, hml, hnL, hown, hts, hK, hZ, hA, hR, hlk⟩ := E
  intro H locs ls hP hD hS hl
  subst hws; subst hst; subst hR; subst hav; subst hz; subst hz2
  exact g_aft_v (va_runI (As := As) (rest := rest) ⟨hx, hb, hml, hown, hts⟩ (hM l H.size) ⟨gCB.b hts hc.1 hl0 hf, hc.2.1, hts _ hc.2.2⟩ ⟨gPre_blind, fun U hU hW => ⟨rfl, g_pre hK hZ hP hD hS hA U hU hW⟩⟩ rfl hn (hl.1.trans hnL) rfl (lv_room hcat) hdg ⟨hf.2.2.1, hf.2.2.2⟩) hP hD hS hA hl kk
theorem g_callIvD (E : gE d x own cc n rm) (hc : gCI y cb maxL k) (hl0 : Cond.methodLink own index y ∈ wsL_law) {W1 : va_W} (hM : gMv d y cb maxL rmc av W0 (fun u => u = W1)) (hav : av = .ref b :: As) (hws : ws = W0 ++ wr) (hn : As.length = k) (hst : st = As.reverse ++ .ref b :: rest) (hcat : (rest.map fun v => v.category).sum ≤ 8) (hf : gRm rm rmc maxL cells slots) {c2 n2 : Nat} (hz : cells + rmc.cells = c2) (hz2 : slots + rmc.slots = n2) (hdg : decode cc pc = .ok (.invokespecial index, 3)) (kk : G d x (W1 ++ wr) c2 n2 (pc + 3) lv (rest)) : G d x ws cells slots pc lv st :=
  g_callIv E hc hl0 hM hav hws hn hst hcat hf hz hz2 hdg (fun u h => by subst h; exact kk)
theorem g_callIv0 (E : gE d x own cc n rm) (hc : gCI y cb maxL k) (hl0 : Cond.methodLink own index y ∈ wsL_law) {W1 : va_W} (hM : gMv d y cb maxL rmc av W0 (fun u => u = W1)) (hav : av = .ref b :: As) (hws : ws = W0) (hn : As.length = k) (hst : st = As.reverse ++ .ref b :: rest) (hcat : (rest.map fun v => v.category).sum ≤ 8) (hf : gRm rm rmc maxL cells slots) {c2 n2 : Nat} (hz : cells + rmc.cells = c2) (hz2 : slots + rmc.slots = n2) (hdg : decode cc pc = .ok (.invokespecial index, 3)) (kk : G d x W1 c2 n2 (pc + 3) lv (rest)) : G d x ws cells slots pc lv st :=
  g_callIvD E hc hl0 hM hav (hws.trans (List.append_nil _).symm) hn hst hcat hf hz hz2 hdg (by rw [List.append_nil]; exact kk)
theorem g_callSp (E : gE d x own cc n rm) (hc : gCS y cb maxL ret k) (hl0 : Cond.methodLink own index y ∈ wsL_law) {F : Int32} (hM : gMi d y cb maxL ret rmc av [] (fun r u => r = F ∧ u = [])) (hav : av = As) (hn : As.length = k) (hst : st = As.reverse ++ rest) (hcat : (rest.map fun v => v.category).sum ≤ 8) (hf : gRm rm rmc maxL cells slots) {c2 n2 : Nat} (hz : cells + rmc.cells = c2) (hz2 : slots + rmc.slots = n2) (hdg : decode cc pc = .ok (.invokestatic index, 3)) (kk : G d x ws c2 n2 (pc + 3) lv (.int F :: rest)) : G d x ws cells slots pc lv st :=
  g_callSiD E hc hl0 hM hav (wr := ws) rfl hn hst hcat hf hz hz2 hdg kk
theorem g_callSNp (E : gE d x own cc n rm) {host : String} (hc : gCS y cb maxL ret k) (hl0 : Cond.methodLinkNest own index y host ∈ gNest) {F : Int32} (hM : gMi d y cb maxL ret rmc av [] (fun r u => r = F ∧ u = [])) (hav : av = As) (hn : As.length = k) (hst : st = As.reverse ++ rest) (hcat : (rest.map fun v => v.category).sum ≤ 8) (hf : gRm rm rmc maxL cells slots) {c2 n2 : Nat} (hz : cells + rmc.cells = c2) (hz2 : slots + rmc.slots = n2) (hdg : decode cc pc = .ok (.invokestatic index, 3)) (kk : G d x ws c2 n2 (pc + 3) lv (.int F :: rest)) : G d x ws cells slots pc lv st :=
  g_callSNiD E hc hl0 hM hav (wr := ws) rfl hn hst hcat hf hz hz2 hdg kk
def gT : gX → Nat → (Nat → Int32) → Prop := fun (_, _, _, _, s, _, _, _, _, _, A, _, _) t f => va_T .int t 7 (fun j => .int (f j)) A s s.heap
def gTF (d : gD) : gX → Nat → Prop := fun (_, _, _, _, s, _, _, _, _, _, A, _, _) t => ∃ cell : Cell, s.heap[t]? = some cell ∧ cell.vm ≠ .unknown ∧ (∀ k, cell.vm ≠ .statics k) ∧ cell.cls = d.2.1 ∧ cell.slots = (vp_cell d.2.1 (7, .inl tabF)).slots ∧ s.vm.findClass "[I" = some d.2.1 ∧ ¬ A t
theorem g_getsL (E : gE d x own cc n rm) (hlink : Cond.fieldLink own index RX4 "LEAST" "[I" ∈ wsL_law) (hdg : decode cc pc = .ok (.getstatic index, 3)) (kk : ∀ t : Nat, gT x t tabL → G d x ws cells slots (pc + 3) lv (.ref t :: st)) : G d x ws cells slots pc lv st := by
  obtain ⟨p, l, e, R, s, m, args, below, meth, c, A, nL, Q⟩ := x
  obtain ⟨hx, hb, hml, hnL, hown, hts, hK, hZ, hA, hR, hlk⟩ := E
  intro H locs ls hP hD hS hl
  obtain ⟨t, h1, h2⟩ := hZ.2.1
  exact va_gets hx hb h1 hS hown (hts _ hlink) (fun _ h9 => h9) hdg (kk t h2 H locs ls hP hD hS hl)
theorem g_getsM (E : gE d x own cc n rm) (hlink : Cond.fieldLink own index RX4 "MOST" "[I" ∈ wsL_law) (hdg : decode cc pc = .ok (.getstatic index, 3)) (kk : ∀ t : Nat, gT x t tabM → G d x ws cells slots (pc + 3) lv (.ref t :: st)) : G d x ws cells slots pc lv st := by
  obtain ⟨p, l, e, R, s, m, args, below, meth, c, A, nL, Q⟩ := x
  obtain ⟨hx, hb, hml, hnL, hown, hts, hK, hZ, hA, hR, hlk⟩ := E
  intro H locs ls hP hD hS hl
  obtain ⟨t, h1, h2⟩ := hZ.2.2
  exact va_gets hx hb h1 hS hown (hts _ hlink) (fun _ h9 => h9) hdg (kk t h2 H locs ls hP hD hS hl)
theorem g_getsF (E : gE d x own cc n rm) (hlink : Cond.fieldLinkNest own index RX4 "FIRST" "[I" RX4 ∈ gNest) (hdg : decode cc pc = .ok (.getstatic index, 3)) (kk : ∀ t : Nat, gTF d x t → G d x ws cells slots (pc + 3) lv (.ref t :: st)) : G d x ws cells slots pc lv st := by
  obtain ⟨p, l, e, R, s, m, args, below, meth, c, A, nL, Q⟩ := x
  obtain ⟨hx, hb, hml, hnL, hown, hts, hK, hZ, hA, hR, hlk⟩ := E
  intro H locs ls hP hD hS hl
  obtain ⟨t, h1, h2⟩ := hZ.1
  exact va_getsN hx hb h1 hS hown (va_Nw.use rfl (hK.2.2.2 _ hlink)) (fun _ h9 => h9) hdg (kk t h2 H locs ls hP hD hS hl)
theorem g_tald (E : gE d x own cc n rm) {t : Nat} {f : Nat → Int32} (ht : gT x t f) {i : Int32} (j : Nat) (hi : i = nI j) (hj : j < 7) (hdg : decode cc pc = .ok (.iaload, 1)) (kk : G d x ws cells slots (pc + 1) lv (.int (f j) :: st)) : G d x ws cells slots pc lv (.int i :: .ref t :: st) := by
  obtain ⟨p, l, e, R, s, m, args, below, meth, c, A, nL, Q⟩ := x
  obtain ⟨hx, hb, hml, hnL, hown, hts, hK, hZ, hA, hR, hlk⟩ := E
  intro H locs ls hP hD hS hl
  subst hi
  refine va_ti hx hb ht hS (vp_in_nI hj (by omega)) rfl hdg ?_
  rw [nI_clamp (by omega)]
  exact kk H locs ls hP hD hS hl
theorem g_cloneF (E : gE d x own cc n rm) {t : Nat} (ht : gTF d x t) (hlink : Cond.methodLink own index ⟨"[I", "clone", "()Ljava/lang/Object;"⟩ ∈ wsL_law) (h1 : 1 ≤ rm.frames) (h2 : (st.map fun v => v.category).sum + 14 ≤ rm.locals) (h3 : cells + 1 ≤ rm.cells) (h4 : slots + 7 ≤ rm.slots) (hdg : decode cc pc = .ok (.invokevirtual index, 3)) (kk : ∀ q : Nat, (∀ z ∈ ws, z.1 ≠ q) → G d x (ws ++ [(q, .inl (d.2.1, 7, .inl tabF))]) (cells + 1) (slots + 7) (pc + 3) lv (.ref q :: st)) : G d x ws cells slots pc lv (.ref t :: st) := by
  obtain ⟨p, l, e, R, s, m, args, below, meth, c, A, nL, Q⟩ := x
  obtain ⟨hx, hb, hml, hnL, hown, hts, hK, hZ, hA, hR, hlk⟩ := E
  intro H locs ls hP hD hS hl
  subst hR
  obtain ⟨cell, q1, q2, q3, q4, q5, q6, q7⟩ := ht
  have hsz : cell.slots.size = 7 := by rw [q5]; exact arrV_size _ _ _
  obtain ⟨c0, t0', f1, f2, f3⟩ := Cond.castable_spec (va_Nw.use (A := args) rfl hK.2.2.1)
  cases q6.symm.trans f1
  have hcellE : ({ cls := cell.cls, slots := cell.slots } : Cell) = vp_cell d.2.1 (7, .inl tabF) := by rw [q4, q5]; rfl
  intro T hT X
  have hcellT : T.heap[t]? = some cell := by rw [hT, hS.2.1 t (Array.getElem?_eq_some_iff.mp q1).1 q7]; exact q1
  obtain ⟨-, kA, hkA, comp, hkind⟩ := State.isArrayOf_alike X.warmed.alike ((hK.1.2 0 (d.2.1, .int) rfl).1 0 (fun _ => .null))
  obtain ⟨-, kS, hkS, compS, hkindS⟩ := (hK.1.2 0 (d.2.1, .int) rfl).1 0 (fun _ => .null)
  obtain ⟨vm', X', st'⟩ := X.cloneArray hx hown (hts _ hlink) (hts _ ux_same) (hts _ ux_nat) (hts _ ux_inst) (hts _ ux_sel) (a := t) (cell := cell) hcellT q3 q2 (by rw [q4]; exact q6) f2 (by rw [q4]; exact f3)
    (fun i v hv => by
      rw [q4]
      have hk' : T.vm.classes[d.2.1]? = some kA := hkA
      have hfv : fits .int v = true := by
        rw [q5] at hv
        have hi : i < 7 := by
          have := (Array.getElem?_eq_some_iff.mp hv).1
          rw [show (vp_cell d.2.1 (7, .inl tabF)).slots.size = 7 from arrV_size _ _ _] at this
          exact this
        have h8 : (vp_cell d.2.1 (7, .inl tabF)).slots[i]? = some (.int (tabF i)) := arrV_read _ _ hi
        rw [h8] at hv
        cases hv
        rfl
      simpa [State.fitsSlot, State.slotType?, hk', hkind] using hfv)
    (g := F0 m pc ls (.ref t :: st)) rfl (by rw [hml]; exact hl.1.trans hnL) rfl (by rw [hb]; exact hdg) h1 (by show 2 * 0 + _ + 14 ≤ _; omega) h3 (by rw [hsz]; exact h4) (hloader := by rw [q4]; exact Vm.clonesLoader_of_array hkS hkindS)
  rw [hcellE, hsz] at X'
  generalize hH1 : H.push (vp_cell d.2.1 (7, .inl tabF)) = H1
  have e1 : H1[H.size]? = some (vp_cell d.2.1 (7, .inl tabF)) := by rw [← hH1, Array.getElem?_push_size]
  have z1 : H1.size = H.size + 1 := by rw [← hH1, Array.size_push]
  have o1 : ∀ q : Nat, q < H.size → H1[q]? = H[q]? := fun q hq => by rw [← hH1, Array.getElem?_push, if_neg (Nat.ne_of_lt hq)]
  have hk : ∀ (k : Nat) (y : Nat × va_E), ws[k]? = some y → H1[y.1]? = H[y.1]? := fun k y hy => o1 y.1 ((hP k y hy).lt)
  have hD1 : va_D A (ws ++ [(H.size, .inl (d.2.1, 7, .inl tabF))]) := hD.push hP rfl (hA _ hS.1)
  obtain ⟨t1, b1, b2⟩ := kk H.size (fun z hz e => by
    obtain ⟨k, hk⟩ := List.getElem?_of_mem hz
    have := (hP k z hk).lt
    omega) H1 locs ls ((hP.kept hk).app (fun k y hy => by
      have hz : k < 1 := (List.getElem?_eq_some_iff.mp hy).1
      rw [show k = 0 by omega] at hy
      cases hy
      exact e1)) hD1 ⟨Nat.le_trans hS.1 (by omega), fun y h1 h2 => (o1 y (Nat.lt_of_lt_of_le h1 hS.1)).trans (hS.2.1 y h1 h2), hS.2.2⟩ hl
    ((T.setVm vm').pushCell (vp_cell d.2.1 (7, .inl tabF))) (by rw [← hH1, ← hT]; rfl) X'
  refine ⟨t1, st' t1 ?_, b2⟩
  rw [hcellE, hT]
  exact b1
theorem g_castI (E : gE d x own cc n rm) {a : Nat} {z : vp_A} (q0 : Nat) (ha : ws[q0]? = some (a, .inl (d.2.1, z))) {t : Nat} (ht : gTF d x t) (hlink : Cond.classLink own index "[I" ∈ wsL_law) (hdg : decode cc pc = .ok (.checkcast index, 3)) (kk : G d x ws cells slots (pc + 3) lv (.ref a :: st)) : G d x ws cells slots pc lv (.ref a :: st) := by
  obtain ⟨p, l, e, R, s, m, args, below, meth, c, A, nL, Q⟩ := x
  obtain ⟨hx, hb, hml, hnL, hown, hts, hK, hZ, hA, hR, hlk⟩ := E
  intro H locs ls hP hD hS hl
  obtain ⟨cell, q1, q2, q3, q4, q5, q6, q7⟩ := ht
  exact va_castA hx hb hown (hts _ hlink) hP q0 ha q6 hdg (kk H locs ls hP hD hS hl)
theorem g_copyAll (E : gE d x own cc n rm) (q0 q1 : Nat) {a0 a N : Nat} {f g : Nat → Int32} (ha0 : ws[q0]? = some (a0, .inl (d.2.1, N, .inl f))) (ha1 : ws[q1]? = some (a, .inl (d.2.1, N, .inl g))) {i0 i1 i2 : Int32} (h0 : i0 = nI 0) (h1 : i1 = nI 0) (h2 : i2 = nI N) (hN : N < 65536) (hlink : Cond.methodLink own index arraycopyName ∈ wsL_law) (hf1 : 1 ≤ rm.frames) (hf2 : (st.map fun v => v.category).sum + (nativeFrameWords "java/lang/System" "arraycopy" 5 + 11) ≤ rm.locals) {ws' : va_W} (hws : ws.set q1 (a, .inl (d.2.1, N, .inl f)) = ws') (hdg : decode cc pc = .ok (.invokestatic index, 3)) (kk : G d x ws' cells slots (pc + 3) lv st) : G d x ws cells slots pc lv (.int i2 :: .int i1 :: .ref a :: .int i0 :: .ref a0 :: st) := by
  have key : G d x (ws.set q1 (a, .inl (d.2.1, N, .inl (va_cpy f g 0 0 N)))) cells slots (pc + 3) lv st := by
    refine g_cell q1 (f := va_cpy f g 0 0 N) (f' := f) (a := a) (n' := N) (cA := d.2.1) ?_ (fun j hj => pk_cpy_in0 hj) ?_
    · rw [List.getElem?_set_self (List.getElem?_eq_some_iff.mp ha1).1]
    · rw [List.set_set, hws]
      exact kk
  obtain ⟨p, l, e, R, s, m, args, below, meth, c, A, nL, Q⟩ := x
  obtain ⟨hx, hb, hml, hnL, hown, hts, hK, hZ, hA, hR, hlk⟩ := E
  intro H locs ls hP hD hS hl
  subst h0; subst h1; subst h2; subst hR
  have c0 : (nI 0).toNatClampNeg = 0 := nI_clamp (by omega)
  have cN : (nI N).toNatClampNeg = N := nI_clamp (by omega)
  refine va_copyi hx hb (by rw [hml, hl.1, hnL]) hown (hts _ hlink) (hts _ ux_cnat) (hts _ sm_arraycopyName) (hts _ it_java_lang_System) hK.1 hP hD hS q0 q1 0 0 ha0 ha1 rfl rfl rfl (nI_pos (by omega)) (nI_pos (by omega)) (nI_pos (by omega)) (by rw [c0, cN]; omega) (by rw [c0, cN]; omega) (fun i _ => rfl) hf1 hf2 hdg (fun H1 locs1 hP1 hD1 hS1 => ?_)
  rw [c0, cN] at hP1 hD1
  exact key H1 locs1 ls hP1 hD1 hS1 hl
end GC
theorem met_ofWF {l : Launch} {y : MethodName} {ws ws' : List Cond} {rm : Room} {Pc : Array Value → State → Prop} {Qc : Array Value → State → Outcome → State → Prop} {mc ms : Nat} {free : Addr → Prop} {cc : ByteArray} {maxL : Nat} {ret : Option FieldType}
    (hy : plainFor y = true) (hw : ws = Cond.code y cc maxL ret :: ws')
    (body : ∀ p e s m args below meth c s₁, BodyLoose p l y (headSpec ws rm) cc maxL ret e s m args below meth c s₁ → c.maxLocals = maxL → Pc args s →
      W p l e (headSpec ws rm).room s m args below meth c s.heap [] 0 0 (MQ below Qc args s mc ms free) (entryFrame m args maxL)) : Met l y ws rm Pc Qc mc ms free := by
  refine MetFree.of_bodyRF (code := cc) (maxLocals := maxL) (ret := ret) hy ?_ ?_
  · intro args s m h hn
    obtain ⟨meth, c, h1, h2, h3, h4, h5, h6, -, -⟩ := Cond.code_spec hn (atoms_spec (ws := ws) h _ (by rw [hw]; exact List.mem_cons_self))
    exact ⟨meth, c, h1, h2, h3, h4, h5, h6⟩
  · intro p e s m args below meth c s₁ B hml hP _ hst
    have hh0 : s₁.heap = s.heap := by rw [B.state]; rfl
    obtain ⟨t, a1, o, b1, b2, b3⟩ := body p e s m args below meth c s₁ B hml hP s₁ hh0 (Stand.of_body B)
    exact ⟨t, o, hst.trans a1, b1, b2, ⟨b3.1, b3.2⟩⟩
/-- a method is proved by a walk of its body from the entry; RET: what its end wants -/
theorem g_met_i {d : gD} {y : MethodName} {cb : ByteArray} {maxL : Nat} {rt : FieldType} {rm : Room} {av : List Value} {W0 : va_W} {post : Int32 → va_W → Prop} (own : String) (hown : y.cls = own) (hy : plainFor y = true) (hlen : (lg_sl av).length ≤ maxL) (lv0 : List (Nat × Value)) (hlv : lv_args 0 av = lv0)
    (body : ∀ x : gX, gE d x own cb maxL rm → (∀ (pc : Nat) (lv : List (Nat × Value)) (v : Int32) (u : va_W), decode cb pc = .ok (.ireturn, 1) → narrow rt (.int v) = .int v → post v u → G d x u rm.cells rm.slots pc lv [.int v]) → G d x W0 0 0 0 lv0 []) : gMi d y cb maxL (some rt) rm av W0 post := by
  intro l sz
  refine met_ofWF (cc := cb) (maxL := maxL) (ret := some rt) hy rfl ?_
  intro p e s m args below meth c s₁ B hml hv
  obtain ⟨rfl, hsz, hP, hK, hD0, hZ⟩ := hv
  have hx := B.exec
  have hb := B.bytes
  have hr := B.returns
  have hts := atoms_spec (ws := uw y cb maxL (some rt)) B.pre
  have hfc := findClass_of_methodNamed B.named
  rw [hown] at hfc
  have hlocks := B.notSynchronized
  subst hsz
  have hD := hD0.self (sz := s.heap.size)
  have hl := lv_entry av hlen
  rw [hlv] at hl
  rw [lg_entry_eq]
  refine body (p, l, e, rm, s, m, av.toArray, below, meth, c, va_A W0 s.heap.size, maxL, MQ below (gQi d W0 post s.heap.size) av.toArray s rm.cells rm.slots (va_A W0 s.heap.size)) ⟨hx, hb, hml, rfl, hfc, fun w hw => hts w (List.mem_cons_of_mem _ hw), hK, hZ, fun q h => Or.inr h, rfl, hlocks⟩ ?_ s.heap [] _ hP hD va_S.rf hl
  intro pc lv v u hdg hn hp H locs ls hP hD hS hl
  exact W.zret hx hb hr hn (fun t ht hW => ⟨⟨v, u, rfl, hp, by rw [ht]; exact hP, hD⟩, hS.F ht⟩) hS.2.2 hdg
theorem g_met_v {d : gD} {y : MethodName} {cb : ByteArray} {maxL : Nat} {rm : Room} {av : List Value} {W0 : va_W} {post : va_W → Prop} (own : String) (hown : y.cls = own) (hy : plainFor y = true) (hlen : (lg_sl av).length ≤ maxL) (lv0 : List (Nat × Value)) (hlv : lv_args 0 av = lv0)
    (body : ∀ x : gX, gE d x own cb maxL rm → (y.name = "<init>" → gInit x) → (∀ (pc : Nat) (lv : List (Nat × Value)) (u : va_W), decode cb pc = .ok (.return_, 1) → post u → G d x u rm.cells rm.slots pc lv []) → G d x W0 0 0 0 lv0 []) : gMv d y cb maxL rm av W0 post := by
  intro l sz
  refine met_ofWF (cc := cb) (maxL := maxL) (ret := none) hy rfl ?_
  intro p e s m args below meth c s₁ B hml hv
  obtain ⟨rfl, hsz, hP, hK, hD0, hZ⟩ := hv
  have hx := B.exec
  have hb := B.bytes
  have hr := B.returns
  have hts := atoms_spec (ws := uw y cb maxL none) B.pre
  have hfc := findClass_of_methodNamed B.named
  rw [hown] at hfc
  have hlocks := B.notSynchronized
  have hin := (name_of_methodNamed B.named B.method).1
  subst hsz
  have hD := hD0.self (sz := s.heap.size)
  have hl := lv_entry av hlen
  rw [hlv] at hl
  rw [lg_entry_eq]
  refine body (p, l, e, rm, s, m, av.toArray, below, meth, c, va_A W0 s.heap.size, maxL, MQ below (gQv d W0 post s.heap.size) av.toArray s rm.cells rm.slots (va_A W0 s.heap.size)) ⟨hx, hb, hml, rfl, hfc, fun w hw => hts w (List.mem_cons_of_mem _ hw), hK, hZ, fun q h => Or.inr h, rfl, hlocks⟩ (fun h => hin.trans h) ?_ s.heap [] _ hP hD va_S.rf hl
  intro pc lv u hdg hp H locs ls hP hD hS hl
  exact W.vret hx hb hr (fun t ht hW => ⟨⟨u, rfl, hp, by rw [ht]; exact hP, hD⟩, hS.F ht⟩) hS.2.2 hdg
