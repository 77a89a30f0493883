/-! the law's start: what the tables and the start's premise give -/
set_option maxRecDepth 20000 in
theorem lin_nest : ∀ w ∈ gNest, w ∈ lw_tbl := mem_r _ [35, 54, 73, 84, 132, 160, 232, 269, 276] (by decide +kernel)
def lawMore : List Cond := [.castable "[I" "java/lang/Cloneable", .arrayOver (.object RX3), .laysStatic RX4 "FIRST" "[I", .laysStatic RX4 "LEAST" "[I", .laysStatic RX4 "MOST" "[I"]
set_option maxRecDepth 20000 in
theorem lin_more : ∀ w ∈ lawMore, w ∈ lw_tbl := mem_r _ [42, 156, 36, 189, 191] (by decide +kernel)
theorem arr_of {s : State} {args : Array Value} {ty : FieldType} (h : (Cond.arrayClass ty).before args s = true) : ∃ cA, ArrOfT s cA ty ∧ s.vm.findClass ("[" ++ ty.toString) = some cA := by
  obtain ⟨c, k, comp, h1, h2, h3⟩ := Cond.arrayClass_spec h
  exact ⟨c, fun n z => ⟨(fun k h => by cases h), k, h2, comp, h3⟩, h1⟩
theorem law_K {s : State} {args : Array Value} (hts : ∀ w ∈ lw_tbl, w.before args s = true) : ∃ d : gD, gK d s ∧ s.vm.findClass "[I" = some d.2.1 := by
  have hw : ∀ w ∈ wsL_law, w.before args s = true := fun w h => hts w (wsL_law_in w h)
  obtain ⟨k0, i0, q0⟩ := u_known hw inlX0 (hw _ ib_RX0)
  obtain ⟨k1, i1, q1⟩ := u_known hw inlX1 (hw _ ib_RX1)
  obtain ⟨k2, i2, q2⟩ := u_known hw inlX2 (hw _ ib_RX2)
  obtain ⟨k3, i3, q3⟩ := u_known hw inlX3 (hw _ ib_RX3)
  obtain ⟨k4, i4, q4⟩ := u_known hw inlX4 (hw _ ib_RX4)
  obtain ⟨cI, aI, fI⟩ := arr_of (hw _ ac_int)
  obtain ⟨cC, aC, fC⟩ := arr_of (hw _ ac_char)
  have hover := hts _ (lin_more (.arrayOver (.object RX3)) (List.mem_of_getElem? (i := 1) rfl))
  have hcast := hts _ (lin_more (.castable "[I" "java/lang/Cloneable") (List.mem_of_getElem? (i := 0) rfl))
  obtain ⟨comp, cQ, kQ, h1, h2, h3, h4, h5⟩ := Cond.arrayOver_spec hover
  refine ⟨((fun c => match c with | 0 => k0 | 1 => k1 | 2 => k2 | 3 => k3 | _ => k4, fun c => match c with | 0 => i0 | 1 => i1 | 2 => i2 | 3 => i3 | _ => i4), cI, cC, cC, cQ), ⟨⟨fun c q hq => ?_, fun k q hq => ?_⟩, va_AO.of hover, hcast, fun w hw => ?_⟩, ?_⟩
  · match c, hq with
    | 0, hq => cases hq; exact q0
    | 1, hq => cases hq; exact q1
    | 2, hq => cases hq; exact q2
    | 3, hq => cases hq; exact q3
    | 4, hq => cases hq; exact q4
    | _ + 5, hq => cases hq
  · match k, hq with
    | 0, hq => cases hq; exact ⟨aI, fI⟩
    | 1, hq => cases hq; exact ⟨aC, fC⟩
    | 2, hq => cases hq; exact ⟨aC, fC⟩
    | 3, hq => cases hq; exact ⟨fun n z => ⟨(fun k h => by cases h), kQ, h3, comp, h4⟩, kQ, comp, h3, h4, h1, h5⟩
    | _ + 4, hq => cases hq
  · have h := hts _ (lin_nest w hw)
    rcases gNest_kind w hw with ⟨a, i, b, n, t, q, rfl⟩ | ⟨a, i, y, q, rfl⟩
    · exact h
    · exact h
  · have e : "[" ++ FieldType.int.toString = "[I" := by decide +kernel
    rw [← e]
    exact fI
section LZ
variable {args : Array Value} {s : State} {A : Nat → Prop}
theorem tab_of (n : String) (f : Nat → Int32) (hl : (Cond.laysStatic RX4 n "[I").before args s = true) (hini : (Cond.initialized RX4).before args s = true) (harr : (Cond.arrayOf (.static RX4 n "[I") .int).before args s = true) (hlen : (Cond.eq (.length (.static RX4 n "[I")) (.int 7)).before args s = true)
    (hel : ∀ j, j < 7 → (Cond.eq (.elem (.static RX4 n "[I") (.int (Int32.ofNat j))) (.int (f j))).before args s = true) (hA : ∀ a : Nat, a < s.heap.size → ¬ A a) : gZ n f A s s.heap := by
  obtain ⟨t, ht, hT⟩ := va_Tof (N := 7) (f := fun j => .int (f j)) (A := A) (by decide) harr (va_eqt hlen) (fun j hj => va_eqt (hel j hj)) hA
  exact ⟨t, va_Zref hl hini ht hA, hT⟩
theorem first_of {cI : ClassId} (hcI : s.vm.findClass "[I" = some cI) (hl : (Cond.laysStatic RX4 "FIRST" "[I").before args s = true) (hini : (Cond.initialized RX4).before args s = true) (harr : (Cond.arrayOf (.static RX4 "FIRST" "[I") .int).before args s = true) (hlen : (Cond.eq (.length (.static RX4 "FIRST" "[I")) (.int 7)).before args s = true)
    (hel : ∀ j, j < 7 → (Cond.eq (.elem (.static RX4 "FIRST" "[I") (.int (Int32.ofNat j))) (.int (tabF j))).before args s = true) (hex : (Cond.exactly (.static RX4 "FIRST" "[I") "[I").before args s = true) (hA : ∀ a : Nat, a < s.heap.size → ¬ A a) : gF cI A s s.heap := by
  obtain ⟨t, ht, hT⟩ := va_Tof (N := 7) (f := fun j => .int (tabF j)) (A := A) (by decide) harr (va_eqt hlen) (fun j hj => va_eqt (hel j hj)) hA
  obtain ⟨a, c, cell, k, x1, x2, x3, x4, x5, x6, -⟩ := Cond.exactly_spec hex
  obtain ⟨cell', y1, y2, y3, y4, y5, y6, y7⟩ := hT
  have eat : a = t := Value.ref.inj (Option.some.inj (x1.symm.trans ht))
  have ec : c = cI := Option.some.inj (x2.symm.trans hcI)
  rw [eat] at x3
  have ecell : cell = cell' := Option.some.inj (x3.symm.trans y1)
  rw [ecell] at x5 x6
  rw [ec] at x6
  have hsz : cell'.slots.size = 7 := by
    obtain ⟨a', cell2, w1, w2, w3⟩ := Term.length_spec (va_eqt hlen)
    have ea : a' = t := Value.ref.inj (Option.some.inj (w1.symm.trans ht))
    rw [ea] at w2
    obtain ⟨w4, -⟩ := State.arrayAt?_spec w2
    have e2 : cell2 = cell' := Option.some.inj (w4.symm.trans y1)
    rw [e2] at w2
    have hlt : cell'.slots.size < 2147483648 := by
      have hv := va_eqt hlen
      simp only [Term.eval, Option.bind_eq_bind] at hv
      have ht2 : (Term.static RX4 "FIRST" "[I").eval args s none [] s = some (.ref t) := ht
      simp only [Term.eval, Option.bind_eq_bind] at ht2
      by_cases q : cell'.slots.size < 2147483648
      · exact q
      · exfalso
        rw [ht2] at hv
        simp [w2, q] at hv
    have e := Int32.toInt_inj.mpr y5
    have e2 : (cell'.slots.size.toInt32).toInt = (cell'.slots.size : Int) := nI_toInt (n := cell'.slots.size) hlt
    rw [e2] at e
    have e3 : (Int32.ofNat 7).toInt = 7 := rfl
    rw [e3] at e
    omega
  refine ⟨t, va_Zref hl hini ht hA, cell', y1, y3, fun k hk => ?_, x6, ?_, hcI, y7⟩
  · rw [hk] at x5
    cases x5
  · apply Array.ext
    · rw [hsz]
      exact (arrV_size cI 7 _).symm
    · intro i h1 h2
      have h7 : i < 7 := by omega
      have a1 := y6 i h7
      have a2 : (vp_cell cI (7, .inl tabF)).slots[i]? = some (.int (tabF i)) := arrV_read cI (fun j => .int (tabF j)) h7
      rw [Array.getElem?_eq_getElem h1] at a1
      rw [Array.getElem?_eq_getElem h2] at a2
      exact (Option.some.inj a1).trans (Option.some.inj a2).symm
end LZ
