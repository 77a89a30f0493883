theorem reset_go {S : SS} {Y : HS} {B : Int} (A : AL S Y B) : GO (if r_X4_reset S Y = r_L_size (S.1 7 - 2048) + r_L_size (S.1 8 - 2048) then (if (c_X4_reset_1 S Y).1 7 = 2048 then (if (c_X4_reset_1 S Y).1 8 = 2048 then (if (c_X4_reset_1 S Y).1 9 = (c_X4_reset_1 S Y).2.1 1 then (if (c_X4_reset_1 S Y).1 12 = 0 then 1 else 0) else 0) else 0) else 0) else 0) (c_X4_reset_1 S Y) (c_X4_reset_y S Y) B := by
  obtain ⟨I, hC, hd, hy⟩ := A
  obtain ⟨hs, hv, hT, h13, h21, hL, hG, hD, hR⟩ := I
  have hv7 := hv.1
  have hv8 := hv.2.1
  have z2048 : (2048 : Int32).toInt = 2048 := rfl
  have e7 : (S.1 7 - 2048).toInt = (S.1 7).toInt - 2048 := by rw [ti_sub (by rw [z2048]; omega) (by rw [z2048]; omega), z2048]
  have e8 : (S.1 8 - 2048).toInt = (S.1 8).toInt - 2048 := by rw [ti_sub (by rw [z2048]; omega) (by rw [z2048]; omega), z2048]
  have er : r_X4_reset S Y = r_L_size (S.1 7 - 2048) + r_L_size (S.1 8 - 2048) := by
    rw [size_iabs (by omega), size_iabs (by omega)]
    rfl
  obtain ⟨g, eg⟩ : ∃ g, upd (upd (upd (upd S.1 7 2048) 8 2048) 9 (S.2.1 1)) 12 0 = g := ⟨_, rfl⟩
  have k7 : g 7 = 2048 := by
    rw [← eg]
    exact (upd_lo (by decide)).trans ((upd_lo (by decide)).trans ((upd_lo (by decide)).trans upd_eq))
  have k8 : g 8 = 2048 := by
    rw [← eg]
    exact (upd_lo (by decide)).trans ((upd_lo (by decide)).trans upd_eq)
  have k9 : g 9 = S.2.1 1 := by
    rw [← eg]
    exact (upd_lo (by decide)).trans upd_eq
  have k12 : g 12 = 0 := by
    rw [← eg]
    exact upd_eq
  have k : ∀ j, j ≠ 7 → j ≠ 8 → j ≠ 9 → j ≠ 12 → g j = S.1 j := fun j h7 h8 h9 h12 => by
    rw [← eg]
    exact (upd_lo h12).trans ((upd_lo h9).trans ((upd_lo h8).trans (upd_lo h7)))
  have ec : c_X4_reset_1 S Y = (g, S.2) := by
    rw [← eg]
    rfl
  rw [er, ec, if_pos rfl]
  refine ⟨?_, ?_, ?_, ?_, keep_hy S hy⟩
  · show (if g 7 = 2048 then (if g 8 = 2048 then (if g 9 = S.2.1 1 then (if g 12 = 0 then (1 : Int32) else 0) else 0) else 0) else 0) = 1
    rw [if_pos k7, if_pos k8, if_pos k9, if_pos k12]
  · unfold IV rgV
    show rgS S.2.1 ∧ ((0 ≤ (g 7).toInt ∧ (g 7).toInt ≤ 4080) ∧ (0 ≤ (g 8).toInt ∧ (g 8).toInt ≤ 4080) ∧ ((S.2.1 1).toInt ≤ (g 9).toInt ∧ (g 9).toInt ≤ (S.2.1 1).toInt + (S.2.1 2).toInt)) ∧ ((-100 ≤ (g 14).toInt ∧ (g 14).toInt ≤ 100) ∧ (-100 ≤ (g 15).toInt ∧ (g 15).toInt ≤ 100)) ∧ (0 ≤ (g 13).toInt ∧ (g 13).toInt ≤ 20) ∧ (0 ≤ (g 21).toInt ∧ (g 21).toInt ≤ B) ∧ ((g 21).toInt = 0 ∨ ((0 ≤ (g 10).toInt ∧ (g 10).toInt ≤ 255) ∧ (0 ≤ (g 11).toInt ∧ (g 11).toInt ≤ 255))) ∧ (0 ≤ (g 16).toInt ∧ (g 16).toInt + (tl (g 14) (g 15)).toInt ≤ (g 19).toInt ∧ (g 19).toInt ≤ (g 21).toInt) ∧ (0 ≤ (g 17).toInt ∧ (g 17).toInt ≤ (g 21).toInt) ∧ DIR S.2.2 (g 21).toInt (g 19).toInt
    rw [k7, k8, k9, k 10 (by decide) (by decide) (by decide) (by decide), k 11 (by decide) (by decide) (by decide) (by decide), k 13 (by decide) (by decide) (by decide) (by decide), k 14 (by decide) (by decide) (by decide) (by decide), k 15 (by decide) (by decide) (by decide) (by decide), k 16 (by decide) (by decide) (by decide) (by decide), k 17 (by decide) (by decide) (by decide) (by decide), k 19 (by decide) (by decide) (by decide) (by decide), k 21 (by decide) (by decide) (by decide) (by decide), z2048]
    have hs2 := hs.2.2.1
    exact ⟨hs, ⟨by omega, by omega, by omega, by omega⟩, hT, h13, h21, hL, hG, hD, hR⟩
  · exact CR_put hC ⟨k 14 (by decide) (by decide) (by decide) (by decide), k 15 (by decide) (by decide) (by decide) (by decide)⟩
  · unfold DN
    show 0 ≤ (g 18).toInt ∧ (g 18).toInt ≤ 255
    rw [k 18 (by decide) (by decide) (by decide) (by decide)]
    exact hd
theorem it_18 {x y : Int32} {S : SS} {B : Int} (I : IV S B) (hp : rgP x y) (hB : B ≤ 10000) : ∀ k : Nat, k ≤ 5000 → (itC x y k S).1 18 = S.1 18
  | 0, _ => rfl
  | k + 1, hk => by
    show (c_X3_take x y (itC x y k S)).1 18 = _
    rw [take_18 (it_IV I hp hB k (by omega)).1 hp, it_18 I hp hB k (by omega)]
theorem hold_go {S : SS} {Y : HS} {B : Int} (A : AL S Y B) (hB : B ≤ 9000) {x y m : Int32} (hp : rgP x y) {j : Nat} (hj : j < 15) (hm : m = 1 + nI j) : GO (if r_X4_hold x y m S Y = 1000 * ((c_X4_hold_1 x y m S Y).1 14 + 100) + ((c_X4_hold_1 x y m S Y).1 15 + 100) then (if (c_X4_hold_1 x y m S Y).1 21 = S.1 21 + m then 1 else 0) else 0) (c_X4_hold_1 x y m S Y) (c_X4_hold_y x y m S Y) (B + 15) := by
  obtain ⟨I, hC, hd, hy⟩ := A
  have h21 := I.2.2.2.2.1
  have em : m = nI (j + 1) := by rw [hm, Int32.add_comm, nI_1]
  rw [em]
  obtain ⟨e1, e2, e3⟩ := hold_is (S := S) (Y := Y) hp (j + 1) (by omega) (by omega)
  obtain ⟨i1, i2⟩ := it_IV I hp (by omega) (j + 1) (by omega)
  obtain ⟨j1, -⟩ := it_IV I hp (by omega) j (by omega)
  obtain ⟨-, c2, -⟩ := take_IV j1 (by omega) hp
  rw [e1, e2, e3]
  refine ⟨?_, i1.mono (by omega), c2, ?_, keep_hy S hy⟩
  · have t1 : r_X3_telling (itC x y (j + 1) S) = 1000 * ((itC x y (j + 1) S).1 14 + 100) + ((itC x y (j + 1) S).1 15 + 100) := by
      unfold r_X3_telling r_X4_packed
      rw [Int32.add_assoc]
    have t2 : (itC x y (j + 1) S).1 21 = S.1 21 + nI (j + 1) := by
      refine ti_eq.mpr ?_
      rw [i2, ti_add (by rw [nI_toInt (by omega)]; omega) (by rw [nI_toInt (by omega)]; omega), nI_toInt (by omega)]
    rw [if_pos t1, if_pos t2]
  · unfold DN
    rw [it_18 I hp (by omega) (j + 1) (by omega)]
    exact hd
theorem three_go {S : SS} {Y : HS} {B : Int} (A : AL S Y B) (hB : B ≤ 9000) : GO (if S.1 21 = 0 then 1 else (if 255 < latX S + 1 then 1 else (if r_L_isSample (latX S) (latY S) S Y = 0 then 0 else (if r_L_isSample (latX S + 1) (latY S) (c_L_isSample_1 (latX S) (latY S) S Y) (c_L_isSample_y (latX S) (latY S) S Y) = 0 then 0 else (if r_L_isSample (latX S) (latY S) (c_L_isSample_1 (latX S + 1) (latY S) (c_L_isSample_1 (latX S) (latY S) S Y) (c_L_isSample_y (latX S) (latY S) S Y)) (c_L_isSample_y (latX S + 1) (latY S) (c_L_isSample_1 (latX S) (latY S) S Y) (c_L_isSample_y (latX S) (latY S) S Y)) = 0 then 0 else 1)))))
    (if S.1 21 = 0 then S else (if 255 < latX S + 1 then S else (if r_L_isSample (latX S) (latY S) S Y = 0 then (c_L_isSample_1 (latX S) (latY S) S Y) else (if r_L_isSample (latX S + 1) (latY S) (c_L_isSample_1 (latX S) (latY S) S Y) (c_L_isSample_y (latX S) (latY S) S Y) = 0 then (c_L_isSample_1 (latX S + 1) (latY S) (c_L_isSample_1 (latX S) (latY S) S Y) (c_L_isSample_y (latX S) (latY S) S Y)) else (c_L_isSample_1 (latX S) (latY S) (c_L_isSample_1 (latX S + 1) (latY S) (c_L_isSample_1 (latX S) (latY S) S Y) (c_L_isSample_y (latX S) (latY S) S Y)) (c_L_isSample_y (latX S + 1) (latY S) (c_L_isSample_1 (latX S) (latY S) S Y) (c_L_isSample_y (latX S) (latY S) S Y)))))))
    (if S.1 21 = 0 then Y else (if 255 < latX S + 1 then Y else (if r_L_isSample (latX S) (latY S) S Y = 0 then (c_L_isSample_y (latX S) (latY S) S Y) else (if r_L_isSample (latX S + 1) (latY S) (c_L_isSample_1 (latX S) (latY S) S Y) (c_L_isSample_y (latX S) (latY S) S Y) = 0 then (c_L_isSample_y (latX S + 1) (latY S) (c_L_isSample_1 (latX S) (latY S) S Y) (c_L_isSample_y (latX S) (latY S) S Y)) else (c_L_isSample_y (latX S) (latY S) (c_L_isSample_1 (latX S + 1) (latY S) (c_L_isSample_1 (latX S) (latY S) S Y) (c_L_isSample_y (latX S) (latY S) S Y)) (c_L_isSample_y (latX S + 1) (latY S) (c_L_isSample_1 (latX S) (latY S) S Y) (c_L_isSample_y (latX S) (latY S) S Y))))))) (B + 15) := by
  have AA := A
  obtain ⟨I, hC, hd, hy⟩ := A
  by_cases c : S.1 21 = 0
  · rw [if_pos c, if_pos c, if_pos c]
    exact ⟨rfl, I.mono (by omega), hC, hd, hy⟩
  · rw [if_neg c, if_neg c, if_neg c]
    by_cases c2 : 255 < latX S + 1
    · rw [if_pos c2, if_pos c2, if_pos c2]
      exact ⟨rfl, I.mono (by omega), hC, hd, hy⟩
    · rw [if_neg c2, if_neg c2, if_neg c2]
      have hl : (0 ≤ (latX S).toInt ∧ (latX S).toInt ≤ 255) ∧ (0 ≤ (latY S).toInt ∧ (latY S).toInt ≤ 255) := by
        unfold latX latY
        rw [if_neg c, if_neg c]
        rcases I.2.2.2.2.2.1 with q | q
        · exact absurd (ti_eq.mpr q) c
        · exact q
      have e1 : (latX S + 1).toInt = (latX S).toInt + 1 := i_1 (by omega)
      have c2' := nlt_iff.mp c2
      rw [z255, e1] at c2'
      have hp1 : rgP (latX S) (latY S) := hl
      have hp2 : rgP (latX S + 1) (latY S) := ⟨by omega, hl.2⟩
      have g1 := samp_step (Y := Y) I (by omega) hp1 hd hy
      have g2 := samp_step (Y := c_X4_sample_y (latX S) (latY S) S Y) g1.2.1 (by omega) hp2 g1.2.2.2.1 g1.2.2.2.2
      have g3 := samp_step (Y := c_X4_sample_y (latX S + 1) (latY S) (c_X4_sample_1 (latX S) (latY S) S Y) (c_X4_sample_y (latX S) (latY S) S Y)) g2.2.1 (by omega) hp1 g2.2.2.2.1 g2.2.2.2.2
      have d10 : ¬ (1 : Int32) = 0 := by decide
      unfold c_L_isSample_1 c_L_isSample_y
      rw [g1.1, if_neg d10, if_neg d10, if_neg d10, g2.1, if_neg d10, if_neg d10, if_neg d10, g3.1, if_neg d10]
      exact ⟨rfl, g3.2.1.mono (by omega), g3.2.2⟩
theorem clamp_go {S : SS} {Y : HS} {B : Int} (A : AL S Y B) (hB : B ≤ 9000) (u1 u2 : Int32) {xc : Int32} (hx : 0 ≤ xc.toInt ∧ xc.toInt ≤ 255) : GO (r_L_does_at821 u1 u2 S Y xc) (c_L_does_1_at821 u1 u2 S Y xc) (c_L_does_y_at821 u1 u2 S Y xc) (B + 15) := by
  obtain ⟨I, hC, hd, hy⟩ := A
  have g : ∀ yc : Int32, (0 ≤ yc.toInt ∧ yc.toInt ≤ 255) → GO (r_L_does_at846 u1 u2 S Y yc xc) (c_L_does_1_at846 u1 u2 S Y yc xc) (c_L_does_y_at846 u1 u2 S Y yc xc) (B + 15) := fun yc h => (samp_step (Y := Y) I (by omega) ⟨hx, h⟩ hd hy).mono (by omega)
  unfold r_L_does_at821 c_L_does_1_at821 c_L_does_y_at821
  obtain ⟨w, ew⟩ : ∃ w, S.1 8 / 16 + r_L_low (u2 >>> ((6 : Int32) &&& 31)) 41 - 20 = w := ⟨_, rfl⟩
  rw [ew]
  by_cases c : w < 0
  · rw [if_pos c, if_pos c, if_pos c]
    exact g 0 (by decide)
  · rw [if_neg c, if_neg c, if_neg c]
    by_cases c2 : 255 < w
    · rw [if_pos c2, if_pos c2, if_pos c2]
      exact g 255 (by decide)
    · rw [if_neg c2, if_neg c2, if_neg c2]
      have c' := nlt_iff.mp c
      have c2' := nlt_iff.mp c2
      rw [z0] at c'
      rw [z255] at c2'
      exact g w ⟨c', c2'⟩
theorem GO_ite {c : Prop} [Decidable c] {r1 r2 : Int32} {S1 S2 : SS} {Y1 Y2 : HS} {B : Int} (h1 : c → GO r1 S1 Y1 B) (h2 : ¬ c → GO r2 S2 Y2 B) : GO (if c then r1 else r2) (if c then S1 else S2) (if c then Y1 else Y2) B := by
  by_cases h : c
  · rw [if_pos h, if_pos h, if_pos h]
    exact h1 h
  · rw [if_neg h, if_neg h, if_neg h]
    exact h2 h
theorem one_n : ∀ j, j < 68 → (1 + nI j).toInt = 1 + j := by decide +kernel
theorem does_73 {S : SS} {Y : HS} {B : Int} (A : AL S Y B) (hB : B ≤ 9000) (u1 u2 : Int32) {v : Int32} (hv : v = r_X3_isDown (r_L_low (u1 >>> ((4 : Int32) &&& 31)) 9) S) : GO (r_L_does_at73 u1 u2 S Y v) (c_L_does_1_at73 u1 u2 S Y v) (c_L_does_y_at73 u1 u2 S Y v) (B + 15) := by
  obtain ⟨b, hb, eb⟩ := low_n (v := u1 >>> ((4 : Int32) &&& 31)) (n := 9) (m := 9) rfl (by omega) (by omega)
  obtain ⟨j, hj, ej⟩ := low_n (v := u1 >>> ((4 : Int32) &&& 31)) (n := 7) (m := 7) rfl (by omega) (by omega)
  rw [eb] at hv
  have z60 : (60 : Int32).toInt = 60 := rfl
  have z64 : (64 : Int32).toInt = 64 := rfl
  have z30 : (30 : Int32).toInt = 30 := rfl
  have z21 : (21 : Int32).toInt = 21 := rfl
  have z68 : (68 : Int32).toInt = 68 := rfl
  have z101 : (101 : Int32).toInt = 101 := rfl
  have z9 : (9 : Int32).toInt = 9 := rfl
  have z256 : (256 : Int32).toInt = 256 := rfl
  have lb := fun n => low_b (v := u2) (n := n)
  have setj : ∀ (i : Nat), i < 7 → nI j = nI i → ∀ w : Int32, (tabL i).toInt ≤ w.toInt ∧ w.toInt ≤ (tabM i).toInt → GO (r_L_does_at249 u1 u2 S Y w) (c_L_does_1_at249 u1 u2 S Y w) (c_L_does_y_at249 u1 u2 S Y w) (B + 15) := fun i hi e w hw => (set_go A hB hi (ej.trans e) hw).mono (by omega)
  have hol : GO (if r_X4_hold (r_L_low u2 256) (r_L_low (u2 >>> ((8 : Int32) &&& 31)) 256) (1 + r_L_low (u1 >>> ((4 : Int32) &&& 31)) 15) S Y = 1000 * ((c_X4_hold_1 (r_L_low u2 256) (r_L_low (u2 >>> ((8 : Int32) &&& 31)) 256) (1 + r_L_low (u1 >>> ((4 : Int32) &&& 31)) 15) S Y).1 14 + 100) + ((c_X4_hold_1 (r_L_low u2 256) (r_L_low (u2 >>> ((8 : Int32) &&& 31)) 256) (1 + r_L_low (u1 >>> ((4 : Int32) &&& 31)) 15) S Y).1 15 + 100) then (if (c_X4_hold_1 (r_L_low u2 256) (r_L_low (u2 >>> ((8 : Int32) &&& 31)) 256) (1 + r_L_low (u1 >>> ((4 : Int32) &&& 31)) 15) S Y).1 21 = S.1 21 + (1 + r_L_low (u1 >>> ((4 : Int32) &&& 31)) 15) then 1 else 0) else 0) (c_X4_hold_1 (r_L_low u2 256) (r_L_low (u2 >>> ((8 : Int32) &&& 31)) 256) (1 + r_L_low (u1 >>> ((4 : Int32) &&& 31)) 15) S Y) (c_X4_hold_y (r_L_low u2 256) (r_L_low (u2 >>> ((8 : Int32) &&& 31)) 256) (1 + r_L_low (u1 >>> ((4 : Int32) &&& 31)) 15) S Y) (B + 15) := by
    obtain ⟨m, hm, em⟩ := low_n (v := u1 >>> ((4 : Int32) &&& 31)) (n := 15) (m := 15) rfl (by omega) (by omega)
    have l1 := low_b (v := u2) (n := 256) (by decide)
    have l2 := low_b (v := u2 >>> ((8 : Int32) &&& 31)) (n := 256) (by decide)
    rw [z256] at l1 l2
    exact hold_go A hB ⟨by omega, by omega⟩ hm (by rw [em])
  unfold r_L_does_at73 c_L_does_1_at73 c_L_does_y_at73
  rw [eb, ej]
  refine GO_ite (fun _ => ?_) (fun _ => ?_)
  · refine GO_ite (fun e => ?_) (fun n0 => ?_)
    · obtain ⟨a1, a2⟩ := lb 64 (by decide)
      rw [z64] at a2
      have ea : (1 + r_L_low u2 64).toInt = 1 + (r_L_low u2 64).toInt := by rw [ti_add (by rw [z1]; omega) (by rw [z1]; omega), z1]
      exact setj 0 (by omega) e _ ⟨by show 1 ≤ _; omega, by show _ ≤ (64 : Int); omega⟩
    · refine GO_ite (fun e => ?_) (fun n1 => ?_)
      · obtain ⟨a1, a2⟩ := lb 30 (by decide)
        rw [z30] at a2
        have ea : (1 + r_L_low u2 30).toInt = 1 + (r_L_low u2 30).toInt := by rw [ti_add (by rw [z1]; omega) (by rw [z1]; omega), z1]
        exact setj 1 (by omega) e _ ⟨by show 1 ≤ _; omega, by show _ ≤ (30 : Int); omega⟩
      · refine GO_ite (fun e => ?_) (fun n2 => ?_)
        · obtain ⟨a1, a2⟩ := lb 21 (by decide)
          rw [z21] at a2
          exact setj 2 (by omega) e _ ⟨by show 0 ≤ _; omega, by show _ ≤ (20 : Int); omega⟩
        · refine GO_ite (fun e => ?_) (fun n3 => ?_)
          · obtain ⟨a1, a2⟩ := lb 68 (by decide)
            rw [z68] at a2
            have ea : (60 + r_L_low u2 68).toInt = 60 + (r_L_low u2 68).toInt := by rw [ti_add (by rw [z60]; omega) (by rw [z60]; omega), z60]
            exact setj 3 (by omega) e _ ⟨by show 60 ≤ _; omega, by show _ ≤ (127 : Int); omega⟩
          · refine GO_ite (fun e => ?_) (fun n4 => ?_)
            · obtain ⟨a1, a2⟩ := lb 101 (by decide)
              rw [z101] at a2
              have ea : (100 + r_L_low u2 101).toInt = 100 + (r_L_low u2 101).toInt := by rw [ti_add (by rw [z100]; omega) (by rw [z100]; omega), z100]
              exact setj 4 (by omega) e _ ⟨by show 100 ≤ _; omega, by show _ ≤ (200 : Int); omega⟩
            · refine GO_ite (fun e => ?_) (fun n5 => ?_)
              · obtain ⟨a1, a2⟩ := lb 9 (by decide)
                rw [z9] at a2
                have ea : (2 + r_L_low u2 9).toInt = 2 + (r_L_low u2 9).toInt := by rw [ti_add (by rw [z2]; omega) (by rw [z2]; omega), z2]
                exact setj 5 (by omega) e _ ⟨by show 2 ≤ _; omega, by show _ ≤ (60 : Int); omega⟩
              · obtain ⟨a1, a2⟩ := lb 21 (by decide)
                rw [z21] at a2
                have e6 : j = 6 := by
                  have k0 := mt (nI_eq (a := j) (b := 0) (by omega) (by omega)).mpr n0
                  have k1 := mt (nI_eq (a := j) (b := 1) (by omega) (by omega)).mpr n1
                  have k2 := mt (nI_eq (a := j) (b := 2) (by omega) (by omega)).mpr n2
                  have k3 := mt (nI_eq (a := j) (b := 3) (by omega) (by omega)).mpr n3
                  have k4 := mt (nI_eq (a := j) (b := 4) (by omega) (by omega)).mpr n4
                  have k5 := mt (nI_eq (a := j) (b := 5) (by omega) (by omega)).mpr n5
                  omega
                exact setj 6 (by omega) (by rw [e6]) _ ⟨by show 0 ≤ _; omega, by show _ ≤ (20 : Int); omega⟩
  · refine GO_ite (fun _ => (press_go A hb hv).mono (by omega)) (fun _ => ?_)
    refine GO_ite (fun _ => (let_go A hb hv).mono (by omega)) (fun _ => ?_)
    refine GO_ite (fun _ => ?_) (fun _ => ?_)
    · exact GO_ite (fun _ => (reset_go A).mono (by omega)) (fun _ => ⟨rfl, A.1.mono (by omega), A.2⟩)
    · refine GO_ite (fun _ => hol) (fun _ => ?_)
      refine GO_ite (fun _ => hol) (fun _ => ?_)
      refine GO_ite (fun _ => hol) (fun _ => ?_)
      refine GO_ite (fun _ => three_go A hB) (fun _ => ?_)
      refine GO_ite (fun _ => three_go A hB) (fun _ => ?_)
      refine GO_ite (fun _ => clamp_go A hB u1 u2 (by decide)) (fun c => ?_)
      refine GO_ite (fun _ => clamp_go A hB u1 u2 (by decide)) (fun c2 => ?_)
      have c' := nlt_iff.mp c
      have c2' := nlt_iff.mp c2
      rw [z0] at c'
      rw [z255] at c2'
      exact clamp_go A hB u1 u2 ⟨c', c2'⟩
theorem does_go {S : SS} {Y : HS} {B : Int} (A : AL S Y B) (hB : B ≤ 9000) (u1 u2 : Int32) : GO (r_L_does u1 u2 S Y) (c_L_does_1 u1 u2 S Y) (c_L_does_y u1 u2 S Y) (B + 15) := by
  unfold r_L_does c_L_does_1 c_L_does_y
  refine GO_ite (fun c => does_73 A hB u1 u2 ?_) (fun c => does_73 A hB u1 u2 ?_)
  · unfold r_X3_isDown
    rw [if_pos c]
  · unfold r_X3_isDown
    rw [if_neg c]
