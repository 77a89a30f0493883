theorem samp_hz {x y : Int32} {S : SS} {Y : HS} (h : ¬ S.2.1 0 = 0) : ¬ (c_X4_sample_1 x y S Y).2.1 0 = 0 := by
  rw [samp_st]
  exact h
theorem set_hy {k v : Int32} {S : SS} {Y : HS} (h : Y.1 < 6 ∧ Y.2.1 ≤ 6) : (c_X4_set_y k v S Y).1 < 6 ∧ (c_X4_set_y k v S Y).2.1 ≤ 6 := by
  unfold c_X4_set_y
  repeat' split
  all_goals first | exact h | exact keep_hy S h
theorem set_ku {k v : Int32} {S : SS} {Y : HS} (h : ¬ S.2.2.1 0 < 0) : ¬ (c_X4_set_1 k v S Y).2.2.1 0 < 0 := by
  unfold c_X4_set_1 c_X3_changeSetting c_X3_changeSetting_at47
  repeat' split
  all_goals exact h
theorem set_hz {k v : Int32} {S : SS} {Y : HS} (h : ¬ S.2.1 0 = 0) : ¬ (c_X4_set_1 k v S Y).2.1 0 = 0 := by
  unfold c_X4_set_1 c_X3_changeSetting c_X3_changeSetting_at47
  split
  · exact h
  · split
    · split
      · exact h
      · next c0 c7 c1 =>
        split
        · exact h
        · show ¬ upd S.2.1 k.toNatClampNeg v 0 = 0
          by_cases e : 0 = k.toNatClampNeg
          · rw [e, upd_eq]
            rw [← e] at c1
            intro q
            rw [q] at c1
            exact c1 (by decide)
          · rw [upd_lo e]
            exact h
    · exact h
theorem ite_01 {c : Prop} [Decidable c] {a b : Int32} (ha : a = 0 ∨ a = 1) (hb : b = 0 ∨ b = 1) : (if c then a else b) = 0 ∨ (if c then a else b) = 1 := by
  split
  · exact ha
  · exact hb
theorem samp764_01 (x y : Int32) (S : SS) (Y : HS) (v : Int32) : r_L_isSample_at764 x y S Y v = 0 ∨ r_L_isSample_at764 x y S Y v = 1 := by
  unfold r_L_isSample_at764
  repeat' (with_reducible refine ite_01 ?_ ?_)
  all_goals first | exact Or.inl rfl | exact Or.inr rfl
theorem samp626_01 (x y : Int32) (S : SS) (Y : HS) (v w : Int32) : r_L_isSample_at626 x y S Y v w = 0 ∨ r_L_isSample_at626 x y S Y v w = 1 := by
  unfold r_L_isSample_at626
  repeat' (with_reducible refine ite_01 ?_ ?_)
  all_goals first | with_reducible exact samp764_01 _ _ _ _ _ | exact Or.inl rfl | exact Or.inr rfl
theorem samp568_01 (x y : Int32) (S : SS) (Y : HS) (v : Int32) : r_L_isSample_at568 x y S Y v = 0 ∨ r_L_isSample_at568 x y S Y v = 1 := by
  unfold r_L_isSample_at568
  repeat' (with_reducible refine ite_01 ?_ ?_)
  all_goals exact samp626_01 _ _ _ _ _ _
theorem samp351_01 (x y : Int32) (S : SS) (Y : HS) (v : Int32) : r_L_isSample_at351 x y S Y v = 0 ∨ r_L_isSample_at351 x y S Y v = 1 := by
  unfold r_L_isSample_at351
  repeat' (with_reducible refine ite_01 ?_ ?_)
  all_goals first | exact Or.inl rfl | exact Or.inr rfl
theorem samp171_01 (x y : Int32) (S : SS) (Y : HS) (v w : Int32) : r_L_isSample_at171 x y S Y v w = 0 ∨ r_L_isSample_at171 x y S Y v w = 1 := by
  unfold r_L_isSample_at171
  repeat' (with_reducible refine ite_01 ?_ ?_)
  all_goals first | with_reducible exact samp568_01 _ _ _ _ _ | with_reducible exact samp351_01 _ _ _ _ _ | exact Or.inl rfl | exact Or.inr rfl
theorem samp126_01 (x y : Int32) (S : SS) (Y : HS) (v : Int32) : r_L_isSample_at126 x y S Y v = 0 ∨ r_L_isSample_at126 x y S Y v = 1 := by
  unfold r_L_isSample_at126
  repeat' (with_reducible refine ite_01 ?_ ?_)
  all_goals exact samp171_01 _ _ _ _ _ _
theorem samp_01 (x y : Int32) (S : SS) (Y : HS) : r_L_isSample x y S Y = 0 ∨ r_L_isSample x y S Y = 1 := by
  unfold r_L_isSample
  repeat' (with_reducible refine ite_01 ?_ ?_)
  all_goals exact samp126_01 _ _ _ _ _
theorem and_nn (v : Int32) : 0 ≤ (v &&& 2147483647).toInt := by
  obtain ⟨k, hk, e⟩ : ∃ k, k < 2147483648 ∧ v &&& 2147483647 = nI k := by
    refine ⟨(v &&& 2147483647).toBitVec.toNat, ?_, Int32.toBitVec_inj.mp (by
      show _ = BitVec.ofNat 32 _
      simp)⟩
    have h : (v &&& 2147483647).toBitVec.toNat = v.toBitVec.toNat &&& 2147483647 := by
      rw [Int32.toBitVec_and, BitVec.toNat_and]
      rfl
    rw [h]
    have := Nat.and_le_right (n := v.toBitVec.toNat) (m := 2147483647)
    omega
  rw [e]
  exact i_nn' (nI_pos hk)
theorem low_is {v n : Int32} (hn : 1 ≤ n.toInt) : (r_L_low v n).toInt = (v &&& 2147483647).toInt % n.toInt := by
  have h0 := and_nn v
  obtain ⟨a, ea⟩ : ∃ a, v &&& 2147483647 = a := ⟨_, rfl⟩
  unfold r_L_low
  rw [ea] at h0 ⊢
  have hr := ti_rng a
  have e1 : (a / n).toInt = a.toInt / n.toInt := by rw [div_toInt (by omega), Int.tdiv_eq_ediv_of_nonneg h0]
  have e2 := Int.mul_ediv_add_emod a.toInt n.toInt
  have e3 := Int.emod_nonneg a.toInt (show n.toInt ≠ 0 by omega)
  have e5 : a.toInt / n.toInt * n.toInt = n.toInt * (a.toInt / n.toInt) := Int.mul_comm _ _
  have e4 : (a / n * n).toInt = n.toInt * (a.toInt / n.toInt) := by
    have h5 : 0 ≤ n.toInt * (a.toInt / n.toInt) := Int.mul_nonneg (by omega) (Int.ediv_nonneg h0 (by omega))
    rw [ti_mul (by rw [e1]; omega) (by rw [e1]; omega), e1]
    exact e5
  have h5 : 0 ≤ n.toInt * (a.toInt / n.toInt) := Int.mul_nonneg (by omega) (Int.ediv_nonneg h0 (by omega))
  rw [ti_sub (by rw [e4]; omega) (by rw [e4]; omega), e4]
  omega
theorem low_b {v n : Int32} (hn : 1 ≤ n.toInt) : 0 ≤ (r_L_low v n).toInt ∧ (r_L_low v n).toInt < n.toInt := by
  rw [low_is hn]
  exact ⟨Int.emod_nonneg _ (by omega), Int.emod_lt_of_pos _ (by omega)⟩
theorem low_7 (v : Int32) : ∃ j, j < 7 ∧ r_L_low v 7 = nI j := by
  obtain ⟨h1, h2⟩ := low_b (v := v) (n := 7) (by decide)
  have z7 : (7 : Int32).toInt = 7 := rfl
  rw [z7] at h2
  refine ⟨(r_L_low v 7).toInt.toNat, by omega, ti_eq.mpr ?_⟩
  rw [nI_toInt (by omega)]
  omega
theorem count_j (S : SS) (h : Nat → Int32) (y : HS) : ∀ j, j < 7 → r_X4_count (10 + nI j) S h y = S.2.1 j := by
  intro j hj
  match j, hj with
  | 0, _ => rfl
  | 1, _ => rfl
  | 2, _ => rfl
  | 3, _ => rfl
  | 4, _ => rfl
  | 5, _ => rfl
  | 6, _ => rfl
  | _ + 7, h => exact absurd h (by omega)
theorem count_lo (u : Int32) (S : SS) (h : Nat → Int32) (y : HS) : r_X4_count (10 + r_L_low u 7) S h y = S.2.1 (r_L_low u 7).toNatClampNeg := by
  obtain ⟨j, hj, e⟩ := low_7 u
  rw [e, count_j S h y j hj, nI_clamp (by omega)]
abbrev R_L_does : Room := { frames := 8, cells := 18, slots := 171, locals := 204 }
def r_L_does_at846 (u1 : Int32) (u2 : Int32) (S : SS) (y : HS) (v1 : Int32) (xc : Int32) : Int32 := (r_L_isSample xc v1 S y)
def c_L_does_1_at846 (u1 : Int32) (u2 : Int32) (S : SS) (y : HS) (v1 : Int32) (xc : Int32) : SS := (c_L_isSample_1 xc v1 S y)
def c_L_does_y_at846 (u1 : Int32) (u2 : Int32) (S : SS) (y : HS) (v1 : Int32) (xc : Int32) : HS := (c_L_isSample_y xc v1 S y)
def r_L_does_at821 (u1 : Int32) (u2 : Int32) (S : SS) (y : HS) (v : Int32) : Int32 := if ((((S.1 8) / 16) + (r_L_low (u2 >>> ((6 : Int32) &&& 31)) 41)) - 20) < 0 then (r_L_does_at846 u1 u2 S y 0 v) else (if 255 < ((((S.1 8) / 16) + (r_L_low (u2 >>> ((6 : Int32) &&& 31)) 41)) - 20) then (r_L_does_at846 u1 u2 S y 255 v) else (r_L_does_at846 u1 u2 S y ((((S.1 8) / 16) + (r_L_low (u2 >>> ((6 : Int32) &&& 31)) 41)) - 20) v))
def c_L_does_1_at821 (u1 : Int32) (u2 : Int32) (S : SS) (y : HS) (v : Int32) : SS := if ((((S.1 8) / 16) + (r_L_low (u2 >>> ((6 : Int32) &&& 31)) 41)) - 20) < 0 then (c_L_does_1_at846 u1 u2 S y 0 v) else (if 255 < ((((S.1 8) / 16) + (r_L_low (u2 >>> ((6 : Int32) &&& 31)) 41)) - 20) then (c_L_does_1_at846 u1 u2 S y 255 v) else (c_L_does_1_at846 u1 u2 S y ((((S.1 8) / 16) + (r_L_low (u2 >>> ((6 : Int32) &&& 31)) 41)) - 20) v))
def c_L_does_y_at821 (u1 : Int32) (u2 : Int32) (S : SS) (y : HS) (v : Int32) : HS := if ((((S.1 8) / 16) + (r_L_low (u2 >>> ((6 : Int32) &&& 31)) 41)) - 20) < 0 then (c_L_does_y_at846 u1 u2 S y 0 v) else (if 255 < ((((S.1 8) / 16) + (r_L_low (u2 >>> ((6 : Int32) &&& 31)) 41)) - 20) then (c_L_does_y_at846 u1 u2 S y 255 v) else (c_L_does_y_at846 u1 u2 S y ((((S.1 8) / 16) + (r_L_low (u2 >>> ((6 : Int32) &&& 31)) 41)) - 20) v))
def r_L_does_at249 (u1 : Int32) (u2 : Int32) (S : SS) (y : HS) (v : Int32) : Int32 := if (r_X4_set (r_L_low (u1 >>> ((4 : Int32) &&& 31)) 7) v S y) = (S.2.1 (r_L_low (u1 >>> ((4 : Int32) &&& 31)) 7).toNatClampNeg) then (if ((c_X4_set_1 (r_L_low (u1 >>> ((4 : Int32) &&& 31)) 7) v S y).2.1 (r_L_low (u1 >>> ((4 : Int32) &&& 31)) 7).toNatClampNeg) = v then (if (r_L_low (u1 >>> ((4 : Int32) &&& 31)) 7) = 1 then (if ((c_X4_set_1 (r_L_low (u1 >>> ((4 : Int32) &&& 31)) 7) v S y).1 9) = ((c_X4_set_1 (r_L_low (u1 >>> ((4 : Int32) &&& 31)) 7) v S y).2.1 1) then (if (r_L_isSample (r_L_low (u2 >>> ((3 : Int32) &&& 31)) 256) (r_L_low (u2 >>> ((11 : Int32) &&& 31)) 256) (c_X4_set_1 (r_L_low (u1 >>> ((4 : Int32) &&& 31)) 7) v S y) (c_X4_set_y (r_L_low (u1 >>> ((4 : Int32) &&& 31)) 7) v S y)) = 0 then 0 else 1) else 0) else (if (r_L_low (u1 >>> ((4 : Int32) &&& 31)) 7) = 2 then (if ((c_X4_set_1 (r_L_low (u1 >>> ((4 : Int32) &&& 31)) 7) v S y).1 9) = ((c_X4_set_1 (r_L_low (u1 >>> ((4 : Int32) &&& 31)) 7) v S y).2.1 1) then (if (r_L_isSample (r_L_low (u2 >>> ((3 : Int32) &&& 31)) 256) (r_L_low (u2 >>> ((11 : Int32) &&& 31)) 256) (c_X4_set_1 (r_L_low (u1 >>> ((4 : Int32) &&& 31)) 7) v S y) (c_X4_set_y (r_L_low (u1 >>> ((4 : Int32) &&& 31)) 7) v S y)) = 0 then 0 else 1) else 0) else (if ((c_X4_set_1 (r_L_low (u1 >>> ((4 : Int32) &&& 31)) 7) v S y).1 9) = (S.1 9) then (if (r_L_isSample (r_L_low (u2 >>> ((3 : Int32) &&& 31)) 256) (r_L_low (u2 >>> ((11 : Int32) &&& 31)) 256) (c_X4_set_1 (r_L_low (u1 >>> ((4 : Int32) &&& 31)) 7) v S y) (c_X4_set_y (r_L_low (u1 >>> ((4 : Int32) &&& 31)) 7) v S y)) = 0 then 0 else 1) else 0))) else 0) else 0
def c_L_does_1_at249 (u1 : Int32) (u2 : Int32) (S : SS) (y : HS) (v : Int32) : SS := if (r_X4_set (r_L_low (u1 >>> ((4 : Int32) &&& 31)) 7) v S y) = (S.2.1 (r_L_low (u1 >>> ((4 : Int32) &&& 31)) 7).toNatClampNeg) then (if ((c_X4_set_1 (r_L_low (u1 >>> ((4 : Int32) &&& 31)) 7) v S y).2.1 (r_L_low (u1 >>> ((4 : Int32) &&& 31)) 7).toNatClampNeg) = v then (if (r_L_low (u1 >>> ((4 : Int32) &&& 31)) 7) = 1 then (if ((c_X4_set_1 (r_L_low (u1 >>> ((4 : Int32) &&& 31)) 7) v S y).1 9) = ((c_X4_set_1 (r_L_low (u1 >>> ((4 : Int32) &&& 31)) 7) v S y).2.1 1) then (c_L_isSample_1 (r_L_low (u2 >>> ((3 : Int32) &&& 31)) 256) (r_L_low (u2 >>> ((11 : Int32) &&& 31)) 256) (c_X4_set_1 (r_L_low (u1 >>> ((4 : Int32) &&& 31)) 7) v S y) (c_X4_set_y (r_L_low (u1 >>> ((4 : Int32) &&& 31)) 7) v S y)) else (c_X4_set_1 (r_L_low (u1 >>> ((4 : Int32) &&& 31)) 7) v S y)) else (if (r_L_low (u1 >>> ((4 : Int32) &&& 31)) 7) = 2 then (if ((c_X4_set_1 (r_L_low (u1 >>> ((4 : Int32) &&& 31)) 7) v S y).1 9) = ((c_X4_set_1 (r_L_low (u1 >>> ((4 : Int32) &&& 31)) 7) v S y).2.1 1) then (c_L_isSample_1 (r_L_low (u2 >>> ((3 : Int32) &&& 31)) 256) (r_L_low (u2 >>> ((11 : Int32) &&& 31)) 256) (c_X4_set_1 (r_L_low (u1 >>> ((4 : Int32) &&& 31)) 7) v S y) (c_X4_set_y (r_L_low (u1 >>> ((4 : Int32) &&& 31)) 7) v S y)) else (c_X4_set_1 (r_L_low (u1 >>> ((4 : Int32) &&& 31)) 7) v S y)) else (if ((c_X4_set_1 (r_L_low (u1 >>> ((4 : Int32) &&& 31)) 7) v S y).1 9) = (S.1 9) then (c_L_isSample_1 (r_L_low (u2 >>> ((3 : Int32) &&& 31)) 256) (r_L_low (u2 >>> ((11 : Int32) &&& 31)) 256) (c_X4_set_1 (r_L_low (u1 >>> ((4 : Int32) &&& 31)) 7) v S y) (c_X4_set_y (r_L_low (u1 >>> ((4 : Int32) &&& 31)) 7) v S y)) else (c_X4_set_1 (r_L_low (u1 >>> ((4 : Int32) &&& 31)) 7) v S y)))) else (c_X4_set_1 (r_L_low (u1 >>> ((4 : Int32) &&& 31)) 7) v S y)) else (c_X4_set_1 (r_L_low (u1 >>> ((4 : Int32) &&& 31)) 7) v S y)
def c_L_does_y_at249 (u1 : Int32) (u2 : Int32) (S : SS) (y : HS) (v : Int32) : HS := if (r_X4_set (r_L_low (u1 >>> ((4 : Int32) &&& 31)) 7) v S y) = (S.2.1 (r_L_low (u1 >>> ((4 : Int32) &&& 31)) 7).toNatClampNeg) then (if ((c_X4_set_1 (r_L_low (u1 >>> ((4 : Int32) &&& 31)) 7) v S y).2.1 (r_L_low (u1 >>> ((4 : Int32) &&& 31)) 7).toNatClampNeg) = v then (if (r_L_low (u1 >>> ((4 : Int32) &&& 31)) 7) = 1 then (if ((c_X4_set_1 (r_L_low (u1 >>> ((4 : Int32) &&& 31)) 7) v S y).1 9) = ((c_X4_set_1 (r_L_low (u1 >>> ((4 : Int32) &&& 31)) 7) v S y).2.1 1) then (c_L_isSample_y (r_L_low (u2 >>> ((3 : Int32) &&& 31)) 256) (r_L_low (u2 >>> ((11 : Int32) &&& 31)) 256) (c_X4_set_1 (r_L_low (u1 >>> ((4 : Int32) &&& 31)) 7) v S y) (c_X4_set_y (r_L_low (u1 >>> ((4 : Int32) &&& 31)) 7) v S y)) else (c_X4_set_y (r_L_low (u1 >>> ((4 : Int32) &&& 31)) 7) v S y)) else (if (r_L_low (u1 >>> ((4 : Int32) &&& 31)) 7) = 2 then (if ((c_X4_set_1 (r_L_low (u1 >>> ((4 : Int32) &&& 31)) 7) v S y).1 9) = ((c_X4_set_1 (r_L_low (u1 >>> ((4 : Int32) &&& 31)) 7) v S y).2.1 1) then (c_L_isSample_y (r_L_low (u2 >>> ((3 : Int32) &&& 31)) 256) (r_L_low (u2 >>> ((11 : Int32) &&& 31)) 256) (c_X4_set_1 (r_L_low (u1 >>> ((4 : Int32) &&& 31)) 7) v S y) (c_X4_set_y (r_L_low (u1 >>> ((4 : Int32) &&& 31)) 7) v S y)) else (c_X4_set_y (r_L_low (u1 >>> ((4 : Int32) &&& 31)) 7) v S y)) else (if ((c_X4_set_1 (r_L_low (u1 >>> ((4 : Int32) &&& 31)) 7) v S y).1 9) = (S.1 9) then (c_L_isSample_y (r_L_low (u2 >>> ((3 : Int32) &&& 31)) 256) (r_L_low (u2 >>> ((11 : Int32) &&& 31)) 256) (c_X4_set_1 (r_L_low (u1 >>> ((4 : Int32) &&& 31)) 7) v S y) (c_X4_set_y (r_L_low (u1 >>> ((4 : Int32) &&& 31)) 7) v S y)) else (c_X4_set_y (r_L_low (u1 >>> ((4 : Int32) &&& 31)) 7) v S y)))) else (c_X4_set_y (r_L_low (u1 >>> ((4 : Int32) &&& 31)) 7) v S y)) else (c_X4_set_y (r_L_low (u1 >>> ((4 : Int32) &&& 31)) 7) v S y)
def r_L_does_at73 (u1 : Int32) (u2 : Int32) (S : SS) (y : HS) (v : Int32) : Int32 := if (r_L_low u1 18) = 0 then (if (r_L_low (u1 >>> ((4 : Int32) &&& 31)) 7) = 0 then (r_L_does_at249 u1 u2 S y (1 + (r_L_low u2 64))) else (if (r_L_low (u1 >>> ((4 : Int32) &&& 31)) 7) = 1 then (r_L_does_at249 u1 u2 S y (1 + (r_L_low u2 30))) else (if (r_L_low (u1 >>> ((4 : Int32) &&& 31)) 7) = 2 then (r_L_does_at249 u1 u2 S y (r_L_low u2 21)) else (if (r_L_low (u1 >>> ((4 : Int32) &&& 31)) 7) = 3 then (r_L_does_at249 u1 u2 S y (60 + (r_L_low u2 68))) else (if (r_L_low (u1 >>> ((4 : Int32) &&& 31)) 7) = 4 then (r_L_does_at249 u1 u2 S y (100 + (r_L_low u2 101))) else (if (r_L_low (u1 >>> ((4 : Int32) &&& 31)) 7) = 5 then (r_L_does_at249 u1 u2 S y (2 + (r_L_low u2 9))) else (r_L_does_at249 u1 u2 S y (r_L_low u2 21)))))))) else (if (r_L_low u1 18) = 1 then (if 7 < (r_L_low (u1 >>> ((4 : Int32) &&& 31)) 9) then (if (r_X4_press (r_L_low (u1 >>> ((4 : Int32) &&& 31)) 9) S y) = (-1) then 1 else 0) else (if v = 0 then (if (r_X4_press (r_L_low (u1 >>> ((4 : Int32) &&& 31)) 9) S y) = ((c_X4_press_1 (r_L_low (u1 >>> ((4 : Int32) &&& 31)) 9) S y).1 18) then (if (((r_X4_press (r_L_low (u1 >>> ((4 : Int32) &&& 31)) 9) S y) >>> ((r_L_low (u1 >>> ((4 : Int32) &&& 31)) 9) &&& 31)) &&& 1) = 1 then (if ((c_X4_press_1 (r_L_low (u1 >>> ((4 : Int32) &&& 31)) 9) S y).1 13) = ((c_X4_press_1 (r_L_low (u1 >>> ((4 : Int32) &&& 31)) 9) S y).2.1 6) then 1 else 0) else 0) else 0) else (if (r_X4_press (r_L_low (u1 >>> ((4 : Int32) &&& 31)) 9) S y) = (-5) then (if ((c_X4_press_1 (r_L_low (u1 >>> ((4 : Int32) &&& 31)) 9) S y).1 13) = (S.1 13) then 1 else 0) else 0))) else (if (r_L_low u1 18) = 2 then (if 7 < (r_L_low (u1 >>> ((4 : Int32) &&& 31)) 9) then (if (r_X4_letUp (r_L_low (u1 >>> ((4 : Int32) &&& 31)) 9) S y) = (-1) then 1 else 0) else (if v = 0 then (if (r_X4_letUp (r_L_low (u1 >>> ((4 : Int32) &&& 31)) 9) S y) = (-5) then 1 else 0) else (if (r_X4_letUp (r_L_low (u1 >>> ((4 : Int32) &&& 31)) 9) S y) = ((c_X4_letUp_1 (r_L_low (u1 >>> ((4 : Int32) &&& 31)) 9) S y).1 18) then (if (((r_X4_letUp (r_L_low (u1 >>> ((4 : Int32) &&& 31)) 9) S y) >>> ((r_L_low (u1 >>> ((4 : Int32) &&& 31)) 9) &&& 31)) &&& 1) = 0 then 1 else 0) else 0))) else (if (r_L_low u1 18) = 3 then (if ((u1 >>> ((4 : Int32) &&& 31)) &&& 3) = 0 then (if (r_X4_reset S y) = ((r_L_size ((S.1 7) - 2048)) + (r_L_size ((S.1 8) - 2048))) then (if ((c_X4_reset_1 S y).1 7) = 2048 then (if ((c_X4_reset_1 S y).1 8) = 2048 then (if ((c_X4_reset_1 S y).1 9) = ((c_X4_reset_1 S y).2.1 1) then (if ((c_X4_reset_1 S y).1 12) = 0 then 1 else 0) else 0) else 0) else 0) else 0) else 1) else (if (r_L_low u1 18) = 4 then (if (r_X4_hold (r_L_low u2 256) (r_L_low (u2 >>> ((8 : Int32) &&& 31)) 256) (1 + (r_L_low (u1 >>> ((4 : Int32) &&& 31)) 15)) S y) = ((1000 * (((c_X4_hold_1 (r_L_low u2 256) (r_L_low (u2 >>> ((8 : Int32) &&& 31)) 256) (1 + (r_L_low (u1 >>> ((4 : Int32) &&& 31)) 15)) S y).1 14) + 100)) + (((c_X4_hold_1 (r_L_low u2 256) (r_L_low (u2 >>> ((8 : Int32) &&& 31)) 256) (1 + (r_L_low (u1 >>> ((4 : Int32) &&& 31)) 15)) S y).1 15) + 100)) then (if ((c_X4_hold_1 (r_L_low u2 256) (r_L_low (u2 >>> ((8 : Int32) &&& 31)) 256) (1 + (r_L_low (u1 >>> ((4 : Int32) &&& 31)) 15)) S y).1 21) = ((S.1 21) + (1 + (r_L_low (u1 >>> ((4 : Int32) &&& 31)) 15))) then 1 else 0) else 0) else (if (r_L_low u1 18) = 5 then (if (r_X4_hold (r_L_low u2 256) (r_L_low (u2 >>> ((8 : Int32) &&& 31)) 256) (1 + (r_L_low (u1 >>> ((4 : Int32) &&& 31)) 15)) S y) = ((1000 * (((c_X4_hold_1 (r_L_low u2 256) (r_L_low (u2 >>> ((8 : Int32) &&& 31)) 256) (1 + (r_L_low (u1 >>> ((4 : Int32) &&& 31)) 15)) S y).1 14) + 100)) + (((c_X4_hold_1 (r_L_low u2 256) (r_L_low (u2 >>> ((8 : Int32) &&& 31)) 256) (1 + (r_L_low (u1 >>> ((4 : Int32) &&& 31)) 15)) S y).1 15) + 100)) then (if ((c_X4_hold_1 (r_L_low u2 256) (r_L_low (u2 >>> ((8 : Int32) &&& 31)) 256) (1 + (r_L_low (u1 >>> ((4 : Int32) &&& 31)) 15)) S y).1 21) = ((S.1 21) + (1 + (r_L_low (u1 >>> ((4 : Int32) &&& 31)) 15))) then 1 else 0) else 0) else (if (r_L_low u1 18) = 6 then (if (r_X4_hold (r_L_low u2 256) (r_L_low (u2 >>> ((8 : Int32) &&& 31)) 256) (1 + (r_L_low (u1 >>> ((4 : Int32) &&& 31)) 15)) S y) = ((1000 * (((c_X4_hold_1 (r_L_low u2 256) (r_L_low (u2 >>> ((8 : Int32) &&& 31)) 256) (1 + (r_L_low (u1 >>> ((4 : Int32) &&& 31)) 15)) S y).1 14) + 100)) + (((c_X4_hold_1 (r_L_low u2 256) (r_L_low (u2 >>> ((8 : Int32) &&& 31)) 256) (1 + (r_L_low (u1 >>> ((4 : Int32) &&& 31)) 15)) S y).1 15) + 100)) then (if ((c_X4_hold_1 (r_L_low u2 256) (r_L_low (u2 >>> ((8 : Int32) &&& 31)) 256) (1 + (r_L_low (u1 >>> ((4 : Int32) &&& 31)) 15)) S y).1 21) = ((S.1 21) + (1 + (r_L_low (u1 >>> ((4 : Int32) &&& 31)) 15))) then 1 else 0) else 0) else (if (r_L_low u1 18) = 7 then (if (S.1 21) = 0 then 1 else (if 255 < ((latX S) + 1) then 1 else (if (r_L_isSample (latX S) (latY S) S y) = 0 then 0 else (if (r_L_isSample ((latX S) + 1) (latY S) (c_L_isSample_1 (latX S) (latY S) S y) (c_L_isSample_y (latX S) (latY S) S y)) = 0 then 0 else (if (r_L_isSample (latX S) (latY S) (c_L_isSample_1 ((latX S) + 1) (latY S) (c_L_isSample_1 (latX S) (latY S) S y) (c_L_isSample_y (latX S) (latY S) S y)) (c_L_isSample_y ((latX S) + 1) (latY S) (c_L_isSample_1 (latX S) (latY S) S y) (c_L_isSample_y (latX S) (latY S) S y))) = 0 then 0 else 1))))) else (if (r_L_low u1 18) = 8 then (if (S.1 21) = 0 then 1 else (if 255 < ((latX S) + 1) then 1 else (if (r_L_isSample (latX S) (latY S) S y) = 0 then 0 else (if (r_L_isSample ((latX S) + 1) (latY S) (c_L_isSample_1 (latX S) (latY S) S y) (c_L_isSample_y (latX S) (latY S) S y)) = 0 then 0 else (if (r_L_isSample (latX S) (latY S) (c_L_isSample_1 ((latX S) + 1) (latY S) (c_L_isSample_1 (latX S) (latY S) S y) (c_L_isSample_y (latX S) (latY S) S y)) (c_L_isSample_y ((latX S) + 1) (latY S) (c_L_isSample_1 (latX S) (latY S) S y) (c_L_isSample_y (latX S) (latY S) S y))) = 0 then 0 else 1))))) else (if ((((S.1 7) / 16) + (r_L_low u2 41)) - 20) < 0 then (r_L_does_at821 u1 u2 S y 0) else (if 255 < ((((S.1 7) / 16) + (r_L_low u2 41)) - 20) then (r_L_does_at821 u1 u2 S y 255) else (r_L_does_at821 u1 u2 S y ((((S.1 7) / 16) + (r_L_low u2 41)) - 20))))))))))))
def c_L_does_1_at73 (u1 : Int32) (u2 : Int32) (S : SS) (y : HS) (v : Int32) : SS := if (r_L_low u1 18) = 0 then (if (r_L_low (u1 >>> ((4 : Int32) &&& 31)) 7) = 0 then (c_L_does_1_at249 u1 u2 S y (1 + (r_L_low u2 64))) else (if (r_L_low (u1 >>> ((4 : Int32) &&& 31)) 7) = 1 then (c_L_does_1_at249 u1 u2 S y (1 + (r_L_low u2 30))) else (if (r_L_low (u1 >>> ((4 : Int32) &&& 31)) 7) = 2 then (c_L_does_1_at249 u1 u2 S y (r_L_low u2 21)) else (if (r_L_low (u1 >>> ((4 : Int32) &&& 31)) 7) = 3 then (c_L_does_1_at249 u1 u2 S y (60 + (r_L_low u2 68))) else (if (r_L_low (u1 >>> ((4 : Int32) &&& 31)) 7) = 4 then (c_L_does_1_at249 u1 u2 S y (100 + (r_L_low u2 101))) else (if (r_L_low (u1 >>> ((4 : Int32) &&& 31)) 7) = 5 then (c_L_does_1_at249 u1 u2 S y (2 + (r_L_low u2 9))) else (c_L_does_1_at249 u1 u2 S y (r_L_low u2 21)))))))) else (if (r_L_low u1 18) = 1 then (c_X4_press_1 (r_L_low (u1 >>> ((4 : Int32) &&& 31)) 9) S y) else (if (r_L_low u1 18) = 2 then (c_X4_letUp_1 (r_L_low (u1 >>> ((4 : Int32) &&& 31)) 9) S y) else (if (r_L_low u1 18) = 3 then (if ((u1 >>> ((4 : Int32) &&& 31)) &&& 3) = 0 then (c_X4_reset_1 S y) else S) else (if (r_L_low u1 18) = 4 then (c_X4_hold_1 (r_L_low u2 256) (r_L_low (u2 >>> ((8 : Int32) &&& 31)) 256) (1 + (r_L_low (u1 >>> ((4 : Int32) &&& 31)) 15)) S y) else (if (r_L_low u1 18) = 5 then (c_X4_hold_1 (r_L_low u2 256) (r_L_low (u2 >>> ((8 : Int32) &&& 31)) 256) (1 + (r_L_low (u1 >>> ((4 : Int32) &&& 31)) 15)) S y) else (if (r_L_low u1 18) = 6 then (c_X4_hold_1 (r_L_low u2 256) (r_L_low (u2 >>> ((8 : Int32) &&& 31)) 256) (1 + (r_L_low (u1 >>> ((4 : Int32) &&& 31)) 15)) S y) else (if (r_L_low u1 18) = 7 then (if (S.1 21) = 0 then S else (if 255 < ((latX S) + 1) then S else (if (r_L_isSample (latX S) (latY S) S y) = 0 then (c_L_isSample_1 (latX S) (latY S) S y) else (if (r_L_isSample ((latX S) + 1) (latY S) (c_L_isSample_1 (latX S) (latY S) S y) (c_L_isSample_y (latX S) (latY S) S y)) = 0 then (c_L_isSample_1 ((latX S) + 1) (latY S) (c_L_isSample_1 (latX S) (latY S) S y) (c_L_isSample_y (latX S) (latY S) S y)) else (c_L_isSample_1 (latX S) (latY S) (c_L_isSample_1 ((latX S) + 1) (latY S) (c_L_isSample_1 (latX S) (latY S) S y) (c_L_isSample_y (latX S) (latY S) S y)) (c_L_isSample_y ((latX S) + 1) (latY S) (c_L_isSample_1 (latX S) (latY S) S y) (c_L_isSample_y (latX S) (latY S) S y))))))) else (if (r_L_low u1 18) = 8 then (if (S.1 21) = 0 then S else (if 255 < ((latX S) + 1) then S else (if (r_L_isSample (latX S) (latY S) S y) = 0 then (c_L_isSample_1 (latX S) (latY S) S y) else (if (r_L_isSample ((latX S) + 1) (latY S) (c_L_isSample_1 (latX S) (latY S) S y) (c_L_isSample_y (latX S) (latY S) S y)) = 0 then (c_L_isSample_1 ((latX S) + 1) (latY S) (c_L_isSample_1 (latX S) (latY S) S y) (c_L_isSample_y (latX S) (latY S) S y)) else (c_L_isSample_1 (latX S) (latY S) (c_L_isSample_1 ((latX S) + 1) (latY S) (c_L_isSample_1 (latX S) (latY S) S y) (c_L_isSample_y (latX S) (latY S) S y)) (c_L_isSample_y ((latX S) + 1) (latY S) (c_L_isSample_1 (latX S) (latY S) S y) (c_L_isSample_y (latX S) (latY S) S y))))))) else (if ((((S.1 7) / 16) + (r_L_low u2 41)) - 20) < 0 then (c_L_does_1_at821 u1 u2 S y 0) else (if 255 < ((((S.1 7) / 16) + (r_L_low u2 41)) - 20) then (c_L_does_1_at821 u1 u2 S y 255) else (c_L_does_1_at821 u1 u2 S y ((((S.1 7) / 16) + (r_L_low u2 41)) - 20))))))))))))
def c_L_does_y_at73 (u1 : Int32) (u2 : Int32) (S : SS) (y : HS) (v : Int32) : HS := if (r_L_low u1 18) = 0 then (if (r_L_low (u1 >>> ((4 : Int32) &&& 31)) 7) = 0 then (c_L_does_y_at249 u1 u2 S y (1 + (r_L_low u2 64))) else (if (r_L_low (u1 >>> ((4 : Int32) &&& 31)) 7) = 1 then (c_L_does_y_at249 u1 u2 S y (1 + (r_L_low u2 30))) else (if (r_L_low (u1 >>> ((4 : Int32) &&& 31)) 7) = 2 then (c_L_does_y_at249 u1 u2 S y (r_L_low u2 21)) else (if (r_L_low (u1 >>> ((4 : Int32) &&& 31)) 7) = 3 then (c_L_does_y_at249 u1 u2 S y (60 + (r_L_low u2 68))) else (if (r_L_low (u1 >>> ((4 : Int32) &&& 31)) 7) = 4 then (c_L_does_y_at249 u1 u2 S y (100 + (r_L_low u2 101))) else (if (r_L_low (u1 >>> ((4 : Int32) &&& 31)) 7) = 5 then (c_L_does_y_at249 u1 u2 S y (2 + (r_L_low u2 9))) else (c_L_does_y_at249 u1 u2 S y (r_L_low u2 21)))))))) else (if (r_L_low u1 18) = 1 then (c_X4_press_y (r_L_low (u1 >>> ((4 : Int32) &&& 31)) 9) S y) else (if (r_L_low u1 18) = 2 then (c_X4_letUp_y (r_L_low (u1 >>> ((4 : Int32) &&& 31)) 9) S y) else (if (r_L_low u1 18) = 3 then (if ((u1 >>> ((4 : Int32) &&& 31)) &&& 3) = 0 then (c_X4_reset_y S y) else y) else (if (r_L_low u1 18) = 4 then (c_X4_hold_y (r_L_low u2 256) (r_L_low (u2 >>> ((8 : Int32) &&& 31)) 256) (1 + (r_L_low (u1 >>> ((4 : Int32) &&& 31)) 15)) S y) else (if (r_L_low u1 18) = 5 then (c_X4_hold_y (r_L_low u2 256) (r_L_low (u2 >>> ((8 : Int32) &&& 31)) 256) (1 + (r_L_low (u1 >>> ((4 : Int32) &&& 31)) 15)) S y) else (if (r_L_low u1 18) = 6 then (c_X4_hold_y (r_L_low u2 256) (r_L_low (u2 >>> ((8 : Int32) &&& 31)) 256) (1 + (r_L_low (u1 >>> ((4 : Int32) &&& 31)) 15)) S y) else (if (r_L_low u1 18) = 7 then (if (S.1 21) = 0 then y else (if 255 < ((latX S) + 1) then y else (if (r_L_isSample (latX S) (latY S) S y) = 0 then (c_L_isSample_y (latX S) (latY S) S y) else (if (r_L_isSample ((latX S) + 1) (latY S) (c_L_isSample_1 (latX S) (latY S) S y) (c_L_isSample_y (latX S) (latY S) S y)) = 0 then (c_L_isSample_y ((latX S) + 1) (latY S) (c_L_isSample_1 (latX S) (latY S) S y) (c_L_isSample_y (latX S) (latY S) S y)) else (c_L_isSample_y (latX S) (latY S) (c_L_isSample_1 ((latX S) + 1) (latY S) (c_L_isSample_1 (latX S) (latY S) S y) (c_L_isSample_y (latX S) (latY S) S y)) (c_L_isSample_y ((latX S) + 1) (latY S) (c_L_isSample_1 (latX S) (latY S) S y) (c_L_isSample_y (latX S) (latY S) S y))))))) else (if (r_L_low u1 18) = 8 then (if (S.1 21) = 0 then y else (if 255 < ((latX S) + 1) then y else (if (r_L_isSample (latX S) (latY S) S y) = 0 then (c_L_isSample_y (latX S) (latY S) S y) else (if (r_L_isSample ((latX S) + 1) (latY S) (c_L_isSample_1 (latX S) (latY S) S y) (c_L_isSample_y (latX S) (latY S) S y)) = 0 then (c_L_isSample_y ((latX S) + 1) (latY S) (c_L_isSample_1 (latX S) (latY S) S y) (c_L_isSample_y (latX S) (latY S) S y)) else (c_L_isSample_y (latX S) (latY S) (c_L_isSample_1 ((latX S) + 1) (latY S) (c_L_isSample_1 (latX S) (latY S) S y) (c_L_isSample_y (latX S) (latY S) S y)) (c_L_isSample_y ((latX S) + 1) (latY S) (c_L_isSample_1 (latX S) (latY S) S y) (c_L_isSample_y (latX S) (latY S) S y))))))) else (if ((((S.1 7) / 16) + (r_L_low u2 41)) - 20) < 0 then (c_L_does_y_at821 u1 u2 S y 0) else (if 255 < ((((S.1 7) / 16) + (r_L_low u2 41)) - 20) then (c_L_does_y_at821 u1 u2 S y 255) else (c_L_does_y_at821 u1 u2 S y ((((S.1 7) / 16) + (r_L_low u2 41)) - 20))))))))))))
def r_L_does (u1 : Int32) (u2 : Int32) (S : SS) (y : HS) : Int32 := if (((S.1 18) >>> ((r_L_low (u1 >>> ((4 : Int32) &&& 31)) 9) &&& 31)) &&& 1) = 1 then (r_L_does_at73 u1 u2 S y 1) else (r_L_does_at73 u1 u2 S y 0)
def c_L_does_1 (u1 : Int32) (u2 : Int32) (S : SS) (y : HS) : SS := if (((S.1 18) >>> ((r_L_low (u1 >>> ((4 : Int32) &&& 31)) 9) &&& 31)) &&& 1) = 1 then (c_L_does_1_at73 u1 u2 S y 1) else (c_L_does_1_at73 u1 u2 S y 0)
def c_L_does_y (u1 : Int32) (u2 : Int32) (S : SS) (y : HS) : HS := if (((S.1 18) >>> ((r_L_low (u1 >>> ((4 : Int32) &&& 31)) 9) &&& 31)) &&& 1) = 1 then (c_L_does_y_at73 u1 u2 S y 1) else (c_L_does_y_at73 u1 u2 S y 0)
set_option maxHeartbeats 1000000 in
set_option maxRecDepth 100000 in
theorem s_L_does_846 (d : gD) (x : Nat → Nat) (a : Nat → Nat) (b : Nat → Nat) (c : Nat → Nat) (e : Nat → Nat) (u1 : Int32) (u2 : Int32) (p : Nat → Nat → Nat) (q : Nat → Nat → Nat) (S : SS) (T : SS) (h : Nat → Int32) (t : Nat → Int32) (y : HS) (ss : Nat → Option SS) (hy : y.1 < 6 ∧ y.2.1 ≤ 6) (hu : ¬ S.2.2.1 0 < 0) (hz : ¬ S.2.1 0 = 0) (v1 : Int32) (xc : Int32)  {X : gX} (E : gE d X RL cL_does 20 R_L_does) (RET : ∀ (pc_ : Nat) (lv_ : List (Nat × Value)) (v_ : Int32) (u_ : va_W), decode cL_does pc_ = .ok (.ireturn, 1) → narrow .boolean (.int v_) = .int v_ → v_ = r_L_does_at846 u1 u2 S y v1 xc → (∃ p_ : Nat → Nat → Nat, u_ = XW d (x, a, b, c, e) p_ q (c_L_does_1_at846 u1 u2 S y v1 xc) T h t (c_L_does_y_at846 u1 u2 S y v1 xc) ss) → G d X u_ R_L_does.cells R_L_does.slots pc_ lv_ [.int v_]) : G d X (XW d (x, a, b, c, e) p q S T h t y ss) 0 0 846 [] [.int v1, .int xc, .ref (x 0)] := by
  refine g_callSi E (wr := []) gc_L_isSample ml_L_57 (t_L_isSample d x a b c e xc v1 p q S T h t y ss hy hu hz) rfl (List.append_nil _).symm rfl rfl (ok_le rfl) ⟨ok_le rfl, ok_le rfl, ok_le rfl, ok_le rfl⟩ rfl rfl dL_does_846 ?_
  rintro v_ u_ ⟨rfl, ⟨p17, rfl⟩⟩
  refine g_eq (ws' := XW d (x, a, b, c, e) p17 q (c_L_isSample_1 xc v1 S y) T h t (c_L_isSample_y xc v1 S y) ss) (List.append_nil _) ?_
  obtain ⟨S118_, hS118_⟩ : ∃ z, c_L_isSample_1 xc v1 S y = z := ⟨_, rfl⟩
  rw [hS118_]
  obtain ⟨S119_, hS119_⟩ : ∃ z, c_L_isSample_y xc v1 S y = z := ⟨_, rfl⟩
  rw [hS119_]
  refine g_nm (fun v120_ hv120_ => ?_)
  subst hv120_
  subst hS119_
  subst hS118_
  refine g_widen (k1 := R_L_does.cells) (n1 := R_L_does.slots) (ok_le rfl) (ok_le rfl) ?_
  exact RET 849 _ (r_L_isSample xc v1 S y) _ dL_does_849 (nar_b (samp_01 _ _ _ _)) (by rw [r_L_does_at846]) ⟨p17, (by rw [c_L_does_1_at846, c_L_does_y_at846])⟩
set_option maxHeartbeats 1000000 in
set_option maxRecDepth 100000 in
theorem s_L_does_821 (d : gD) (x : Nat → Nat) (a : Nat → Nat) (b : Nat → Nat) (c : Nat → Nat) (e : Nat → Nat) (u1 : Int32) (u2 : Int32) (p : Nat → Nat → Nat) (q : Nat → Nat → Nat) (S : SS) (T : SS) (h : Nat → Int32) (t : Nat → Int32) (y : HS) (ss : Nat → Option SS) (hy : y.1 < 6 ∧ y.2.1 ≤ 6) (hu : ¬ S.2.2.1 0 < 0) (hz : ¬ S.2.1 0 = 0) (v : Int32)  {X : gX} (E : gE d X RL cL_does 20 R_L_does) (RET : ∀ (pc_ : Nat) (lv_ : List (Nat × Value)) (v_ : Int32) (u_ : va_W), decode cL_does pc_ = .ok (.ireturn, 1) → narrow .boolean (.int v_) = .int v_ → v_ = r_L_does_at821 u1 u2 S y v → (∃ p_ : Nat → Nat → Nat, u_ = XW d (x, a, b, c, e) p_ q (c_L_does_1_at821 u1 u2 S y v) T h t (c_L_does_y_at821 u1 u2 S y v) ss) → G d X u_ R_L_does.cells R_L_does.slots pc_ lv_ [.int v_]) : G d X (XW d (x, a, b, c, e) p q S T h t y ss) 0 0 821 [(5, .int ((((S.1 8) / 16) + (r_L_low (u2 >>> ((6 : Int32) &&& 31)) 41)) - 20))] [.int v, .ref (x 0)] := by
  obtain ⟨v5_, hv5_⟩ : ∃ z, r_L_low (u2 >>> ((6 : Int32) &&& 31)) 41 = z := ⟨_, rfl⟩
  rw [hv5_]
  refine g_iload E 0 dL_does_821 rfl ?_
  refine g_ifge E 830 dL_does_823 (by decide) (fun c_823 => ?_) (fun c_823 => ?_)
  · skip
    refine g_iload E 0 dL_does_830 rfl ?_
    refine g_sipush E 255 dL_does_832 (by decide) ?_
    refine g_icmple E 844 dL_does_835 (by decide) (fun c_835 => ?_) (fun c_835 => ?_)
    · skip
      refine g_iload E 0 dL_does_844 rfl ?_
      refine g_lvs (lv' := []) [] rfl ?_
      subst hv5_
      exact s_L_does_846 d x a b c e u1 u2 p q S T h t y ss hy hu hz ((((S.1 8) / 16) + (r_L_low (u2 >>> ((6 : Int32) &&& 31)) 41)) - 20) v  E (fun pc_ lv_ v_ u_ h1_ h2_ h3_ h4_ => RET pc_ lv_ v_ u_ h1_ h2_ (h3_.trans (by rw [r_L_does_at821, if_neg c_823, if_neg c_835])) (h4_.imp (fun _ h5_ => h5_.trans (by rw [c_L_does_1_at821, if_neg c_823, if_neg c_835, c_L_does_y_at821, if_neg c_823, if_neg c_835]))))
    · skip
      refine g_sipush E 255 dL_does_838 (by decide) ?_
      refine g_goto E 846 dL_does_841 (by decide) ?_
      refine g_lvs (lv' := []) [] rfl ?_
      subst hv5_
      exact s_L_does_846 d x a b c e u1 u2 p q S T h t y ss hy hu hz 255 v  E (fun pc_ lv_ v_ u_ h1_ h2_ h3_ h4_ => RET pc_ lv_ v_ u_ h1_ h2_ (h3_.trans (by rw [r_L_does_at821, if_neg c_823, if_pos c_835])) (h4_.imp (fun _ h5_ => h5_.trans (by rw [c_L_does_1_at821, if_neg c_823, if_pos c_835, c_L_does_y_at821, if_neg c_823, if_pos c_835]))))
  · skip
    refine g_iconst E 0 dL_does_826 (by decide) ?_
    refine g_goto E 846 dL_does_827 (by decide) ?_
    refine g_lvs (lv' := []) [] rfl ?_
    subst hv5_
    exact s_L_does_846 d x a b c e u1 u2 p q S T h t y ss hy hu hz 0 v  E (fun pc_ lv_ v_ u_ h1_ h2_ h3_ h4_ => RET pc_ lv_ v_ u_ h1_ h2_ (h3_.trans (by rw [r_L_does_at821, if_pos c_823])) (h4_.imp (fun _ h5_ => h5_.trans (by rw [c_L_does_1_at821, if_pos c_823, c_L_does_y_at821, if_pos c_823]))))
set_option maxHeartbeats 1000000 in
set_option maxRecDepth 100000 in
theorem s_L_does_249 (d : gD) (x : Nat → Nat) (a : Nat → Nat) (b : Nat → Nat) (c : Nat → Nat) (e : Nat → Nat) (u1 : Int32) (u2 : Int32) (p : Nat → Nat → Nat) (q : Nat → Nat → Nat) (S : SS) (T : SS) (h : Nat → Int32) (t : Nat → Int32) (y : HS) (ss : Nat → Option SS) (hy : y.1 < 6 ∧ y.2.1 ≤ 6) (hu : ¬ S.2.2.1 0 < 0) (hz : ¬ S.2.1 0 = 0) (v : Int32)  {X : gX} (E : gE d X RL cL_does 20 R_L_does) (RET : ∀ (pc_ : Nat) (lv_ : List (Nat × Value)) (v_ : Int32) (u_ : va_W), decode cL_does pc_ = .ok (.ireturn, 1) → narrow .boolean (.int v_) = .int v_ → v_ = r_L_does_at249 u1 u2 S y v → (∃ p_ : Nat → Nat → Nat, u_ = XW d (x, a, b, c, e) p_ q (c_L_does_1_at249 u1 u2 S y v) T h t (c_L_does_y_at249 u1 u2 S y v) ss) → G d X u_ R_L_does.cells R_L_does.slots pc_ lv_ [.int v_]) : G d X (XW d (x, a, b, c, e) p q S T h t y ss) 0 0 249 [(0, .ref (x 0)), (2, .int u2), (7, .int (r_L_low (u1 >>> ((4 : Int32) &&& 31)) 7))] [.int v] := by
  obtain ⟨v8_, hv8_⟩ : ∃ z, r_L_low (u1 >>> ((4 : Int32) &&& 31)) 7 = z := ⟨_, rfl⟩
  rw [hv8_]
  refine g_istore E (lv' := [(8, .int v), (0, .ref (x 0)), (2, .int u2), (7, .int v8_)]) dL_does_249 (by decide) rfl ?_
  refine g_aload_n E 1 dL_does_251 rfl rfl ?_
  refine g_bipush E 10 dL_does_252 (by decide) ?_
  refine g_iload E 3 dL_does_254 rfl ?_
  refine g_iadd E dL_does_256 ?_
  refine g_callVi0 E gc_X4_count ml_L_8 (t_X4_count d x a b c e (10 + v8_) p q S T h t y ss ) rfl rfl (ci := 4) 0 rfl rfl rfl rfl (ok_le rfl) ⟨ok_le rfl, ok_le rfl, ok_le rfl, ok_le rfl⟩ rfl rfl dL_does_257 ?_
  refine g_top (b := S.2.1 v8_.toNatClampNeg) (by subst_vars; exact count_lo _ _ _ _) ?_
  refine g_istore E (lv' := [(9, .int (S.2.1 v8_.toNatClampNeg)), (8, .int v), (0, .ref (x 0)), (2, .int u2), (7, .int v8_)]) dL_does_260 (by decide) rfl ?_
  refine g_aload_n E 2 dL_does_262 rfl rfl ?_
  refine g_iconst E 1 dL_does_263 (by decide) ?_
  refine g_callVi0 E gc_X4_count ml_L_8 (t_X4_count d x a b c e 1 p q S T h t y ss ) rfl rfl (ci := 4) 0 rfl rfl rfl rfl (ok_le rfl) ⟨ok_le rfl, ok_le rfl, ok_le rfl, ok_le rfl⟩ rfl rfl dL_does_264 ?_
  refine g_top (b := S.1 9) (count_1 _ _ _) ?_
  refine g_istore E (lv' := [(10, .int (S.1 9)), (9, .int (S.2.1 v8_.toNatClampNeg)), (8, .int v), (0, .ref (x 0)), (2, .int u2), (7, .int v8_)]) dL_does_267 (by decide) rfl ?_
  refine g_aload_n E 3 dL_does_269 rfl rfl ?_
  refine g_iload E 5 dL_does_270 rfl ?_
  refine g_iload E 2 dL_does_272 rfl ?_
  refine g_callVi E (wr := []) gc_X4_set ml_L_54 (t_X4_set d x a b c e v8_ v p q S T h t y ss (by first | assumption | omega)) rfl (List.append_nil _).symm (ci := 4) 0 rfl rfl rfl rfl (ok_le rfl) ⟨ok_le rfl, ok_le rfl, ok_le rfl, ok_le rfl⟩ rfl rfl dL_does_274 ?_
  rintro v_ u_ ⟨rfl, ⟨p13, rfl⟩⟩
  refine g_eq (ws' := XW d (x, a, b, c, e) p13 q (c_X4_set_1 v8_ v S y) T h t (c_X4_set_y v8_ v S y) ss) (List.append_nil _) ?_
  obtain ⟨S96_, hS96_⟩ : ∃ z, c_X4_set_1 v8_ v S y = z := ⟨_, rfl⟩
  rw [hS96_]
  obtain ⟨S97_, hS97_⟩ : ∃ z, c_X4_set_y v8_ v S y = z := ⟨_, rfl⟩
  rw [hS97_]
  refine g_nm (fun v98_ hv98_ => ?_)
  refine g_iload E 1 dL_does_277 rfl ?_
  refine g_icmpne E 357 dL_does_279 (by decide) (fun c_279 => ?_) (fun c_279 => ?_)
  · skip
    refine g_iconst E 0 dL_does_357 (by decide) ?_
    subst hv98_
    subst hS97_
    subst hS96_
    subst hv8_
    refine g_widen (k1 := R_L_does.cells) (n1 := R_L_does.slots) (ok_le rfl) (ok_le rfl) ?_
    exact RET 358 _ 0 _ dL_does_358 rfl (by rw [r_L_does_at249, if_neg c_279]) ⟨p13, (by rw [c_L_does_1_at249, if_neg c_279, c_L_does_y_at249, if_neg c_279])⟩
  · skip
    refine g_aload_n E 3 dL_does_282 rfl rfl ?_
    refine g_bipush E 10 dL_does_283 (by decide) ?_
    refine g_iload E 5 dL_does_285 rfl ?_
    refine g_iadd E dL_does_287 ?_
    refine g_callVi0 E gc_X4_count ml_L_8 (t_X4_count d x a b c e (10 + v8_) p13 q S96_ T h t S97_ ss ) rfl rfl (ci := 4) 0 rfl rfl rfl rfl (ok_le rfl) ⟨ok_le rfl, ok_le rfl, ok_le rfl, ok_le rfl⟩ rfl rfl dL_does_288 ?_
    refine g_top (b := S96_.2.1 v8_.toNatClampNeg) (by subst_vars; exact count_lo _ _ _ _) ?_
    refine g_iload E 2 dL_does_291 rfl ?_
    refine g_icmpne E 357 dL_does_293 (by decide) (fun c_293 => ?_) (fun c_293 => ?_)
    · skip
      refine g_iconst E 0 dL_does_357 (by decide) ?_
      subst hv98_
      subst hS97_
      subst hS96_
      subst hv8_
      refine g_widen (k1 := R_L_does.cells) (n1 := R_L_does.slots) (ok_le rfl) (ok_le rfl) ?_
      exact RET 358 _ 0 _ dL_does_358 rfl (by rw [r_L_does_at249, if_pos c_279, if_neg c_293]) ⟨p13, (by rw [c_L_does_1_at249, if_pos c_279, if_neg c_293, c_L_does_y_at249, if_pos c_279, if_neg c_293])⟩
    · skip
      refine g_aload_n E 3 dL_does_296 rfl rfl ?_
      refine g_iconst E 1 dL_does_297 (by decide) ?_
      refine g_callVi0 E gc_X4_count ml_L_8 (t_X4_count d x a b c e 1 p13 q S96_ T h t S97_ ss ) rfl rfl (ci := 4) 0 rfl rfl rfl rfl (ok_le rfl) ⟨ok_le rfl, ok_le rfl, ok_le rfl, ok_le rfl⟩ rfl rfl dL_does_298 ?_
      refine g_top (b := S96_.1 9) (count_1 _ _ _) ?_
      refine g_iload E 5 dL_does_301 rfl ?_
      refine g_iconst E 1 dL_does_303 (by decide) ?_
      refine g_icmpeq E 313 dL_does_304 (by decide) (fun c_304 => ?_) (fun c_304 => ?_)
      · skip
        refine g_aload_n E 3 dL_does_313 rfl rfl ?_
        refine g_bipush E 11 dL_does_314 (by decide) ?_
        refine g_callVi0 E gc_X4_count ml_L_8 (t_X4_count d x a b c e 11 p13 q S96_ T h t S97_ ss ) rfl rfl (ci := 4) 0 rfl rfl rfl rfl (ok_le rfl) ⟨ok_le rfl, ok_le rfl, ok_le rfl, ok_le rfl⟩ rfl rfl dL_does_316 ?_
        refine g_top (b := S96_.2.1 1) (count_11 _ _ _) ?_
        refine g_goto E 324 dL_does_319 (by decide) ?_
        refine g_icmpne E 357 dL_does_324 (by decide) (fun c_324 => ?_) (fun c_324 => ?_)
        · skip
          refine g_iconst E 0 dL_does_357 (by decide) ?_
          subst hv98_
          subst hS97_
          subst hS96_
          subst hv8_
          refine g_widen (k1 := R_L_does.cells) (n1 := R_L_does.slots) (ok_le rfl) (ok_le rfl) ?_
          exact RET 358 _ 0 _ dL_does_358 rfl (by rw [r_L_does_at249, if_pos c_279, if_pos c_293, if_pos c_304, if_neg c_324]) ⟨p13, (by rw [c_L_does_1_at249, if_pos c_279, if_pos c_293, if_pos c_304, if_neg c_324, c_L_does_y_at249, if_pos c_279, if_pos c_293, if_pos c_304, if_neg c_324])⟩
        · skip
          refine g_aload_n E 3 dL_does_327 rfl rfl ?_
          refine g_iload_n E 4 dL_does_328 rfl rfl ?_
          refine g_iconst E 3 dL_does_329 (by decide) ?_
          refine g_ishr E dL_does_330 ?_
          refine g_sipush E 256 dL_does_331 (by decide) ?_
          refine g_callSp E gc_L_low ml_L_51 (t_L_low d (u2 >>> ((3 : Int32) &&& 31)) 256 (by decide)) rfl rfl rfl (ok_le rfl) ⟨ok_le rfl, ok_le rfl, ok_le rfl, ok_le rfl⟩ rfl rfl dL_does_334 ?_
          refine g_nm (fun v102_ hv102_ => ?_)
          refine g_iload_n E 4 dL_does_337 rfl rfl ?_
          refine g_bipush E 11 dL_does_338 (by decide) ?_
          refine g_ishr E dL_does_340 ?_
          refine g_sipush E 256 dL_does_341 (by decide) ?_
          refine g_callSp E gc_L_low ml_L_51 (t_L_low d (u2 >>> ((11 : Int32) &&& 31)) 256 (by decide)) rfl rfl rfl (ok_le rfl) ⟨ok_le rfl, ok_le rfl, ok_le rfl, ok_le rfl⟩ rfl rfl dL_does_344 ?_
          refine g_nm (fun v103_ hv103_ => ?_)
          refine g_callSi E (wr := []) gc_L_isSample ml_L_57 (t_L_isSample d x a b c e v102_ v103_ p13 q S96_ T h t S97_ ss (by rw [← hS97_]; with_reducible exact set_hy hy) (by rw [← hS96_]; with_reducible exact set_ku hu) (by rw [← hS96_]; with_reducible exact set_hz hz)) rfl (List.append_nil _).symm rfl rfl (ok_le rfl) ⟨ok_le rfl, ok_le rfl, ok_le rfl, ok_le rfl⟩ rfl rfl dL_does_347 ?_
          rintro v_ u_ ⟨rfl, ⟨p14, rfl⟩⟩
          refine g_eq (ws' := XW d (x, a, b, c, e) p14 q (c_L_isSample_1 v102_ v103_ S96_ S97_) T h t (c_L_isSample_y v102_ v103_ S96_ S97_) ss) (List.append_nil _) ?_
          obtain ⟨S104_, hS104_⟩ : ∃ z, c_L_isSample_1 v102_ v103_ S96_ S97_ = z := ⟨_, rfl⟩
          rw [hS104_]
          obtain ⟨S105_, hS105_⟩ : ∃ z, c_L_isSample_y v102_ v103_ S96_ S97_ = z := ⟨_, rfl⟩
          rw [hS105_]
          refine g_nm (fun v106_ hv106_ => ?_)
          refine g_ifeq E 357 dL_does_350 (by decide) (fun c_350 => ?_) (fun c_350 => ?_)
          · skip
            refine g_iconst E 0 dL_does_357 (by decide) ?_
            subst hv106_
            subst hS105_
            subst hS104_
            subst hv103_
            subst hv102_
            subst hv98_
            subst hS97_
            subst hS96_
            subst hv8_
            refine g_widen (k1 := R_L_does.cells) (n1 := R_L_does.slots) (ok_le rfl) (ok_le rfl) ?_
            exact RET 358 _ 0 _ dL_does_358 rfl (by rw [r_L_does_at249, if_pos c_279, if_pos c_293, if_pos c_304, if_pos c_324, if_pos c_350]) ⟨p14, (by rw [c_L_does_1_at249, if_pos c_279, if_pos c_293, if_pos c_304, if_pos c_324, c_L_does_y_at249, if_pos c_279, if_pos c_293, if_pos c_304, if_pos c_324])⟩
          · skip
            refine g_iconst E 1 dL_does_353 (by decide) ?_
            refine g_goto E 358 dL_does_354 (by decide) ?_
            subst hv106_
            subst hS105_
            subst hS104_
            subst hv103_
            subst hv102_
            subst hv98_
            subst hS97_
            subst hS96_
            subst hv8_
            refine g_widen (k1 := R_L_does.cells) (n1 := R_L_does.slots) (ok_le rfl) (ok_le rfl) ?_
            exact RET 358 _ 1 _ dL_does_358 rfl (by rw [r_L_does_at249, if_pos c_279, if_pos c_293, if_pos c_304, if_pos c_324, if_neg c_350]) ⟨p14, (by rw [c_L_does_1_at249, if_pos c_279, if_pos c_293, if_pos c_304, if_pos c_324, c_L_does_y_at249, if_pos c_279, if_pos c_293, if_pos c_304, if_pos c_324])⟩
      · skip
        refine g_iload E 5 dL_does_307 rfl ?_
        refine g_iconst E 2 dL_does_309 (by decide) ?_
        refine g_icmpne E 322 dL_does_310 (by decide) (fun c_310 => ?_) (fun c_310 => ?_)
        · skip
          refine g_iload E 0 dL_does_322 rfl ?_
          refine g_icmpne E 357 dL_does_324 (by decide) (fun c_324 => ?_) (fun c_324 => ?_)
          · skip
            refine g_iconst E 0 dL_does_357 (by decide) ?_
            subst hv98_
            subst hS97_
            subst hS96_
            subst hv8_
            refine g_widen (k1 := R_L_does.cells) (n1 := R_L_does.slots) (ok_le rfl) (ok_le rfl) ?_
            exact RET 358 _ 0 _ dL_does_358 rfl (by rw [r_L_does_at249, if_pos c_279, if_pos c_293, if_neg c_304, if_neg c_310, if_neg c_324]) ⟨p13, (by rw [c_L_does_1_at249, if_pos c_279, if_pos c_293, if_neg c_304, if_neg c_310, if_neg c_324, c_L_does_y_at249, if_pos c_279, if_pos c_293, if_neg c_304, if_neg c_310, if_neg c_324])⟩
          · skip
            refine g_aload_n E 3 dL_does_327 rfl rfl ?_
            refine g_iload_n E 4 dL_does_328 rfl rfl ?_
            refine g_iconst E 3 dL_does_329 (by decide) ?_
            refine g_ishr E dL_does_330 ?_
            refine g_sipush E 256 dL_does_331 (by decide) ?_
            refine g_callSp E gc_L_low ml_L_51 (t_L_low d (u2 >>> ((3 : Int32) &&& 31)) 256 (by decide)) rfl rfl rfl (ok_le rfl) ⟨ok_le rfl, ok_le rfl, ok_le rfl, ok_le rfl⟩ rfl rfl dL_does_334 ?_
            refine g_nm (fun v107_ hv107_ => ?_)
            refine g_iload_n E 4 dL_does_337 rfl rfl ?_
            refine g_bipush E 11 dL_does_338 (by decide) ?_
            refine g_ishr E dL_does_340 ?_
            refine g_sipush E 256 dL_does_341 (by decide) ?_
            refine g_callSp E gc_L_low ml_L_51 (t_L_low d (u2 >>> ((11 : Int32) &&& 31)) 256 (by decide)) rfl rfl rfl (ok_le rfl) ⟨ok_le rfl, ok_le rfl, ok_le rfl, ok_le rfl⟩ rfl rfl dL_does_344 ?_
            refine g_nm (fun v108_ hv108_ => ?_)
            refine g_callSi E (wr := []) gc_L_isSample ml_L_57 (t_L_isSample d x a b c e v107_ v108_ p13 q S96_ T h t S97_ ss (by rw [← hS97_]; with_reducible exact set_hy hy) (by rw [← hS96_]; with_reducible exact set_ku hu) (by rw [← hS96_]; with_reducible exact set_hz hz)) rfl (List.append_nil _).symm rfl rfl (ok_le rfl) ⟨ok_le rfl, ok_le rfl, ok_le rfl, ok_le rfl⟩ rfl rfl dL_does_347 ?_
            rintro v_ u_ ⟨rfl, ⟨p15, rfl⟩⟩
            refine g_eq (ws' := XW d (x, a, b, c, e) p15 q (c_L_isSample_1 v107_ v108_ S96_ S97_) T h t (c_L_isSample_y v107_ v108_ S96_ S97_) ss) (List.append_nil _) ?_
            obtain ⟨S109_, hS109_⟩ : ∃ z, c_L_isSample_1 v107_ v108_ S96_ S97_ = z := ⟨_, rfl⟩
            rw [hS109_]
            obtain ⟨S110_, hS110_⟩ : ∃ z, c_L_isSample_y v107_ v108_ S96_ S97_ = z := ⟨_, rfl⟩
            rw [hS110_]
            refine g_nm (fun v111_ hv111_ => ?_)
            refine g_ifeq E 357 dL_does_350 (by decide) (fun c_350 => ?_) (fun c_350 => ?_)
            · skip
              refine g_iconst E 0 dL_does_357 (by decide) ?_
              subst hv111_
              subst hS110_
              subst hS109_
              subst hv108_
              subst hv107_
              subst hv98_
              subst hS97_
              subst hS96_
              subst hv8_
              refine g_widen (k1 := R_L_does.cells) (n1 := R_L_does.slots) (ok_le rfl) (ok_le rfl) ?_
              exact RET 358 _ 0 _ dL_does_358 rfl (by rw [r_L_does_at249, if_pos c_279, if_pos c_293, if_neg c_304, if_neg c_310, if_pos c_324, if_pos c_350]) ⟨p15, (by rw [c_L_does_1_at249, if_pos c_279, if_pos c_293, if_neg c_304, if_neg c_310, if_pos c_324, c_L_does_y_at249, if_pos c_279, if_pos c_293, if_neg c_304, if_neg c_310, if_pos c_324])⟩
            · skip
              refine g_iconst E 1 dL_does_353 (by decide) ?_
              refine g_goto E 358 dL_does_354 (by decide) ?_
              subst hv111_
              subst hS110_
              subst hS109_
              subst hv108_
              subst hv107_
              subst hv98_
              subst hS97_
              subst hS96_
              subst hv8_
              refine g_widen (k1 := R_L_does.cells) (n1 := R_L_does.slots) (ok_le rfl) (ok_le rfl) ?_
              exact RET 358 _ 1 _ dL_does_358 rfl (by rw [r_L_does_at249, if_pos c_279, if_pos c_293, if_neg c_304, if_neg c_310, if_pos c_324, if_neg c_350]) ⟨p15, (by rw [c_L_does_1_at249, if_pos c_279, if_pos c_293, if_neg c_304, if_neg c_310, if_pos c_324, c_L_does_y_at249, if_pos c_279, if_pos c_293, if_neg c_304, if_neg c_310, if_pos c_324])⟩
        · skip
          refine g_aload_n E 3 dL_does_313 rfl rfl ?_
          refine g_bipush E 11 dL_does_314 (by decide) ?_
          refine g_callVi0 E gc_X4_count ml_L_8 (t_X4_count d x a b c e 11 p13 q S96_ T h t S97_ ss ) rfl rfl (ci := 4) 0 rfl rfl rfl rfl (ok_le rfl) ⟨ok_le rfl, ok_le rfl, ok_le rfl, ok_le rfl⟩ rfl rfl dL_does_316 ?_
          refine g_top (b := S96_.2.1 1) (count_11 _ _ _) ?_
          refine g_goto E 324 dL_does_319 (by decide) ?_
          refine g_icmpne E 357 dL_does_324 (by decide) (fun c_324 => ?_) (fun c_324 => ?_)
          · skip
            refine g_iconst E 0 dL_does_357 (by decide) ?_
            subst hv98_
            subst hS97_
            subst hS96_
            subst hv8_
            refine g_widen (k1 := R_L_does.cells) (n1 := R_L_does.slots) (ok_le rfl) (ok_le rfl) ?_
            exact RET 358 _ 0 _ dL_does_358 rfl (by rw [r_L_does_at249, if_pos c_279, if_pos c_293, if_neg c_304, if_pos c_310, if_neg c_324]) ⟨p13, (by rw [c_L_does_1_at249, if_pos c_279, if_pos c_293, if_neg c_304, if_pos c_310, if_neg c_324, c_L_does_y_at249, if_pos c_279, if_pos c_293, if_neg c_304, if_pos c_310, if_neg c_324])⟩
          · skip
            refine g_aload_n E 3 dL_does_327 rfl rfl ?_
            refine g_iload_n E 4 dL_does_328 rfl rfl ?_
            refine g_iconst E 3 dL_does_329 (by decide) ?_
            refine g_ishr E dL_does_330 ?_
            refine g_sipush E 256 dL_does_331 (by decide) ?_
            refine g_callSp E gc_L_low ml_L_51 (t_L_low d (u2 >>> ((3 : Int32) &&& 31)) 256 (by decide)) rfl rfl rfl (ok_le rfl) ⟨ok_le rfl, ok_le rfl, ok_le rfl, ok_le rfl⟩ rfl rfl dL_does_334 ?_
            refine g_nm (fun v113_ hv113_ => ?_)
            refine g_iload_n E 4 dL_does_337 rfl rfl ?_
            refine g_bipush E 11 dL_does_338 (by decide) ?_
            refine g_ishr E dL_does_340 ?_
            refine g_sipush E 256 dL_does_341 (by decide) ?_
            refine g_callSp E gc_L_low ml_L_51 (t_L_low d (u2 >>> ((11 : Int32) &&& 31)) 256 (by decide)) rfl rfl rfl (ok_le rfl) ⟨ok_le rfl, ok_le rfl, ok_le rfl, ok_le rfl⟩ rfl rfl dL_does_344 ?_
            refine g_nm (fun v114_ hv114_ => ?_)
            refine g_callSi E (wr := []) gc_L_isSample ml_L_57 (t_L_isSample d x a b c e v113_ v114_ p13 q S96_ T h t S97_ ss (by rw [← hS97_]; with_reducible exact set_hy hy) (by rw [← hS96_]; with_reducible exact set_ku hu) (by rw [← hS96_]; with_reducible exact set_hz hz)) rfl (List.append_nil _).symm rfl rfl (ok_le rfl) ⟨ok_le rfl, ok_le rfl, ok_le rfl, ok_le rfl⟩ rfl rfl dL_does_347 ?_
            rintro v_ u_ ⟨rfl, ⟨p16, rfl⟩⟩
            refine g_eq (ws' := XW d (x, a, b, c, e) p16 q (c_L_isSample_1 v113_ v114_ S96_ S97_) T h t (c_L_isSample_y v113_ v114_ S96_ S97_) ss) (List.append_nil _) ?_
            obtain ⟨S115_, hS115_⟩ : ∃ z, c_L_isSample_1 v113_ v114_ S96_ S97_ = z := ⟨_, rfl⟩
            rw [hS115_]
            obtain ⟨S116_, hS116_⟩ : ∃ z, c_L_isSample_y v113_ v114_ S96_ S97_ = z := ⟨_, rfl⟩
            rw [hS116_]
            refine g_nm (fun v117_ hv117_ => ?_)
            refine g_ifeq E 357 dL_does_350 (by decide) (fun c_350 => ?_) (fun c_350 => ?_)
            · skip
              refine g_iconst E 0 dL_does_357 (by decide) ?_
              subst hv117_
              subst hS116_
              subst hS115_
              subst hv114_
              subst hv113_
              subst hv98_
              subst hS97_
              subst hS96_
              subst hv8_
              refine g_widen (k1 := R_L_does.cells) (n1 := R_L_does.slots) (ok_le rfl) (ok_le rfl) ?_
              exact RET 358 _ 0 _ dL_does_358 rfl (by rw [r_L_does_at249, if_pos c_279, if_pos c_293, if_neg c_304, if_pos c_310, if_pos c_324, if_pos c_350]) ⟨p16, (by rw [c_L_does_1_at249, if_pos c_279, if_pos c_293, if_neg c_304, if_pos c_310, if_pos c_324, c_L_does_y_at249, if_pos c_279, if_pos c_293, if_neg c_304, if_pos c_310, if_pos c_324])⟩
            · skip
              refine g_iconst E 1 dL_does_353 (by decide) ?_
              refine g_goto E 358 dL_does_354 (by decide) ?_
              subst hv117_
              subst hS116_
              subst hS115_
              subst hv114_
              subst hv113_
              subst hv98_
              subst hS97_
              subst hS96_
              subst hv8_
              refine g_widen (k1 := R_L_does.cells) (n1 := R_L_does.slots) (ok_le rfl) (ok_le rfl) ?_
              exact RET 358 _ 1 _ dL_does_358 rfl (by rw [r_L_does_at249, if_pos c_279, if_pos c_293, if_neg c_304, if_pos c_310, if_pos c_324, if_neg c_350]) ⟨p16, (by rw [c_L_does_1_at249, if_pos c_279, if_pos c_293, if_neg c_304, if_pos c_310, if_pos c_324, c_L_does_y_at249, if_pos c_279, if_pos c_293, if_neg c_304, if_pos c_310, if_pos c_324])⟩
set_option maxHeartbeats 1000000 in
set_option maxRecDepth 100000 in
theorem s_L_does_73 (d : gD) (x : Nat → Nat) (a : Nat → Nat) (b : Nat → Nat) (c : Nat → Nat) (e : Nat → Nat) (u1 : Int32) (u2 : Int32) (p : Nat → Nat → Nat) (q : Nat → Nat → Nat) (S : SS) (T : SS) (h : Nat → Int32) (t : Nat → Int32) (y : HS) (ss : Nat → Option SS) (hy : y.1 < 6 ∧ y.2.1 ≤ 6) (hu : ¬ S.2.2.1 0 < 0) (hz : ¬ S.2.1 0 = 0) (v : Int32) (hv : v = 0 ∨ v = 1) {X : gX} (E : gE d X RL cL_does 20 R_L_does) (RET : ∀ (pc_ : Nat) (lv_ : List (Nat × Value)) (v_ : Int32) (u_ : va_W), decode cL_does pc_ = .ok (.ireturn, 1) → narrow .boolean (.int v_) = .int v_ → v_ = r_L_does_at73 u1 u2 S y v → (∃ p_ : Nat → Nat → Nat, u_ = XW d (x, a, b, c, e) p_ q (c_L_does_1_at73 u1 u2 S y v) T h t (c_L_does_y_at73 u1 u2 S y v) ss) → G d X u_ R_L_does.cells R_L_does.slots pc_ lv_ [.int v_]) : G d X (XW d (x, a, b, c, e) p q S T h t y ss) 0 0 73 [(0, .ref (x 0)), (1, .int u1), (2, .int u2), (3, .int (r_L_low (u1 >>> ((4 : Int32) &&& 31)) 9)), (4, .int ((((S.1 7) / 16) + (r_L_low u2 41)) - 20)), (5, .int ((((S.1 8) / 16) + (r_L_low (u2 >>> ((6 : Int32) &&& 31)) 41)) - 20))] [.int v] := by
  obtain ⟨v1_, hv1_⟩ : ∃ z, r_L_low (u1 >>> ((4 : Int32) &&& 31)) 9 = z := ⟨_, rfl⟩
  rw [hv1_]
  obtain ⟨v3_, hv3_⟩ : ∃ z, r_L_low u2 41 = z := ⟨_, rfl⟩
  rw [hv3_]
  obtain ⟨v5_, hv5_⟩ : ∃ z, r_L_low (u2 >>> ((6 : Int32) &&& 31)) 41 = z := ⟨_, rfl⟩
  rw [hv5_]
  refine g_istore E (lv' := [(6, .int v), (0, .ref (x 0)), (1, .int u1), (2, .int u2), (3, .int v1_), (4, .int ((((S.1 7) / 16) + v3_) - 20)), (5, .int ((((S.1 8) / 16) + v5_) - 20))]) dL_does_73 (by decide) rfl ?_
  refine g_iload_n E 2 dL_does_75 rfl rfl ?_
  refine g_bipush E 18 dL_does_76 (by decide) ?_
  refine g_callSp E gc_L_low ml_L_51 (t_L_low d u1 18 (by decide)) rfl rfl rfl (ok_le rfl) ⟨ok_le rfl, ok_le rfl, ok_le rfl, ok_le rfl⟩ rfl rfl dL_does_78 ?_
  refine g_nm (fun v7_ hv7_ => ?_)
  by_cases w_81_0 : v7_ = 0
  · skip
    refine g_tableIn E 132 dL_does_81 (by rw [w_81_0]; decide) (by rw [w_81_0]; decide) (by rw [w_81_0]; rfl) (by decide) ?_
    refine g_iload_n E 2 dL_does_132 rfl rfl ?_
    refine g_iconst E 4 dL_does_133 (by decide) ?_
    refine g_ishr E dL_does_134 ?_
    refine g_bipush E 7 dL_does_135 (by decide) ?_
    refine g_callSp E gc_L_low ml_L_51 (t_L_low d (u1 >>> ((4 : Int32) &&& 31)) 7 (by decide)) rfl rfl rfl (ok_le rfl) ⟨ok_le rfl, ok_le rfl, ok_le rfl, ok_le rfl⟩ rfl rfl dL_does_137 ?_
    refine g_nm (fun v8_ hv8_ => ?_)
    refine g_istore E (lv' := [(7, .int v8_), (6, .int v), (0, .ref (x 0)), (1, .int u1), (2, .int u2), (3, .int v1_), (4, .int ((((S.1 7) / 16) + v3_) - 20)), (5, .int ((((S.1 8) / 16) + v5_) - 20))]) dL_does_140 (by decide) rfl ?_
    refine g_iload E 0 dL_does_142 rfl ?_
    refine g_ifne E 158 dL_does_144 (by decide) (fun c_144 => ?_) (fun c_144 => ?_)
    · skip
      refine g_iload E 0 dL_does_158 rfl ?_
      refine g_iconst E 1 dL_does_160 (by decide) ?_
      refine g_icmpne E 175 dL_does_161 (by decide) (fun c_161 => ?_) (fun c_161 => ?_)
      · skip
        refine g_iload E 0 dL_does_175 rfl ?_
        refine g_iconst E 2 dL_does_177 (by decide) ?_
        refine g_icmpne E 190 dL_does_178 (by decide) (fun c_178 => ?_) (fun c_178 => ?_)
        · skip
          refine g_iload E 0 dL_does_190 rfl ?_
          refine g_iconst E 3 dL_does_192 (by decide) ?_
          refine g_icmpne E 208 dL_does_193 (by decide) (fun c_193 => ?_) (fun c_193 => ?_)
          · skip
            refine g_iload E 0 dL_does_208 rfl ?_
            refine g_iconst E 4 dL_does_210 (by decide) ?_
            refine g_icmpne E 226 dL_does_211 (by decide) (fun c_211 => ?_) (fun c_211 => ?_)
            · skip
              refine g_iload E 0 dL_does_226 rfl ?_
              refine g_iconst E 5 dL_does_228 (by decide) ?_
              refine g_icmpne E 243 dL_does_229 (by decide) (fun c_229 => ?_) (fun c_229 => ?_)
              · skip
                refine g_iload_n E 4 dL_does_243 rfl rfl ?_
                refine g_bipush E 21 dL_does_244 (by decide) ?_
                refine g_callSp E gc_L_low ml_L_51 (t_L_low d u2 21 (by decide)) rfl rfl rfl (ok_le rfl) ⟨ok_le rfl, ok_le rfl, ok_le rfl, ok_le rfl⟩ rfl rfl dL_does_246 ?_
                refine g_nm (fun v9_ hv9_ => ?_)
                refine g_lvs (lv' := [(0, .ref (x 0)), (2, .int u2), (7, .int v8_)]) [2, 4, 0] rfl ?_
                subst hv9_
                subst hv8_
                subst hv7_
                subst hv5_
                subst hv3_
                subst hv1_
                exact s_L_does_249 d x a b c e u1 u2 p q S T h t y ss hy hu hz (r_L_low u2 21)  E (fun pc_ lv_ v_ u_ h1_ h2_ h3_ h4_ => RET pc_ lv_ v_ u_ h1_ h2_ (h3_.trans (by rw [r_L_does_at73, if_pos w_81_0, if_neg c_144, if_neg c_161, if_neg c_178, if_neg c_193, if_neg c_211, if_neg c_229])) (h4_.imp (fun _ h5_ => h5_.trans (by rw [c_L_does_1_at73, if_pos w_81_0, if_neg c_144, if_neg c_161, if_neg c_178, if_neg c_193, if_neg c_211, if_neg c_229, c_L_does_y_at73, if_pos w_81_0, if_neg c_144, if_neg c_161, if_neg c_178, if_neg c_193, if_neg c_211, if_neg c_229]))))
              · skip
                refine g_iconst E 2 dL_does_232 (by decide) ?_
                refine g_iload_n E 4 dL_does_233 rfl rfl ?_
                refine g_bipush E 9 dL_does_234 (by decide) ?_
                refine g_callSp E gc_L_low ml_L_51 (t_L_low d u2 9 (by decide)) rfl rfl rfl (ok_le rfl) ⟨ok_le rfl, ok_le rfl, ok_le rfl, ok_le rfl⟩ rfl rfl dL_does_236 ?_
                refine g_nm (fun v10_ hv10_ => ?_)
                refine g_iadd E dL_does_239 ?_
                refine g_goto E 249 dL_does_240 (by decide) ?_
                refine g_lvs (lv' := [(0, .ref (x 0)), (2, .int u2), (7, .int v8_)]) [2, 4, 0] rfl ?_
                subst hv10_
                subst hv8_
                subst hv7_
                subst hv5_
                subst hv3_
                subst hv1_
                exact s_L_does_249 d x a b c e u1 u2 p q S T h t y ss hy hu hz (2 + (r_L_low u2 9))  E (fun pc_ lv_ v_ u_ h1_ h2_ h3_ h4_ => RET pc_ lv_ v_ u_ h1_ h2_ (h3_.trans (by rw [r_L_does_at73, if_pos w_81_0, if_neg c_144, if_neg c_161, if_neg c_178, if_neg c_193, if_neg c_211, if_pos c_229])) (h4_.imp (fun _ h5_ => h5_.trans (by rw [c_L_does_1_at73, if_pos w_81_0, if_neg c_144, if_neg c_161, if_neg c_178, if_neg c_193, if_neg c_211, if_pos c_229, c_L_does_y_at73, if_pos w_81_0, if_neg c_144, if_neg c_161, if_neg c_178, if_neg c_193, if_neg c_211, if_pos c_229]))))
            · skip
              refine g_bipush E 100 dL_does_214 (by decide) ?_
              refine g_iload_n E 4 dL_does_216 rfl rfl ?_
              refine g_bipush E 101 dL_does_217 (by decide) ?_
              refine g_callSp E gc_L_low ml_L_51 (t_L_low d u2 101 (by decide)) rfl rfl rfl (ok_le rfl) ⟨ok_le rfl, ok_le rfl, ok_le rfl, ok_le rfl⟩ rfl rfl dL_does_219 ?_
              refine g_nm (fun v11_ hv11_ => ?_)
              refine g_iadd E dL_does_222 ?_
              refine g_goto E 249 dL_does_223 (by decide) ?_
              refine g_lvs (lv' := [(0, .ref (x 0)), (2, .int u2), (7, .int v8_)]) [2, 4, 0] rfl ?_
              subst hv11_
              subst hv8_
              subst hv7_
              subst hv5_
              subst hv3_
              subst hv1_
              exact s_L_does_249 d x a b c e u1 u2 p q S T h t y ss hy hu hz (100 + (r_L_low u2 101))  E (fun pc_ lv_ v_ u_ h1_ h2_ h3_ h4_ => RET pc_ lv_ v_ u_ h1_ h2_ (h3_.trans (by rw [r_L_does_at73, if_pos w_81_0, if_neg c_144, if_neg c_161, if_neg c_178, if_neg c_193, if_pos c_211])) (h4_.imp (fun _ h5_ => h5_.trans (by rw [c_L_does_1_at73, if_pos w_81_0, if_neg c_144, if_neg c_161, if_neg c_178, if_neg c_193, if_pos c_211, c_L_does_y_at73, if_pos w_81_0, if_neg c_144, if_neg c_161, if_neg c_178, if_neg c_193, if_pos c_211]))))
          · skip
            refine g_bipush E 60 dL_does_196 (by decide) ?_
            refine g_iload_n E 4 dL_does_198 rfl rfl ?_
            refine g_bipush E 68 dL_does_199 (by decide) ?_
            refine g_callSp E gc_L_low ml_L_51 (t_L_low d u2 68 (by decide)) rfl rfl rfl (ok_le rfl) ⟨ok_le rfl, ok_le rfl, ok_le rfl, ok_le rfl⟩ rfl rfl dL_does_201 ?_
            refine g_nm (fun v12_ hv12_ => ?_)
            refine g_iadd E dL_does_204 ?_
            refine g_goto E 249 dL_does_205 (by decide) ?_
            refine g_lvs (lv' := [(0, .ref (x 0)), (2, .int u2), (7, .int v8_)]) [2, 4, 0] rfl ?_
            subst hv12_
            subst hv8_
            subst hv7_
            subst hv5_
            subst hv3_
            subst hv1_
            exact s_L_does_249 d x a b c e u1 u2 p q S T h t y ss hy hu hz (60 + (r_L_low u2 68))  E (fun pc_ lv_ v_ u_ h1_ h2_ h3_ h4_ => RET pc_ lv_ v_ u_ h1_ h2_ (h3_.trans (by rw [r_L_does_at73, if_pos w_81_0, if_neg c_144, if_neg c_161, if_neg c_178, if_pos c_193])) (h4_.imp (fun _ h5_ => h5_.trans (by rw [c_L_does_1_at73, if_pos w_81_0, if_neg c_144, if_neg c_161, if_neg c_178, if_pos c_193, c_L_does_y_at73, if_pos w_81_0, if_neg c_144, if_neg c_161, if_neg c_178, if_pos c_193]))))
        · skip
          refine g_iload_n E 4 dL_does_181 rfl rfl ?_
          refine g_bipush E 21 dL_does_182 (by decide) ?_
          refine g_callSp E gc_L_low ml_L_51 (t_L_low d u2 21 (by decide)) rfl rfl rfl (ok_le rfl) ⟨ok_le rfl, ok_le rfl, ok_le rfl, ok_le rfl⟩ rfl rfl dL_does_184 ?_
          refine g_nm (fun v13_ hv13_ => ?_)
          refine g_goto E 249 dL_does_187 (by decide) ?_
          refine g_lvs (lv' := [(0, .ref (x 0)), (2, .int u2), (7, .int v8_)]) [2, 4, 0] rfl ?_
          subst hv13_
          subst hv8_
          subst hv7_
          subst hv5_
          subst hv3_
          subst hv1_
          exact s_L_does_249 d x a b c e u1 u2 p q S T h t y ss hy hu hz (r_L_low u2 21)  E (fun pc_ lv_ v_ u_ h1_ h2_ h3_ h4_ => RET pc_ lv_ v_ u_ h1_ h2_ (h3_.trans (by rw [r_L_does_at73, if_pos w_81_0, if_neg c_144, if_neg c_161, if_pos c_178])) (h4_.imp (fun _ h5_ => h5_.trans (by rw [c_L_does_1_at73, if_pos w_81_0, if_neg c_144, if_neg c_161, if_pos c_178, c_L_does_y_at73, if_pos w_81_0, if_neg c_144, if_neg c_161, if_pos c_178]))))
      · skip
        refine g_iconst E 1 dL_does_164 (by decide) ?_
        refine g_iload_n E 4 dL_does_165 rfl rfl ?_
        refine g_bipush E 30 dL_does_166 (by decide) ?_
        refine g_callSp E gc_L_low ml_L_51 (t_L_low d u2 30 (by decide)) rfl rfl rfl (ok_le rfl) ⟨ok_le rfl, ok_le rfl, ok_le rfl, ok_le rfl⟩ rfl rfl dL_does_168 ?_
        refine g_nm (fun v14_ hv14_ => ?_)
        refine g_iadd E dL_does_171 ?_
        refine g_goto E 249 dL_does_172 (by decide) ?_
        refine g_lvs (lv' := [(0, .ref (x 0)), (2, .int u2), (7, .int v8_)]) [2, 4, 0] rfl ?_
        subst hv14_
        subst hv8_
        subst hv7_
        subst hv5_
        subst hv3_
        subst hv1_
        exact s_L_does_249 d x a b c e u1 u2 p q S T h t y ss hy hu hz (1 + (r_L_low u2 30))  E (fun pc_ lv_ v_ u_ h1_ h2_ h3_ h4_ => RET pc_ lv_ v_ u_ h1_ h2_ (h3_.trans (by rw [r_L_does_at73, if_pos w_81_0, if_neg c_144, if_pos c_161])) (h4_.imp (fun _ h5_ => h5_.trans (by rw [c_L_does_1_at73, if_pos w_81_0, if_neg c_144, if_pos c_161, c_L_does_y_at73, if_pos w_81_0, if_neg c_144, if_pos c_161]))))
    · skip
      refine g_iconst E 1 dL_does_147 (by decide) ?_
      refine g_iload_n E 4 dL_does_148 rfl rfl ?_
      refine g_bipush E 64 dL_does_149 (by decide) ?_
      refine g_callSp E gc_L_low ml_L_51 (t_L_low d u2 64 (by decide)) rfl rfl rfl (ok_le rfl) ⟨ok_le rfl, ok_le rfl, ok_le rfl, ok_le rfl⟩ rfl rfl dL_does_151 ?_
      refine g_nm (fun v15_ hv15_ => ?_)
      refine g_iadd E dL_does_154 ?_
      refine g_goto E 249 dL_does_155 (by decide) ?_
      refine g_lvs (lv' := [(0, .ref (x 0)), (2, .int u2), (7, .int v8_)]) [2, 4, 0] rfl ?_
      subst hv15_
      subst hv8_
      subst hv7_
      subst hv5_
      subst hv3_
      subst hv1_
      exact s_L_does_249 d x a b c e u1 u2 p q S T h t y ss hy hu hz (1 + (r_L_low u2 64))  E (fun pc_ lv_ v_ u_ h1_ h2_ h3_ h4_ => RET pc_ lv_ v_ u_ h1_ h2_ (h3_.trans (by rw [r_L_does_at73, if_pos w_81_0, if_pos c_144])) (h4_.imp (fun _ h5_ => h5_.trans (by rw [c_L_does_1_at73, if_pos w_81_0, if_pos c_144, c_L_does_y_at73, if_pos w_81_0, if_pos c_144]))))
  · skip
    by_cases w_81_1 : v7_ = 1
    · skip
      refine g_tableIn E 359 dL_does_81 (by rw [w_81_1]; decide) (by rw [w_81_1]; decide) (by rw [w_81_1]; rfl) (by decide) ?_
      refine g_aload_n E 1 dL_does_359 rfl rfl ?_
      refine g_iconst E 3 dL_does_360 (by decide) ?_
      refine g_callVi0 E gc_X4_count ml_L_8 (t_X4_count d x a b c e 3 p q S T h t y ss ) rfl rfl (ci := 4) 0 rfl rfl rfl rfl (ok_le rfl) ⟨ok_le rfl, ok_le rfl, ok_le rfl, ok_le rfl⟩ rfl rfl dL_does_361 ?_
      refine g_top (b := S.1 13) (count_3 _ _ _) ?_
      refine g_istore E (lv' := [(11, .int (S.1 13)), (6, .int v), (0, .ref (x 0)), (1, .int u1), (2, .int u2), (3, .int v1_), (4, .int ((((S.1 7) / 16) + v3_) - 20)), (5, .int ((((S.1 8) / 16) + v5_) - 20))]) dL_does_364 (by decide) rfl ?_
      refine g_aload_n E 2 dL_does_366 rfl rfl ?_
      refine g_iload_n E 5 dL_does_367 rfl rfl ?_
      refine g_callVi E (wr := []) gc_X4_press ml_L_61 (t_X4_press d x a b c e v1_ p q S T h t y ss (by first | assumption | omega)) rfl (List.append_nil _).symm (ci := 4) 0 rfl rfl rfl rfl (ok_le rfl) ⟨ok_le rfl, ok_le rfl, ok_le rfl, ok_le rfl⟩ rfl rfl dL_does_368 ?_
      rintro v_ u_ ⟨rfl, ⟨p1, rfl⟩⟩
      refine g_eq (ws' := XW d (x, a, b, c, e) p1 q (c_X4_press_1 v1_ S y) T h t (c_X4_press_y v1_ S y) ss) (List.append_nil _) ?_
      obtain ⟨S17_, hS17_⟩ : ∃ z, c_X4_press_1 v1_ S y = z := ⟨_, rfl⟩
      rw [hS17_]
      obtain ⟨S18_, hS18_⟩ : ∃ z, c_X4_press_y v1_ S y = z := ⟨_, rfl⟩
      rw [hS18_]
      refine g_nm (fun v19_ hv19_ => ?_)
      refine g_istore E (lv' := [(12, .int v19_), (11, .int (S.1 13)), (6, .int v), (0, .ref (x 0)), (1, .int u1), (2, .int u2), (3, .int v1_), (4, .int ((((S.1 7) / 16) + v3_) - 20)), (5, .int ((((S.1 8) / 16) + v5_) - 20))]) dL_does_371 (by decide) rfl ?_
      refine g_iload_n E 6 dL_does_373 rfl rfl ?_
      refine g_bipush E 7 dL_does_374 (by decide) ?_
      refine g_icmple E 393 dL_does_376 (by decide) (fun c_376 => ?_) (fun c_376 => ?_)
      · skip
        refine g_iload E 2 dL_does_393 rfl ?_
        refine g_ifeq E 423 dL_does_395 (by decide) (fun c_395 => ?_) (fun c_395 => ?_)
        · skip
          refine g_iload E 0 dL_does_423 rfl ?_
          refine g_aload_n E 3 dL_does_425 rfl rfl ?_
          refine g_bipush E 6 dL_does_426 (by decide) ?_
          refine g_callVi0 E gc_X4_count ml_L_8 (t_X4_count d x a b c e 6 p1 q S17_ T h t S18_ ss ) rfl rfl (ci := 4) 0 rfl rfl rfl rfl (ok_le rfl) ⟨ok_le rfl, ok_le rfl, ok_le rfl, ok_le rfl⟩ rfl rfl dL_does_428 ?_
          refine g_top (b := S17_.1 18) (count_6 _ _ _) ?_
          refine g_icmpne E 462 dL_does_431 (by decide) (fun c_431 => ?_) (fun c_431 => ?_)
          · skip
            refine g_iconst E 0 dL_does_462 (by decide) ?_
            subst hv19_
            subst hS18_
            subst hS17_
            subst hv7_
            subst hv5_
            subst hv3_
            subst hv1_
            refine g_widen (k1 := R_L_does.cells) (n1 := R_L_does.slots) (ok_le rfl) (ok_le rfl) ?_
            exact RET 463 _ 0 _ dL_does_463 rfl (by rw [r_L_does_at73, if_neg w_81_0, if_pos w_81_1, if_neg c_376, if_pos c_395, if_neg c_431]) ⟨p1, (by rw [c_L_does_1_at73, if_neg w_81_0, if_pos w_81_1, c_L_does_y_at73, if_neg w_81_0, if_pos w_81_1])⟩
          · skip
            refine g_iload E 0 dL_does_434 rfl ?_
            refine g_iload_n E 6 dL_does_436 rfl rfl ?_
            refine g_ishr E dL_does_437 ?_
            refine g_iconst E 1 dL_does_438 (by decide) ?_
            refine g_iand E dL_does_439 ?_
            refine g_iconst E 1 dL_does_440 (by decide) ?_
            refine g_icmpne E 462 dL_does_441 (by decide) (fun c_441 => ?_) (fun c_441 => ?_)
            · skip
              refine g_iconst E 0 dL_does_462 (by decide) ?_
              subst hv19_
              subst hS18_
              subst hS17_
              subst hv7_
              subst hv5_
              subst hv3_
              subst hv1_
              refine g_widen (k1 := R_L_does.cells) (n1 := R_L_does.slots) (ok_le rfl) (ok_le rfl) ?_
              exact RET 463 _ 0 _ dL_does_463 rfl (by rw [r_L_does_at73, if_neg w_81_0, if_pos w_81_1, if_neg c_376, if_pos c_395, if_pos c_431, if_neg c_441]) ⟨p1, (by rw [c_L_does_1_at73, if_neg w_81_0, if_pos w_81_1, c_L_does_y_at73, if_neg w_81_0, if_pos w_81_1])⟩
            · skip
              refine g_aload_n E 3 dL_does_444 rfl rfl ?_
              refine g_iconst E 3 dL_does_445 (by decide) ?_
              refine g_callVi0 E gc_X4_count ml_L_8 (t_X4_count d x a b c e 3 p1 q S17_ T h t S18_ ss ) rfl rfl (ci := 4) 0 rfl rfl rfl rfl (ok_le rfl) ⟨ok_le rfl, ok_le rfl, ok_le rfl, ok_le rfl⟩ rfl rfl dL_does_446 ?_
              refine g_top (b := S17_.1 13) (count_3 _ _ _) ?_
              refine g_aload_n E 3 dL_does_449 rfl rfl ?_
              refine g_bipush E 16 dL_does_450 (by decide) ?_
              refine g_callVi0 E gc_X4_count ml_L_8 (t_X4_count d x a b c e 16 p1 q S17_ T h t S18_ ss ) rfl rfl (ci := 4) 0 rfl rfl rfl rfl (ok_le rfl) ⟨ok_le rfl, ok_le rfl, ok_le rfl, ok_le rfl⟩ rfl rfl dL_does_452 ?_
              refine g_top (b := S17_.2.1 6) (count_16 _ _ _) ?_
              refine g_icmpne E 462 dL_does_455 (by decide) (fun c_455 => ?_) (fun c_455 => ?_)
              · skip
                refine g_iconst E 0 dL_does_462 (by decide) ?_
                subst hv19_
                subst hS18_
                subst hS17_
                subst hv7_
                subst hv5_
                subst hv3_
                subst hv1_
                refine g_widen (k1 := R_L_does.cells) (n1 := R_L_does.slots) (ok_le rfl) (ok_le rfl) ?_
                exact RET 463 _ 0 _ dL_does_463 rfl (by rw [r_L_does_at73, if_neg w_81_0, if_pos w_81_1, if_neg c_376, if_pos c_395, if_pos c_431, if_pos c_441, if_neg c_455]) ⟨p1, (by rw [c_L_does_1_at73, if_neg w_81_0, if_pos w_81_1, c_L_does_y_at73, if_neg w_81_0, if_pos w_81_1])⟩
              · skip
                refine g_iconst E 1 dL_does_458 (by decide) ?_
                refine g_goto E 463 dL_does_459 (by decide) ?_
                subst hv19_
                subst hS18_
                subst hS17_
                subst hv7_
                subst hv5_
                subst hv3_
                subst hv1_
                refine g_widen (k1 := R_L_does.cells) (n1 := R_L_does.slots) (ok_le rfl) (ok_le rfl) ?_
                exact RET 463 _ 1 _ dL_does_463 rfl (by rw [r_L_does_at73, if_neg w_81_0, if_pos w_81_1, if_neg c_376, if_pos c_395, if_pos c_431, if_pos c_441, if_pos c_455]) ⟨p1, (by rw [c_L_does_1_at73, if_neg w_81_0, if_pos w_81_1, c_L_does_y_at73, if_neg w_81_0, if_pos w_81_1])⟩
        · skip
          refine g_iload E 0 dL_does_398 rfl ?_
          refine g_bipush E (-5) dL_does_400 (by decide) ?_
          refine g_icmpne E 419 dL_does_402 (by decide) (fun c_402 => ?_) (fun c_402 => ?_)
          · skip
            refine g_iconst E 0 dL_does_419 (by decide) ?_
            refine g_goto E 463 dL_does_420 (by decide) ?_
            subst hv19_
            subst hS18_
            subst hS17_
            subst hv7_
            subst hv5_
            subst hv3_
            subst hv1_
            refine g_widen (k1 := R_L_does.cells) (n1 := R_L_does.slots) (ok_le rfl) (ok_le rfl) ?_
            exact RET 463 _ 0 _ dL_does_463 rfl (by rw [r_L_does_at73, if_neg w_81_0, if_pos w_81_1, if_neg c_376, if_neg c_395, if_neg c_402]) ⟨p1, (by rw [c_L_does_1_at73, if_neg w_81_0, if_pos w_81_1, c_L_does_y_at73, if_neg w_81_0, if_pos w_81_1])⟩
          · skip
            refine g_aload_n E 3 dL_does_405 rfl rfl ?_
            refine g_iconst E 3 dL_does_406 (by decide) ?_
            refine g_callVi0 E gc_X4_count ml_L_8 (t_X4_count d x a b c e 3 p1 q S17_ T h t S18_ ss ) rfl rfl (ci := 4) 0 rfl rfl rfl rfl (ok_le rfl) ⟨ok_le rfl, ok_le rfl, ok_le rfl, ok_le rfl⟩ rfl rfl dL_does_407 ?_
            refine g_top (b := S17_.1 13) (count_3 _ _ _) ?_
            refine g_iload E 1 dL_does_410 rfl ?_
            refine g_icmpne E 419 dL_does_412 (by decide) (fun c_412 => ?_) (fun c_412 => ?_)
            · skip
              refine g_iconst E 0 dL_does_419 (by decide) ?_
              refine g_goto E 463 dL_does_420 (by decide) ?_
              subst hv19_
              subst hS18_
              subst hS17_
              subst hv7_
              subst hv5_
              subst hv3_
              subst hv1_
              refine g_widen (k1 := R_L_does.cells) (n1 := R_L_does.slots) (ok_le rfl) (ok_le rfl) ?_
              exact RET 463 _ 0 _ dL_does_463 rfl (by rw [r_L_does_at73, if_neg w_81_0, if_pos w_81_1, if_neg c_376, if_neg c_395, if_pos c_402, if_neg c_412]) ⟨p1, (by rw [c_L_does_1_at73, if_neg w_81_0, if_pos w_81_1, c_L_does_y_at73, if_neg w_81_0, if_pos w_81_1])⟩
            · skip
              refine g_iconst E 1 dL_does_415 (by decide) ?_
              refine g_goto E 463 dL_does_416 (by decide) ?_
              subst hv19_
              subst hS18_
              subst hS17_
              subst hv7_
              subst hv5_
              subst hv3_
              subst hv1_
              refine g_widen (k1 := R_L_does.cells) (n1 := R_L_does.slots) (ok_le rfl) (ok_le rfl) ?_
              exact RET 463 _ 1 _ dL_does_463 rfl (by rw [r_L_does_at73, if_neg w_81_0, if_pos w_81_1, if_neg c_376, if_neg c_395, if_pos c_402, if_pos c_412]) ⟨p1, (by rw [c_L_does_1_at73, if_neg w_81_0, if_pos w_81_1, c_L_does_y_at73, if_neg w_81_0, if_pos w_81_1])⟩
      · skip
        refine g_iload E 0 dL_does_379 rfl ?_
        refine g_iconst E (-1) dL_does_381 (by decide) ?_
        refine g_icmpne E 389 dL_does_382 (by decide) (fun c_382 => ?_) (fun c_382 => ?_)
        · skip
          refine g_iconst E 0 dL_does_389 (by decide) ?_
          refine g_goto E 463 dL_does_390 (by decide) ?_
          subst hv19_
          subst hS18_
          subst hS17_
          subst hv7_
          subst hv5_
          subst hv3_
          subst hv1_
          refine g_widen (k1 := R_L_does.cells) (n1 := R_L_does.slots) (ok_le rfl) (ok_le rfl) ?_
          exact RET 463 _ 0 _ dL_does_463 rfl (by rw [r_L_does_at73, if_neg w_81_0, if_pos w_81_1, if_pos c_376, if_neg c_382]) ⟨p1, (by rw [c_L_does_1_at73, if_neg w_81_0, if_pos w_81_1, c_L_does_y_at73, if_neg w_81_0, if_pos w_81_1])⟩
        · skip
          refine g_iconst E 1 dL_does_385 (by decide) ?_
          refine g_goto E 463 dL_does_386 (by decide) ?_
          subst hv19_
          subst hS18_
          subst hS17_
          subst hv7_
          subst hv5_
          subst hv3_
          subst hv1_
          refine g_widen (k1 := R_L_does.cells) (n1 := R_L_does.slots) (ok_le rfl) (ok_le rfl) ?_
          exact RET 463 _ 1 _ dL_does_463 rfl (by rw [r_L_does_at73, if_neg w_81_0, if_pos w_81_1, if_pos c_376, if_pos c_382]) ⟨p1, (by rw [c_L_does_1_at73, if_neg w_81_0, if_pos w_81_1, c_L_does_y_at73, if_neg w_81_0, if_pos w_81_1])⟩
    · skip
      by_cases w_81_2 : v7_ = 2
      · skip
        refine g_tableIn E 464 dL_does_81 (by rw [w_81_2]; decide) (by rw [w_81_2]; decide) (by rw [w_81_2]; rfl) (by decide) ?_
        refine g_aload_n E 1 dL_does_464 rfl rfl ?_
        refine g_iload_n E 4 dL_does_465 rfl rfl ?_
        refine g_callVi E (wr := []) gc_X4_letUp ml_L_64 (t_X4_letUp d x a b c e v1_ p q S T h t y ss (by first | assumption | omega)) rfl (List.append_nil _).symm (ci := 4) 0 rfl rfl rfl rfl (ok_le rfl) ⟨ok_le rfl, ok_le rfl, ok_le rfl, ok_le rfl⟩ rfl rfl dL_does_466 ?_
        rintro v_ u_ ⟨rfl, ⟨p2, rfl⟩⟩
        refine g_eq (ws' := XW d (x, a, b, c, e) p2 q (c_X4_letUp_1 v1_ S y) T h t (c_X4_letUp_y v1_ S y) ss) (List.append_nil _) ?_
        obtain ⟨S24_, hS24_⟩ : ∃ z, c_X4_letUp_1 v1_ S y = z := ⟨_, rfl⟩
        rw [hS24_]
        obtain ⟨S25_, hS25_⟩ : ∃ z, c_X4_letUp_y v1_ S y = z := ⟨_, rfl⟩
        rw [hS25_]
        refine g_nm (fun v26_ hv26_ => ?_)
        refine g_istore E (lv' := [(13, .int v26_), (6, .int v), (0, .ref (x 0)), (1, .int u1), (2, .int u2), (3, .int v1_), (4, .int ((((S.1 7) / 16) + v3_) - 20)), (5, .int ((((S.1 8) / 16) + v5_) - 20))]) dL_does_469 (by decide) rfl ?_
        refine g_iload_n E 5 dL_does_471 rfl rfl ?_
        refine g_bipush E 7 dL_does_472 (by decide) ?_
        refine g_icmple E 491 dL_does_474 (by decide) (fun c_474 => ?_) (fun c_474 => ?_)
        · skip
          refine g_iload E 1 dL_does_491 rfl ?_
          refine g_ifeq E 524 dL_does_493 (by decide) (fun c_493 => ?_) (fun c_493 => ?_)
          · skip
            refine g_iload E 0 dL_does_524 rfl ?_
            refine g_bipush E (-5) dL_does_526 (by decide) ?_
            refine g_icmpne E 535 dL_does_528 (by decide) (fun c_528 => ?_) (fun c_528 => ?_)
            · skip
              refine g_iconst E 0 dL_does_535 (by decide) ?_
              subst hv26_
              subst hS25_
              subst hS24_
              subst hv7_
              subst hv5_
              subst hv3_
              subst hv1_
              refine g_widen (k1 := R_L_does.cells) (n1 := R_L_does.slots) (ok_le rfl) (ok_le rfl) ?_
              exact RET 536 _ 0 _ dL_does_536 rfl (by rw [r_L_does_at73, if_neg w_81_0, if_neg w_81_1, if_pos w_81_2, if_neg c_474, if_pos c_493, if_neg c_528]) ⟨p2, (by rw [c_L_does_1_at73, if_neg w_81_0, if_neg w_81_1, if_pos w_81_2, c_L_does_y_at73, if_neg w_81_0, if_neg w_81_1, if_pos w_81_2])⟩
            · skip
              refine g_iconst E 1 dL_does_531 (by decide) ?_
              refine g_goto E 536 dL_does_532 (by decide) ?_
              subst hv26_
              subst hS25_
              subst hS24_
              subst hv7_
              subst hv5_
              subst hv3_
              subst hv1_
              refine g_widen (k1 := R_L_does.cells) (n1 := R_L_does.slots) (ok_le rfl) (ok_le rfl) ?_
              exact RET 536 _ 1 _ dL_does_536 rfl (by rw [r_L_does_at73, if_neg w_81_0, if_neg w_81_1, if_pos w_81_2, if_neg c_474, if_pos c_493, if_pos c_528]) ⟨p2, (by rw [c_L_does_1_at73, if_neg w_81_0, if_neg w_81_1, if_pos w_81_2, c_L_does_y_at73, if_neg w_81_0, if_neg w_81_1, if_pos w_81_2])⟩
          · skip
            refine g_iload E 0 dL_does_496 rfl ?_
            refine g_aload_n E 2 dL_does_498 rfl rfl ?_
            refine g_bipush E 6 dL_does_499 (by decide) ?_
            refine g_callVi0 E gc_X4_count ml_L_8 (t_X4_count d x a b c e 6 p2 q S24_ T h t S25_ ss ) rfl rfl (ci := 4) 0 rfl rfl rfl rfl (ok_le rfl) ⟨ok_le rfl, ok_le rfl, ok_le rfl, ok_le rfl⟩ rfl rfl dL_does_501 ?_
            refine g_top (b := S24_.1 18) (count_6 _ _ _) ?_
            refine g_icmpne E 520 dL_does_504 (by decide) (fun c_504 => ?_) (fun c_504 => ?_)
            · skip
              refine g_iconst E 0 dL_does_520 (by decide) ?_
              refine g_goto E 536 dL_does_521 (by decide) ?_
              subst hv26_
              subst hS25_
              subst hS24_
              subst hv7_
              subst hv5_
              subst hv3_
              subst hv1_
              refine g_widen (k1 := R_L_does.cells) (n1 := R_L_does.slots) (ok_le rfl) (ok_le rfl) ?_
              exact RET 536 _ 0 _ dL_does_536 rfl (by rw [r_L_does_at73, if_neg w_81_0, if_neg w_81_1, if_pos w_81_2, if_neg c_474, if_neg c_493, if_neg c_504]) ⟨p2, (by rw [c_L_does_1_at73, if_neg w_81_0, if_neg w_81_1, if_pos w_81_2, c_L_does_y_at73, if_neg w_81_0, if_neg w_81_1, if_pos w_81_2])⟩
            · skip
              refine g_iload E 0 dL_does_507 rfl ?_
              refine g_iload_n E 5 dL_does_509 rfl rfl ?_
              refine g_ishr E dL_does_510 ?_
              refine g_iconst E 1 dL_does_511 (by decide) ?_
              refine g_iand E dL_does_512 ?_
              refine g_ifne E 520 dL_does_513 (by decide) (fun c_513 => ?_) (fun c_513 => ?_)
              · skip
                refine g_iconst E 0 dL_does_520 (by decide) ?_
                refine g_goto E 536 dL_does_521 (by decide) ?_
                subst hv26_
                subst hS25_
                subst hS24_
                subst hv7_
                subst hv5_
                subst hv3_
                subst hv1_
                refine g_widen (k1 := R_L_does.cells) (n1 := R_L_does.slots) (ok_le rfl) (ok_le rfl) ?_
                exact RET 536 _ 0 _ dL_does_536 rfl (by rw [r_L_does_at73, if_neg w_81_0, if_neg w_81_1, if_pos w_81_2, if_neg c_474, if_neg c_493, if_pos c_504, if_neg c_513]) ⟨p2, (by rw [c_L_does_1_at73, if_neg w_81_0, if_neg w_81_1, if_pos w_81_2, c_L_does_y_at73, if_neg w_81_0, if_neg w_81_1, if_pos w_81_2])⟩
              · skip
                refine g_iconst E 1 dL_does_516 (by decide) ?_
                refine g_goto E 536 dL_does_517 (by decide) ?_
                subst hv26_
                subst hS25_
                subst hS24_
                subst hv7_
                subst hv5_
                subst hv3_
                subst hv1_
                refine g_widen (k1 := R_L_does.cells) (n1 := R_L_does.slots) (ok_le rfl) (ok_le rfl) ?_
                exact RET 536 _ 1 _ dL_does_536 rfl (by rw [r_L_does_at73, if_neg w_81_0, if_neg w_81_1, if_pos w_81_2, if_neg c_474, if_neg c_493, if_pos c_504, if_pos c_513]) ⟨p2, (by rw [c_L_does_1_at73, if_neg w_81_0, if_neg w_81_1, if_pos w_81_2, c_L_does_y_at73, if_neg w_81_0, if_neg w_81_1, if_pos w_81_2])⟩
        · skip
          refine g_iload E 0 dL_does_477 rfl ?_
          refine g_iconst E (-1) dL_does_479 (by decide) ?_
          refine g_icmpne E 487 dL_does_480 (by decide) (fun c_480 => ?_) (fun c_480 => ?_)
          · skip
            refine g_iconst E 0 dL_does_487 (by decide) ?_
            refine g_goto E 536 dL_does_488 (by decide) ?_
            subst hv26_
            subst hS25_
            subst hS24_
            subst hv7_
            subst hv5_
            subst hv3_
            subst hv1_
            refine g_widen (k1 := R_L_does.cells) (n1 := R_L_does.slots) (ok_le rfl) (ok_le rfl) ?_
            exact RET 536 _ 0 _ dL_does_536 rfl (by rw [r_L_does_at73, if_neg w_81_0, if_neg w_81_1, if_pos w_81_2, if_pos c_474, if_neg c_480]) ⟨p2, (by rw [c_L_does_1_at73, if_neg w_81_0, if_neg w_81_1, if_pos w_81_2, c_L_does_y_at73, if_neg w_81_0, if_neg w_81_1, if_pos w_81_2])⟩
          · skip
            refine g_iconst E 1 dL_does_483 (by decide) ?_
            refine g_goto E 536 dL_does_484 (by decide) ?_
            subst hv26_
            subst hS25_
            subst hS24_
            subst hv7_
            subst hv5_
            subst hv3_
            subst hv1_
            refine g_widen (k1 := R_L_does.cells) (n1 := R_L_does.slots) (ok_le rfl) (ok_le rfl) ?_
            exact RET 536 _ 1 _ dL_does_536 rfl (by rw [r_L_does_at73, if_neg w_81_0, if_neg w_81_1, if_pos w_81_2, if_pos c_474, if_pos c_480]) ⟨p2, (by rw [c_L_does_1_at73, if_neg w_81_0, if_neg w_81_1, if_pos w_81_2, c_L_does_y_at73, if_neg w_81_0, if_neg w_81_1, if_pos w_81_2])⟩
      · skip
        by_cases w_81_3 : v7_ = 3
        · skip
          refine g_tableIn E 537 dL_does_81 (by rw [w_81_3]; decide) (by rw [w_81_3]; decide) (by rw [w_81_3]; rfl) (by decide) ?_
          refine g_aload_n E 1 dL_does_537 rfl rfl ?_
          refine g_iconst E 0 dL_does_538 (by decide) ?_
          refine g_iconst E 0 dL_does_539 (by decide) ?_
          refine g_callVi0 E gc_X4_of ml_L_14 (t_X4_of d x a b c e 0 0 p q S T h t y ss ) rfl rfl (ci := 4) 0 rfl rfl rfl rfl (ok_le rfl) ⟨ok_le rfl, ok_le rfl, ok_le rfl, ok_le rfl⟩ rfl rfl dL_does_540 ?_
          refine g_top (b := S.1 7) (of_0_0 _) ?_
          refine g_sipush E 2048 dL_does_543 (by decide) ?_
          refine g_isub E dL_does_546 ?_
          refine g_callSp E gc_L_size ml_L_18 (t_L_size d ((S.1 7) - 2048) ) rfl rfl rfl (ok_le rfl) ⟨ok_le rfl, ok_le rfl, ok_le rfl, ok_le rfl⟩ rfl rfl dL_does_547 ?_
          refine g_nm (fun v29_ hv29_ => ?_)
          refine g_aload_n E 1 dL_does_550 rfl rfl ?_
          refine g_iconst E 1 dL_does_551 (by decide) ?_
          refine g_iconst E 0 dL_does_552 (by decide) ?_
          refine g_callVi0 E gc_X4_of ml_L_14 (t_X4_of d x a b c e 1 0 p q S T h t y ss ) rfl rfl (ci := 4) 0 rfl rfl rfl rfl (ok_le rfl) ⟨ok_le rfl, ok_le rfl, ok_le rfl, ok_le rfl⟩ rfl rfl dL_does_553 ?_
          refine g_top (b := S.1 8) (of_1_0 _) ?_
          refine g_sipush E 2048 dL_does_556 (by decide) ?_
          refine g_isub E dL_does_559 ?_
          refine g_callSp E gc_L_size ml_L_18 (t_L_size d ((S.1 8) - 2048) ) rfl rfl rfl (ok_le rfl) ⟨ok_le rfl, ok_le rfl, ok_le rfl, ok_le rfl⟩ rfl rfl dL_does_560 ?_
          refine g_nm (fun v31_ hv31_ => ?_)
          refine g_iadd E dL_does_563 ?_
          refine g_istore E (lv' := [(14, .int (v29_ + v31_)), (6, .int v), (0, .ref (x 0)), (1, .int u1), (2, .int u2), (3, .int v1_), (4, .int ((((S.1 7) / 16) + v3_) - 20)), (5, .int ((((S.1 8) / 16) + v5_) - 20))]) dL_does_564 (by decide) rfl ?_
          refine g_iload_n E 3 dL_does_566 rfl rfl ?_
          refine g_iconst E 4 dL_does_567 (by decide) ?_
          refine g_ishr E dL_does_568 ?_
          refine g_iconst E 3 dL_does_569 (by decide) ?_
          refine g_iand E dL_does_570 ?_
          refine g_ifne E 629 dL_does_571 (by decide) (fun c_571 => ?_) (fun c_571 => ?_)
          · skip
            refine g_iconst E 1 dL_does_629 (by decide) ?_
            refine g_goto E 634 dL_does_630 (by decide) ?_
            subst hv31_
            subst hv29_
            subst hv7_
            subst hv5_
            subst hv3_
            subst hv1_
            refine g_widen (k1 := R_L_does.cells) (n1 := R_L_does.slots) (ok_le rfl) (ok_le rfl) ?_
            exact RET 634 _ 1 _ dL_does_634 rfl (by rw [r_L_does_at73, if_neg w_81_0, if_neg w_81_1, if_neg w_81_2, if_pos w_81_3, if_neg c_571]) ⟨p, (by rw [c_L_does_1_at73, if_neg w_81_0, if_neg w_81_1, if_neg w_81_2, if_pos w_81_3, if_neg c_571, c_L_does_y_at73, if_neg w_81_0, if_neg w_81_1, if_neg w_81_2, if_pos w_81_3, if_neg c_571])⟩
          · skip
            refine g_aload_n E 2 dL_does_574 rfl rfl ?_
            refine g_callVi E (wr := []) gc_X4_reset ml_L_67 (t_X4_reset d x a b c e p q S T h t y ss (by first | assumption | omega)) rfl (List.append_nil _).symm (ci := 4) 0 rfl rfl rfl rfl (ok_le rfl) ⟨ok_le rfl, ok_le rfl, ok_le rfl, ok_le rfl⟩ rfl rfl dL_does_575 ?_
            rintro v_ u_ ⟨rfl, ⟨p3, rfl⟩⟩
            refine g_eq (ws' := XW d (x, a, b, c, e) p3 q (c_X4_reset_1 S y) T h t (c_X4_reset_y S y) ss) (List.append_nil _) ?_
            obtain ⟨S32_, hS32_⟩ : ∃ z, c_X4_reset_1 S y = z := ⟨_, rfl⟩
            rw [hS32_]
            obtain ⟨S33_, hS33_⟩ : ∃ z, c_X4_reset_y S y = z := ⟨_, rfl⟩
            rw [hS33_]
            refine g_nm (fun v34_ hv34_ => ?_)
            refine g_iload E 0 dL_does_578 rfl ?_
            refine g_icmpne E 633 dL_does_580 (by decide) (fun c_580 => ?_) (fun c_580 => ?_)
            · skip
              refine g_iconst E 0 dL_does_633 (by decide) ?_
              subst hv34_
              subst hS33_
              subst hS32_
              subst hv31_
              subst hv29_
              subst hv7_
              subst hv5_
              subst hv3_
              subst hv1_
              refine g_widen (k1 := R_L_does.cells) (n1 := R_L_does.slots) (ok_le rfl) (ok_le rfl) ?_
              exact RET 634 _ 0 _ dL_does_634 rfl (by rw [r_L_does_at73, if_neg w_81_0, if_neg w_81_1, if_neg w_81_2, if_pos w_81_3, if_pos c_571, if_neg c_580]) ⟨p3, (by rw [c_L_does_1_at73, if_neg w_81_0, if_neg w_81_1, if_neg w_81_2, if_pos w_81_3, if_pos c_571, c_L_does_y_at73, if_neg w_81_0, if_neg w_81_1, if_neg w_81_2, if_pos w_81_3, if_pos c_571])⟩
            · skip
              refine g_aload_n E 2 dL_does_583 rfl rfl ?_
              refine g_iconst E 0 dL_does_584 (by decide) ?_
              refine g_iconst E 0 dL_does_585 (by decide) ?_
              refine g_callVi0 E gc_X4_of ml_L_14 (t_X4_of d x a b c e 0 0 p3 q S32_ T h t S33_ ss ) rfl rfl (ci := 4) 0 rfl rfl rfl rfl (ok_le rfl) ⟨ok_le rfl, ok_le rfl, ok_le rfl, ok_le rfl⟩ rfl rfl dL_does_586 ?_
              refine g_top (b := S32_.1 7) (of_0_0 _) ?_
              refine g_sipush E 2048 dL_does_589 (by decide) ?_
              refine g_icmpne E 633 dL_does_592 (by decide) (fun c_592 => ?_) (fun c_592 => ?_)
              · skip
                refine g_iconst E 0 dL_does_633 (by decide) ?_
                subst hv34_
                subst hS33_
                subst hS32_
                subst hv31_
                subst hv29_
                subst hv7_
                subst hv5_
                subst hv3_
                subst hv1_
                refine g_widen (k1 := R_L_does.cells) (n1 := R_L_does.slots) (ok_le rfl) (ok_le rfl) ?_
                exact RET 634 _ 0 _ dL_does_634 rfl (by rw [r_L_does_at73, if_neg w_81_0, if_neg w_81_1, if_neg w_81_2, if_pos w_81_3, if_pos c_571, if_pos c_580, if_neg c_592]) ⟨p3, (by rw [c_L_does_1_at73, if_neg w_81_0, if_neg w_81_1, if_neg w_81_2, if_pos w_81_3, if_pos c_571, c_L_does_y_at73, if_neg w_81_0, if_neg w_81_1, if_neg w_81_2, if_pos w_81_3, if_pos c_571])⟩
              · skip
                refine g_aload_n E 2 dL_does_595 rfl rfl ?_
                refine g_iconst E 1 dL_does_596 (by decide) ?_
                refine g_iconst E 0 dL_does_597 (by decide) ?_
                refine g_callVi0 E gc_X4_of ml_L_14 (t_X4_of d x a b c e 1 0 p3 q S32_ T h t S33_ ss ) rfl rfl (ci := 4) 0 rfl rfl rfl rfl (ok_le rfl) ⟨ok_le rfl, ok_le rfl, ok_le rfl, ok_le rfl⟩ rfl rfl dL_does_598 ?_
                refine g_top (b := S32_.1 8) (of_1_0 _) ?_
                refine g_sipush E 2048 dL_does_601 (by decide) ?_
                refine g_icmpne E 633 dL_does_604 (by decide) (fun c_604 => ?_) (fun c_604 => ?_)
                · skip
                  refine g_iconst E 0 dL_does_633 (by decide) ?_
                  subst hv34_
                  subst hS33_
                  subst hS32_
                  subst hv31_
                  subst hv29_
                  subst hv7_
                  subst hv5_
                  subst hv3_
                  subst hv1_
                  refine g_widen (k1 := R_L_does.cells) (n1 := R_L_does.slots) (ok_le rfl) (ok_le rfl) ?_
                  exact RET 634 _ 0 _ dL_does_634 rfl (by rw [r_L_does_at73, if_neg w_81_0, if_neg w_81_1, if_neg w_81_2, if_pos w_81_3, if_pos c_571, if_pos c_580, if_pos c_592, if_neg c_604]) ⟨p3, (by rw [c_L_does_1_at73, if_neg w_81_0, if_neg w_81_1, if_neg w_81_2, if_pos w_81_3, if_pos c_571, c_L_does_y_at73, if_neg w_81_0, if_neg w_81_1, if_neg w_81_2, if_pos w_81_3, if_pos c_571])⟩
                · skip
                  refine g_aload_n E 2 dL_does_607 rfl rfl ?_
                  refine g_iconst E 1 dL_does_608 (by decide) ?_
                  refine g_callVi0 E gc_X4_count ml_L_8 (t_X4_count d x a b c e 1 p3 q S32_ T h t S33_ ss ) rfl rfl (ci := 4) 0 rfl rfl rfl rfl (ok_le rfl) ⟨ok_le rfl, ok_le rfl, ok_le rfl, ok_le rfl⟩ rfl rfl dL_does_609 ?_
                  refine g_top (b := S32_.1 9) (count_1 _ _ _) ?_
                  refine g_aload_n E 2 dL_does_612 rfl rfl ?_
                  refine g_bipush E 11 dL_does_613 (by decide) ?_
                  refine g_callVi0 E gc_X4_count ml_L_8 (t_X4_count d x a b c e 11 p3 q S32_ T h t S33_ ss ) rfl rfl (ci := 4) 0 rfl rfl rfl rfl (ok_le rfl) ⟨ok_le rfl, ok_le rfl, ok_le rfl, ok_le rfl⟩ rfl rfl dL_does_615 ?_
                  refine g_top (b := S32_.2.1 1) (count_11 _ _ _) ?_
                  refine g_icmpne E 633 dL_does_618 (by decide) (fun c_618 => ?_) (fun c_618 => ?_)
                  · skip
                    refine g_iconst E 0 dL_does_633 (by decide) ?_
                    subst hv34_
                    subst hS33_
                    subst hS32_
                    subst hv31_
                    subst hv29_
                    subst hv7_
                    subst hv5_
                    subst hv3_
                    subst hv1_
                    refine g_widen (k1 := R_L_does.cells) (n1 := R_L_does.slots) (ok_le rfl) (ok_le rfl) ?_
                    exact RET 634 _ 0 _ dL_does_634 rfl (by rw [r_L_does_at73, if_neg w_81_0, if_neg w_81_1, if_neg w_81_2, if_pos w_81_3, if_pos c_571, if_pos c_580, if_pos c_592, if_pos c_604, if_neg c_618]) ⟨p3, (by rw [c_L_does_1_at73, if_neg w_81_0, if_neg w_81_1, if_neg w_81_2, if_pos w_81_3, if_pos c_571, c_L_does_y_at73, if_neg w_81_0, if_neg w_81_1, if_neg w_81_2, if_pos w_81_3, if_pos c_571])⟩
                  · skip
                    refine g_aload_n E 2 dL_does_621 rfl rfl ?_
                    refine g_iconst E 2 dL_does_622 (by decide) ?_
                    refine g_callVi0 E gc_X4_count ml_L_8 (t_X4_count d x a b c e 2 p3 q S32_ T h t S33_ ss ) rfl rfl (ci := 4) 0 rfl rfl rfl rfl (ok_le rfl) ⟨ok_le rfl, ok_le rfl, ok_le rfl, ok_le rfl⟩ rfl rfl dL_does_623 ?_
                    refine g_top (b := S32_.1 12) (count_2 _ _ _) ?_
                    refine g_ifne E 633 dL_does_626 (by decide) (fun c_626 => ?_) (fun c_626 => ?_)
                    · skip
                      refine g_iconst E 0 dL_does_633 (by decide) ?_
                      subst hv34_
                      subst hS33_
                      subst hS32_
                      subst hv31_
                      subst hv29_
                      subst hv7_
                      subst hv5_
                      subst hv3_
                      subst hv1_
                      refine g_widen (k1 := R_L_does.cells) (n1 := R_L_does.slots) (ok_le rfl) (ok_le rfl) ?_
                      exact RET 634 _ 0 _ dL_does_634 rfl (by rw [r_L_does_at73, if_neg w_81_0, if_neg w_81_1, if_neg w_81_2, if_pos w_81_3, if_pos c_571, if_pos c_580, if_pos c_592, if_pos c_604, if_pos c_618, if_neg c_626]) ⟨p3, (by rw [c_L_does_1_at73, if_neg w_81_0, if_neg w_81_1, if_neg w_81_2, if_pos w_81_3, if_pos c_571, c_L_does_y_at73, if_neg w_81_0, if_neg w_81_1, if_neg w_81_2, if_pos w_81_3, if_pos c_571])⟩
                    · skip
                      refine g_iconst E 1 dL_does_629 (by decide) ?_
                      refine g_goto E 634 dL_does_630 (by decide) ?_
                      subst hv34_
                      subst hS33_
                      subst hS32_
                      subst hv31_
                      subst hv29_
                      subst hv7_
                      subst hv5_
                      subst hv3_
                      subst hv1_
                      refine g_widen (k1 := R_L_does.cells) (n1 := R_L_does.slots) (ok_le rfl) (ok_le rfl) ?_
                      exact RET 634 _ 1 _ dL_does_634 rfl (by rw [r_L_does_at73, if_neg w_81_0, if_neg w_81_1, if_neg w_81_2, if_pos w_81_3, if_pos c_571, if_pos c_580, if_pos c_592, if_pos c_604, if_pos c_618, if_pos c_626]) ⟨p3, (by rw [c_L_does_1_at73, if_neg w_81_0, if_neg w_81_1, if_neg w_81_2, if_pos w_81_3, if_pos c_571, c_L_does_y_at73, if_neg w_81_0, if_neg w_81_1, if_neg w_81_2, if_pos w_81_3, if_pos c_571])⟩
        · skip
          by_cases w_81_4 : v7_ = 4
          · skip
            refine g_tableIn E 635 dL_does_81 (by rw [w_81_4]; decide) (by rw [w_81_4]; decide) (by rw [w_81_4]; rfl) (by decide) ?_
            refine g_aload_n E 1 dL_does_635 rfl rfl ?_
            refine g_iconst E 0 dL_does_636 (by decide) ?_
            refine g_callVi0 E gc_X4_count ml_L_8 (t_X4_count d x a b c e 0 p q S T h t y ss ) rfl rfl (ci := 4) 0 rfl rfl rfl rfl (ok_le rfl) ⟨ok_le rfl, ok_le rfl, ok_le rfl, ok_le rfl⟩ rfl rfl dL_does_637 ?_
            refine g_top (b := S.1 21) (count_0 _ _ _) ?_
            refine g_istore E (lv' := [(15, .int (S.1 21)), (6, .int v), (0, .ref (x 0)), (1, .int u1), (2, .int u2), (3, .int v1_), (4, .int ((((S.1 7) / 16) + v3_) - 20)), (5, .int ((((S.1 8) / 16) + v5_) - 20))]) dL_does_640 (by decide) rfl ?_
            refine g_iconst E 1 dL_does_642 (by decide) ?_
            refine g_iload_n E 3 dL_does_643 rfl rfl ?_
            refine g_iconst E 4 dL_does_644 (by decide) ?_
            refine g_ishr E dL_does_645 ?_
            refine g_bipush E 15 dL_does_646 (by decide) ?_
            refine g_callSp E gc_L_low ml_L_51 (t_L_low d (u1 >>> ((4 : Int32) &&& 31)) 15 (by decide)) rfl rfl rfl (ok_le rfl) ⟨ok_le rfl, ok_le rfl, ok_le rfl, ok_le rfl⟩ rfl rfl dL_does_648 ?_
            refine g_nm (fun v41_ hv41_ => ?_)
            refine g_iadd E dL_does_651 ?_
            refine g_istore E (lv' := [(16, .int (1 + v41_)), (15, .int (S.1 21)), (6, .int v), (0, .ref (x 0)), (1, .int u1), (2, .int u2), (3, .int v1_), (4, .int ((((S.1 7) / 16) + v3_) - 20)), (5, .int ((((S.1 8) / 16) + v5_) - 20))]) dL_does_652 (by decide) rfl ?_
            refine g_aload_n E 3 dL_does_654 rfl rfl ?_
            refine g_iload_n E 5 dL_does_655 rfl rfl ?_
            refine g_sipush E 256 dL_does_656 (by decide) ?_
            refine g_callSp E gc_L_low ml_L_51 (t_L_low d u2 256 (by decide)) rfl rfl rfl (ok_le rfl) ⟨ok_le rfl, ok_le rfl, ok_le rfl, ok_le rfl⟩ rfl rfl dL_does_659 ?_
            refine g_nm (fun v42_ hv42_ => ?_)
            refine g_iload_n E 5 dL_does_662 rfl rfl ?_
            refine g_bipush E 8 dL_does_663 (by decide) ?_
            refine g_ishr E dL_does_665 ?_
            refine g_sipush E 256 dL_does_666 (by decide) ?_
            refine g_callSp E gc_L_low ml_L_51 (t_L_low d (u2 >>> ((8 : Int32) &&& 31)) 256 (by decide)) rfl rfl rfl (ok_le rfl) ⟨ok_le rfl, ok_le rfl, ok_le rfl, ok_le rfl⟩ rfl rfl dL_does_669 ?_
            refine g_nm (fun v43_ hv43_ => ?_)
            refine g_iload E 0 dL_does_672 rfl ?_
            refine g_callVi E (wr := []) gc_X4_hold ml_L_71 (t_X4_hold d x a b c e v42_ v43_ (1 + v41_) p q S T h t y ss (by first | assumption | omega) (by first | assumption | omega)) rfl (List.append_nil _).symm (ci := 4) 0 rfl rfl rfl rfl (ok_le rfl) ⟨ok_le rfl, ok_le rfl, ok_le rfl, ok_le rfl⟩ rfl rfl dL_does_674 ?_
            rintro v_ u_ ⟨rfl, ⟨p4, rfl⟩⟩
            refine g_eq (ws' := XW d (x, a, b, c, e) p4 q (c_X4_hold_1 v42_ v43_ (1 + v41_) S y) T h t (c_X4_hold_y v42_ v43_ (1 + v41_) S y) ss) (List.append_nil _) ?_
            obtain ⟨S44_, hS44_⟩ : ∃ z, c_X4_hold_1 v42_ v43_ (1 + v41_) S y = z := ⟨_, rfl⟩
            rw [hS44_]
            obtain ⟨S45_, hS45_⟩ : ∃ z, c_X4_hold_y v42_ v43_ (1 + v41_) S y = z := ⟨_, rfl⟩
            rw [hS45_]
            refine g_nm (fun v46_ hv46_ => ?_)
            refine g_istore E (lv' := [(17, .int v46_), (16, .int (1 + v41_)), (15, .int (S.1 21)), (6, .int v), (0, .ref (x 0)), (1, .int u1), (2, .int u2), (3, .int v1_), (4, .int ((((S.1 7) / 16) + v3_) - 20)), (5, .int ((((S.1 8) / 16) + v5_) - 20))]) dL_does_677 (by decide) rfl ?_
            refine g_iload E 0 dL_does_679 rfl ?_
            refine g_sipush E 1000 dL_does_681 (by decide) ?_
            refine g_aload_n E 4 dL_does_684 rfl rfl ?_
            refine g_iconst E 0 dL_does_685 (by decide) ?_
            refine g_iconst E 1 dL_does_686 (by decide) ?_
            refine g_callVi0 E gc_X4_of ml_L_14 (t_X4_of d x a b c e 0 1 p4 q S44_ T h t S45_ ss ) rfl rfl (ci := 4) 0 rfl rfl rfl rfl (ok_le rfl) ⟨ok_le rfl, ok_le rfl, ok_le rfl, ok_le rfl⟩ rfl rfl dL_does_687 ?_
            refine g_top (b := (S44_.1 14) + 100) (of_0_1 _) ?_
            refine g_imul E dL_does_690 ?_
            refine g_aload_n E 4 dL_does_691 rfl rfl ?_
            refine g_iconst E 1 dL_does_692 (by decide) ?_
            refine g_iconst E 1 dL_does_693 (by decide) ?_
            refine g_callVi0 E gc_X4_of ml_L_14 (t_X4_of d x a b c e 1 1 p4 q S44_ T h t S45_ ss ) rfl rfl (ci := 4) 0 rfl rfl rfl rfl (ok_le rfl) ⟨ok_le rfl, ok_le rfl, ok_le rfl, ok_le rfl⟩ rfl rfl dL_does_694 ?_
            refine g_top (b := (S44_.1 15) + 100) (of_1_1 _) ?_
            refine g_iadd E dL_does_697 ?_
            refine g_icmpne E 718 dL_does_698 (by decide) (fun c_698 => ?_) (fun c_698 => ?_)
            · skip
              refine g_iconst E 0 dL_does_718 (by decide) ?_
              subst hv46_
              subst hS45_
              subst hS44_
              subst hv43_
              subst hv42_
              subst hv41_
              subst hv7_
              subst hv5_
              subst hv3_
              subst hv1_
              refine g_widen (k1 := R_L_does.cells) (n1 := R_L_does.slots) (ok_le rfl) (ok_le rfl) ?_
              exact RET 719 _ 0 _ dL_does_719 rfl (by rw [r_L_does_at73, if_neg w_81_0, if_neg w_81_1, if_neg w_81_2, if_neg w_81_3, if_pos w_81_4, if_neg c_698]) ⟨p4, (by rw [c_L_does_1_at73, if_neg w_81_0, if_neg w_81_1, if_neg w_81_2, if_neg w_81_3, if_pos w_81_4, c_L_does_y_at73, if_neg w_81_0, if_neg w_81_1, if_neg w_81_2, if_neg w_81_3, if_pos w_81_4])⟩
            · skip
              refine g_aload_n E 4 dL_does_701 rfl rfl ?_
              refine g_iconst E 0 dL_does_702 (by decide) ?_
              refine g_callVi0 E gc_X4_count ml_L_8 (t_X4_count d x a b c e 0 p4 q S44_ T h t S45_ ss ) rfl rfl (ci := 4) 0 rfl rfl rfl rfl (ok_le rfl) ⟨ok_le rfl, ok_le rfl, ok_le rfl, ok_le rfl⟩ rfl rfl dL_does_703 ?_
              refine g_top (b := S44_.1 21) (count_0 _ _ _) ?_
              refine g_iload E 2 dL_does_706 rfl ?_
              refine g_iload E 1 dL_does_708 rfl ?_
              refine g_iadd E dL_does_710 ?_
              refine g_icmpne E 718 dL_does_711 (by decide) (fun c_711 => ?_) (fun c_711 => ?_)
              · skip
                refine g_iconst E 0 dL_does_718 (by decide) ?_
                subst hv46_
                subst hS45_
                subst hS44_
                subst hv43_
                subst hv42_
                subst hv41_
                subst hv7_
                subst hv5_
                subst hv3_
                subst hv1_
                refine g_widen (k1 := R_L_does.cells) (n1 := R_L_does.slots) (ok_le rfl) (ok_le rfl) ?_
                exact RET 719 _ 0 _ dL_does_719 rfl (by rw [r_L_does_at73, if_neg w_81_0, if_neg w_81_1, if_neg w_81_2, if_neg w_81_3, if_pos w_81_4, if_pos c_698, if_neg c_711]) ⟨p4, (by rw [c_L_does_1_at73, if_neg w_81_0, if_neg w_81_1, if_neg w_81_2, if_neg w_81_3, if_pos w_81_4, c_L_does_y_at73, if_neg w_81_0, if_neg w_81_1, if_neg w_81_2, if_neg w_81_3, if_pos w_81_4])⟩
              · skip
                refine g_iconst E 1 dL_does_714 (by decide) ?_
                refine g_goto E 719 dL_does_715 (by decide) ?_
                subst hv46_
                subst hS45_
                subst hS44_
                subst hv43_
                subst hv42_
                subst hv41_
                subst hv7_
                subst hv5_
                subst hv3_
                subst hv1_
                refine g_widen (k1 := R_L_does.cells) (n1 := R_L_does.slots) (ok_le rfl) (ok_le rfl) ?_
                exact RET 719 _ 1 _ dL_does_719 rfl (by rw [r_L_does_at73, if_neg w_81_0, if_neg w_81_1, if_neg w_81_2, if_neg w_81_3, if_pos w_81_4, if_pos c_698, if_pos c_711]) ⟨p4, (by rw [c_L_does_1_at73, if_neg w_81_0, if_neg w_81_1, if_neg w_81_2, if_neg w_81_3, if_pos w_81_4, c_L_does_y_at73, if_neg w_81_0, if_neg w_81_1, if_neg w_81_2, if_neg w_81_3, if_pos w_81_4])⟩
          · skip
            by_cases w_81_5 : v7_ = 5
            · skip
              refine g_tableIn E 635 dL_does_81 (by rw [w_81_5]; decide) (by rw [w_81_5]; decide) (by rw [w_81_5]; rfl) (by decide) ?_
              refine g_aload_n E 1 dL_does_635 rfl rfl ?_
              refine g_iconst E 0 dL_does_636 (by decide) ?_
              refine g_callVi0 E gc_X4_count ml_L_8 (t_X4_count d x a b c e 0 p q S T h t y ss ) rfl rfl (ci := 4) 0 rfl rfl rfl rfl (ok_le rfl) ⟨ok_le rfl, ok_le rfl, ok_le rfl, ok_le rfl⟩ rfl rfl dL_does_637 ?_
              refine g_top (b := S.1 21) (count_0 _ _ _) ?_
              refine g_istore E (lv' := [(15, .int (S.1 21)), (6, .int v), (0, .ref (x 0)), (1, .int u1), (2, .int u2), (3, .int v1_), (4, .int ((((S.1 7) / 16) + v3_) - 20)), (5, .int ((((S.1 8) / 16) + v5_) - 20))]) dL_does_640 (by decide) rfl ?_
              refine g_iconst E 1 dL_does_642 (by decide) ?_
              refine g_iload_n E 3 dL_does_643 rfl rfl ?_
              refine g_iconst E 4 dL_does_644 (by decide) ?_
              refine g_ishr E dL_does_645 ?_
              refine g_bipush E 15 dL_does_646 (by decide) ?_
              refine g_callSp E gc_L_low ml_L_51 (t_L_low d (u1 >>> ((4 : Int32) &&& 31)) 15 (by decide)) rfl rfl rfl (ok_le rfl) ⟨ok_le rfl, ok_le rfl, ok_le rfl, ok_le rfl⟩ rfl rfl dL_does_648 ?_
              refine g_nm (fun v51_ hv51_ => ?_)
              refine g_iadd E dL_does_651 ?_
              refine g_istore E (lv' := [(16, .int (1 + v51_)), (15, .int (S.1 21)), (6, .int v), (0, .ref (x 0)), (1, .int u1), (2, .int u2), (3, .int v1_), (4, .int ((((S.1 7) / 16) + v3_) - 20)), (5, .int ((((S.1 8) / 16) + v5_) - 20))]) dL_does_652 (by decide) rfl ?_
              refine g_aload_n E 3 dL_does_654 rfl rfl ?_
              refine g_iload_n E 5 dL_does_655 rfl rfl ?_
              refine g_sipush E 256 dL_does_656 (by decide) ?_
              refine g_callSp E gc_L_low ml_L_51 (t_L_low d u2 256 (by decide)) rfl rfl rfl (ok_le rfl) ⟨ok_le rfl, ok_le rfl, ok_le rfl, ok_le rfl⟩ rfl rfl dL_does_659 ?_
              refine g_nm (fun v52_ hv52_ => ?_)
              refine g_iload_n E 5 dL_does_662 rfl rfl ?_
              refine g_bipush E 8 dL_does_663 (by decide) ?_
              refine g_ishr E dL_does_665 ?_
              refine g_sipush E 256 dL_does_666 (by decide) ?_
              refine g_callSp E gc_L_low ml_L_51 (t_L_low d (u2 >>> ((8 : Int32) &&& 31)) 256 (by decide)) rfl rfl rfl (ok_le rfl) ⟨ok_le rfl, ok_le rfl, ok_le rfl, ok_le rfl⟩ rfl rfl dL_does_669 ?_
              refine g_nm (fun v53_ hv53_ => ?_)
              refine g_iload E 0 dL_does_672 rfl ?_
              refine g_callVi E (wr := []) gc_X4_hold ml_L_71 (t_X4_hold d x a b c e v52_ v53_ (1 + v51_) p q S T h t y ss (by first | assumption | omega) (by first | assumption | omega)) rfl (List.append_nil _).symm (ci := 4) 0 rfl rfl rfl rfl (ok_le rfl) ⟨ok_le rfl, ok_le rfl, ok_le rfl, ok_le rfl⟩ rfl rfl dL_does_674 ?_
              rintro v_ u_ ⟨rfl, ⟨p5, rfl⟩⟩
              refine g_eq (ws' := XW d (x, a, b, c, e) p5 q (c_X4_hold_1 v52_ v53_ (1 + v51_) S y) T h t (c_X4_hold_y v52_ v53_ (1 + v51_) S y) ss) (List.append_nil _) ?_
              obtain ⟨S54_, hS54_⟩ : ∃ z, c_X4_hold_1 v52_ v53_ (1 + v51_) S y = z := ⟨_, rfl⟩
              rw [hS54_]
              obtain ⟨S55_, hS55_⟩ : ∃ z, c_X4_hold_y v52_ v53_ (1 + v51_) S y = z := ⟨_, rfl⟩
              rw [hS55_]
              refine g_nm (fun v56_ hv56_ => ?_)
              refine g_istore E (lv' := [(17, .int v56_), (16, .int (1 + v51_)), (15, .int (S.1 21)), (6, .int v), (0, .ref (x 0)), (1, .int u1), (2, .int u2), (3, .int v1_), (4, .int ((((S.1 7) / 16) + v3_) - 20)), (5, .int ((((S.1 8) / 16) + v5_) - 20))]) dL_does_677 (by decide) rfl ?_
              refine g_iload E 0 dL_does_679 rfl ?_
              refine g_sipush E 1000 dL_does_681 (by decide) ?_
              refine g_aload_n E 4 dL_does_684 rfl rfl ?_
              refine g_iconst E 0 dL_does_685 (by decide) ?_
              refine g_iconst E 1 dL_does_686 (by decide) ?_
              refine g_callVi0 E gc_X4_of ml_L_14 (t_X4_of d x a b c e 0 1 p5 q S54_ T h t S55_ ss ) rfl rfl (ci := 4) 0 rfl rfl rfl rfl (ok_le rfl) ⟨ok_le rfl, ok_le rfl, ok_le rfl, ok_le rfl⟩ rfl rfl dL_does_687 ?_
              refine g_top (b := (S54_.1 14) + 100) (of_0_1 _) ?_
              refine g_imul E dL_does_690 ?_
              refine g_aload_n E 4 dL_does_691 rfl rfl ?_
              refine g_iconst E 1 dL_does_692 (by decide) ?_
              refine g_iconst E 1 dL_does_693 (by decide) ?_
              refine g_callVi0 E gc_X4_of ml_L_14 (t_X4_of d x a b c e 1 1 p5 q S54_ T h t S55_ ss ) rfl rfl (ci := 4) 0 rfl rfl rfl rfl (ok_le rfl) ⟨ok_le rfl, ok_le rfl, ok_le rfl, ok_le rfl⟩ rfl rfl dL_does_694 ?_
              refine g_top (b := (S54_.1 15) + 100) (of_1_1 _) ?_
              refine g_iadd E dL_does_697 ?_
              refine g_icmpne E 718 dL_does_698 (by decide) (fun c_698 => ?_) (fun c_698 => ?_)
              · skip
                refine g_iconst E 0 dL_does_718 (by decide) ?_
                subst hv56_
                subst hS55_
                subst hS54_
                subst hv53_
                subst hv52_
                subst hv51_
                subst hv7_
                subst hv5_
                subst hv3_
                subst hv1_
                refine g_widen (k1 := R_L_does.cells) (n1 := R_L_does.slots) (ok_le rfl) (ok_le rfl) ?_
                exact RET 719 _ 0 _ dL_does_719 rfl (by rw [r_L_does_at73, if_neg w_81_0, if_neg w_81_1, if_neg w_81_2, if_neg w_81_3, if_neg w_81_4, if_pos w_81_5, if_neg c_698]) ⟨p5, (by rw [c_L_does_1_at73, if_neg w_81_0, if_neg w_81_1, if_neg w_81_2, if_neg w_81_3, if_neg w_81_4, if_pos w_81_5, c_L_does_y_at73, if_neg w_81_0, if_neg w_81_1, if_neg w_81_2, if_neg w_81_3, if_neg w_81_4, if_pos w_81_5])⟩
              · skip
                refine g_aload_n E 4 dL_does_701 rfl rfl ?_
                refine g_iconst E 0 dL_does_702 (by decide) ?_
                refine g_callVi0 E gc_X4_count ml_L_8 (t_X4_count d x a b c e 0 p5 q S54_ T h t S55_ ss ) rfl rfl (ci := 4) 0 rfl rfl rfl rfl (ok_le rfl) ⟨ok_le rfl, ok_le rfl, ok_le rfl, ok_le rfl⟩ rfl rfl dL_does_703 ?_
                refine g_top (b := S54_.1 21) (count_0 _ _ _) ?_
                refine g_iload E 2 dL_does_706 rfl ?_
                refine g_iload E 1 dL_does_708 rfl ?_
                refine g_iadd E dL_does_710 ?_
                refine g_icmpne E 718 dL_does_711 (by decide) (fun c_711 => ?_) (fun c_711 => ?_)
                · skip
                  refine g_iconst E 0 dL_does_718 (by decide) ?_
                  subst hv56_
                  subst hS55_
                  subst hS54_
                  subst hv53_
                  subst hv52_
                  subst hv51_
                  subst hv7_
                  subst hv5_
                  subst hv3_
                  subst hv1_
                  refine g_widen (k1 := R_L_does.cells) (n1 := R_L_does.slots) (ok_le rfl) (ok_le rfl) ?_
                  exact RET 719 _ 0 _ dL_does_719 rfl (by rw [r_L_does_at73, if_neg w_81_0, if_neg w_81_1, if_neg w_81_2, if_neg w_81_3, if_neg w_81_4, if_pos w_81_5, if_pos c_698, if_neg c_711]) ⟨p5, (by rw [c_L_does_1_at73, if_neg w_81_0, if_neg w_81_1, if_neg w_81_2, if_neg w_81_3, if_neg w_81_4, if_pos w_81_5, c_L_does_y_at73, if_neg w_81_0, if_neg w_81_1, if_neg w_81_2, if_neg w_81_3, if_neg w_81_4, if_pos w_81_5])⟩
                · skip
                  refine g_iconst E 1 dL_does_714 (by decide) ?_
                  refine g_goto E 719 dL_does_715 (by decide) ?_
                  subst hv56_
                  subst hS55_
                  subst hS54_
                  subst hv53_
                  subst hv52_
                  subst hv51_
                  subst hv7_
                  subst hv5_
                  subst hv3_
                  subst hv1_
                  refine g_widen (k1 := R_L_does.cells) (n1 := R_L_does.slots) (ok_le rfl) (ok_le rfl) ?_
                  exact RET 719 _ 1 _ dL_does_719 rfl (by rw [r_L_does_at73, if_neg w_81_0, if_neg w_81_1, if_neg w_81_2, if_neg w_81_3, if_neg w_81_4, if_pos w_81_5, if_pos c_698, if_pos c_711]) ⟨p5, (by rw [c_L_does_1_at73, if_neg w_81_0, if_neg w_81_1, if_neg w_81_2, if_neg w_81_3, if_neg w_81_4, if_pos w_81_5, c_L_does_y_at73, if_neg w_81_0, if_neg w_81_1, if_neg w_81_2, if_neg w_81_3, if_neg w_81_4, if_pos w_81_5])⟩
            · skip
              by_cases w_81_6 : v7_ = 6
              · skip
                refine g_tableIn E 635 dL_does_81 (by rw [w_81_6]; decide) (by rw [w_81_6]; decide) (by rw [w_81_6]; rfl) (by decide) ?_
                refine g_aload_n E 1 dL_does_635 rfl rfl ?_
                refine g_iconst E 0 dL_does_636 (by decide) ?_
                refine g_callVi0 E gc_X4_count ml_L_8 (t_X4_count d x a b c e 0 p q S T h t y ss ) rfl rfl (ci := 4) 0 rfl rfl rfl rfl (ok_le rfl) ⟨ok_le rfl, ok_le rfl, ok_le rfl, ok_le rfl⟩ rfl rfl dL_does_637 ?_
                refine g_top (b := S.1 21) (count_0 _ _ _) ?_
                refine g_istore E (lv' := [(15, .int (S.1 21)), (6, .int v), (0, .ref (x 0)), (1, .int u1), (2, .int u2), (3, .int v1_), (4, .int ((((S.1 7) / 16) + v3_) - 20)), (5, .int ((((S.1 8) / 16) + v5_) - 20))]) dL_does_640 (by decide) rfl ?_
                refine g_iconst E 1 dL_does_642 (by decide) ?_
                refine g_iload_n E 3 dL_does_643 rfl rfl ?_
                refine g_iconst E 4 dL_does_644 (by decide) ?_
                refine g_ishr E dL_does_645 ?_
                refine g_bipush E 15 dL_does_646 (by decide) ?_
                refine g_callSp E gc_L_low ml_L_51 (t_L_low d (u1 >>> ((4 : Int32) &&& 31)) 15 (by decide)) rfl rfl rfl (ok_le rfl) ⟨ok_le rfl, ok_le rfl, ok_le rfl, ok_le rfl⟩ rfl rfl dL_does_648 ?_
                refine g_nm (fun v61_ hv61_ => ?_)
                refine g_iadd E dL_does_651 ?_
                refine g_istore E (lv' := [(16, .int (1 + v61_)), (15, .int (S.1 21)), (6, .int v), (0, .ref (x 0)), (1, .int u1), (2, .int u2), (3, .int v1_), (4, .int ((((S.1 7) / 16) + v3_) - 20)), (5, .int ((((S.1 8) / 16) + v5_) - 20))]) dL_does_652 (by decide) rfl ?_
                refine g_aload_n E 3 dL_does_654 rfl rfl ?_
                refine g_iload_n E 5 dL_does_655 rfl rfl ?_
                refine g_sipush E 256 dL_does_656 (by decide) ?_
                refine g_callSp E gc_L_low ml_L_51 (t_L_low d u2 256 (by decide)) rfl rfl rfl (ok_le rfl) ⟨ok_le rfl, ok_le rfl, ok_le rfl, ok_le rfl⟩ rfl rfl dL_does_659 ?_
                refine g_nm (fun v62_ hv62_ => ?_)
                refine g_iload_n E 5 dL_does_662 rfl rfl ?_
                refine g_bipush E 8 dL_does_663 (by decide) ?_
                refine g_ishr E dL_does_665 ?_
                refine g_sipush E 256 dL_does_666 (by decide) ?_
                refine g_callSp E gc_L_low ml_L_51 (t_L_low d (u2 >>> ((8 : Int32) &&& 31)) 256 (by decide)) rfl rfl rfl (ok_le rfl) ⟨ok_le rfl, ok_le rfl, ok_le rfl, ok_le rfl⟩ rfl rfl dL_does_669 ?_
                refine g_nm (fun v63_ hv63_ => ?_)
                refine g_iload E 0 dL_does_672 rfl ?_
                refine g_callVi E (wr := []) gc_X4_hold ml_L_71 (t_X4_hold d x a b c e v62_ v63_ (1 + v61_) p q S T h t y ss (by first | assumption | omega) (by first | assumption | omega)) rfl (List.append_nil _).symm (ci := 4) 0 rfl rfl rfl rfl (ok_le rfl) ⟨ok_le rfl, ok_le rfl, ok_le rfl, ok_le rfl⟩ rfl rfl dL_does_674 ?_
                rintro v_ u_ ⟨rfl, ⟨p6, rfl⟩⟩
                refine g_eq (ws' := XW d (x, a, b, c, e) p6 q (c_X4_hold_1 v62_ v63_ (1 + v61_) S y) T h t (c_X4_hold_y v62_ v63_ (1 + v61_) S y) ss) (List.append_nil _) ?_
                obtain ⟨S64_, hS64_⟩ : ∃ z, c_X4_hold_1 v62_ v63_ (1 + v61_) S y = z := ⟨_, rfl⟩
                rw [hS64_]
                obtain ⟨S65_, hS65_⟩ : ∃ z, c_X4_hold_y v62_ v63_ (1 + v61_) S y = z := ⟨_, rfl⟩
                rw [hS65_]
                refine g_nm (fun v66_ hv66_ => ?_)
                refine g_istore E (lv' := [(17, .int v66_), (16, .int (1 + v61_)), (15, .int (S.1 21)), (6, .int v), (0, .ref (x 0)), (1, .int u1), (2, .int u2), (3, .int v1_), (4, .int ((((S.1 7) / 16) + v3_) - 20)), (5, .int ((((S.1 8) / 16) + v5_) - 20))]) dL_does_677 (by decide) rfl ?_
                refine g_iload E 0 dL_does_679 rfl ?_
                refine g_sipush E 1000 dL_does_681 (by decide) ?_
                refine g_aload_n E 4 dL_does_684 rfl rfl ?_
                refine g_iconst E 0 dL_does_685 (by decide) ?_
                refine g_iconst E 1 dL_does_686 (by decide) ?_
                refine g_callVi0 E gc_X4_of ml_L_14 (t_X4_of d x a b c e 0 1 p6 q S64_ T h t S65_ ss ) rfl rfl (ci := 4) 0 rfl rfl rfl rfl (ok_le rfl) ⟨ok_le rfl, ok_le rfl, ok_le rfl, ok_le rfl⟩ rfl rfl dL_does_687 ?_
                refine g_top (b := (S64_.1 14) + 100) (of_0_1 _) ?_
                refine g_imul E dL_does_690 ?_
                refine g_aload_n E 4 dL_does_691 rfl rfl ?_
                refine g_iconst E 1 dL_does_692 (by decide) ?_
                refine g_iconst E 1 dL_does_693 (by decide) ?_
                refine g_callVi0 E gc_X4_of ml_L_14 (t_X4_of d x a b c e 1 1 p6 q S64_ T h t S65_ ss ) rfl rfl (ci := 4) 0 rfl rfl rfl rfl (ok_le rfl) ⟨ok_le rfl, ok_le rfl, ok_le rfl, ok_le rfl⟩ rfl rfl dL_does_694 ?_
                refine g_top (b := (S64_.1 15) + 100) (of_1_1 _) ?_
                refine g_iadd E dL_does_697 ?_
                refine g_icmpne E 718 dL_does_698 (by decide) (fun c_698 => ?_) (fun c_698 => ?_)
                · skip
                  refine g_iconst E 0 dL_does_718 (by decide) ?_
                  subst hv66_
                  subst hS65_
                  subst hS64_
                  subst hv63_
                  subst hv62_
                  subst hv61_
                  subst hv7_
                  subst hv5_
                  subst hv3_
                  subst hv1_
                  refine g_widen (k1 := R_L_does.cells) (n1 := R_L_does.slots) (ok_le rfl) (ok_le rfl) ?_
                  exact RET 719 _ 0 _ dL_does_719 rfl (by rw [r_L_does_at73, if_neg w_81_0, if_neg w_81_1, if_neg w_81_2, if_neg w_81_3, if_neg w_81_4, if_neg w_81_5, if_pos w_81_6, if_neg c_698]) ⟨p6, (by rw [c_L_does_1_at73, if_neg w_81_0, if_neg w_81_1, if_neg w_81_2, if_neg w_81_3, if_neg w_81_4, if_neg w_81_5, if_pos w_81_6, c_L_does_y_at73, if_neg w_81_0, if_neg w_81_1, if_neg w_81_2, if_neg w_81_3, if_neg w_81_4, if_neg w_81_5, if_pos w_81_6])⟩
                · skip
                  refine g_aload_n E 4 dL_does_701 rfl rfl ?_
                  refine g_iconst E 0 dL_does_702 (by decide) ?_
                  refine g_callVi0 E gc_X4_count ml_L_8 (t_X4_count d x a b c e 0 p6 q S64_ T h t S65_ ss ) rfl rfl (ci := 4) 0 rfl rfl rfl rfl (ok_le rfl) ⟨ok_le rfl, ok_le rfl, ok_le rfl, ok_le rfl⟩ rfl rfl dL_does_703 ?_
                  refine g_top (b := S64_.1 21) (count_0 _ _ _) ?_
                  refine g_iload E 2 dL_does_706 rfl ?_
                  refine g_iload E 1 dL_does_708 rfl ?_
                  refine g_iadd E dL_does_710 ?_
                  refine g_icmpne E 718 dL_does_711 (by decide) (fun c_711 => ?_) (fun c_711 => ?_)
                  · skip
                    refine g_iconst E 0 dL_does_718 (by decide) ?_
                    subst hv66_
                    subst hS65_
                    subst hS64_
                    subst hv63_
                    subst hv62_
                    subst hv61_
                    subst hv7_
                    subst hv5_
                    subst hv3_
                    subst hv1_
                    refine g_widen (k1 := R_L_does.cells) (n1 := R_L_does.slots) (ok_le rfl) (ok_le rfl) ?_
                    exact RET 719 _ 0 _ dL_does_719 rfl (by rw [r_L_does_at73, if_neg w_81_0, if_neg w_81_1, if_neg w_81_2, if_neg w_81_3, if_neg w_81_4, if_neg w_81_5, if_pos w_81_6, if_pos c_698, if_neg c_711]) ⟨p6, (by rw [c_L_does_1_at73, if_neg w_81_0, if_neg w_81_1, if_neg w_81_2, if_neg w_81_3, if_neg w_81_4, if_neg w_81_5, if_pos w_81_6, c_L_does_y_at73, if_neg w_81_0, if_neg w_81_1, if_neg w_81_2, if_neg w_81_3, if_neg w_81_4, if_neg w_81_5, if_pos w_81_6])⟩
                  · skip
                    refine g_iconst E 1 dL_does_714 (by decide) ?_
                    refine g_goto E 719 dL_does_715 (by decide) ?_
                    subst hv66_
                    subst hS65_
                    subst hS64_
                    subst hv63_
                    subst hv62_
                    subst hv61_
                    subst hv7_
                    subst hv5_
                    subst hv3_
                    subst hv1_
                    refine g_widen (k1 := R_L_does.cells) (n1 := R_L_does.slots) (ok_le rfl) (ok_le rfl) ?_
                    exact RET 719 _ 1 _ dL_does_719 rfl (by rw [r_L_does_at73, if_neg w_81_0, if_neg w_81_1, if_neg w_81_2, if_neg w_81_3, if_neg w_81_4, if_neg w_81_5, if_pos w_81_6, if_pos c_698, if_pos c_711]) ⟨p6, (by rw [c_L_does_1_at73, if_neg w_81_0, if_neg w_81_1, if_neg w_81_2, if_neg w_81_3, if_neg w_81_4, if_neg w_81_5, if_pos w_81_6, c_L_does_y_at73, if_neg w_81_0, if_neg w_81_1, if_neg w_81_2, if_neg w_81_3, if_neg w_81_4, if_neg w_81_5, if_pos w_81_6])⟩
              · skip
                by_cases w_81_7 : v7_ = 7
                · skip
                  refine g_tableIn E 720 dL_does_81 (by rw [w_81_7]; decide) (by rw [w_81_7]; decide) (by rw [w_81_7]; rfl) (by decide) ?_
                  refine g_aload_n E 1 dL_does_720 rfl rfl ?_
                  refine g_iconst E 0 dL_does_721 (by decide) ?_
                  refine g_iconst E 2 dL_does_722 (by decide) ?_
                  refine g_callVi0 E gc_X4_of ml_L_14 (t_X4_of d x a b c e 0 2 p q S T h t y ss ) rfl rfl (ci := 4) 0 rfl rfl rfl rfl (ok_le rfl) ⟨ok_le rfl, ok_le rfl, ok_le rfl, ok_le rfl⟩ rfl rfl dL_does_723 ?_
                  refine g_top (b := latX S) (of_0_2 _) ?_
                  refine g_istore E (lv' := [(18, .int (latX S)), (6, .int v), (0, .ref (x 0)), (1, .int u1), (2, .int u2), (3, .int v1_), (4, .int ((((S.1 7) / 16) + v3_) - 20)), (5, .int ((((S.1 8) / 16) + v5_) - 20))]) dL_does_726 (by decide) rfl ?_
                  refine g_aload_n E 2 dL_does_728 rfl rfl ?_
                  refine g_iconst E 1 dL_does_729 (by decide) ?_
                  refine g_iconst E 2 dL_does_730 (by decide) ?_
                  refine g_callVi0 E gc_X4_of ml_L_14 (t_X4_of d x a b c e 1 2 p q S T h t y ss ) rfl rfl (ci := 4) 0 rfl rfl rfl rfl (ok_le rfl) ⟨ok_le rfl, ok_le rfl, ok_le rfl, ok_le rfl⟩ rfl rfl dL_does_731 ?_
                  refine g_top (b := latY S) (of_1_2 _) ?_
                  refine g_istore E (lv' := [(19, .int (latY S)), (18, .int (latX S)), (6, .int v), (0, .ref (x 0)), (1, .int u1), (2, .int u2), (3, .int v1_), (4, .int ((((S.1 7) / 16) + v3_) - 20)), (5, .int ((((S.1 8) / 16) + v5_) - 20))]) dL_does_734 (by decide) rfl ?_
                  refine g_aload_n E 3 dL_does_736 rfl rfl ?_
                  refine g_iconst E 0 dL_does_737 (by decide) ?_
                  refine g_callVi0 E gc_X4_count ml_L_8 (t_X4_count d x a b c e 0 p q S T h t y ss ) rfl rfl (ci := 4) 0 rfl rfl rfl rfl (ok_le rfl) ⟨ok_le rfl, ok_le rfl, ok_le rfl, ok_le rfl⟩ rfl rfl dL_does_738 ?_
                  refine g_top (b := S.1 21) (count_0 _ _ _) ?_
                  refine g_ifeq E 789 dL_does_741 (by decide) (fun c_741 => ?_) (fun c_741 => ?_)
                  · skip
                    refine g_iconst E 1 dL_does_789 (by decide) ?_
                    refine g_goto E 794 dL_does_790 (by decide) ?_
                    subst hv7_
                    subst hv5_
                    subst hv3_
                    subst hv1_
                    refine g_widen (k1 := R_L_does.cells) (n1 := R_L_does.slots) (ok_le rfl) (ok_le rfl) ?_
                    exact RET 794 _ 1 _ dL_does_794 rfl (by rw [r_L_does_at73, if_neg w_81_0, if_neg w_81_1, if_neg w_81_2, if_neg w_81_3, if_neg w_81_4, if_neg w_81_5, if_neg w_81_6, if_pos w_81_7, if_pos c_741]) ⟨p, (by rw [c_L_does_1_at73, if_neg w_81_0, if_neg w_81_1, if_neg w_81_2, if_neg w_81_3, if_neg w_81_4, if_neg w_81_5, if_neg w_81_6, if_pos w_81_7, if_pos c_741, c_L_does_y_at73, if_neg w_81_0, if_neg w_81_1, if_neg w_81_2, if_neg w_81_3, if_neg w_81_4, if_neg w_81_5, if_neg w_81_6, if_pos w_81_7, if_pos c_741])⟩
                  · skip
                    refine g_iload E 1 dL_does_744 rfl ?_
                    refine g_iconst E 1 dL_does_746 (by decide) ?_
                    refine g_iadd E dL_does_747 ?_
                    refine g_sipush E 255 dL_does_748 (by decide) ?_
                    refine g_icmpgt E 789 dL_does_751 (by decide) (fun c_751 => ?_) (fun c_751 => ?_)
                    · skip
                      refine g_iconst E 1 dL_does_789 (by decide) ?_
                      refine g_goto E 794 dL_does_790 (by decide) ?_
                      subst hv7_
                      subst hv5_
                      subst hv3_
                      subst hv1_
                      refine g_widen (k1 := R_L_does.cells) (n1 := R_L_does.slots) (ok_le rfl) (ok_le rfl) ?_
                      exact RET 794 _ 1 _ dL_does_794 rfl (by rw [r_L_does_at73, if_neg w_81_0, if_neg w_81_1, if_neg w_81_2, if_neg w_81_3, if_neg w_81_4, if_neg w_81_5, if_neg w_81_6, if_pos w_81_7, if_neg c_741, if_pos c_751]) ⟨p, (by rw [c_L_does_1_at73, if_neg w_81_0, if_neg w_81_1, if_neg w_81_2, if_neg w_81_3, if_neg w_81_4, if_neg w_81_5, if_neg w_81_6, if_pos w_81_7, if_neg c_741, if_pos c_751, c_L_does_y_at73, if_neg w_81_0, if_neg w_81_1, if_neg w_81_2, if_neg w_81_3, if_neg w_81_4, if_neg w_81_5, if_neg w_81_6, if_pos w_81_7, if_neg c_741, if_pos c_751])⟩
                    · skip
                      refine g_aload_n E 3 dL_does_754 rfl rfl ?_
                      refine g_iload E 1 dL_does_755 rfl ?_
                      refine g_iload E 0 dL_does_757 rfl ?_
                      refine g_callSi E (wr := []) gc_L_isSample ml_L_57 (t_L_isSample d x a b c e (latX S) (latY S) p q S T h t y ss hy hu hz) rfl (List.append_nil _).symm rfl rfl (ok_le rfl) ⟨ok_le rfl, ok_le rfl, ok_le rfl, ok_le rfl⟩ rfl rfl dL_does_759 ?_
                      rintro v_ u_ ⟨rfl, ⟨p7, rfl⟩⟩
                      refine g_eq (ws' := XW d (x, a, b, c, e) p7 q (c_L_isSample_1 (latX S) (latY S) S y) T h t (c_L_isSample_y (latX S) (latY S) S y) ss) (List.append_nil _) ?_
                      obtain ⟨S73_, hS73_⟩ : ∃ z, c_L_isSample_1 (latX S) (latY S) S y = z := ⟨_, rfl⟩
                      rw [hS73_]
                      obtain ⟨S74_, hS74_⟩ : ∃ z, c_L_isSample_y (latX S) (latY S) S y = z := ⟨_, rfl⟩
                      rw [hS74_]
                      refine g_nm (fun v75_ hv75_ => ?_)
                      refine g_ifeq E 793 dL_does_762 (by decide) (fun c_762 => ?_) (fun c_762 => ?_)
                      · skip
                        refine g_iconst E 0 dL_does_793 (by decide) ?_
                        subst hv75_
                        subst hS74_
                        subst hS73_
                        subst hv7_
                        subst hv5_
                        subst hv3_
                        subst hv1_
                        refine g_widen (k1 := R_L_does.cells) (n1 := R_L_does.slots) (ok_le rfl) (ok_le rfl) ?_
                        exact RET 794 _ 0 _ dL_does_794 rfl (by rw [r_L_does_at73, if_neg w_81_0, if_neg w_81_1, if_neg w_81_2, if_neg w_81_3, if_neg w_81_4, if_neg w_81_5, if_neg w_81_6, if_pos w_81_7, if_neg c_741, if_neg c_751, if_pos c_762]) ⟨p7, (by rw [c_L_does_1_at73, if_neg w_81_0, if_neg w_81_1, if_neg w_81_2, if_neg w_81_3, if_neg w_81_4, if_neg w_81_5, if_neg w_81_6, if_pos w_81_7, if_neg c_741, if_neg c_751, if_pos c_762, c_L_does_y_at73, if_neg w_81_0, if_neg w_81_1, if_neg w_81_2, if_neg w_81_3, if_neg w_81_4, if_neg w_81_5, if_neg w_81_6, if_pos w_81_7, if_neg c_741, if_neg c_751, if_pos c_762])⟩
                      · skip
                        refine g_aload_n E 3 dL_does_765 rfl rfl ?_
                        refine g_iload E 1 dL_does_766 rfl ?_
                        refine g_iconst E 1 dL_does_768 (by decide) ?_
                        refine g_iadd E dL_does_769 ?_
                        refine g_iload E 0 dL_does_770 rfl ?_
                        refine g_callSi E (wr := []) gc_L_isSample ml_L_57 (t_L_isSample d x a b c e ((latX S) + 1) (latY S) p7 q S73_ T h t S74_ ss (by subst_vars; with_reducible exact samp_hy hy) (by subst_vars; with_reducible exact samp_ku hu) (by subst_vars; with_reducible exact samp_hz hz)) rfl (List.append_nil _).symm rfl rfl (ok_le rfl) ⟨ok_le rfl, ok_le rfl, ok_le rfl, ok_le rfl⟩ rfl rfl dL_does_772 ?_
                        rintro v_ u_ ⟨rfl, ⟨p8, rfl⟩⟩
                        refine g_eq (ws' := XW d (x, a, b, c, e) p8 q (c_L_isSample_1 ((latX S) + 1) (latY S) S73_ S74_) T h t (c_L_isSample_y ((latX S) + 1) (latY S) S73_ S74_) ss) (List.append_nil _) ?_
                        obtain ⟨S76_, hS76_⟩ : ∃ z, c_L_isSample_1 ((latX S) + 1) (latY S) S73_ S74_ = z := ⟨_, rfl⟩
                        rw [hS76_]
                        obtain ⟨S77_, hS77_⟩ : ∃ z, c_L_isSample_y ((latX S) + 1) (latY S) S73_ S74_ = z := ⟨_, rfl⟩
                        rw [hS77_]
                        refine g_nm (fun v78_ hv78_ => ?_)
                        refine g_ifeq E 793 dL_does_775 (by decide) (fun c_775 => ?_) (fun c_775 => ?_)
                        · skip
                          refine g_iconst E 0 dL_does_793 (by decide) ?_
                          subst hv78_
                          subst hS77_
                          subst hS76_
                          subst hv75_
                          subst hS74_
                          subst hS73_
                          subst hv7_
                          subst hv5_
                          subst hv3_
                          subst hv1_
                          refine g_widen (k1 := R_L_does.cells) (n1 := R_L_does.slots) (ok_le rfl) (ok_le rfl) ?_
                          exact RET 794 _ 0 _ dL_does_794 rfl (by rw [r_L_does_at73, if_neg w_81_0, if_neg w_81_1, if_neg w_81_2, if_neg w_81_3, if_neg w_81_4, if_neg w_81_5, if_neg w_81_6, if_pos w_81_7, if_neg c_741, if_neg c_751, if_neg c_762, if_pos c_775]) ⟨p8, (by rw [c_L_does_1_at73, if_neg w_81_0, if_neg w_81_1, if_neg w_81_2, if_neg w_81_3, if_neg w_81_4, if_neg w_81_5, if_neg w_81_6, if_pos w_81_7, if_neg c_741, if_neg c_751, if_neg c_762, if_pos c_775, c_L_does_y_at73, if_neg w_81_0, if_neg w_81_1, if_neg w_81_2, if_neg w_81_3, if_neg w_81_4, if_neg w_81_5, if_neg w_81_6, if_pos w_81_7, if_neg c_741, if_neg c_751, if_neg c_762, if_pos c_775])⟩
                        · skip
                          refine g_aload_n E 3 dL_does_778 rfl rfl ?_
                          refine g_iload E 1 dL_does_779 rfl ?_
                          refine g_iload E 0 dL_does_781 rfl ?_
                          refine g_callSi E (wr := []) gc_L_isSample ml_L_57 (t_L_isSample d x a b c e (latX S) (latY S) p8 q S76_ T h t S77_ ss (by subst_vars; with_reducible exact samp_hy (samp_hy hy)) (by subst_vars; with_reducible exact samp_ku (samp_ku hu)) (by subst_vars; with_reducible exact samp_hz (samp_hz hz))) rfl (List.append_nil _).symm rfl rfl (ok_le rfl) ⟨ok_le rfl, ok_le rfl, ok_le rfl, ok_le rfl⟩ rfl rfl dL_does_783 ?_
                          rintro v_ u_ ⟨rfl, ⟨p9, rfl⟩⟩
                          refine g_eq (ws' := XW d (x, a, b, c, e) p9 q (c_L_isSample_1 (latX S) (latY S) S76_ S77_) T h t (c_L_isSample_y (latX S) (latY S) S76_ S77_) ss) (List.append_nil _) ?_
                          obtain ⟨S79_, hS79_⟩ : ∃ z, c_L_isSample_1 (latX S) (latY S) S76_ S77_ = z := ⟨_, rfl⟩
                          rw [hS79_]
                          obtain ⟨S80_, hS80_⟩ : ∃ z, c_L_isSample_y (latX S) (latY S) S76_ S77_ = z := ⟨_, rfl⟩
                          rw [hS80_]
                          refine g_nm (fun v81_ hv81_ => ?_)
                          refine g_ifeq E 793 dL_does_786 (by decide) (fun c_786 => ?_) (fun c_786 => ?_)
                          · skip
                            refine g_iconst E 0 dL_does_793 (by decide) ?_
                            subst hv81_
                            subst hS80_
                            subst hS79_
                            subst hv78_
                            subst hS77_
                            subst hS76_
                            subst hv75_
                            subst hS74_
                            subst hS73_
                            subst hv7_
                            subst hv5_
                            subst hv3_
                            subst hv1_
                            exact RET 794 _ 0 _ dL_does_794 rfl (by rw [r_L_does_at73, if_neg w_81_0, if_neg w_81_1, if_neg w_81_2, if_neg w_81_3, if_neg w_81_4, if_neg w_81_5, if_neg w_81_6, if_pos w_81_7, if_neg c_741, if_neg c_751, if_neg c_762, if_neg c_775, if_pos c_786]) ⟨p9, (by rw [c_L_does_1_at73, if_neg w_81_0, if_neg w_81_1, if_neg w_81_2, if_neg w_81_3, if_neg w_81_4, if_neg w_81_5, if_neg w_81_6, if_pos w_81_7, if_neg c_741, if_neg c_751, if_neg c_762, if_neg c_775, c_L_does_y_at73, if_neg w_81_0, if_neg w_81_1, if_neg w_81_2, if_neg w_81_3, if_neg w_81_4, if_neg w_81_5, if_neg w_81_6, if_pos w_81_7, if_neg c_741, if_neg c_751, if_neg c_762, if_neg c_775])⟩
                          · skip
                            refine g_iconst E 1 dL_does_789 (by decide) ?_
                            refine g_goto E 794 dL_does_790 (by decide) ?_
                            subst hv81_
                            subst hS80_
                            subst hS79_
                            subst hv78_
                            subst hS77_
                            subst hS76_
                            subst hv75_
                            subst hS74_
                            subst hS73_
                            subst hv7_
                            subst hv5_
                            subst hv3_
                            subst hv1_
                            exact RET 794 _ 1 _ dL_does_794 rfl (by rw [r_L_does_at73, if_neg w_81_0, if_neg w_81_1, if_neg w_81_2, if_neg w_81_3, if_neg w_81_4, if_neg w_81_5, if_neg w_81_6, if_pos w_81_7, if_neg c_741, if_neg c_751, if_neg c_762, if_neg c_775, if_neg c_786]) ⟨p9, (by rw [c_L_does_1_at73, if_neg w_81_0, if_neg w_81_1, if_neg w_81_2, if_neg w_81_3, if_neg w_81_4, if_neg w_81_5, if_neg w_81_6, if_pos w_81_7, if_neg c_741, if_neg c_751, if_neg c_762, if_neg c_775, c_L_does_y_at73, if_neg w_81_0, if_neg w_81_1, if_neg w_81_2, if_neg w_81_3, if_neg w_81_4, if_neg w_81_5, if_neg w_81_6, if_pos w_81_7, if_neg c_741, if_neg c_751, if_neg c_762, if_neg c_775])⟩
                · skip
                  by_cases w_81_8 : v7_ = 8
                  · skip
                    refine g_tableIn E 720 dL_does_81 (by rw [w_81_8]; decide) (by rw [w_81_8]; decide) (by rw [w_81_8]; rfl) (by decide) ?_
                    refine g_aload_n E 1 dL_does_720 rfl rfl ?_
                    refine g_iconst E 0 dL_does_721 (by decide) ?_
                    refine g_iconst E 2 dL_does_722 (by decide) ?_
                    refine g_callVi0 E gc_X4_of ml_L_14 (t_X4_of d x a b c e 0 2 p q S T h t y ss ) rfl rfl (ci := 4) 0 rfl rfl rfl rfl (ok_le rfl) ⟨ok_le rfl, ok_le rfl, ok_le rfl, ok_le rfl⟩ rfl rfl dL_does_723 ?_
                    refine g_top (b := latX S) (of_0_2 _) ?_
                    refine g_istore E (lv' := [(18, .int (latX S)), (6, .int v), (0, .ref (x 0)), (1, .int u1), (2, .int u2), (3, .int v1_), (4, .int ((((S.1 7) / 16) + v3_) - 20)), (5, .int ((((S.1 8) / 16) + v5_) - 20))]) dL_does_726 (by decide) rfl ?_
                    refine g_aload_n E 2 dL_does_728 rfl rfl ?_
                    refine g_iconst E 1 dL_does_729 (by decide) ?_
                    refine g_iconst E 2 dL_does_730 (by decide) ?_
                    refine g_callVi0 E gc_X4_of ml_L_14 (t_X4_of d x a b c e 1 2 p q S T h t y ss ) rfl rfl (ci := 4) 0 rfl rfl rfl rfl (ok_le rfl) ⟨ok_le rfl, ok_le rfl, ok_le rfl, ok_le rfl⟩ rfl rfl dL_does_731 ?_
                    refine g_top (b := latY S) (of_1_2 _) ?_
                    refine g_istore E (lv' := [(19, .int (latY S)), (18, .int (latX S)), (6, .int v), (0, .ref (x 0)), (1, .int u1), (2, .int u2), (3, .int v1_), (4, .int ((((S.1 7) / 16) + v3_) - 20)), (5, .int ((((S.1 8) / 16) + v5_) - 20))]) dL_does_734 (by decide) rfl ?_
                    refine g_aload_n E 3 dL_does_736 rfl rfl ?_
                    refine g_iconst E 0 dL_does_737 (by decide) ?_
                    refine g_callVi0 E gc_X4_count ml_L_8 (t_X4_count d x a b c e 0 p q S T h t y ss ) rfl rfl (ci := 4) 0 rfl rfl rfl rfl (ok_le rfl) ⟨ok_le rfl, ok_le rfl, ok_le rfl, ok_le rfl⟩ rfl rfl dL_does_738 ?_
                    refine g_top (b := S.1 21) (count_0 _ _ _) ?_
                    refine g_ifeq E 789 dL_does_741 (by decide) (fun c_741 => ?_) (fun c_741 => ?_)
                    · skip
                      refine g_iconst E 1 dL_does_789 (by decide) ?_
                      refine g_goto E 794 dL_does_790 (by decide) ?_
                      subst hv7_
                      subst hv5_
                      subst hv3_
                      subst hv1_
                      refine g_widen (k1 := R_L_does.cells) (n1 := R_L_does.slots) (ok_le rfl) (ok_le rfl) ?_
                      exact RET 794 _ 1 _ dL_does_794 rfl (by rw [r_L_does_at73, if_neg w_81_0, if_neg w_81_1, if_neg w_81_2, if_neg w_81_3, if_neg w_81_4, if_neg w_81_5, if_neg w_81_6, if_neg w_81_7, if_pos w_81_8, if_pos c_741]) ⟨p, (by rw [c_L_does_1_at73, if_neg w_81_0, if_neg w_81_1, if_neg w_81_2, if_neg w_81_3, if_neg w_81_4, if_neg w_81_5, if_neg w_81_6, if_neg w_81_7, if_pos w_81_8, if_pos c_741, c_L_does_y_at73, if_neg w_81_0, if_neg w_81_1, if_neg w_81_2, if_neg w_81_3, if_neg w_81_4, if_neg w_81_5, if_neg w_81_6, if_neg w_81_7, if_pos w_81_8, if_pos c_741])⟩
                    · skip
                      refine g_iload E 1 dL_does_744 rfl ?_
                      refine g_iconst E 1 dL_does_746 (by decide) ?_
                      refine g_iadd E dL_does_747 ?_
                      refine g_sipush E 255 dL_does_748 (by decide) ?_
                      refine g_icmpgt E 789 dL_does_751 (by decide) (fun c_751 => ?_) (fun c_751 => ?_)
                      · skip
                        refine g_iconst E 1 dL_does_789 (by decide) ?_
                        refine g_goto E 794 dL_does_790 (by decide) ?_
                        subst hv7_
                        subst hv5_
                        subst hv3_
                        subst hv1_
                        refine g_widen (k1 := R_L_does.cells) (n1 := R_L_does.slots) (ok_le rfl) (ok_le rfl) ?_
                        exact RET 794 _ 1 _ dL_does_794 rfl (by rw [r_L_does_at73, if_neg w_81_0, if_neg w_81_1, if_neg w_81_2, if_neg w_81_3, if_neg w_81_4, if_neg w_81_5, if_neg w_81_6, if_neg w_81_7, if_pos w_81_8, if_neg c_741, if_pos c_751]) ⟨p, (by rw [c_L_does_1_at73, if_neg w_81_0, if_neg w_81_1, if_neg w_81_2, if_neg w_81_3, if_neg w_81_4, if_neg w_81_5, if_neg w_81_6, if_neg w_81_7, if_pos w_81_8, if_neg c_741, if_pos c_751, c_L_does_y_at73, if_neg w_81_0, if_neg w_81_1, if_neg w_81_2, if_neg w_81_3, if_neg w_81_4, if_neg w_81_5, if_neg w_81_6, if_neg w_81_7, if_pos w_81_8, if_neg c_741, if_pos c_751])⟩
                      · skip
                        refine g_aload_n E 3 dL_does_754 rfl rfl ?_
                        refine g_iload E 1 dL_does_755 rfl ?_
                        refine g_iload E 0 dL_does_757 rfl ?_
                        refine g_callSi E (wr := []) gc_L_isSample ml_L_57 (t_L_isSample d x a b c e (latX S) (latY S) p q S T h t y ss hy hu hz) rfl (List.append_nil _).symm rfl rfl (ok_le rfl) ⟨ok_le rfl, ok_le rfl, ok_le rfl, ok_le rfl⟩ rfl rfl dL_does_759 ?_
                        rintro v_ u_ ⟨rfl, ⟨p10, rfl⟩⟩
                        refine g_eq (ws' := XW d (x, a, b, c, e) p10 q (c_L_isSample_1 (latX S) (latY S) S y) T h t (c_L_isSample_y (latX S) (latY S) S y) ss) (List.append_nil _) ?_
                        obtain ⟨S85_, hS85_⟩ : ∃ z, c_L_isSample_1 (latX S) (latY S) S y = z := ⟨_, rfl⟩
                        rw [hS85_]
                        obtain ⟨S86_, hS86_⟩ : ∃ z, c_L_isSample_y (latX S) (latY S) S y = z := ⟨_, rfl⟩
                        rw [hS86_]
                        refine g_nm (fun v87_ hv87_ => ?_)
                        refine g_ifeq E 793 dL_does_762 (by decide) (fun c_762 => ?_) (fun c_762 => ?_)
                        · skip
                          refine g_iconst E 0 dL_does_793 (by decide) ?_
                          subst hv87_
                          subst hS86_
                          subst hS85_
                          subst hv7_
                          subst hv5_
                          subst hv3_
                          subst hv1_
                          refine g_widen (k1 := R_L_does.cells) (n1 := R_L_does.slots) (ok_le rfl) (ok_le rfl) ?_
                          exact RET 794 _ 0 _ dL_does_794 rfl (by rw [r_L_does_at73, if_neg w_81_0, if_neg w_81_1, if_neg w_81_2, if_neg w_81_3, if_neg w_81_4, if_neg w_81_5, if_neg w_81_6, if_neg w_81_7, if_pos w_81_8, if_neg c_741, if_neg c_751, if_pos c_762]) ⟨p10, (by rw [c_L_does_1_at73, if_neg w_81_0, if_neg w_81_1, if_neg w_81_2, if_neg w_81_3, if_neg w_81_4, if_neg w_81_5, if_neg w_81_6, if_neg w_81_7, if_pos w_81_8, if_neg c_741, if_neg c_751, if_pos c_762, c_L_does_y_at73, if_neg w_81_0, if_neg w_81_1, if_neg w_81_2, if_neg w_81_3, if_neg w_81_4, if_neg w_81_5, if_neg w_81_6, if_neg w_81_7, if_pos w_81_8, if_neg c_741, if_neg c_751, if_pos c_762])⟩
                        · skip
                          refine g_aload_n E 3 dL_does_765 rfl rfl ?_
                          refine g_iload E 1 dL_does_766 rfl ?_
                          refine g_iconst E 1 dL_does_768 (by decide) ?_
                          refine g_iadd E dL_does_769 ?_
                          refine g_iload E 0 dL_does_770 rfl ?_
                          refine g_callSi E (wr := []) gc_L_isSample ml_L_57 (t_L_isSample d x a b c e ((latX S) + 1) (latY S) p10 q S85_ T h t S86_ ss (by subst_vars; with_reducible exact samp_hy hy) (by subst_vars; with_reducible exact samp_ku hu) (by subst_vars; with_reducible exact samp_hz hz)) rfl (List.append_nil _).symm rfl rfl (ok_le rfl) ⟨ok_le rfl, ok_le rfl, ok_le rfl, ok_le rfl⟩ rfl rfl dL_does_772 ?_
                          rintro v_ u_ ⟨rfl, ⟨p11, rfl⟩⟩
                          refine g_eq (ws' := XW d (x, a, b, c, e) p11 q (c_L_isSample_1 ((latX S) + 1) (latY S) S85_ S86_) T h t (c_L_isSample_y ((latX S) + 1) (latY S) S85_ S86_) ss) (List.append_nil _) ?_
                          obtain ⟨S88_, hS88_⟩ : ∃ z, c_L_isSample_1 ((latX S) + 1) (latY S) S85_ S86_ = z := ⟨_, rfl⟩
                          rw [hS88_]
                          obtain ⟨S89_, hS89_⟩ : ∃ z, c_L_isSample_y ((latX S) + 1) (latY S) S85_ S86_ = z := ⟨_, rfl⟩
                          rw [hS89_]
                          refine g_nm (fun v90_ hv90_ => ?_)
                          refine g_ifeq E 793 dL_does_775 (by decide) (fun c_775 => ?_) (fun c_775 => ?_)
                          · skip
                            refine g_iconst E 0 dL_does_793 (by decide) ?_
                            subst hv90_
                            subst hS89_
                            subst hS88_
                            subst hv87_
                            subst hS86_
                            subst hS85_
                            subst hv7_
                            subst hv5_
                            subst hv3_
                            subst hv1_
                            refine g_widen (k1 := R_L_does.cells) (n1 := R_L_does.slots) (ok_le rfl) (ok_le rfl) ?_
                            exact RET 794 _ 0 _ dL_does_794 rfl (by rw [r_L_does_at73, if_neg w_81_0, if_neg w_81_1, if_neg w_81_2, if_neg w_81_3, if_neg w_81_4, if_neg w_81_5, if_neg w_81_6, if_neg w_81_7, if_pos w_81_8, if_neg c_741, if_neg c_751, if_neg c_762, if_pos c_775]) ⟨p11, (by rw [c_L_does_1_at73, if_neg w_81_0, if_neg w_81_1, if_neg w_81_2, if_neg w_81_3, if_neg w_81_4, if_neg w_81_5, if_neg w_81_6, if_neg w_81_7, if_pos w_81_8, if_neg c_741, if_neg c_751, if_neg c_762, if_pos c_775, c_L_does_y_at73, if_neg w_81_0, if_neg w_81_1, if_neg w_81_2, if_neg w_81_3, if_neg w_81_4, if_neg w_81_5, if_neg w_81_6, if_neg w_81_7, if_pos w_81_8, if_neg c_741, if_neg c_751, if_neg c_762, if_pos c_775])⟩
                          · skip
                            refine g_aload_n E 3 dL_does_778 rfl rfl ?_
                            refine g_iload E 1 dL_does_779 rfl ?_
                            refine g_iload E 0 dL_does_781 rfl ?_
                            refine g_callSi E (wr := []) gc_L_isSample ml_L_57 (t_L_isSample d x a b c e (latX S) (latY S) p11 q S88_ T h t S89_ ss (by subst_vars; with_reducible exact samp_hy (samp_hy hy)) (by subst_vars; with_reducible exact samp_ku (samp_ku hu)) (by subst_vars; with_reducible exact samp_hz (samp_hz hz))) rfl (List.append_nil _).symm rfl rfl (ok_le rfl) ⟨ok_le rfl, ok_le rfl, ok_le rfl, ok_le rfl⟩ rfl rfl dL_does_783 ?_
                            rintro v_ u_ ⟨rfl, ⟨p12, rfl⟩⟩
                            refine g_eq (ws' := XW d (x, a, b, c, e) p12 q (c_L_isSample_1 (latX S) (latY S) S88_ S89_) T h t (c_L_isSample_y (latX S) (latY S) S88_ S89_) ss) (List.append_nil _) ?_
                            obtain ⟨S91_, hS91_⟩ : ∃ z, c_L_isSample_1 (latX S) (latY S) S88_ S89_ = z := ⟨_, rfl⟩
                            rw [hS91_]
                            obtain ⟨S92_, hS92_⟩ : ∃ z, c_L_isSample_y (latX S) (latY S) S88_ S89_ = z := ⟨_, rfl⟩
                            rw [hS92_]
                            refine g_nm (fun v93_ hv93_ => ?_)
                            refine g_ifeq E 793 dL_does_786 (by decide) (fun c_786 => ?_) (fun c_786 => ?_)
                            · skip
                              refine g_iconst E 0 dL_does_793 (by decide) ?_
                              subst hv93_
                              subst hS92_
                              subst hS91_
                              subst hv90_
                              subst hS89_
                              subst hS88_
                              subst hv87_
                              subst hS86_
                              subst hS85_
                              subst hv7_
                              subst hv5_
                              subst hv3_
                              subst hv1_
                              exact RET 794 _ 0 _ dL_does_794 rfl (by rw [r_L_does_at73, if_neg w_81_0, if_neg w_81_1, if_neg w_81_2, if_neg w_81_3, if_neg w_81_4, if_neg w_81_5, if_neg w_81_6, if_neg w_81_7, if_pos w_81_8, if_neg c_741, if_neg c_751, if_neg c_762, if_neg c_775, if_pos c_786]) ⟨p12, (by rw [c_L_does_1_at73, if_neg w_81_0, if_neg w_81_1, if_neg w_81_2, if_neg w_81_3, if_neg w_81_4, if_neg w_81_5, if_neg w_81_6, if_neg w_81_7, if_pos w_81_8, if_neg c_741, if_neg c_751, if_neg c_762, if_neg c_775, c_L_does_y_at73, if_neg w_81_0, if_neg w_81_1, if_neg w_81_2, if_neg w_81_3, if_neg w_81_4, if_neg w_81_5, if_neg w_81_6, if_neg w_81_7, if_pos w_81_8, if_neg c_741, if_neg c_751, if_neg c_762, if_neg c_775])⟩
                            · skip
                              refine g_iconst E 1 dL_does_789 (by decide) ?_
                              refine g_goto E 794 dL_does_790 (by decide) ?_
                              subst hv93_
                              subst hS92_
                              subst hS91_
                              subst hv90_
                              subst hS89_
                              subst hS88_
                              subst hv87_
                              subst hS86_
                              subst hS85_
                              subst hv7_
                              subst hv5_
                              subst hv3_
                              subst hv1_
                              exact RET 794 _ 1 _ dL_does_794 rfl (by rw [r_L_does_at73, if_neg w_81_0, if_neg w_81_1, if_neg w_81_2, if_neg w_81_3, if_neg w_81_4, if_neg w_81_5, if_neg w_81_6, if_neg w_81_7, if_pos w_81_8, if_neg c_741, if_neg c_751, if_neg c_762, if_neg c_775, if_neg c_786]) ⟨p12, (by rw [c_L_does_1_at73, if_neg w_81_0, if_neg w_81_1, if_neg w_81_2, if_neg w_81_3, if_neg w_81_4, if_neg w_81_5, if_neg w_81_6, if_neg w_81_7, if_pos w_81_8, if_neg c_741, if_neg c_751, if_neg c_762, if_neg c_775, c_L_does_y_at73, if_neg w_81_0, if_neg w_81_1, if_neg w_81_2, if_neg w_81_3, if_neg w_81_4, if_neg w_81_5, if_neg w_81_6, if_neg w_81_7, if_pos w_81_8, if_neg c_741, if_neg c_751, if_neg c_762, if_neg c_775])⟩
                  · skip
                    refine g_tableOut E 795 dL_does_81 (by have z0 := lv_neT (x := v7_) (k := 0) (a := 0) w_81_0 (by decide); have z1 := lv_neT (x := v7_) (k := 1) (a := 1) w_81_1 (by decide); have z2 := lv_neT (x := v7_) (k := 2) (a := 2) w_81_2 (by decide); have z3 := lv_neT (x := v7_) (k := 3) (a := 3) w_81_3 (by decide); have z4 := lv_neT (x := v7_) (k := 4) (a := 4) w_81_4 (by decide); have z5 := lv_neT (x := v7_) (k := 5) (a := 5) w_81_5 (by decide); have z6 := lv_neT (x := v7_) (k := 6) (a := 6) w_81_6 (by decide); have z7 := lv_neT (x := v7_) (k := 7) (a := 7) w_81_7 (by decide); have z8 := lv_neT (x := v7_) (k := 8) (a := 8) w_81_8 (by decide); omega) (by decide) ?_
                    refine g_aload_n E 1 dL_does_795 rfl rfl ?_
                    refine g_iload E 5 dL_does_796 rfl ?_
                    refine g_ifge E 805 dL_does_798 (by decide) (fun c_798 => ?_) (fun c_798 => ?_)
                    · skip
                      refine g_iload E 5 dL_does_805 rfl ?_
                      refine g_sipush E 255 dL_does_807 (by decide) ?_
                      refine g_icmple E 819 dL_does_810 (by decide) (fun c_810 => ?_) (fun c_810 => ?_)
                      · skip
                        refine g_iload E 5 dL_does_819 rfl ?_
                        refine g_lvs (lv' := [(5, .int ((((S.1 8) / 16) + v5_) - 20))]) [6] rfl ?_
                        subst hv7_
                        subst hv5_
                        subst hv3_
                        subst hv1_
                        exact s_L_does_821 d x a b c e u1 u2 p q S T h t y ss hy hu hz ((((S.1 7) / 16) + (r_L_low u2 41)) - 20)  E (fun pc_ lv_ v_ u_ h1_ h2_ h3_ h4_ => RET pc_ lv_ v_ u_ h1_ h2_ (h3_.trans (by rw [r_L_does_at73, if_neg w_81_0, if_neg w_81_1, if_neg w_81_2, if_neg w_81_3, if_neg w_81_4, if_neg w_81_5, if_neg w_81_6, if_neg w_81_7, if_neg w_81_8, if_neg c_798, if_neg c_810])) (h4_.imp (fun _ h5_ => h5_.trans (by rw [c_L_does_1_at73, if_neg w_81_0, if_neg w_81_1, if_neg w_81_2, if_neg w_81_3, if_neg w_81_4, if_neg w_81_5, if_neg w_81_6, if_neg w_81_7, if_neg w_81_8, if_neg c_798, if_neg c_810, c_L_does_y_at73, if_neg w_81_0, if_neg w_81_1, if_neg w_81_2, if_neg w_81_3, if_neg w_81_4, if_neg w_81_5, if_neg w_81_6, if_neg w_81_7, if_neg w_81_8, if_neg c_798, if_neg c_810]))))
                      · skip
                        refine g_sipush E 255 dL_does_813 (by decide) ?_
                        refine g_goto E 821 dL_does_816 (by decide) ?_
                        refine g_lvs (lv' := [(5, .int ((((S.1 8) / 16) + v5_) - 20))]) [6] rfl ?_
                        subst hv7_
                        subst hv5_
                        subst hv3_
                        subst hv1_
                        exact s_L_does_821 d x a b c e u1 u2 p q S T h t y ss hy hu hz 255  E (fun pc_ lv_ v_ u_ h1_ h2_ h3_ h4_ => RET pc_ lv_ v_ u_ h1_ h2_ (h3_.trans (by rw [r_L_does_at73, if_neg w_81_0, if_neg w_81_1, if_neg w_81_2, if_neg w_81_3, if_neg w_81_4, if_neg w_81_5, if_neg w_81_6, if_neg w_81_7, if_neg w_81_8, if_neg c_798, if_pos c_810])) (h4_.imp (fun _ h5_ => h5_.trans (by rw [c_L_does_1_at73, if_neg w_81_0, if_neg w_81_1, if_neg w_81_2, if_neg w_81_3, if_neg w_81_4, if_neg w_81_5, if_neg w_81_6, if_neg w_81_7, if_neg w_81_8, if_neg c_798, if_pos c_810, c_L_does_y_at73, if_neg w_81_0, if_neg w_81_1, if_neg w_81_2, if_neg w_81_3, if_neg w_81_4, if_neg w_81_5, if_neg w_81_6, if_neg w_81_7, if_neg w_81_8, if_neg c_798, if_pos c_810]))))
                    · skip
                      refine g_iconst E 0 dL_does_801 (by decide) ?_
                      refine g_goto E 821 dL_does_802 (by decide) ?_
                      refine g_lvs (lv' := [(5, .int ((((S.1 8) / 16) + v5_) - 20))]) [6] rfl ?_
                      subst hv7_
                      subst hv5_
                      subst hv3_
                      subst hv1_
                      exact s_L_does_821 d x a b c e u1 u2 p q S T h t y ss hy hu hz 0  E (fun pc_ lv_ v_ u_ h1_ h2_ h3_ h4_ => RET pc_ lv_ v_ u_ h1_ h2_ (h3_.trans (by rw [r_L_does_at73, if_neg w_81_0, if_neg w_81_1, if_neg w_81_2, if_neg w_81_3, if_neg w_81_4, if_neg w_81_5, if_neg w_81_6, if_neg w_81_7, if_neg w_81_8, if_pos c_798])) (h4_.imp (fun _ h5_ => h5_.trans (by rw [c_L_does_1_at73, if_neg w_81_0, if_neg w_81_1, if_neg w_81_2, if_neg w_81_3, if_neg w_81_4, if_neg w_81_5, if_neg w_81_6, if_neg w_81_7, if_neg w_81_8, if_pos c_798, c_L_does_y_at73, if_neg w_81_0, if_neg w_81_1, if_neg w_81_2, if_neg w_81_3, if_neg w_81_4, if_neg w_81_5, if_neg w_81_6, if_neg w_81_7, if_neg w_81_8, if_pos c_798]))))
set_option maxHeartbeats 1000000 in
set_option maxRecDepth 100000 in
theorem s_L_does_0 (d : gD) (x : Nat → Nat) (a : Nat → Nat) (b : Nat → Nat) (c : Nat → Nat) (e : Nat → Nat) (u1 : Int32) (u2 : Int32) (p : Nat → Nat → Nat) (q : Nat → Nat → Nat) (S : SS) (T : SS) (h : Nat → Int32) (t : Nat → Int32) (y : HS) (ss : Nat → Option SS) (hy : y.1 < 6 ∧ y.2.1 ≤ 6) (hu : ¬ S.2.2.1 0 < 0) (hz : ¬ S.2.1 0 = 0)  {X : gX} (E : gE d X RL cL_does 20 R_L_does) (RET : ∀ (pc_ : Nat) (lv_ : List (Nat × Value)) (v_ : Int32) (u_ : va_W), decode cL_does pc_ = .ok (.ireturn, 1) → narrow .boolean (.int v_) = .int v_ → v_ = r_L_does u1 u2 S y → (∃ p_ : Nat → Nat → Nat, u_ = XW d (x, a, b, c, e) p_ q (c_L_does_1 u1 u2 S y) T h t (c_L_does_y u1 u2 S y) ss) → G d X u_ R_L_does.cells R_L_does.slots pc_ lv_ [.int v_]) : G d X (XW d (x, a, b, c, e) p q S T h t y ss) 0 0 0 [(0, .ref (x 0)), (1, .int u1), (2, .int u2)] [] := by
  refine g_iload_n E 1 dL_does_0 rfl rfl ?_
  refine g_iconst E 4 dL_does_1 (by decide) ?_
  refine g_ishr E dL_does_2 ?_
  refine g_bipush E 9 dL_does_3 (by decide) ?_
  refine g_callSp E gc_L_low ml_L_51 (t_L_low d (u1 >>> ((4 : Int32) &&& 31)) 9 (by decide)) rfl rfl rfl (ok_le rfl) ⟨ok_le rfl, ok_le rfl, ok_le rfl, ok_le rfl⟩ rfl rfl dL_does_5 ?_
  refine g_nm (fun v1_ hv1_ => ?_)
  refine g_istore_n E (lv' := [(3, .int v1_), (0, .ref (x 0)), (1, .int u1), (2, .int u2)]) dL_does_8 rfl (by decide) rfl ?_
  refine g_aload_n E 1 dL_does_9 rfl rfl ?_
  refine g_iconst E 0 dL_does_10 (by decide) ?_
  refine g_iconst E 0 dL_does_11 (by decide) ?_
  refine g_callVi0 E gc_X4_of ml_L_14 (t_X4_of d x a b c e 0 0 p q S T h t y ss ) rfl rfl (ci := 4) 0 rfl rfl rfl rfl (ok_le rfl) ⟨ok_le rfl, ok_le rfl, ok_le rfl, ok_le rfl⟩ rfl rfl dL_does_12 ?_
  refine g_top (b := S.1 7) (of_0_0 _) ?_
  refine g_bipush E 16 dL_does_15 (by decide) ?_
  refine g_idiv E dL_does_17 (by decide) ?_
  refine g_iload_n E 3 dL_does_18 rfl rfl ?_
  refine g_bipush E 41 dL_does_19 (by decide) ?_
  refine g_callSp E gc_L_low ml_L_51 (t_L_low d u2 41 (by decide)) rfl rfl rfl (ok_le rfl) ⟨ok_le rfl, ok_le rfl, ok_le rfl, ok_le rfl⟩ rfl rfl dL_does_21 ?_
  refine g_nm (fun v3_ hv3_ => ?_)
  refine g_iadd E dL_does_24 ?_
  refine g_bipush E 20 dL_does_25 (by decide) ?_
  refine g_isub E dL_does_27 ?_
  refine g_istore E (lv' := [(4, .int ((((S.1 7) / 16) + v3_) - 20)), (3, .int v1_), (0, .ref (x 0)), (1, .int u1), (2, .int u2)]) dL_does_28 (by decide) rfl ?_
  refine g_aload_n E 2 dL_does_30 rfl rfl ?_
  refine g_iconst E 1 dL_does_31 (by decide) ?_
  refine g_iconst E 0 dL_does_32 (by decide) ?_
  refine g_callVi0 E gc_X4_of ml_L_14 (t_X4_of d x a b c e 1 0 p q S T h t y ss ) rfl rfl (ci := 4) 0 rfl rfl rfl rfl (ok_le rfl) ⟨ok_le rfl, ok_le rfl, ok_le rfl, ok_le rfl⟩ rfl rfl dL_does_33 ?_
  refine g_top (b := S.1 8) (of_1_0 _) ?_
  refine g_bipush E 16 dL_does_36 (by decide) ?_
  refine g_idiv E dL_does_38 (by decide) ?_
  refine g_iload_n E 4 dL_does_39 rfl rfl ?_
  refine g_bipush E 6 dL_does_40 (by decide) ?_
  refine g_ishr E dL_does_42 ?_
  refine g_bipush E 41 dL_does_43 (by decide) ?_
  refine g_callSp E gc_L_low ml_L_51 (t_L_low d (u2 >>> ((6 : Int32) &&& 31)) 41 (by decide)) rfl rfl rfl (ok_le rfl) ⟨ok_le rfl, ok_le rfl, ok_le rfl, ok_le rfl⟩ rfl rfl dL_does_45 ?_
  refine g_nm (fun v5_ hv5_ => ?_)
  refine g_iadd E dL_does_48 ?_
  refine g_bipush E 20 dL_does_49 (by decide) ?_
  refine g_isub E dL_does_51 ?_
  refine g_istore E (lv' := [(5, .int ((((S.1 8) / 16) + v5_) - 20)), (4, .int ((((S.1 7) / 16) + v3_) - 20)), (3, .int v1_), (0, .ref (x 0)), (1, .int u1), (2, .int u2)]) dL_does_52 (by decide) rfl ?_
  refine g_aload_n E 3 dL_does_54 rfl rfl ?_
  refine g_bipush E 6 dL_does_55 (by decide) ?_
  refine g_callVi0 E gc_X4_count ml_L_8 (t_X4_count d x a b c e 6 p q S T h t y ss ) rfl rfl (ci := 4) 0 rfl rfl rfl rfl (ok_le rfl) ⟨ok_le rfl, ok_le rfl, ok_le rfl, ok_le rfl⟩ rfl rfl dL_does_57 ?_
  refine g_top (b := S.1 18) (count_6 _ _ _) ?_
  refine g_iload_n E 2 dL_does_60 rfl rfl ?_
  refine g_ishr E dL_does_61 ?_
  refine g_iconst E 1 dL_does_62 (by decide) ?_
  refine g_iand E dL_does_63 ?_
  refine g_iconst E 1 dL_does_64 (by decide) ?_
  refine g_icmpne E 72 dL_does_65 (by decide) (fun c_65 => ?_) (fun c_65 => ?_)
  · skip
    refine g_iconst E 0 dL_does_72 (by decide) ?_
    refine g_lvs (lv' := [(0, .ref (x 0)), (1, .int u1), (2, .int u2), (3, .int v1_), (4, .int ((((S.1 7) / 16) + v3_) - 20)), (5, .int ((((S.1 8) / 16) + v5_) - 20))]) [3, 4, 5, 2, 1, 0] rfl ?_
    subst hv5_
    subst hv3_
    subst hv1_
    exact s_L_does_73 d x a b c e u1 u2 p q S T h t y ss hy hu hz 0 (by first | exact Or.inl rfl | exact Or.inr rfl | assumption) E (fun pc_ lv_ v_ u_ h1_ h2_ h3_ h4_ => RET pc_ lv_ v_ u_ h1_ h2_ (h3_.trans (by rw [r_L_does, if_neg c_65])) (h4_.imp (fun _ h5_ => h5_.trans (by rw [c_L_does_1, if_neg c_65, c_L_does_y, if_neg c_65]))))
  · skip
    refine g_iconst E 1 dL_does_68 (by decide) ?_
    refine g_goto E 73 dL_does_69 (by decide) ?_
    refine g_lvs (lv' := [(0, .ref (x 0)), (1, .int u1), (2, .int u2), (3, .int v1_), (4, .int ((((S.1 7) / 16) + v3_) - 20)), (5, .int ((((S.1 8) / 16) + v5_) - 20))]) [3, 4, 5, 2, 1, 0] rfl ?_
    subst hv5_
    subst hv3_
    subst hv1_
    exact s_L_does_73 d x a b c e u1 u2 p q S T h t y ss hy hu hz 1 (by first | exact Or.inl rfl | exact Or.inr rfl | assumption) E (fun pc_ lv_ v_ u_ h1_ h2_ h3_ h4_ => RET pc_ lv_ v_ u_ h1_ h2_ (h3_.trans (by rw [r_L_does, if_pos c_65])) (h4_.imp (fun _ h5_ => h5_.trans (by rw [c_L_does_1, if_pos c_65, c_L_does_y, if_pos c_65]))))
set_option maxHeartbeats 1000000 in
set_option maxRecDepth 100000 in
theorem t_L_does (d : gD) (x : Nat → Nat) (a : Nat → Nat) (b : Nat → Nat) (c : Nat → Nat) (e : Nat → Nat) (u1 : Int32) (u2 : Int32) (p : Nat → Nat → Nat) (q : Nat → Nat → Nat) (S : SS) (T : SS) (h : Nat → Int32) (t : Nat → Int32) (y : HS) (ss : Nat → Option SS) (hy : y.1 < 6 ∧ y.2.1 ≤ 6) (hu : ¬ S.2.2.1 0 < 0) (hz : ¬ S.2.1 0 = 0) : gMi d yL_does cL_does 20 (some .boolean) R_L_does [.ref (x 0), .int u1, .int u2] (XW d (x, a, b, c, e) p q S T h t y ss) (fun r_ u_ => r_ = r_L_does u1 u2 S y ∧ (∃ p_ : Nat → Nat → Nat, u_ = XW d (x, a, b, c, e) p_ q (c_L_does_1 u1 u2 S y) T h t (c_L_does_y u1 u2 S y) ss)) :=
  g_met_i RL rfl (by decide +kernel) (Nat.le_of_ble_eq_true rfl) [(0, .ref (x 0)), (1, .int u1), (2, .int u2)] rfl (fun X E RET => s_L_does_0 d x a b c e u1 u2 p q S T h t y ss hy hu hz E (fun pc_ lv_ v_ u_ h1_ h2_ h3_ h4_ => RET pc_ lv_ v_ u_ h1_ h2_ ⟨h3_, h4_⟩))
