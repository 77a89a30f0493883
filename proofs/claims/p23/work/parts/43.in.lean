/-! learnedIn and driftsIn: what they find, and the samples themselves -/
/-- a search from k on that ends at N -/
theorem find_is {F : Nat → Nat → Int32} {q : Nat → Prop} {g : Nat → Int32} {N : Nat} (h0 : ∀ n, F (n + 1) (N + 1) = -6) (h1 : ∀ n k, k ≤ N → q k → F (n + 1) k = g k) (h2 : ∀ n k, k ≤ N → ¬ q k → F (n + 1) k = F n (k + 1)) :
    ∀ n k, k ≤ N + 1 → N + 1 - k < n → (∃ m, k ≤ m ∧ m ≤ N ∧ F n k = g m ∧ q m ∧ ∀ j, k ≤ j → j < m → ¬ q j) ∨ (F n k = -6 ∧ ∀ j, k ≤ j → j ≤ N → ¬ q j) := by
  intro n
  induction n with
  | zero => intro k hk hm; omega
  | succ n ih =>
    intro k hk hm
    by_cases c : k = N + 1
    · subst c
      exact Or.inr ⟨h0 n, fun j a b => by omega⟩
    · by_cases d : q k
      · exact Or.inl ⟨k, Nat.le_refl k, by omega, h1 n k (by omega) d, d, fun j a b => by omega⟩
      · rw [h2 n k (by omega) d]
        rcases ih (k + 1) (by omega) (by omega) with ⟨m, a1, a2, a3, a4, a5⟩ | ⟨a1, a2⟩
        · refine Or.inl ⟨m, by omega, a2, a3, a4, fun j b1 b2 => ?_⟩
          by_cases e : j = k
          · rw [e]
            exact d
          · exact a5 j (by omega) b2
        · refine Or.inr ⟨a1, fun j b1 b2 => ?_⟩
          by_cases e : j = k
          · rw [e]
            exact d
          · exact a2 j (by omega) b2
/-- the stick's rest is there -/
def TH (x y : Int32) (S : SS) : Prop := x = S.1 7 / 16 ∧ y = S.1 8 / 16
theorem th_off (x y : Int32) (S : SS) : TH x y S ↔ ¬ r_X3_isOffByNothing x y S = 0 := by
  unfold TH r_X3_isOffByNothing r_X3_restPlaceX r_X3_restPlaceY
  by_cases c : x = S.1 7 / 16
  · rw [if_pos c]
    by_cases c2 : y = S.1 8 / 16
    · rw [if_pos c2]
      exact ⟨fun _ => by decide, fun _ => ⟨c, c2⟩⟩
    · rw [if_neg c2]
      exact ⟨fun q => absurd q.2 c2, fun q => absurd rfl q⟩
  · rw [if_neg c]
    exact ⟨fun q => absurd q.1 c, fun q => absurd rfl q⟩
/-- what learnedIn says -/
def LRN (x y : Int32) (S : SS) (L : Int32) : Prop := (∃ m, m ≤ 500 ∧ L = nI m ∧ TH x y (itC x y m S) ∧ ∀ j, j < m → ¬ TH x y (itC x y j S)) ∨ (L = -6 ∧ ∀ j, j ≤ 500 → ¬ TH x y (itC x y j S))
theorem learned_is {x y : Int32} (hp : rgP x y) (S T : SS) : LRN x y S (r_X4_learnedIn x y S T) := by
  have hF : r_X4_learnedIn x y S T = r_X4_learnedIn_at24 x y S T 502 0 (itC x y 0 S) := by
    unfold r_X4_learnedIn
    rw [isS_1 hp, if_neg (by decide)]
    rfl
  have k500 : ∀ k, k ≤ 501 → ((500 : Int32) < nI k ↔ 500 < k) := fun k h => nI_ltI (a := 500) (b := k) (by omega) (by omega)
  have h := find_is (F := fun n k => r_X4_learnedIn_at24 x y S T n k (itC x y k S)) (q := fun k => TH x y (itC x y k S)) (g := nI) (N := 500)
    (fun n => by
      show r_X4_learnedIn_at24 x y S T (n + 1) 501 (itC x y 501 S) = _
      rw [r_X4_learnedIn_at24, if_pos ((k500 501 (by omega)).mpr (by omega))])
    (fun n k hk hq => by
      show r_X4_learnedIn_at24 x y S T (n + 1) k (itC x y k S) = _
      rw [r_X4_learnedIn_at24, if_neg (fun q => by have := (k500 k (by omega)).mp q; omega), if_neg ((th_off x y _).mp hq)])
    (fun n k hk hq => by
      show r_X4_learnedIn_at24 x y S T (n + 1) k (itC x y k S) = r_X4_learnedIn_at24 x y S T n (k + 1) (itC x y (k + 1) S)
      have e : r_X3_isOffByNothing x y (itC x y k S) = 0 := by
        by_cases e : r_X3_isOffByNothing x y (itC x y k S) = 0
        · exact e
        · exact absurd ((th_off x y _).mpr e) hq
      rw [r_X4_learnedIn_at24, if_neg (fun q => by have := (k500 k (by omega)).mp q; omega), if_pos e]
      rfl) 502 0 (by omega) (by omega)
  rw [hF]
  rcases h with ⟨m, a1, a2, a3, a4, a5⟩ | ⟨a1, a2⟩
  · exact Or.inl ⟨m, a2, a3, a4, fun j hj => a5 j (by omega) hj⟩
  · exact Or.inr ⟨a1, fun j hj => a2 j (by omega) hj⟩
/-- what driftsIn says -/
def DRF (x y : Int32) (S : SS) (L : Int32) : Prop := (∃ m, m ≤ 199 ∧ L = nI (m + 1) ∧ ¬ r_X3_wouldDrift x y (itC x y m S) = 0 ∧ ∀ j, j < m → r_X3_wouldDrift x y (itC x y j S) = 0) ∨ (L = -6 ∧ ∀ j, j ≤ 199 → r_X3_wouldDrift x y (itC x y j S) = 0)
theorem drifts_is {x y : Int32} (hp : rgP x y) (S T : SS) : DRF x y S (r_X4_driftsIn x y S T) := by
  have hF : r_X4_driftsIn x y S T = r_X4_driftsIn_at24 x y S T 202 (0 + 1) (itC x y 0 S) := by
    unfold r_X4_driftsIn
    rw [isS_1 hp, if_neg (by decide)]
    rfl
  have k200 : ∀ k, k ≤ 201 → ((200 : Int32) < nI k ↔ 200 < k) := fun k h => nI_ltI (a := 200) (b := k) (by omega) (by omega)
  have h := find_is (F := fun n k => r_X4_driftsIn_at24 x y S T n (k + 1) (itC x y k S)) (q := fun k => ¬ r_X3_wouldDrift x y (itC x y k S) = 0) (g := fun k => nI (k + 1)) (N := 199)
    (fun n => by
      show r_X4_driftsIn_at24 x y S T (n + 1) 201 (itC x y 200 S) = _
      rw [r_X4_driftsIn_at24, if_pos ((k200 201 (by omega)).mpr (by omega))])
    (fun n k hk hq => by
      show r_X4_driftsIn_at24 x y S T (n + 1) (k + 1) (itC x y k S) = _
      rw [r_X4_driftsIn_at24, if_neg (fun q => by have := (k200 (k + 1) (by omega)).mp q; omega), if_neg hq])
    (fun n k hk hq => by
      show r_X4_driftsIn_at24 x y S T (n + 1) (k + 1) (itC x y k S) = r_X4_driftsIn_at24 x y S T n (k + 1 + 1) (itC x y (k + 1) S)
      have e : r_X3_wouldDrift x y (itC x y k S) = 0 := by
        by_cases e : r_X3_wouldDrift x y (itC x y k S) = 0
        · exact e
        · exact absurd e hq
      rw [r_X4_driftsIn_at24, if_neg (fun q => by have := (k200 (k + 1) (by omega)).mp q; omega), if_pos e]
      rfl) 202 0 (by omega) (by omega)
  rw [hF]
  rcases h with ⟨m, a1, a2, a3, a4, a5⟩ | ⟨a1, a2⟩
  · refine Or.inl ⟨m, a2, a3, a4, fun j hj => ?_⟩
    by_cases e : r_X3_wouldDrift x y (itC x y j S) = 0
    · exact e
    · exact absurd e (a5 j (by omega) hj)
  · refine Or.inr ⟨a1, fun j hj => ?_⟩
    by_cases e : r_X3_wouldDrift x y (itC x y j S) = 0
    · exact e
    · exact absurd e (a2 j (by omega) hj)
/-- the count of drifts -/
theorem take_17 {x y : Int32} {S : SS} {B : Int} (I : IV S B) (hp : rgP x y) : (c_X3_take x y S).1 17 = if r_X3_wouldDrift x y S = 0 then S.1 17 else S.1 17 + 1 := by
  by_cases hd : r_X3_wouldDrift x y S = 0
  · rw [if_pos hd]
    by_cases hf : S.1 9 < r_X3_farthestOff x y S
    · exact (tk_out I hp hf hd).2.1.2.1
    · exact (tk_rest I hp hf).2.1.2.1
  · rw [if_neg hd]
    exact (tk_drift I hp hd).2.1.2.1
theorem it_17 {x y : Int32} {S : SS} {B : Int} (I : IV S B) (hp : rgP x y) (hB : B ≤ 9000) : ∀ k : Nat, k ≤ 500 → (S.1 17).toInt ≤ ((itC x y k S).1 17).toInt ∧ ((∀ j, j < k → r_X3_wouldDrift x y (itC x y j S) = 0) → (itC x y k S).1 17 = S.1 17) ∧ ((∃ j, j < k ∧ ¬ r_X3_wouldDrift x y (itC x y j S) = 0) → (S.1 17).toInt < ((itC x y k S).1 17).toInt)
  | 0, _ => ⟨Int.le_refl _, fun _ => rfl, fun ⟨j, hj, _⟩ => absurd hj (by omega)⟩
  | k + 1, hk => by
    obtain ⟨h1, h2, h3⟩ := it_17 I hp hB k (by omega)
    have Ik := (it_IV I hp (by omega) k (by omega)).1
    have e := take_17 Ik hp
    have b17 := Ik.2.2.2.2.2.2.2.1
    have b21 := Ik.2.2.2.2.1
    show (S.1 17).toInt ≤ ((c_X3_take x y (itC x y k S)).1 17).toInt ∧ (_ → (c_X3_take x y (itC x y k S)).1 17 = _) ∧ (_ → _ < ((c_X3_take x y (itC x y k S)).1 17).toInt)
    rw [e]
    by_cases d : r_X3_wouldDrift x y (itC x y k S) = 0
    · rw [if_pos d]
      refine ⟨h1, fun q => h2 (fun j hj => q j (by omega)), fun ⟨j, hj, q⟩ => h3 ⟨j, ?_, q⟩⟩
      by_cases e2 : j = k
      · rw [e2] at q
        exact absurd d q
      · omega
    · have e1 : ((itC x y k S).1 17 + 1).toInt = ((itC x y k S).1 17).toInt + 1 := i_1 (by omega)
      rw [if_neg d, e1]
      exact ⟨by omega, fun q => absurd (q k (by omega)) d, fun _ => by omega⟩
/-- the count has grown just where driftsIn says so -/
theorem drift_iff {x y : Int32} {S : SS} {B : Int} (I : IV S B) (hp : rgP x y) (hB : B ≤ 9000) {L : Int32} (hL : DRF x y S L) (k : Nat) (hk : k ≤ 60) : S.1 17 < (itC x y (k + 1) S).1 17 ↔ (0 < L ∧ ¬ nI (k + 1) < L) := by
  obtain ⟨h1, h2, h3⟩ := it_17 I hp hB (k + 1) (by omega)
  rw [lt_iff]
  rcases hL with ⟨m, a1, a2, a3, a4⟩ | ⟨a1, a2⟩
  · have e : nI (k + 1) < L ↔ k + 1 < m + 1 := by
      rw [a2]
      exact nI_ltI (by omega) (by omega)
    have p : 0 < L := by
      rw [a2]
      exact nI_lt (a := 0) (by omega) (by omega)
    by_cases c : m ≤ k
    · exact ⟨fun _ => ⟨p, fun q => by have := e.mp q; omega⟩, fun _ => h3 ⟨m, by omega, a3⟩⟩
    · have e2 := h2 (fun j hj => a4 j (by omega))
      rw [e2]
      exact ⟨fun q => absurd q (by omega), fun q => absurd (e.mpr (by omega)) q.2⟩
  · have e2 := h2 (fun j hj => a2 j (by omega))
    rw [e2, a1]
    exact ⟨fun q => absurd q (by omega), fun q => absurd q.1 (by decide)⟩
/-- where the rest came first -/
def FD (x y : Int32) (S : SS) (L f : Int32) (k : Nat) : Prop := (f = -1 ∧ ∀ j, j < k → ¬ TH x y (itC x y j S)) ∨ (∃ m, m < k ∧ f = nI m ∧ L = nI m ∧ TH x y (itC x y m S))
theorem FD_0 {x y : Int32} {S : SS} {L : Int32} : FD x y S L (-1) 0 := Or.inl ⟨rfl, fun j hj => absurd hj (by omega)⟩
theorem not_th {x y : Int32} {S : SS} {L : Int32} (hL : LRN x y S L) {k : Nat} (hk : k ≤ 60) (h : ¬ TH x y (itC x y k S)) : ¬ L = nI k := by
  intro e
  rcases hL with ⟨m, a1, a2, a3, a4⟩ | ⟨a1, a2⟩
  · have e2 := (nI_eq (by omega) (by omega)).mp (a2.symm.trans e)
    rw [e2] at a3
    exact h a3
  · have em := congrArg Int32.toInt (a1.symm.trans e)
    rw [nI_toInt (by omega), show (-6 : Int32).toInt = -6 from rfl] at em
    omega
theorem th_L {x y : Int32} {S : SS} {L : Int32} (hL : LRN x y S L) {k : Nat} (hk : k ≤ 60) (h : TH x y (itC x y k S)) : ∃ m, m ≤ k ∧ L = nI m ∧ TH x y (itC x y m S) ∧ ∀ j, j < m → ¬ TH x y (itC x y j S) := by
  rcases hL with ⟨m, a1, a2, a3, a4⟩ | ⟨a1, a2⟩
  · refine ⟨m, ?_, a2, a3, a4⟩
    rcases Nat.lt_or_ge k m with l | l
    · exact absurd h (a4 k l)
    · exact l
  · exact absurd h (a2 k (by omega))
theorem FD_no {x y : Int32} {S : SS} {L f : Int32} {k : Nat} (hf : FD x y S L f k) (h : ¬ TH x y (itC x y k S)) : FD x y S L f (k + 1) := by
  rcases hf with ⟨a, b⟩ | ⟨m, a, b⟩
  · refine Or.inl ⟨a, fun j hj => ?_⟩
    by_cases e : j = k
    · rw [e]
      exact h
    · exact b j (by omega)
  · exact Or.inr ⟨m, by omega, b⟩
theorem FD_here {x y : Int32} {S : SS} {L : Int32} {k : Nat} (e : L = nI k) (h : TH x y (itC x y k S)) : FD x y S L (nI k) (k + 1) := Or.inr ⟨k, by omega, rfl, e, h⟩
theorem FD_old {x y : Int32} {S : SS} {L f : Int32} {k : Nat} (hf : FD x y S L f k) (h : ¬ f < 0) : FD x y S L f (k + 1) := by
  rcases hf with ⟨a, b⟩ | ⟨m, a, b⟩
  · rw [a] at h
    exact absurd (by decide) h
  · exact Or.inr ⟨m, by omega, b⟩
/-- there, and L is not k: then it was found before -/
theorem FD_before {x y : Int32} {S : SS} {L f : Int32} {k : Nat} (hf : FD x y S L f k) (hL : LRN x y S L) (hk : k ≤ 60) (h : TH x y (itC x y k S)) (e : ¬ L = nI k) : ¬ f < 0 ∧ L = f := by
  obtain ⟨m, a1, a2, a3, a4⟩ := th_L hL hk h
  have hm : m < k := by
    rcases Nat.lt_or_ge m k with l | l
    · exact l
    · have : m = k := by omega
      rw [this] at a2
      exact absurd a2 e
  rcases hf with ⟨b1, b2⟩ | ⟨m2, b1, b2, b3, b4⟩
  · exact absurd a3 (b2 m hm)
  · rw [b2]
    exact ⟨nI_pos (by omega), b3⟩
/-- there, and L is k: then it is found now -/
theorem FD_now {x y : Int32} {S : SS} {L f : Int32} {k : Nat} (hf : FD x y S L f k) (hk : k ≤ 60) (e : L = nI k) : f < 0 := by
  rcases hf with ⟨b1, b2⟩ | ⟨m2, b1, b2, b3, b4⟩
  · rw [b1]
    decide
  · have := (nI_eq (by omega) (by omega)).mp (e.symm.trans b3)
    omega
theorem th_nn {x y : Int32} {S : SS} {L : Int32} (hL : LRN x y S L) {k : Nat} (hk : k ≤ 60) (h : TH x y (itC x y k S)) : ¬ L < 0 := by
  obtain ⟨m, a1, a2, -⟩ := th_L hL hk h
  rw [a2]
  exact nI_pos (by omega)
theorem tell_nn {S : SS} {B : Int} (I : IV S B) : ¬ r_X3_telling S < 0 := by
  obtain ⟨-, -, hT, -⟩ := I
  have e := pack_toInt hT.1 hT.2
  refine nlt_iff.mpr ?_
  rw [z0]
  show 0 ≤ (r_X4_packed (S.1 14) (S.1 15)).toInt
  omega
