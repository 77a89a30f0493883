/-! isEdge: what is nearer than the edge tells nothing, it itself does -/
/-- a search from k on that ends at 255 -/
theorem first_is {F : Nat → Nat → Int32} {q : Nat → Prop} (h0 : ∀ n k, 255 < k → k ≤ 256 → F (n + 1) k = -6) (h1 : ∀ n k, k ≤ 255 → q k → F (n + 1) k = nI k) (h2 : ∀ n k, k ≤ 255 → ¬ q k → F (n + 1) k = F n (k + 1)) :
    ∀ n k, k ≤ 256 → 256 - k < n → (∃ m, k ≤ m ∧ m ≤ 255 ∧ F n k = nI m ∧ q m ∧ ∀ j, k ≤ j → j < m → ¬ q j) ∨ (F n k = -6 ∧ ∀ j, k ≤ j → j ≤ 255 → ¬ q j) := by
  intro n
  induction n with
  | zero => intro k hk hm; omega
  | succ n ih =>
    intro k hk hm
    by_cases c : k = 256
    · subst c
      exact Or.inr ⟨h0 n 256 (by omega) (by omega), fun j a b => by omega⟩
    · by_cases d : q k
      · exact Or.inl ⟨k, Nat.le_refl k, by omega, h1 n k (by omega) d, d, fun j a b => by omega⟩
      · rw [h2 n k (by omega) d]
        rcases ih (k + 1) (by omega) (by omega) with ⟨m, a1, a2, a3, a4, a5⟩ | ⟨a1, a2⟩
        · refine Or.inl ⟨m, by omega, a2, a3, a4, fun j b1 b2 => ?_⟩
          by_cases e : j = k
          · rw [e]
            exact d
          · exact a5 j (by omega) b2
        · refine Or.inr ⟨a1, fun j b1 b2 => ?_⟩
          by_cases e : j = k
          · rw [e]
            exact d
          · exact a2 j (by omega) b2
/-- the law's own run beside it -/
theorem run_is {H : Nat → Nat → Int32} {E : Int32} {q : Nat → Prop} (hE : (∃ m, 1 ≤ m ∧ m ≤ 255 ∧ E = nI m ∧ q m ∧ ∀ j, 1 ≤ j → j < m → ¬ q j) ∨ (E = -6 ∧ ∀ j, 1 ≤ j → j ≤ 255 → ¬ q j))
    (h0 : ∀ n k, 255 < k → k ≤ 256 → H (n + 1) k = if E = -6 then 1 else (if 0 < E then (if E < 256 then 1 else 0) else 0)) (h1 : ∀ n k, k ≤ 255 → (q k → nI k = E ∨ (¬ E < 0 ∧ E < nI k)) → (¬ q k → ¬ nI k = E) → H (n + 1) k = H n (k + 1)) :
    ∀ n k, 1 ≤ k → k ≤ 256 → 256 - k < n → H n k = 1 := by
  intro n
  induction n with
  | zero => intro k h hk hm; omega
  | succ n ih =>
    intro k h hk hm
    by_cases c : k = 256
    · subst c
      rw [h0 n 256 (by omega) (by omega)]
      rcases hE with ⟨m, a1, a2, a3, -⟩ | ⟨a1, -⟩
      · have z256 : (256 : Int32).toInt = 256 := rfl
        have em : E.toInt = m := by rw [a3, nI_toInt (by omega)]
        have n6 : (-6 : Int32).toInt = -6 := rfl
        rw [if_neg (fun e => by rw [e, n6] at em; omega), if_pos (lt_iff.mpr (by rw [z0]; omega)), if_pos (lt_iff.mpr (by rw [z256]; omega))]
      · rw [if_pos a1]
    · rw [h1 n k (by omega) (fun d => ?_) (fun d => ?_)]
      · exact ih (k + 1) (by omega) (by omega) (by omega)
      · rcases hE with ⟨m, a1, a2, a3, a4, a5⟩ | ⟨a1, a2⟩
        · by_cases e : k = m
          · exact Or.inl (by rw [e, a3])
          · refine Or.inr ⟨by rw [a3]; exact nI_pos (by omega), ?_⟩
            rw [a3]
            refine nI_lt ?_ (by omega)
            rcases Nat.lt_or_ge k m with l | l
            · exact absurd d (a5 k h l)
            · omega
        · exact absurd d (a2 k h (by omega))
      · rcases hE with ⟨m, a1, a2, a3, a4, a5⟩ | ⟨a1, a2⟩
        · intro e
          rw [a3] at e
          have e' := (nI_eq (by omega) (by omega)).mp e
          rw [e'] at d
          exact d a4
        · intro e
          have em := congrArg Int32.toInt e
          rw [a1, nI_toInt (by omega), show (-6 : Int32).toInt = -6 from rfl] at em
          omega
/-- a position that would tell something -/
def qE (S : SS) (cx cy : Int32) : Prop := ¬ r_X4_isSample cx cy = 0 ∧ ¬ r_X3_tellingAt cx cy S = r_X4_packed 0 0
theorem qE_wt {S : SS} {B : Int} (I : IV S B) (cx cy : Int32) : (qE S cx cy → ¬ r_X4_wouldTell cx cy S < 0 ∧ ¬ r_X4_wouldTell cx cy S = 100100) ∧ (¬ qE S cx cy → r_X4_wouldTell cx cy S < 0 ∨ r_X4_wouldTell cx cy S = 100100) := by
  obtain ⟨hs, hv, -⟩ := I
  have p0 : r_X4_packed 0 0 = 100100 := by decide
  unfold qE
  rw [p0]
  by_cases hp : rgP cx cy
  · have h1 := isS_1 hp
    have hw := would_is (S := S) hp
    obtain ⟨b1, b2, -⟩ := told_b (x := cx) (y := cy) hp hv hs
    have ht := pack_toInt b1 b2
    rw [← telling_is] at ht
    rw [hw, h1]
    refine ⟨fun q => ⟨nlt_iff.mpr (by rw [z0]; omega), q.2⟩, fun q => ?_⟩
    by_cases e : r_X3_tellingAt cx cy S = 100100
    · exact Or.inr e
    · exact absurd ⟨by decide, e⟩ q
  · have h0 := isS_0 hp
    have hw : r_X4_wouldTell cx cy S = -2 := by
      unfold r_X4_wouldTell
      rw [if_pos h0]
    rw [h0, hw]
    exact ⟨fun q => absurd rfl q.1, fun _ => Or.inl (by decide)⟩
theorem chain_is {S : SS} {B : Int} (I : IV S B) {cx cy E kk X wt : Int32} (hw : wt = r_X4_wouldTell cx cy S) (h1 : qE S cx cy → kk = E ∨ (¬ E < 0 ∧ E < kk)) (h2 : ¬ qE S cx cy → ¬ kk = E) :
    (if wt < 0 then (if kk = E then (if E < 0 then 0 else (if E < kk then X else 0)) else X) else (if wt = 100100 then (if kk = E then (if E < 0 then 0 else (if E < kk then X else 0)) else X) else (if kk = E then X else (if E < 0 then 0 else (if E < kk then X else 0))))) = X := by
  obtain ⟨q1, q2⟩ := qE_wt I cx cy
  rw [← hw] at q1 q2
  by_cases d : qE S cx cy
  · obtain ⟨a1, a2⟩ := q1 d
    rw [if_neg a1, if_neg a2]
    rcases h1 d with e | ⟨e1, e2⟩
    · rw [if_pos e]
    · by_cases e : kk = E
      · rw [if_pos e]
      · rw [if_neg e, if_neg e1, if_pos e2]
  · have e := h2 d
    rw [if_neg e]
    rcases q2 d with a | a
    · rw [if_pos a]
    · by_cases c : wt < 0
      · rw [if_pos c]
      · rw [if_neg c, if_pos a]
theorem neg1 (a : Int32) : (-1) * a = -a := by grind
theorem k255 {k : Nat} (h : k ≤ 256) : (255 : Int32) < nI k ↔ 255 < k := nI_ltI (a := 255) (b := k) (by omega) (by omega)
/-- where the class looks, at the step k -/
def eX (axis up : Int32) (S : SS) (k : Nat) : Int32 := if axis = 0 then (if up = 1 then S.1 7 / 16 + nI k else S.1 7 / 16 + (-nI k)) else S.1 7 / 16
def eY (axis up : Int32) (S : SS) (k : Nat) : Int32 := if axis = 0 then S.1 8 / 16 else (if up = 1 then S.1 8 / 16 + nI k else S.1 8 / 16 + (-nI k))
theorem cls_step {axis up : Int32} (ha : axis = 0 ∨ axis = 1) (hu : up = 0 ∨ up = 1) (S : SS) (n k : Nat) (hk : k ≤ 255) : (qE S (eX axis up S k) (eY axis up S k) → r_X4_edge_at37 axis up S (n + 1) k (if up = 1 then 1 else (-1)) = nI k) ∧ (¬ qE S (eX axis up S k) (eY axis up S k) → r_X4_edge_at37 axis up S (n + 1) k (if up = 1 then 1 else (-1)) = r_X4_edge_at37 axis up S n (k + 1) (if up = 1 then 1 else (-1))) := by
  have g : ∀ (cx cy X : Int32), (qE S cx cy → (if r_X4_isSample cx cy = 0 then X else (if r_X3_tellingAt cx cy S = r_X4_packed 0 0 then X else nI k)) = nI k) ∧ (¬ qE S cx cy → (if r_X4_isSample cx cy = 0 then X else (if r_X3_tellingAt cx cy S = r_X4_packed 0 0 then X else nI k)) = X) := fun cx cy X => by
    constructor
    · intro q
      rw [if_neg q.1, if_neg q.2]
    · intro q
      by_cases c : r_X4_isSample cx cy = 0
      · rw [if_pos c]
      · rw [if_neg c]
        by_cases c2 : r_X3_tellingAt cx cy S = r_X4_packed 0 0
        · rw [if_pos c2]
        · exact absurd ⟨c, c2⟩ q
  have n255 : ¬ (255 : Int32) < nI k := fun q => by
    have := (k255 (by omega)).mp q
    omega
  have d01 : ¬ (0 : Int32) = 1 := by decide
  have d10 : ¬ (1 : Int32) = 0 := by decide
  unfold eX eY
  rcases ha with e | e <;> rcases hu with e2 | e2 <;> subst e <;> subst e2 <;> rw [r_X4_edge_at37, if_neg n255]
  all_goals simp only [d01, d10, ↓reduceIte, neg1, Int32.one_mul, Int32.add_zero, r_X3_restPlaceX, r_X3_restPlaceY]
  all_goals exact g _ _ _
theorem edge_is {axis up : Int32} (ha : axis = 0 ∨ axis = 1) (hu : up = 0 ∨ up = 1) (S : SS) : (∃ m, 1 ≤ m ∧ m ≤ 255 ∧ r_X4_edge axis up S = nI m ∧ qE S (eX axis up S m) (eY axis up S m) ∧ ∀ j, 1 ≤ j → j < m → ¬ qE S (eX axis up S j) (eY axis up S j)) ∨ (r_X4_edge axis up S = -6 ∧ ∀ j, 1 ≤ j → j ≤ 255 → ¬ qE S (eX axis up S j) (eY axis up S j)) := by
  have hE : r_X4_edge axis up S = r_X4_edge_at37 axis up S 257 1 (if up = 1 then 1 else (-1)) := by
    unfold r_X4_edge
    have d01 : ¬ (0 : Int32) = 1 := by decide
    have d10 : ¬ (1 : Int32) = 0 := by decide
    rcases ha with e | e <;> rcases hu with e2 | e2 <;> subst e <;> subst e2
    · rw [if_pos rfl, if_pos rfl, if_neg d01, if_neg d01]
    · rw [if_pos rfl, if_neg d10, if_pos rfl, if_pos rfl, if_pos rfl]
    · rw [if_neg d10, if_pos rfl, if_pos rfl, if_neg d01, if_neg d01]
    · rw [if_neg d10, if_pos rfl, if_neg d10, if_pos rfl, if_pos rfl, if_pos rfl]
  rw [hE]
  exact first_is (F := fun n k => r_X4_edge_at37 axis up S n k (if up = 1 then 1 else (-1))) (q := fun k => qE S (eX axis up S k) (eY axis up S k)) (fun n k h h6 => by
    show r_X4_edge_at37 axis up S (n + 1) k _ = _
    rw [r_X4_edge_at37, if_pos ((k255 h6).mpr h)]) (fun n k h d => (cls_step ha hu S n k h).1 d) (fun n k h d => (cls_step ha hu S n k h).2 d) 257 1 (by omega) (by omega)
theorem edge_1 {S : SS} {B : Int} (I : IV S B) {axis up : Int32} (ha : axis = 0 ∨ axis = 1) (hu : up = 0 ∨ up = 1) : r_L_isEdge axis up S = 1 := by
  have d01 : ¬ (0 : Int32) = 1 := by decide
  have d10 : ¬ (1 : Int32) = 0 := by decide
  unfold r_L_isEdge
  refine run_is (H := fun n k => r_L_isEdge_at32 axis up S n k) (q := fun k => qE S (eX axis up S k) (eY axis up S k)) (edge_is ha hu S) (fun n k h h6 => ?_) (fun n k h h1 h2 => ?_) 257 1 (by omega) (by omega) (by omega)
  · show r_L_isEdge_at32 axis up S (n + 1) k = _
    rw [r_L_isEdge_at32, if_pos ((k255 h6).mpr h)]
  · show r_L_isEdge_at32 axis up S (n + 1) k = r_L_isEdge_at32 axis up S n (k + 1)
    have n255 : ¬ (255 : Int32) < nI k := fun q => by
      have := (k255 (by omega)).mp q
      omega
    rw [r_L_isEdge_at32, if_neg n255]
    obtain ⟨X, eX'⟩ : ∃ X, r_L_isEdge_at32 axis up S n (k + 1) = X := ⟨_, rfl⟩
    obtain ⟨E, eE⟩ : ∃ E, r_X4_edge axis up S = E := ⟨_, rfl⟩
    rw [eX', eE]
    rw [eE] at h1 h2
    unfold eX eY at h1 h2
    rcases ha with e | e <;> rcases hu with e2 | e2 <;> subst e <;> subst e2
    · rw [if_neg d01, if_pos rfl]
      rw [if_pos rfl, if_pos rfl, if_neg d01] at h1 h2
      exact chain_is I rfl h1 h2
    · rw [if_pos rfl, if_pos rfl]
      rw [if_pos rfl, if_pos rfl, if_pos rfl] at h1 h2
      exact chain_is I rfl h1 h2
    · rw [if_neg d01, if_neg d10, if_pos rfl]
      rw [if_neg d10, if_neg d10, if_neg d01] at h1 h2
      exact chain_is I rfl h1 h2
    · rw [if_pos rfl, if_neg d10, if_pos rfl]
      rw [if_neg d10, if_neg d10, if_pos rfl] at h1 h2
      exact chain_is I rfl h1 h2
