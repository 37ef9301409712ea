theorem vp_in_nat {x : Int32} {n : Nat} (h : vp_in x n) : 0 ≤ x.toInt ∧ x.toNatClampNeg < n := by
  have := vp_in_iff.mp h
  exact ⟨this.1, by have e := i_cl this.1; omega⟩
theorem vp_in_ex {x : Int32} {n : Nat} (h : vp_in x n) : ∃ j : Nat, j < n ∧ x = nI j := by
  have h2 := vp_in_nat h
  obtain ⟨j, hj, e⟩ := nI_of (x := x) (by rw [i_lt]; show ¬ x.toInt < 0; omega)
  rw [e, nI_clamp hj] at h2
  exact ⟨j, h2.2, e⟩
/-! the program one after another -/
abbrev sQ : Type := Int32 × (Nat → Int32) × (Nat → Int32)
def qA (S : mI) (q : sQ) : Int32 := q.2.1 (S 108 q.1.toNatClampNeg).toNatClampNeg
def qB (S : mI) (q : sQ) : Int32 := q.2.1 (S 109 q.1.toNatClampNeg).toNatClampNeg
def qP (S : mI) (q : sQ) : Int32 := (qA S q + S 110 q.1.toNatClampNeg) &&& 63
def qV (S : mI) (q : sQ) : Int32 := if mKind S q.1 = 1 then S 110 q.1.toNatClampNeg else if mKind S q.1 = 2 then qA S q + qB S q else if mKind S q.1 = 3 then qA S q - qB S q else if mKind S q.1 = 4 then qA S q * qB S q else if mKind S q.1 = 5 then q.2.2 (qP S q).toNatClampNeg else if mKind S q.1 = 6 then qB S q else qA S q
def qW (S : mI) (q : sQ) : Int32 := if mKind S q.1 < 6 then 0 else if mKind S q.1 = 6 then 1 else 2
def qH (S : mI) (q : sQ) : Int32 := if mKind S q.1 < 6 then S 107 q.1.toNatClampNeg else if mKind S q.1 = 6 then qP S q else 0
abbrev qC (S : mI) (q : sQ) : Prop := ¬ mKind S q.1 = 7 ∧ ¬ mKind S q.1 = 9
abbrev qJ (S : mI) (q : sQ) : Prop := mKind S q.1 = 9 ∨ (mKind S q.1 = 7 ∧ qA S q = qB S q)
def qS (S : mI) (q : sQ) : sQ := (if qJ S q then S 110 q.1.toNatClampNeg else q.1 + 1, if mKind S q.1 < 6 then upd q.2.1 (S 107 q.1.toNatClampNeg).toNatClampNeg (qV S q) else q.2.1, if mKind S q.1 = 6 then upd q.2.2 (qP S q).toNatClampNeg (qV S q) else q.2.2)
def qO (S : mI) : sQ := (0, fun _ => 0, S 112)
def qN (S : mI) : Nat → sQ
  | 0 => qO S
  | t + 1 => qS S (qN S t)
def qM (S : mI) : Nat → Nat
  | 0 => 0
  | t + 1 => if qC S (qN S t) then qM S t + 1 else qM S t
theorem qM_le (S : mI) : ∀ t, qM S t ≤ t := by
  intro t
  induction t with
  | zero => exact Nat.le_refl _
  | succ t ih => unfold qM; split <;> omega
theorem qM_up (S : mI) {t u : Nat} (h : t ≤ u) : qM S t ≤ qM S u := by
  induction h with
  | refl => exact Nat.le_refl _
  | step _ ih => refine Nat.le_trans ih ?_; rw [qM.eq_2]; split <;> omega
theorem qM_lt {S : mI} {t g : Nat} (h : qM S t < qM S g) : t < g := by
  rcases Nat.lt_or_ge t g with h1 | h1
  · exact h1
  · exact absurd (qM_up S h1) (by omega)
theorem qM_step {S : mI} {t g : Nat} (h : t < g) (hc : qC S (qN S t)) : qM S t + 1 ≤ qM S g := by
  have : qM S (t + 1) = qM S t + 1 := by rw [qM, if_pos hc]
  rw [← this]
  exact qM_up S h
/-- what the log says of the first g instructions -/
def mFa (S : mI) (g : Nat) : Prop := (∀ t, t < g → ¬ mKind S (qN S t).1 = 0) ∧ (S 100 23 = nI g ∨ S 100 23 = nI (g + 1) ∧ mKind S (qN S g).1 = 0) ∧ g + 1 < 2147483648 ∧ S 100 32 = nI (qM S g) ∧ ∀ t, t < g → qC S (qN S t) → qM S t < 1000 → S 129 (qM S t) = qW S (qN S t) ∧ S 130 (qM S t) = qH S (qN S t) ∧ S 131 (qM S t) = qV S (qN S t)
/-- no hole for each -/
theorem pigeon : ∀ (N : Nat) (f : Nat → Nat), (∀ j, j ≤ N → f j < N) → ∃ i j, i < j ∧ j ≤ N ∧ f i = f j := by
  intro N
  induction N with
  | zero => intro f h; exact absurd (h 0 (Nat.le_refl _)) (by omega)
  | succ N ih =>
    intro f h
    by_cases hx : ∃ i, i ≤ N ∧ f i = f (N + 1)
    · obtain ⟨i, hi, e⟩ := hx
      exact ⟨i, N + 1, by omega, Nat.le_refl _, e⟩
    · have hn : ∀ i, i ≤ N → f i ≠ f (N + 1) := fun i hi e => hx ⟨i, hi, e⟩
      obtain ⟨i, j, h1, h2, e⟩ := ih (fun j => if f j = N then f (N + 1) else f j) (fun j hj => by
        have h1 := h j (by omega)
        have h2 := h (N + 1) (Nat.le_refl _)
        have h3 := hn j hj
        show (if f j = N then f (N + 1) else f j) < N
        split <;> omega)
      refine ⟨i, j, h1, by omega, ?_⟩
      have h3 := hn i (by omega)
      have h4 := hn j (by omega)
      have e' : (if f i = N then f (N + 1) else f i) = (if f j = N then f (N + 1) else f j) := e
      split at e' <;> split at e' <;> omega
theorem qS_no {S : mI} {q : sQ} (hc : ¬ qC S q) : (qS S q).2 = q.2 := by
  have : mKind S q.1 = 7 ∨ mKind S q.1 = 9 := by
    rcases Decidable.em (mKind S q.1 = 7) with h | h
    · exact Or.inl h
    · exact Or.inr (Decidable.byContradiction fun h9 => hc ⟨h, h9⟩)
  unfold qS
  rcases this with h | h <;> simp [h]
theorem qN_per {S : mI} {i p : Nat} (e : qN S (i + p) = qN S i) : ∀ t, qN S (i + p + t) = qN S (i + t) := by
  intro t
  induction t with
  | zero => exact e
  | succ t ih => show qS S (qN S (i + p + t)) = qS S (qN S (i + t)); rw [ih]
/-- forty-one without a commit: none comes -/
theorem q41 {S : mI} {sz : Nat} (hs : S 100 10 = nI sz) (h40 : sz ≤ 40) {t g : Nat} (hg : ∀ u, u < g → ¬ mKind S (qN S u).1 = 0) (hm : qM S t < qM S g) : qM S t + 1 ≤ qM S (t + 41) := by
  refine Decidable.byContradiction fun hno => ?_
  have flat : ∀ j, j ≤ 41 → qM S (t + j) = qM S t := fun j hj => by
    have h1 := qM_up S (show t ≤ t + j by omega)
    have h2 := qM_up S (show t + j ≤ t + 41 by omega)
    omega
  have noc : ∀ j, j < 41 → ¬ qC S (qN S (t + j)) := fun j hj hc => by
    have h1 := flat (j + 1) (by omega)
    have h2 := flat j (by omega)
    have : qM S (t + j + 1) = qM S (t + j) + 1 := by rw [qM, if_pos hc]
    have h3 : t + (j + 1) = t + j + 1 := by omega
    rw [h3] at h1
    omega
  have htg : t + 41 < g := qM_lt (by rw [flat 41 (Nat.le_refl _)]; exact hm)
  have same : ∀ j, j ≤ 41 → (qN S (t + j)).2 = (qN S t).2 := by
    intro j
    induction j with
    | zero => intro _; rfl
    | succ j ih =>
      intro hj
      have : (qN S (t + j + 1)).2 = (qN S (t + j)).2 := qS_no (noc j (by omega))
      rw [show t + (j + 1) = t + j + 1 by omega, this, ih (by omega)]
  obtain ⟨i, j, hij, hj, e⟩ := pigeon 40 (fun j => (qN S (t + j)).1.toNatClampNeg) (fun j hj => (vp_in_nat (mKind_ne hs h40 (hg _ (by omega)))).2)
  have vi := mKind_ne hs h40 (hg (t + i) (by omega))
  have vj := mKind_ne hs h40 (hg (t + j) (by omega))
  have e1 : (qN S (t + i)).1 = (qN S (t + j)).1 := by
    obtain ⟨a, ha, ea⟩ := vp_in_ex vi
    obtain ⟨b, hb, eb⟩ := vp_in_ex vj
    have e : (qN S (t + i)).1.toNatClampNeg = (qN S (t + j)).1.toNatClampNeg := e
    rw [ea, eb, nI_clamp (by omega), nI_clamp (by omega)] at e
    rw [ea, eb, e]
  have e2 : qN S (t + j) = qN S (t + i) := Prod.ext e1.symm (by rw [same j (by omega), same i (by omega)])
  have per := qN_per (i := t + i) (p := j - i) (by rw [show t + i + (j - i) = t + j by omega]; exact e2)
  have never : ∀ u, ¬ qC S (qN S (t + u)) := by
    intro u
    induction u using Nat.strongRecOn with
    | ind u ih =>
      rcases Nat.lt_or_ge u 41 with h | h
      · exact noc u h
      · have h1 := per (u - j)
        rw [show t + i + (j - i) + (u - j) = t + u by omega, show t + i + (u - j) = t + (i + (u - j)) by omega] at h1
        have := ih (i + (u - j)) (by omega)
        rw [← h1] at this
        exact this
  have flat2 : ∀ u, qM S (t + u) = qM S t := by
    intro u
    induction u with
    | zero => rfl
    | succ u ih => show qM S (t + u + 1) = _; rw [qM, if_neg (never u), ih]
  have := flat2 (g - t)
  rw [show t + (g - t) = g by omega] at this
  omega
theorem q41k {S : mI} {sz : Nat} (hs : S 100 10 = nI sz) (h40 : sz ≤ 40) {g : Nat} (hg : ∀ u, u < g → ¬ mKind S (qN S u).1 = 0) : ∀ k, k ≤ qM S (41 * k) ∨ qM S g ≤ qM S (41 * k) := by
  intro k
  induction k with
  | zero => exact Or.inl (Nat.zero_le _)
  | succ k ih =>
    have up := qM_up S (show 41 * k ≤ 41 * (k + 1) by omega)
    rcases Nat.lt_or_ge (qM S (41 * k)) (qM S g) with h | h
    · have := q41 hs h40 hg h
      rw [show 41 * k + 41 = 41 * (k + 1) by omega] at this
      omega
    · right; omega
