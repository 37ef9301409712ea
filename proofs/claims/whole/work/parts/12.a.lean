/-! what a phase leaves, cell by cell -/
theorem mu_at {α : Type} (S : Nat → Nat → α) (r k : Nat) (v : α) (x y : Nat) : mu S r k v x y = if x = r ∧ y = k then v else S x y := rfl
theorem mF1_at (S : mI) (st s0 : Nat) (n kd : Int32) (r k : Nat) : mF1 S st s0 n kd r k = if nI s0 = S 104 1 ∧ r = 116 ∧ k = s0 then (if mR1 kd then mRead S st s0 (S 108 n.toNatClampNeg) else 0) else if nI s0 = S 104 1 ∧ r = 117 ∧ k = s0 then (if mR2 kd then mRead S st s0 (S 109 n.toNatClampNeg) else 0) else S r k := by
  unfold mF1
  by_cases h : nI s0 = S 104 1
  · rw [if_pos h]
    simp only [mu_at, h, true_and, and_self]
    by_cases h1 : r = 116 ∧ k = s0
    · obtain ⟨rfl, rfl⟩ := h1; simp
    · by_cases h2 : r = 117 ∧ k = s0
      · simp [h2]
      · simp [h1, h2]
  · simp [h]
theorem mF2_at (S : mI) (s0 : Nat) (n kd : Int32) (r k : Nat) : mF2 S s0 n kd r k = if nI s0 = S 104 2 ∧ r = 118 ∧ k = s0 then (if kd = 1 then S 110 n.toNatClampNeg else if 2 ≤ kd ∧ kd ≤ 4 then (if kd = 2 then S 116 s0 + S 117 s0 else if kd = 3 then S 116 s0 - S 117 s0 else S 116 s0 * S 117 s0) else S 118 s0) else S r k := by
  unfold mF2 mWork
  by_cases h : nI s0 = S 104 2
  · by_cases h1 : r = 118 ∧ k = s0
    · obtain ⟨rfl, rfl⟩ := h1
      simp only [h, and_self, if_true]
      split
      · simp [mu_at]
      · split <;> simp [mu_at]
    · simp only [h, h1, and_false, if_true, if_false]
      split
      · simp [mu_at, h1]
      · split <;> simp [mu_at, h1]
  · simp [h]
theorem mF3_at (S : mI) (s0 : Nat) (n kd : Int32) (r k : Nat) : mF3 S s0 n kd r k = if (nI s0 = S 104 3 ∧ (kd = 9 ∨ kd = 7 ∧ S 116 s0 = S 117 s0)) ∧ r = 100 ∧ k = 22 then S 110 n.toNatClampNeg else if (nI s0 = S 104 3 ∧ (kd = 9 ∨ kd = 7 ∧ S 116 s0 = S 117 s0)) ∧ r = 115 ∧ k < s0 then 0 else S r k := by
  unfold mF3
  by_cases h : nI s0 = S 104 3 ∧ (kd = 9 ∨ kd = 7 ∧ S 116 s0 = S 117 s0)
  · rw [if_pos h]
    simp only [mu_at, h, true_and, and_self, mClr]
  · simp [h]
theorem mF4_at (S : mI) (s0 : Nat) (kd : Int32) (r k : Nat) : mF4 S s0 kd r k = if (nI s0 = S 104 4 ∧ kd = 5) ∧ r = 119 ∧ k = s0 then S 100 20 else if (nI s0 = S 104 4 ∧ kd = 5) ∧ r = 118 ∧ k = s0 then S 127 (mPlace S s0).toNatClampNeg else S r k := by
  unfold mF4
  by_cases h : nI s0 = S 104 4 ∧ kd = 5
  · rw [if_pos h]
    simp only [mu_at, h, true_and, and_self]
    by_cases h1 : r = 119 ∧ k = s0
    · obtain ⟨rfl, rfl⟩ := h1; simp
    · by_cases h2 : r = 118 ∧ k = s0
      · simp [h2]
      · simp [h1, h2]
  · rw [if_neg h]
    simp only [h, false_and, if_false]
theorem mF6_last (S : mI) (st s0 : Nat) (n : Int32) (h : s0 + 1 = st) (r k : Nat) : mF6 S st s0 n r k = if r = 100 ∧ k = 23 then S 100 23 + 1 else if r = 115 ∧ k = s0 then 0 else S r k := by
  unfold mF6
  rw [if_pos h]
  rfl
theorem mF6_move (S : mI) (st s0 : Nat) (n : Int32) (h : ¬ s0 + 1 = st) (r k : Nat) : mF6 S st s0 n r k = if k = s0 + 1 then (if r = 115 then 1 else if r = 114 then n else if r = 116 then S 116 s0 else if r = 117 then S 117 s0 else if r = 118 then S 118 s0 else if r = 119 then S 119 s0 else if r = 120 then S 100 20 else S r k) else if r = 115 ∧ k = s0 then 0 else S r k := by
  unfold mF6
  rw [if_neg h]
  simp only [mu_at]
  by_cases hk : k = s0 + 1
  · subst hk
    simp only [and_true, if_true]
    by_cases h1 : r = 120
    · subst h1; simp
    by_cases h2 : r = 119
    · subst h2; simp
    by_cases h3 : r = 118
    · subst h3; simp
    by_cases h4 : r = 117
    · subst h4; simp
    by_cases h5 : r = 116
    · subst h5; simp
    by_cases h6 : r = 114
    · subst h6; simp
    by_cases h7 : r = 115
    · subst h7; simp
    simp [h1, h2, h3, h4, h5, h6, h7]
  · simp [hk]
theorem mu_id (S : mI) (r k : Nat) : mu S r k (S r k) = S := by
  funext x y
  simp only [mu_at]
  split
  · rename_i h; rw [h.1, h.2]
  · rfl
theorem cF1_at (S : mI) (G : mP) (st s0 t q : Nat) (r f : Nat) : cF1 S G st s0 t q r f = if (S 5 1 = nI s0 ∧ mR1 (S q 0)) ∧ r = t ∧ f = 2 then cVal S G st s0 (S q 2) else if (S 5 1 = nI s0 ∧ cR2 (S q 0)) ∧ r = t ∧ f = 3 then cVal S G st s0 (S q 3) else S r f := by
  unfold cF1
  by_cases h : S 5 1 = nI s0
  · rw [if_pos h]
    simp only [h, true_and, and_self]
    by_cases h2 : cR2 (S q 0)
    · have h1 : mR1 (S q 0) := h2.1
      rw [if_pos h2, if_pos h1]
      simp only [mu_at, h1, h2, true_and, and_self]
      grind
    · by_cases h1 : mR1 (S q 0)
      · rw [if_neg h2, if_pos h1]
        simp only [mu_at]
        grind
      · rw [if_neg h2, if_neg h1]
        grind
  · rw [if_neg h]
    grind
theorem cF2_at (S : mI) (s0 t q : Nat) (r f : Nat) : cF2 S s0 t q r f = if S 5 2 = nI s0 ∧ r = t ∧ f = 4 then cWork (S q 0) (S q 4) (S t 2) (S t 3) else S r f := by
  unfold cF2
  by_cases h : S 5 2 = nI s0
  · rw [if_pos h]
    simp only [mu_at, h, true_and, and_self]
  · rw [if_neg h]
    simp only [h, false_and, if_false]
theorem cOut_f (S : mI) (G : mP) {f : Nat} (h : f ≠ 0) (r : Nat) : ∀ n, cOut S G n r f = S r f := by
  intro n
  induction n with
  | zero => rfl
  | succ n ih => rw [cOut, mu_ns _ _ _ h, ih]
theorem cOut_th {Sh : mS} {S : mI} {G : mP} (ht : okT Sh S G) (U : mI) {j : Nat} (hj : j < 8) : ∀ n, n ≤ 8 → cOut U G n (thG G j) 0 = if j < n then 0 else U (thG G j) 0 := by
  intro n
  induction n with
  | zero => intro _; rfl
  | succ n ih =>
    intro hn
    rw [cOut]
    by_cases e : j = n
    · rw [e, mu_eq, if_pos (by omega)]
    · rw [mu_na _ _ _ (fun e2 => e (ht.2 j n hj (by omega) e2)), ih (by omega)]
      by_cases h : j < n
      · rw [if_pos h, if_pos (by omega)]
      · rw [if_neg h, if_neg (by omega)]
theorem cF3_at {Sh : mS} {S : mI} {G : mP} (ht : okT Sh S G) (U : mI) (s0 t q : Nat) (hs : s0 < 8) (r f : Nat) (hr : r < 24 ∨ 32 ≤ r) : cF3 U G s0 t q r f = if (U 5 3 = nI s0 ∧ (U q 0 = 9 ∨ (U q 0 = 7 ∧ U t 2 = U t 3))) ∧ r = 14 ∧ f = 8 then U q 4 else U r f := by
  unfold cF3
  by_cases h : U 5 3 = nI s0 ∧ (U q 0 = 9 ∨ (U q 0 = 7 ∧ U t 2 = U t 3))
  · rw [if_pos h]
    simp only [mu_at, h, true_and, and_self]
    rw [cOut_n ht U hr s0 (by omega)]
  · rw [if_neg h]
    simp only [h, false_and, if_false]
theorem cF3_th {Sh : mS} {S : mI} {G : mP} (ht : okT Sh S G) (U : mI) (s0 t q : Nat) (hs : s0 < 8) {j : Nat} (hj : j < 8) (f : Nat) : cF3 U G s0 t q (thG G j) f = if (U 5 3 = nI s0 ∧ (U q 0 = 9 ∨ (U q 0 = 7 ∧ U t 2 = U t 3))) ∧ f = 0 ∧ j < s0 then 0 else U (thG G j) f := by
  have hr := ht.r hj
  unfold cF3
  by_cases h : U 5 3 = nI s0 ∧ (U q 0 = 9 ∨ (U q 0 = 7 ∧ U t 2 = U t 3))
  · rw [if_pos h]
    simp only [h, true_and, and_self]
    rw [mu_na _ _ _ (by omega)]
    by_cases hf : f = 0
    · subst hf
      rw [cOut_th ht U hj s0 (by omega)]
      simp
    · rw [cOut_f _ _ hf, if_neg (fun e => hf e.1)]
  · rw [if_neg h]
    simp only [h, false_and, if_false]
theorem cF4_at (S : mI) (s0 t q : Nat) (r f : Nat) : cF4 S s0 t q r f = if (S 5 4 = nI s0 ∧ S q 0 = 5) ∧ r = t ∧ f = 5 then S 14 9 else if (S 5 4 = nI s0 ∧ S q 0 = 5) ∧ r = t ∧ f = 4 then S 17 ((S t 2 + S q 4) &&& 63).toNatClampNeg else S r f := by
  unfold cF4
  by_cases h : S 5 4 = nI s0 ∧ S q 0 = 5
  · rw [if_pos h]
    simp only [mu_at, h, true_and, and_self]
  · rw [if_neg h]
    simp only [h, false_and, if_false]
theorem cF5_at (S : mI) (s0 t q : Nat) (r f : Nat) : cF5 S s0 t q r f = if cGiv S (S q 0) = nI s0 ∧ r = t ∧ f = 6 then S 14 9 else S r f := by
  unfold cF5
  by_cases h : cGiv S (S q 0) = nI s0
  · rw [if_pos h]
    simp only [mu_at, h, true_and, and_self]
  · rw [if_neg h]
    simp only [h, false_and, if_false]
