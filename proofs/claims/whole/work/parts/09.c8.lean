theorem gC_18 (k : Nat) : gC 18 k = none := by
  unfold gC
  match k with
  | 0 | 1 | 2 | 3 | 4 | 5 | 6 | 7 | 8 => rfl
  | k + 9 => rfl
theorem gC_7 (k : Nat) : gC 7 k = none := by
  unfold gC
  match k with
  | 0 | 1 | 2 | 3 | 4 | 5 | 6 | 7 | 8 => rfl
  | k + 9 => rfl
theorem gC_hi {r : Nat} (h : 24 ≤ r) (k : Nat) : gC r k = none := by
  unfold gC
  rw [show r = (r - 24) + 24 by omega]
  rfl
theorem okC_mu {Sh : mS} {G : mP} (h : okC Sh G) {r : Nat} (k : Nat) (v : Option Nat) (hr : ∀ k, gC r k = none) : okC Sh (mu G r k v) := by
  refine ⟨h.1, fun x y q hq => ?_⟩
  have hne : x ≠ r := fun e => by rw [e, hr] at hq; cases hq
  rw [mu_na _ _ _ hne]
  exact h.2 x y q hq
theorem thG_swap {G : mP} {s0 k : Nat} : thG (mu (mu G 18 s0 (some (thG G (s0 + 1)))) 18 (s0 + 1) (some (thG G s0))) k = if k = s0 + 1 then thG G s0 else if k = s0 then thG G (s0 + 1) else thG G k := by
  unfold thG
  by_cases h1 : k = s0 + 1
  · subst h1; simp [mu]
  · by_cases h2 : k = s0
    · subst h2; simp [mu]
    · simp [mu, h1, h2]
theorem okT_swap {Sh : mS} {S : mI} {G : mP} (h : okT Sh S G) {s0 : Nat} (hs : s0 + 1 < 8) : okT Sh S (mu (mu G 18 s0 (some (thG G (s0 + 1)))) 18 (s0 + 1) (some (thG G s0))) := by
  have hro : ∀ t, 24 ≤ t → roG (mu (mu G 18 s0 (some (thG G (s0 + 1)))) 18 (s0 + 1) (some (thG G s0))) t = roG G t := fun t ht => by
    unfold roG; rw [mu_na _ _ _ (by omega), mu_na _ _ _ (by omega)]
  have key : ∀ k, k < 8 → ∃ j, j < 8 ∧ thG (mu (mu G 18 s0 (some (thG G (s0 + 1)))) 18 (s0 + 1) (some (thG G s0))) k = thG G j ∧ mu (mu G 18 s0 (some (thG G (s0 + 1)))) 18 (s0 + 1) (some (thG G s0)) 18 k = some (thG G j) := by
    intro k hk
    by_cases h1 : k = s0 + 1
    · exact ⟨s0, by omega, by rw [thG_swap, if_pos h1], by subst h1; simp [mu]⟩
    · by_cases h2 : k = s0
      · exact ⟨s0 + 1, by omega, by rw [thG_swap, if_neg h1, if_pos h2], by subst h2; simp [mu]⟩
      · exact ⟨k, hk, by rw [thG_swap, if_neg h1, if_neg h2], by rw [mu_ns _ _ _ h1, mu_ns _ _ _ h2]; exact h.g hk⟩
  refine ⟨fun k hk => ?_, fun i j hi hj he => ?_⟩
  · obtain ⟨j, hj, e1, e2⟩ := key k hk
    obtain ⟨h1, h2, h3, h4, h5, h6, h7⟩ := h.1 j hj
    simp only [tf]
    rw [e1, hro _ h3.1]
    exact ⟨e2, h2, h3, by rw [mu_na _ _ _ (by omega), mu_na _ _ _ (by omega)]; exact h4, h5, h6, h7⟩
  · rw [thG_swap, thG_swap] at he
    have inj := h.2
    split at he
    · split at he
      · omega
      · split at he
        · have := inj _ _ (by omega) (by omega) he; omega
        · have := inj _ _ (by omega) hj he; omega
    · split at he
      · split at he
        · have := inj _ _ (by omega) (by omega) he; omega
        · split at he
          · omega
          · have := inj _ _ (by omega) hj he; omega
      · split at he
        · have := inj _ _ hi (by omega) he; omega
        · split at he
          · have := inj _ _ hi (by omega) he; omega
          · exact inj _ _ hi hj he
def cInv (Sh : mS) (S : mI) (G : mP) (st cnt : Nat) : Prop := okC Sh G ∧ okT Sh S G ∧ S 4 1 = nI st ∧ (2 ≤ st ∧ st ≤ 8) ∧ S 6 2 = nI cnt ∧ cnt ≤ 40 ∧ (∀ j, j < cnt → G 7 j = some (32 + j) ∧ Sh (32 + j) = some (0, 2, 0)) ∧ (∀ r, Sh r = some (0, 2, 0) → iD (S r 0) (S r 1)) ∧ (∀ r, Sh r = some (0, 2, 0) → r = 8 ∨ 32 ≤ r) ∧ ∃ kp, kp ≤ 1000 ∧ S 12 1 = nI kp
/-- a label that no stage's firing writes -/
abbrev cFx (x : Nat) : Prop := (x < 24 ∨ 32 ≤ x) ∧ x ≠ 12 ∧ x ≠ 13 ∧ x ≠ 14 ∧ x ≠ 16 ∧ x ≠ 17 ∧ x ≠ 19
theorem cOut_n {Sh : mS} {S : mI} {G : mP} (ht : okT Sh S G) (U : mI) {x : Nat} (hx : x < 24 ∨ 32 ≤ x) : ∀ n, n ≤ 8 → cOut U G n x = U x := by
  intro n
  induction n with
  | zero => intro _; rfl
  | succ n ih =>
    intro hn
    have := ht.r (k := n) (by omega)
    show mu (cOut U G n) (thG G n) 0 0 x = U x
    rw [mu_row _ _ _ (by omega)]
    exact ih (by omega)
theorem cPh {Sh : mS} {S : mI} {G : mP} (ht : okT Sh S G) {st s0 : Nat} (hs : s0 < 8) : ∃ V : mI, cFire S G st s0 = cF7 (cF6 V (kpO S) s0 (thG G s0) (roG G (thG G s0))) st s0 (thG G s0) ∧ cKp Sh G S V (roG G (thG G s0)) ∧ (∀ x, cFx x → V x = S x) := by
  have htr := ht.r hs
  have hqr := (ht.1 s0 hs).2.2.2.2.2.1
  refine ⟨cF5 (cF4 (cF3 (cF2 (cF1 S G st s0 (thG G s0) (roG G (thG G s0))) s0 (thG G s0) (roG G (thG G s0))) G s0 (thG G s0) (roG G (thG G s0))) s0 (thG G s0) (roG G (thG G s0))) s0 (thG G s0) (roG G (thG G s0)), rfl, ?_, ?_⟩
  · have k1 : cKp Sh G S (cF1 S G st s0 (thG G s0) (roG G (thG G s0))) (roG G (thG G s0)) := by
      unfold cF1
      split
      · exact cRd_kp ht htr hqr
      · exact ⟨ht, rfl, rfl, rfl, rfl⟩
    generalize cF1 S G st s0 (thG G s0) (roG G (thG G s0)) = U1 at k1
    have k2 : cKp Sh G S (cF2 U1 s0 (thG G s0) (roG G (thG G s0))) (roG G (thG G s0)) := by
      unfold cF2
      split
      · exact cKp_t k1 hqr htr _ _ (Or.inl (by decide))
      · exact k1
    generalize cF2 U1 s0 (thG G s0) (roG G (thG G s0)) = U2 at k2
    have k3 : cKp Sh G S (cF3 U2 G s0 (thG G s0) (roG G (thG G s0))) (roG G (thG G s0)) := by
      unfold cF3
      split
      · exact cKp_s (cKp_out k2 hqr s0 (by omega)) ⟨by decide, by decide, by decide, by decide, by omega⟩ _ _
      · exact k2
    generalize cF3 U2 G s0 (thG G s0) (roG G (thG G s0)) = U3 at k3
    have k4 : cKp Sh G S (cF4 U3 s0 (thG G s0) (roG G (thG G s0))) (roG G (thG G s0)) := by
      unfold cF4
      split
      · exact cKp_t (cKp_t k3 hqr htr _ _ (Or.inl (by decide))) hqr htr _ _ (Or.inl (by decide))
      · exact k3
    generalize cF4 U3 s0 (thG G s0) (roG G (thG G s0)) = U4 at k4
    unfold cF5
    split
    · exact cKp_t k4 hqr htr _ _ (Or.inl (by decide))
    · exact k4
  · intro x hx
    have ht0 : x ≠ (thG G s0) := by omega
    have e1 : cF1 S G st s0 (thG G s0) (roG G (thG G s0)) x = S x := by
      unfold cF1
      repeat' split
      all_goals first | rfl | (rw [mu_row _ _ _ ht0, mu_row _ _ _ ht0]) | (rw [mu_row _ _ _ ht0])
    generalize cF1 S G st s0 (thG G s0) (roG G (thG G s0)) = U1 at e1
    have e2 : cF2 U1 s0 (thG G s0) (roG G (thG G s0)) x = S x := by
      unfold cF2
      split
      · rw [mu_row _ _ _ ht0]; exact e1
      · exact e1
    generalize cF2 U1 s0 (thG G s0) (roG G (thG G s0)) = U2 at e2
    have e3 : cF3 U2 G s0 (thG G s0) (roG G (thG G s0)) x = S x := by
      unfold cF3
      split
      · rw [mu_row _ _ _ (by omega), cOut_n ht U2 (by omega) s0 (by omega)]; exact e2
      · exact e2
    generalize cF3 U2 G s0 (thG G s0) (roG G (thG G s0)) = U3 at e3
    have e4 : cF4 U3 s0 (thG G s0) (roG G (thG G s0)) x = S x := by
      unfold cF4
      split
      · rw [mu_row _ _ _ ht0, mu_row _ _ _ ht0]; exact e3
      · exact e3
    generalize cF4 U3 s0 (thG G s0) (roG G (thG G s0)) = U4 at e4
    unfold cF5
    split
    · rw [mu_row _ _ _ ht0]; exact e4
    · exact e4
theorem cAdd_12 (S : mI) {kp : Nat} (h : kp ≤ 1000) (hk : S 12 1 = nI kp) (a1 a2 a3 a4 : Int32) : ∃ k2, k2 ≤ 1000 ∧ cAdd S kp a1 a2 a3 a4 12 1 = nI k2 := by
  unfold cAdd
  split
  · exact ⟨kp + 1, by omega, mu_eq _ _ _ _⟩
  · exact ⟨kp, h, by rw [mu_ns _ _ _ (by decide)]; exact hk⟩
theorem cFin_12 (S : mI) {kp : Nat} (h : kp ≤ 1000) (hk : S 12 1 = nI kp) (t q : Nat) : ∃ k2, k2 ≤ 1000 ∧ cFin S kp t q 12 1 = nI k2 := by
  unfold cFin
  split
  · exact ⟨kp, h, by rw [mu_na _ _ _ (by decide)]; exact hk⟩
  · split
    · rw [mu_na _ _ _ (by decide)]; exact cAdd_12 _ h (by rw [mu_na _ _ _ (by decide)]; exact hk) _ _ _ _
    · split
      · exact cAdd_12 _ h hk _ _ _ _
      · split
        · rw [mu_na _ _ _ (by decide)]; exact cAdd_12 _ h (by rw [mu_na _ _ _ (by decide)]; exact hk) _ _ _ _
        · exact ⟨kp, h, hk⟩
theorem kpO_eq {S : mI} {kp : Nat} (h : kp ≤ 1000) (hk : S 12 1 = nI kp) : kpO S = kp := by rw [kpO, hk, nI_clamp (by omega)]
/-- firing a stage keeps what the class's walk needs -/
theorem cFire_inv {Sh : mS} {S : mI} {G : mP} {st cnt s0 : Nat} (h : cInv Sh S G st cnt) (hs : s0 < st) : cInv Sh (cFire S G st s0) (cG7 G st s0) st cnt := by
  obtain ⟨hw, ht, h4, ⟨h2, h8⟩, h6, h40, hr, hi, hl, kp, hk1, hk⟩ := h
  obtain ⟨V, e, ⟨kT, k4, k5, kq, k12⟩, hx⟩ := cPh ht (st := st) (s0 := s0) (by omega)
  have htr := ht.r (k := s0) (by omega)
  have hqr := (ht.1 s0 (by omega)).2.2.2.2.2.1
  have hko := kpO_eq hk1 hk
  rw [hko] at e
  have fx : ∀ x, cFx x → cFire S G st s0 x = S x := by
    intro x hx0
    rw [e, ← hx x hx0]
    have hy : cF6 V kp s0 (thG G s0) (roG G (thG G s0)) x = V x := by
      unfold cF6
      split
      · exact cFin_n _ _ _ _ (by omega)
      · rfl
    unfold cF7
    split
    · rw [mu_row _ _ _ (by omega), mu_row _ _ _ (by omega)]; exact hy
    · exact hy
  have okV : okT Sh (cF6 V kp s0 (thG G s0) (roG G (thG G s0))) G := by
    unfold cF6
    split
    · exact (cFin_ok kT (by omega) _ _ htr hqr).1
    · exact kT
  have okF : okT Sh (cFire S G st s0) G := by
    rw [e]
    unfold cF7
    split
    · exact okT_mu (okT_mu okV _ _ _ (Or.inr (Or.inr rfl))) _ _ _ (Or.inl (fun k hk => by have := ht.r hk; omega))
    · exact okV
  refine ⟨?_, ?_, ?_, ⟨h2, h8⟩, ?_, h40, fun j hj => ⟨?_, (hr j hj).2⟩, fun r hr0 => ?_, hl, ?_⟩
  · unfold cG7
    split
    · exact hw
    · exact okC_mu (okC_mu hw _ _ gC_18) _ _ gC_18
  · unfold cG7
    split
    · exact okF
    · exact okT_swap okF (by omega)
  · rw [fx 4 (by decide)]; exact h4
  · rw [fx 6 (by decide)]; exact h6
  · unfold cG7
    split
    · exact (hr j hj).1
    · rw [mu_na _ _ _ (by decide), mu_na _ _ _ (by decide)]; exact (hr j hj).1
  · rw [fx r (by have := hl r hr0; omega)]; exact hi r hr0
  · have hy : ∃ k2, k2 ≤ 1000 ∧ cF6 V kp s0 (thG G s0) (roG G (thG G s0)) 12 1 = nI k2 := by
      unfold cF6
      split
      · exact cFin_12 _ hk1 (by rw [k12]; exact hk) _ _
      · exact ⟨kp, hk1, by rw [k12]; exact hk⟩
    rw [e]
    unfold cF7
    split
    · rw [mu_na _ _ _ (by decide), mu_na _ _ _ (by omega)]; exact hy
    · exact hy
/-- a new thread at the cycle's begin -/
def cFetS (S : mI) (G : mP) : mI := if tf S G 0 0 = 0 then mu (cCome (mu S 14 9 (S 14 9 + 1)) (thG G 0)) 14 8 (S 14 8 + 1) else mu S 14 9 (S 14 9 + 1)
def cFetG (S : mI) (G : mP) (cnt : Nat) : mP := if tf S G 0 0 = 0 then mu G (thG G 0) 1 (some (cAt cnt (S 14 8))) else G
def cDown (st : Nat) : Nat → mI × mP → mI × mP
  | 0, x => x
  | k + 1, x => cDown st k (if ¬ tf x.1 x.2 k 0 = 0 ∧ cMay x.1 x.2 st k = true then (cFire x.1 x.2 st k, cG7 x.2 st k) else x)
/-- one cycle -/
def cCyc (st cnt : Nat) (x : mI × mP) : mI × mP := cDown st st (cFetS x.1 x.2, cFetG x.1 x.2 cnt)
def cRunF (st cnt : Nat) : Nat → mI × mP → mI × mP
  | 0, x => x
  | f + 1, x => if x.1 14 11 = 0 then cRunF st cnt f (cCyc st cnt x) else x
theorem cAt_sh {Sh : mS} {S : mI} {G : mP} {st cnt : Nat} (h : cInv Sh S G st cnt) (n : Int32) : Sh (cAt cnt n) = some (0, 2, 0) := by
  unfold cAt
  split
  · rename_i hc
    exact (h.2.2.2.2.2.2.1 _ (in_cnt (by rw [Int32.not_lt]; exact hc.1) hc.2 h.2.2.2.2.2.1).2).2
  · exact h.1.1 8 _ rfl
theorem cFet_inv {Sh : mS} {S : mI} {G : mP} {st cnt : Nat} (h : cInv Sh S G st cnt) : cInv Sh (cFetS S G) (cFetG S G cnt) st cnt := by
  have hat := cAt_sh h (S 14 8)
  obtain ⟨hw, ht, h4, ⟨h2, h8⟩, h6, h40, hr, hi, hl, kp, hk1, hk⟩ := h
  have htr := ht.r (k := 0) (by decide)
  have fx : ∀ x, (x < 24 ∨ 32 ≤ x) → x ≠ 14 → cFetS S G x = S x := by
    intro x hx h14
    unfold cFetS
    split
    · rw [mu_row _ _ _ h14]
      unfold cCome
      rw [mu_row _ _ _ (by omega), mu_row _ _ _ (by omega), mu_row _ _ _ (by omega), mu_row _ _ _ (by omega), mu_row _ _ _ (by omega), mu_row _ _ _ (by omega), mu_row _ _ _ h14]
    · rw [mu_row _ _ _ h14]
  have h18 : ∀ k, cFetG S G cnt 18 k = G 18 k := by
    intro k
    unfold cFetG
    split
    · rw [mu_na _ _ _ (by omega)]
    · rfl
  have hth : ∀ k, thG (cFetG S G cnt) k = thG G k := fun k => by unfold thG; rw [h18]
  refine ⟨?_, ⟨fun k hk => ?_, fun i j hi hj he => ?_⟩, ?_, ⟨h2, h8⟩, ?_, h40, fun j hj => ⟨?_, (hr j hj).2⟩, fun r hr0 => ?_, hl, kp, hk1, ?_⟩
  · unfold cFetG
    split
    · exact okC_mu hw _ _ (gC_hi (by omega))
    · exact hw
  · obtain ⟨a1, a2, a3, a4, a5, a6, a7⟩ := ht.1 k hk
    have hro : G (thG G k) 1 = some (roG G (thG G k)) := a4
    simp only [tf]
    rw [hth]
    refine ⟨by rw [h18]; exact a1, a2, a3, ?_, ?_, ?_, ?_⟩
    · unfold roG cFetG
      split
      · by_cases he : thG G k = thG G 0
        · rw [he]; simp [mu]
        · rw [mu_na _ _ _ he]; exact hro
      · exact hro
    · unfold roG cFetG
      split
      · by_cases he : thG G k = thG G 0
        · rw [he]; simp only [mu_eq, Option.getD_some]; exact hat
        · rw [mu_na _ _ _ he]; exact a5
      · exact a5
    · unfold roG cFetG
      split
      · by_cases he : thG G k = thG G 0
        · rw [he]; simp only [mu_eq, Option.getD_some]; exact hl _ hat
        · rw [mu_na _ _ _ he]; exact a6
      · exact a6
    · unfold cFetS
      split
      · rw [mu_na _ _ _ (by omega)]
        unfold cCome
        by_cases he : thG G k = thG G 0
        · right; rw [he]; simp [mu]
        · rw [mu_na _ _ _ he, mu_na _ _ _ he, mu_na _ _ _ he, mu_na _ _ _ he, mu_na _ _ _ he, mu_na _ _ _ he, mu_na _ _ _ (by omega)]
          exact a7
      · rw [mu_na _ _ _ (by omega)]; exact a7
  · rw [hth, hth] at he; exact ht.2 i j hi hj he
  · rw [fx 4 (by decide) (by decide)]; exact h4
  · rw [fx 6 (by decide) (by decide)]; exact h6
  · unfold cFetG
    split
    · rw [mu_na _ _ _ (by omega)]; exact (hr j hj).1
    · exact (hr j hj).1
  · rw [fx r (by have := hl r hr0; omega) (by have := hl r hr0; omega)]; exact hi r hr0
  · rw [fx 12 (by decide) (by decide)]; exact hk
theorem cDown_inv {Sh : mS} {st cnt : Nat} : ∀ (k : Nat) (x : mI × mP), k ≤ st → cInv Sh x.1 x.2 st cnt → cInv Sh (cDown st k x).1 (cDown st k x).2 st cnt := by
  intro k
  induction k with
  | zero => intro x _ h; exact h
  | succ k ih =>
    intro x hk h
    unfold cDown
    refine ih _ (by omega) ?_
    split
    · exact cFire_inv h (by omega)
    · exact h
theorem cCyc_inv {Sh : mS} {st cnt : Nat} (x : mI × mP) (h : cInv Sh x.1 x.2 st cnt) : cInv Sh (cCyc st cnt x).1 (cCyc st cnt x).2 st cnt := cDown_inv st _ (Nat.le_refl _) (cFet_inv h)
theorem cRunF_inv {Sh : mS} {st cnt : Nat} : ∀ (f : Nat) (x : mI × mP), cInv Sh x.1 x.2 st cnt → cInv Sh (cRunF st cnt f x).1 (cRunF st cnt f x).2 st cnt := by
  intro f
  induction f with
  | zero => intro x h; exact h
  | succ f ih =>
    intro x h
    unfold cRunF
    split
    · exact ih _ (cCyc_inv x h)
    · exact h
