theorem ch_fetch {P Y : mI} {st r x v q a : Nat} {y : Option Nat} {g : Nat} (hI : chI P Y st r x v q g) (hl : lay Y st r x v q a y) (ho : Y 100 21 = 0) : chI P (mFetch Y) st r x v q g ∧ mFetch Y 100 21 = 0 ∧ lay (mFetch Y) st r x v q a y ∧ (pS P Y → pS P (mFetch Y)) := by
  have hle := hl.le
  obtain ⟨hL, hA, -⟩ := hI
  obtain ⟨h23, hC⟩ := hA ho
  by_cases h0 : Y 115 0 = 0
  · have yn : ∀ r, (r ≠ 100 ∧ r ≠ 114 ∧ r ≠ 115 ∧ r ≠ 116 ∧ r ≠ 117 ∧ r ≠ 118 ∧ r ≠ 119 ∧ r ≠ 120) → mFetch Y r = Y r := fun r hr => by
      funext k
      simp [mFetch, h0, mu_at, hr]
    have y0 : ∀ f, f ≠ 20 → f ≠ 22 → f ≠ 27 → mFetch Y 100 f = Y 100 f := fun f h1 h2 h3 => by simp [mFetch, h0, mu_at, h1, h2, h3]
    have yk : ∀ r k, (114 ≤ r ∧ r ≤ 120) → k ≠ 0 → mFetch Y r k = Y r k := fun r k h1 h2 => by
      have h3 : r ≠ 100 := by omega
      simp [mFetch, h0, mu_at, h2, h3]
    have y22 : mFetch Y 100 22 = Y 100 22 + 1 := by simp [mFetch, h0, mu_at]
    have e5 : mFetch Y 115 0 = 1 := by simp [mFetch, h0, mu_at]
    have e4 : mFetch Y 114 0 = Y 100 22 := by simp [mFetch, h0, mu_at]
    refine ⟨⟨chL_of hL (y0 _ (by decide) (by decide) (by decide)) ⟨yn 129 (by decide), yn 130 (by decide), yn 131 (by decide)⟩, fun _ => ⟨by rw [y0 _ (by decide) (by decide) (by decide)]; exact h23, ?_⟩, fun e => absurd (by rw [y0 _ (by decide) (by decide) (by decide)]; exact ho) e⟩, by rw [y0 _ (by decide) (by decide) (by decide)]; exact ho, lay_of hl (y0 _ (by decide) (by decide) (by decide)) (yn 104 (by decide)), fun hP => ?_⟩
    · generalize mFetch Y = W at *
      have up : ∀ k, 1 ≤ k → k ≤ st → chK P W v st (qN P g) k = chK P Y v st (qN P g) k := fun k h1 h2 => chK_of (st - k) k (by omega) (fun j h3 h4 => by rw [yk 115 j (by decide) (by omega)])
      have e1 : chK P Y v st (qN P g) 0 = chK P Y v st (qN P g) 1 := by rw [chK_s P Y v _ (by omega), if_pos h0]
      have e2 : chK P W v st (qN P g) 0 = chB P v 0 (chK P Y v st (qN P g) 0) := by rw [chK_s P W v _ (by omega), if_neg (by rw [e5]; decide), up 1 (by omega) (by omega), e1]
      refine ⟨fun k hk hp hb => ?_, fun hb => ?_, ?_, ?_⟩
      · rw [up (k + 1) (by omega) (by omega)] at hb ⊢
        by_cases k0 : k = 0
        · subst k0
          rw [← e1] at hb ⊢
          refine ⟨?_, fun e => absurd e (by omega), fun e => absurd e (by omega), fun e => absurd e (by omega)⟩
          rw [e4]
          exact hC.2.1 hb
        · rw [yk 115 k (by decide) k0] at hp
          have := hC.1 k hk hp hb
          unfold chT at this ⊢
          rw [yk 114 k (by decide) k0, yk 116 k (by decide) k0, yk 117 k (by decide) k0, yk 118 k (by decide) k0]
          exact this
      · rw [e2] at hb ⊢
        have hb0 := chB_up hb
        rw [chB_t hb0] at hb ⊢
        have hb1 := of_decide_eq_true hb
        have nj : ¬ qJ P (chK P Y v st (qN P g) 0).1 := fun e => absurd (hb1.2 e) (by omega)
        rw [y22, hC.2.1 hb0]
        show _ = (qS P _).1
        rw [qS]
        simp only [if_neg nj]
      · rw [yn 125 (by decide)]; exact hC.2.2.1
      · rw [yn 127 (by decide)]; exact hC.2.2.2
    · unfold pS at hP ⊢
      rw [y0 _ (by decide) (by decide) (by decide), yn 106 (by decide), yn 107 (by decide), yn 108 (by decide), yn 109 (by decide), yn 110 (by decide), yn 112 (by decide)]
      exact hP
  · have eY : mFetch Y = mu (mu Y 100 20 (Y 100 20 + 1)) 100 27 0 := by unfold mFetch; rw [if_neg h0]
    have yn : ∀ r, r ≠ 100 → mFetch Y r = Y r := fun r hr => by rw [eY, mu_row _ _ _ hr, mu_row _ _ _ hr]
    have y0 : ∀ f, f ≠ 20 → f ≠ 27 → mFetch Y 100 f = Y 100 f := fun f h1 h2 => by rw [eY, mu_ns _ _ _ h2, mu_ns _ _ _ h1]
    refine ⟨⟨chL_of hL (y0 _ (by decide) (by decide)) ⟨yn 129 (by decide), yn 130 (by decide), yn 131 (by decide)⟩, fun _ => ⟨by rw [y0 _ (by decide) (by decide)]; exact h23, ?_⟩, fun e => absurd (by rw [y0 _ (by decide) (by decide)]; exact ho) e⟩, by rw [y0 _ (by decide) (by decide)]; exact ho, lay_of hl (y0 _ (by decide) (by decide)) (yn 104 (by decide)), fun hP => ?_⟩
    · have up : ∀ k, k ≤ st → chK P (mFetch Y) v st (qN P g) k = chK P Y v st (qN P g) k := fun k h2 => chK_of (st - k) k (by omega) (fun j h3 h4 => by rw [yn 115 (by decide)])
      refine ⟨fun k hk hp hb => ?_, fun hb => ?_, ?_, ?_⟩
      · rw [up (k + 1) (by omega)] at hb ⊢
        rw [yn 115 (by decide)] at hp
        have := hC.1 k hk hp hb
        unfold chT at this ⊢
        rw [yn 114 (by decide), yn 116 (by decide), yn 117 (by decide), yn 118 (by decide)]
        exact this
      · rw [up 0 (by omega)] at hb ⊢
        rw [y0 _ (by decide) (by decide)]
        exact hC.2.1 hb
      · rw [yn 125 (by decide)]; exact hC.2.2.1
      · rw [yn 127 (by decide)]; exact hC.2.2.2
    · unfold pS at hP ⊢
      rw [y0 _ (by decide) (by decide), yn 106 (by decide), yn 107 (by decide), yn 108 (by decide), yn 109 (by decide), yn 110 (by decide), yn 112 (by decide)]
      exact hP
/-- the program, the line, the chain -/
def chX (P Y : mI) (st r x v q a : Nat) (y : Option Nat) (g : Nat) : Prop := pS P Y ∧ lay Y st r x v q a y ∧ chI P Y st r x v q g
theorem mFire_pS {P Y : mI} {st r x v q a s : Nat} {y : Option Nat} (hP : pS P Y) (hl : lay Y st r x v q a y) (hs : s < st) : pS P (mFire Y st s) ∧ lay (mFire Y st s) st r x v q a y := by
  by_cases h : s + 1 = st
  · have hm6 := mF6_last (mCom Y s (Y 114 s) (mKind Y (Y 114 s))) st s (Y 114 s) h
    rw [mFire_ls hl h]
    have wn : ∀ j, (j ≠ 100 ∧ j ≠ 115 ∧ j ≠ 125 ∧ j ≠ 126 ∧ j ≠ 127 ∧ j ≠ 129 ∧ j ≠ 130 ∧ j ≠ 131 ∧ j ≠ 132) → mF6 (mCom Y s (Y 114 s) (mKind Y (Y 114 s))) st s (Y 114 s) j = Y j := fun j hj => by
      funext k
      rw [hm6, if_neg (by omega), if_neg (by omega), mCom_n _ _ _ _ (by omega)]
    have w0 : ∀ f, (f ≠ 23 ∧ f ≠ 32 ∧ f ≠ 27 ∧ f ≠ 21) → mF6 (mCom Y s (Y 114 s) (mKind Y (Y 114 s))) st s (Y 114 s) 100 f = Y 100 f := fun f hf => by
      rw [hm6, if_neg (by omega), if_neg (by omega), mCom_0 _ _ _ _ (by omega)]
    refine ⟨?_, lay_of hl (w0 _ (by decide)) (wn 104 (by decide))⟩
    unfold pS at hP ⊢
    rw [w0 _ (by decide), wn 106 (by decide), wn 107 (by decide), wn 108 (by decide), wn 109 (by decide), wn 110 (by decide), wn 112 (by decide)]
    exact hP
  · have wn := fun {j : Nat} (hj : j ≠ 100 ∧ j ≠ 114 ∧ j ≠ 115 ∧ j ≠ 116 ∧ j ≠ 117 ∧ j ≠ 118 ∧ j ≠ 119 ∧ j ≠ 120) => mFire_n hl (show s + 1 < st by omega) hj
    have w0 : ∀ f, f ≠ 22 → mFire Y st s 100 f = Y 100 f := fun f hf => by rw [mFire_100 hl (by omega), if_neg (fun e => hf e.2)]
    refine ⟨?_, lay_of hl (w0 _ (by decide)) (wn (by decide))⟩
    unfold pS at hP ⊢
    rw [w0 _ (by decide), wn (j := 106) (by decide), wn (j := 107) (by decide), wn (j := 108) (by decide), wn (j := 109) (by decide), wn (j := 110) (by decide), wn (j := 112) (by decide)]
    exact hP
theorem ch_stage {P Y : mI} {st r x v q a : Nat} {y : Option Nat} {g s : Nat} (hF : pF P) (h : chX P Y st r x v q a y g) (hs : s + 1 < st) : chX P (mStg Y st s) st r x v q a y g := by
  obtain ⟨hP, hl, hI⟩ := h
  unfold mStg
  by_cases hf : ¬ Y 115 s = 0 ∧ mFires Y st s = true
  · rw [if_pos hf]
    obtain ⟨a1, a2⟩ := mFire_pS hP hl (show s < st by omega)
    refine ⟨a1, a2, ?_⟩
    obtain ⟨hL, hA, hB⟩ := hI
    have w0 : ∀ f, f ≠ 22 → mFire Y st s 100 f = Y 100 f := fun f hf => by rw [mFire_100 hl hs, if_neg (fun e => hf e.2)]
    refine ⟨chL_of hL (w0 _ (by decide)) ⟨mFire_n hl hs (by decide), mFire_n hl hs (by decide), mFire_n hl hs (by decide)⟩, fun e => ?_, fun e => ?_⟩
    · rw [w0 _ (by decide)] at e
      obtain ⟨h23, hC⟩ := hA e
      exact ⟨by rw [w0 _ (by decide)]; exact h23, ch_move hF hP hC hl hs hf.1 hf.2⟩
    · rw [w0 _ (by decide)] at e ⊢
      exact hB e
  · rw [if_neg hf]
    exact ⟨hP, hl, hI⟩
theorem ch_down {P : mI} {st r x v q a : Nat} {y : Option Nat} {g : Nat} (hF : pF P) : ∀ (k : Nat) (Y : mI), k + 1 ≤ st → chX P Y st r x v q a y g → chX P (mDown st k Y) st r x v q a y g := by
  intro k
  induction k with
  | zero => intro Y _ h; exact h
  | succ k ih => intro Y hk h; rw [mDown]; exact ih _ (by omega) (ch_stage hF h (by omega))
theorem ch_cyc {P Y : mI} {st r x v q a : Nat} {y : Option Nat} {g : Nat} (hF : pF P) (h : chX P Y st r x v q a y g) (hg : g + 1 < 2147483648) (ho : Y 100 21 = 0) : ∃ g2, g ≤ g2 ∧ g2 ≤ g + 1 ∧ chX P (mCyc Y st) st r x v q a y g2 := by
  obtain ⟨hP, hl, hI⟩ := h
  have hle := hl.le
  obtain ⟨f1, f2, f3, f4⟩ := ch_fetch hI hl ho
  have f4 := f4 hP
  unfold mCyc
  obtain ⟨s, hs⟩ : ∃ s, s + 1 = st := ⟨st - 1, by omega⟩
  have hst : mDown st st (mFetch Y) = mDown st s (mStg (mFetch Y) st s) := by
    have : mDown st (s + 1) (mFetch Y) = mDown st s (mStg (mFetch Y) st s) := rfl
    rw [← this, hs]
  rw [hst]
  unfold mStg
  by_cases hf : ¬ mFetch Y 115 s = 0 ∧ mFires (mFetch Y) st s = true
  · rw [if_pos hf]
    obtain ⟨g2, b1, b2, b3⟩ := ch_last hF f4 f1 f3 hg hs hf.1 f2
    obtain ⟨a1, a2⟩ := mFire_pS f4 f3 (show s < st by omega)
    exact ⟨g2, b1, b2, ch_down hF s _ (by omega) ⟨a1, a2, b3⟩⟩
  · rw [if_neg hf]
    exact ⟨g, Nat.le_refl _, by omega, ch_down hF s _ (by omega) ⟨f4, f3, f1⟩⟩
theorem ch_run {P : mI} {st r x v q a : Nat} {y : Option Nat} (hF : pF P) : ∀ (f : Nat) (Y : mI) (g : Nat), chX P Y st r x v q a y g → g + f < 2147483648 → ∃ g2, g ≤ g2 ∧ g2 ≤ g + f ∧ chX P (mRunF st f Y) st r x v q a y g2 := by
  intro f
  induction f with
  | zero => intro Y g h _; exact ⟨g, Nat.le_refl _, Nat.le_refl _, h⟩
  | succ f ih =>
    intro Y g h hg
    rw [mRunF]
    by_cases ho : Y 100 21 = 0
    · rw [if_pos ho]
      obtain ⟨g2, b1, b2, b3⟩ := ch_cyc hF h (by omega) ho
      obtain ⟨g3, d1, d2, d3⟩ := ih _ g2 b3 (by omega)
      exact ⟨g3, by omega, by omega, d3⟩
    · rw [if_neg ho]
      exact ⟨g, Nat.le_refl _, by omega, h⟩
/-! one program in two states -/
theorem qS_of {P Y : mI} (h : pS P Y) (Q : sQ) : qS Y Q = qS P Q ∧ qW Y Q = qW P Q ∧ qH Y Q = qH P Q ∧ qV Y Q = qV P Q ∧ (qC Y Q ↔ qC P Q) := by
  have hk := h.k Q.1
  obtain ⟨-, -, h7, h8, h9, h10, -⟩ := h
  have eA : qA Y Q = qA P Q := by unfold qA; rw [h8]
  have eB : qB Y Q = qB P Q := by unfold qB; rw [h9]
  have eP : qP Y Q = qP P Q := by unfold qP; rw [eA, h10]
  have eV : qV Y Q = qV P Q := by unfold qV; rw [hk, eA, eB, eP, h10]
  refine ⟨?_, by unfold qW; rw [hk], by unfold qH; rw [hk, eP, h7], eV, by unfold qC; rw [hk]⟩
  unfold qS qJ
  simp only [hk, eA, eB, eP, eV, h7, h10]
theorem qN_of {P Y : mI} (h : pS P Y) : ∀ t, qN Y t = qN P t := by
  intro t
  induction t with
  | zero => show qO Y = qO P; unfold qO; rw [h.2.2.2.2.2.2]
  | succ t ih => show qS Y (qN Y t) = qS P (qN P t); rw [ih, (qS_of h _).1]
theorem qM_of {P Y : mI} (h : pS P Y) : ∀ t, qM Y t = qM P t := by
  intro t
  induction t with
  | zero => rfl
  | succ t ih =>
    rw [qM, qM, ih, qN_of h]
    have := (qS_of h (qN P t)).2.2.2.2
    by_cases e : qC P (qN P t)
    · rw [if_pos e, if_pos (this.mpr e)]
    · rw [if_neg e, if_neg (fun q => e (this.mp q))]
theorem ch_mFa {P Y : mI} {st r x v q a : Nat} {y : Option Nat} {g : Nat} (h : chX P Y st r x v q a y g) (hg : g + 1 < 2147483648) : mFa Y g := by
  obtain ⟨hP, -, hL, hA, hB⟩ := h
  refine ⟨fun t ht => ?_, ?_, hg, by rw [qM_of hP]; exact hL.2.1, fun t ht hq hm => ?_⟩
  · rw [qN_of hP, hP.k]; exact hL.1 t ht
  · by_cases ho : Y 100 21 = 0
    · exact Or.inl (hA ho).1
    · exact Or.inr ⟨(hB ho).1, by rw [qN_of hP, hP.k]; exact (hB ho).2⟩
  · rw [qN_of hP] at hq ⊢
    rw [qM_of hP] at hm ⊢
    obtain ⟨s1, s2, s3, s4, s5⟩ := qS_of hP (qN P t)
    rw [s2, s3, s4]
    exact hL.2.2 t ht (s5.mp hq) hm
