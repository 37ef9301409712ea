theorem sim_fetch {Sh : mS} {X : mI} {G : mP} {Y : mI} {st cnt r x v q a : Nat} {y : Option Nat} {t n m : Nat} {c : Prop} (h : rRel X G Y st cnt r x v q a y t n m c) (ht : okT Sh X G) (t31 : t + 1 < 2147483648) : rRel (cFetS X G) (cFetG X G cnt) (mFetch Y) st cnt r x v q a y (t + 1) n st True := by
  have hl := h.la.le
  have hp := (h.th 0 (by omega)).1
  have hr := ht.r (k := 0) (by decide)
  obtain ⟨z, z1, z2, z3⟩ := h.sa
  have hz : ¬ z = t + 1 := by omega
  by_cases h0 : Y 115 0 = 0
  · have eX : cFetS X G = mu (cCome (mu X 14 9 (X 14 9 + 1)) (thG G 0)) 14 8 (X 14 8 + 1) := by unfold cFetS; rw [if_pos (by rw [hp]; exact h0)]
    have eG : cFetG X G cnt = mu G (thG G 0) 1 (some (cAt cnt (X 14 8))) := by unfold cFetG; rw [if_pos (by rw [hp]; exact h0)]
    have yn : ∀ r, (r ≠ 100 ∧ r ≠ 114 ∧ r ≠ 115 ∧ r ≠ 116 ∧ r ≠ 117 ∧ r ≠ 118 ∧ r ≠ 119 ∧ r ≠ 120) → mFetch Y r = Y r := fun r hr => by
      funext k
      simp [mFetch, h0, mu_at, hr]
    have y0 : ∀ f, f ≠ 20 → f ≠ 22 → f ≠ 27 → mFetch Y 100 f = Y 100 f := fun f h1 h2 h3 => by simp [mFetch, h0, mu_at, h1, h2, h3]
    have yk : ∀ r k, (114 ≤ r ∧ r ≤ 120) → k ≠ 0 → mFetch Y r k = Y r k := fun r k h1 h2 => by
      have h3 : r ≠ 100 := by omega
      simp [mFetch, h0, mu_at, h2, h3]
    have y20 : mFetch Y 100 20 = Y 100 20 + 1 := by simp [mFetch, h0, mu_at]
    have y22 : mFetch Y 100 22 = Y 100 22 + 1 := by simp [mFetch, h0, mu_at]
    have y27 : mFetch Y 100 27 = 0 := by simp [mFetch, h0, mu_at]
    have xr : ∀ r, r ≠ 14 → r ≠ thG G 0 → cFetS X G r = X r := fun r h1 h2 => by rw [eX, mu_row _ _ _ h1, cCome_n h2, mu_row _ _ _ h1]
    have x14 : ∀ f, f ≠ 8 → f ≠ 9 → cFetS X G 14 f = X 14 f := fun f h1 h2 => by rw [eX, mu_ns _ _ _ h1, cCome_n (by omega), mu_ns _ _ _ h2]
    have x9 : cFetS X G 14 9 = X 14 9 + 1 := by rw [eX, mu_ns _ _ _ (by decide), cCome_n (by omega), mu_eq]
    have x8 : cFetS X G 14 8 = X 14 8 + 1 := by rw [eX, mu_eq]
    have xT : cFetS X G (thG G 0) 0 = 1 ∧ cFetS X G (thG G 0) 2 = 0 ∧ cFetS X G (thG G 0) 3 = 0 ∧ cFetS X G (thG G 0) 4 = 0 ∧ cFetS X G (thG G 0) 5 = 0 ∧ cFetS X G (thG G 0) 6 = 0 := by
      rw [eX]
      have : thG G 0 ≠ 14 := by omega
      simp [cCome, mu_at, this]
    have eth : ∀ k, thG (cFetG X G cnt) k = thG G k := fun k => by unfold thG; rw [eG, mu_na _ _ _ (show 18 ≠ thG G 0 by omega)]
    have hkW : ∀ n, mKind (mFetch Y) n = mKind Y n := fun n => mKind_of (y0 10 (by decide) (by decide) (by decide)) (yn 106 (by decide)) n
    refine ⟨rSt_of h.st (fun r hr => xr r (by omega) (by omega)) ⟨y0 _ (by decide) (by decide) (by decide), y0 _ (by decide) (by decide) (by decide), y0 _ (by decide) (by decide) (by decide)⟩ (fun r hr => yn r (by omega)), lay_of h.la (y0 _ (by decide) (by decide) (by decide)) (yn 104 (by decide)), fun k hk => ?_, ?_, ?_, ?_, ?_, fun k hk => ?_, fun k hk => ?_, ?_, ?_⟩
    · unfold tRl tf
      rw [hkW, eth]
      by_cases k0 : k = 0
      · subst k0
        have e5 : mFetch Y 115 0 = 1 := by simp [mFetch, h0, mu_at]
        have e4 : mFetch Y 114 0 = Y 100 22 := by simp [mFetch, h0, mu_at]
        have e6 : mFetch Y 116 0 = 0 := by simp [mFetch, h0, mu_at]
        have e7 : mFetch Y 117 0 = 0 := by simp [mFetch, h0, mu_at]
        have e8 : mFetch Y 118 0 = 0 := by simp [mFetch, h0, mu_at]
        have e9 : mFetch Y 119 0 = 0 := by simp [mFetch, h0, mu_at]
        have e1 : mFetch Y 120 0 = 0 := by simp [mFetch, h0, mu_at]
        obtain ⟨t0, t2, t3, t4, t5, t6⟩ := xT
        rw [e5, e4, e6, e7, e8, e9, e1, t0, t2, t3, t4, t5, t6]
        refine ⟨rfl, fun _ => ⟨?_, rfl, rfl, rfl, fun _ => ⟨rfl, rfl⟩, fun _ => rfl, fun _ _ => rfl, fun e => absurd e (by omega), 0, rfl, by omega, fun _ => by omega, fun _ => rfl, fun w _ => ⟨fun _ => rfl, fun e => absurd e (by omega)⟩⟩⟩
        unfold roG
        rw [eG, mu_eq, h.nx]
        rfl
      · have hrk := ht.r (k := k) (by omega)
        have hne : thG G k ≠ thG G 0 := fun e => k0 (ht.2 k 0 (by omega) (by decide) e)
        have ero : roG (cFetG X G cnt) (thG G k) = roG G (thG G k) := by unfold roG; rw [eG, mu_na _ _ _ hne]
        rw [ero, xr _ (by omega) hne, yk 114 k (by decide) k0, yk 115 k (by decide) k0, yk 116 k (by decide) k0, yk 117 k (by decide) k0, yk 118 k (by decide) k0, yk 119 k (by decide) k0, yk 120 k (by decide) k0]
        obtain ⟨o1, o2⟩ := h.th k hk
        refine ⟨o1, fun e => ?_⟩
        obtain ⟨o3, o4, o5⟩ := o2 e
        exact ⟨o3, o4, tV_up o5 (by omega) (fun e => Or.inr (by omega))⟩
    · rw [x9, y20, h.nw.1, h.nw.2, nI_1]
      exact ⟨rfl, rfl⟩
    · rw [x8, y22, h.nx]
    · rw [x14 _ (by decide) (by decide), y0 _ (by decide) (by decide) (by decide)]
      exact h.go
    · rw [x14 _ (by decide) (by decide), y0 _ (by decide) (by decide) (by decide)]
      exact h.ov
    · rw [xr 16 (by decide) (by omega), xr 19 (by decide) (by omega), yn 125 (by decide), yn 126 (by decide)]
      exact h.rg k hk
    · rw [xr 17 (by decide) (by omega), yn 127 (by decide)]
      exact h.ce k hk
    · exact log_mu h.lg ⟨xr 12 (by decide) (by omega), xr 13 (by decide) (by omega)⟩ (y0 _ (by decide) (by decide) (by decide)) ⟨yn 129 (by decide), yn 130 (by decide), yn 131 (by decide), yn 132 (by decide)⟩
    · rw [x14 _ (by decide) (by decide), y27]
      exact ⟨z, z1, by omega, fun _ => ⟨fun e => absurd e hz, fun e => absurd rfl e⟩⟩
  · have eX : cFetS X G = mu X 14 9 (X 14 9 + 1) := by unfold cFetS; rw [if_neg (by rw [hp]; exact h0)]
    have eG : cFetG X G cnt = G := by unfold cFetG; rw [if_neg (by rw [hp]; exact h0)]
    have eY : mFetch Y = mu (mu Y 100 20 (Y 100 20 + 1)) 100 27 0 := by unfold mFetch; rw [if_neg h0]
    rw [eX, eG, eY]
    have yn : ∀ r, r ≠ 100 → mu (mu Y 100 20 (Y 100 20 + 1)) 100 27 0 r = Y r := fun r hr => by rw [mu_row _ _ _ hr, mu_row _ _ _ hr]
    have y0 : ∀ f, f ≠ 20 → f ≠ 27 → mu (mu Y 100 20 (Y 100 20 + 1)) 100 27 0 100 f = Y 100 f := fun f h1 h2 => by rw [mu_ns _ _ _ h2, mu_ns _ _ _ h1]
    have hkW : ∀ n, mKind (mu (mu Y 100 20 (Y 100 20 + 1)) 100 27 0) n = mKind Y n := fun n => mKind_of (y0 10 (by decide) (by decide)) (yn 106 (by decide)) n
    refine ⟨rSt_of h.st (fun r hr => mu_row _ _ _ (by omega)) ⟨y0 _ (by decide) (by decide), y0 _ (by decide) (by decide), y0 _ (by decide) (by decide)⟩ (fun r hr => yn r (by omega)), lay_of h.la (y0 _ (by decide) (by decide)) (yn 104 (by decide)), fun k hk => ?_, ?_, ?_, ?_, ?_, fun k hk => ?_, fun k hk => ?_, ?_, ?_⟩
    · have hrk := ht.r (k := k) (by omega)
      unfold tRl tf
      rw [hkW, mu_row _ _ _ (by omega), yn 114 (by decide), yn 115 (by decide), yn 116 (by decide), yn 117 (by decide), yn 118 (by decide), yn 119 (by decide), yn 120 (by decide)]
      obtain ⟨o1, o2⟩ := h.th k hk
      refine ⟨o1, fun e => ?_⟩
      obtain ⟨o3, o4, o5⟩ := o2 e
      exact ⟨o3, o4, tV_up o5 (by omega) (fun e => Or.inr (by omega))⟩
    · rw [mu_eq, mu_ns _ _ _ (by decide), mu_eq, h.nw.1, h.nw.2, nI_1]
      exact ⟨rfl, rfl⟩
    · rw [mu_ns _ _ _ (by decide), y0 _ (by decide) (by decide)]; exact h.nx
    · rw [mu_ns _ _ _ (by decide), y0 _ (by decide) (by decide)]; exact h.go
    · rw [mu_ns _ _ _ (by decide), y0 _ (by decide) (by decide)]; exact h.ov
    · rw [yn 125 (by decide), yn 126 (by decide), mu_row _ _ _ (by decide), mu_row _ _ _ (by decide)]; exact h.rg k hk
    · rw [yn 127 (by decide), mu_row _ _ _ (by decide)]; exact h.ce k hk
    · exact log_mu h.lg ⟨mu_row _ _ _ (by decide), mu_row _ _ _ (by decide)⟩ (y0 _ (by decide) (by decide)) ⟨yn 129 (by decide), yn 130 (by decide), yn 131 (by decide), yn 132 (by decide)⟩
    · rw [mu_ns _ _ _ (by decide), mu_eq]
      exact ⟨z, z1, by omega, fun _ => ⟨fun e => absurd e hz, fun e => absurd rfl e⟩⟩
theorem sim_cyc {Sh : mS} {X : mI} {G : mP} {Y : mI} {st cnt r x v q a : Nat} {y : Option Nat} {t n m : Nat} {c : Prop} (h : rRel X G Y st cnt r x v q a y t n m c) (hI : cInv Sh X G st cnt) (t31 : t + 1 < 2147483648) (n31 : n + 8 < 2147483648) : ∃ n2, n ≤ n2 ∧ n2 ≤ n + 8 ∧ rRel (cCyc st cnt (X, G)).1 (cCyc st cnt (X, G)).2 (mCyc Y st) st cnt r x v q a y (t + 1) n2 0 True := by
  have hl := h.la.le
  obtain ⟨n2, b1, b2, b3⟩ := sim_down (Y := Y) (by omega) t31 st _ _ _ n (Nat.le_refl _) (cFet_inv hI) (by omega) (sim_fetch h hI.2.1 t31)
  exact ⟨n2, b1, by omega, b3⟩
theorem sim_run {Sh : mS} {st cnt r x v q a : Nat} {y : Option Nat} : ∀ (f : Nat) (X : mI) (G : mP) (Y : mI) (t n : Nat), cInv Sh X G st cnt → t + f < 2147483648 → n + 8 * f < 2147483648 → rRel X G Y st cnt r x v q a y t n 0 False → ∃ t2 n2, t ≤ t2 ∧ t2 ≤ t + f ∧ n ≤ n2 ∧ n2 ≤ n + 8 * f ∧ rRel (cRunF st cnt f (X, G)).1 (cRunF st cnt f (X, G)).2 (mRunF st f Y) st cnt r x v q a y t2 n2 0 False := by
  intro f
  induction f with
  | zero => intro X G Y t n _ _ _ h; exact ⟨t, n, Nat.le_refl _, Nat.le_refl _, Nat.le_refl _, Nat.le_refl _, h⟩
  | succ f ih =>
    intro X G Y t n hI ht hn h
    rw [cRunF, mRunF]
    by_cases ho : Y 100 21 = 0
    · rw [if_pos (show (X, G).1 14 11 = 0 by rw [← ho]; exact h.ov), if_pos ho]
      obtain ⟨n2, b1, b2, b3⟩ := sim_cyc h hI (by omega) (by omega)
      obtain ⟨t3, n3, d1, d2, d3, d4, d5⟩ := ih _ _ _ (t + 1) n2 (cCyc_inv (X, G) hI) (by omega) (by omega) (rRel_weak b3 (Nat.le_refl _) (fun e => e.elim))
      exact ⟨t3, n3, by omega, by omega, by omega, by omega, d5⟩
    · rw [if_neg (show ¬ (X, G).1 14 11 = 0 by intro e; exact ho (by rw [← h.ov]; exact e)), if_neg ho]
      exact ⟨t, n, by omega, by omega, by omega, by omega, h⟩
