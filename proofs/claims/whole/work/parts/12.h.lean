theorem sim_last {Sh : mS} {X : mI} {G : mP} {Y : mI} {st cnt r x v q a : Nat} {y : Option Nat} {t n : Nat}  {s : Nat} (h : rRel X G Y st cnt r x v q a y t n (s + 1) True) (ht : okT Sh X G) (t31 : t < 2147483648) (hn1 : n + 1 < 2147483648) (hs : s + 1 = st) (hp : ¬ Y 115 s = 0) : ∃ n2, n ≤ n2 ∧ n2 ≤ n + 1 ∧ rRel (cFire X G st s) (cG7 G st s) (mFire Y st s) st cnt r x v q a y t n2 s True := by
  have hl := h.la.le
  obtain ⟨p1, p2⟩ := h.th s (by omega)
  obtain ⟨p3, p4, p5⟩ := p2 hp
  have hrow := h.st.row (Y 114 s)
  have hkd := h.st.knd (Y 114 s)
  obtain ⟨-, -, hr, -, -, hq, hpT⟩ := ht.1 s (by omega)
  obtain ⟨T0, T2, T3, T4, T5, T6⟩ := cv5_T (st := st) ht (show s < 8 by omega)
  have c1 : ¬ X 5 1 = nI s := by rw [h.st.sg 1 (by decide), h.la.r, nI_eq (by omega) (by omega)]; omega
  have c2 : ¬ X 5 2 = nI s := by rw [h.st.sg 2 (by decide), h.la.x, nI_eq (by omega) (by omega)]; omega
  have c3 : ¬ X 5 3 = nI s := by rw [h.st.sg 3 (by decide), h.la.v, nI_eq (by omega) (by omega)]; omega
  have c4 : ¬ X 5 4 = nI s := by rw [h.st.sg 4 (by decide), h.la.q, nI_eq (by omega) (by omega)]; omega
  have c6 : X 5 6 = nI s := by rw [h.st.sg 6 (by decide), h.la.w, show st - 1 = s by omega]
  have m1 : ¬ nI s = Y 104 1 := fun e => c1 (by rw [h.st.sg 1 (by decide)]; exact e.symm)
  have m2 : ¬ nI s = Y 104 2 := fun e => c2 (by rw [h.st.sg 2 (by decide)]; exact e.symm)
  have m3 : ¬ nI s = Y 104 3 := fun e => c3 (by rw [h.st.sg 3 (by decide)]; exact e.symm)
  have m4 : ¬ nI s = Y 104 4 := fun e => c4 (by rw [h.st.sg 4 (by decide)]; exact e.symm)
  have m6 : nI s = Y 104 6 := by rw [← h.st.sg 6 (by decide)]; exact c6.symm
  have nb : ¬ cBr X G st s := fun e => c3 e.1
  rw [if_neg (fun e => c1 e.1)] at T2 T3
  rw [if_neg (fun e => c4 e.1), if_neg c2] at T4
  rw [if_neg (fun e => c4 e.1)] at T5
  have vn : ∀ r, r < 24 ∨ 32 ≤ r → cV5 X G st s r = X r := fun r hr => by
    by_cases e : r = 14
    · subst e; funext f; rw [cv5_14 ht (by omega), if_neg (fun e => nb e.1)]
    · exact cv5_n ht (by omega) hr e
  have vth : ∀ k, k < 8 → k ≠ s → ∀ f, cV5 X G st s (thG G k) f = X (thG G k) f := fun k hk hks f => by rw [cv5_th ht (by omega) hk hks, if_neg (fun e => nb e.1)]
  have eMV : mV5 Y st s = Y := by
    funext r k
    by_cases e0 : r = 100
    · subst e0; rw [mv_100, if_neg (fun e => m3 e.1.1)]
    by_cases e1 : r = 115
    · subst e1; rw [mv_115, if_neg (fun e => m3 e.1.1)]
    by_cases e2 : r = 116
    · subst e2; rw [mv_116, if_neg (fun e => m1 e.2)]
    by_cases e3 : r = 117
    · subst e3; rw [mv_117, if_neg (fun e => m1 e.2)]
    by_cases e4 : r = 118
    · subst e4
      rw [mv_118]
      by_cases e : k = s
      · rw [if_pos e, if_neg (fun e => m4 e.1), if_neg m2, e]
      · rw [if_neg e]
    by_cases e5 : r = 119
    · subst e5; rw [mv_119, if_neg (fun e => m4 e.2.1)]
    rw [mv_n ⟨e0, e1, e2, e3, e4, e5⟩]
  have hkp : kpO X = min n 1000 := by
    unfold kpO
    rw [h.lg.2.2.1, nI_clamp (by omega)]
  have eS : cFire X G st s = mu (mu (cFin (cV5 X G st s) (min n 1000) (thG G s) (roG G (thG G s))) (thG G s) 0 0) 14 10 (cFin (cV5 X G st s) (min n 1000) (thG G s) (roG G (thG G s)) 14 10 + 1) := by
    show cF7 (cF6 (cV5 X G st s) (kpO X) s (thG G s) (roG G (thG G s))) st s (thG G s) = _
    unfold cF7 cF6
    rw [if_pos hs, vn 5 (by omega), if_pos c6, hkp]
  have eY : mFire Y st s = mF6 (mCom Y s (Y 114 s) (mKind Y (Y 114 s))) st s (Y 114 s) := by
    show mF6 (mF5 (mV5 Y st s) s (Y 114 s) (mKind Y (Y 114 s))) st s (Y 114 s) = _
    rw [eMV]
    unfold mF5
    rw [if_pos m6]
  have eG : cG7 G st s = G := by unfold cG7; rw [if_pos hs]
  have hm6 := mF6_last (mCom Y s (Y 114 s) (mKind Y (Y 114 s))) st s (Y 114 s) hs
  obtain ⟨w1, w2, w3, w4, w5, w6, w7⟩ := p5
  have hQr : ∀ f, cV5 X G st s (roG G (thG G s)) f = X (cAt cnt (Y 114 s)) f := fun f => by rw [vn _ (by omega), p3]
  obtain ⟨n2, b1, b2, b3, b4, b5, b6, b7, b8⟩ := sim_com (V := cV5 X G st s) (Y := Y) (s := s) (T := thG G s) (Q := roG G (thG G s)) (t := t) (n := n) (kd := mKind Y (Y 114 s)) hkd hn1 t31 (by rw [hQr]; exact hrow.1) (fun e => by rw [hQr, hQr]; exact ⟨hrow.2.1, (hrow.2.2 e).2.2, (h.st.reg _ e).1⟩) (by rw [T2]; exact w1) (fun e6 e8 => by rw [T4]; exact w5 e6 e8) (fun e => by rw [T4]; exact (w6 (by omega)).1 e) (fun e => by rw [T4]; exact (w6 (by omega)).2 e) (by rw [vn 14 (by omega)]; exact h.nw) (by rw [vn 14 (by omega)]; exact h.ov) (fun k hk => by rw [vn 16 (by omega), vn 19 (by omega)]; exact h.rg k hk) (fun k hk => by rw [vn 17 (by omega)]; exact h.ce k hk) (log_mu h.lg ⟨vn 12 (by omega), vn 13 (by omega)⟩ rfl ⟨rfl, rfl, rfl, rfl⟩) (by rw [vn 14 (by omega)]; exact h.sa)
  refine ⟨n2, b1, b2, ?_⟩
  rw [eS, eY, eG]
  generalize hU : cFin (cV5 X G st s) (min n 1000) (thG G s) (roG G (thG G s)) = U at *
  have uN : ∀ r, r ≠ 14 ∧ r ≠ 17 ∧ r ≠ 16 ∧ r ≠ 19 ∧ r ≠ 12 ∧ r ≠ 13 → U r = cV5 X G st s r := fun r hr => by rw [← hU]; exact cFin_n _ _ _ _ hr
  generalize hM : mCom Y s (Y 114 s) (mKind Y (Y 114 s)) = M at *
  have mN : ∀ r, (r ≠ 100 ∧ r ≠ 125 ∧ r ≠ 126 ∧ r ≠ 127 ∧ r ≠ 129 ∧ r ≠ 130 ∧ r ≠ 131 ∧ r ≠ 132) → M r = Y r := fun r hr => by rw [← hM]; exact mCom_n _ _ _ _ hr
  have m0 : ∀ f, (f ≠ 32 ∧ f ≠ 27 ∧ f ≠ 21) → M 100 f = Y 100 f := fun f hf => by rw [← hM]; exact mCom_0 _ _ _ _ hf
  generalize hW : mF6 M st s (Y 114 s) = W at *
  have w100 : ∀ k, k ≠ 23 → W 100 k = M 100 k := fun k hk => by rw [hm6, if_neg (fun e => hk e.2), if_neg (by omega)]
  have wn : ∀ r, r ≠ 100 → r ≠ 115 → W r = M r := fun r h1 h2 => by funext k; rw [hm6, if_neg (fun e => h1 e.1), if_neg (fun e => h2 e.1)]
  generalize hX : mu (mu U (thG G s) 0 0) 14 10 (U 14 10 + 1) = X2
  have xn : ∀ r, r ≠ 14 → r ≠ thG G s → X2 r = U r := fun r h1 h2 => by rw [← hX, mu_row _ _ _ h1, mu_row _ _ _ h2]
  have x14 : ∀ f, f ≠ 10 → X2 14 f = U 14 f := fun f hf => by rw [← hX, mu_ns _ _ _ hf, mu_na _ _ _ (by omega)]
  have hst : rSt X2 W st cnt := rSt_of h.st (fun r hr => by rw [xn r (by omega) (by omega), uN r (by omega), vn r (by omega)]) ⟨by rw [w100 _ (by decide), m0 _ (by decide)], by rw [w100 _ (by decide), m0 _ (by decide)], by rw [w100 _ (by decide), m0 _ (by decide)]⟩ (fun r hr => by rw [wn r (by omega) (by omega), mN r (by omega)])
  have hkW : ∀ n, mKind W n = mKind Y n := fun n => mKind_of (by rw [w100 _ (by decide), m0 _ (by decide)]) (by rw [wn 106 (by decide) (by decide), mN 106 (by decide)]) n
  refine ⟨hst, lay_of h.la (by rw [w100 _ (by decide), m0 _ (by decide)]) (by rw [wn 104 (by decide) (by decide), mN 104 (by decide)]), fun k hk => ?_, ?_, ?_, ?_, ?_, fun k hk => ?_, fun k hk => ?_, ?_, ?_⟩
  · unfold tRl tf
    rw [hkW]
    by_cases ks : k = s
    · subst ks
      have u5 : W 115 k = 0 := by rw [hm6, if_neg (by omega), if_pos ⟨rfl, rfl⟩]
      rw [u5]
      exact ⟨by rw [← hX, mu_na _ _ _ (by omega), mu_eq], fun e => absurd rfl e⟩
    · have hrk := ht.r (k := k) (by omega)
      have hne : thG G k ≠ thG G s := fun e => ks (ht.2 k s (by omega) (by omega) e)
      have xk : ∀ f, X2 (thG G k) f = X (thG G k) f := fun f => by rw [xn _ (by omega) hne, uN _ (by omega), vth k (by omega) ks]
      have u5 : W 115 k = Y 115 k := by rw [hm6, if_neg (by omega), if_neg (fun e => ks e.2), mN 115 (by decide)]
      rw [xk, xk, xk, xk, xk, xk, u5, wn 114 (by decide) (by decide), wn 116 (by decide) (by decide), wn 117 (by decide) (by decide), wn 118 (by decide) (by decide), wn 119 (by decide) (by decide), wn 120 (by decide) (by decide), mN 114 (by decide), mN 116 (by decide), mN 117 (by decide), mN 118 (by decide), mN 119 (by decide), mN 120 (by decide)]
      obtain ⟨o1, o2⟩ := h.th k hk
      refine ⟨o1, fun e => ?_⟩
      obtain ⟨o3, o4, o5⟩ := o2 e
      exact ⟨o3, o4, tV_up o5 (Nat.le_refl _) (fun e => Or.inl (by omega))⟩
  · rw [x14 _ (by decide), w100 _ (by decide), b3 _ (by decide) (by decide), vn 14 (by omega), m0 _ (by decide)]
    exact h.nw
  · rw [x14 _ (by decide), w100 _ (by decide), b3 _ (by decide) (by decide), vn 14 (by omega), m0 _ (by decide)]
    exact h.nx
  · rw [hm6, if_pos ⟨rfl, rfl⟩, ← hX, mu_eq, b3 _ (by decide) (by decide), vn 14 (by omega), m0 _ (by decide), h.go]
  · rw [x14 _ (by decide), w100 _ (by decide)]
    exact b4
  · rw [xn 16 (by decide) (by omega), xn 19 (by decide) (by omega), wn 125 (by decide) (by decide), wn 126 (by decide) (by decide)]
    exact b5 k hk
  · rw [xn 17 (by decide) (by omega), wn 127 (by decide) (by decide)]
    exact b6 k hk
  · exact log_mu b7 ⟨xn 12 (by decide) (by omega), xn 13 (by decide) (by omega)⟩ (w100 _ (by decide)) ⟨wn 129 (by decide) (by decide), wn 130 (by decide) (by decide), wn 131 (by decide) (by decide), wn 132 (by decide) (by decide)⟩
  · rw [x14 _ (by decide), w100 _ (by decide)]
    exact b8
theorem rRel_weak {X : mI} {G : mP} {Y : mI} {st cnt r x v q a : Nat} {y : Option Nat} {t n m : Nat} {c : Prop} (h : rRel X G Y st cnt r x v q a y t n m c) {m2 : Nat} {c2 : Prop} (hm : m2 ≤ m) (hc : c2 → c) : rRel X G Y st cnt r x v q a y t n m2 c2 := by
  refine ⟨h.st, h.la, fun k hk => ?_, h.nw, h.nx, h.go, h.ov, h.rg, h.ce, h.lg, ?_⟩
  · obtain ⟨o1, o2⟩ := h.th k hk
    refine ⟨o1, fun e => ?_⟩
    obtain ⟨o3, o4, o5⟩ := o2 e
    exact ⟨o3, o4, tV_up o5 (Nat.le_refl _) (fun e => Or.inl (by omega))⟩
  · obtain ⟨z, z1, z2, z3⟩ := h.sa
    exact ⟨z, z1, z2, fun e => z3 (hc e)⟩
theorem sim_stage {Sh : mS} {X : mI} {G : mP} {Y : mI} {st cnt r x v q a : Nat} {y : Option Nat} {t n : Nat}  {s : Nat} (h : rRel X G Y st cnt r x v q a y t n (s + 1) True) (ht : okT Sh X G) (h1t : 1 ≤ t) (t31 : t < 2147483648) (hn1 : n + 1 < 2147483648) (hs : s < st) : ∃ n2, n ≤ n2 ∧ n2 ≤ n + 1 ∧ rRel (if ¬ tf X G s 0 = 0 ∧ cMay X G st s = true then (cFire X G st s, cG7 G st s) else (X, G)).1 (if ¬ tf X G s 0 = 0 ∧ cMay X G st s = true then (cFire X G st s, cG7 G st s) else (X, G)).2 (mStg Y st s) st cnt r x v q a y t n2 s True := by
  have hp := (h.th s hs).1
  unfold mStg
  by_cases hf : ¬ Y 115 s = 0 ∧ mFires Y st s = true
  · have hm := may_eq h trivial t31 hs hf.1
    rw [if_pos ⟨by rw [hp]; exact hf.1, by rw [hm]; exact hf.2⟩, if_pos hf]
    by_cases hl : s + 1 = st
    · exact sim_last h ht t31 hn1 hl hf.1
    · have hnx : Y 115 (s + 1) = 0 := by
        have := hf.2
        unfold mFires at this
        by_cases e : s + 1 < st ∧ ¬ Y 115 (s + 1) = 0
        · rw [if_pos e] at this; cases this
        · exact Decidable.byContradiction fun q => e ⟨by omega, q⟩
      exact ⟨n, Nat.le_refl _, by omega, sim_move h ht h1t t31 (by omega) hf.1 hnx⟩
  · rw [if_neg hf, if_neg (fun e => hf ?_)]
    · exact ⟨n, Nat.le_refl _, by omega, rRel_weak h (by omega) id⟩
    · have e1 : ¬ Y 115 s = 0 := by rw [← hp]; exact e.1
      exact ⟨e1, by rw [← may_eq h trivial t31 hs e1]; exact e.2⟩
theorem sim_down {Sh : mS} {Y : mI} {st cnt r x v q a : Nat} {y : Option Nat} {t : Nat} (h1t : 1 ≤ t) (t31 : t < 2147483648) : ∀ (k : Nat) (X : mI) (G : mP) (Y : mI) (n : Nat), k ≤ st → cInv Sh X G st cnt → n + k < 2147483648 → rRel X G Y st cnt r x v q a y t n k True → ∃ n2, n ≤ n2 ∧ n2 ≤ n + k ∧ rRel (cDown st k (X, G)).1 (cDown st k (X, G)).2 (mDown st k Y) st cnt r x v q a y t n2 0 True := by
  intro k
  induction k with
  | zero => intro X G Y n _ _ _ h; exact ⟨n, Nat.le_refl _, Nat.le_refl _, h⟩
  | succ k ih =>
    intro X G Y n hk hI hn h
    obtain ⟨n2, b1, b2, b3⟩ := sim_stage h hI.2.1 h1t t31 (by omega) (by omega)
    rw [cDown, mDown]
    have hI2 : cInv Sh (if ¬ tf X G k 0 = 0 ∧ cMay X G st k = true then (cFire X G st k, cG7 G st k) else (X, G)).1 (if ¬ tf X G k 0 = 0 ∧ cMay X G st k = true then (cFire X G st k, cG7 G st k) else (X, G)).2 st cnt := by
      split
      · exact cFire_inv hI (by omega)
      · exact hI
    obtain ⟨n3, d1, d2, d3⟩ := ih _ _ _ n2 (by omega) hI2 (by omega) b3
    exact ⟨n3, by omega, by omega, d3⟩
