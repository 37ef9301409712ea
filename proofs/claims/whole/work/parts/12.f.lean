theorem cAt_r (cnt : Nat) (n : Int32) : cAt cnt n = 8 ∨ 32 ≤ cAt cnt n := by
  unfold cAt
  split <;> omega
theorem rSt_of {X Y X' Y' : mI} {st cnt : Nat} (h : rSt X Y st cnt) (hx : ∀ r, (r = 4 ∨ r = 5 ∨ r = 6 ∨ r = 8 ∨ r = 10 ∨ r = 11 ∨ 32 ≤ r) → X' r = X r) (h0 : Y' 100 2 = Y 100 2 ∧ Y' 100 4 = Y 100 4 ∧ Y' 100 10 = Y 100 10) (hy : ∀ r, (r = 104 ∨ r = 106 ∨ r = 107 ∨ r = 108 ∨ r = 109 ∨ r = 110 ∨ r = 112 ∨ r = 113) → Y' r = Y r) : rSt X' Y' st cnt := by
  have hk : ∀ n, mKind Y' n = mKind Y n := fun n => mKind_of h0.2.2 (hy 106 (by omega)) n
  refine ⟨by rw [hx 4 (by omega)]; exact h.cs, by rw [h0.1]; exact h.ms, fun k hk => by rw [hx 5 (by omega), hy 104 (by omega)]; exact h.sg k hk, by rw [hx 5 (by omega), h0.2.1]; exact h.s7, by rw [hx 6 (by omega)]; exact h.cc, by rw [h0.2.2]; exact h.mc, h.c40, fun n => ?_, fun n => by rw [hk]; exact h.knd n, fun n => ?_, fun k q => by rw [hx 10 (by omega), hy 112 (by omega)]; exact h.bs k q, fun k q => by rw [hx 11 (by omega), hy 113 (by omega)]; exact h.lt k q⟩
  · rw [hk, hx _ (by have := cAt_r cnt n; omega), hy 107 (by omega), hy 108 (by omega), hy 109 (by omega), hy 110 (by omega)]
    exact h.row n
  · rw [hk, hy 107 (by omega), hy 108 (by omega), hy 109 (by omega)]
    exact h.reg n
theorem lay_of {Y Y' : mI} {st r x v q a : Nat} {y : Option Nat} (h : lay Y st r x v q a y) (h0 : Y' 100 4 = Y 100 4) (hy : Y' 104 = Y 104) : lay Y' st r x v q a y := by
  unfold lay at h ⊢
  rw [h0, hy]
  exact h
theorem sim_move {Sh : mS} {X : mI} {G : mP} {Y : mI} {st cnt r x v q a : Nat} {y : Option Nat} {t n : Nat}  {s : Nat} (h : rRel X G Y st cnt r x v q a y t n (s + 1) True) (ht : okT Sh X G) (h1t : 1 ≤ t) (t31 : t < 2147483648) (hs : s + 1 < st) (hp : ¬ Y 115 s = 0) (hn : Y 115 (s + 1) = 0) : rRel (cFire X G st s) (cG7 G st s) (mFire Y st s) st cnt r x v q a y t n s True := by
  have hl := h.la.le
  obtain ⟨p1, p2⟩ := h.th s (by omega)
  obtain ⟨p3, p4, p5⟩ := p2 hp
  have hrow := h.st.row (Y 114 s)
  have hkd := h.st.knd (Y 114 s)
  obtain ⟨-, -, hr, -, -, hq, hpT⟩ := ht.1 s (by omega)
  obtain ⟨T0, T2, T3, T4, T5, T6⟩ := cv5_T (st := st) ht (show s < 8 by omega)
  have hQ0 : X (roG G (thG G s)) 0 = mKind Y (Y 114 s) := by rw [p3]; exact hrow.1
  have hQ4 : ¬ mKind Y (Y 114 s) = 0 → X (roG G (thG G s)) 2 = Y 108 (Y 114 s).toNatClampNeg ∧ X (roG G (thG G s)) 3 = Y 109 (Y 114 s).toNatClampNeg ∧ X (roG G (thG G s)) 4 = Y 110 (Y 114 s).toNatClampNeg := fun e => by rw [p3]; exact hrow.2.2 e
  have c1 : X 5 1 = nI s ↔ r = s := by rw [h.st.sg 1 (by decide), h.la.r, nI_eq (by omega) (by omega)]
  have c2 : X 5 2 = nI s ↔ x = s := by rw [h.st.sg 2 (by decide), h.la.x, nI_eq (by omega) (by omega)]
  have c3 : X 5 3 = nI s ↔ v = s := by rw [h.st.sg 3 (by decide), h.la.v, nI_eq (by omega) (by omega)]
  have c4 : X 5 4 = nI s ↔ q = s := by rw [h.st.sg 4 (by decide), h.la.q, nI_eq (by omega) (by omega)]
  have m1 : nI s = Y 104 1 ↔ r = s := by rw [← h.st.sg 1 (by decide), ← c1]; exact ⟨Eq.symm, Eq.symm⟩
  have m2 : nI s = Y 104 2 ↔ x = s := by rw [← h.st.sg 2 (by decide), ← c2]; exact ⟨Eq.symm, Eq.symm⟩
  have m3 : nI s = Y 104 3 ↔ v = s := by rw [← h.st.sg 3 (by decide), ← c3]; exact ⟨Eq.symm, Eq.symm⟩
  have m4 : nI s = Y 104 4 ↔ q = s := by rw [← h.st.sg 4 (by decide), ← c4]; exact ⟨Eq.symm, Eq.symm⟩
  have cg : cGiv X (mKind Y (Y 114 s)) = nI s ↔ ndO y a (mKind Y (Y 114 s)) = some s := by
    unfold cGiv
    rw [h.st.s7, h.st.sg 5 (by decide), h.la.a]
    cases hy : y with
    | none =>
      rw [h.la.no hy]
      simp only [true_or, if_true, ndO, Option.map_none]
      exact ⟨fun e => absurd e.symm (nI_m1 (by omega)), fun e => by cases e⟩
    | some z =>
      obtain ⟨f1, f2, f3⟩ := h.la.yes z hy
      have f4 := nI_m1 (show z < 2147483648 by omega)
      rw [f1]
      simp only [f4, false_or, ndO, Option.map_some, Option.some.injEq]
      by_cases k5 : mKind Y (Y 114 s) = 5
      · simp only [k5, not_true, if_false, true_and]
        by_cases za : z < a
        · rw [if_pos ((nI_ltI (by omega) (by omega)).mpr za), if_pos za, nI_eq (by omega) (by omega)]
        · rw [if_neg (fun e => za ((nI_ltI (by omega) (by omega)).mp e)), if_neg za, nI_eq (by omega) (by omega)]
      · simp only [k5, not_false_iff, if_true, false_and, if_false]
        rw [nI_eq (by omega) (by omega)]
  -- the thread
  have tv : tV r x (ndO y a (mKind Y (Y 114 s))) (s + 1) (mKind Y (Y 114 s)) (cV5 X G st s (thG G s) 2) (cV5 X G st s (thG G s) 3) (cV5 X G st s (thG G s) 4) (cV5 X G st s (thG G s) 6) (mV5 Y st s 116 s) (mV5 Y st s 117 s) (mV5 Y st s 118 s) (nI t) t (s + 1 < s) := by
    by_cases k0 : mKind Y (Y 114 s) = 0
    · refine tV_fire (q := q) (i := 0) (va := 0) (vb := 0) (cv := 0) ⟨hl.1, by omega⟩ hkd h1t (show s < s + 1 by omega) (by omega) p5 ?_ ?_ ?_ ?_ ?_ ?_ ?_
      · rw [T2, hQ0, k0, if_neg (fun e => absurd e.2 (by decide)), if_neg (fun e => absurd e.2 (by decide))]
      · rw [T3, hQ0, k0, if_neg (fun e => absurd e.2 (by decide)), if_neg (fun e => absurd e.2 (by decide))]
      · rw [T4, hQ0]
        simp only [c4, c2, k0]
        have n5 : ¬ (q = s ∧ (0 : Int32) = 5) := fun e => absurd e.2 (by decide)
        rw [if_neg n5, if_neg n5]
        rfl
      · rw [T6, hQ0, h.nw.1]
        simp only [cg]
      · rw [mv_116]
        simp only [m1, true_and, k0]
        rfl
      · rw [mv_117]
        simp only [m1, true_and, k0]
        rfl
      · rw [mv_118]
        simp only [m2, m4, if_true, k0]
        have n5 : ¬ (q = s ∧ (0 : Int32) = 5) := fun e => absurd e.2 (by decide)
        rw [if_neg n5, if_neg n5]
        rfl
    · obtain ⟨q2, q3, q4⟩ := hQ4 k0
      have hv := h.st.reg _ k0
      refine tV_fire (q := q) (i := Y 110 (Y 114 s).toNatClampNeg) (va := mRead Y st s (Y 108 (Y 114 s).toNatClampNeg)) (vb := mRead Y st s (Y 109 (Y 114 s).toNatClampNeg)) (cv := Y 127 ((mV5 Y st s 116 s + Y 110 (Y 114 s).toNatClampNeg) &&& 63).toNatClampNeg) ⟨hl.1, by omega⟩ hkd h1t (show s < s + 1 by omega) (by omega) p5 ?_ ?_ ?_ ?_ ?_ ?_ ?_
      · rw [T2, hQ0, q2, val_eq h (by omega) hv.2.1]
        simp only [c1]
      · rw [T3, hQ0, q3, val_eq h (by omega) hv.2.2]
        simp only [c1]
      · have e12 : cV5 X G st s (thG G s) 2 = mV5 Y st s 116 s := by
          rw [T2, mv_116, hQ0, q2, val_eq h (by omega) hv.2.1]
          simp only [c1, m1, true_and]
          obtain ⟨w1, -, w3, -⟩ := p5
          by_cases hrs : r = s
          · have := (w3 (by omega)).1
            simp only [hrs, true_and, if_true]
            split
            · rfl
            · exact w1.trans this
          · simp only [hrs, false_and, if_false]
            exact w1
        have hpl : X 17 ((cV5 X G st s (thG G s) 2 + Y 110 (Y 114 s).toNatClampNeg) &&& 63).toNatClampNeg = Y 127 ((mV5 Y st s 116 s + Y 110 (Y 114 s).toNatClampNeg) &&& 63).toNatClampNeg := by rw [e12, h.ce _ (vp_in_nat (in_lt2 (hi := 64) (pl_lt _) (by decide))).2]
        rw [T4, hQ0, q4, hpl]
        simp only [c4, c2]
      · rw [T6, hQ0, h.nw.1]
        simp only [cg]
      · rw [mv_116]
        simp only [m1, true_and]
      · rw [mv_117]
        simp only [m1, true_and]
      · rw [mv_118, if_pos rfl]
        simp only [m2, m4]
  have hbr : cBr X G st s ↔ mBr Y st s := by
    rw [cBr_v ht (by omega), mv_br, hQ0, c3, m3, tv.1, tv.2.1]
  have eS : cFire X G st s = cV5 X G st s := by
    show cF7 (cF6 (cV5 X G st s) (kpO X) s (thG G s) (roG G (thG G s))) st s (thG G s) = _
    unfold cF7 cF6
    rw [if_neg (by omega), cv5_n ht (by omega) (r := 5) (by omega) (by decide), h.st.sg 6 (by decide), h.la.w, if_neg (fun e => by rw [nI_eq (by omega) (by omega)] at e; omega)]
  have eY : mFire Y st s = mF6 (mV5 Y st s) st s (Y 114 s) := by
    show mF6 (mF5 (mV5 Y st s) s (Y 114 s) (mKind Y (Y 114 s))) st s (Y 114 s) = _
    unfold mF5
    rw [mv_n (r := 104) (by decide), h.la.w, if_neg (fun e => by rw [nI_eq (by omega) (by omega)] at e; omega)]
  have hm6 := mF6_move (mV5 Y st s) st s (Y 114 s) (by omega)
  rw [eS, eY]
  generalize hW : mF6 (mV5 Y st s) st s (Y 114 s) = W at *
  have w100 : ∀ k, W 100 k = if mBr Y st s ∧ k = 22 then Y 110 (Y 114 s).toNatClampNeg else Y 100 k := fun k => by rw [hm6, ← mv_100]; simp
  have wn : ∀ r, (r ≠ 100 ∧ r ≠ 114 ∧ r ≠ 115 ∧ r ≠ 116 ∧ r ≠ 117 ∧ r ≠ 118 ∧ r ≠ 119 ∧ r ≠ 120) → W r = Y r := fun r hr => by
    funext k
    rw [hm6, ← mv_n (Y := Y) (st := st) (s := s) (r := r) (by omega)]
    simp [hr]
  have hst : rSt (cV5 X G st s) W st cnt := rSt_of h.st (fun r hr => cv5_n ht (by omega) (by omega) (by omega)) (by simp [w100]) (fun r hr => wn r (by omega))
  have hkW : ∀ n, mKind W n = mKind Y n := fun n => mKind_of (by simp [w100]) (wn 106 (by decide)) n
  refine ⟨hst, lay_of h.la (by simp [w100]) (wn 104 (by decide)), fun k hk => ?_, ?_, ?_, ?_, ?_, fun k hk => ?_, fun k hk => ?_, ?_, ?_⟩
  · have eG : cG7 G st s = mu (mu G 18 s (some (thG G (s + 1)))) 18 (s + 1) (some (thG G s)) := by unfold cG7; rw [if_neg (by omega)]
    have eth : ∀ k, thG (cG7 G st s) k = if k = s + 1 then thG G s else if k = s then thG G (s + 1) else thG G k := fun k => by rw [eG]; exact thG_swap
    have ero : ∀ t, t ≠ 18 → roG (cG7 G st s) t = roG G t := fun t h18 => by unfold roG; rw [eG, mu_na _ _ _ h18, mu_na _ _ _ h18]
    unfold tRl tf
    rw [eth, hkW]
    by_cases k1 : k = s + 1
    · subst k1
      rw [if_pos rfl, ero _ (by omega)]
      have u5 : W 115 (s + 1) = 1 := by rw [hm6]; simp
      have u4 : W 114 (s + 1) = Y 114 s := by rw [hm6]; simp
      have u6 : W 116 (s + 1) = mV5 Y st s 116 s := by rw [hm6]; simp
      have u7 : W 117 (s + 1) = mV5 Y st s 117 s := by rw [hm6]; simp
      have u8 : W 118 (s + 1) = mV5 Y st s 118 s := by rw [hm6]; simp
      have u9 : W 119 (s + 1) = mV5 Y st s 119 s := by rw [hm6]; simp
      have u0 : W 120 (s + 1) = nI t := by rw [hm6, ← h.nw.2]; simp [mv_100]
      rw [u5, u4, u6, u7, u8, u9, u0]
      refine ⟨?_, fun _ => ⟨p3, ?_, tv⟩⟩
      · rw [T0]
        rcases hpT with e | e
        · rw [p1] at e; exact absurd e hp
        · exact e
      · rw [T5, mv_119, hQ0, h.nw.1, h.nw.2, show X (thG G s) 5 = Y 119 s from p4]
        simp only [c4, m4, true_and]
    · rw [if_neg k1]
      by_cases k2 : k = s
      · subst k2
        rw [if_pos rfl]
        have u5 : W 115 k = 0 := by rw [hm6]; simp
        rw [u5]
        refine ⟨?_, fun e => absurd rfl e⟩
        rw [cv5_th ht (by omega) (by omega) (by omega), if_neg (by omega), ← hn]
        exact (h.th (k + 1) hs).1
      · have hrk := ht.r (k := k) (by omega)
        rw [if_neg k2, ero _ (by omega)]
        have uu : ∀ r, W r k = mV5 Y st s r k := fun r => by rw [hm6]; simp [k1, k2]
        have z6 : mV5 Y st s 116 k = Y 116 k := by rw [mv_116, if_neg (fun e => k2 e.1)]
        have z7 : mV5 Y st s 117 k = Y 117 k := by rw [mv_117, if_neg (fun e => k2 e.1)]
        have z8 : mV5 Y st s 118 k = Y 118 k := by rw [mv_118, if_neg k2]
        have z9 : mV5 Y st s 119 k = Y 119 k := by rw [mv_119, if_neg (fun e => k2 e.1)]
        have cth : ∀ f, f ≠ 0 → cV5 X G st s (thG G k) f = X (thG G k) f := fun f hf => by rw [cv5_th ht (by omega) (by omega) k2, if_neg (fun e => hf e.2.1)]
        rw [uu 114, uu 115, uu 116, uu 117, uu 118, uu 119, uu 120, mv_115, z6, z7, z8, z9, mv_n (r := 114) (by decide), mv_n (r := 120) (by decide), cth 2 (by decide), cth 3 (by decide), cth 4 (by decide), cth 5 (by decide), cth 6 (by decide), cv5_th ht (by omega) (by omega) k2]
        obtain ⟨o1, o2⟩ := h.th k hk
        by_cases hcl : mBr Y st s ∧ k < s
        · rw [if_pos hcl, if_pos ⟨hbr.mpr hcl.1, rfl, hcl.2⟩]
          exact ⟨rfl, fun e => absurd rfl e⟩
        · rw [if_neg hcl, if_neg (fun e => hcl ⟨hbr.mp e.1, e.2.2⟩)]
          refine ⟨o1, fun e => ?_⟩
          obtain ⟨o3, o4, o5⟩ := o2 e
          exact ⟨o3, o4, tV_up o5 (Nat.le_refl _) (fun e => Or.inl (by omega))⟩
  · rw [cv5_14 ht (by omega), if_neg (by omega), w100, if_neg (by omega)]
    exact h.nw
  · rw [cv5_14 ht (by omega), w100, h.nx]
    by_cases hb : mBr Y st s
    · rw [if_pos ⟨hbr.mpr hb, rfl⟩, if_pos ⟨hb, rfl⟩]
      refine (hQ4 (fun e => ?_)).2.2
      have := hb.2
      rw [e] at this
      rcases this with e | e
      · exact absurd e (by decide)
      · exact absurd e.1 (by decide)
    · rw [if_neg (fun e => hb (hbr.mp e.1)), if_neg (fun e => hb e.1)]
  · rw [cv5_14 ht (by omega), if_neg (by omega), w100, if_neg (by omega)]
    exact h.go
  · rw [cv5_14 ht (by omega), if_neg (by omega), w100, if_neg (by omega)]
    exact h.ov
  · rw [cv5_n ht (by omega) (by omega) (by decide), cv5_n ht (by omega) (by omega) (by decide), wn 125 (by decide), wn 126 (by decide)]
    exact h.rg k hk
  · rw [cv5_n ht (by omega) (by omega) (by decide), wn 127 (by decide)]
    exact h.ce k hk
  · unfold rLog
    rw [cv5_n ht (by omega) (r := 12) (by omega) (by decide), cv5_n ht (by omega) (r := 13) (by omega) (by decide), w100, if_neg (by omega), wn 129 (by decide), wn 130 (by decide), wn 131 (by decide), wn 132 (by decide)]
    exact h.lg
  · rw [cv5_14 ht (by omega), if_neg (by omega), w100, if_neg (by omega)]
    exact h.sa
