/-! rows that a side leaves alone -/
theorem cFire_hi {Sh : mS} {S : mI} {G : mP} (ht : okT Sh S G) {st s0 x : Nat} (hs : s0 < 8) (hx : cFx x) : cFire S G st s0 x = S x := by
  obtain ⟨V, e, -, hV⟩ := cPh ht (st := st) hs
  have hr := ht.r hs
  rw [e]
  have h6 : cF6 V (kpO S) s0 (thG G s0) (roG G (thG G s0)) x = S x := by
    unfold cF6
    split
    · rw [cFin_n _ _ _ _ (by unfold cFx at hx; omega), hV x hx]
    · exact hV x hx
  unfold cF7
  split
  · rw [mu_row _ _ _ (by unfold cFx at hx; omega), mu_row _ _ _ (by unfold cFx at hx; omega), h6]
  · exact h6
theorem cFetS_hi {Sh : mS} {S : mI} {G : mP} (ht : okT Sh S G) {x : Nat} (hx : cFx x) : cFetS S G x = S x := by
  have hr := ht.r (k := 0) (by decide)
  unfold cFetS
  split
  · rw [mu_row _ _ _ (by unfold cFx at hx; omega), cCome_n (by unfold cFx at hx; omega), mu_row _ _ _ (by unfold cFx at hx; omega)]
  · rw [mu_row _ _ _ (by unfold cFx at hx; omega)]
theorem cDown_hi {Sh : mS} {st cnt x : Nat} (hx : cFx x) : ∀ (k : Nat) (z : mI × mP), k ≤ st → cInv Sh z.1 z.2 st cnt → (cDown st k z).1 x = z.1 x := by
  intro k
  induction k with
  | zero => intro z _ _; rfl
  | succ k ih =>
    intro z hk hI
    have h8 := hI.2.2.2.1.2
    rw [cDown]
    split
    · rw [ih _ (by omega) (cFire_inv hI (by omega))]
      exact cFire_hi hI.2.1 (by omega) hx
    · exact ih _ (by omega) hI
theorem cRunF_hi {Sh : mS} {st cnt x : Nat} (hx : cFx x) : ∀ (f : Nat) (z : mI × mP), cInv Sh z.1 z.2 st cnt → (cRunF st cnt f z).1 x = z.1 x := by
  intro f
  induction f with
  | zero => intro z _; rfl
  | succ f ih =>
    intro z hI
    rw [cRunF]
    split
    · rw [ih _ (cCyc_inv z hI)]
      unfold cCyc
      rw [cDown_hi hx st _ (Nat.le_refl _) (cFet_inv hI)]
      exact cFetS_hi hI.2.1 hx
    · rfl
theorem mFire_lo (Y : mI) (st s : Nat) {x : Nat} (hx : x < 102 ∧ x ≠ 100) : mFire Y st s x = Y x := by
  funext k
  have h5 : mF5 (mV5 Y st s) s (Y 114 s) (mKind Y (Y 114 s)) x = Y x := by
    unfold mF5
    split
    · rw [mCom_n _ _ _ _ (by omega), mv_n (by omega)]
    · rw [mv_n (by omega)]
  show mF6 (mF5 (mV5 Y st s) s (Y 114 s) (mKind Y (Y 114 s))) st s (Y 114 s) x k = _
  by_cases h : s + 1 = st
  · rw [mF6_last _ _ _ _ h, if_neg (by omega), if_neg (by omega), h5]
  · rw [mF6_move _ _ _ _ h, h5]
    have n1 : x ≠ 115 := by omega
    have n2 : x ≠ 114 := by omega
    have n3 : x ≠ 116 := by omega
    have n4 : x ≠ 117 := by omega
    have n5 : x ≠ 118 := by omega
    have n6 : x ≠ 119 := by omega
    have n7 : x ≠ 120 := by omega
    simp [n1, n2, n3, n4, n5, n6, n7]
theorem mFire_21 (Y : mI) (st s : Nat) : mFire Y st s 100 21 = Y 100 21 ∨ mFire Y st s 100 21 = 1 := by
  have e4 : mV5 Y st s 100 21 = Y 100 21 := by rw [mv_100, if_neg (by omega)]
  have h5 : mF5 (mV5 Y st s) s (Y 114 s) (mKind Y (Y 114 s)) 100 21 = Y 100 21 ∨ mF5 (mV5 Y st s) s (Y 114 s) (mKind Y (Y 114 s)) 100 21 = 1 := by
    unfold mF5
    split
    · unfold mCom
      split
      · left; rw [mC1_0 _ _ _ _ (by decide), mu_na _ _ _ (by decide), mu_na _ _ _ (by decide), e4]
      · split
        · left; rw [mC1_0 _ _ _ _ (by decide), mu_ns _ _ _ (by decide), mu_na _ _ _ (by decide), e4]
        · split
          · left; rw [mC1_0 _ _ _ _ (by decide), e4]
          · split
            · right; rw [mu_eq]
            · left; exact e4
    · left; exact e4
  have e6 : mFire Y st s 100 21 = mF5 (mV5 Y st s) s (Y 114 s) (mKind Y (Y 114 s)) 100 21 := by
    show mF6 (mF5 (mV5 Y st s) s (Y 114 s) (mKind Y (Y 114 s))) st s (Y 114 s) 100 21 = _
    by_cases h : s + 1 = st
    · rw [mF6_last _ _ _ _ h, if_neg (by omega), if_neg (by omega)]
    · rw [mF6_move _ _ _ _ h]
      simp
  rw [e6]
  exact h5
theorem mFire_1 (Y : mI) (st s : Nat) : mFire Y st s 100 1 = Y 100 1 := by
  show mF6 (mF5 (mV5 Y st s) s (Y 114 s) (mKind Y (Y 114 s))) st s (Y 114 s) 100 1 = _
  have h5 : mF5 (mV5 Y st s) s (Y 114 s) (mKind Y (Y 114 s)) 100 1 = Y 100 1 := by
    unfold mF5
    split
    · rw [mCom_0 _ _ _ _ (by decide), mv_100, if_neg (by omega)]
    · rw [mv_100, if_neg (by omega)]
  by_cases h : s + 1 = st
  · rw [mF6_last _ _ _ _ h, if_neg (by omega), if_neg (by omega), h5]
  · rw [mF6_move _ _ _ _ h, ← h5]
    simp
theorem mFetch_lo (Y : mI) {x : Nat} (hx : x < 102 ∧ x ≠ 100) : mFetch Y x = Y x ∧ mFetch Y 100 21 = Y 100 21 ∧ mFetch Y 100 1 = Y 100 1 := by
  refine ⟨?_, ?_, ?_⟩
  · unfold mFetch
    split
    · rw [mu_row _ _ _ (by omega), mu_row _ _ _ (by omega), mu_row _ _ _ (by omega), mu_row _ _ _ (by omega), mu_row _ _ _ (by omega), mu_row _ _ _ (by omega), mu_row _ _ _ (by omega), mu_row _ _ _ (by omega), mu_row _ _ _ (by omega), mu_row _ _ _ (by omega)]
    · rw [mu_row _ _ _ (by omega), mu_row _ _ _ (by omega)]
  · unfold mFetch
    split
    · simp [mu_at]
    · simp [mu_at]
  · unfold mFetch
    split
    · simp [mu_at]
    · simp [mu_at]
theorem mDown_lo (st : Nat) : ∀ (k : Nat) (Y : mI), (∀ x, x < 102 ∧ x ≠ 100 → mDown st k Y x = Y x) ∧ mDown st k Y 100 1 = Y 100 1 ∧ (Y 100 21 = 0 ∨ Y 100 21 = 1 → mDown st k Y 100 21 = 0 ∨ mDown st k Y 100 21 = 1) := by
  intro k
  induction k with
  | zero => intro Y; exact ⟨fun _ _ => rfl, rfl, id⟩
  | succ k ih =>
    intro Y
    rw [mDown]
    obtain ⟨i1, i3, i2⟩ := ih (mStg Y st k)
    have hs : (∀ x, x < 102 ∧ x ≠ 100 → mStg Y st k x = Y x) ∧ mStg Y st k 100 1 = Y 100 1 ∧ (Y 100 21 = 0 ∨ Y 100 21 = 1 → mStg Y st k 100 21 = 0 ∨ mStg Y st k 100 21 = 1) := by
      unfold mStg
      split
      · refine ⟨fun x hx => mFire_lo Y st k hx, mFire_1 Y st k, fun h => ?_⟩
        rcases mFire_21 Y st k with e | e
        · rw [e]; exact h
        · exact Or.inr e
      · exact ⟨fun _ _ => rfl, rfl, id⟩
    exact ⟨fun x hx => by rw [i1 x hx]; exact hs.1 x hx, by rw [i3]; exact hs.2.1, fun h => i2 (hs.2.2 h)⟩
theorem mRunF_lo (st : Nat) : ∀ (f : Nat) (Y : mI), (∀ x, x < 102 ∧ x ≠ 100 → mRunF st f Y x = Y x) ∧ mRunF st f Y 100 1 = Y 100 1 ∧ (Y 100 21 = 0 ∨ Y 100 21 = 1 → mRunF st f Y 100 21 = 0 ∨ mRunF st f Y 100 21 = 1) := by
  intro f
  induction f with
  | zero => intro Y; exact ⟨fun _ _ => rfl, rfl, id⟩
  | succ f ih =>
    intro Y
    rw [mRunF]
    split
    · obtain ⟨i1, i3, i2⟩ := ih (mCyc Y st)
      obtain ⟨d1, d3, d2⟩ := mDown_lo st st (mFetch Y)
      refine ⟨fun x hx => ?_, ?_, fun h => i2 (d2 (by rw [(mFetch_lo Y (x := 0) (by decide)).2.1]; exact h))⟩
      · rw [i1 x hx]
        show mDown st st (mFetch Y) x = _
        rw [d1 x hx, (mFetch_lo Y hx).1]
      · rw [i3]
        show mDown st st (mFetch Y) 100 1 = _
        rw [d3, (mFetch_lo Y (x := 0) (by decide)).2.2]
    · exact ⟨fun _ _ => rfl, rfl, id⟩
theorem gcl_run {Sh : mS} {st cnt : Nat} : ∀ (f : Nat) (z : mI × mP), cInv Sh z.1 z.2 st cnt → gcl Sh z.2 ∧ okM Sh z.2 → gcl Sh (cRunF st cnt f z).2 ∧ okM Sh (cRunF st cnt f z).2 := by
  have okM_mu : ∀ {G : mP} (r k : Nat) (v : Option Nat), okM Sh G → r ≠ 100 → okM Sh (mu G r k v) := fun r k v h hr => ⟨h.1, fun k2 q2 e => by rw [mu_na _ _ _ (fun e => hr e.symm)]; exact h.2 k2 q2 e⟩
  have dn : ∀ (k : Nat) (z : mI × mP), k ≤ st → cInv Sh z.1 z.2 st cnt → gcl Sh z.2 ∧ okM Sh z.2 → gcl Sh (cDown st k z).2 ∧ okM Sh (cDown st k z).2 := by
    intro k
    induction k with
    | zero => intro z _ _ h; exact h
    | succ k ih =>
      intro z hk hI h
      have h8 := hI.2.2.2.1.2
      rw [cDown]
      split
      · refine ih _ (by omega) (cFire_inv hI (by omega)) ?_
        show gcl Sh (cG7 z.2 st k) ∧ okM Sh (cG7 z.2 st k)
        unfold cG7
        split
        · exact h
        · have s1 : Sh (thG z.2 k) ≠ none := by rw [hI.2.1.t (by omega)]; exact Option.some_ne_none _
          have s2 : Sh (thG z.2 (k + 1)) ≠ none := by rw [hI.2.1.t (by omega)]; exact Option.some_ne_none _
          exact ⟨(h.1.put 18 k s2).put 18 (k + 1) s1, okM_mu _ _ _ (okM_mu _ _ _ h.2 (by decide)) (by decide)⟩
      · exact ih _ (by omega) hI h
  intro f
  induction f with
  | zero => intro z _ h; exact h
  | succ f ih =>
    intro z hI h
    rw [cRunF]
    split
    · refine ih _ (cCyc_inv z hI) ?_
      unfold cCyc
      refine dn st _ (Nat.le_refl _) (cFet_inv hI) ?_
      show gcl Sh (cFetG z.1 z.2 cnt) ∧ okM Sh (cFetG z.1 z.2 cnt)
      unfold cFetG
      split
      · have hr := hI.2.1.r (k := 0) (by decide)
        exact ⟨h.1.put _ _ (by rw [cAt_sh hI]; exact Option.some_ne_none _), okM_mu _ _ _ h.2 (by omega)⟩
      · exact h
    · exact h
/-- run, on both sides -/
theorem op_run {Sh : mS} {X : mI} {G : mP} {Y : mI} {B st cnt r x v q a : Nat} {y : Option Nat} {t n : Nat} (h : jJ Sh X G Y B st cnt r x v q a y t n) {N : Nat} (hN : N ≤ 3000) (hB : B + 3000 < 100000000) : ∃ t2 n2, jJ Sh (cRunF st cnt N (X, G)).1 (cRunF st cnt N (X, G)).2 (mRunF st N Y) (B + 3000) st cnt r x v q a y t2 n2 := by
  have hb := h.bd
  obtain ⟨t2, n2, b1, b2, b3, b4, b5⟩ := sim_run N X G Y t n h.ci (by omega) (by omega) h.re
  obtain ⟨P, g, c1, c2, c3⟩ := h.ch
  obtain ⟨g2, d1, d2, d3⟩ := ch_run c1 N Y g c2 (by omega)
  obtain ⟨k1, k2⟩ := gcl_run N (X, G) h.ci ⟨h.gc, h.om⟩
  have h32 : (Y 100 32).toInt = n := by rw [h.re.lg.2.1, i_nI (by omega)]
  refine ⟨t2, n2, cRunF_inv N (X, G) h.ci, k2, k1, h.fr, h.s2, b5, (mRunF_ok N Y h.mo (by omega) (by omega)).1, ⟨P, g2, c1, d3, by omega⟩, ?_, (mRunF_lo st N Y).2.2 h.ov, by omega⟩
  rw [cRunF_hi (x := 0) (by unfold cFx; decide) N (X, G) h.ci, cRunF_hi (x := 1) (by unfold cFx; decide) N (X, G) h.ci, (mRunF_lo st N Y).2.1, (mRunF_lo st N Y).1 101 (by decide)]
  exact h.tx
