section AN
variable {Sh : mS} {X : mI} {G : mP}
theorem cAnew_th (ht : okT Sh X G) {k : Nat} (hk : k < 8) : cAnew X G (thG G k) 0 = 0 := by
  have hr := ht.r hk
  unfold cAnew
  rw [mu_na _ _ _ (by omega), mu_na _ _ _ (by omega), mu_na _ _ _ (by omega), mu_na _ _ _ (by omega), mu_na _ _ _ (by omega), mFl_n _ _ _ _ (by omega), mu_na _ _ _ (by omega), mu_na _ _ _ (by omega), mCpy_n _ _ _ _ (by omega), mFl_n _ _ _ _ (by omega), cOut_th ht X hk 8 (Nat.le_refl _), if_pos hk]
theorem cAnew_16 {k : Nat} (hk : k < 8) : cAnew X G 16 k = 0 := by
  unfold cAnew
  rw [mu_na _ _ _ (by decide), mu_na _ _ _ (by decide), mu_na _ _ _ (by decide), mu_na _ _ _ (by decide), mu_na _ _ _ (by decide), mFl_n _ _ _ _ (by decide), mu_na _ _ _ (by decide), mu_na _ _ _ (by decide), mCpy_n _ _ _ _ (by decide)]
  simp [mFl, hk]
theorem cAnew_19 {k : Nat} (hk : k < 8) : cAnew X G 19 k = 0 := by
  unfold cAnew
  rw [mu_na _ _ _ (by decide), mu_na _ _ _ (by decide), mu_na _ _ _ (by decide), mu_na _ _ _ (by decide), mu_na _ _ _ (by decide)]
  simp [mFl, hk]
theorem cAnew_17 (ht : okT Sh X G) {k : Nat} (hk : k < 64) : cAnew X G 17 k = X 10 k := by
  unfold cAnew
  rw [mu_na _ _ _ (by decide), mu_na _ _ _ (by decide), mu_na _ _ _ (by decide), mu_na _ _ _ (by decide), mu_na _ _ _ (by decide), mFl_n _ _ _ _ (by decide), mu_na _ _ _ (by decide), mu_na _ _ _ (by decide)]
  have e : mFl (cOut X G 8) 16 8 0 10 = X 10 := by rw [mFl_n _ _ _ _ (by decide)]; exact cOut_n ht X (by decide) 8 (Nat.le_refl _)
  show (if 17 = 17 ∧ k < 64 then mFl (cOut X G 8) 16 8 0 10 k else _) = _
  rw [if_pos ⟨rfl, hk⟩, e]
theorem cAnew_12 : cAnew X G 12 1 = 0 ∧ cAnew X G 12 2 = 0 := by
  unfold cAnew
  refine ⟨?_, ?_⟩
  · rw [mu_na _ _ _ (by decide), mu_na _ _ _ (by decide), mu_na _ _ _ (by decide), mu_na _ _ _ (by decide), mu_na _ _ _ (by decide), mFl_n _ _ _ _ (by decide), mu_ns _ _ _ (by decide), mu_eq]
  · rw [mu_na _ _ _ (by decide), mu_na _ _ _ (by decide), mu_na _ _ _ (by decide), mu_na _ _ _ (by decide), mu_na _ _ _ (by decide), mFl_n _ _ _ _ (by decide), mu_eq]
theorem cAnew_14 : cAnew X G 14 7 = 0 ∧ cAnew X G 14 8 = 0 ∧ cAnew X G 14 9 = 0 ∧ cAnew X G 14 10 = 0 ∧ cAnew X G 14 11 = 0 := by
  unfold cAnew
  simp [mu_at]
end AN
theorem mAnew_n (Y : mI) {r : Nat} (h : r ≠ 100 ∧ r ≠ 115 ∧ r ≠ 125 ∧ r ≠ 126 ∧ r ≠ 127) : mAnew Y r = Y r := by
  funext k
  simp [mAn, h]
theorem mAnew_z (Y : mI) {r k : Nat} (h : r = 115 ∨ r = 125 ∨ r = 126) (hk : k < 8) : mAnew Y r k = 0 := by
  unfold mAnew mAn
  rw [if_neg (by omega), if_pos ⟨h, hk⟩]
theorem mAnew_c (Y : mI) {k : Nat} (hk : k < 64) : mAnew Y 127 k = Y 112 k := by
  unfold mAnew mAn
  rw [if_neg (by omega), if_neg (by omega), if_pos ⟨rfl, hk⟩]
theorem mAnew_0z (Y : mI) {k : Nat} (h : k = 20 ∨ k = 21 ∨ k = 22 ∨ k = 23 ∨ k = 32) : mAnew Y 100 k = 0 := by
  unfold mAnew mAn
  rw [if_pos ⟨rfl, h⟩]
/-- both begin anew -/
theorem jJ_anew {Sh : mS} {X : mI} {G : mP} {Y : mI} {B st cnt r x v q a : Nat} {y : Option Nat} (hw : okC Sh G) (ht : okT Sh X G) (om : okM Sh G) (gc : gcl Sh G) (fr : ∀ j, cnt ≤ j → j < 41 → Sh (32 + j) = none) (s2 : ∀ r, Sh r = some (0, 2, 0) → r < 72) (hr : ∀ j, j < cnt → G 7 j = some (32 + j) ∧ Sh (32 + j) = some (0, 2, 0)) (hi : ∀ r, Sh r = some (0, 2, 0) → iD (X r 0) (X r 1)) (hl : ∀ r, Sh r = some (0, 2, 0) → r = 8 ∨ 32 ≤ r) (hs : rSt X Y st cnt) (la : lay Y st r x v q a y) (h27 : Y 100 27 = 0 ∨ Y 100 27 = 1) (tx : ∃ sg : Nat, sg ≤ 30 ∧ X 0 1 = nI sg ∧ Y 100 1 = nI sg ∧ ∀ k, k < 30 → X 1 k = Y 101 k) : jJ Sh (cAnew X G) G (mAnew Y) B st cnt r x v q a y 0 0 := by
  have hle := la.le
  have xn : ∀ r, (r < 24 ∨ 32 ≤ r) ∧ r ≠ 14 ∧ r ≠ 16 ∧ r ≠ 17 ∧ r ≠ 12 ∧ r ≠ 19 → cAnew X G r = X r := fun r h => cAnew_n ht h
  have y0 : ∀ k, k ≠ 20 ∧ k ≠ 21 ∧ k ≠ 22 ∧ k ≠ 23 ∧ k ≠ 32 → mAnew Y 100 k = Y 100 k := fun k h => mAnew_0 Y h
  have yn : ∀ r, (r ≠ 100 ∧ r ≠ 115 ∧ r ≠ 125 ∧ r ≠ 126 ∧ r ≠ 127) → mAnew Y r = Y r := fun r h => mAnew_n Y h
  have hst : rSt (cAnew X G) (mAnew Y) st cnt := rSt_of hs (fun r hr => xn r (by omega)) ⟨y0 _ (by decide), y0 _ (by decide), y0 _ (by decide)⟩ (fun r hr => yn r (by omega))
  have hla : lay (mAnew Y) st r x v q a y := lay_of la (y0 _ (by decide)) (yn 104 (by decide))
  obtain ⟨t7, t8, t9, t10, t11⟩ := cAnew_14 (X := X) (G := G)
  obtain ⟨t1, t2⟩ := cAnew_12 (X := X) (G := G)
  have mo : mOk (mAnew Y) st cnt := ⟨hst.ms, by omega, by omega, hst.mc, hst.c40, by rw [y0 _ (by decide)]; exact h27, hst.reg⟩
  have hok : okT Sh (cAnew X G) G := ⟨fun k hk => by
    obtain ⟨a1, a2, a3, a4, a5, a6, -⟩ := ht.1 k hk
    exact ⟨a1, a2, a3, a4, a5, a6, Or.inl (cAnew_th ht hk)⟩, ht.2⟩
  refine ⟨⟨hw, hok, hst.cs, ⟨by omega, by omega⟩, hst.cc, hst.c40, hr, fun r h2 => ?_, hl, 0, by decide, t1⟩, om, gc, fr, s2, ?_, mo, ⟨mAnew Y, 0, ⟨hst.knd, hst.reg⟩, ?_, Nat.zero_le _⟩, ?_, Or.inl (mAnew_0z Y (by decide)), Nat.zero_le _, Nat.zero_le _⟩
  · have := hl r h2
    rw [xn r (by omega)]
    exact hi r h2
  · refine ⟨hst, hla, fun k hk => ⟨?_, fun e => absurd (mAnew_z Y (by decide) (by omega)) e⟩, ⟨t9, mAnew_0z Y (by decide)⟩, ?_, ?_, ?_, fun k hk => ⟨?_, ?_⟩, fun k hk => ?_, ⟨t2, mAnew_0z Y (by decide), t1, fun j hj => absurd hj (by omega)⟩, 0, t7, Nat.le_refl _, fun e => e.elim⟩
    · show cAnew X G (thG G k) 0 = _
      rw [cAnew_th ht (by omega), mAnew_z Y (by decide) (by omega)]
    · rw [t8, mAnew_0z Y (by decide)]
    · rw [t10, mAnew_0z Y (by decide)]
    · rw [t11, mAnew_0z Y (by decide)]
    · rw [cAnew_16 hk, mAnew_z Y (by decide) hk]
    · rw [cAnew_19 hk, mAnew_z Y (by decide) hk]
    · rw [cAnew_17 ht hk, mAnew_c Y hk]; exact hs.bs k hk
  · refine ⟨⟨rfl, rfl, rfl, rfl, rfl, rfl, rfl⟩, hla, ⟨fun t ht => absurd ht (by omega), mAnew_0z Y (by decide), fun t ht => absurd ht (by omega)⟩, fun _ => ⟨mAnew_0z Y (by decide), ?_⟩, fun e => absurd (mAnew_0z Y (by decide)) e⟩
    have hab : chK (mAnew Y) (mAnew Y) v st (qN (mAnew Y) 0) 0 = (qN (mAnew Y) 0, true) := by
      rw [chK_abs (m := st) (Nat.le_refl _) st 0 (by omega) (fun j _ h2 => mAnew_z Y (by decide) (by omega)), chK_st]
    refine ⟨fun k hk h0 => absurd (mAnew_z Y (by decide) (by omega)) h0, fun _ => ?_, fun j hj => ?_, fun j hj => ?_⟩
    · rw [hab, mAnew_0z Y (by decide)]; rfl
    · rw [mAnew_z Y (by decide) hj]; rfl
    · rw [mAnew_c Y hj]
      show _ = (qO (mAnew Y)).2.2 j
      show _ = mAnew Y 112 j
      rw [yn 112 (by decide)]
  · rw [xn 0 (by omega), xn 1 (by omega), y0 _ (by decide), yn 101 (by decide)]
    exact tx
theorem op_mem {Sh : mS} {X : mI} {G : mP} {Y : mI} {B st cnt r x v q a : Nat} {y : Option Nat} {t n : Nat} (h : jJ Sh X G Y B st cnt r x v q a y t n) {j : Nat} (w : Int32) : jJ Sh (cAnew (mu X 10 j w) G) G (mAnew (mu Y 112 j w)) B st cnt r x v q a y 0 0 := by
  obtain ⟨hw, ht, h4, hb, h6, h40, hr, hi, hl, -⟩ := h.ci
  have hk : ∀ n, mKind (mu Y 112 j w) n = mKind Y n := fun n => mKind_of (mu_na _ _ _ (by decide) _) (mu_row _ _ _ (by decide)) n
  have hs := h.re.st
  refine jJ_anew hw (okT_of ht (fun k hk => by have := ht.r hk; rw [mu_na _ _ _ (by omega)])) h.om h.gc h.fr h.s2 hr (fun r h2 => by have := hl r h2; rw [mu_row _ _ _ (by omega)]; exact hi r h2) hl ?_ (lay_of h.re.la (mu_na _ _ _ (by decide) _) (mu_row _ _ _ (by decide))) (by rw [mu_na _ _ _ (by decide)]; exact h.mo.2.2.2.2.2.1) (by rw [mu_na _ _ _ (by decide), mu_na _ _ _ (by decide), mu_row _ _ _ (by decide), mu_row _ _ _ (by decide)]; exact h.tx)
  refine ⟨by rw [mu_na _ _ _ (by decide)]; exact hs.cs, by rw [mu_na _ _ _ (by decide)]; exact hs.ms, fun k hk => by rw [mu_row _ _ _ (by decide), mu_row _ _ _ (by decide)]; exact hs.sg k hk, by rw [mu_na _ _ _ (by decide), mu_na _ _ _ (by decide)]; exact hs.s7, by rw [mu_na _ _ _ (by decide)]; exact hs.cc, by rw [mu_na _ _ _ (by decide)]; exact hs.mc, hs.c40, fun n => ?_, fun n => by rw [hk]; exact hs.knd n, fun n => ?_, fun k hk => ?_, fun k hk => ?_⟩
  · have := cAt_r cnt n
    rw [hk, mu_row (a := 10) _ _ _ (by omega), mu_row (a := 112) (x := 107) _ _ _ (by decide), mu_row (a := 112) (x := 108) _ _ _ (by decide), mu_row (a := 112) (x := 109) _ _ _ (by decide), mu_row (a := 112) (x := 110) _ _ _ (by decide)]
    exact hs.row n
  · rw [hk, mu_row (a := 112) (x := 107) _ _ _ (by decide), mu_row (a := 112) (x := 108) _ _ _ (by decide), mu_row (a := 112) (x := 109) _ _ _ (by decide)]
    exact hs.reg n
  · simp only [mu_at, true_and, hs.bs k hk]
  · rw [mu_na _ _ _ (by decide), mu_na _ _ _ (by decide)]; exact hs.lt k hk
theorem op_lat {Sh : mS} {X : mI} {G : mP} {Y : mI} {B st cnt r x v q a : Nat} {y : Option Nat} {t n : Nat} (h : jJ Sh X G Y B st cnt r x v q a y t n) {j : Nat} (w : Int32) : jJ Sh (cAnew (mu X 11 j w) G) G (mAnew (mu Y 113 j w)) B st cnt r x v q a y 0 0 := by
  obtain ⟨hw, ht, h4, hb, h6, h40, hr, hi, hl, -⟩ := h.ci
  have hk : ∀ n, mKind (mu Y 113 j w) n = mKind Y n := fun n => mKind_of (mu_na _ _ _ (by decide) _) (mu_row _ _ _ (by decide)) n
  have hs := h.re.st
  refine jJ_anew hw (okT_of ht (fun k hk => by have := ht.r hk; rw [mu_na _ _ _ (by omega)])) h.om h.gc h.fr h.s2 hr (fun r h2 => by have := hl r h2; rw [mu_row _ _ _ (by omega)]; exact hi r h2) hl ?_ (lay_of h.re.la (mu_na _ _ _ (by decide) _) (mu_row _ _ _ (by decide))) (by rw [mu_na _ _ _ (by decide)]; exact h.mo.2.2.2.2.2.1) (by rw [mu_na _ _ _ (by decide), mu_na _ _ _ (by decide), mu_row _ _ _ (by decide), mu_row _ _ _ (by decide)]; exact h.tx)
  refine ⟨by rw [mu_na _ _ _ (by decide)]; exact hs.cs, by rw [mu_na _ _ _ (by decide)]; exact hs.ms, fun k hk => by rw [mu_row _ _ _ (by decide), mu_row _ _ _ (by decide)]; exact hs.sg k hk, by rw [mu_na _ _ _ (by decide), mu_na _ _ _ (by decide)]; exact hs.s7, by rw [mu_na _ _ _ (by decide)]; exact hs.cc, by rw [mu_na _ _ _ (by decide)]; exact hs.mc, hs.c40, fun n => ?_, fun n => by rw [hk]; exact hs.knd n, fun n => ?_, fun k hk => ?_, fun k hk => ?_⟩
  · have := cAt_r cnt n
    rw [hk, mu_row (a := 11) _ _ _ (by omega), mu_row (a := 113) (x := 107) _ _ _ (by decide), mu_row (a := 113) (x := 108) _ _ _ (by decide), mu_row (a := 113) (x := 109) _ _ _ (by decide), mu_row (a := 113) (x := 110) _ _ _ (by decide)]
    exact hs.row n
  · rw [hk, mu_row (a := 113) (x := 107) _ _ _ (by decide), mu_row (a := 113) (x := 108) _ _ _ (by decide), mu_row (a := 113) (x := 109) _ _ _ (by decide)]
    exact hs.reg n
  · rw [mu_na _ _ _ (by decide), mu_na _ _ _ (by decide)]; exact hs.bs k hk
  · simp only [mu_at, true_and, hs.lt k hk]
