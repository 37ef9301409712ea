theorem line_sim {Sh : mS} {X : mI} {G : mP} {Y : mI} {B st cnt r x v q a : Nat} {y : Option Nat} {t n : Nat} (h : jJ Sh X G Y B st cnt r x v q a y t n) {sg : Nat} (h30 : sg ≤ 30) : (∃ j z, j ≤ 30 ∧ cFwR X sg = nI j ∧ mLw Y sg = (some j, z)) ∨ ∃ z sgi ac fs, cFwR X sg = -1 ∧ mLw Y sg = (none, z) ∧ rdR (cFwS X sg) z 7 sgi ac fs ∧ ac ≠ 0 := by
  obtain ⟨sg2, -, -, -, htx⟩ := h.tx
  have h0 : rdR (cRd0 X) (0, 0, 0, -1, Y 134) 0 0 0 (fun _ => 0) := by
    unfold cRd0
    refine ⟨by decide, by decide, ⟨by rw [mu_ns _ _ _ (by decide), mu_ns _ _ _ (by decide), mu_eq]; rfl, rfl⟩, ⟨by rw [mu_ns _ _ _ (by decide), mu_eq]; rfl, rfl⟩, rfl, ?_, ?_, fun j hj => absurd hj (by omega), fun j hj => absurd hj (by omega), fun hj => absurd hj (by omega), fun hj => absurd hj (by omega), Or.inl rfl⟩
    · rw [mu_eq]; exact ⟨fun _ => rfl, fun _ => rfl⟩
    · rw [mu_na _ _ _ (by decide), mu_na _ _ _ (by decide), mu_na _ _ _ (by decide)]
      rfl
  rcases rd_loop htx sg 0 (cRd0 X) (0, 0, 0, -1, Y 134) 0 0 0 (fun _ => 0) (by omega) (by omega) h0 with ⟨j, U', z', e1, e2, e3⟩ | ⟨U', z', nx, sgi, ac, fs, e1, e2, e3, e4⟩
  · left
    exact ⟨j, z', by omega, by unfold cFwR; rw [e2], by unfold mLw; rw [e3]⟩
  · have n7 := e3.1
    have c1 : (U' 2 1 = 7 ∧ ¬ U' 2 3 = 0) ↔ (nx = 7 ∧ ac ≠ 0) := by
      rw [e3.2.2.1.1, show (7 : Int32) = nI 7 from rfl, nI_eq (by omega) (by omega), e3.2.2.2.2.2.1]
    have c2 : (z'.2.1 < 7 ∨ z'.2.2.1 = 0) ↔ ¬ (nx = 7 ∧ ac ≠ 0) := by
      rw [e3.2.2.1.2, e3.2.2.2.2.1, show (7 : Int32) = nI 7 from rfl, show (0 : Int32) = nI 0 from rfl, nI_ltI (by omega) (by omega), nI_eq (by omega) (by omega)]
      omega
    by_cases hb : nx = 7 ∧ ac ≠ 0
    · right
      obtain ⟨rfl, hac⟩ := hb
      refine ⟨z', sgi, ac, fs, ?_, ?_, ?_, hac⟩
      · unfold cFwR; rw [e1]; exact if_pos (c1.mpr ⟨rfl, hac⟩)
      · unfold mLw; rw [e2]
        show (if _ then _ else _, z') = _
        rw [if_neg (fun e => c2.mp e ⟨rfl, hac⟩)]
      · unfold cFwS; rw [e1]; exact e3
    · left
      refine ⟨sg, z', h30, ?_, ?_⟩
      · unfold cFwR; rw [e1]; exact if_neg (fun e => hb (c1.mp e))
      · unfold mLw; rw [e2]
        show (if _ then _ else _, z') = _
        rw [if_pos (c2.mpr hb)]
/-- line, on both sides -/
theorem op_line {Sh : mS} {X : mI} {G : mP} {Y : mI} {B st cnt r x v q a : Nat} {y : Option Nat} {t n : Nat} (h : jJ Sh X G Y B st cnt r x v q a y t n) {sg : Nat} (h30 : sg ≤ 30) : (if cFwR X sg = -1 then cFwS X sg 2 2 + 1 else -1 - cFwR X sg) = mLineR Y sg ∧ ∃ st2 r2 x2 v2 q2 a2 y2 t2 n2, jJ Sh (if cFwR X sg = -1 then cLn X G sg else mu (cFwS X sg) 0 1 0) G (mLineS Y sg) B st2 cnt r2 x2 v2 q2 a2 y2 t2 n2 := by
  obtain ⟨sg2, tx1, tx2, tx3, tx4⟩ := h.tx
  rcases line_sim h h30 with ⟨j, z, hj, e1, e2⟩ | ⟨z, sgi, ac, fs, e1, e2, e3, hac⟩
  · have hne : ¬ cFwR X sg = -1 := by rw [e1]; exact nI_m1 (by omega)
    rw [if_neg hne, if_neg hne]
    refine ⟨by unfold mLineR; rw [e2, e1], st, r, x, v, q, a, y, t, n, ?_⟩
    have eY : mLineS Y sg = mu (mRow Y 134 z.2.2.2.2) 100 1 0 := by unfold mLineS; rw [e2]
    rw [eY]
    refine jJ_T h (fun r hr => by rw [mu_row _ _ _ (by omega), cFwS_n _ _ (by omega) (by omega)]) (fun f hf => by rw [mu_ns _ _ _ hf, mRow_n _ _ (by decide)]) (fun r hr => by rw [mu_row _ _ _ (by omega), mRow_n _ _ (by omega)]) ⟨0, by decide, mu_eq _ _ _ _, mu_eq _ _ _ _, fun k hk => ?_⟩
    rw [mu_na _ _ _ (by decide), cFwS_n _ _ (by decide) (by decide), mu_na _ _ _ (by decide), mRow_n _ _ (by decide)]
    exact tx4 k hk
  · rw [if_pos e1, if_pos e1]
    obtain ⟨-, s7, -, ⟨u2, z2⟩, z3, -, u37, hf, hm, h45, h6, hg⟩ := e3
    have eR : mLineR Y sg = z.1 + 1 := by unfold mLineR; rw [e2]
    have eY : mLineS Y sg = mAnew (mu (mu (mCp (mu (mRow Y 134 z.2.2.2.2) 100 1 0) 7) 100 4 z.2.2.2.1) 100 2 (z.1 + 1)) := by unfold mLineS; rw [e2]
    refine ⟨by rw [eR, u2, z2], ?_⟩
    have m12 := hm 1 (by omega)
    have m23 := hm 2 (by omega)
    have m34 := hm 3 (by omega)
    have m45 := h45 (by omega)
    have m56 := hm 5 (by omega)
    have m6 := h6 rfl hac
    rw [eY]
    unfold cLn
    have x41 : mu (mCpy (mu (cFwS X sg) 0 1 0) 3 5 8) 4 1 (cFwS X sg 2 2 + 1) 4 1 = nI (sgi + 1) := by rw [mu_eq, u2, nI_1]
    have x5 : ∀ k, k < 8 → mu (mCpy (mu (cFwS X sg) 0 1 0) 3 5 8) 4 1 (cFwS X sg 2 2 + 1) 5 k = cFwS X sg 3 k := fun k hk => by
      rw [mu_na _ _ _ (by decide)]
      show (if 5 = 5 ∧ k < 8 then mu (cFwS X sg) 0 1 0 3 k else _) = _
      rw [if_pos ⟨rfl, hk⟩, mu_na _ _ _ (by decide)]
    have xr : ∀ r, 6 ≤ r ∨ r = 1 → mu (mCpy (mu (cFwS X sg) 0 1 0) 3 5 8) 4 1 (cFwS X sg 2 2 + 1) r = X r := fun r hr => by
      rw [mu_row _ _ _ (by omega), mCpy_n _ _ _ _ (by omega), mu_row _ _ _ (by omega), cFwS_n _ _ (by omega) (by omega)]
    have x01 : mu (mCpy (mu (cFwS X sg) 0 1 0) 3 5 8) 4 1 (cFwS X sg 2 2 + 1) 0 1 = 0 := by
      rw [mu_na _ _ _ (by decide), mCpy_n _ _ _ _ (by decide), mu_eq]
    generalize mu (mCpy (mu (cFwS X sg) 0 1 0) 3 5 8) 4 1 (cFwS X sg 2 2 + 1) = X1 at *
    have y2 : mu (mu (mCp (mu (mRow Y 134 z.2.2.2.2) 100 1 0) 7) 100 4 z.2.2.2.1) 100 2 (z.1 + 1) 100 2 = nI (sgi + 1) := by rw [mu_eq, z2, nI_1]
    have y4 : mu (mu (mCp (mu (mRow Y 134 z.2.2.2.2) 100 1 0) 7) 100 4 z.2.2.2.1) 100 2 (z.1 + 1) 100 4 = z.2.2.2.1 := by rw [mu_ns _ _ _ (by decide), mu_eq]
    have y1 : mu (mu (mCp (mu (mRow Y 134 z.2.2.2.2) 100 1 0) 7) 100 4 z.2.2.2.1) 100 2 (z.1 + 1) 100 1 = 0 := by rw [mu_ns _ _ _ (by decide), mu_ns _ _ _ (by decide), mCp_n _ _ (by decide), mu_eq]
    have y104 : ∀ k, k < 7 → mu (mu (mCp (mu (mRow Y 134 z.2.2.2.2) 100 1 0) 7) 100 4 z.2.2.2.1) 100 2 (z.1 + 1) 104 k = z.2.2.2.2 k := fun k hk => by
      rw [mu_na _ _ _ (by decide), mu_na _ _ _ (by decide)]
      show (if 104 = 104 ∧ k < 7 then mu (mRow Y 134 z.2.2.2.2) 100 1 0 134 k else _) = _
      rw [if_pos ⟨rfl, hk⟩, mu_na _ _ _ (by decide), mRow_e]
    have y0 : ∀ f, f ≠ 1 ∧ f ≠ 2 ∧ f ≠ 4 → mu (mu (mCp (mu (mRow Y 134 z.2.2.2.2) 100 1 0) 7) 100 4 z.2.2.2.1) 100 2 (z.1 + 1) 100 f = Y 100 f := fun f hf => by
      rw [mu_ns _ _ _ hf.2.1, mu_ns _ _ _ hf.2.2, mCp_n _ _ (by decide), mu_ns _ _ _ hf.1, mRow_n _ _ (by decide)]
    have yr : ∀ r, r ≠ 100 ∧ r ≠ 104 ∧ r ≠ 134 → mu (mu (mCp (mu (mRow Y 134 z.2.2.2.2) 100 1 0) 7) 100 4 z.2.2.2.1) 100 2 (z.1 + 1) r = Y r := fun r hr => by
      rw [mu_row _ _ _ hr.1, mu_row _ _ _ hr.1, mCp_n _ _ hr.2.1, mu_row _ _ _ hr.1, mRow_n _ _ hr.2.2]
    generalize mu (mu (mCp (mu (mRow Y 134 z.2.2.2.2) 100 1 0) 7) 100 4 z.2.2.2.1) 100 2 (z.1 + 1) = Y1 at *
    obtain ⟨hw, ht, h4, hb, h6c, h40, hr, hi, hl, hkp⟩ := h.ci
    have hs := h.re.st
    have hk : ∀ n, mKind Y1 n = mKind Y n := fun n => mKind_of (y0 10 (by decide)) (yr 106 (by decide)) n
    have f1 := hf 1 (by omega)
    have f2 := hf 2 (by omega)
    have f3 := hf 3 (by omega)
    have f4 := hf 4 (by omega)
    have f5 := hf 5 (by omega)
    have f6 := hf 6 (by omega)
    have hla : ∀ yy : Option Nat, (yy = none → z.2.2.2.1 = -1) → (∀ w, yy = some w → z.2.2.2.1 = nI w ∧ fs 2 ≤ w ∧ w < sgi + 1) → lay Y1 (sgi + 1) (fs 1) (fs 2) (fs 3) (fs 4) (fs 5) yy := fun yy g1 g2 => ⟨by rw [y104 1 (by decide)]; exact f1.2.1, by rw [y104 2 (by decide)]; exact f2.2.1, by rw [y104 3 (by decide)]; exact f3.2.1, by rw [y104 4 (by decide)]; exact f4.2.1, by rw [y104 5 (by decide)]; exact f5.2.1, by rw [y104 6 (by decide), f6.2.1, m6]; rfl, ⟨m12, m23, m34, m45, by omega, by omega⟩, fun e => by rw [y4]; exact g1 e, fun w e => by rw [y4]; exact g2 w e⟩
    have hst : rSt X1 Y1 (sgi + 1) cnt := by
      refine ⟨x41, y2, fun k hk => by rw [x5 k (by omega), y104 k hk]; exact (hf k hk).1, by rw [x5 7 (by decide), y4]; exact u37, by rw [xr 6 (by omega)]; exact hs.cc, by rw [y0 _ (by decide)]; exact hs.mc, hs.c40, fun n => ?_, fun n => by rw [hk]; exact hs.knd n, fun n => by rw [hk, yr 107 (by decide), yr 108 (by decide), yr 109 (by decide)]; exact hs.reg n, fun k hk => by rw [xr 10 (by omega), yr 112 (by decide)]; exact hs.bs k hk, fun k hk => by rw [xr 11 (by omega), yr 113 (by decide)]; exact hs.lt k hk⟩
      rw [hk, xr _ (by have := cAt_r cnt n; omega), yr 107 (by decide), yr 108 (by decide), yr 109 (by decide), yr 110 (by decide)]
      exact hs.row n
    have fin : ∀ yy : Option Nat, lay Y1 (sgi + 1) (fs 1) (fs 2) (fs 3) (fs 4) (fs 5) yy → jJ Sh (cAnew X1 G) G (mAnew Y1) B (sgi + 1) cnt (fs 1) (fs 2) (fs 3) (fs 4) (fs 5) yy 0 0 := fun yy hyy => by
      refine jJ_anew hw (okT_of ht (fun k hk => by have := ht.r hk; rw [xr _ (by omega)])) h.om h.gc h.fr h.s2 hr (fun r e => by have := hl r e; rw [xr r (by omega)]; exact hi r e) hl hst hyy (by rw [y0 _ (by decide)]; exact h.mo.2.2.2.2.2.1) ⟨0, by decide, x01, y1, fun k hk => ?_⟩
      rw [xr 1 (by omega), yr 101 (by decide)]
      exact tx4 k hk
    rcases hg with e | ⟨w, w1, -, w3, w4⟩
    · exact ⟨sgi + 1, fs 1, fs 2, fs 3, fs 4, fs 5, none, 0, 0, fin none (hla none (fun _ => e) (fun w e => by cases e))⟩
    · exact ⟨sgi + 1, fs 1, fs 2, fs 3, fs 4, fs 5, some w, 0, 0, fin (some w) (hla (some w) (fun e => by cases e) (fun w2 e => by cases e; exact ⟨w1, w3, by omega⟩))⟩
/-- faithful is true on both sides -/
theorem op_faith {Sh : mS} {X : mI} {G : mP} {Y : mI} {B st cnt r x v q a : Nat} {y : Option Nat} {t n : Nat} (h : jJ Sh X G Y B st cnt r x v q a y t n) (hB : B < 100000000) : ∃ P g m, chX P Y st r x v q a y g ∧ g ≤ B ∧ mFa Y g ∧ oH X Y cnt g m := by
  obtain ⟨P, g, c1, c2, c3⟩ := h.ch
  have hF : mFa Y g := ch_mFa c2 (by omega)
  have hs := h.re.st
  have hb := h.bd
  obtain ⟨l1, l2, l3, l4⟩ := h.re.lg
  have hmg := qM_le Y g
  have hn : n = qM Y g := by
    have := hF.2.2.2.1
    rw [l2, nI_eq (by omega) (by omega)] at this
    exact this
  refine ⟨P, g, min (qM Y g) 1000, c2, c3, hF, hs.row, hs.knd, hs.reg, hs.bs, ⟨by omega, by omega, by rw [← hn]; exact l3⟩, hF.1, fun t ht hq hm => ?_, ?_⟩
  · have hst := qM_step ht hq
    obtain ⟨o1, o2, o3⟩ := hF.2.2.2.2 t ht hq (by omega)
    obtain ⟨p1, p2, p3, -⟩ := l4 (qM Y t) (by omega) (by omega)
    rw [p1, p2, p3]
    exact ⟨o1, o2, o3⟩
  · have := q41k hs.mc hs.c40 hF.1 1000
    rw [show 41 * 1000 = 41000 from rfl] at this
    omega
theorem op_commit {Sh : mS} {X : mI} {G : mP} {Y : mI} {B st cnt r x v q a : Nat} {y : Option Nat} {t n : Nat} (h : jJ Sh X G Y B st cnt r x v q a y t n) (hB : B < 100000000) (k w : Int32) : cPart X k w = mCommit Y k w := by
  have hb := h.bd
  obtain ⟨l1, l2, l3, l4⟩ := h.re.lg
  unfold cPart mCommit
  rw [l3, l2]
  rcases nI_or k with hk | ⟨j, hj, rfl⟩
  · rw [if_neg (fun e => Int32.not_lt.mpr e.1.1 hk), if_pos (Or.inl hk)]
  · have c0 : (0 : Int32) ≤ nI j := nI_le (a := 0) (by omega) (by omega)
    rcases nI_or w with hw | ⟨i, hi, rfl⟩
    · rw [if_neg (fun e => Int32.not_lt.mpr e.2.1 hw), if_pos (Or.inr (Or.inr (Or.inr (fun e => Int32.not_lt.mpr e.1 hw))))]
    · have d0 : (0 : Int32) ≤ nI i := nI_le (a := 0) (by omega) (by omega)
      by_cases hc : j < n ∧ j < 1000 ∧ i < 4
      · rw [if_pos ⟨⟨c0, nI_lt (by omega) (by omega)⟩, d0, nI_lt (b := 4) (by omega) (by omega)⟩, if_neg, nI_clamp (by omega), nI_clamp (by omega)]
        · obtain ⟨p0, p1, p2, p3⟩ := l4 j hc.1 hc.2.1
          have hh : i = 0 ∨ i = 1 ∨ i = 2 ∨ i = 3 := by omega
          rcases hh with e | e | e | e <;> subst e
          · rw [if_pos (by decide)]; exact p0
          · rw [if_neg (by decide), if_pos (by decide)]; exact p1
          · rw [if_neg (by decide), if_neg (by decide), if_pos (by decide)]; exact p2
          · rw [if_neg (by decide), if_neg (by decide), if_neg (by decide)]; exact p3
        · rintro (e | e | e | e)
          · exact Int32.not_lt.mpr c0 e
          · rw [nI_leI (by omega) (by omega)] at e; omega
          · rw [show (1000 : Int32) = nI 1000 from rfl, nI_leI (by omega) (by omega)] at e; omega
          · exact e ⟨d0, nI_le (b := 3) (by omega) (by omega)⟩
      · rw [if_neg, if_pos]
        · by_cases h1 : j < n
          · by_cases h2 : j < 1000
            · refine Or.inr (Or.inr (Or.inr (fun e => ?_)))
              have := e.2
              rw [show (3 : Int32) = nI 3 from rfl, nI_leI (by omega) (by omega)] at this
              omega
            · exact Or.inr (Or.inr (Or.inl (nI_le (a := 1000) (by omega) (by omega))))
          · exact Or.inr (Or.inl (nI_le (by omega) (by omega)))
        · rintro ⟨⟨-, e1⟩, -, e2⟩
          rw [nI_ltI (by omega) (by omega)] at e1
          rw [show (4 : Int32) = nI 4 from rfl, nI_ltI (by omega) (by omega)] at e2
          omega
theorem op_told {Sh : mS} {X : mI} {G : mP} {Y : mI} {B st cnt r x v q a : Nat} {y : Option Nat} {t n : Nat} (h : jJ Sh X G Y B st cnt r x v q a y t n) (k : Int32) : cTold X k = mTold Y k := by
  obtain ⟨sg, t1, t2, t3, t4⟩ := h.tx
  have hs := h.re.st
  unfold cTold mTold
  rcases nI_or k with hk | ⟨j, hj, rfl⟩
  · have n0 : ¬ k = 0 := fun e => by rw [e] at hk; exact absurd hk (by decide)
    have n1 : ¬ k = 1 := fun e => by rw [e] at hk; exact absurd hk (by decide)
    have n2 : ¬ k = 2 := fun e => by rw [e] at hk; exact absurd hk (by decide)
    have n10 : ¬ k = 10 := fun e => by rw [e] at hk; exact absurd hk (by decide)
    have n3 : ¬ (3 : Int32) ≤ k := fun e => by
      have := Int32.lt_of_le_of_lt e hk
      exact absurd this (by decide)
    rw [if_neg n0, if_neg n1, if_neg n2, if_neg (fun e => n3 e.1), if_neg (fun e => n3 e.1), if_neg n0, if_neg n1, if_neg n2, if_neg n10]
  · by_cases h11 : j < 11
    · have hh : j = 0 ∨ j = 1 ∨ j = 2 ∨ j = 3 ∨ j = 4 ∨ j = 5 ∨ j = 6 ∨ j = 7 ∨ j = 8 ∨ j = 9 ∨ j = 10 := by omega
      rcases hh with e | e | e | e | e | e | e | e | e | e | e <;> subst e
      · show X 4 1 = Y 100 2
        rw [hs.cs, hs.ms]
      · show X 6 2 = Y 100 10
        rw [hs.cc, hs.mc]
      · show X 0 1 = Y 100 1
        rw [t2, t3]
      · exact hs.sg 0 (by decide)
      · exact hs.sg 1 (by decide)
      · exact hs.sg 2 (by decide)
      · exact hs.sg 3 (by decide)
      · exact hs.sg 4 (by decide)
      · exact hs.sg 5 (by decide)
      · exact hs.sg 6 (by decide)
      · exact hs.s7
    · have ne : ∀ i, i < 11 → ¬ nI j = nI i := fun i hi => by rw [nI_eq (by omega) (by omega)]; omega
      have n9 : ¬ nI j ≤ 9 := fun e => by rw [show (9 : Int32) = nI 9 from rfl, nI_leI (by omega) (by omega)] at e; omega
      have n11 : ¬ nI j < 11 := fun e => by rw [show (11 : Int32) = nI 11 from rfl, nI_ltI (by omega) (by omega)] at e; omega
      rw [if_neg (show ¬ nI j = 0 from ne 0 (by omega)), if_neg (show ¬ nI j = 1 from ne 1 (by omega)), if_neg (show ¬ nI j = 2 from ne 2 (by omega)), if_neg (fun e => n11 e.2), if_neg (fun e => n9 e.2), if_neg (show ¬ nI j = 0 from ne 0 (by omega)), if_neg (show ¬ nI j = 1 from ne 1 (by omega)), if_neg (show ¬ nI j = 2 from ne 2 (by omega)), if_neg (show ¬ nI j = 10 from ne 10 (by omega))]
