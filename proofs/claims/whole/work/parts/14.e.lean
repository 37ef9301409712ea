theorem jJ_T {Sh : mS} {X : mI} {G : mP} {Y : mI} {B st cnt r x v q a : Nat} {y : Option Nat} {t n : Nat} {X1 Y1 : mI} (h : jJ Sh X G Y B st cnt r x v q a y t n) (xr : ∀ r, 4 ≤ r → X1 r = X r) (y0 : ∀ f, f ≠ 1 → Y1 100 f = Y 100 f) (yr : ∀ r, r ≠ 100 ∧ r ≠ 101 ∧ r ≠ 134 → Y1 r = Y r) (htx : ∃ sg : Nat, sg ≤ 30 ∧ X1 0 1 = nI sg ∧ Y1 100 1 = nI sg ∧ ∀ k, k < 30 → X1 1 k = Y1 101 k) : jJ Sh X1 G Y1 B st cnt r x v q a y t n := by
  have hs := h.re.st
  obtain ⟨hw, ht, h4, hb, h6, h40, hr, hi, hl, hkp⟩ := h.ci
  have hk : ∀ n, mKind Y1 n = mKind Y n := fun n => mKind_of (y0 _ (by decide)) (yr 106 (by decide)) n
  have hre := h.re
  have hle := hre.la.le
  refine ⟨⟨hw, okT_of ht (fun k hk => by have := ht.r hk; rw [xr _ (by omega)]), by rw [xr 4 (by decide)]; exact h4, hb, by rw [xr 6 (by decide)]; exact h6, h40, hr, fun r e => by have := hl r e; rw [xr r (by omega)]; exact hi r e, hl, by rw [xr 12 (by decide)]; exact hkp⟩, h.om, h.gc, h.fr, h.s2, ?_, mOk_of h.mo (y0 _ (by decide)) (y0 _ (by decide)) (by rw [y0 _ (by decide)]; exact h.mo.2.2.2.2.2.1) (yr 106 (by decide)) (yr 107 (by decide)) (yr 108 (by decide)) (yr 109 (by decide)), ?_, htx, by rw [y0 _ (by decide)]; exact h.ov, h.bd⟩
  · refine ⟨rSt_of hs (fun r hr => xr r (by omega)) ⟨y0 _ (by decide), y0 _ (by decide), y0 _ (by decide)⟩ (fun r hr => yr r (by omega)), lay_of hre.la (y0 _ (by decide)) (yr 104 (by decide)), fun k hk9 => ?_, by rw [xr 14 (by decide), y0 _ (by decide)]; exact hre.nw, by rw [xr 14 (by decide), y0 _ (by decide)]; exact hre.nx, by rw [xr 14 (by decide), y0 _ (by decide)]; exact hre.go, by rw [xr 14 (by decide), y0 _ (by decide)]; exact hre.ov, by rw [xr 16 (by decide), xr 19 (by decide), yr 125 (by decide), yr 126 (by decide)]; exact hre.rg, by rw [xr 17 (by decide), yr 127 (by decide)]; exact hre.ce, log_mu hre.lg ⟨xr 12 (by decide), xr 13 (by decide)⟩ (y0 _ (by decide)) ⟨yr 129 (by decide), yr 130 (by decide), yr 131 (by decide), yr 132 (by decide)⟩, by rw [xr 14 (by decide), y0 _ (by decide)]; exact hre.sa⟩
    have := ht.r (k := k) (by omega)
    unfold tRl tf
    rw [hk, xr _ (by omega), yr 114 (by decide), yr 115 (by decide), yr 116 (by decide), yr 117 (by decide), yr 118 (by decide), yr 119 (by decide), yr 120 (by decide)]
    exact hre.th k hk9
  · obtain ⟨P, g, c1, c2, c3⟩ := h.ch
    exact ⟨P, g, c1, chX_Z c2 y0 yr, c3⟩
theorem act_iff {nx : Nat} (h : nx < 7) (u : Int32) : u = ssB nx ↔ mAct u = nI nx := by
  have hh : nx = 0 ∨ nx = 1 ∨ nx = 2 ∨ nx = 3 ∨ nx = 4 ∨ nx = 5 ∨ nx = 6 := by omega
  constructor
  · intro e
    rcases hh with h | h | h | h | h | h | h <;> subst h <;> rw [e] <;> decide
  · intro e
    unfold mAct at e
    by_cases h0 : u = 102
    · subst h0; rcases hh with h | h | h | h | h | h | h <;> subst h <;> first | rfl | exact absurd e (by decide)
    by_cases h1 : u = 114
    · subst h1; rcases hh with h | h | h | h | h | h | h <;> subst h <;> first | rfl | exact absurd e (by decide)
    by_cases h2 : u = 120
    · subst h2; rcases hh with h | h | h | h | h | h | h <;> subst h <;> first | rfl | exact absurd e (by decide)
    by_cases h3 : u = 118
    · subst h3; rcases hh with h | h | h | h | h | h | h <;> subst h <;> first | rfl | exact absurd e (by decide)
    by_cases h4 : u = 113
    · subst h4; rcases hh with h | h | h | h | h | h | h <;> subst h <;> first | rfl | exact absurd e (by decide)
    by_cases h5 : u = 97
    · subst h5; rcases hh with h | h | h | h | h | h | h <;> subst h <;> first | rfl | exact absurd e (by decide)
    by_cases h6 : u = 119
    · subst h6; rcases hh with h | h | h | h | h | h | h <;> subst h <;> first | rfl | exact absurd e (by decide)
    rw [if_neg h0, if_neg h1, if_neg h2, if_neg h3, if_neg h4, if_neg h5, if_neg h6] at e
    exact absurd e.symm (nI_m1 (by omega))
theorem act_7 (u : Int32) : ¬ mAct u = nI 7 := by
  unfold mAct
  split
  · decide
  · split
    · decide
    · split
      · decide
      · split
        · decide
        · split
          · decide
          · split
            · decide
            · split <;> decide
/-- the class's reader and the reference's, at one sign -/
def rdR (U : mI) (z : mLT) (nx sgi ac : Nat) (fs : Nat → Nat) : Prop := nx ≤ 7 ∧ sgi ≤ 7 ∧ (U 2 1 = nI nx ∧ z.2.1 = nI nx) ∧ (U 2 2 = nI sgi ∧ z.1 = nI sgi) ∧ z.2.2.1 = nI ac ∧ (U 2 3 = 0 ↔ ac = 0) ∧ U 3 7 = z.2.2.2.1 ∧ (∀ j, j < nx → U 3 j = z.2.2.2.2 j ∧ z.2.2.2.2 j = nI (fs j) ∧ fs j ≤ sgi) ∧ (∀ j, j + 1 < nx → fs j ≤ fs (j + 1)) ∧ (5 < nx → fs 4 < fs 5) ∧ (nx = 7 → ac ≠ 0 → fs 6 = sgi) ∧ (z.2.2.2.1 = -1 ∨ ∃ w : Nat, z.2.2.2.1 = nI w ∧ 3 ≤ nx ∧ fs 2 ≤ w ∧ w ≤ sgi)
set_option maxRecDepth 100000 in
theorem rd_step {U : mI} {z : mLT} {nx sgi ac : Nat} {fs : Nat → Nat} (h : rdR U z nx sgi ac fs) (hac : ac < 1000) (u : Int32) : (cTk U nx u = none ∧ mLs z u = none) ∨ ∃ U' z' nx' sgi' ac' fs', cTk U nx u = some U' ∧ mLs z u = some z' ∧ rdR U' z' nx' sgi' ac' fs' ∧ ac' ≤ ac + 1 := by
  obtain ⟨h7, s7, ⟨u1, z1⟩, ⟨u2, z2⟩, z3, u3, u37, hf, hm, h45, h6, hg⟩ := h
  by_cases e47 : u = 47
  · have c1 : cBrkOk U ↔ ac ≠ 0 ∧ sgi < 7 := by
      unfold cBrkOk
      rw [u2, nI_1, show (8 : Int32) = nI 8 from rfl, nI_ltI (by omega) (by omega)]
      constructor
      · intro e; exact ⟨fun q => e.1 (u3.mpr q), by omega⟩
      · intro e; exact ⟨fun q => e.1 (u3.mp q), by omega⟩
    have c2 : (u = 47 ∧ 0 < z.2.2.1 ∧ z.1 < 7) ↔ ac ≠ 0 ∧ sgi < 7 := by
      rw [z3, z2, show (7 : Int32) = nI 7 from rfl, show (0 : Int32) = nI 0 from rfl, nI_ltI (by omega) (by omega), nI_ltI (by omega) (by omega)]
      constructor
      · intro e; omega
      · intro e; exact ⟨e47, by omega, by omega⟩
    by_cases hb : ac ≠ 0 ∧ sgi < 7
    · right
      refine ⟨cBrk U, _, nx, sgi + 1, 0, fs, by unfold cTk; rw [if_pos e47, if_pos (c1.mpr hb)], by unfold mLs; rw [if_pos (c2.mpr hb)], ⟨h7, by omega, ?_, ?_, rfl, ?_, ?_, fun j hj => ?_, hm, h45, fun _ e => absurd rfl e, ?_⟩, by omega⟩
      · exact ⟨by unfold cBrk; rw [mu_ns _ _ _ (by decide), mu_ns _ _ _ (by decide)]; exact u1, z1⟩
      · refine ⟨by unfold cBrk; rw [mu_ns _ _ _ (by decide), mu_eq, u2, nI_1], ?_⟩
        show z.1 + 1 = _
        rw [z2, nI_1]
      · unfold cBrk
        rw [mu_eq]
        exact ⟨fun _ => rfl, fun _ => rfl⟩
      · unfold cBrk
        rw [mu_na _ _ _ (by decide), mu_na _ _ _ (by decide)]
        exact u37
      · unfold cBrk
        rw [mu_na _ _ _ (by decide), mu_na _ _ _ (by decide)]
        have := hf j hj
        exact ⟨this.1, this.2.1, by omega⟩
      · rcases hg with e | ⟨w, w1, w2, w3, w4⟩
        · exact Or.inl e
        · exact Or.inr ⟨w, w1, w2, w3, by omega⟩
    · left
      refine ⟨by unfold cTk; rw [if_pos e47, if_neg (fun e => hb (c1.mp e))], ?_⟩
      unfold mLs
      rw [if_neg (fun e => hb (c2.mp e)), if_neg (fun e => by rw [e47] at e; exact absurd e.1 (by decide)), if_neg (fun e => by rw [e47] at e; exact absurd e.1 (by decide))]
  · by_cases ey : u = 121
    · have c1 : (2 < nx ∧ nx ≤ 6 ∧ U 3 7 = -1) ↔ (u = 121 ∧ z.2.2.2.1 = -1 ∧ 2 < z.2.1 ∧ z.2.1 < 7) := by
        rw [z1, u37, show (7 : Int32) = nI 7 from rfl, show (2 : Int32) = nI 2 from rfl, nI_ltI (by omega) (by omega), nI_ltI (by omega) (by omega)]
        constructor
        · intro e; exact ⟨ey, e.2.2, e.1, by omega⟩
        · intro e; exact ⟨e.2.2.1, by omega, e.2.1⟩
      by_cases hb : 2 < nx ∧ nx ≤ 6 ∧ U 3 7 = -1
      · right
        refine ⟨cPuts U 7, _, nx, sgi, ac + 1, fs, by unfold cTk; rw [if_neg e47, if_pos ey, if_pos hb], by unfold mLs; rw [if_neg (fun e => e47 e.1), if_pos (c1.mp hb)], ⟨h7, s7, ?_, ?_, ?_, ?_, ?_, fun j hj => ?_, hm, h45, fun e => by omega, ?_⟩, Nat.le_refl _⟩
        · exact ⟨by unfold cPuts; rw [mu_ns _ _ _ (by decide), mu_na _ _ _ (by decide)]; exact u1, z1⟩
        · exact ⟨by unfold cPuts; rw [mu_ns _ _ _ (by decide), mu_na _ _ _ (by decide)]; exact u2, z2⟩
        · show z.2.2.1 + 1 = _
          rw [z3, nI_1]
        · unfold cPuts
          rw [mu_eq]
          exact ⟨fun e => absurd e (by decide), fun e => by omega⟩
        · unfold cPuts
          rw [mu_na _ _ _ (by decide), mu_eq, u2]
          exact z2.symm
        · unfold cPuts
          rw [mu_na _ _ _ (by decide), mu_ns _ _ _ (by omega)]
          exact hf j hj
        · exact Or.inr ⟨sgi, z2, by omega, (hf 2 (by omega)).2.2, Nat.le_refl _⟩
      · left
        refine ⟨by unfold cTk; rw [if_neg e47, if_pos ey, if_neg hb], ?_⟩
        unfold mLs
        rw [if_neg (fun e => e47 e.1), if_neg (fun e => hb (c1.mpr e)), if_neg (fun e => by rw [ey] at e; exact absurd e.1 (by decide))]
    · have c1 : (nx < 7 ∧ u = ssB nx ∧ ¬ (nx = 5 ∧ U 3 4 = U 2 2)) ↔ (0 ≤ mAct u ∧ mAct u = z.2.1 ∧ (¬ mAct u = 5 ∨ z.2.2.2.2 4 < z.1)) := by
        rw [z1, z2, u2]
        constructor
        · rintro ⟨e1, e2, e3⟩
          have ea := (act_iff e1 u).mp e2
          refine ⟨by rw [ea]; exact nI_le (a := 0) (by omega) (by omega), ea, ?_⟩
          rw [ea, show (5 : Int32) = nI 5 from rfl, nI_eq (by omega) (by omega)]
          by_cases n5 : nx = 5
          · right
            obtain ⟨f1, f2, f3⟩ := hf 4 (by omega)
            rw [f2, nI_ltI (by omega) (by omega)]
            rw [f1, f2, nI_eq (by omega) (by omega)] at e3
            omega
          · exact Or.inl n5
        · rintro ⟨e1, e2, e3⟩
          have hn7 : nx < 7 := by
            rcases Nat.lt_or_ge nx 7 with h9 | h9
            · exact h9
            · exact absurd (by rw [e2, show nx = 7 by omega]) (act_7 u)
          refine ⟨hn7, (act_iff hn7 u).mpr e2, fun e => ?_⟩
          obtain ⟨f1, f2, f3⟩ := hf 4 (by omega)
          rw [e2, show (5 : Int32) = nI 5 from rfl, nI_eq (by omega) (by omega), f2, nI_ltI (by omega) (by omega)] at e3
          have e4 := e.2
          rw [f1, f2, nI_eq (by omega) (by omega)] at e4
          omega
      by_cases hb : nx < 7 ∧ u = ssB nx ∧ ¬ (nx = 5 ∧ U 3 4 = U 2 2)
      · right
        have hc := c1.mp hb
        have ecl : (mAct u).toNatClampNeg = nx := by rw [hc.2.1, z1, nI_clamp (by omega)]
        refine ⟨cPuts (mu U 2 1 (nI (nx + 1))) nx, _, nx + 1, sgi, ac + 1, (fun j => if j = nx then sgi else fs j), by unfold cTk; rw [if_neg e47, if_neg ey, if_pos hb], by unfold mLs; rw [if_neg (fun e => e47 e.1), if_neg (fun e => ey e.1), if_pos hc], ⟨by omega, s7, ?_, ?_, ?_, ?_, ?_, fun j hj => ?_, fun j hj => ?_, fun hj => ?_, fun hj _ => ?_, ?_⟩, Nat.le_refl _⟩
        · refine ⟨by unfold cPuts; rw [mu_ns _ _ _ (by decide), mu_na _ _ _ (by decide), mu_eq], ?_⟩
          show z.2.1 + 1 = _
          rw [z1, nI_1]
        · exact ⟨by unfold cPuts; rw [mu_ns _ _ _ (by decide), mu_na _ _ _ (by decide), mu_ns _ _ _ (by decide)]; exact u2, z2⟩
        · show z.2.2.1 + 1 = _
          rw [z3, nI_1]
        · unfold cPuts
          rw [mu_eq]
          exact ⟨fun e => absurd e (by decide), fun e => by omega⟩
        · unfold cPuts
          rw [mu_na _ _ _ (by decide), mu_ns _ _ _ (by omega), mu_na _ _ _ (by decide)]
          exact u37
        · show cPuts (mu U 2 1 (nI (nx + 1))) nx 3 j = upd z.2.2.2.2 (mAct u).toNatClampNeg z.1 j ∧ upd z.2.2.2.2 (mAct u).toNatClampNeg z.1 j = nI (if j = nx then sgi else fs j) ∧ (if j = nx then sgi else fs j) ≤ sgi
          rw [ecl]
          unfold cPuts upd
          rw [mu_na _ _ _ (by decide)]
          by_cases ej : j = nx
          · subst ej
            rw [mu_eq, if_pos rfl, if_pos rfl, mu_ns _ _ _ (by decide), u2, z2]
            exact ⟨rfl, rfl, Nat.le_refl _⟩
          · rw [mu_ns _ _ _ ej, if_neg ej, if_neg ej, mu_na _ _ _ (by decide)]
            exact hf j (by omega)
        · show (if j = nx then sgi else fs j) ≤ (if j + 1 = nx then sgi else fs (j + 1))
          rw [if_neg (by omega)]
          by_cases ej : j + 1 = nx
          · rw [if_pos ej]
            exact (hf j (by omega)).2.2
          · rw [if_neg ej]
            exact hm j (by omega)
        · show (if 4 = nx then sgi else fs 4) < (if 5 = nx then sgi else fs 5)
          rw [if_neg (by omega)]
          by_cases ej : 5 = nx
          · rw [if_pos ej]
            have e3 := hb.2.2
            obtain ⟨f1, f2, f3⟩ := hf 4 (by omega)
            rw [f1, f2, u2, nI_eq (by omega) (by omega)] at e3
            omega
          · rw [if_neg ej]
            exact h45 (by omega)
        · show (if 6 = nx then sgi else fs 6) = sgi
          rw [if_pos (by omega)]
        · rcases hg with e | ⟨w, w1, w2, w3, w4⟩
          · exact Or.inl e
          · refine Or.inr ⟨w, w1, by omega, ?_, w4⟩
            show (if 2 = nx then sgi else fs 2) ≤ w
            rw [if_neg (by omega)]
            exact w3
      · left
        refine ⟨by unfold cTk; rw [if_neg e47, if_neg ey, if_neg hb], ?_⟩
        unfold mLs
        rw [if_neg (fun e => e47 e.1), if_neg (fun e => ey e.1), if_neg (fun e => hb (c1.mpr e))]
theorem rd_loop {t1 t2 : Nat → Int32} (ht : ∀ k, k < 30 → t1 k = t2 k) : ∀ (f k : Nat) (U : mI) (z : mLT) (nx sgi ac : Nat) (fs : Nat → Nat), k + f ≤ 30 → ac ≤ k → rdR U z nx sgi ac fs → (∃ j U' z', j < 30 ∧ cLr t1 f k U = (some j, U') ∧ mLr t2 f k z = (some j, z')) ∨ ∃ U' z' nx' sgi' ac' fs', cLr t1 f k U = (none, U') ∧ mLr t2 f k z = (none, z') ∧ rdR U' z' nx' sgi' ac' fs' ∧ ac' ≤ 30 := by
  intro f
  induction f with
  | zero => intro k U z nx sgi ac fs h1 h2 h; exact Or.inr ⟨U, z, nx, sgi, ac, fs, rfl, rfl, h, by omega⟩
  | succ f ih =>
    intro k U z nx sgi ac fs h1 h2 h
    have hn : nxO U = nx := by
      unfold nxO
      rw [h.2.2.1.1, nI_clamp (by have := h.1; omega)]
    rw [cLr, mLr, hn, ht k (by omega)]
    rcases rd_step h (by omega) (t2 k) with ⟨e1, e2⟩ | ⟨U', z', nx', sgi', ac', fs', e1, e2, e3, e4⟩
    · rw [e1, e2]
      exact Or.inl ⟨k, U, z, by omega, rfl, rfl⟩
    · rw [e1, e2]
      exact ih (k + 1) U' z' nx' sgi' ac' fs' (by omega) (by omega) e3
