theorem lay.need {Y : mI} {st r x v q a : Nat} {y : Option Nat} (h : lay Y st r x v q a y) {z : Nat} (hy : y = some z) (n : Int32) : mNeed Y n = nI (if mKind Y n = 5 ∧ z < a then a else z) := by
  obtain ⟨e, h1, h2⟩ := h.yes z hy
  have hl := h.le
  unfold mNeed
  rw [e, h.a]
  by_cases hh : mKind Y n = 5 ∧ z < a
  · rw [if_pos ⟨hh.1, (nI_ltI (by omega) (by omega)).mpr hh.2⟩, if_pos hh]
  · rw [if_neg (fun q => hh ⟨q.1, (nI_ltI (by omega) (by omega)).mp q.2⟩), if_neg hh]
theorem rdy_eq {X : mI} {G : mP} {Y : mI} {st cnt r x v q a : Nat} {y : Option Nat} {t n m : Nat} {c : Prop} (h : rRel X G Y st cnt r x v q a y t n m c) (ht : t < 2147483648) {s : Nat} (hs : s < st) {reg : Int32} (hr : vp_in reg 8) : cRdy X G st s reg = mRdy Y st s reg := by
  have hg : cGv X G st reg (s + 1) = mGv Y st reg (s + 1) := cGv_eq h.st h.th reg (vp_nm hr) _ _ (by omega)
  have hl := h.la.le
  unfold cRdy mRdy
  rw [hg]
  obtain ⟨g1, g2⟩ := mGv_in Y (k := s + 1) reg (show s + 1 ≤ st by omega)
  by_cases hk : mGv Y st reg (s + 1) = st
  · rw [if_pos hk, if_pos hk, (h.rg _ (vp_in_nat hr).2).2, h.nw.1, h.nw.2]
    have := vp8 hr
    simp [this]
  · rw [if_neg hk, if_neg hk]
    have hlt : mGv Y st reg (s + 1) < st := by omega
    have hp := mGv_is Y reg (st - (s + 1)) (s + 1) (by show mGv Y st reg (s + 1) < _; omega)
    obtain ⟨-, h2⟩ := h.th _ hlt
    obtain ⟨-, -, -, -, -, -, -, -, u, e1, e2, -, e3, e4⟩ := h2 hp.1
    generalize hkk : mGv Y st reg (s + 1) = k at *
    have hkx : mGvF Y reg (st - (s + 1)) (s + 1) = k := hkk
    rw [hkx] at hp
    rw [h.nw.1, h.nw.2, e1]
    cases hy : y with
    | none =>
      rw [hy] at e3
      rw [h.la.no hy, e3 rfl]
      simp
    | some z =>
      rw [hy] at e4
      obtain ⟨f1, f2, f3⟩ := h.la.yes z hy
      rw [h.la.need hy, f1]
      have e5 := e4 (if mKind Y (Y 114 k) = 5 ∧ z < a then a else z) rfl
      generalize hz : (if mKind Y (Y 114 k) = 5 ∧ z < a then a else z) = w at *
      have hw : w < 8 := by rw [← hz]; split <;> omega
      refine decide_eq_decide.mpr ?_
      rw [nI_1, nI_ltI (a := w + 1) (b := k) (by omega) (by omega), nI_eq (a := k) (b := w + 1) (by omega) (by omega), nI_ltI (a := u) (b := t) (by omega) (by omega)]
      have hne := nI_m1 (show z < 2147483648 by omega)
      rcases Nat.lt_or_ge w k with hwk | hwk
      · obtain ⟨g, e6, e7, e8, e9, e10⟩ := e5.2 hwk
        rw [e6, nI_ltI (by omega) (by omega)]
        have : ¬ nI g = 0 := nI_ne0 (by omega) (by omega)
        refine ⟨fun q => ⟨hne, ?_⟩, fun q => ⟨this, ?_⟩⟩
        · rcases Nat.lt_or_ge (w + 1) k with h9 | h9
          · exact Or.inl h9
          · have := e9 (by omega); exact Or.inr ⟨by omega, by omega⟩
        · rcases q.2 with h9 | h9
          · have := e10 h9; omega
          · have := e9 h9.1; omega
      · rw [e5.1 hwk]
        refine ⟨fun q => absurd rfl q.1, fun q => ?_⟩
        rcases q.2 with h9 | h9 <;> omega
theorem val_eq {X : mI} {G : mP} {Y : mI} {st cnt r x v q a : Nat} {y : Option Nat} {t n m : Nat} {c : Prop} (h : rRel X G Y st cnt r x v q a y t n m c) {s : Nat} (hs : s < st) {reg : Int32} (hr : vp_in reg 8) : cVal X G st s reg = mRead Y st s reg := by
  have hg : cGv X G st reg (s + 1) = mGv Y st reg (s + 1) := cGv_eq h.st h.th reg (vp_nm hr) _ _ (by omega)
  unfold cVal mRead
  rw [hg]
  obtain ⟨g1, g2⟩ := mGv_in Y (k := s + 1) reg (show s + 1 ≤ st by omega)
  by_cases hk : mGv Y st reg (s + 1) = st
  · rw [if_pos hk, if_pos hk, (h.rg _ (vp_in_nat hr).2).1, if_pos (vp8 hr)]
  · rw [if_neg hk, if_neg hk]
    have hlt : mGv Y st reg (s + 1) < st := by omega
    have hp := mGv_is Y reg (st - (s + 1)) (s + 1) (by show mGv Y st reg (s + 1) < _; omega)
    obtain ⟨-, h2⟩ := h.th _ hlt
    obtain ⟨-, -, -, -, -, -, e5, -⟩ := h2 hp.1
    have hkd := hp.2.1
    refine e5 (fun e => ?_) (fun e => ?_)
    · have : mKind Y (Y 114 (mGvF Y reg (st - (s + 1)) (s + 1))) = 6 := e
      rw [this] at hkd; exact absurd hkd.2 (by decide)
    · have : mKind Y (Y 114 (mGvF Y reg (st - (s + 1)) (s + 1))) = 8 := e
      rw [this] at hkd; exact absurd hkd.2 (by decide)
theorem cR2_eq {k : Int32} (h : 0 ≤ k ∧ k ≤ 9) : cR2 k ↔ mR2 k := by
  rcases kd_cases h with h | h | h | h | h | h | h | h | h | h <;> subst h <;> decide
theorem may_eq {X : mI} {G : mP} {Y : mI} {st cnt r x v q a : Nat} {y : Option Nat} {t n m : Nat} {c : Prop} (h : rRel X G Y st cnt r x v q a y t n m c) (hc : c) (ht : t < 2147483648) {s : Nat} (hs : s < st) (hp : ¬ Y 115 s = 0) : cMay X G st s = mFires Y st s := by
  have hl := h.la.le
  obtain ⟨p1, p2⟩ := h.th s hs
  obtain ⟨p3, p4, p5⟩ := p2 hp
  obtain ⟨v1, v2, -⟩ := p5
  have hrow := h.st.row (Y 114 s)
  have hkd := h.st.knd (Y 114 s)
  unfold cMay mFires
  have c1 : (¬ s + 1 = st ∧ ¬ tf X G (s + 1) 0 = 0) ↔ (s + 1 < st ∧ ¬ Y 115 (s + 1) = 0) := by
    constructor
    · intro q
      have h9 : s + 1 < st := by omega
      exact ⟨h9, by rw [← (h.th (s + 1) h9).1]; exact q.2⟩
    · intro q
      exact ⟨by omega, by rw [(h.th (s + 1) q.1).1]; exact q.2⟩
  by_cases d1 : s + 1 < st ∧ ¬ Y 115 (s + 1) = 0
  · rw [if_pos (c1.mpr d1), if_pos d1]
  · rw [if_neg (fun q => d1 (c1.mp q)), if_neg d1]
    have hti : ti X G s 0 = mKind Y (Y 114 s) := by unfold ti; rw [p3]; exact hrow.1
    have c2 : (X 5 1 = nI s ∧ ¬ cMr X G st s (roG G (thG G s)) = true) ↔ (nI s = Y 104 1 ∧ (mR1 (mKind Y (Y 114 s)) ∧ ¬ mRdy Y st s (Y 108 (Y 114 s).toNatClampNeg) = true ∨ mR2 (mKind Y (Y 114 s)) ∧ ¬ mRdy Y st s (Y 109 (Y 114 s).toNatClampNeg) = true)) := by
      rw [h.st.sg 1 (by decide)]
      refine and_congr ⟨Eq.symm, Eq.symm⟩ ?_
      unfold cMr
      rw [p3, hrow.1]
      by_cases hk0 : mKind Y (Y 114 s) = 0
      · rw [hk0]; simp [cR2, mR1, mR2]
      · have hr := hrow.2.2 hk0
        have hv := h.st.reg _ hk0
        rw [hr.1, hr.2.1, rdy_eq h ht hs hv.2.1, rdy_eq h ht hs hv.2.2]
        have := cR2_eq hkd
        simp only [this, Bool.and_eq_true, decide_eq_true_eq]
        grind
    by_cases d2 : nI s = Y 104 1 ∧ (mR1 (mKind Y (Y 114 s)) ∧ ¬ mRdy Y st s (Y 108 (Y 114 s).toNatClampNeg) = true ∨ mR2 (mKind Y (Y 114 s)) ∧ ¬ mRdy Y st s (Y 109 (Y 114 s).toNatClampNeg) = true)
    · rw [if_pos (c2.mpr d2), if_pos d2]
    · rw [if_neg (fun q => d2 (c2.mp q)), if_neg d2, hti]
      by_cases d3 : mKind Y (Y 114 s) = 5
      · rw [if_neg (fun q => q d3)]
        have hold : cOld X G st s = mOld Y st s := by
          unfold cOld mOld
          rw [cOld_eq h.st h.th _ _ (by omega), Bool.or_comm]
          congr 1
          obtain ⟨z, z1, z2, z3⟩ := h.sa
          rw [z1, h.nw.1]
          refine decide_eq_decide.mpr ?_
          rw [nI_eq (by omega) (by omega)]
          exact z3 hc
        rw [hold, h.st.sg 4 (by decide), h.st.sg 5 (by decide)]
        have hk0 : ¬ mKind Y (Y 114 s) = 0 := fun e => by rw [e] at d3; exact absurd d3 (by decide)
        have hpl : cPl X G s = mPlace Y s := by
          unfold cPl mPlace ti
          rw [p3, (hrow.2.2 hk0).2.2, v1]
        by_cases d4 : nI s = Y 104 4 ∧ mOld Y st s = true
        · rw [if_pos ⟨d4.1.symm, d4.2⟩, if_pos ⟨d4.1, d3, d4.2⟩]
        · rw [if_neg (fun q => d4 ⟨q.1.symm, q.2⟩), if_neg (fun q => d4 ⟨q.1, q.2.2⟩), hpl]
          refine decide_eq_decide.mpr ?_
          unfold mLat
          rw [h.nw.1, h.nw.2, p4, h.st.lt _ (by omega)]
          simp only [d3, not_true, false_or]
          exact or_congr ⟨fun q e => q e.symm, fun q e => q e.symm⟩ Iff.rfl
      · rw [if_pos d3, if_neg (fun q => d3 q.2.1)]
        simp [d3]
