theorem lw_unit {Sh : mS} {S : mI} {G : mP} {B st cnt r x v q a : Nat} {y : Option Nat} {t n : Nat} (h : jJ Sh S G S B st cnt r x v q a y t n) {sg : Nat} (h30 : sg ≤ 30) (h1 : S 0 1 = nI sg) (h2 : S 100 1 = nI sg) (u : Int32) {S1 S2 : mI} (e1 : S1 = if (32 ≤ u ∧ u ≤ 126) ∧ sg < 30 then mu (mu S 1 sg u) 0 1 (nI (sg + 1)) else S) (e2 : S2 = if (32 ≤ u ∧ u ≤ 126) ∧ ¬ S1 100 1 = 30 then mUnit S1 u else S1) : S1 100 1 = nI sg ∧ (if (32 ≤ u ∧ u ≤ 126) ∧ sg < 30 then (1 : Int32) else 0) = (if (32 ≤ u ∧ u ≤ 126) ∧ ¬ S1 100 1 = 30 then 1 else 0) ∧ ∃ st2 cnt2 r2 x2 v2 q2 a2 y2 t2 n2, jJ Sh S2 G S2 B st2 cnt2 r2 x2 v2 q2 a2 y2 t2 n2 := by
  have h100 : S1 100 1 = nI sg := by
    rw [e1]
    split
    · rw [mu_na _ _ _ (by decide), mu_na _ _ _ (by decide)]; exact h2
    · exact h2
  have c : ((32 ≤ u ∧ u ≤ 126) ∧ ¬ S1 100 1 = 30) ↔ ((32 ≤ u ∧ u ≤ 126) ∧ sg < 30) := by
    rw [h100, show (30 : Int32) = nI 30 from rfl, nI_eq (by omega) (by omega)]
    constructor
    · intro e; exact ⟨e.1, by omega⟩
    · intro e; exact ⟨e.1, by omega⟩
  refine ⟨h100, ?_, ?_⟩
  · by_cases hc : (32 ≤ u ∧ u ≤ 126) ∧ sg < 30
    · rw [if_pos hc, if_pos (c.mpr hc)]
    · rw [if_neg hc, if_neg (fun e => hc (c.mp e))]
  · by_cases hc : (32 ≤ u ∧ u ≤ 126) ∧ sg < 30
    · rw [if_pos hc] at e1
      rw [if_pos (c.mpr hc)] at e2
      have hy : ∀ r, 100 ≤ r ∧ r ≠ 135 ∧ r ≠ 136 → S1 r = S r := fun r hr => by rw [e1, mu_row _ _ _ (by omega), mu_row _ _ _ (by omega)]
      have hj := op_unit (jJ_Y h hy) hc.2 h1 h100 u
      rw [← e1, ← e2] at hj
      refine ⟨_, _, _, _, _, _, _, _, _, _, jJ_X hj (fun r hr => ?_)⟩
      rw [e2, mUnit, mu_row _ _ _ (by omega), mu_row _ _ _ (by omega)]
    · rw [if_neg hc] at e1
      rw [if_neg (fun e => hc (c.mp e))] at e2
      rw [e2, e1]
      exact ⟨_, _, _, _, _, _, _, _, _, _, h⟩
theorem cLn_hi {Sh : mS} {S : mI} {G : mP} (ht : okT Sh S G) (sg : Nat) {r : Nat} (hr : 100 ≤ r) : cLn S G sg r = S r ∧ mu (cFwS S sg) 0 1 0 r = S r := by
  refine ⟨?_, by rw [mu_row _ _ _ (by omega), cFwS_n _ _ (by omega) (by omega)]⟩
  have hk : okT Sh (mu (mCpy (mu (cFwS S sg) 0 1 0) 3 5 8) 4 1 (cFwS S sg 2 2 + 1)) G := okT_of ht (fun k hk => by
    have := ht.r hk
    rw [mu_row _ _ _ (by omega), mCpy_n _ _ _ _ (by omega), mu_row _ _ _ (by omega), cFwS_n _ _ (by omega) (by omega)])
  unfold cLn
  rw [cAnew_n hk (by omega), mu_row _ _ _ (by omega), mCpy_n _ _ _ _ (by omega), mu_row _ _ _ (by omega), cFwS_n _ _ (by omega) (by omega)]
theorem mAnew_lo (Y : mI) {r : Nat} (h : r < 100) : mAnew Y r = Y r := mAnew_n Y (by omega)
theorem mLineS_lo (Y : mI) (sg : Nat) {r : Nat} (h : r < 100) : mLineS Y sg r = Y r := by
  unfold mLineS
  generalize mLw Y sg = p
  obtain ⟨o, z⟩ := p
  cases o with
  | some k => show mu _ 100 1 0 r = _; rw [mu_row _ _ _ (by omega), mRow_n _ _ (by omega)]
  | none => show mAnew _ r = _; rw [mAnew_lo _ h, mu_row _ _ _ (by omega), mu_row _ _ _ (by omega), mCp_n _ _ (by omega), mu_row _ _ _ (by omega), mRow_n _ _ (by omega)]
theorem lw_line {Sh : mS} {S : mI} {G : mP} {B st cnt r x v q a : Nat} {y : Option Nat} {t n : Nat} (h : jJ Sh S G S B st cnt r x v q a y t n) {sg : Nat} (h30 : sg ≤ 30) (h2 : S 100 1 = nI sg) {S1 : mI} (e1 : S1 = if cFwR S sg = -1 then cLn S G sg else mu (cFwS S sg) 0 1 0) : S1 100 1 = nI sg ∧ (if cFwR S sg = -1 then cFwS S sg 2 2 + 1 else -1 - cFwR S sg) = mLineR S1 sg ∧ ∃ st2 cnt2 r2 x2 v2 q2 a2 y2 t2 n2, jJ Sh (mLineS S1 sg) G (mLineS S1 sg) B st2 cnt2 r2 x2 v2 q2 a2 y2 t2 n2 := by
  have hy : ∀ r, 100 ≤ r ∧ r ≠ 135 ∧ r ≠ 136 → S1 r = S r := fun r hr => by
    obtain ⟨c1, c2⟩ := cLn_hi h.ci.2.1 sg hr.1
    rw [e1]
    split
    · exact c1
    · exact c2
  obtain ⟨a1, st2, r2, x2, v2, q2, a2, y2, t2, n2, hj⟩ := op_line (jJ_Y h hy) h30
  rw [← e1] at hj
  exact ⟨by rw [hy 100 (by decide)]; exact h2, a1, _, _, _, _, _, _, _, _, _, _, jJ_X hj (fun r hr => mLineS_lo _ _ hr.1)⟩
theorem lw_code {Sh : mS} {S : mI} {G : mP} {B st cnt r x v q a : Nat} {y : Option Nat} {t n : Nat} (h : jJ Sh S G S B st cnt r x v q a y t n) (k d a3 b3 i : Int32) {S1 : mI} {G1 : mP} {Sh1 : mS} {w : Int32} (hc : ((¬ cCodeOk S k d a3 b3) ∧ w = -1 ∧ Sh1 = Sh ∧ S1 = S ∧ G1 = G) ∨ (cCodeOk S k d a3 b3 ∧ w = nI cnt ∧ Sh1 = mTn Sh (32 + cnt) (0, 2, 0) ∧ S1 = cCodS S G cnt k d a3 b3 i ∧ G1 = cCodG G cnt)) : (0 ≤ (S1 100 10).toInt ∧ (S1 100 10).toInt ≤ 40) ∧ w = (if mCodeOk S1 k d a3 b3 then S1 100 10 else -1) ∧ ∃ st2 cnt2 r2 x2 v2 q2 a2 y2 t2 n2, jJ Sh1 (if mCodeOk S1 k d a3 b3 then mCode S1 k d a3 b3 i else S1) G1 (if mCodeOk S1 k d a3 b3 then mCode S1 k d a3 b3 i else S1) B st2 cnt2 r2 x2 v2 q2 a2 y2 t2 n2 := by
  have hs := h.re.st
  have h40 := hs.c40
  have lt8 : ∀ z : Int32, (0 ≤ z ∧ z < 8) ↔ (0 ≤ z ∧ z ≤ 7) := fun z => by
    simp only [i_le, i_lt, Int32.reduceToInt]
    omega
  have hcc : ∀ U : mI, U 100 10 = nI cnt → (mCodeOk U k d a3 b3 ↔ cCodeOk S k d a3 b3) := fun U hU => by
    unfold mCodeOk cCodeOk
    rw [hU, hs.cc, show (40 : Int32) = nI 40 from rfl, nI_eq (by omega) (by omega), nI_leI (by omega) (by omega), lt8 d, lt8 a3, lt8 b3]
    constructor
    · rintro ⟨p1, p2, p3, p4, p5⟩; exact ⟨p1, by omega, p2, p3, p4⟩
    · rintro ⟨p1, p2, p3, p4, p5⟩; exact ⟨p1, p3, p4, p5, by omega⟩
  have hin : 0 ≤ (nI cnt).toInt ∧ (nI cnt).toInt ≤ 40 := by rw [i_nI (by omega)]; omega
  rcases hc with ⟨c0, rfl, rfl, rfl, rfl⟩ | ⟨c0, rfl, rfl, e1, rfl⟩
  · have := hcc S1 hs.mc
    rw [if_neg (fun e => c0 (this.mp e)), if_neg (fun e => c0 (this.mp e))]
    exact ⟨by rw [hs.mc]; exact hin, rfl, _, _, _, _, _, _, _, _, _, _, h⟩
  · obtain ⟨hw, ht, h4, hb, h6, h40, hr, hi, hl, -⟩ := h.ci
    have hc40 : cnt < 40 := by
      have := c0.2.1
      rw [h6, show (40 : Int32) = nI 40 from rfl, nI_leI (by omega) (by omega)] at this
      omega
    have hn : Sh (32 + cnt) = none := h.fr cnt (Nat.le_refl _) (by omega)
    have hy : ∀ r, 100 ≤ r ∧ r ≠ 135 ∧ r ≠ 136 → S1 r = S r := fun r hr => by
      have hT2 : okT (mTn Sh (32 + cnt) (0, 2, 0)) (mu (cMk (mIn S (32 + cnt)) (32 + cnt) k d a3 b3 i) 6 2 (nI (cnt + 1))) (cCodG G cnt) := okT_new ht hn (fun j hj => by
        have hr := ht.r hj
        rw [mu_na _ _ _ (by omega)]
        unfold cMk
        rw [mu_na _ _ _ (by omega), mu_na _ _ _ (by omega), mu_na _ _ _ (by omega), mu_na _ _ _ (by omega), mu_na _ _ _ (by omega)]
        exact if_neg (by omega))
      rw [e1]
      unfold cCodS
      rw [cAnew_n hT2 (by omega), mu_row _ _ _ (by omega)]
      unfold cMk
      rw [mu_row _ _ _ (by omega), mu_row _ _ _ (by omega), mu_row _ _ _ (by omega), mu_row _ _ _ (by omega), mu_row _ _ _ (by omega)]
      funext f
      exact if_neg (by omega)
    have e10 : S1 100 10 = nI cnt := by rw [hy 100 (by decide)]; exact hs.mc
    have hm := (hcc S1 e10).mpr c0
    have hj := op_code (jJ_Y h hy) k d a3 b3 i c0
    rw [← e1] at hj
    rw [if_pos hm, if_pos hm, e10]
    refine ⟨hin, rfl, _, _, _, _, _, _, _, _, _, _, jJ_X hj (fun r hr => ?_)⟩
    unfold mCode
    rw [mAnew_lo _ hr.1, mu_row _ _ _ (by omega), mu_row _ _ _ (by omega), mu_row _ _ _ (by omega), mu_row _ _ _ (by omega), mu_row _ _ _ (by omega), mu_row _ _ _ (by omega)]
theorem lw_mem {Sh : mS} {S : mI} {G : mP} {B st cnt r x v q a : Nat} {y : Option Nat} {t n : Nat} (h : jJ Sh S G S B st cnt r x v q a y t n) (k w : Int32) {S1 S2 : mI} (e1 : S1 = if 0 ≤ k ∧ k < 64 then cAnew (mu S 10 k.toNatClampNeg w) G else S) (e2 : S2 = if 0 ≤ k ∧ k ≤ 63 then mAnew (mu S1 112 k.toNatClampNeg w) else S1) : (if 0 ≤ k ∧ k < 64 then (1 : Int32) else 0) = (if 0 ≤ k ∧ k ≤ 63 then 1 else 0) ∧ ∃ st2 cnt2 r2 x2 v2 q2 a2 y2 t2 n2, jJ Sh S2 G S2 B st2 cnt2 r2 x2 v2 q2 a2 y2 t2 n2 := by
  have c : (0 ≤ k ∧ k < 64) ↔ (0 ≤ k ∧ k ≤ 63) := by
    simp only [i_le, i_lt, Int32.reduceToInt]
    omega
  have ht := h.ci.2.1
  by_cases hc : 0 ≤ k ∧ k < 64
  · have hc2 := c.mp hc
    rw [if_pos hc, if_pos hc2]
    rw [if_pos hc] at e1
    rw [if_pos hc2] at e2
    have hk : okT Sh (mu S 10 k.toNatClampNeg w) G := okT_of ht (fun j hj => by have := ht.r hj; rw [mu_row _ _ _ (by omega)])
    have hy : ∀ r, 100 ≤ r ∧ r ≠ 135 ∧ r ≠ 136 → S1 r = S r := fun r hr => by rw [e1, cAnew_n hk (by omega), mu_row _ _ _ (by omega)]
    have hj := op_mem (jJ_Y h hy) (j := k.toNatClampNeg) w
    rw [← e1, ← e2] at hj
    exact ⟨rfl, _, _, _, _, _, _, _, _, _, _, jJ_X hj (fun r hr => by rw [e2, mAnew_lo _ hr.1, mu_row _ _ _ (by omega)])⟩
  · rw [if_neg hc, if_neg (fun e => hc (c.mpr e))]
    rw [if_neg hc] at e1
    rw [if_neg (fun e => hc (c.mpr e))] at e2
    rw [e2, e1]
    exact ⟨rfl, _, _, _, _, _, _, _, _, _, _, h⟩
theorem lw_lat {Sh : mS} {S : mI} {G : mP} {B st cnt r x v q a : Nat} {y : Option Nat} {t n : Nat} (h : jJ Sh S G S B st cnt r x v q a y t n) (k w : Int32) {S1 S2 : mI} (e1 : S1 = if (0 ≤ k ∧ k < 8) ∧ (1 ≤ w ∧ w ≤ 16) then cAnew (mu S 11 k.toNatClampNeg w) G else S) (e2 : S2 = if (0 ≤ k ∧ k ≤ 7) ∧ (1 ≤ w ∧ w ≤ 16) then mAnew (mu S1 113 k.toNatClampNeg w) else S1) : (if (0 ≤ k ∧ k < 8) ∧ (1 ≤ w ∧ w ≤ 16) then (1 : Int32) else 0) = (if (0 ≤ k ∧ k ≤ 7) ∧ (1 ≤ w ∧ w ≤ 16) then 1 else 0) ∧ ∃ st2 cnt2 r2 x2 v2 q2 a2 y2 t2 n2, jJ Sh S2 G S2 B st2 cnt2 r2 x2 v2 q2 a2 y2 t2 n2 := by
  have c : ((0 ≤ k ∧ k < 8) ∧ (1 ≤ w ∧ w ≤ 16)) ↔ ((0 ≤ k ∧ k ≤ 7) ∧ (1 ≤ w ∧ w ≤ 16)) := by
    refine and_congr_left fun _ => ?_
    simp only [i_le, i_lt, Int32.reduceToInt]
    omega
  have ht := h.ci.2.1
  by_cases hc : (0 ≤ k ∧ k < 8) ∧ (1 ≤ w ∧ w ≤ 16)
  · have hc2 := c.mp hc
    rw [if_pos hc, if_pos hc2]
    rw [if_pos hc] at e1
    rw [if_pos hc2] at e2
    have hk : okT Sh (mu S 11 k.toNatClampNeg w) G := okT_of ht (fun j hj => by have := ht.r hj; rw [mu_row _ _ _ (by omega)])
    have hy : ∀ r, 100 ≤ r ∧ r ≠ 135 ∧ r ≠ 136 → S1 r = S r := fun r hr => by rw [e1, cAnew_n hk (by omega), mu_row _ _ _ (by omega)]
    have hj := op_lat (jJ_Y h hy) (j := k.toNatClampNeg) w
    rw [← e1, ← e2] at hj
    exact ⟨rfl, _, _, _, _, _, _, _, _, _, _, jJ_X hj (fun r hr => by rw [e2, mAnew_lo _ hr.1, mu_row _ _ _ (by omega)])⟩
  · rw [if_neg hc, if_neg (fun e => hc (c.mpr e))]
    rw [if_neg hc] at e1
    rw [if_neg (fun e => hc (c.mpr e))] at e2
    rw [e2, e1]
    exact ⟨rfl, _, _, _, _, _, _, _, _, _, _, h⟩
theorem lw_run {Sh : mS} {S : mI} {G : mP} {B st cnt r x v q a : Nat} {y : Option Nat} {t n : Nat} (h : jJ Sh S G S B st cnt r x v q a y t n) (hB : B + 3000 < 100000000) (cy : Int32) {S1 S2 : mI} {G1 : mP} (e1 : S1 = if 1 ≤ cy ∧ cy ≤ 3000 then (cRunF st cnt cy.toNatClampNeg (S, G)).1 else S) (e3 : G1 = if 1 ≤ cy ∧ cy ≤ 3000 then (cRunF st cnt cy.toNatClampNeg (S, G)).2 else G) (e2 : S2 = if 1 ≤ cy ∧ cy ≤ 3000 then mRunF st cy.toNatClampNeg S1 else S1) : (mOk S1 st cnt ∧ 0 ≤ (S1 100 32).toInt ∧ (S1 100 32).toInt + 24000 < 2147483647) ∧ (if 1 ≤ cy ∧ cy ≤ 3000 then (cRunF st cnt cy.toNatClampNeg (S, G)).1 14 9 else -1) = (if 1 ≤ cy ∧ cy ≤ 3000 then mRunF st cy.toNatClampNeg S1 100 20 else -1) ∧ ∃ st2 cnt2 r2 x2 v2 q2 a2 y2 t2 n2, jJ Sh S2 G1 S2 (B + 3000) st2 cnt2 r2 x2 v2 q2 a2 y2 t2 n2 := by
  have hb := h.bd
  have hy : ∀ r, 100 ≤ r ∧ r ≠ 135 ∧ r ≠ 136 → S1 r = S r := fun r hr => by
    rw [e1]
    split
    · exact cRunF_hi (by unfold cFx; omega) _ (S, G) h.ci
    · rfl
  have hj := jJ_Y h hy
  have h32 : (S1 100 32).toInt = n := by rw [hj.re.lg.2.1, i_nI (by omega)]
  refine ⟨⟨hj.mo, by omega, by omega⟩, ?_⟩
  by_cases hc : 1 ≤ cy ∧ cy ≤ 3000
  · rw [if_pos hc, if_pos hc]
    rw [if_pos hc] at e1 e2 e3
    have hN : cy.toNatClampNeg ≤ 3000 := by
      simp only [i_le, Int32.reduceToInt] at hc
      have := i_cl (x := cy) (by omega)
      omega
    obtain ⟨t2, n2, hk⟩ := op_run hj hN hB
    rw [← e1, ← e2, ← e3] at hk
    refine ⟨?_, _, _, _, _, _, _, _, _, _, _, jJ_X hk (fun r hr => by rw [e2]; exact (mRunF_lo st _ S1).1 r (by omega))⟩
    have := hk.re.nw
    rw [← e1, ← e2, this.1, this.2]
  · rw [if_neg hc, if_neg hc]
    rw [if_neg hc] at e1 e2 e3
    rw [e2, e1, e3]
    exact ⟨rfl, _, _, _, _, _, _, _, _, _, _, jJ_B h (by omega)⟩
theorem lw_reg {Sh : mS} {S : mI} {G : mP} {B st cnt r x v q a : Nat} {y : Option Nat} {t n : Nat} (h : jJ Sh S G S B st cnt r x v q a y t n) (k : Int32) : (if 0 ≤ k ∧ k < 8 then S 16 k.toNatClampNeg else -1) = (if 0 ≤ k ∧ k ≤ 7 then S 125 k.toNatClampNeg else -1) := by
  have c : (0 ≤ k ∧ k < 8) ↔ (0 ≤ k ∧ k ≤ 7) := by
    simp only [i_le, i_lt, Int32.reduceToInt]
    omega
  by_cases hc : 0 ≤ k ∧ k < 8
  · rw [if_pos hc, if_pos (c.mp hc)]
    exact (h.re.rg _ (vp_in_nat (in8 hc)).2).1
  · rw [if_neg hc, if_neg (fun e => hc (c.mpr e))]
theorem lw_pl {Sh : mS} {S : mI} {G : mP} {B st cnt r x v q a : Nat} {y : Option Nat} {t n : Nat} (h : jJ Sh S G S B st cnt r x v q a y t n) (k : Int32) : (if 0 ≤ k ∧ k < 64 then S 17 k.toNatClampNeg else -1) = (if 0 ≤ k ∧ k ≤ 63 then S 127 k.toNatClampNeg else -1) := by
  have c : (0 ≤ k ∧ k < 64) ↔ (0 ≤ k ∧ k ≤ 63) := by
    simp only [i_le, i_lt, Int32.reduceToInt]
    omega
  by_cases hc : 0 ≤ k ∧ k < 64
  · rw [if_pos hc, if_pos (c.mp hc)]
    exact h.re.ce _ (vp_in_nat (in_lt2 (n := 64) hc (by decide))).2
  · rw [if_neg hc, if_neg (fun e => hc (c.mpr e))]
theorem lw_faith {Sh : mS} {S : mI} {G : mP} {B st cnt r x v q a : Nat} {y : Option Nat} {t n : Nat} (h : jJ Sh S G S B st cnt r x v q a y t n) (hB : B < 100000000) : ∃ g m, oH S S cnt g m ∧ ∀ S1 : mI, (∀ x, x ≠ 22 → x ≠ 23 → S1 x = S x) → mOk S1 st cnt ∧ mFa S1 g ∧ ∀ S2 : mI, (∀ x, x ≠ 135 → x ≠ 136 → S2 x = S1 x) → ∃ st2 cnt2 r2 x2 v2 q2 a2 y2 t2 n2, jJ Sh S2 G S2 B st2 cnt2 r2 x2 v2 q2 a2 y2 t2 n2 := by
  obtain ⟨P, g, m, c1, c2, h1, h2⟩ := op_faith h hB
  refine ⟨g, m, h2, fun S1 hS1 => ?_⟩
  have hy : ∀ r, 100 ≤ r ∧ r ≠ 135 ∧ r ≠ 136 → S1 r = S r := fun r hr => hS1 r (by omega) (by omega)
  refine ⟨(jJ_Y h hy).mo, ch_mFa (chX_Y c1 hy) (by omega), fun S2 hS2 => ⟨st, cnt, r, x, v, q, a, y, t, n, ?_⟩⟩
  exact jJ_X (jJ_Y h (fun r hr => by rw [hS2 r hr.2.1 hr.2.2]; exact hy r hr)) (fun r hr => by rw [hS2 r (by omega) (by omega)]; exact hS1 r hr.2.1 hr.2.2)
