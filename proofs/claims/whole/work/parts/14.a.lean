/-- both sides between two calls -/
def jJ (Sh : mS) (X : mI) (G : mP) (Y : mI) (B st cnt r x v q a : Nat) (y : Option Nat) (t n : Nat) : Prop := (cInv Sh X G st cnt) ∧ (okM Sh G) ∧ (gcl Sh G) ∧ (∀ j, cnt ≤ j → j < 41 → Sh (32 + j) = none) ∧ (∀ r, Sh r = some (0, 2, 0) → r < 72) ∧ (rRel X G Y st cnt r x v q a y t n 0 False) ∧ (mOk Y st cnt) ∧ (∃ (P : mI) (g : Nat), pF P ∧ chX P Y st r x v q a y g ∧ g ≤ B) ∧ (∃ sg : Nat, sg ≤ 30 ∧ X 0 1 = nI sg ∧ Y 100 1 = nI sg ∧ ∀ k, k < 30 → X 1 k = Y 101 k) ∧ (Y 100 21 = 0 ∨ Y 100 21 = 1) ∧ (t ≤ B ∧ n ≤ 8 * B)
theorem jJ.ci {Sh : mS} {X : mI} {G : mP} {Y : mI} {B st cnt r x v q a : Nat} {y : Option Nat} {t n : Nat} (h : jJ Sh X G Y B st cnt r x v q a y t n) : cInv Sh X G st cnt := h.1
theorem jJ.om {Sh : mS} {X : mI} {G : mP} {Y : mI} {B st cnt r x v q a : Nat} {y : Option Nat} {t n : Nat} (h : jJ Sh X G Y B st cnt r x v q a y t n) : okM Sh G := h.2.1
theorem jJ.gc {Sh : mS} {X : mI} {G : mP} {Y : mI} {B st cnt r x v q a : Nat} {y : Option Nat} {t n : Nat} (h : jJ Sh X G Y B st cnt r x v q a y t n) : gcl Sh G := h.2.2.1
theorem jJ.fr {Sh : mS} {X : mI} {G : mP} {Y : mI} {B st cnt r x v q a : Nat} {y : Option Nat} {t n : Nat} (h : jJ Sh X G Y B st cnt r x v q a y t n) : ∀ j, cnt ≤ j → j < 41 → Sh (32 + j) = none := h.2.2.2.1
theorem jJ.s2 {Sh : mS} {X : mI} {G : mP} {Y : mI} {B st cnt r x v q a : Nat} {y : Option Nat} {t n : Nat} (h : jJ Sh X G Y B st cnt r x v q a y t n) : ∀ r, Sh r = some (0, 2, 0) → r < 72 := h.2.2.2.2.1
theorem jJ.re {Sh : mS} {X : mI} {G : mP} {Y : mI} {B st cnt r x v q a : Nat} {y : Option Nat} {t n : Nat} (h : jJ Sh X G Y B st cnt r x v q a y t n) : rRel X G Y st cnt r x v q a y t n 0 False := h.2.2.2.2.2.1
theorem jJ.mo {Sh : mS} {X : mI} {G : mP} {Y : mI} {B st cnt r x v q a : Nat} {y : Option Nat} {t n : Nat} (h : jJ Sh X G Y B st cnt r x v q a y t n) : mOk Y st cnt := h.2.2.2.2.2.2.1
theorem jJ.ch {Sh : mS} {X : mI} {G : mP} {Y : mI} {B st cnt r x v q a : Nat} {y : Option Nat} {t n : Nat} (h : jJ Sh X G Y B st cnt r x v q a y t n) : ∃ (P : mI) (g : Nat), pF P ∧ chX P Y st r x v q a y g ∧ g ≤ B := h.2.2.2.2.2.2.2.1
theorem jJ.tx {Sh : mS} {X : mI} {G : mP} {Y : mI} {B st cnt r x v q a : Nat} {y : Option Nat} {t n : Nat} (h : jJ Sh X G Y B st cnt r x v q a y t n) : ∃ sg : Nat, sg ≤ 30 ∧ X 0 1 = nI sg ∧ Y 100 1 = nI sg ∧ ∀ k, k < 30 → X 1 k = Y 101 k := h.2.2.2.2.2.2.2.2.1
theorem jJ.ov {Sh : mS} {X : mI} {G : mP} {Y : mI} {B st cnt r x v q a : Nat} {y : Option Nat} {t n : Nat} (h : jJ Sh X G Y B st cnt r x v q a y t n) : Y 100 21 = 0 ∨ Y 100 21 = 1 := h.2.2.2.2.2.2.2.2.2.1
theorem jJ.bd {Sh : mS} {X : mI} {G : mP} {Y : mI} {B st cnt r x v q a : Nat} {y : Option Nat} {t n : Nat} (h : jJ Sh X G Y B st cnt r x v q a y t n) : t ≤ B ∧ n ≤ 8 * B := h.2.2.2.2.2.2.2.2.2.2

theorem cAt_lt {cnt : Nat} (h : cnt ≤ 40) (n : Int32) : cAt cnt n < 72 := by
  unfold cAt
  split
  · rename_i e
    have := (in_cnt (Int32.not_lt.mpr e.1) e.2 h).2
    omega
  · omega
theorem rRel_X {X : mI} {G : mP} {Y : mI} {st cnt r x v q a : Nat} {y : Option Nat} {t n m : Nat} {c : Prop} {X' : mI} {Sh : mS} (h : rRel X G Y st cnt r x v q a y t n m c) (ht : okT Sh X G) (hx : ∀ r, r < 100 ∧ r ≠ 22 ∧ r ≠ 23 → X' r = X r) : rRel X' G Y st cnt r x v q a y t n m c := by
  have hl := h.la.le
  refine ⟨?_, h.la, fun k hk => ?_, ?_, ?_, ?_, ?_, fun k hk => ?_, fun k hk => ?_, ?_, ?_⟩
  · refine ⟨by rw [hx 4 (by decide)]; exact h.st.cs, h.st.ms, fun k hk => by rw [hx 5 (by decide)]; exact h.st.sg k hk, by rw [hx 5 (by decide)]; exact h.st.s7, by rw [hx 6 (by decide)]; exact h.st.cc, h.st.mc, h.st.c40, fun n => ?_, h.st.knd, h.st.reg, fun k hk => by rw [hx 10 (by decide)]; exact h.st.bs k hk, fun k hk => by rw [hx 11 (by decide)]; exact h.st.lt k hk⟩
    rw [hx _ (by have := cAt_lt h.st.c40 n; have := cAt_r cnt n; omega)]
    exact h.st.row n
  · have := ht.r (k := k) (by omega)
    unfold tRl tf
    rw [hx _ (by omega)]
    exact h.th k hk
  · rw [hx 14 (by decide)]; exact h.nw
  · rw [hx 14 (by decide)]; exact h.nx
  · rw [hx 14 (by decide)]; exact h.go
  · rw [hx 14 (by decide)]; exact h.ov
  · rw [hx 16 (by decide), hx 19 (by decide)]; exact h.rg k hk
  · rw [hx 17 (by decide)]; exact h.ce k hk
  · unfold rLog; rw [hx 12 (by decide), hx 13 (by decide)]; exact h.lg
  · rw [hx 14 (by decide)]; exact h.sa
theorem rRel_Y {X : mI} {G : mP} {Y : mI} {st cnt r x v q a : Nat} {y : Option Nat} {t n m : Nat} {c : Prop} {Y' : mI} (h : rRel X G Y st cnt r x v q a y t n m c) (hy : ∀ r, 100 ≤ r ∧ r ≠ 135 ∧ r ≠ 136 → Y' r = Y r) : rRel X G Y' st cnt r x v q a y t n m c := by
  have hk : ∀ n, mKind Y' n = mKind Y n := fun n => mKind_of (by rw [hy 100 (by decide)]) (hy 106 (by decide)) n
  refine ⟨rSt_of h.st (fun _ _ => rfl) (by rw [hy 100 (by decide)]; exact ⟨rfl, rfl, rfl⟩) (fun r hr => hy r (by omega)), lay_of h.la (by rw [hy 100 (by decide)]) (hy 104 (by decide)), fun k hk9 => ?_, ?_, ?_, ?_, ?_, fun k hk9 => ?_, fun k hk9 => ?_, ?_, ?_⟩
  · unfold tRl
    rw [hk, hy 114 (by decide), hy 115 (by decide), hy 116 (by decide), hy 117 (by decide), hy 118 (by decide), hy 119 (by decide), hy 120 (by decide)]
    exact h.th k hk9
  · rw [hy 100 (by decide)]; exact h.nw
  · rw [hy 100 (by decide)]; exact h.nx
  · rw [hy 100 (by decide)]; exact h.go
  · rw [hy 100 (by decide)]; exact h.ov
  · rw [hy 125 (by decide), hy 126 (by decide)]; exact h.rg k hk9
  · rw [hy 127 (by decide)]; exact h.ce k hk9
  · unfold rLog; rw [hy 100 (by decide), hy 129 (by decide), hy 130 (by decide), hy 131 (by decide), hy 132 (by decide)]; exact h.lg
  · rw [hy 100 (by decide)]; exact h.sa
theorem cInv_X {Sh : mS} {X X' : mI} {G : mP} {st cnt : Nat} (h : cInv Sh X G st cnt) (h2 : ∀ r, Sh r = some (0, 2, 0) → r < 72) (hx : ∀ r, r < 100 ∧ r ≠ 22 ∧ r ≠ 23 → X' r = X r) : cInv Sh X' G st cnt := by
  obtain ⟨a1, a2, a3, a4, a5, a6, a7, a8, a9, a10⟩ := h
  refine ⟨a1, okT_of a2 (fun k hk => by have := a2.r hk; rw [hx _ (by omega)]), by rw [hx 4 (by decide)]; exact a3, a4, by rw [hx 6 (by decide)]; exact a5, a6, a7, fun r hr => ?_, a9, by rw [hx 12 (by decide)]; exact a10⟩
  rw [hx r (by have := h2 r hr; have := a9 r hr; omega)]
  exact a8 r hr
theorem chX_Y {P Y Y' : mI} {st r x v q a : Nat} {y : Option Nat} {g : Nat} (h : chX P Y st r x v q a y g) (hy : ∀ r, 100 ≤ r ∧ r ≠ 135 ∧ r ≠ 136 → Y' r = Y r) : chX P Y' st r x v q a y g := by
  obtain ⟨hP, hl, hL, hA, hB⟩ := h
  refine ⟨?_, lay_of hl (by rw [hy 100 (by decide)]) (hy 104 (by decide)), chL_of hL (by rw [hy 100 (by decide)]) ⟨hy 129 (by decide), hy 130 (by decide), hy 131 (by decide)⟩, fun e => ?_, fun e => ?_⟩
  · unfold pS at hP ⊢
    rw [hy 100 (by decide), hy 106 (by decide), hy 107 (by decide), hy 108 (by decide), hy 109 (by decide), hy 110 (by decide), hy 112 (by decide)]
    exact hP
  · rw [hy 100 (by decide)] at e ⊢
    obtain ⟨h23, hC⟩ := hA e
    refine ⟨h23, ?_⟩
    have up : ∀ k, k ≤ st → chK P Y' v st (qN P g) k = chK P Y v st (qN P g) k := fun k h2 => chK_of (st - k) k (by omega) (fun j h3 h4 => by rw [hy 115 (by decide)])
    refine ⟨fun k hk hp hb => ?_, fun hb => ?_, ?_, ?_⟩
    · rw [up (k + 1) (by omega)] at hb ⊢
      rw [hy 115 (by decide)] at hp
      have := hC.1 k hk hp hb
      unfold chT at this ⊢
      rw [hy 114 (by decide), hy 116 (by decide), hy 117 (by decide), hy 118 (by decide)]
      exact this
    · rw [up 0 (by omega)] at hb ⊢
      rw [hy 100 (by decide)]
      exact hC.2.1 hb
    · rw [hy 125 (by decide)]; exact hC.2.2.1
    · rw [hy 127 (by decide)]; exact hC.2.2.2
  · rw [hy 100 (by decide)] at e ⊢
    exact hB e
theorem jJ_X {Sh : mS} {X : mI} {G : mP} {Y : mI} {B st cnt r x v q a : Nat} {y : Option Nat} {t n : Nat} {X' : mI} (h : jJ Sh X G Y B st cnt r x v q a y t n) (hx : ∀ r, r < 100 ∧ r ≠ 22 ∧ r ≠ 23 → X' r = X r) : jJ Sh X' G Y B st cnt r x v q a y t n := by
  refine ⟨cInv_X h.ci h.s2 hx, h.om, h.gc, h.fr, h.s2, rRel_X h.re h.ci.2.1 hx, h.mo, h.ch, ?_, h.ov, h.bd⟩
  rw [hx 0 (by decide), hx 1 (by decide)]
  exact h.tx
theorem jJ_Y {Sh : mS} {X : mI} {G : mP} {Y : mI} {B st cnt r x v q a : Nat} {y : Option Nat} {t n : Nat} {Y' : mI} (h : jJ Sh X G Y B st cnt r x v q a y t n) (hy : ∀ r, 100 ≤ r ∧ r ≠ 135 ∧ r ≠ 136 → Y' r = Y r) : jJ Sh X G Y' B st cnt r x v q a y t n := by
  refine ⟨h.ci, h.om, h.gc, h.fr, h.s2, rRel_Y h.re hy, mOk_of h.mo (by rw [hy 100 (by decide)]) (by rw [hy 100 (by decide)]) (by rw [hy 100 (by decide)]; exact h.mo.2.2.2.2.2.1) (hy 106 (by decide)) (hy 107 (by decide)) (hy 108 (by decide)) (hy 109 (by decide)), ?_, ?_, ?_, h.bd⟩
  · obtain ⟨P, g, h1, h2, h3⟩ := h.ch
    exact ⟨P, g, h1, chX_Y h2 hy, h3⟩
  · rw [hy 100 (by decide), hy 101 (by decide)]; exact h.tx
  · rw [hy 100 (by decide)]; exact h.ov
theorem jJ_B {Sh : mS} {X : mI} {G : mP} {Y : mI} {B st cnt r x v q a : Nat} {y : Option Nat} {t n : Nat} {B' : Nat} (h : jJ Sh X G Y B st cnt r x v q a y t n) (hb : B ≤ B') : jJ Sh X G Y B' st cnt r x v q a y t n := by
  have hbd := h.bd
  refine ⟨h.ci, h.om, h.gc, h.fr, h.s2, h.re, h.mo, ?_, h.tx, h.ov, by omega⟩
  obtain ⟨P, g, h1, h2, h3⟩ := h.ch
  exact ⟨P, g, h1, h2, by omega⟩
