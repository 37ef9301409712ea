/-- the line as numbers of stages -/
def lay (Y : mI) (st r x v q a : Nat) (y : Option Nat) : Prop := (Y 104 1 = nI r) ∧ (Y 104 2 = nI x) ∧ (Y 104 3 = nI v) ∧ (Y 104 4 = nI q) ∧ (Y 104 5 = nI a) ∧ (Y 104 6 = nI (st - 1)) ∧ (r ≤ x ∧ x ≤ v ∧ v ≤ q ∧ q < a ∧ a + 1 ≤ st ∧ st ≤ 8) ∧ (y = none → Y 100 4 = -1) ∧ (∀ z, y = some z → Y 100 4 = nI z ∧ x ≤ z ∧ z < st)
theorem lay.r {Y : mI} {st r x v q a : Nat} {y : Option Nat} (h : lay Y st r x v q a y) : Y 104 1 = nI r := h.1
theorem lay.x {Y : mI} {st r x v q a : Nat} {y : Option Nat} (h : lay Y st r x v q a y) : Y 104 2 = nI x := h.2.1
theorem lay.v {Y : mI} {st r x v q a : Nat} {y : Option Nat} (h : lay Y st r x v q a y) : Y 104 3 = nI v := h.2.2.1
theorem lay.q {Y : mI} {st r x v q a : Nat} {y : Option Nat} (h : lay Y st r x v q a y) : Y 104 4 = nI q := h.2.2.2.1
theorem lay.a {Y : mI} {st r x v q a : Nat} {y : Option Nat} (h : lay Y st r x v q a y) : Y 104 5 = nI a := h.2.2.2.2.1
theorem lay.w {Y : mI} {st r x v q a : Nat} {y : Option Nat} (h : lay Y st r x v q a y) : Y 104 6 = nI (st - 1) := h.2.2.2.2.2.1
theorem lay.le {Y : mI} {st r x v q a : Nat} {y : Option Nat} (h : lay Y st r x v q a y) : r ≤ x ∧ x ≤ v ∧ v ≤ q ∧ q < a ∧ a + 1 ≤ st ∧ st ≤ 8 := h.2.2.2.2.2.2.1
theorem lay.no {Y : mI} {st r x v q a : Nat} {y : Option Nat} (h : lay Y st r x v q a y) : y = none → Y 100 4 = -1 := h.2.2.2.2.2.2.2.1
theorem lay.yes {Y : mI} {st r x v q a : Nat} {y : Option Nat} (h : lay Y st r x v q a y) : ∀ z, y = some z → Y 100 4 = nI z ∧ x ≤ z ∧ z < st := h.2.2.2.2.2.2.2.2

/-- what was told, on both sides -/
def rSt (X Y : mI) (st cnt : Nat) : Prop := (X 4 1 = nI st) ∧ (Y 100 2 = nI st) ∧ (∀ k, k < 7 → X 5 k = Y 104 k) ∧ (X 5 7 = Y 100 4) ∧ (X 6 2 = nI cnt) ∧ (Y 100 10 = nI cnt) ∧ (cnt ≤ 40) ∧ (∀ n : Int32, X (cAt cnt n) 0 = mKind Y n ∧ X (cAt cnt n) 1 = tg (mKind Y n) (Y 107 n.toNatClampNeg) ∧ (¬ mKind Y n = 0 → X (cAt cnt n) 2 = Y 108 n.toNatClampNeg ∧ X (cAt cnt n) 3 = Y 109 n.toNatClampNeg ∧ X (cAt cnt n) 4 = Y 110 n.toNatClampNeg)) ∧ (∀ n : Int32, 0 ≤ mKind Y n ∧ mKind Y n ≤ 9) ∧ (∀ n : Int32, ¬ mKind Y n = 0 → vp_in (Y 107 n.toNatClampNeg) 8 ∧ vp_in (Y 108 n.toNatClampNeg) 8 ∧ vp_in (Y 109 n.toNatClampNeg) 8) ∧ (∀ k, k < 64 → X 10 k = Y 112 k) ∧ (∀ k, k < 8 → X 11 k = Y 113 k)
theorem rSt.cs {X Y : mI} {st cnt : Nat} (h : rSt X Y st cnt) : X 4 1 = nI st := h.1
theorem rSt.ms {X Y : mI} {st cnt : Nat} (h : rSt X Y st cnt) : Y 100 2 = nI st := h.2.1
theorem rSt.sg {X Y : mI} {st cnt : Nat} (h : rSt X Y st cnt) : ∀ k, k < 7 → X 5 k = Y 104 k := h.2.2.1
theorem rSt.s7 {X Y : mI} {st cnt : Nat} (h : rSt X Y st cnt) : X 5 7 = Y 100 4 := h.2.2.2.1
theorem rSt.cc {X Y : mI} {st cnt : Nat} (h : rSt X Y st cnt) : X 6 2 = nI cnt := h.2.2.2.2.1
theorem rSt.mc {X Y : mI} {st cnt : Nat} (h : rSt X Y st cnt) : Y 100 10 = nI cnt := h.2.2.2.2.2.1
theorem rSt.c40 {X Y : mI} {st cnt : Nat} (h : rSt X Y st cnt) : cnt ≤ 40 := h.2.2.2.2.2.2.1
theorem rSt.row {X Y : mI} {st cnt : Nat} (h : rSt X Y st cnt) : ∀ n : Int32, X (cAt cnt n) 0 = mKind Y n ∧ X (cAt cnt n) 1 = tg (mKind Y n) (Y 107 n.toNatClampNeg) ∧ (¬ mKind Y n = 0 → X (cAt cnt n) 2 = Y 108 n.toNatClampNeg ∧ X (cAt cnt n) 3 = Y 109 n.toNatClampNeg ∧ X (cAt cnt n) 4 = Y 110 n.toNatClampNeg) := h.2.2.2.2.2.2.2.1
theorem rSt.knd {X Y : mI} {st cnt : Nat} (h : rSt X Y st cnt) : ∀ n : Int32, 0 ≤ mKind Y n ∧ mKind Y n ≤ 9 := h.2.2.2.2.2.2.2.2.1
theorem rSt.reg {X Y : mI} {st cnt : Nat} (h : rSt X Y st cnt) : ∀ n : Int32, ¬ mKind Y n = 0 → vp_in (Y 107 n.toNatClampNeg) 8 ∧ vp_in (Y 108 n.toNatClampNeg) 8 ∧ vp_in (Y 109 n.toNatClampNeg) 8 := h.2.2.2.2.2.2.2.2.2.1
theorem rSt.bs {X Y : mI} {st cnt : Nat} (h : rSt X Y st cnt) : ∀ k, k < 64 → X 10 k = Y 112 k := h.2.2.2.2.2.2.2.2.2.2.1
theorem rSt.lt {X Y : mI} {st cnt : Nat} (h : rSt X Y st cnt) : ∀ k, k < 8 → X 11 k = Y 113 k := h.2.2.2.2.2.2.2.2.2.2.2

def ndO (y : Option Nat) (a : Nat) (kd : Int32) : Option Nat := y.map (fun z => if kd = 5 ∧ z < a then a else z)
/-- a thread's values on both sides -/
def tV (r x : Nat) (nd : Option Nat) (k : Nat) (kd l rr v gv one two res fi : Int32) (t : Nat) (b : Prop) : Prop := l = one ∧ rr = two ∧ (k ≤ r → one = 0 ∧ two = 0) ∧ (k ≤ x → res = 0) ∧ (¬ kd = 6 → ¬ kd = 8 → v = res) ∧ (x < k → (kd = 6 → v = two) ∧ (kd = 8 → v = one)) ∧ ∃ u : Nat, fi = nI u ∧ u ≤ t ∧ (b → u < t) ∧ (nd = none → gv = 0) ∧ ∀ z, nd = some z → (k ≤ z → gv = 0) ∧ (z < k → ∃ g : Nat, gv = nI g ∧ 1 ≤ g ∧ g ≤ u ∧ (k = z + 1 → g = u) ∧ (z + 1 < k → g < u))
theorem tV_up {r x : Nat} {nd : Option Nat} {k : Nat} {kd l rr v gv one two res fi : Int32} {t t2 : Nat} {b b2 : Prop} (h : tV r x nd k kd l rr v gv one two res fi t b) (ht : t ≤ t2) (hb : b2 → b ∨ t < t2) : tV r x nd k kd l rr v gv one two res fi t2 b2 := by
  obtain ⟨h1, h2, h3, h4, h5, h6, u, h7, h8, h9, h10, h11⟩ := h
  refine ⟨h1, h2, h3, h4, h5, h6, u, h7, by omega, fun q => ?_, h10, h11⟩
  rcases hb q with q | q
  · have := h9 q; omega
  · omega
def tRl (X : mI) (G : mP) (Y : mI) (cnt r x a : Nat) (y : Option Nat) (t m k : Nat) : Prop := tf X G k 0 = Y 115 k ∧ (¬ Y 115 k = 0 → roG G (thG G k) = cAt cnt (Y 114 k) ∧ tf X G k 5 = Y 119 k ∧ tV r x (ndO y a (mKind Y (Y 114 k))) k (mKind Y (Y 114 k)) (tf X G k 2) (tf X G k 3) (tf X G k 4) (tf X G k 6) (Y 116 k) (Y 117 k) (Y 118 k) (Y 120 k) t (k < m))
def rLog (X Y : mI) (n : Nat) : Prop := X 12 2 = nI n ∧ Y 100 32 = nI n ∧ X 12 1 = nI (min n 1000) ∧ ∀ j, j < n → j < 1000 → X 13 (j * 4) = Y 129 j ∧ X 13 (j * 4 + 1) = Y 130 j ∧ X 13 (j * 4 + 2) = Y 131 j ∧ X 13 (j * 4 + 3) = Y 132 j
/-- class and reference, side by side -/
def rRel (X : mI) (G : mP) (Y : mI) (st cnt r x v q a : Nat) (y : Option Nat) (t n m : Nat) (c : Prop) : Prop := (rSt X Y st cnt) ∧ (lay Y st r x v q a y) ∧ (∀ k, k < st → tRl X G Y cnt r x a y t m k) ∧ (X 14 9 = nI t ∧ Y 100 20 = nI t) ∧ (X 14 8 = Y 100 22) ∧ (X 14 10 = Y 100 23) ∧ (X 14 11 = Y 100 21) ∧ (∀ k, k < 8 → X 16 k = Y 125 k ∧ X 19 k = Y 126 k) ∧ (∀ k, k < 64 → X 17 k = Y 127 k) ∧ (rLog X Y n) ∧ (∃ z : Nat, X 14 7 = nI z ∧ z ≤ t ∧ (c → (z = t ↔ ¬ Y 100 27 = 0)))
theorem rRel.st {X : mI} {G : mP} {Y : mI} {st cnt r x v q a : Nat} {y : Option Nat} {t n m : Nat} {c : Prop} (h : rRel X G Y st cnt r x v q a y t n m c) : rSt X Y st cnt := h.1
theorem rRel.la {X : mI} {G : mP} {Y : mI} {st cnt r x v q a : Nat} {y : Option Nat} {t n m : Nat} {c : Prop} (h : rRel X G Y st cnt r x v q a y t n m c) : lay Y st r x v q a y := h.2.1
theorem rRel.th {X : mI} {G : mP} {Y : mI} {st cnt r x v q a : Nat} {y : Option Nat} {t n m : Nat} {c : Prop} (h : rRel X G Y st cnt r x v q a y t n m c) : ∀ k, k < st → tRl X G Y cnt r x a y t m k := h.2.2.1
theorem rRel.nw {X : mI} {G : mP} {Y : mI} {st cnt r x v q a : Nat} {y : Option Nat} {t n m : Nat} {c : Prop} (h : rRel X G Y st cnt r x v q a y t n m c) : X 14 9 = nI t ∧ Y 100 20 = nI t := h.2.2.2.1
theorem rRel.nx {X : mI} {G : mP} {Y : mI} {st cnt r x v q a : Nat} {y : Option Nat} {t n m : Nat} {c : Prop} (h : rRel X G Y st cnt r x v q a y t n m c) : X 14 8 = Y 100 22 := h.2.2.2.2.1
theorem rRel.go {X : mI} {G : mP} {Y : mI} {st cnt r x v q a : Nat} {y : Option Nat} {t n m : Nat} {c : Prop} (h : rRel X G Y st cnt r x v q a y t n m c) : X 14 10 = Y 100 23 := h.2.2.2.2.2.1
theorem rRel.ov {X : mI} {G : mP} {Y : mI} {st cnt r x v q a : Nat} {y : Option Nat} {t n m : Nat} {c : Prop} (h : rRel X G Y st cnt r x v q a y t n m c) : X 14 11 = Y 100 21 := h.2.2.2.2.2.2.1
theorem rRel.rg {X : mI} {G : mP} {Y : mI} {st cnt r x v q a : Nat} {y : Option Nat} {t n m : Nat} {c : Prop} (h : rRel X G Y st cnt r x v q a y t n m c) : ∀ k, k < 8 → X 16 k = Y 125 k ∧ X 19 k = Y 126 k := h.2.2.2.2.2.2.2.1
theorem rRel.ce {X : mI} {G : mP} {Y : mI} {st cnt r x v q a : Nat} {y : Option Nat} {t n m : Nat} {c : Prop} (h : rRel X G Y st cnt r x v q a y t n m c) : ∀ k, k < 64 → X 17 k = Y 127 k := h.2.2.2.2.2.2.2.2.1
theorem rRel.lg {X : mI} {G : mP} {Y : mI} {st cnt r x v q a : Nat} {y : Option Nat} {t n m : Nat} {c : Prop} (h : rRel X G Y st cnt r x v q a y t n m c) : rLog X Y n := h.2.2.2.2.2.2.2.2.2.1
theorem rRel.sa {X : mI} {G : mP} {Y : mI} {st cnt r x v q a : Nat} {y : Option Nat} {t n m : Nat} {c : Prop} (h : rRel X G Y st cnt r x v q a y t n m c) : ∃ z : Nat, X 14 7 = nI z ∧ z ≤ t ∧ (c → (z = t ↔ ¬ Y 100 27 = 0)) := h.2.2.2.2.2.2.2.2.2.2

theorem vp_nm {reg : Int32} (h : vp_in reg 8) : ¬ reg = -1 := fun e => by
  have := (vp8 h).1
  rw [e] at this
  exact absurd this (by decide)
theorem cGv_eq {X : mI} {G : mP} {Y : mI} {st cnt r x a t m : Nat} {y : Option Nat} (hs : rSt X Y st cnt) (h : ∀ k, k < st → tRl X G Y cnt r x a y t m k) (reg : Int32) (hreg : ¬ reg = -1) : ∀ f k, k + f ≤ st → cGvF X G reg f k = mGvF Y reg f k := by
  intro f
  induction f with
  | zero => intro k _; rfl
  | succ f ih =>
    intro k hk
    rw [cGvF, mGvF, ih (k + 1) (by omega)]
    obtain ⟨h1, h2⟩ := h k (by omega)
    have e : cCT X G k reg ↔ (¬ Y 115 k = 0 ∧ mCR Y (Y 114 k) reg) := by
      unfold cCT mCR
      rw [h1]
      by_cases hp : Y 115 k = 0
      · simp [hp]
      · obtain ⟨h3, -, -⟩ := h2 hp
        have h4 := (hs.row (Y 114 k)).2.1
        unfold ti
        rw [h3, h4, tg]
        by_cases hk0 : 1 ≤ mKind Y (Y 114 k) ∧ mKind Y (Y 114 k) ≤ 5
        · rw [if_pos hk0]
          exact ⟨fun q => ⟨q.1, hk0, q.2⟩, fun q => ⟨q.1, q.2.2⟩⟩
        · rw [if_neg hk0]
          exact ⟨fun q => absurd q.2.symm hreg, fun q => absurd q.2.1 hk0⟩
    by_cases hc : cCT X G k reg
    · rw [if_pos hc, if_pos (e.mp hc)]
    · rw [if_neg hc, if_neg (fun q => hc (e.mpr q))]
theorem mGv_is (S : mI) (reg : Int32) : ∀ f k, mGvF S reg f k < k + f → ¬ S 115 (mGvF S reg f k) = 0 ∧ mCR S (S 114 (mGvF S reg f k)) reg := by
  intro f
  induction f with
  | zero => intro k h; exact absurd h (by simp [mGvF])
  | succ f ih =>
    intro k h
    rw [mGvF] at h ⊢
    split
    · assumption
    · rename_i hn
      rw [if_neg hn] at h
      exact ih (k + 1) (by omega)
theorem cOld_eq {X : mI} {G : mP} {Y : mI} {st cnt r x a t m : Nat} {y : Option Nat} (hs : rSt X Y st cnt) (h : ∀ k, k < st → tRl X G Y cnt r x a y t m k) : ∀ f k, k + f ≤ st → cOldF X G f k = (mOldF Y f k || decide (X 14 7 = X 14 9)) := by
  intro f
  induction f with
  | zero => intro k _; simp [cOldF, mOldF]
  | succ f ih =>
    intro k hk
    rw [cOldF, mOldF, ih (k + 1) (by omega), Bool.or_assoc]
    obtain ⟨h1, h2⟩ := h k (by omega)
    have e : (¬ tf X G k 0 = 0 ∧ ti X G k 0 = 6) ↔ (¬ Y 115 k = 0 ∧ mKind Y (Y 114 k) = 6) := by
      rw [h1]
      by_cases hp : Y 115 k = 0
      · simp [hp]
      · obtain ⟨h3, -, -⟩ := h2 hp
        unfold ti
        rw [h3, (hs.row (Y 114 k)).1]
    rw [decide_eq_decide.mpr e]
