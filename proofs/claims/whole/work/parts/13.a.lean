/-! the line's threads are the program's own: from the last stage down -/
def pS (P Y : mI) : Prop := Y 100 10 = P 100 10 ∧ Y 106 = P 106 ∧ Y 107 = P 107 ∧ Y 108 = P 108 ∧ Y 109 = P 109 ∧ Y 110 = P 110 ∧ Y 112 = P 112
theorem pS.k {P Y : mI} (h : pS P Y) (n : Int32) : mKind Y n = mKind P n := mKind_of h.1 h.2.1 n
def chB (P : mI) (v k : Nat) (c : sQ × Bool) : sQ × Bool := if c.2 = true then (qS P c.1, decide (¬ mKind P c.1.1 = 0 ∧ (qJ P c.1 → v < k))) else c
def chF (P Y : mI) (v st : Nat) (Q : sQ) : Nat → sQ × Bool
  | 0 => (Q, true)
  | f + 1 => if Y 115 (st - (f + 1)) = 0 then chF P Y v st Q f else chB P v (st - (f + 1)) (chF P Y v st Q f)
abbrev chK (P Y : mI) (v st : Nat) (Q : sQ) (k : Nat) : sQ × Bool := chF P Y v st Q (st - k)
theorem chK_st (P Y : mI) (v st : Nat) (Q : sQ) : chK P Y v st Q st = (Q, true) := by unfold chK; rw [Nat.sub_self]; rfl
theorem chK_s (P Y : mI) (v : Nat) {st k : Nat} (Q : sQ) (h : k < st) : chK P Y v st Q k = if Y 115 k = 0 then chK P Y v st Q (k + 1) else chB P v k (chK P Y v st Q (k + 1)) := by
  show chF P Y v st Q (st - k) = _
  have e : st - k = (st - (k + 1)) + 1 := by omega
  rw [e, chF, ← e, show st - (st - k) = k by omega]
theorem chK_of {P Y Y' : mI} {v st : Nat} {Q : sQ} : ∀ (f k : Nat), k + f = st → (∀ j, k ≤ j → j < st → (Y' 115 j = 0 ↔ Y 115 j = 0)) → chK P Y' v st Q k = chK P Y v st Q k := by
  intro f
  induction f with
  | zero => intro k hk _; rw [show k = st by omega, chK_st, chK_st]
  | succ f ih =>
    intro k hk h
    rw [chK_s P Y' v Q (by omega), chK_s P Y v Q (by omega), ih (k + 1) (by omega) (fun j h1 h2 => h j (by omega) h2)]
    have := h k (Nat.le_refl _) (by omega)
    by_cases e : Y 115 k = 0
    · rw [if_pos e, if_pos (this.mpr e)]
    · rw [if_neg e, if_neg (fun q => e (this.mp q))]
theorem chB_up {P : mI} {v k : Nat} {c : sQ × Bool} (h : (chB P v k c).2 = true) : c.2 = true := by
  unfold chB at h
  by_cases e : c.2 = true
  · exact e
  · rw [if_neg e] at h; exact h
theorem chK_up {P Y : mI} {v st k : Nat} {Q : sQ} (hk : k < st) (h : (chK P Y v st Q k).2 = true) : (chK P Y v st Q (k + 1)).2 = true := by
  rw [chK_s _ _ _ _ hk] at h
  by_cases e : Y 115 k = 0
  · rw [if_pos e] at h; exact h
  · rw [if_neg e] at h; exact chB_up h
theorem chB_t {P : mI} {v k : Nat} {c : sQ × Bool} (h : c.2 = true) : chB P v k c = (qS P c.1, decide (¬ mKind P c.1.1 = 0 ∧ (qJ P c.1 → v < k))) := if_pos h
theorem chB_f {P : mI} {v k : Nat} {c : sQ × Bool} (h : ¬ c.2 = true) : chB P v k c = c := if_neg h
/-- what a thread of the program's own holds -/
def chT (P Y : mI) (r x q k : Nat) (Q : sQ) : Prop := Y 114 k = Q.1 ∧ (r < k → Y 116 k = (if mR1 (mKind P Q.1) then qA P Q else 0) ∧ Y 117 k = (if mR2 (mKind P Q.1) then qB P Q else 0)) ∧ (x < k → 1 ≤ mKind P Q.1 → mKind P Q.1 ≤ 4 → Y 118 k = qV P Q) ∧ (q < k → mKind P Q.1 = 5 → Y 118 k = qV P Q)
def chC (P Y : mI) (st r x v q : Nat) (Q : sQ) : Prop := (∀ k, k < st → ¬ Y 115 k = 0 → (chK P Y v st Q (k + 1)).2 = true → chT P Y r x q k (chK P Y v st Q (k + 1)).1) ∧ ((chK P Y v st Q 0).2 = true → Y 100 22 = (chK P Y v st Q 0).1.1) ∧ (∀ j, j < 8 → Y 125 j = Q.2.1 j) ∧ (∀ j, j < 64 → Y 127 j = Q.2.2 j)
/-- a register, read past the line -/
theorem ch_reg {P Y : mI} {st r x v q : Nat} {Q : sQ} (hP : pS P Y) (hC : chC P Y st r x v q Q) (hd : ∀ n : Int32, ¬ mKind P n = 0 → vp_in (P 107 n.toNatClampNeg) 8) (hk9 : ∀ n : Int32, 0 ≤ mKind P n ∧ mKind P n ≤ 9) {reg : Int32} (hr : vp_in reg 8) : ∀ (f k : Nat), k + f = st → (chK P Y v st Q k).2 = true → (mGvF Y reg f k = st → (chK P Y v st Q k).1.2.1 reg.toNatClampNeg = Y 125 reg.toNatClampNeg) ∧ (mGvF Y reg f k < st → (chK P Y v st Q k).1.2.1 reg.toNatClampNeg = qV P (chK P Y v st Q (mGvF Y reg f k + 1)).1 ∧ (chK P Y v st Q (mGvF Y reg f k + 1)).2 = true) := by
  intro f
  induction f with
  | zero =>
    intro k hk _
    rw [show k = st by omega, chK_st]
    refine ⟨fun _ => (hC.2.2.1 _ (vp_in_nat hr).2).symm, fun e => absurd e (by simp [mGvF])⟩
  | succ f ih =>
    intro k hk hb
    have hks : k < st := by omega
    have hb1 := chK_up hks hb
    obtain ⟨i1, i2⟩ := ih (k + 1) (by omega) hb1
    rw [chK_s P Y v Q hks] at hb ⊢
    rw [mGvF]
    by_cases h0 : Y 115 k = 0
    · rw [if_pos h0, if_neg (fun e => e.1 h0)]
      exact ⟨i1, i2⟩
    · rw [if_neg h0] at hb ⊢
      rw [chB_t hb1] at hb ⊢
      obtain ⟨t1, -⟩ := hC.1 k hks h0 hb1
      have hkd : mKind Y (Y 114 k) = mKind P (chK P Y v st Q (k + 1)).1.1 := by rw [hP.k, t1]
      have hn0 : ¬ mKind P (chK P Y v st Q (k + 1)).1.1 = 0 := (of_decide_eq_true hb).1
      have hd8 := hd _ hn0
      have h107 : Y 107 (Y 114 k).toNatClampNeg = P 107 (chK P Y v st Q (k + 1)).1.1.toNatClampNeg := by rw [hP.2.2.1, t1]
      by_cases hc : mCR Y (Y 114 k) reg
      · rw [if_pos ⟨h0, hc⟩]
        refine ⟨fun e => by omega, fun _ => ⟨?_, hb1⟩⟩
        obtain ⟨⟨c1, c2⟩, c3⟩ := hc
        rw [hkd] at c1 c2
        have h6 : mKind P (chK P Y v st Q (k + 1)).1.1 < 6 := by
          rw [i_le] at c2; rw [i_lt]
          have e5 : (5 : Int32).toInt = 5 := rfl
          have e6 : (6 : Int32).toInt = 6 := rfl
          omega
        show (qS P (chK P Y v st Q (k + 1)).1).2.1 reg.toNatClampNeg = _
        rw [qS]
        simp only [if_pos h6]
        rw [← h107, c3]
        simp [upd]
      · rw [if_neg (fun e => hc e.2)]
        have e : (qS P (chK P Y v st Q (k + 1)).1).2.1 reg.toNatClampNeg = (chK P Y v st Q (k + 1)).1.2.1 reg.toNatClampNeg := by
          rw [qS]
          by_cases h6 : mKind P (chK P Y v st Q (k + 1)).1.1 < 6
          · simp only [if_pos h6]
            unfold upd
            rw [if_neg]
            intro e
            apply hc
            obtain ⟨j1, k1, e1⟩ := vp_in_ex hr
            obtain ⟨j2, k2, e2⟩ := vp_in_ex hd8
            rw [e1, e2, nI_clamp (by omega), nI_clamp (by omega)] at e
            refine ⟨?_, by rw [h107, e1, e2, e]⟩
            rw [hkd]
            have hg := hk9 (chK P Y v st Q (k + 1)).1.1
            rcases kd_cases hg with e | e | e | e | e | e | e | e | e | e <;> rw [e] at h6 hn0 ⊢ <;> first | exact absurd rfl hn0 | decide | exact absurd h6 (by decide)
          · simp only [if_neg h6]
        refine ⟨fun e2 => ?_, fun e2 => ?_⟩
        · show (qS P (chK P Y v st Q (k + 1)).1).2.1 reg.toNatClampNeg = _
          rw [e]; exact i1 e2
        · show (qS P (chK P Y v st Q (k + 1)).1).2.1 reg.toNatClampNeg = _ ∧ _
          rw [e]; exact i2 e2
/-- a place, read past the line -/
theorem ch_mem {P Y : mI} {st r x v q : Nat} {Q : sQ} (hP : pS P Y) (hC : chC P Y st r x v q Q) : ∀ (f k : Nat), k + f = st → (chK P Y v st Q k).2 = true → mOldF Y f k = false → (chK P Y v st Q k).1.2.2 = Q.2.2 := by
  intro f
  induction f with
  | zero => intro k hk _ _; rw [show k = st by omega, chK_st]
  | succ f ih =>
    intro k hk hb ho
    have hks : k < st := by omega
    have hb1 := chK_up hks hb
    rw [mOldF, Bool.or_eq_false_iff] at ho
    have i1 := ih (k + 1) (by omega) hb1 ho.2
    rw [chK_s P Y v Q hks] at hb ⊢
    by_cases h0 : Y 115 k = 0
    · rw [if_pos h0]; exact i1
    · rw [if_neg h0] at hb ⊢
      rw [chB_t hb1] at hb ⊢
      obtain ⟨t1, -⟩ := hC.1 k hks h0 hb1
      have hkd : mKind Y (Y 114 k) = mKind P (chK P Y v st Q (k + 1)).1.1 := by rw [hP.k, t1]
      have h6 : ¬ mKind P (chK P Y v st Q (k + 1)).1.1 = 6 := fun e => by
        have := of_decide_eq_false ho.1
        exact this ⟨h0, by rw [hkd]; exact e⟩
      show (qS P (chK P Y v st Q (k + 1)).1).2.2 = _
      rw [qS]
      simp only [if_neg h6]
      exact i1
