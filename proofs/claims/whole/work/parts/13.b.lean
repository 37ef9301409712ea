theorem chK_dn {P Y Y' : mI} {v st m : Nat} {Q : sQ} (hm : m ≤ st) (e : chK P Y' v st Q m = chK P Y v st Q m) : ∀ (d k : Nat), k + d = m → (∀ j, k ≤ j → j < m → (Y' 115 j = 0 ↔ Y 115 j = 0)) → chK P Y' v st Q k = chK P Y v st Q k := by
  intro d
  induction d with
  | zero => intro k hk _; rw [show k = m by omega]; exact e
  | succ d ih =>
    intro k hk h
    rw [chK_s P Y' v Q (by omega), chK_s P Y v Q (by omega), ih (k + 1) (by omega) (fun j h1 h2 => h j (by omega) h2)]
    have := h k (Nat.le_refl _) (by omega)
    by_cases e : Y 115 k = 0
    · rw [if_pos e, if_pos (this.mpr e)]
    · rw [if_neg e, if_neg (fun q => e (this.mp q))]
theorem chK_abs {P Y : mI} {v st m : Nat} {Q : sQ} (hm : m ≤ st) : ∀ (d k : Nat), k + d = m → (∀ j, k ≤ j → j < m → Y 115 j = 0) → chK P Y v st Q k = chK P Y v st Q m := by
  intro d
  induction d with
  | zero => intro k hk _; rw [show k = m by omega]
  | succ d ih =>
    intro k hk h
    rw [chK_s P Y v Q (by omega), if_pos (h k (Nat.le_refl _) (by omega)), ih (k + 1) (by omega) (fun j h1 h2 => h j (by omega) h2)]
theorem chK_no {P Y : mI} {v st m : Nat} {Q : sQ} (hm : m ≤ st) (h : ¬ (chK P Y v st Q m).2 = true) : ∀ (d k : Nat), k + d = m → ¬ (chK P Y v st Q k).2 = true := by
  intro d
  induction d with
  | zero => intro k hk; rw [show k = m by omega]; exact h
  | succ d ih => intro k hk e; exact ih (k + 1) (by omega) (chK_up (by omega) e)
/-- the program's facts that the chain needs -/
def pF (P : mI) : Prop := (∀ n : Int32, 0 ≤ mKind P n ∧ mKind P n ≤ 9) ∧ ∀ n : Int32, ¬ mKind P n = 0 → vp_in (P 107 n.toNatClampNeg) 8 ∧ vp_in (P 108 n.toNatClampNeg) 8 ∧ vp_in (P 109 n.toNatClampNeg) 8
theorem ch_read {P Y : mI} {st r x v q a : Nat} {y : Option Nat} {Q : sQ} (hF : pF P) (hP : pS P Y) (hC : chC P Y st r x v q Q) (hl : lay Y st r x v q a y) {s : Nat} (hs : s < st) (hb : (chK P Y v st Q (s + 1)).2 = true) {reg : Int32} (hr : vp_in reg 8) (hy : mRdy Y st s reg = true) : mRead Y st s reg = (chK P Y v st Q (s + 1)).1.2.1 reg.toNatClampNeg := by
  obtain ⟨i1, i2⟩ := ch_reg hP hC (fun n hn => (hF.2 n hn).1) hF.1 hr (st - (s + 1)) (s + 1) (by omega) hb
  have hle := hl.le
  unfold mRead
  unfold mRdy at hy
  obtain ⟨g1, g2⟩ := mGv_in Y (k := s + 1) reg (show s + 1 ≤ st by omega)
  by_cases hg : mGv Y st reg (s + 1) = st
  · rw [if_pos hg]
    exact (i1 hg).symm
  · rw [if_neg hg] at hy ⊢
    have hlt : mGv Y st reg (s + 1) < st := by omega
    obtain ⟨i3, i4⟩ := i2 hlt
    rw [i3]
    have hp := mGv_is Y reg (st - (s + 1)) (s + 1) (by show mGv Y st reg (s + 1) < _; omega)
    have ht := hC.1 _ hlt hp.1 i4
    have hy := of_decide_eq_true hy
    generalize hgk : mGv Y st reg (s + 1) = k at *
    have hgk' : mGvF Y reg (st - (s + 1)) (s + 1) = k := hgk
    try rw [hgk'] at hp
    try rw [hgk'] at ht
    try rw [hgk']
    obtain ⟨t1, -, t3, t4⟩ := ht
    have hkd : mKind Y (Y 114 k) = mKind P (chK P Y v st Q (k + 1)).1.1 := by rw [hP.k, t1]
    cases hyy : y with
    | none => exact absurd (hl.no hyy) hy.1
    | some z =>
      obtain ⟨f1, f2, f3⟩ := hl.yes z hyy
      have hnd := hl.need hyy (Y 114 k)
      rw [hnd] at hy
      generalize hw : (if mKind Y (Y 114 k) = 5 ∧ z < a then a else z) = w at *
      have hw8 : w < 8 := by rw [← hw]; split <;> omega
      have hwk : w < k := by
        rcases hy.2 with e | e
        · rw [nI_1, nI_ltI (by omega) (by omega)] at e; omega
        · have e := e.1; rw [nI_1, nI_eq (by omega) (by omega)] at e; omega
      have hz : z ≤ w := by rw [← hw]; split <;> omega
      have hc := hp.2.1
      rw [hkd] at hc hw
      by_cases h5 : mKind P (chK P Y v st Q (k + 1)).1.1 = 5
      · refine t4 ?_ h5
        by_cases hza : z < a
        · rw [if_pos ⟨h5, hza⟩] at hw; omega
        · omega
      · refine t3 (by omega) hc.1 ?_
        have := hc.2
        rw [i_le] at this ⊢
        rw [i_eq] at h5
        have e5 : (5 : Int32).toInt = 5 := rfl
        have e4 : (4 : Int32).toInt = 4 := rfl
        omega
theorem wk_eq {P : mI} {Q : sQ} {z : Int32} (hk : 0 ≤ mKind P Q.1 ∧ mKind P Q.1 ≤ 9) (k1 : 1 ≤ mKind P Q.1) (k4 : mKind P Q.1 ≤ 4) : (if mKind P Q.1 = 1 then P 110 Q.1.toNatClampNeg else if 2 ≤ mKind P Q.1 ∧ mKind P Q.1 ≤ 4 then (if mKind P Q.1 = 2 then (if mR1 (mKind P Q.1) then qA P Q else 0) + (if mR2 (mKind P Q.1) then qB P Q else 0) else if mKind P Q.1 = 3 then (if mR1 (mKind P Q.1) then qA P Q else 0) - (if mR2 (mKind P Q.1) then qB P Q else 0) else (if mR1 (mKind P Q.1) then qA P Q else 0) * (if mR2 (mKind P Q.1) then qB P Q else 0)) else z) = qV P Q := by
  unfold qV
  generalize qA P Q = A
  generalize qB P Q = B
  generalize P 110 Q.1.toNatClampNeg = i
  generalize qP P Q = p
  generalize mKind P Q.1 = k at *
  by_cases e1 : k = 1
  · rw [if_pos e1, if_pos e1]
  · have e : k = 2 ∨ k = 3 ∨ k = 4 := by
      rcases kd_cases hk with e | e | e | e | e | e | e | e | e | e
      · rw [e] at k1; exact absurd k1 (by decide)
      · exact absurd e e1
      · exact Or.inl e
      · exact Or.inr (Or.inl e)
      · exact Or.inr (Or.inr e)
      · rw [e] at k4; exact absurd k4 (by decide)
      · rw [e] at k4; exact absurd k4 (by decide)
      · rw [e] at k4; exact absurd k4 (by decide)
      · rw [e] at k4; exact absurd k4 (by decide)
      · rw [e] at k4; exact absurd k4 (by decide)
    have h24 : 2 ≤ k ∧ k ≤ 4 := by rcases e with e | e | e <;> rw [e] <;> decide
    have h1 : mR1 k := by rcases e with e | e | e <;> rw [e] <;> decide
    have h2 : mR2 k := by rcases e with e | e | e <;> rw [e] <;> decide
    rw [if_neg e1, if_neg e1, if_pos h24, if_pos h1, if_pos h2]
    rcases e with e | e | e
    · rw [if_pos e, if_pos e]
    · have n2 : ¬ k = 2 := by rw [e]; decide
      rw [if_neg n2, if_neg n2, if_pos e, if_pos e]
    · have n2 : ¬ k = 2 := by rw [e]; decide
      have n3 : ¬ k = 3 := by rw [e]; decide
      rw [if_neg n2, if_neg n2, if_neg n3, if_neg n3, if_pos e]
theorem mFire_mv {Y : mI} {st r x v q a s : Nat} {y : Option Nat} (hl : lay Y st r x v q a y) (hs : s + 1 < st) : mFire Y st s = mF6 (mV5 Y st s) st s (Y 114 s) := by
  have h := hl.le
  show mF6 (mF5 (mV5 Y st s) s (Y 114 s) (mKind Y (Y 114 s))) st s (Y 114 s) = _
  unfold mF5
  rw [mv_n (r := 104) (by decide), hl.w, if_neg (fun e => by rw [nI_eq (by omega) (by omega)] at e; omega)]
theorem mFire_100 {Y : mI} {st r x v q a s : Nat} {y : Option Nat} (hl : lay Y st r x v q a y) (hs : s + 1 < st) (k : Nat) : mFire Y st s 100 k = if mBr Y st s ∧ k = 22 then Y 110 (Y 114 s).toNatClampNeg else Y 100 k := by
  rw [mFire_mv hl hs, mF6_move _ _ _ _ (by omega), ← mv_100]; simp
theorem mFire_n {Y : mI} {st r x v q a s : Nat} {y : Option Nat} (hl : lay Y st r x v q a y) (hs : s + 1 < st) {j : Nat} (hj : j ≠ 100 ∧ j ≠ 114 ∧ j ≠ 115 ∧ j ≠ 116 ∧ j ≠ 117 ∧ j ≠ 118 ∧ j ≠ 119 ∧ j ≠ 120) : mFire Y st s j = Y j := by
  funext k
  rw [mFire_mv hl hs, mF6_move _ _ _ _ (by omega), ← mv_n (Y := Y) (st := st) (s := s) (r := j) (by omega)]
  simp [hj]
theorem mFire_k {Y : mI} {st r x v q a s : Nat} {y : Option Nat} (hl : lay Y st r x v q a y) (hs : s + 1 < st) {k : Nat} (hk : k ≠ s) (hk1 : k ≠ s + 1) : mFire Y st s 115 k = (if mBr Y st s ∧ k < s then 0 else Y 115 k) ∧ mFire Y st s 114 k = Y 114 k ∧ mFire Y st s 116 k = Y 116 k ∧ mFire Y st s 117 k = Y 117 k ∧ mFire Y st s 118 k = Y 118 k := by
  have uu : ∀ r, mFire Y st s r k = mV5 Y st s r k := fun r => by rw [mFire_mv hl hs, mF6_move _ _ _ _ (by omega)]; simp [hk, hk1]
  rw [uu, uu, uu, uu, uu]
  exact ⟨mv_115 k, by rw [mv_n (by decide)], by rw [mv_116, if_neg (fun e => hk e.1)], by rw [mv_117, if_neg (fun e => hk e.1)], by rw [mv_118, if_neg hk]⟩
theorem mFire_s1 {Y : mI} {st r x v q a s : Nat} {y : Option Nat} (hl : lay Y st r x v q a y) (hs : s + 1 < st) : mFire Y st s 115 (s + 1) = 1 ∧ mFire Y st s 115 s = 0 ∧ mFire Y st s 114 (s + 1) = Y 114 s ∧ mFire Y st s 116 (s + 1) = mV5 Y st s 116 s ∧ mFire Y st s 117 (s + 1) = mV5 Y st s 117 s ∧ mFire Y st s 118 (s + 1) = mV5 Y st s 118 s := by
  have hm := mF6_move (mV5 Y st s) st s (Y 114 s) (by omega)
  rw [mFire_mv hl hs, hm, hm, hm, hm, hm, hm]
  simp
set_option maxHeartbeats 1000000 in
set_option maxRecDepth 100000 in
theorem ch_move {P Y : mI} {st r x v q a : Nat} {y : Option Nat} {Q : sQ} (hF : pF P) (hP : pS P Y) (hC : chC P Y st r x v q Q) (hl : lay Y st r x v q a y) {s : Nat} (hs : s + 1 < st) (hp : ¬ Y 115 s = 0) (hf : mFires Y st s = true) : chC P (mFire Y st s) st r x v q Q := by
  have hle := hl.le
  -- what firing asked
  have hf' := hf
  unfold mFires at hf
  by_cases g1 : s + 1 < st ∧ ¬ Y 115 (s + 1) = 0
  · rw [if_pos g1] at hf; cases hf
  rw [if_neg g1] at hf
  have hn : Y 115 (s + 1) = 0 := Decidable.byContradiction fun e => g1 ⟨hs, e⟩
  by_cases g2 : nI s = Y 104 1 ∧ (mR1 (mKind Y (Y 114 s)) ∧ ¬ mRdy Y st s (Y 108 (Y 114 s).toNatClampNeg) = true ∨ mR2 (mKind Y (Y 114 s)) ∧ ¬ mRdy Y st s (Y 109 (Y 114 s).toNatClampNeg) = true)
  · rw [if_pos g2] at hf; cases hf
  rw [if_neg g2] at hf
  by_cases g3 : nI s = Y 104 4 ∧ mKind Y (Y 114 s) = 5 ∧ mOld Y st s = true
  · rw [if_pos g3] at hf; cases hf
  clear hf
  have m1 : nI s = Y 104 1 ↔ r = s := by rw [hl.r, nI_eq (by omega) (by omega)]; omega
  have m2 : nI s = Y 104 2 ↔ x = s := by rw [hl.x, nI_eq (by omega) (by omega)]; omega
  have m3 : nI s = Y 104 3 ↔ v = s := by rw [hl.v, nI_eq (by omega) (by omega)]; omega
  have m4 : nI s = Y 104 4 ↔ q = s := by rw [hl.q, nI_eq (by omega) (by omega)]; omega
  obtain ⟨u5, us, u4, u6, u7, u8⟩ := mFire_s1 hl hs
  have uk := fun {k : Nat} (h1 : k ≠ s) (h2 : k ≠ s + 1) => mFire_k hl hs h1 h2
  have w22 := mFire_100 hl hs 22
  have wn := fun {j : Nat} (hj : j ≠ 100 ∧ j ≠ 114 ∧ j ≠ 115 ∧ j ≠ 116 ∧ j ≠ 117 ∧ j ≠ 118 ∧ j ≠ 119 ∧ j ≠ 120) => mFire_n hl hs hj
  generalize hW : mFire Y st s = W at *
  have hi : ∀ k, s + 2 ≤ k → k ≤ st → chK P W v st Q k = chK P Y v st Q k := fun k h1 h2 => chK_of (st - k) k (by omega) (fun j h3 h4 => by rw [(uk (k := j) (by omega) (by omega)).1, if_neg (by omega)])
  have e1 : chK P Y v st Q (s + 1) = chK P Y v st Q (s + 2) := by rw [chK_s P Y v Q hs, if_pos hn]
  have e2 : chK P W v st Q (s + 1) = chB P v (s + 1) (chK P Y v st Q (s + 1)) := by
    rw [chK_s P W v Q hs, if_neg (by rw [u5]; decide), hi (s + 2) (by omega) (by omega), ← e1]
  have e3 : chK P W v st Q s = chK P W v st Q (s + 1) := by rw [chK_s P W v Q (by omega), if_pos us]
  have e4 : chK P Y v st Q s = chB P v s (chK P Y v st Q (s + 1)) := by rw [chK_s P Y v Q (by omega), if_neg hp]
  have hrc : (∀ j, j < 8 → W 125 j = Q.2.1 j) ∧ (∀ j, j < 64 → W 127 j = Q.2.2 j) := by
    rw [wn (j := 125) (by decide), wn (j := 127) (by decide)]
    exact hC.2.2
  by_cases hb : (chK P Y v st Q (s + 1)).2 = true
  · have ht := hC.1 s (by omega) hp hb
    generalize hQQ : (chK P Y v st Q (s + 1)).1 = QQ at *
    obtain ⟨t1, t2, t3, t4⟩ := ht
    have hkd : mKind Y (Y 114 s) = mKind P QQ.1 := by rw [hP.k, t1]
    rw [hkd] at g2 g3
    have y8 : Y 108 (Y 114 s).toNatClampNeg = P 108 QQ.1.toNatClampNeg := by rw [hP.2.2.2.1, t1]
    have y9 : Y 109 (Y 114 s).toNatClampNeg = P 109 QQ.1.toNatClampNeg := by rw [hP.2.2.2.2.1, t1]
    have y10 : Y 110 (Y 114 s).toNatClampNeg = P 110 QQ.1.toNatClampNeg := by rw [hP.2.2.2.2.2.1, t1]
    rw [y8, y9] at g2
    have hk9 := hF.1 QQ.1
    have hone : r < s + 1 → mV5 Y st s 116 s = (if mR1 (mKind P QQ.1) then qA P QQ else 0) ∧ mV5 Y st s 117 s = (if mR2 (mKind P QQ.1) then qB P QQ else 0) := fun hrs => by
      have a6 : mV5 Y st s 116 s = if r = s then (if mR1 (mKind P QQ.1) then mRead Y st s (P 108 QQ.1.toNatClampNeg) else 0) else Y 116 s := by
        rw [mv_116, hkd, y8]
        simp only [m1, true_and]
      have a7 : mV5 Y st s 117 s = if r = s then (if mR2 (mKind P QQ.1) then mRead Y st s (P 109 QQ.1.toNatClampNeg) else 0) else Y 117 s := by
        rw [mv_117, hkd, y9]
        simp only [m1, true_and]
      rw [a6, a7]
      by_cases h0 : r = s
      · rw [if_pos h0, if_pos h0]
        refine ⟨?_, ?_⟩
        · by_cases hm : mR1 (mKind P QQ.1)
          · rw [if_pos hm, if_pos hm]
            have hk0 : ¬ mKind P QQ.1 = 0 := fun e => by rw [e] at hm; exact absurd hm (by decide)
            have hrd : mRdy Y st s (P 108 QQ.1.toNatClampNeg) = true := Decidable.byContradiction fun e => g2 ⟨m1.mpr h0, Or.inl ⟨hm, e⟩⟩
            rw [ch_read hF hP hC hl (by omega) hb (hF.2 _ hk0).2.1 hrd, hQQ]
            rfl
          · rw [if_neg hm, if_neg hm]
        · by_cases hm : mR2 (mKind P QQ.1)
          · rw [if_pos hm, if_pos hm]
            have hk0 : ¬ mKind P QQ.1 = 0 := fun e => by rw [e] at hm; exact absurd hm (by decide)
            have hrd : mRdy Y st s (P 109 QQ.1.toNatClampNeg) = true := Decidable.byContradiction fun e => g2 ⟨m1.mpr h0, Or.inr ⟨hm, e⟩⟩
            rw [ch_read hF hP hC hl (by omega) hb (hF.2 _ hk0).2.2 hrd, hQQ]
            rfl
          · rw [if_neg hm, if_neg hm]
      · rw [if_neg h0, if_neg h0]
        exact t2 (by omega)
    have hT : chT P W r x q (s + 1) QQ := by
      refine ⟨by rw [u4]; exact t1, fun hrs => by rw [u6, u7]; exact hone hrs, fun hxs k1 k4 => ?_, fun hqs k5 => ?_⟩
      · rw [u8, mv_118, if_pos rfl, hkd, y10]
        have k5 : ¬ mKind P QQ.1 = 5 := fun e => by rw [e] at k4; exact absurd k4 (by decide)
        rw [if_neg (fun e => k5 e.2)]
        by_cases h0 : x = s
        · rw [if_pos (m2.mpr h0)]
          obtain ⟨o1, o2⟩ := hone (by omega)
          rw [o1, o2]
          exact wk_eq hk9 k1 k4
        · rw [if_neg (fun e => h0 (m2.mp e))]
          exact t3 (by omega) k1 k4
      · rw [u8, mv_118, if_pos rfl, hkd, y10]
        by_cases h0 : q = s
        · rw [if_pos ⟨m4.mpr h0, k5⟩]
          obtain ⟨o1, -⟩ := hone (by omega)
          rw [o1, k5, if_pos (by decide)]
          have ho : mOld Y st s = false := by
            cases hh : mOld Y st s with
            | false => rfl
            | true => exact absurd ⟨m4.mpr h0, k5, hh⟩ g3
          unfold mOld at ho
          rw [Bool.or_eq_false_iff] at ho
          have hm := ch_mem hP hC _ (s + 1) (by omega) hb ho.2
          rw [hQQ] at hm
          have hpl : (qP P QQ).toNatClampNeg < 64 := (vp_in_nat (qP_in P QQ)).2
          show Y 127 (qP P QQ).toNatClampNeg = _
          rw [hC.2.2.2 _ hpl, ← hm]
          unfold qV
          simp [k5]
        · rw [if_neg (fun e => h0 (m4.mp e.1)), if_neg (fun e => by have := m2.mp e; omega)]
          exact t4 (by omega) k5
    have hbr : mBr Y st s ↔ (v = s ∧ qJ P QQ) := by
      rw [mv_br, m3, hkd]
      refine and_congr_right fun hv => ?_
      obtain ⟨o1, o2⟩ := hone (by omega)
      rw [o1, o2]
      refine or_congr Iff.rfl (and_congr_right fun h7 => ?_)
      rw [h7, if_pos (by decide), if_pos (by decide)]
    have e2' : chK P W v st Q (s + 1) = (qS P QQ, decide (¬ mKind P QQ.1 = 0 ∧ (qJ P QQ → v < s + 1))) := by rw [e2, chB_t hb, hQQ]
    have e4' : chK P Y v st Q s = (qS P QQ, decide (¬ mKind P QQ.1 = 0 ∧ (qJ P QQ → v < s))) := by rw [e4, chB_t hb, hQQ]
    by_cases hB : mBr Y st s
    · have hJ := hbr.mp hB
      have ab : ∀ k, k ≤ s + 1 → chK P W v st Q k = chK P W v st Q (s + 1) := fun k hk => by
        by_cases h9 : k = s + 1
        · rw [h9]
        · rw [chK_abs (m := s) (by omega) (s - k) k (by omega) (fun j h1 h2 => by rw [(uk (k := j) (by omega) (by omega)).1, if_pos ⟨hB, h2⟩]), e3]
      refine ⟨fun k hk h0 hbk => ?_, fun _ => ?_, hrc⟩
      · rcases Nat.lt_or_ge k (s + 1) with h9 | h9
        · exfalso
          by_cases h8 : k = s
          · rw [h8] at h0; exact h0 us
          · exact h0 (by rw [(uk h8 (by omega)).1, if_pos ⟨hB, by omega⟩])
        · by_cases h8 : k = s + 1
          · subst h8
            rw [hi (s + 2) (by omega) (by omega), ← e1, hQQ]
            exact hT
          · obtain ⟨v5, v4, v6, v7, v8⟩ := uk (k := k) (by omega) h8
            rw [hi (k + 1) (by omega) (by omega)] at hbk ⊢
            have := hC.1 k hk (by rw [v5, if_neg (by omega)] at h0; exact h0) hbk
            unfold chT at this ⊢
            rw [v4, v6, v7, v8]
            exact this
      · rw [w22, if_pos ⟨hB, rfl⟩, ab 0 (by omega), e2', y10]
        show _ = (qS P QQ).1
        rw [qS]
        simp only [if_pos hJ.2]
    · have es : chK P W v st Q s = chK P Y v st Q s := by
        rw [e3, e2', e4']
        congr 1
        refine decide_eq_decide.mpr (and_congr_right fun _ => ?_)
        refine ⟨fun h9 hj => ?_, fun h9 hj => ?_⟩
        · have := h9 hj
          rcases Nat.lt_or_ge v s with h8 | h8
          · exact h8
          · exact absurd (hbr.mpr ⟨by omega, hj⟩) hB
        · have := h9 hj; omega
      have dn : ∀ k, k ≤ s → chK P W v st Q k = chK P Y v st Q k := fun k hk => chK_dn (m := s) (by omega) es (s - k) k (by omega) (fun j h1 h2 => by rw [(uk (k := j) (by omega) (by omega)).1, if_neg (fun e => hB e.1)])
      refine ⟨fun k hk h0 hbk => ?_, fun h0 => ?_, hrc⟩
      · rcases Nat.lt_or_ge k s with h9 | h9
        · obtain ⟨v5, v4, v6, v7, v8⟩ := uk (k := k) (by omega) (by omega)
          rw [dn (k + 1) (by omega)] at hbk ⊢
          have := hC.1 k hk (by rw [v5, if_neg (fun e => hB e.1)] at h0; exact h0) hbk
          unfold chT at this ⊢
          rw [v4, v6, v7, v8]
          exact this
        · by_cases h8 : k = s
          · rw [h8] at h0; exact absurd us h0
          · by_cases h7 : k = s + 1
            · subst h7
              rw [hi (s + 2) (by omega) (by omega), ← e1, hQQ]
              exact hT
            · obtain ⟨v5, v4, v6, v7, v8⟩ := uk (k := k) h8 h7
              rw [hi (k + 1) (by omega) (by omega)] at hbk ⊢
              have := hC.1 k hk (by rw [v5, if_neg (by omega)] at h0; exact h0) hbk
              unfold chT at this ⊢
              rw [v4, v6, v7, v8]
              exact this
      · rw [dn 0 (by omega)] at h0 ⊢
        rw [w22, if_neg (fun e => hB e.1)]
        exact hC.2.1 h0
  · have no : ∀ k, k ≤ s + 1 → ¬ (chK P W v st Q k).2 = true := fun k hk => chK_no (m := s + 1) (by omega) (by rw [e2, chB_f hb]; exact hb) (s + 1 - k) k (by omega)
    refine ⟨fun k hk h0 hbk => ?_, fun h0 => absurd h0 (no 0 (by omega)), hrc⟩
    rcases Nat.lt_or_ge k (s + 1) with h9 | h9
    · exact absurd hbk (no (k + 1) (by omega))
    · rw [hi (k + 1) (by omega) (by omega)] at hbk ⊢
      by_cases h8 : k = s + 1
      · subst h8
        rw [← e1] at hbk
        exact absurd hbk hb
      · obtain ⟨v5, v4, v6, v7, v8⟩ := uk (k := k) (by omega) h8
        have := hC.1 k hk (by rw [v5, if_neg (by omega)] at h0; exact h0) hbk
        unfold chT at this ⊢
        rw [v4, v6, v7, v8]
        exact this
