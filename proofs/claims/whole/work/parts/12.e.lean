def mV5 (Y : mI) (st s : Nat) : mI := mF4 (mF3 (mF2 (mF1 Y st s (Y 114 s) (mKind Y (Y 114 s))) s (Y 114 s) (mKind Y (Y 114 s))) s (Y 114 s) (mKind Y (Y 114 s))) s (mKind Y (Y 114 s))
abbrev mBr (Y : mI) (st s : Nat) : Prop := nI s = Y 104 3 ∧ ((mKind Y (Y 114 s)) = 9 ∨ (mKind Y (Y 114 s)) = 7 ∧ (mF1 Y st s (Y 114 s) (mKind Y (Y 114 s))) 116 s = (mF1 Y st s (Y 114 s) (mKind Y (Y 114 s))) 117 s)
section MV
variable {Y : mI} {st s : Nat}
theorem mv1_n {r : Nat} (h : r ≠ 116 ∧ r ≠ 117) : (mF1 Y st s (Y 114 s) (mKind Y (Y 114 s))) r = Y r := by funext k; rw [mF1_at, if_neg (fun q => h.1 q.2.1), if_neg (fun q => h.2 q.2.1)]
theorem mv2_n {r : Nat} (h : r ≠ 116 ∧ r ≠ 117 ∧ r ≠ 118) : (mF2 (mF1 Y st s (Y 114 s) (mKind Y (Y 114 s))) s (Y 114 s) (mKind Y (Y 114 s))) r = Y r := by funext k; rw [mF2_at, if_neg (fun q => h.2.2 q.2.1), mv1_n ⟨h.1, h.2.1⟩]
theorem mv2_1 {r : Nat} (h : r ≠ 118) : (mF2 (mF1 Y st s (Y 114 s) (mKind Y (Y 114 s))) s (Y 114 s) (mKind Y (Y 114 s))) r = (mF1 Y st s (Y 114 s) (mKind Y (Y 114 s))) r := by funext k; rw [mF2_at, if_neg (fun q => h q.2.1)]
theorem mv3_at (r k : Nat) : (mF3 (mF2 (mF1 Y st s (Y 114 s) (mKind Y (Y 114 s))) s (Y 114 s) (mKind Y (Y 114 s))) s (Y 114 s) (mKind Y (Y 114 s))) r k = if mBr Y st s ∧ r = 100 ∧ k = 22 then Y 110 (Y 114 s).toNatClampNeg else if mBr Y st s ∧ r = 115 ∧ k < s then 0 else (mF2 (mF1 Y st s (Y 114 s) (mKind Y (Y 114 s))) s (Y 114 s) (mKind Y (Y 114 s))) r k := by
  rw [mF3_at]
  simp only [mv2_n (show 104 ≠ 116 ∧ 104 ≠ 117 ∧ 104 ≠ 118 by decide), mv2_n (show 110 ≠ 116 ∧ 110 ≠ 117 ∧ 110 ≠ 118 by decide), mv2_1 (show 116 ≠ 118 by decide), mv2_1 (show 117 ≠ 118 by decide)]
theorem mv3_n {r : Nat} (h1 : r ≠ 100) (h2 : r ≠ 115) : (mF3 (mF2 (mF1 Y st s (Y 114 s) (mKind Y (Y 114 s))) s (Y 114 s) (mKind Y (Y 114 s))) s (Y 114 s) (mKind Y (Y 114 s))) r = (mF2 (mF1 Y st s (Y 114 s) (mKind Y (Y 114 s))) s (Y 114 s) (mKind Y (Y 114 s))) r := by funext k; rw [mv3_at, if_neg (fun q => h1 q.2.1), if_neg (fun q => h2 q.2.1)]
theorem mv_116 (k : Nat) : mV5 Y st s 116 k = if k = s ∧ nI s = Y 104 1 then (if mR1 (mKind Y (Y 114 s)) then mRead Y st s (Y 108 (Y 114 s).toNatClampNeg) else 0) else Y 116 k := by
  unfold mV5
  rw [mF4_at, if_neg (fun q => absurd q.2.1 (by decide)), if_neg (fun q => absurd q.2.1 (by decide)), mv3_n (by decide) (by decide), mv2_1 (by decide), mF1_at]
  grind
theorem mv_117 (k : Nat) : mV5 Y st s 117 k = if k = s ∧ nI s = Y 104 1 then (if mR2 (mKind Y (Y 114 s)) then mRead Y st s (Y 109 (Y 114 s).toNatClampNeg) else 0) else Y 117 k := by
  unfold mV5
  rw [mF4_at, if_neg (fun q => absurd q.2.1 (by decide)), if_neg (fun q => absurd q.2.1 (by decide)), mv3_n (by decide) (by decide), mv2_1 (by decide), mF1_at]
  grind
theorem mv_1f (r : Nat) (h : r = 116 ∨ r = 117) (k : Nat) : mV5 Y st s r k = (mF1 Y st s (Y 114 s) (mKind Y (Y 114 s))) r k := by
  unfold mV5
  rw [mF4_at, if_neg (by omega), if_neg (by omega), mv3_n (by omega) (by omega), mv2_1 (by omega)]
theorem mv_br : mBr Y st s ↔ (nI s = Y 104 3 ∧ ((mKind Y (Y 114 s)) = 9 ∨ (mKind Y (Y 114 s)) = 7 ∧ mV5 Y st s 116 s = mV5 Y st s 117 s)) := by
  rw [mv_1f 116 (Or.inl rfl), mv_1f 117 (Or.inr rfl)]
theorem mv_118 (k : Nat) : mV5 Y st s 118 k = if k = s then (if nI s = Y 104 4 ∧ (mKind Y (Y 114 s)) = 5 then Y 127 ((mV5 Y st s 116 s + Y 110 (Y 114 s).toNatClampNeg) &&& 63).toNatClampNeg else if nI s = Y 104 2 then (if (mKind Y (Y 114 s)) = 1 then Y 110 (Y 114 s).toNatClampNeg else if 2 ≤ (mKind Y (Y 114 s)) ∧ (mKind Y (Y 114 s)) ≤ 4 then (if (mKind Y (Y 114 s)) = 2 then mV5 Y st s 116 s + mV5 Y st s 117 s else if (mKind Y (Y 114 s)) = 3 then mV5 Y st s 116 s - mV5 Y st s 117 s else mV5 Y st s 116 s * mV5 Y st s 117 s) else Y 118 s) else Y 118 s) else Y 118 k := by
  rw [mv_1f 116 (Or.inl rfl), mv_1f 117 (Or.inr rfl)]
  unfold mV5
  rw [mF4_at, if_neg (fun q => absurd q.2.1 (by decide))]
  unfold mPlace
  have e104 : (mF3 (mF2 (mF1 Y st s (Y 114 s) (mKind Y (Y 114 s))) s (Y 114 s) (mKind Y (Y 114 s))) s (Y 114 s) (mKind Y (Y 114 s))) 104 = Y 104 := by rw [mv3_n (by decide) (by decide), mv2_n (by decide)]
  have e127 : (mF3 (mF2 (mF1 Y st s (Y 114 s) (mKind Y (Y 114 s))) s (Y 114 s) (mKind Y (Y 114 s))) s (Y 114 s) (mKind Y (Y 114 s))) 127 = Y 127 := by rw [mv3_n (by decide) (by decide), mv2_n (by decide)]
  have e110 : (mF3 (mF2 (mF1 Y st s (Y 114 s) (mKind Y (Y 114 s))) s (Y 114 s) (mKind Y (Y 114 s))) s (Y 114 s) (mKind Y (Y 114 s))) 110 = Y 110 := by rw [mv3_n (by decide) (by decide), mv2_n (by decide)]
  have e114 : (mF3 (mF2 (mF1 Y st s (Y 114 s) (mKind Y (Y 114 s))) s (Y 114 s) (mKind Y (Y 114 s))) s (Y 114 s) (mKind Y (Y 114 s))) 114 = Y 114 := by rw [mv3_n (by decide) (by decide), mv2_n (by decide)]
  have e116 : (mF3 (mF2 (mF1 Y st s (Y 114 s) (mKind Y (Y 114 s))) s (Y 114 s) (mKind Y (Y 114 s))) s (Y 114 s) (mKind Y (Y 114 s))) 116 = (mF1 Y st s (Y 114 s) (mKind Y (Y 114 s))) 116 := by rw [mv3_n (by decide) (by decide), mv2_1 (by decide)]
  have e118 : ∀ k, (mF3 (mF2 (mF1 Y st s (Y 114 s) (mKind Y (Y 114 s))) s (Y 114 s) (mKind Y (Y 114 s))) s (Y 114 s) (mKind Y (Y 114 s))) 118 k = if k = s then (if nI s = Y 104 2 then (if (mKind Y (Y 114 s)) = 1 then Y 110 (Y 114 s).toNatClampNeg else if 2 ≤ (mKind Y (Y 114 s)) ∧ (mKind Y (Y 114 s)) ≤ 4 then (if (mKind Y (Y 114 s)) = 2 then (mF1 Y st s (Y 114 s) (mKind Y (Y 114 s))) 116 s + (mF1 Y st s (Y 114 s) (mKind Y (Y 114 s))) 117 s else if (mKind Y (Y 114 s)) = 3 then (mF1 Y st s (Y 114 s) (mKind Y (Y 114 s))) 116 s - (mF1 Y st s (Y 114 s) (mKind Y (Y 114 s))) 117 s else (mF1 Y st s (Y 114 s) (mKind Y (Y 114 s))) 116 s * (mF1 Y st s (Y 114 s) (mKind Y (Y 114 s))) 117 s) else Y 118 s) else Y 118 s) else Y 118 k := fun k => by
    rw [mv3_n (by decide) (by decide), mF2_at, mv1_n (r := 104) (by decide), mv1_n (r := 110) (by decide), mv1_n (r := 118) (by decide)]
    grind
  rw [e104, e127, e110, e114, e116, e118]
  grind
theorem mv_119 (k : Nat) : mV5 Y st s 119 k = if k = s ∧ nI s = Y 104 4 ∧ (mKind Y (Y 114 s)) = 5 then Y 100 20 else Y 119 k := by
  unfold mV5
  have e104 : (mF3 (mF2 (mF1 Y st s (Y 114 s) (mKind Y (Y 114 s))) s (Y 114 s) (mKind Y (Y 114 s))) s (Y 114 s) (mKind Y (Y 114 s))) 104 = Y 104 := by rw [mv3_n (by decide) (by decide), mv2_n (by decide)]
  have e20 : (mF3 (mF2 (mF1 Y st s (Y 114 s) (mKind Y (Y 114 s))) s (Y 114 s) (mKind Y (Y 114 s))) s (Y 114 s) (mKind Y (Y 114 s))) 100 20 = Y 100 20 := by rw [mv3_at, if_neg (fun q => absurd q.2.2 (by decide)), if_neg (fun q => absurd q.2.1 (by decide)), mv2_n (by decide)]
  have e119 : (mF3 (mF2 (mF1 Y st s (Y 114 s) (mKind Y (Y 114 s))) s (Y 114 s) (mKind Y (Y 114 s))) s (Y 114 s) (mKind Y (Y 114 s))) 119 = Y 119 := by rw [mv3_n (by decide) (by decide), mv2_n (by decide)]
  rw [mF4_at, e104, e20, e119]
  grind
theorem mv_115 (k : Nat) : mV5 Y st s 115 k = if mBr Y st s ∧ k < s then 0 else Y 115 k := by
  unfold mV5
  rw [mF4_at, if_neg (fun q => absurd q.2.1 (by decide)), if_neg (fun q => absurd q.2.1 (by decide)), mv3_at, if_neg (fun q => absurd q.2.1 (by decide)), mv2_n (by decide)]
  simp
theorem mv_100 (k : Nat) : mV5 Y st s 100 k = if mBr Y st s ∧ k = 22 then Y 110 (Y 114 s).toNatClampNeg else Y 100 k := by
  unfold mV5
  rw [mF4_at, if_neg (fun q => absurd q.2.1 (by decide)), if_neg (fun q => absurd q.2.1 (by decide)), mv3_at, mv2_n (by decide)]
  simp
theorem mv_n {r : Nat} (h : r ≠ 100 ∧ r ≠ 115 ∧ r ≠ 116 ∧ r ≠ 117 ∧ r ≠ 118 ∧ r ≠ 119) : mV5 Y st s r = Y r := by
  funext k
  unfold mV5
  rw [mF4_at, if_neg (fun q => h.2.2.2.2.2 q.2.1), if_neg (fun q => h.2.2.2.2.1 q.2.1), mv3_n h.1 h.2.1, mv2_n ⟨h.2.2.1, h.2.2.2.1, h.2.2.2.2.1⟩]
end MV
theorem tV_fire {r x q a s t : Nat} {y : Option Nat} (hl : r ≤ x ∧ x ≤ q) {kd : Int32} (hk : 0 ≤ kd ∧ kd ≤ 9) (ht : 1 ≤ t) {i va vb cv l rr vv gv one two res fi : Int32} {b b2 : Prop} (hb : b) (hb2 : ¬ b2) (h : tV r x (ndO y a kd) s kd l rr vv gv one two res fi t b) {l2 r2 v2 g2 o2 w2 e2 : Int32}
    (h1 : l2 = if r = s ∧ mR1 kd then va else l) (h2 : r2 = if r = s ∧ cR2 kd then vb else rr)
    (h3 : v2 = if q = s ∧ kd = 5 then cv else if x = s then cWork kd i l2 r2 else vv)
    (h4 : g2 = if ndO y a kd = some s then nI t else gv)
    (h5 : o2 = if r = s then (if mR1 kd then va else 0) else one) (h6 : w2 = if r = s then (if mR2 kd then vb else 0) else two)
    (h7 : e2 = if q = s ∧ kd = 5 then cv else if x = s then (if kd = 1 then i else if 2 ≤ kd ∧ kd ≤ 4 then (if kd = 2 then o2 + w2 else if kd = 3 then o2 - w2 else o2 * w2) else res) else res) : tV r x (ndO y a kd) (s + 1) kd l2 r2 v2 g2 o2 w2 e2 (nI t) t b2 := by
  obtain ⟨a1, a2, a3, a4, a5, a6, u, a7, a8, a9, a10, a11⟩ := h
  have hR2 := cR2_eq hk
  have k1 : l2 = o2 := by grind
  have k2 : r2 = w2 := by grind
  refine ⟨k1, k2, fun hq => ?_, fun hq => ?_, fun n6 n8 => ?_, fun hq => ?_, t, rfl, Nat.le_refl _, fun q => absurd q hb2, fun q => ?_, fun z hz => ⟨fun q => ?_, fun q => ?_⟩⟩
  · have := a3 (by omega)
    rw [h5, h6, if_neg (by omega), if_neg (by omega)]
    exact this
  · rw [h7, if_neg (by omega), if_neg (by omega)]
    exact a4 (by omega)
  · have := a5 n6 n8
    by_cases c1 : q = s ∧ kd = 5
    · rw [h3, h7, if_pos c1, if_pos c1]
    · rw [h3, h7, if_neg c1, if_neg c1]
      by_cases c2 : x = s
      · rw [if_pos c2, if_pos c2, ← k1, ← k2]
        have h0 := a4 (by omega)
        rcases kd_cases hk with e | e | e | e | e | e | e | e | e | e <;> subst e <;> first | exact absurd rfl n6 | exact absurd rfl n8 | (simp [cWork, h0]; done) | (simp [cWork]; done) | rfl
      · rw [if_neg c2, if_neg c2]
        exact this
  · have c1 : kd = 6 ∨ kd = 8 → ¬ (q = s ∧ kd = 5) := fun e e2 => by rcases e with e | e <;> rw [e] at e2 <;> exact absurd e2.2 (by decide)
    by_cases c2 : x = s
    · refine ⟨fun e => ?_, fun e => ?_⟩
      · rw [h3, if_neg (c1 (Or.inl e)), if_pos c2, ← k2, e]; rfl
      · rw [h3, if_neg (c1 (Or.inr e)), if_pos c2, ← k1, e]; rfl
    · have h9 := a6 (by omega)
      refine ⟨fun e => ?_, fun e => ?_⟩
      · rw [h3, if_neg (c1 (Or.inl e)), if_neg c2, h6, if_neg (by omega)]; exact h9.1 e
      · rw [h3, if_neg (c1 (Or.inr e)), if_neg c2, h5, if_neg (by omega)]; exact h9.2 e
  · rw [h4, if_neg (by rw [q]; exact fun e => by cases e)]
    exact a10 q
  · rw [h4, if_neg (by rw [hz]; exact fun e => by cases e; omega)]
    exact (a11 z hz).1 (by omega)
  · by_cases e : z = s
    · rw [h4, if_pos (by rw [hz, e])]
      exact ⟨t, rfl, ht, Nat.le_refl _, fun _ => rfl, fun q => by omega⟩
    · rw [h4, if_neg (by rw [hz]; exact fun e2 => by cases e2; exact e rfl)]
      obtain ⟨g, b1, b2, b3, b4, b5⟩ := (a11 z hz).2 (by omega)
      have := a9 hb
      exact ⟨g, b1, b2, by omega, fun q => by omega, fun q => by omega⟩
