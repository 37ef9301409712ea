theorem chK_dn2 {P Y Y' : mI} {v st m : Nat} {Q Q' : sQ} (hm : m ≤ st) (e : chK P Y' v st Q' m = chK P Y v st Q m) : ∀ (d k : Nat), k + d = m → (∀ j, k ≤ j → j < m → (Y' 115 j = 0 ↔ Y 115 j = 0)) → chK P Y' v st Q' k = chK P Y v st Q k := by
  intro d
  induction d with
  | zero => intro k hk _; rw [show k = m by omega]; exact e
  | succ d ih =>
    intro k hk h
    rw [chK_s P Y' v Q' (by omega), chK_s P Y v Q (by omega), ih (k + 1) (by omega) (fun j h1 h2 => h j (by omega) h2)]
    have := h k (Nat.le_refl _) (by omega)
    by_cases e : Y 115 k = 0
    · rw [if_pos e, if_pos (this.mpr e)]
    · rw [if_neg e, if_neg (fun q => e (this.mp q))]
def chL (P Y : mI) (g : Nat) : Prop := (∀ t, t < g → ¬ mKind P (qN P t).1 = 0) ∧ Y 100 32 = nI (qM P g) ∧ ∀ t, t < g → qC P (qN P t) → qM P t < 1000 → Y 129 (qM P t) = qW P (qN P t) ∧ Y 130 (qM P t) = qH P (qN P t) ∧ Y 131 (qM P t) = qV P (qN P t)
def chI (P Y : mI) (st r x v q g : Nat) : Prop := chL P Y g ∧ (Y 100 21 = 0 → Y 100 23 = nI g ∧ chC P Y st r x v q (qN P g)) ∧ (¬ Y 100 21 = 0 → Y 100 23 = nI (g + 1) ∧ mKind P (qN P g).1 = 0)
theorem chL_of {P Y Y' : mI} {g : Nat} (h : chL P Y g) (h0 : Y' 100 32 = Y 100 32) (h1 : Y' 129 = Y 129 ∧ Y' 130 = Y 130 ∧ Y' 131 = Y 131) : chL P Y' g := by
  unfold chL at h ⊢
  rw [h0, h1.1, h1.2.1, h1.2.2]
  exact h
theorem chL_no {P Y : mI} {g : Nat} (h : chL P Y g) (hk : ¬ mKind P (qN P g).1 = 0) (hc : ¬ qC P (qN P g)) : chL P Y (g + 1) := by
  have em : qM P (g + 1) = qM P g := by rw [qM, if_neg hc]
  refine ⟨fun t ht => ?_, by rw [em]; exact h.2.1, fun t ht hq => ?_⟩
  · by_cases e : t = g
    · rw [e]; exact hk
    · exact h.1 t (by omega)
  · by_cases e : t = g
    · rw [e] at hq; exact absurd hq hc
    · exact h.2.2 t (by omega) hq
theorem chL_add {P Y Y' : mI} {g : Nat} (h : chL P Y g) (hg : g + 1 < 2147483648) (hk : ¬ mKind P (qN P g).1 = 0) (hc : qC P (qN P g)) (h0 : Y' 100 32 = Y 100 32) (h1 : Y' 129 = Y 129 ∧ Y' 130 = Y 130 ∧ Y' 131 = Y 131) {a b c : Int32} (ea : a = qW P (qN P g)) (eb : b = qH P (qN P g)) (ec : c = qV P (qN P g)) : chL P (mC1 Y' a b c) (g + 1) := by
  have h := chL_of h h0 h1
  have em : qM P (g + 1) = qM P g + 1 := by rw [qM, if_pos hc]
  have hmg := qM_le P g
  have e2 : (Y' 100 32).toNatClampNeg = qM P g := by rw [h.2.1, nI_clamp (by omega)]
  have e1 : Y' 100 32 < 1000 ↔ qM P g < 1000 := by rw [h.2.1, show (1000 : Int32) = nI 1000 from rfl, nI_ltI (by omega) (by omega)]
  refine ⟨fun t ht => ?_, by rw [mC1_32, em, h.2.1, nI_1], fun t ht hq hm => ?_⟩
  · by_cases e : t = g
    · rw [e]; exact hk
    · exact h.1 t (by omega)
  · unfold mC1
    rw [mu_na _ _ _ (by decide), mu_na _ _ _ (by decide), mu_na _ _ _ (by decide), e2]
    by_cases e : t = g
    · subst e
      rw [if_pos (e1.mpr hm)]
      refine ⟨?_, ?_, ?_⟩
      · rw [mu_na _ _ _ (by decide), mu_na _ _ _ (by decide), mu_na _ _ _ (by decide), mu_eq, ea]
      · rw [mu_na _ _ _ (by decide), mu_na _ _ _ (by decide), mu_eq, eb]
      · rw [mu_na _ _ _ (by decide), mu_eq, ec]
    · have hs := qM_step (show t < g by omega) hq
      have hne : qM P t ≠ qM P g := by omega
      have o := h.2.2 t (by omega) hq hm
      split
      · rw [mu_ns _ _ _ hne, mu_ns _ _ _ hne, mu_ns _ _ _ hne, mu_ns _ _ _ hne, mu_ns _ _ _ hne, mu_ns _ _ _ hne, mu_ns _ _ _ hne, mu_ns _ _ _ hne, mu_ns _ _ _ hne, mu_ns _ _ _ hne, mu_ns _ _ _ hne, mu_ns _ _ _ hne]
        exact o
      · exact o
theorem mFire_ls {Y : mI} {st r x v q a s : Nat} {y : Option Nat} (hl : lay Y st r x v q a y) (hs : s + 1 = st) : mFire Y st s = mF6 (mCom Y s (Y 114 s) (mKind Y (Y 114 s))) st s (Y 114 s) := by
  have h := hl.le
  have m1 : ¬ nI s = Y 104 1 := by rw [hl.r, nI_eq (by omega) (by omega)]; omega
  have m2 : ¬ nI s = Y 104 2 := by rw [hl.x, nI_eq (by omega) (by omega)]; omega
  have m3 : ¬ nI s = Y 104 3 := by rw [hl.v, nI_eq (by omega) (by omega)]; omega
  have m4 : ¬ nI s = Y 104 4 := by rw [hl.q, nI_eq (by omega) (by omega)]; omega
  have eMV : mV5 Y st s = Y := by
    funext r k
    by_cases e0 : r = 100
    · subst e0; rw [mv_100, if_neg (fun e => m3 e.1.1)]
    by_cases e1 : r = 115
    · subst e1; rw [mv_115, if_neg (fun e => m3 e.1.1)]
    by_cases e2 : r = 116
    · subst e2; rw [mv_116, if_neg (fun e => m1 e.2)]
    by_cases e3 : r = 117
    · subst e3; rw [mv_117, if_neg (fun e => m1 e.2)]
    by_cases e4 : r = 118
    · subst e4
      rw [mv_118]
      by_cases e : k = s
      · rw [if_pos e, if_neg (fun e => m4 e.1), if_neg m2, e]
      · rw [if_neg e]
    by_cases e5 : r = 119
    · subst e5; rw [mv_119, if_neg (fun e => m4 e.2.1)]
    rw [mv_n ⟨e0, e1, e2, e3, e4, e5⟩]
  show mF6 (mF5 (mV5 Y st s) s (Y 114 s) (mKind Y (Y 114 s))) st s (Y 114 s) = _
  rw [eMV]
  unfold mF5
  rw [if_pos (by rw [hl.w, show st - 1 = s by omega])]
/-- the commit keeps the log, and the registers and places are the program's -/
theorem ch_com {P Y : mI} {st r x v q a : Nat} {y : Option Nat} {g s : Nat} (hF : pF P) (hP : pS P Y) (hl : lay Y st r x v q a y) (hg : g + 1 < 2147483648) (hs : s + 1 = st) (hL : chL P Y g) (hT : chT P Y r x q s (qN P g)) (hR : ∀ j, j < 8 → Y 125 j = (qN P g).2.1 j) (hM : ∀ j, j < 64 → Y 127 j = (qN P g).2.2 j) (hk : ¬ mKind P (qN P g).1 = 0) : chL P (mCom Y s (Y 114 s) (mKind Y (Y 114 s))) (g + 1) ∧ (∀ j, j < 8 → mCom Y s (Y 114 s) (mKind Y (Y 114 s)) 125 j = (qS P (qN P g)).2.1 j) ∧ (∀ j, j < 64 → mCom Y s (Y 114 s) (mKind Y (Y 114 s)) 127 j = (qS P (qN P g)).2.2 j) ∧ mCom Y s (Y 114 s) (mKind Y (Y 114 s)) 100 21 = Y 100 21 := by
  have hle := hl.le
  obtain ⟨t1, t2, t3, t4⟩ := hT
  obtain ⟨o1, o2⟩ := t2 (by omega)
  have hkd : mKind Y (Y 114 s) = mKind P (qN P g).1 := by rw [hP.k, t1]
  have y7 : Y 107 (Y 114 s).toNatClampNeg = P 107 (qN P g).1.toNatClampNeg := by rw [hP.2.2.1, t1]
  have y10 : Y 110 (Y 114 s).toNatClampNeg = P 110 (qN P g).1.toNatClampNeg := by rw [hP.2.2.2.2.2.1, t1]
  have hk9 := hF.1 (qN P g).1
  rw [hkd]
  unfold mCom
  rw [y7]
  by_cases k15 : 1 ≤ mKind P (qN P g).1 ∧ mKind P (qN P g).1 ≤ 5
  · have h6 : mKind P (qN P g).1 < 6 := by
      have := k15.2
      rw [i_le] at this; rw [i_lt]
      have e5 : (5 : Int32).toInt = 5 := rfl
      have e6 : (6 : Int32).toInt = 6 := rfl
      omega
    have n6 : ¬ mKind P (qN P g).1 = 6 := fun e => by rw [e] at h6; exact absurd h6 (by decide)
    have hc : qC P (qN P g) := ⟨fun e => by rw [e] at h6; exact absurd h6 (by decide), fun e => by rw [e] at h6; exact absurd h6 (by decide)⟩
    have hv : Y 118 s = qV P (qN P g) := by
      by_cases k5 : mKind P (qN P g).1 = 5
      · exact t4 (by omega) k5
      · refine t3 (by omega) k15.1 ?_
        have := k15.2
        rw [i_le] at this ⊢
        rw [i_eq] at k5
        have e5 : (5 : Int32).toInt = 5 := rfl
        have e4 : (4 : Int32).toInt = 4 := rfl
        omega
    rw [if_pos k15, hv]
    refine ⟨chL_add hL hg hk hc (by rw [mu_na _ _ _ (by decide), mu_na _ _ _ (by decide)]) ⟨by rw [mu_row _ _ _ (by decide), mu_row _ _ _ (by decide)], by rw [mu_row _ _ _ (by decide), mu_row _ _ _ (by decide)], by rw [mu_row _ _ _ (by decide), mu_row _ _ _ (by decide)]⟩ (by rw [qW, if_pos h6]) (by rw [qH, if_pos h6]) rfl, fun j hj => ?_, fun j hj => ?_, ?_⟩
    · rw [mC1_n _ _ _ _ (by decide), mu_na (a := 126) (x := 125) _ _ _ (by decide), mu_at, qS]
      simp only [if_pos h6, upd, hR j hj, true_and]
    · rw [mC1_n _ _ _ _ (by decide), mu_na _ _ _ (by decide), mu_na _ _ _ (by decide), qS]
      simp only [if_neg n6]
      exact hM j hj
    · rw [mC1_0 _ _ _ _ (by decide), mu_na _ _ _ (by decide), mu_na _ _ _ (by decide)]
  · rw [if_neg k15]
    have n6 : ¬ mKind P (qN P g).1 < 6 := fun e => by
      rcases kd_cases hk9 with h | h | h | h | h | h | h | h | h | h <;> rw [h] at e k15 hk <;> first | exact hk rfl | exact k15 (by decide) | exact absurd e (by decide)
    by_cases k6 : mKind P (qN P g).1 = 6
    · have hc : qC P (qN P g) := ⟨fun e => by rw [e] at k6; exact absurd k6 (by decide), fun e => by rw [e] at k6; exact absurd k6 (by decide)⟩
      rw [k6, if_pos (by decide)] at o1 o2
      have hp : mPlace Y s = qP P (qN P g) := by unfold mPlace; rw [o1, y10]; rfl
      have hv : Y 117 s = qV P (qN P g) := by rw [o2, qV]; simp [k6]
      rw [if_pos k6, hp, hv]
      refine ⟨chL_add hL hg hk hc (by rw [mu_ns _ _ _ (by decide), mu_na _ _ _ (by decide)]) ⟨by rw [mu_row _ _ _ (by decide), mu_row _ _ _ (by decide)], by rw [mu_row _ _ _ (by decide), mu_row _ _ _ (by decide)], by rw [mu_row _ _ _ (by decide), mu_row _ _ _ (by decide)]⟩ (by rw [qW, if_neg n6, if_pos k6]) (by rw [qH, if_neg n6, if_pos k6]) rfl, fun j hj => ?_, fun j hj => ?_, ?_⟩
      · rw [mC1_n _ _ _ _ (by decide), mu_na _ _ _ (by decide), mu_na _ _ _ (by decide), qS]
        simp only [if_neg n6]
        exact hR j hj
      · rw [mC1_n _ _ _ _ (by decide), mu_na (a := 100) (x := 127) _ _ _ (by decide), mu_at, qS]
        simp only [if_pos k6, upd, hM j hj, true_and]
      · rw [mC1_0 _ _ _ _ (by decide), mu_ns _ _ _ (by decide), mu_na _ _ _ (by decide)]
    · rw [if_neg k6]
      by_cases k8 : mKind P (qN P g).1 = 8
      · have hc : qC P (qN P g) := ⟨fun e => by rw [e] at k8; exact absurd k8 (by decide), fun e => by rw [e] at k8; exact absurd k8 (by decide)⟩
        rw [k8, if_pos (by decide)] at o1
        have hv : Y 116 s = qV P (qN P g) := by rw [o1, qV]; simp [k8]
        rw [if_pos k8, hv]
        refine ⟨chL_add hL hg hk hc rfl ⟨rfl, rfl, rfl⟩ (by rw [qW, if_neg n6, if_neg k6]) (by rw [qH, if_neg n6, if_neg k6]) rfl, fun j hj => ?_, fun j hj => ?_, ?_⟩
        · rw [mC1_n _ _ _ _ (by decide), qS]
          simp only [if_neg n6]
          exact hR j hj
        · rw [mC1_n _ _ _ _ (by decide), qS]
          simp only [if_neg k6]
          exact hM j hj
        · rw [mC1_0 _ _ _ _ (by decide)]
      · rw [if_neg k8, if_neg hk]
        have hc : ¬ qC P (qN P g) := fun e => by
          obtain ⟨ea, eb⟩ := e
          rcases kd_cases hk9 with h | h | h | h | h | h | h | h | h | h <;> rw [h] at ea eb k15 hk k6 k8 <;> first | exact hk rfl | exact k15 (by decide) | exact k6 rfl | exact k8 rfl | exact ea rfl | exact eb rfl
        refine ⟨chL_no hL hk hc, fun j hj => ?_, fun j hj => ?_, rfl⟩
        · rw [qS_no hc]; exact hR j hj
        · rw [qS_no hc]; exact hM j hj
theorem ch_last {P Y : mI} {st r x v q a : Nat} {y : Option Nat} {g s : Nat} (hF : pF P) (hP : pS P Y) (hI : chI P Y st r x v q g) (hl : lay Y st r x v q a y) (hg : g + 1 < 2147483648) (hs : s + 1 = st) (hp : ¬ Y 115 s = 0) (ho : Y 100 21 = 0) : ∃ g2, g ≤ g2 ∧ g2 ≤ g + 1 ∧ chI P (mFire Y st s) st r x v q g2 := by
  have hle := hl.le
  obtain ⟨hL, hA, -⟩ := hI
  obtain ⟨h23, hC⟩ := hA ho
  have hT : chT P Y r x q s (qN P g) := by
    have hst : chK P Y v st (qN P g) (s + 1) = (qN P g, true) := by rw [hs]; exact chK_st _ _ _ _ _
    have := hC.1 s (by omega) hp (by rw [hst])
    rw [hst] at this
    exact this
  have hkd : mKind Y (Y 114 s) = mKind P (qN P g).1 := by rw [hP.k, hT.1]
  have hm6 := mF6_last (mCom Y s (Y 114 s) (mKind Y (Y 114 s))) st s (Y 114 s) hs
  rw [mFire_ls hl hs]
  by_cases hk : mKind P (qN P g).1 = 0
  · refine ⟨g, Nat.le_refl _, by omega, ?_⟩
    have eM : mCom Y s (Y 114 s) (mKind Y (Y 114 s)) = mu Y 100 21 1 := by
      unfold mCom
      rw [hkd, hk]
      rfl
    rw [eM] at hm6 ⊢
    refine ⟨chL_of hL (by rw [hm6, if_neg (by omega), if_neg (by omega), mu_ns _ _ _ (by decide)]) ⟨?_, ?_, ?_⟩, fun e => ?_, fun _ => ⟨?_, hk⟩⟩
    · funext k; rw [hm6, if_neg (by omega), if_neg (by omega), mu_na _ _ _ (by decide)]
    · funext k; rw [hm6, if_neg (by omega), if_neg (by omega), mu_na _ _ _ (by decide)]
    · funext k; rw [hm6, if_neg (by omega), if_neg (by omega), mu_na _ _ _ (by decide)]
    · rw [hm6, if_neg (by omega), if_neg (by omega), mu_eq] at e
      exact absurd e (by decide)
    · rw [hm6, if_pos ⟨rfl, rfl⟩, mu_ns _ _ _ (by decide), h23, nI_1]
  · refine ⟨g + 1, by omega, Nat.le_refl _, ?_⟩
    obtain ⟨b1, b2, b3, b4⟩ := ch_com hF hP hl hg hs hL hT hC.2.2.1 hC.2.2.2 hk
    have mN : ∀ r, (r ≠ 100 ∧ r ≠ 125 ∧ r ≠ 126 ∧ r ≠ 127 ∧ r ≠ 129 ∧ r ≠ 130 ∧ r ≠ 131 ∧ r ≠ 132) → mCom Y s (Y 114 s) (mKind Y (Y 114 s)) r = Y r := fun r hr => mCom_n _ _ _ _ hr
    have m0 : ∀ f, (f ≠ 32 ∧ f ≠ 27 ∧ f ≠ 21) → mCom Y s (Y 114 s) (mKind Y (Y 114 s)) 100 f = Y 100 f := fun f hf => mCom_0 _ _ _ _ hf
    generalize hMM : mCom Y s (Y 114 s) (mKind Y (Y 114 s)) = M at *
    have w0 : ∀ k, k ≠ 23 → mF6 M st s (Y 114 s) 100 k = M 100 k := fun k hk => by rw [hm6, if_neg (fun e => hk e.2), if_neg (by omega)]
    have wn : ∀ r, r ≠ 100 → r ≠ 115 → mF6 M st s (Y 114 s) r = M r := fun r h1 h2 => by funext k; rw [hm6, if_neg (fun e => h1 e.1), if_neg (fun e => h2 e.1)]
    have w5 : ∀ k, k ≠ s → mF6 M st s (Y 114 s) 115 k = Y 115 k := fun k hk => by rw [hm6, if_neg (by omega), if_neg (fun e => hk e.2), mN 115 (by decide)]
    have ws : mF6 M st s (Y 114 s) 115 s = 0 := by rw [hm6, if_neg (by omega), if_pos ⟨rfl, rfl⟩]
    have w23 : mF6 M st s (Y 114 s) 100 23 = nI (g + 1) := by rw [hm6, if_pos ⟨rfl, rfl⟩, m0 _ (by decide), h23, nI_1]
    generalize hW : mF6 M st s (Y 114 s) = W at *
    have ov : W 100 21 = 0 := by rw [w0 _ (by decide), b4]; exact ho
    refine ⟨chL_of b1 (w0 _ (by decide)) ⟨wn 129 (by decide) (by decide), wn 130 (by decide) (by decide), wn 131 (by decide) (by decide)⟩, fun _ => ⟨w23, ?_⟩, fun e => absurd ov e⟩
    have es : chK P W v st (qN P (g + 1)) s = chK P Y v st (qN P g) s := by
      rw [chK_s P W v _ (by omega), if_pos ws, chK_s P Y v _ (by omega), if_neg hp, hs, chK_st, chK_st, chB_t rfl]
      congr 1
      exact (decide_eq_true ⟨hk, fun _ => by omega⟩).symm
    have dn : ∀ k, k ≤ s → chK P W v st (qN P (g + 1)) k = chK P Y v st (qN P g) k := fun k hk => chK_dn2 (m := s) (by omega) es (s - k) k (by omega) (fun j h1 h2 => by rw [w5 j (by omega)])
    refine ⟨fun k hk h0 hb => ?_, fun h0 => ?_, fun j hj => ?_, fun j hj => ?_⟩
    · have hks : k ≠ s := fun e => by rw [e] at h0; exact h0 ws
      rw [dn (k + 1) (by omega)] at hb ⊢
      rw [w5 k hks] at h0
      have := hC.1 k hk h0 hb
      unfold chT at this ⊢
      rw [wn 114 (by decide) (by decide), wn 116 (by decide) (by decide), wn 117 (by decide) (by decide), wn 118 (by decide) (by decide), mN 114 (by decide), mN 116 (by decide), mN 117 (by decide), mN 118 (by decide)]
      exact this
    · rw [dn 0 (by omega)] at h0 ⊢
      rw [w0 _ (by decide), m0 _ (by decide)]
      exact hC.2.1 h0
    · rw [wn 125 (by decide) (by decide)]; exact b2 j hj
    · rw [wn 127 (by decide) (by decide)]; exact b3 j hj
