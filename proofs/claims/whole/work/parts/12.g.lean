theorem mC1_n (S : mI) (k q v : Int32) {r : Nat} (h : r ≠ 100 ∧ r ≠ 129 ∧ r ≠ 130 ∧ r ≠ 131 ∧ r ≠ 132) : mC1 S k q v r = S r := by
  unfold mC1
  rw [mu_row _ _ _ h.1]
  split
  · rw [mu_row _ _ _ h.2.2.2.2, mu_row _ _ _ h.2.2.2.1, mu_row _ _ _ h.2.2.1, mu_row _ _ _ h.2.1]
  · rfl
theorem mC1_0 (S : mI) (k q v : Int32) {f : Nat} (h : f ≠ 32) : mC1 S k q v 100 f = S 100 f := by
  unfold mC1
  rw [mu_ns _ _ _ h]
  split
  · rw [mu_na _ _ _ (by decide), mu_na _ _ _ (by decide), mu_na _ _ _ (by decide), mu_na _ _ _ (by decide)]
  · rfl
theorem mCom_n (S : mI) (s0 : Nat) (n kd : Int32) {r : Nat} (h : r ≠ 100 ∧ r ≠ 125 ∧ r ≠ 126 ∧ r ≠ 127 ∧ r ≠ 129 ∧ r ≠ 130 ∧ r ≠ 131 ∧ r ≠ 132) : mCom S s0 n kd r = S r := by
  unfold mCom
  split
  · rw [mC1_n _ _ _ _ (by omega), mu_row _ _ _ (by omega), mu_row _ _ _ (by omega)]
  · split
    · rw [mC1_n _ _ _ _ (by omega), mu_row _ _ _ (by omega), mu_row _ _ _ (by omega)]
    · split
      · rw [mC1_n _ _ _ _ (by omega)]
      · split
        · rw [mu_row _ _ _ (by omega)]
        · rfl
theorem mCom_0 (S : mI) (s0 : Nat) (n kd : Int32) {f : Nat} (h : f ≠ 32 ∧ f ≠ 27 ∧ f ≠ 21) : mCom S s0 n kd 100 f = S 100 f := by
  unfold mCom
  split
  · rw [mC1_0 _ _ _ _ (by omega), mu_na _ _ _ (by decide), mu_na _ _ _ (by decide)]
  · split
    · rw [mC1_0 _ _ _ _ (by omega), mu_ns _ _ _ (by omega), mu_na _ _ _ (by decide)]
    · split
      · rw [mC1_0 _ _ _ _ (by omega)]
      · split
        · rw [mu_ns _ _ _ (by omega)]
        · rfl
theorem log_add {X Y : mI} {n : Nat} (h : rLog X Y n) (hn : n + 1 < 2147483648) (a1 a2 a3 : Int32) {a4 : Int32} (h4 : a4 = Y 100 20) : rLog (cAdd X (min n 1000) a1 a2 a3 a4) (mC1 Y a1 a2 a3) (n + 1) := by
  obtain ⟨h1, h2, h3, h5⟩ := h
  have e1 : Y 100 32 < 1000 ↔ n < 1000 := by rw [h2, show (1000 : Int32) = nI 1000 from rfl, nI_ltI (by omega) (by omega)]
  have e2 : (Y 100 32).toNatClampNeg = n := by rw [h2, nI_clamp (by omega)]
  unfold cAdd mC1
  by_cases hk : n < 1000
  · have hm : min n 1000 = n := by omega
    rw [if_pos (by omega), if_pos (e1.mpr hk), e2, hm]
    refine ⟨?_, ?_, ?_, fun j hj hj2 => ?_⟩
    · rw [mu_ns _ _ _ (by decide), mu_na _ _ _ (by decide), mu_na _ _ _ (by decide), mu_na _ _ _ (by decide), mu_na _ _ _ (by decide), mu_eq, h1, nI_1]
    · rw [mu_eq, h2, nI_1]
    · rw [mu_eq]
      congr 1
      omega
    · simp only [mu_at]
      by_cases hjn : j = n
      · subst hjn
        rw [h4]
        refine ⟨?_, ?_, ?_, ?_⟩ <;> simp
      · have := h5 j (by omega) hj2
        have d0 : ¬ j * 4 = n * 4 := by omega
        have d1 : ¬ j * 4 = n * 4 + 1 := by omega
        have d2 : ¬ j * 4 = n * 4 + 2 := by omega
        have d3 : ¬ j * 4 = n * 4 + 3 := by omega
        have d4 : ¬ j * 4 + 1 = n * 4 := by omega
        have d5 : ¬ j * 4 + 1 = n * 4 + 2 := by omega
        have d6 : ¬ j * 4 + 1 = n * 4 + 3 := by omega
        have d7 : ¬ j * 4 + 2 = n * 4 := by omega
        have d8 : ¬ j * 4 + 2 = n * 4 + 1 := by omega
        have d9 : ¬ j * 4 + 2 = n * 4 + 3 := by omega
        have da : ¬ j * 4 + 3 = n * 4 := by omega
        have db : ¬ j * 4 + 3 = n * 4 + 1 := by omega
        have dc : ¬ j * 4 + 3 = n * 4 + 2 := by omega
        refine ⟨?_, ?_, ?_, ?_⟩ <;> simp [hjn, d0, d1, d2, d3, d4, d5, d6, d7, d8, d9, da, db, dc, this]
  · rw [if_neg (by omega), if_neg (fun e => hk (e1.mp e))]
    refine ⟨?_, ?_, ?_, fun j hj hj2 => ?_⟩
    · rw [mu_eq, h1, nI_1]
    · rw [mu_eq, h2, nI_1]
    · rw [mu_ns _ _ _ (by decide), h3]
      congr 1
      omega
    · have := h5 j (by omega) hj2
      simp only [mu_at]
      simpa using this
theorem log_mu {X Y X' Y' : mI} {n : Nat} (h : rLog X Y n) (hx : X' 12 = X 12 ∧ X' 13 = X 13) (h0 : Y' 100 32 = Y 100 32) (hy : Y' 129 = Y 129 ∧ Y' 130 = Y 130 ∧ Y' 131 = Y 131 ∧ Y' 132 = Y 132) : rLog X' Y' n := by
  unfold rLog at h ⊢
  rw [hx.1, hx.2, h0, hy.1, hy.2.1, hy.2.2.1, hy.2.2.2]
  exact h
theorem sim_com {V Y : mI} {s T Q t n : Nat} {kd : Int32} (hk : 0 ≤ kd ∧ kd ≤ 9) (hn : n + 1 < 2147483648) (t31 : t < 2147483648) (q0 : V Q 0 = kd) (q1 : ¬ kd = 0 → V Q 1 = tg kd (Y 107 (Y 114 s).toNatClampNeg) ∧ V Q 4 = Y 110 (Y 114 s).toNatClampNeg ∧ vp_in (Y 107 (Y 114 s).toNatClampNeg) 8)
    (v2 : V T 2 = Y 116 s) (v4 : ¬ kd = 6 → ¬ kd = 8 → V T 4 = Y 118 s) (v6 : kd = 6 → V T 4 = Y 117 s) (v8 : kd = 8 → V T 4 = Y 116 s)
    (nw : V 14 9 = nI t ∧ Y 100 20 = nI t) (ov : V 14 11 = Y 100 21) (rg : ∀ k, k < 8 → V 16 k = Y 125 k ∧ V 19 k = Y 126 k) (ce : ∀ k, k < 64 → V 17 k = Y 127 k) (lg : rLog V Y n) (sa : ∃ z : Nat, V 14 7 = nI z ∧ z ≤ t ∧ (True → (z = t ↔ ¬ Y 100 27 = 0))) :
    ∃ n2, n ≤ n2 ∧ n2 ≤ n + 1 ∧ (∀ f, f ≠ 7 → f ≠ 11 → cFin V (min n 1000) T Q 14 f = V 14 f) ∧ cFin V (min n 1000) T Q 14 11 = mCom Y s (Y 114 s) kd 100 21 ∧ (∀ k, k < 8 → cFin V (min n 1000) T Q 16 k = mCom Y s (Y 114 s) kd 125 k ∧ cFin V (min n 1000) T Q 19 k = mCom Y s (Y 114 s) kd 126 k) ∧ (∀ k, k < 64 → cFin V (min n 1000) T Q 17 k = mCom Y s (Y 114 s) kd 127 k) ∧ rLog (cFin V (min n 1000) T Q) (mCom Y s (Y 114 s) kd) n2 ∧ ∃ z : Nat, cFin V (min n 1000) T Q 14 7 = nI z ∧ z ≤ t ∧ (True → (z = t ↔ ¬ mCom Y s (Y 114 s) kd 100 27 = 0)) := by
  have hq0 := q0
  by_cases k15 : 1 ≤ kd ∧ kd ≤ 5
  · -- a register
    have kn : ¬ kd = 0 ∧ ¬ kd = 6 ∧ ¬ kd = 8 := by
      rcases kd_cases hk with e | e | e | e | e | e | e | e | e | e <;> subst e <;> revert k15 <;> decide
    obtain ⟨w1, w4, w8⟩ := q1 kn.1
    rw [tg, if_pos k15] at w1
    have hv := v4 kn.2.1 kn.2.2
    have eC : cFin V (min n 1000) T Q = mu (cAdd (mu V 16 (Y 107 (Y 114 s).toNatClampNeg).toNatClampNeg (Y 118 s)) (min n 1000) 0 (Y 107 (Y 114 s).toNatClampNeg) (Y 118 s) (Y 100 20)) 19 (Y 107 (Y 114 s).toNatClampNeg).toNatClampNeg (Y 100 20) := by
      unfold cFin
      rw [q0, if_neg kn.1, if_neg kn.2.1, if_neg kn.2.2, if_pos k15, w1, hv, nw.1, nw.2]
    have eM : mCom Y s (Y 114 s) kd = mC1 (mu (mu Y 125 (Y 107 (Y 114 s).toNatClampNeg).toNatClampNeg (Y 118 s)) 126 (Y 107 (Y 114 s).toNatClampNeg).toNatClampNeg (Y 100 20)) 0 (Y 107 (Y 114 s).toNatClampNeg) (Y 118 s) := by
      unfold mCom
      rw [if_pos k15]
    rw [eC, eM]
    refine ⟨n + 1, by omega, by omega, fun f _ _ => ?_, ?_, fun k hk8 => ⟨?_, ?_⟩, fun k hk8 => ?_, ?_, ?_⟩
    · rw [mu_na _ _ _ (by decide), cAdd_n _ _ _ _ _ _ (by decide) (by decide), mu_na _ _ _ (by decide)]
    · rw [mu_na _ _ _ (by decide), cAdd_n _ _ _ _ _ _ (by decide) (by decide), mu_na _ _ _ (by decide), mC1_0 _ _ _ _ (by decide), mu_na _ _ _ (by decide), mu_na _ _ _ (by decide)]
      exact ov
    · rw [mu_na _ _ _ (by decide), cAdd_n _ _ _ _ _ _ (by decide) (by decide), mC1_n _ _ _ _ (by decide), mu_na (a := 126) (x := 125) _ _ _ (by decide), mu_at, mu_at, (rg k hk8).1]
      simp
    · rw [mu_at, cAdd_n _ _ _ _ _ _ (by decide) (by decide), mu_na _ _ _ (by decide), mC1_n _ _ _ _ (by decide), mu_at, mu_na _ _ _ (by decide), (rg k hk8).2]
      simp
    · rw [mu_na _ _ _ (by decide), cAdd_n _ _ _ _ _ _ (by decide) (by decide), mu_na _ _ _ (by decide), mC1_n _ _ _ _ (by decide), mu_na _ _ _ (by decide), mu_na _ _ _ (by decide)]
      exact ce k hk8
    · have l1 : rLog (mu V 16 (Y 107 (Y 114 s).toNatClampNeg).toNatClampNeg (Y 118 s)) (mu (mu Y 125 (Y 107 (Y 114 s).toNatClampNeg).toNatClampNeg (Y 118 s)) 126 (Y 107 (Y 114 s).toNatClampNeg).toNatClampNeg (Y 100 20)) n := log_mu lg ⟨mu_row _ _ _ (by decide), mu_row _ _ _ (by decide)⟩ (by rw [mu_na _ _ _ (by decide), mu_na _ _ _ (by decide)]) ⟨by rw [mu_row _ _ _ (by decide), mu_row _ _ _ (by decide)], by rw [mu_row _ _ _ (by decide), mu_row _ _ _ (by decide)], by rw [mu_row _ _ _ (by decide), mu_row _ _ _ (by decide)], by rw [mu_row _ _ _ (by decide), mu_row _ _ _ (by decide)]⟩
      have l2 := log_add l1 hn 0 (Y 107 (Y 114 s).toNatClampNeg) (Y 118 s) (a4 := Y 100 20) (by rw [mu_na _ _ _ (by decide), mu_na _ _ _ (by decide)])
      exact log_mu l2 ⟨mu_row _ _ _ (by decide), mu_row _ _ _ (by decide)⟩ rfl ⟨rfl, rfl, rfl, rfl⟩
    · rw [mu_na _ _ _ (by decide), cAdd_n _ _ _ _ _ _ (by decide) (by decide), mu_na _ _ _ (by decide), mC1_0 _ _ _ _ (by decide), mu_na _ _ _ (by decide), mu_na _ _ _ (by decide)]
      exact sa
  · by_cases k6 : kd = 6
    · -- a store
      obtain ⟨w1, w4, w8⟩ := q1 (by rw [k6]; decide)
      have hv := v6 k6
      have eP : (Y 116 s + Y 110 (Y 114 s).toNatClampNeg) &&& 63 = mPlace Y s := rfl
      have eC : cFin V (min n 1000) T Q = mu (cAdd (mu V 17 (mPlace Y s).toNatClampNeg (Y 117 s)) (min n 1000) 1 (mPlace Y s) (Y 117 s) (Y 100 20)) 14 7 (nI t) := by
        unfold cFin cWh
        rw [q0, if_neg (by rw [k6]; decide), if_pos k6, if_pos k6, v2, w4, hv, nw.1, nw.2, eP]
      have eM : mCom Y s (Y 114 s) kd = mC1 (mu (mu Y 127 (mPlace Y s).toNatClampNeg (Y 117 s)) 100 27 1) 1 (mPlace Y s) (Y 117 s) := by
        unfold mCom
        rw [if_neg k15, if_pos k6]
      rw [eC, eM]
      refine ⟨n + 1, by omega, by omega, fun f h7 _ => ?_, ?_, fun k hk8 => ⟨?_, ?_⟩, fun k hk8 => ?_, ?_, ?_⟩
      · rw [mu_ns _ _ _ h7, cAdd_n _ _ _ _ _ _ (by decide) (by decide), mu_na _ _ _ (by decide)]
      · rw [mu_ns _ _ _ (by decide), cAdd_n _ _ _ _ _ _ (by decide) (by decide), mu_na _ _ _ (by decide), mC1_0 _ _ _ _ (by decide), mu_ns _ _ _ (by decide), mu_na _ _ _ (by decide)]
        exact ov
      · rw [mu_na _ _ _ (by decide), cAdd_n _ _ _ _ _ _ (by decide) (by decide), mu_na _ _ _ (by decide), mC1_n _ _ _ _ (by decide), mu_na _ _ _ (by decide), mu_na _ _ _ (by decide)]
        exact (rg k hk8).1
      · rw [mu_na _ _ _ (by decide), cAdd_n _ _ _ _ _ _ (by decide) (by decide), mu_na _ _ _ (by decide), mC1_n _ _ _ _ (by decide), mu_na _ _ _ (by decide), mu_na _ _ _ (by decide)]
        exact (rg k hk8).2
      · rw [mu_na _ _ _ (by decide), cAdd_n _ _ _ _ _ _ (by decide) (by decide), mC1_n _ _ _ _ (by decide), mu_na _ 27 _ (by decide), mu_at, mu_at, ce k hk8]
        simp
      · have l1 : rLog (mu V 17 (mPlace Y s).toNatClampNeg (Y 117 s)) (mu (mu Y 127 (mPlace Y s).toNatClampNeg (Y 117 s)) 100 27 1) n := log_mu lg ⟨mu_row _ _ _ (by decide), mu_row _ _ _ (by decide)⟩ (by rw [mu_ns _ _ _ (by decide), mu_na _ _ _ (by decide)]) ⟨by rw [mu_row _ _ _ (by decide), mu_row _ _ _ (by decide)], by rw [mu_row _ _ _ (by decide), mu_row _ _ _ (by decide)], by rw [mu_row _ _ _ (by decide), mu_row _ _ _ (by decide)], by rw [mu_row _ _ _ (by decide), mu_row _ _ _ (by decide)]⟩
        have l2 := log_add l1 hn 1 (mPlace Y s) (Y 117 s) (a4 := Y 100 20) (by rw [mu_ns _ _ _ (by decide), mu_na _ _ _ (by decide)])
        exact log_mu l2 ⟨mu_row _ _ _ (by decide), mu_row _ _ _ (by decide)⟩ rfl ⟨rfl, rfl, rfl, rfl⟩
      · rw [mu_eq, mC1_0 _ _ _ _ (by decide), mu_eq]
        exact ⟨t, rfl, Nat.le_refl _, fun _ => ⟨fun _ => by decide, fun _ => rfl⟩⟩
    · by_cases k8 : kd = 8
      · have hv := v8 k8
        have eC : cFin V (min n 1000) T Q = cAdd V (min n 1000) 2 0 (Y 116 s) (Y 100 20) := by
          unfold cFin
          rw [q0, if_neg (by rw [k8]; decide), if_neg k6, if_pos k8, hv, nw.1, nw.2]
        have eM : mCom Y s (Y 114 s) kd = mC1 Y 2 0 (Y 116 s) := by
          unfold mCom
          rw [if_neg k15, if_neg k6, if_pos k8]
        rw [eC, eM]
        refine ⟨n + 1, by omega, by omega, fun f _ _ => ?_, ?_, fun k hk8 => ⟨?_, ?_⟩, fun k hk8 => ?_, log_add lg hn 2 0 (Y 116 s) rfl, ?_⟩
        · rw [cAdd_n _ _ _ _ _ _ (by decide) (by decide)]
        · rw [cAdd_n _ _ _ _ _ _ (by decide) (by decide), mC1_0 _ _ _ _ (by decide)]
          exact ov
        · rw [cAdd_n _ _ _ _ _ _ (by decide) (by decide), mC1_n _ _ _ _ (by decide)]
          exact (rg k hk8).1
        · rw [cAdd_n _ _ _ _ _ _ (by decide) (by decide), mC1_n _ _ _ _ (by decide)]
          exact (rg k hk8).2
        · rw [cAdd_n _ _ _ _ _ _ (by decide) (by decide), mC1_n _ _ _ _ (by decide)]
          exact ce k hk8
        · rw [cAdd_n _ _ _ _ _ _ (by decide) (by decide), mC1_0 _ _ _ _ (by decide)]
          exact sa
      · by_cases k0 : kd = 0
        · have eC : cFin V (min n 1000) T Q = mu V 14 11 1 := by
            unfold cFin
            rw [q0, if_pos k0]
          have eM : mCom Y s (Y 114 s) kd = mu Y 100 21 1 := by
            unfold mCom
            rw [if_neg k15, if_neg k6, if_neg k8, if_pos k0]
          rw [eC, eM]
          refine ⟨n, by omega, by omega, fun f _ h11 => ?_, ?_, fun k hk8 => ⟨?_, ?_⟩, fun k hk8 => ?_, ?_, ?_⟩
          · rw [mu_ns _ _ _ h11]
          · rw [mu_eq, mu_eq]
          · rw [mu_na _ _ _ (by decide), mu_na _ _ _ (by decide)]; exact (rg k hk8).1
          · rw [mu_na _ _ _ (by decide), mu_na _ _ _ (by decide)]; exact (rg k hk8).2
          · rw [mu_na _ _ _ (by decide), mu_na _ _ _ (by decide)]; exact ce k hk8
          · exact log_mu lg ⟨mu_row _ _ _ (by decide), mu_row _ _ _ (by decide)⟩ (mu_ns _ _ _ (by decide) _) ⟨mu_row _ _ _ (by decide), mu_row _ _ _ (by decide), mu_row _ _ _ (by decide), mu_row _ _ _ (by decide)⟩
          · rw [mu_ns _ _ _ (by decide), mu_ns _ _ _ (by decide)]
            exact sa
        · have eC : cFin V (min n 1000) T Q = V := by
            unfold cFin
            rw [q0, if_neg k0, if_neg k6, if_neg k8, if_neg k15]
          have eM : mCom Y s (Y 114 s) kd = Y := by
            unfold mCom
            rw [if_neg k15, if_neg k6, if_neg k8, if_neg k0]
          rw [eC, eM]
          exact ⟨n, by omega, by omega, fun f _ _ => rfl, ov, rg, ce, lg, sa⟩
