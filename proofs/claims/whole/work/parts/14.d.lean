theorem chX_Z {P Y Y' : mI} {st r x v q a : Nat} {y : Option Nat} {g : Nat} (h : chX P Y st r x v q a y g) (y0 : ∀ f, f ≠ 1 → Y' 100 f = Y 100 f) (hy : ∀ r, r ≠ 100 ∧ r ≠ 101 ∧ r ≠ 134 → Y' r = Y r) : chX P Y' st r x v q a y g := by
  obtain ⟨hP, hl, hL, hA, hB⟩ := h
  refine ⟨?_, lay_of hl (y0 _ (by decide)) (hy 104 (by decide)), chL_of hL (y0 _ (by decide)) ⟨hy 129 (by decide), hy 130 (by decide), hy 131 (by decide)⟩, fun e => ?_, fun e => ?_⟩
  · unfold pS at hP ⊢
    rw [y0 _ (by decide), hy 106 (by decide), hy 107 (by decide), hy 108 (by decide), hy 109 (by decide), hy 110 (by decide), hy 112 (by decide)]
    exact hP
  · rw [y0 _ (by decide)] at e ⊢
    obtain ⟨h23, hC⟩ := hA e
    refine ⟨h23, ?_⟩
    have up : ∀ k, k ≤ st → chK P Y' v st (qN P g) k = chK P Y v st (qN P g) k := fun k h2 => chK_of (st - k) k (by omega) (fun j h3 h4 => by rw [hy 115 (by decide)])
    refine ⟨fun k hk hp hb => ?_, fun hb => ?_, ?_, ?_⟩
    · rw [up (k + 1) (by omega)] at hb ⊢
      rw [hy 115 (by decide)] at hp
      have := hC.1 k hk hp hb
      unfold chT at this ⊢
      rw [hy 114 (by decide), hy 116 (by decide), hy 117 (by decide), hy 118 (by decide)]
      exact this
    · rw [up 0 (by omega)] at hb ⊢
      rw [y0 _ (by decide)]
      exact hC.2.1 hb
    · rw [hy 125 (by decide)]; exact hC.2.2.1
    · rw [hy 127 (by decide)]; exact hC.2.2.2
  · rw [y0 _ (by decide)] at e ⊢
    exact hB e
theorem cAt_nat {cnt j : Nat} (h : cnt < 100) (hj : j < 2147483648) : cAt cnt (nI j) = if j < cnt then 32 + j else 8 := by
  unfold cAt
  have e0 : (0 : Int32) ≤ nI j := nI_le (a := 0) (by omega) (by omega)
  by_cases hc : j < cnt
  · rw [if_pos ⟨e0, nI_lt hc (by omega)⟩, if_pos hc, nI_clamp (by omega)]
  · rw [if_neg (fun e => hc ((nI_ltI (by omega) (by omega)).mp e.2)), if_neg hc]
theorem cAt_neg {cnt : Nat} {n : Int32} (h : n < 0) : cAt cnt n = 8 := by
  unfold cAt
  rw [if_neg (fun e => Int32.not_lt.mpr e.1 h)]
theorem mKind_nat {S : mI} {sz j : Nat} (hs : S 100 10 = nI sz) (h : sz < 100) (hj : j < 2147483648) : mKind S (nI j) = if j < sz then S 106 j else 0 := by
  unfold mKind
  have e0 : (0 : Int32) ≤ nI j := nI_le (a := 0) (by omega) (by omega)
  have e1 : nI j ≤ S 100 10 - 1 ↔ j < sz := by
    rw [hs, i_le]
    have h1 : (nI sz - 1).toInt = (nI sz).toInt - (1 : Int32).toInt := i_sub (by rw [i_nI (by omega)]; show _ ≤ _ - (1 : Int); omega) (by rw [i_nI (by omega)]; show _ - (1 : Int) < _; omega)
    rw [h1, i_nI (by omega), i_nI (by omega)]
    have e1 : (1 : Int32).toInt = 1 := rfl
    omega
  by_cases hc : j < sz
  · rw [if_pos ⟨e0, e1.mpr hc⟩, if_pos hc, nI_clamp (by omega)]
  · rw [if_neg (fun e => hc (e1.mp e.2)), if_neg hc]
theorem mKind_neg {S : mI} {n : Int32} (h : n < 0) : mKind S n = 0 := by
  unfold mKind
  rw [if_neg (fun e => Int32.not_lt.mpr e.1 h)]
theorem nI_or (n : Int32) : n < 0 ∨ ∃ j : Nat, j < 2147483648 ∧ n = nI j := by
  by_cases h : n < 0
  · exact Or.inl h
  · exact Or.inr (nI_of h)
theorem in8 {d : Int32} (h : 0 ≤ d ∧ d < 8) : vp_in d 8 := in_lt2 h (by decide)
theorem op_code {Sh : mS} {X : mI} {G : mP} {Y : mI} {B st cnt r x v q a : Nat} {y : Option Nat} {t n : Nat} (h : jJ Sh X G Y B st cnt r x v q a y t n) (k d a2 b2 i : Int32) (hok : cCodeOk X k d a2 b2) : jJ (mTn Sh (32 + cnt) (0, 2, 0)) (cCodS X G cnt k d a2 b2 i) (cCodG G cnt) (mCode Y k d a2 b2 i) B st (cnt + 1) r x v q a y 0 0 := by
  obtain ⟨hw, ht, h4, hb, h6, h40, hr, hi, hl, -⟩ := h.ci
  have hs := h.re.st
  have hc40 : cnt < 40 := by
    have := hok.2.1
    rw [h6, show (40 : Int32) = nI 40 from rfl, nI_leI (by omega) (by omega)] at this
    omega
  have hn : Sh (32 + cnt) = none := h.fr cnt (Nat.le_refl _) (by omega)
  obtain ⟨⟨k0, k9⟩, -, hd, ha, hb8⟩ := hok
  have eC : (Y 100 10).toNatClampNeg = cnt := by rw [hs.mc, nI_clamp (by omega)]
  have xr : ∀ r, r ≠ 32 + cnt → r ≠ 6 → mu (cMk (mIn X (32 + cnt)) (32 + cnt) k d a2 b2 i) 6 2 (nI (cnt + 1)) r = X r := fun r h1 h2 => by
    rw [mu_row _ _ _ h2]
    unfold cMk
    rw [mu_row _ _ _ h1, mu_row _ _ _ h1, mu_row _ _ _ h1, mu_row _ _ _ h1, mu_row _ _ _ h1]
    funext f
    exact if_neg h1
  have xq : mu (cMk (mIn X (32 + cnt)) (32 + cnt) k d a2 b2 i) 6 2 (nI (cnt + 1)) (32 + cnt) 0 = k ∧ mu (cMk (mIn X (32 + cnt)) (32 + cnt) k d a2 b2 i) 6 2 (nI (cnt + 1)) (32 + cnt) 1 = tg k d ∧ mu (cMk (mIn X (32 + cnt)) (32 + cnt) k d a2 b2 i) 6 2 (nI (cnt + 1)) (32 + cnt) 2 = a2 ∧ mu (cMk (mIn X (32 + cnt)) (32 + cnt) k d a2 b2 i) 6 2 (nI (cnt + 1)) (32 + cnt) 3 = b2 ∧ mu (cMk (mIn X (32 + cnt)) (32 + cnt) k d a2 b2 i) 6 2 (nI (cnt + 1)) (32 + cnt) 4 = i := by
    have : ¬ 32 + cnt = 6 := by omega
    simp [cMk, mu_at, this]
  have x62 : mu (cMk (mIn X (32 + cnt)) (32 + cnt) k d a2 b2 i) 6 2 (nI (cnt + 1)) 6 2 = nI (cnt + 1) := mu_eq _ _ _ _
  have eS : cCodS X G cnt k d a2 b2 i = cAnew (mu (cMk (mIn X (32 + cnt)) (32 + cnt) k d a2 b2 i) 6 2 (nI (cnt + 1))) (cCodG G cnt) := rfl
  have eY : mCode Y k d a2 b2 i = mAnew (mu (mu (mu (mu (mu (mu Y 106 cnt k) 107 cnt d) 108 cnt a2) 109 cnt b2) 110 cnt i) 100 10 (nI (cnt + 1))) := by
    unfold mCode
    rw [eC, hs.mc, nI_1]
  rw [eS, eY]
  generalize mu (cMk (mIn X (32 + cnt)) (32 + cnt) k d a2 b2 i) 6 2 (nI (cnt + 1)) = X1 at *
  have yr : ∀ r, (r ≠ 100 ∧ r ≠ 106 ∧ r ≠ 107 ∧ r ≠ 108 ∧ r ≠ 109 ∧ r ≠ 110) → mu (mu (mu (mu (mu (mu Y 106 cnt k) 107 cnt d) 108 cnt a2) 109 cnt b2) 110 cnt i) 100 10 (nI (cnt + 1)) r = Y r := fun r h => by
    rw [mu_row _ _ _ h.1, mu_row _ _ _ h.2.2.2.2.2, mu_row _ _ _ h.2.2.2.2.1, mu_row _ _ _ h.2.2.2.1, mu_row _ _ _ h.2.2.1, mu_row _ _ _ h.2.1]
  have y0 : ∀ f, f ≠ 10 → mu (mu (mu (mu (mu (mu Y 106 cnt k) 107 cnt d) 108 cnt a2) 109 cnt b2) 110 cnt i) 100 10 (nI (cnt + 1)) 100 f = Y 100 f := fun f h => by simp [mu_at, h]
  have y10 : mu (mu (mu (mu (mu (mu Y 106 cnt k) 107 cnt d) 108 cnt a2) 109 cnt b2) 110 cnt i) 100 10 (nI (cnt + 1)) 100 10 = nI (cnt + 1) := mu_eq _ _ _ _
  have yc : mu (mu (mu (mu (mu (mu Y 106 cnt k) 107 cnt d) 108 cnt a2) 109 cnt b2) 110 cnt i) 100 10 (nI (cnt + 1)) 106 cnt = k ∧ mu (mu (mu (mu (mu (mu Y 106 cnt k) 107 cnt d) 108 cnt a2) 109 cnt b2) 110 cnt i) 100 10 (nI (cnt + 1)) 107 cnt = d ∧ mu (mu (mu (mu (mu (mu Y 106 cnt k) 107 cnt d) 108 cnt a2) 109 cnt b2) 110 cnt i) 100 10 (nI (cnt + 1)) 108 cnt = a2 ∧ mu (mu (mu (mu (mu (mu Y 106 cnt k) 107 cnt d) 108 cnt a2) 109 cnt b2) 110 cnt i) 100 10 (nI (cnt + 1)) 109 cnt = b2 ∧ mu (mu (mu (mu (mu (mu Y 106 cnt k) 107 cnt d) 108 cnt a2) 109 cnt b2) 110 cnt i) 100 10 (nI (cnt + 1)) 110 cnt = i := by simp [mu_at]
  have yj : ∀ r j, j ≠ cnt → r ≠ 100 → mu (mu (mu (mu (mu (mu Y 106 cnt k) 107 cnt d) 108 cnt a2) 109 cnt b2) 110 cnt i) 100 10 (nI (cnt + 1)) r j = Y r j := fun r j h1 h2 => by simp [mu_at, h1, h2]
  generalize mu (mu (mu (mu (mu (mu Y 106 cnt k) 107 cnt d) 108 cnt a2) 109 cnt b2) 110 cnt i) 100 10 (nI (cnt + 1)) = Y1 at *
  obtain ⟨xq0, xq1, xq2, xq3, xq4⟩ := xq
  obtain ⟨yc0, yc1, yc2, yc3, yc4⟩ := yc
  refine jJ_anew (okC_new hw hn) (okT_new ht hn (fun j hj => by have := ht.r hj; rw [xr _ (by omega) (by omega)])) ⟨fun r sh e => ?_, fun k2 q2 e => ?_⟩ ((h.gc.new (32 + cnt) (0, 2, 0)).put 7 cnt (by simp [mTn])) (fun j h1 h2 => ?_) (fun r e => ?_) (fun j hj => ?_) (fun r e => ?_) (fun r e => ?_) ?_ (lay_of h.re.la (y0 _ (by decide)) (yr 104 (by decide))) (by rw [y0 _ (by decide)]; exact h.mo.2.2.2.2.2.1) (by rw [xr 0 (by omega) (by decide), xr 1 (by omega) (by decide), y0 _ (by decide), yr 101 (by decide)]; exact h.tx)
  · have h100 : 100 ≤ r := by
      unfold shM at e
      by_cases h9 : Nat.blt r 100 = true
      · rw [h9] at e; cases e
      · rw [Nat.blt_eq] at h9; omega
    show (if r = 32 + cnt then _ else Sh r) = _
    rw [if_neg (by omega)]
    exact h.om.1 r sh e
  · unfold cCodG
    rw [mu_na _ _ _ (by decide)]
    show (if 100 = 32 + cnt then none else G 100 k2) = _
    rw [if_neg (by omega)]
    exact h.om.2 k2 q2 e
  · show (if 32 + j = 32 + cnt then _ else Sh (32 + j)) = _
    rw [if_neg (by omega)]
    exact h.fr j (by omega) h2
  · have e : (if r = 32 + cnt then some (0, 2, 0) else Sh r) = some (0, 2, 0) := e
    by_cases h9 : r = 32 + cnt
    · omega
    · rw [if_neg h9] at e; exact h.s2 r e
  · by_cases h9 : j = cnt
    · subst h9
      refine ⟨by unfold cCodG; rw [mu_eq], by simp [mTn]⟩
    · obtain ⟨a1, a2⟩ := hr j (by omega)
      refine ⟨?_, ?_⟩
      · unfold cCodG
        rw [mu_ns _ _ _ h9]
        show (if 7 = 32 + cnt then none else G 7 j) = _
        rw [if_neg (by omega)]
        exact a1
      · show (if 32 + j = 32 + cnt then _ else Sh (32 + j)) = _
        rw [if_neg (by omega)]
        exact a2
  · have e : (if r = 32 + cnt then some (0, 2, 0) else Sh r) = some (0, 2, 0) := e
    by_cases h9 : r = 32 + cnt
    · subst h9
      rw [xq0, xq1]
      exact iD_tg hd
    · rw [if_neg h9] at e
      have := hl r e
      rw [xr r h9 (by omega)]
      exact hi r e
  · have e : (if r = 32 + cnt then some (0, 2, 0) else Sh r) = some (0, 2, 0) := e
    by_cases h9 : r = 32 + cnt
    · omega
    · rw [if_neg h9] at e; exact hl r e
  · have hkd : ∀ n : Int32, (n = nI cnt ∧ mKind Y1 n = k ∧ cAt (cnt + 1) n = 32 + cnt ∧ n.toNatClampNeg = cnt) ∨ (mKind Y1 n = mKind Y n ∧ cAt (cnt + 1) n = cAt cnt n ∧ (¬ mKind Y n = 0 → n.toNatClampNeg ≠ cnt)) := fun n => by
      rcases nI_or n with h9 | ⟨j, h8, h9⟩
      · right
        exact ⟨by rw [mKind_neg h9, mKind_neg h9], by rw [cAt_neg h9, cAt_neg h9], fun e => absurd (mKind_neg h9) e⟩
      · rw [h9, mKind_nat y10 (by omega) h8, mKind_nat hs.mc (by omega) h8, cAt_nat (by omega) h8, cAt_nat (by omega) h8, nI_clamp (by omega)]
        by_cases h7 : j = cnt
        · left
          subst h7
          rw [if_pos (by omega), if_pos (by omega)]
          exact ⟨rfl, yc0, rfl, rfl⟩
        · right
          by_cases h5 : j < cnt
          · rw [if_pos (by omega), if_pos h5, if_pos (by omega), if_pos h5, yj 106 j h7 (by decide)]
            exact ⟨rfl, rfl, fun _ => h7⟩
          · rw [if_neg (by omega), if_neg h5, if_neg (by omega), if_neg h5]
            exact ⟨rfl, rfl, fun e => absurd rfl e⟩
    refine ⟨by rw [xr 4 (by omega) (by decide)]; exact hs.cs, by rw [y0 _ (by decide)]; exact hs.ms, fun k hk => by rw [xr 5 (by omega) (by decide), yr 104 (by decide)]; exact hs.sg k hk, by rw [xr 5 (by omega) (by decide), y0 _ (by decide)]; exact hs.s7, x62, y10, by omega, fun n => ?_, fun n => ?_, fun n => ?_, fun k hk => by rw [xr 10 (by omega) (by decide), yr 112 (by decide)]; exact hs.bs k hk, fun k hk => by rw [xr 11 (by omega) (by decide), yr 113 (by decide)]; exact hs.lt k hk⟩
    · rcases hkd n with ⟨e0, e1, e2, e3⟩ | ⟨e1, e2, e3⟩
      · rw [e1, e2, e3, xq0, xq1, xq2, xq3, xq4, yc1, yc2, yc3, yc4]
        exact ⟨rfl, rfl, fun _ => ⟨rfl, rfl, rfl⟩⟩
      · have hcr := cAt_r cnt n
        have hcl : cAt cnt n ≠ 32 + cnt := by
          rcases nI_or n with h9 | ⟨j, h8, h9⟩
          · rw [cAt_neg h9]; omega
          · rw [h9, cAt_nat (by omega) h8]; split <;> omega
        rw [e1, e2, xr _ hcl (by omega)]
        refine ⟨(hs.row n).1, ?_, fun e => ?_⟩
        · rw [(hs.row n).2.1]
          by_cases e : mKind Y n = 0
          · rw [e, tg_0, tg_0]
          · rw [yj 107 _ (e3 e) (by decide)]
        · rw [yj 108 _ (e3 e) (by decide), yj 109 _ (e3 e) (by decide), yj 110 _ (e3 e) (by decide)]
          exact (hs.row n).2.2 e
    · rcases hkd n with ⟨e0, e1, e2, e3⟩ | ⟨e1, e2, e3⟩
      · rw [e1]; exact ⟨k0, k9⟩
      · rw [e1]; exact hs.knd n
    · rcases hkd n with ⟨e0, e1, e2, e3⟩ | ⟨e1, e2, e3⟩
      · rw [e3, yc1, yc2, yc3]
        exact fun _ => ⟨in8 hd, in8 ha, in8 hb8⟩
      · rw [e1]
        intro e
        rw [yj 107 _ (e3 e) (by decide), yj 108 _ (e3 e) (by decide), yj 109 _ (e3 e) (by decide)]
        exact hs.reg n e
theorem op_unit {Sh : mS} {X : mI} {G : mP} {Y : mI} {B st cnt r x v q a : Nat} {y : Option Nat} {t n : Nat} (h : jJ Sh X G Y B st cnt r x v q a y t n) {sg : Nat} (h30 : sg < 30) (h1 : X 0 1 = nI sg) (h2 : Y 100 1 = nI sg) (u : Int32) : jJ Sh (mu (mu X 1 sg u) 0 1 (nI (sg + 1))) G (mUnit Y u) B st cnt r x v q a y t n := by
  have hs := h.re.st
  have eY : mUnit Y u = mu (mu Y 101 sg u) 100 1 (nI (sg + 1)) := by unfold mUnit; rw [h2, nI_clamp (by omega), nI_1]
  rw [eY]
  have xr : ∀ r, r ≠ 0 → r ≠ 1 → mu (mu X 1 sg u) 0 1 (nI (sg + 1)) r = X r := fun r h1 h2 => by rw [mu_row _ _ _ h1, mu_row _ _ _ h2]
  have yr : ∀ r, r ≠ 100 → r ≠ 101 → mu (mu Y 101 sg u) 100 1 (nI (sg + 1)) r = Y r := fun r h1 h2 => by rw [mu_row _ _ _ h1, mu_row _ _ _ h2]
  have y0 : ∀ f, f ≠ 1 → mu (mu Y 101 sg u) 100 1 (nI (sg + 1)) 100 f = Y 100 f := fun f h => by rw [mu_ns _ _ _ h, mu_na _ _ _ (by decide)]
  have htx : ∃ sg2 : Nat, sg2 ≤ 30 ∧ mu (mu X 1 sg u) 0 1 (nI (sg + 1)) 0 1 = nI sg2 ∧ mu (mu Y 101 sg u) 100 1 (nI (sg + 1)) 100 1 = nI sg2 ∧ ∀ k, k < 30 → mu (mu X 1 sg u) 0 1 (nI (sg + 1)) 1 k = mu (mu Y 101 sg u) 100 1 (nI (sg + 1)) 101 k := by
    obtain ⟨sg2, s1, s2, s3, s4⟩ := h.tx
    refine ⟨sg + 1, by omega, mu_eq _ _ _ _, mu_eq _ _ _ _, fun k hk => ?_⟩
    rw [mu_na (a := 0) (x := 1) _ _ _ (by decide), mu_na (a := 100) (x := 101) _ _ _ (by decide), mu_at, mu_at, s4 k hk]
    simp
  generalize mu (mu X 1 sg u) 0 1 (nI (sg + 1)) = X1 at *
  generalize mu (mu Y 101 sg u) 100 1 (nI (sg + 1)) = Y1 at *
  obtain ⟨hw, ht, h4, hb, h6, h40, hr, hi, hl, hkp⟩ := h.ci
  have hk : ∀ n, mKind Y1 n = mKind Y n := fun n => mKind_of (y0 _ (by decide)) (yr 106 (by decide) (by decide)) n
  have hre := h.re
  have hle := hre.la.le
  refine ⟨⟨hw, okT_of ht (fun k hk => by have := ht.r hk; rw [xr _ (by omega) (by omega)]), by rw [xr 4 (by decide) (by decide)]; exact h4, hb, by rw [xr 6 (by decide) (by decide)]; exact h6, h40, hr, fun r e => by have := hl r e; rw [xr r (by omega) (by omega)]; exact hi r e, hl, by rw [xr 12 (by decide) (by decide)]; exact hkp⟩, h.om, h.gc, h.fr, h.s2, ?_, mOk_of h.mo (y0 _ (by decide)) (y0 _ (by decide)) (by rw [y0 _ (by decide)]; exact h.mo.2.2.2.2.2.1) (yr 106 (by decide) (by decide)) (yr 107 (by decide) (by decide)) (yr 108 (by decide) (by decide)) (yr 109 (by decide) (by decide)), ?_, htx, by rw [y0 _ (by decide)]; exact h.ov, h.bd⟩
  · refine ⟨rSt_of hs (fun r hr => xr r (by omega) (by omega)) ⟨y0 _ (by decide), y0 _ (by decide), y0 _ (by decide)⟩ (fun r hr => yr r (by omega) (by omega)), lay_of hre.la (y0 _ (by decide)) (yr 104 (by decide) (by decide)), fun k hk9 => ?_, by rw [xr 14 (by decide) (by decide), y0 _ (by decide)]; exact hre.nw, by rw [xr 14 (by decide) (by decide), y0 _ (by decide)]; exact hre.nx, by rw [xr 14 (by decide) (by decide), y0 _ (by decide)]; exact hre.go, by rw [xr 14 (by decide) (by decide), y0 _ (by decide)]; exact hre.ov, by rw [xr 16 (by decide) (by decide), xr 19 (by decide) (by decide), yr 125 (by decide) (by decide), yr 126 (by decide) (by decide)]; exact hre.rg, by rw [xr 17 (by decide) (by decide), yr 127 (by decide) (by decide)]; exact hre.ce, log_mu hre.lg ⟨xr 12 (by decide) (by decide), xr 13 (by decide) (by decide)⟩ (y0 _ (by decide)) ⟨yr 129 (by decide) (by decide), yr 130 (by decide) (by decide), yr 131 (by decide) (by decide), yr 132 (by decide) (by decide)⟩, by rw [xr 14 (by decide) (by decide), y0 _ (by decide)]; exact hre.sa⟩
    have := ht.r (k := k) (by omega)
    unfold tRl tf
    rw [hk, xr _ (by omega) (by omega), yr 114 (by decide) (by decide), yr 115 (by decide) (by decide), yr 116 (by decide) (by decide), yr 117 (by decide) (by decide), yr 118 (by decide) (by decide), yr 119 (by decide) (by decide), yr 120 (by decide) (by decide)]
    exact hre.th k hk9
  · obtain ⟨P, g, c1, c2, c3⟩ := h.ch
    refine ⟨P, g, c1, ?_, c3⟩
    exact chX_Z c2 y0 (fun r h => yr r (by omega) (by omega))
