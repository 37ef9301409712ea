set_option maxHeartbeats 4000000 in
set_option maxRecDepth 100000 in
theorem cF_unit {l : Launch} {D : va_G} {b : Nat} {A : Nat → Nat} {Sh : mS} {S : mI} {G : mP} (hw : okC Sh G) (u : Int32) {sg : Nat} (hsg : S 0 1 = nI sg) (h30 : sg ≤ 30) : rMet l D b yX10_unit cX10_unit 2 (some .boolean) (mR 0) A Sh S G [.ref (A 0), .int u] (rPi A Sh (if (32 ≤ u ∧ u ≤ 126) ∧ sg < 30 then 1 else 0) (if (32 ≤ u ∧ u ≤ 126) ∧ sg < 30 then mu (mu S 1 sg u) 0 1 (nI (sg + 1)) else S) G) := by
  refine rMet_oz RX10 rfl (by decide) (Nat.le_of_ble_eq_true rfl) ?_
  intro p e s m args below meth c Z hZ X hnm
  refine rJ_iload_n X dX10_unit_0 rfl rfl ?_
  refine rJ_bipush (v := 32) X dX10_unit_1 (by decide) ?_
  refine rJ_icmp_lt (tgt := 21) X dX10_unit_3 (by decide) (fun c1 => ?_) (fun c1 => ?_)
  · refine rJ_iconst (v := 0) X dX10_unit_21 (by decide) ?_
    exact rJ_zretZ hZ X dX10_unit_22 rfl ⟨by rw [if_neg (by clear X hZ; grind)], rfl, rfl, by rw [if_neg (by clear X hZ; grind)], rfl⟩
  · refine rJ_iload_n X dX10_unit_6 rfl rfl ?_
    refine rJ_bipush (v := 126) X dX10_unit_7 (by decide) ?_
    refine rJ_icmp_gt (tgt := 21) X dX10_unit_9 (by decide) (fun c2 => ?_) (fun c2 => ?_)
    · refine rJ_iconst (v := 0) X dX10_unit_21 (by decide) ?_
      exact rJ_zretZ hZ X dX10_unit_22 rfl ⟨by rw [if_neg (by clear X hZ; grind)], rfl, rfl, by rw [if_neg (by clear X hZ; grind)], rfl⟩
    · refine rJ_aload_n X dX10_unit_12 rfl rfl ?_
      refine rJ_getI X fX10_66 (by first | exact hw.1 _ _ rfl | assumption) dX10_unit_13 ?_
      refine rJ_bipush (v := 30) X dX10_unit_16 (by decide) ?_
      refine rJ_icmp_lt (tgt := 23) X dX10_unit_18 (by decide) (fun c3 => ?_) (fun c3 => ?_)
      · rw [hsg, show (30 : Int32) = nI 30 from rfl, nI_ltI (by omega) (by decide)] at c3
        refine rJ_aload_n X dX10_unit_23 rfl rfl ?_
        refine rJ_getR X fX10_9 (by first | exact hw.1 _ _ rfl | assumption) (by first | exact hw.2 _ _ _ rfl | assumption) dX10_unit_24 ?_
        refine rJ_aload_n X dX10_unit_27 rfl rfl ?_
        refine rJ_getI X fX10_66 (by first | exact hw.1 _ _ rfl | assumption) dX10_unit_28 ?_
        refine rJ_iload_n X dX10_unit_31 rfl rfl ?_
        refine rJ_iastK (k := sg) X hsg (n := 30) ⟨by omega, by decide⟩ (by first | exact hw.1 _ _ rfl | assumption) dX10_unit_32 (fun S32 hS32 => ?_)
        refine rJ_aload_n X dX10_unit_33 rfl rfl ?_
        refine rJ_dup X dX10_unit_34 rfl ?_
        refine rJ_getI X fX10_66 (by first | exact hw.1 _ _ rfl | assumption) dX10_unit_35 ?_
        refine rJ_iconst (v := 1) X dX10_unit_38 (by decide) ?_
        refine rJ_iadd X dX10_unit_39 ?_
        refine rJ_setI X fX10_66 (Or.inl fwX10_66) (by first | exact hw.1 _ _ rfl | assumption) ⟨rfl, rfl⟩ dX10_unit_40 (fun S40 hS40 => ?_)
        refine rJ_iconst (v := 1) X dX10_unit_43 (by decide) ?_
        exact rJ_zretZ hZ X dX10_unit_44 rfl ⟨by rw [if_pos (by clear X hZ; grind)], rfl, rfl, by rw [if_pos (by clear X hZ; grind), hS40, hS32, mu_na _ _ _ (by decide), hsg, nI_1], rfl⟩
      · rw [hsg, show (30 : Int32) = nI 30 from rfl, nI_ltI (by omega) (by decide)] at c3
        refine rJ_iconst (v := 0) X dX10_unit_21 (by decide) ?_
        exact rJ_zretZ hZ X dX10_unit_22 rfl ⟨by rw [if_neg (by clear X hZ; grind)], rfl, rfl, by rw [if_neg (by clear X hZ; grind)], rfl⟩
theorem cLr_n (t : Nat → Int32) : ∀ (f k : Nat) (S : mI) (nx : Nat), S 2 1 = nI nx → nx ≤ 7 → (∀ x, x ≠ 2 → x ≠ 3 → (cLr t f k S).2 x = S x) := by
  intro f
  induction f with
  | zero => intro k S nx _ _ x _ _; rfl
  | succ f ih =>
    intro k S nx hn h7 x h2 h3
    unfold cLr
    split
    · rename_i U e
      have hnx : nxO S = nx := by rw [nxO, hn, nI_clamp (by omega)]
      rw [hnx] at e
      obtain ⟨⟨n2, hn2, e2⟩, hU⟩ := cTk_ok hn h7 e
      rw [ih (k + 1) U n2 e2 hn2 x h2 h3]
      exact hU x h2 h3
    · rfl
theorem cRd0_n (S : mI) {x : Nat} (h2 : x ≠ 2) (h3 : x ≠ 3) : cRd0 S x = S x := by
  unfold cRd0
  rw [mu_row _ _ _ h2, mu_row _ _ _ h2, mu_row _ _ _ h2]
  funext y
  simp [mFl, h3]
theorem cFwS_n (S : mI) (n : Nat) {x : Nat} (h2 : x ≠ 2) (h3 : x ≠ 3) : cFwS S n x = S x := by
  unfold cFwS
  rw [cLr_n (S 1) n 0 (cRd0 S) 0 (by unfold cRd0; rw [mu_ns _ _ _ (by decide), mu_ns _ _ _ (by decide), mu_eq]; rfl) (by decide) x h2 h3]
  exact cRd0_n S h2 h3
theorem mCpy_n (S : mI) (a r n : Nat) {x : Nat} (h : x ≠ r) : mCpy S a r n x = S x := by funext k; simp [mCpy, h]
theorem mFl_n (S : mI) (r n : Nat) (v : Int32) {x : Nat} (h : x ≠ r) : mFl S r n v x = S x := by funext k; simp [mFl, h]
/-- a line is taken: the layout, then all anew -/
def cLn (S : mI) (G : mP) (n : Nat) : mI := cAnew (mu (mCpy (mu (cFwS S n) 0 1 0) 3 5 8) 4 1 (cFwS S n 2 2 + 1)) G
theorem cAnew_n {Sh : mS} {S : mI} {G : mP} (ht : okT Sh S G) {x : Nat} (h : (x < 24 ∨ 32 ≤ x) ∧ x ≠ 14 ∧ x ≠ 16 ∧ x ≠ 17 ∧ x ≠ 12 ∧ x ≠ 19) : cAnew S G x = S x := by
  obtain ⟨h0, h1, h2, h3, h4, h5⟩ := h
  unfold cAnew
  rw [mu_row _ _ _ h1, mu_row _ _ _ h1, mu_row _ _ _ h1, mu_row _ _ _ h1, mu_row _ _ _ h1, mFl_n _ _ _ _ h5, mu_row _ _ _ h4, mu_row _ _ _ h4, mCpy_n _ _ _ _ h3, mFl_n _ _ _ _ h2]
  exact cOut_n ht S h0 8 (Nat.le_refl _)
set_option maxHeartbeats 4000000 in
set_option maxRecDepth 100000 in
theorem cF_line {l : Launch} {D : va_G} {b : Nat} {A : Nat → Nat} {Sh : mS} {S : mI} {G : mP} (hw : okC Sh G) (ht : okT Sh S G) {sg : Nat} (hsg : S 0 1 = nI sg) (h30 : sg ≤ 30) : rMet l D b yX10_line cX10_line 2 (some .int) (mR 6) A Sh S G [.ref (A 0)] (rPi A Sh (if cFwR S sg = -1 then cFwS S sg 2 2 + 1 else -1 - cFwR S sg) (if cFwR S sg = -1 then cLn S G sg else mu (cFwS S sg) 0 1 0) G) := by
  refine rMet_oz RX10 rfl (by decide) (Nat.le_of_ble_eq_true rfl) ?_
  intro p e s m args below meth c Z hZ X hnm
  refine rJ_aload_n X dX10_line_0 rfl rfl ?_
  refine rJ_getR X fX10_16 (by first | exact hw.1 _ _ rfl | assumption) (by first | exact hw.2 _ _ _ rfl | assumption) dX10_line_1 ?_
  refine rJ_aload_n X dX10_line_4 rfl rfl ?_
  refine rJ_getR X fX10_9 (by first | exact hw.1 _ _ rfl | assumption) (by first | exact hw.2 _ _ _ rfl | assumption) dX10_line_5 ?_
  refine rJ_aload_n X dX10_line_8 rfl rfl ?_
  refine rJ_getI X fX10_66 (by first | exact hw.1 _ _ rfl | assumption) dX10_line_9 ?_
  rw [hsg]
  refine rJ_Vi2 X gX10_70 (cR_firstWrong hw h30) (by first | exact hw.1 _ _ rfl | assumption) dX10_line_12 (by decide) (Nat.le_of_ble_eq_true rfl) ⟨Nat.le_refl _, Nat.le_refl _⟩ ?_
  refine rJ_istore_n X dX10_line_15 rfl (by decide) ?_
  refine rJ_aload_n X dX10_line_16 rfl rfl ?_
  refine rJ_iconst (v := 0) X dX10_line_17 (by decide) ?_
  refine rJ_setI X fX10_66 (Or.inl fwX10_66) (by first | exact hw.1 _ _ rfl | assumption) ⟨rfl, rfl⟩ dX10_line_18 (fun S18 hS18 => ?_)
  refine rJ_iload_n X dX10_line_21 rfl rfl ?_
  refine rJ_iconst (v := (-1)) X dX10_line_22 (by decide) ?_
  refine rJ_icmp_eq (tgt := 30) X dX10_line_23 (by decide) (fun c1 => ?_) (fun c1 => ?_)
  · refine rJ_aload_n X dX10_line_30 rfl rfl ?_
    refine rJ_getR X fX10_16 (by first | exact hw.1 _ _ rfl | assumption) (by first | exact hw.2 _ _ _ rfl | assumption) dX10_line_31 ?_
    refine rJ_aload_n X dX10_line_34 rfl rfl ?_
    refine rJ_getR X fX10_23 (by first | exact hw.1 _ _ rfl | assumption) (by first | exact hw.2 _ _ _ rfl | assumption) dX10_line_35 ?_
    refine rJ_Vv1 X gX10_74 (cR_writeTo hw) (by first | exact hw.1 _ _ rfl | assumption) dX10_line_38 (by decide) (Nat.le_of_ble_eq_true rfl) ⟨Nat.le_refl _, Nat.le_refl _⟩ ?_
    have hT2 : okT Sh (mu (mCpy S18 3 5 8) 4 1 (S18 2 2 + 1)) G := okT_of ht (fun k hk => by
      have := ht.r hk
      rw [mu_row _ _ _ (by omega), mCpy_n _ _ _ _ (by omega), hS18, mu_row _ _ _ (by omega), cFwS_n _ _ (by omega) (by omega)])
    refine rJ_aload_n X dX10_line_41 rfl rfl ?_
    refine rJ_getR X fX10_53 (by first | exact hw.1 _ _ rfl | assumption) (by first | exact hw.2 _ _ _ rfl | assumption) dX10_line_42 ?_
    refine rJ_Vv0 X gX10_78 (cQ_beginAnew hw hT2) (by first | exact hw.1 _ _ rfl | assumption) dX10_line_45 (by decide) (Nat.le_of_ble_eq_true rfl) ⟨Nat.le_refl _, Nat.le_refl _⟩ ?_
    refine rJ_aload_n X dX10_line_48 rfl rfl ?_
    refine rJ_getR X fX10_23 (by first | exact hw.1 _ _ rfl | assumption) (by first | exact hw.2 _ _ _ rfl | assumption) dX10_line_49 ?_
    refine rJ_Vi0 X gX10_81 (cL_stageCount hw) (by first | exact hw.1 _ _ rfl | assumption) dX10_line_52 (by decide) (Nat.le_of_ble_eq_true rfl) ⟨Nat.le_refl _, Nat.le_refl _⟩ ?_
    exact rJ_iretZ hZ X dX10_line_55 ⟨by rw [if_pos c1, cAnew_n hT2 (by decide), mu_eq, hS18, mu_na _ _ _ (by decide)], rfl, rfl, by rw [if_pos c1, cLn, hS18, mu_na _ _ _ (by decide)], rfl⟩
  · refine rJ_iconst (v := (-1)) X dX10_line_26 (by decide) ?_
    refine rJ_iload_n X dX10_line_27 rfl rfl ?_
    refine rJ_isub X dX10_line_28 ?_
    exact rJ_iretZ hZ X dX10_line_29 ⟨by rw [if_neg c1], rfl, rfl, by rw [if_neg c1, hS18], rfl⟩
set_option maxHeartbeats 4000000 in
set_option maxRecDepth 100000 in
theorem cF_memory {l : Launch} {D : va_G} {b : Nat} {A : Nat → Nat} {Sh : mS} {S : mI} {G : mP} (hw : okC Sh G) (ht : okT Sh S G) (x v : Int32) : rMet l D b yX10_memory cX10_memory 3 (some .boolean) (mR 4) A Sh S G [.ref (A 0), .int x, .int v] (rPi A Sh (if 0 ≤ x ∧ x < 64 then 1 else 0) (if 0 ≤ x ∧ x < 64 then cAnew (mu S 10 x.toNatClampNeg v) G else S) G) := by
  refine rMet_oz RX10 rfl (by decide) (Nat.le_of_ble_eq_true rfl) ?_
  intro p e s m args below meth c Z hZ X hnm
  refine rJ_iload_n X dX10_memory_0 rfl rfl ?_
  refine rJ_Si1 X gX10_102 (cC_isPlace _) dX10_memory_1 (by decide) (Nat.le_of_ble_eq_true rfl) ⟨Nat.le_refl _, Nat.le_refl _⟩ ?_
  refine rJ_if_ne (tgt := 9) X dX10_memory_4 (by decide) (fun c1 => ?_) (fun c1 => ?_)
  · try replace c1 := z_t c1
    refine rJ_aload_n X dX10_memory_9 rfl rfl ?_
    refine rJ_getR X fX10_37 (by first | exact hw.1 _ _ rfl | assumption) (by first | exact hw.2 _ _ _ rfl | assumption) dX10_memory_10 ?_
    refine rJ_iload_n X dX10_memory_13 rfl rfl ?_
    refine rJ_iload_n X dX10_memory_14 rfl rfl ?_
    refine rJ_Vv2 X gX10_105 (cS_tell hw _ _) (by first | exact hw.1 _ _ rfl | assumption) dX10_memory_15 (by decide) (Nat.le_of_ble_eq_true rfl) ⟨Nat.le_refl _, Nat.le_refl _⟩ ?_
    rw [if_pos c1]
    have hT2 : okT Sh (mu S 10 x.toNatClampNeg v) G := okT_of ht (fun k hk => by have := ht.r hk; rw [mu_row _ _ _ (by omega)])
    refine rJ_aload_n X dX10_memory_18 rfl rfl ?_
    refine rJ_getR X fX10_53 (by first | exact hw.1 _ _ rfl | assumption) (by first | exact hw.2 _ _ _ rfl | assumption) dX10_memory_19 ?_
    refine rJ_Vv0 X gX10_78 (cQ_beginAnew hw hT2) (by first | exact hw.1 _ _ rfl | assumption) dX10_memory_22 (by decide) (Nat.le_of_ble_eq_true rfl) ⟨Nat.le_refl _, Nat.le_refl _⟩ ?_
    refine rJ_iconst (v := 1) X dX10_memory_25 (by decide) ?_
    exact rJ_zretZ hZ X dX10_memory_26 rfl ⟨by rw [if_pos c1], rfl, rfl, by rw [if_pos c1], rfl⟩
  · try replace c1 := z_f c1
    refine rJ_iconst (v := 0) X dX10_memory_7 (by decide) ?_
    exact rJ_zretZ hZ X dX10_memory_8 rfl ⟨by rw [if_neg c1], rfl, rfl, by rw [if_neg c1], rfl⟩
set_option maxHeartbeats 4000000 in
set_option maxRecDepth 100000 in
theorem cF_latency {l : Launch} {D : va_G} {b : Nat} {A : Nat → Nat} {Sh : mS} {S : mI} {G : mP} (hw : okC Sh G) (ht : okT Sh S G) (x v : Int32) : rMet l D b yX10_latency cX10_latency 3 (some .boolean) (mR 4) A Sh S G [.ref (A 0), .int x, .int v] (rPi A Sh (if (0 ≤ x ∧ x < 8) ∧ (1 ≤ v ∧ v ≤ 16) then 1 else 0) (if (0 ≤ x ∧ x < 8) ∧ (1 ≤ v ∧ v ≤ 16) then cAnew (mu S 11 x.toNatClampNeg v) G else S) G) := by
  refine rMet_oz RX10 rfl (by decide) (Nat.le_of_ble_eq_true rfl) ?_
  intro p e s m args below meth c Z hZ X hnm
  refine rJ_iload_n X dX10_latency_0 rfl rfl ?_
  refine rJ_if_lt (tgt := 21) X dX10_latency_1 (by decide) (fun c1 => ?_) (fun c1 => ?_)
  · refine rJ_iconst (v := 0) X dX10_latency_21 (by decide) ?_
    exact rJ_zretZ hZ X dX10_latency_22 rfl ⟨by rw [if_neg (by clear X hZ; grind)], rfl, rfl, by rw [if_neg (by clear X hZ; grind)], rfl⟩
  · refine rJ_iload_n X dX10_latency_4 rfl rfl ?_
    refine rJ_bipush (v := 8) X dX10_latency_5 (by decide) ?_
    refine rJ_icmp_ge (tgt := 21) X dX10_latency_7 (by decide) (fun c2 => ?_) (fun c2 => ?_)
    · refine rJ_iconst (v := 0) X dX10_latency_21 (by decide) ?_
      exact rJ_zretZ hZ X dX10_latency_22 rfl ⟨by rw [if_neg (by clear X hZ; grind)], rfl, rfl, by rw [if_neg (by clear X hZ; grind)], rfl⟩
    · refine rJ_iload_n X dX10_latency_10 rfl rfl ?_
      refine rJ_iconst (v := 1) X dX10_latency_11 (by decide) ?_
      refine rJ_icmp_lt (tgt := 21) X dX10_latency_12 (by decide) (fun c3 => ?_) (fun c3 => ?_)
      · refine rJ_iconst (v := 0) X dX10_latency_21 (by decide) ?_
        exact rJ_zretZ hZ X dX10_latency_22 rfl ⟨by rw [if_neg (by clear X hZ; grind)], rfl, rfl, by rw [if_neg (by clear X hZ; grind)], rfl⟩
      · refine rJ_iload_n X dX10_latency_15 rfl rfl ?_
        refine rJ_bipush (v := 16) X dX10_latency_16 (by decide) ?_
        refine rJ_icmp_le (tgt := 23) X dX10_latency_18 (by decide) (fun c4 => ?_) (fun c4 => ?_)
        · refine rJ_aload_n X dX10_latency_23 rfl rfl ?_
          refine rJ_getR X fX10_37 (by first | exact hw.1 _ _ rfl | assumption) (by first | exact hw.2 _ _ _ rfl | assumption) dX10_latency_24 ?_
          refine rJ_iload_n X dX10_latency_27 rfl rfl ?_
          refine rJ_iload_n X dX10_latency_28 rfl rfl ?_
          refine rJ_Vv2 X gX10_109 (cS_delay hw _ _) (by first | exact hw.1 _ _ rfl | assumption) dX10_latency_29 (by decide) (Nat.le_of_ble_eq_true rfl) ⟨Nat.le_refl _, Nat.le_refl _⟩ ?_
          have hcc : (0 ≤ x ∧ x < 8) ∧ (1 ≤ v ∧ v ≤ 16) := by clear X hZ; grind
          rw [if_pos hcc.1]
          have hT2 : okT Sh (mu S 11 x.toNatClampNeg v) G := okT_of ht (fun k hk => by have := ht.r hk; rw [mu_row _ _ _ (by omega)])
          refine rJ_aload_n X dX10_latency_32 rfl rfl ?_
          refine rJ_getR X fX10_53 (by first | exact hw.1 _ _ rfl | assumption) (by first | exact hw.2 _ _ _ rfl | assumption) dX10_latency_33 ?_
          refine rJ_Vv0 X gX10_78 (cQ_beginAnew hw hT2) (by first | exact hw.1 _ _ rfl | assumption) dX10_latency_36 (by decide) (Nat.le_of_ble_eq_true rfl) ⟨Nat.le_refl _, Nat.le_refl _⟩ ?_
          refine rJ_iconst (v := 1) X dX10_latency_39 (by decide) ?_
          exact rJ_zretZ hZ X dX10_latency_40 rfl ⟨by rw [if_pos hcc], rfl, rfl, by rw [if_pos hcc], rfl⟩
        · refine rJ_iconst (v := 0) X dX10_latency_21 (by decide) ?_
          exact rJ_zretZ hZ X dX10_latency_22 rfl ⟨by rw [if_neg (by clear X hZ; grind)], rfl, rfl, by rw [if_neg (by clear X hZ; grind)], rfl⟩
set_option maxHeartbeats 4000000 in
set_option maxRecDepth 100000 in
theorem cF_run {l : Launch} {D : va_G} {b : Nat} {A : Nat → Nat} {Sh : mS} {S : mI} {G : mP} {st cnt : Nat} (hI : cInv Sh S G st cnt) (cy : Int32) : rMet l D b yX10_run cX10_run 2 (some .int) (mR 9) A Sh S G [.ref (A 0), .int cy] (rPi A Sh (if 1 ≤ cy ∧ cy ≤ 3000 then (cRunF st cnt cy.toNatClampNeg (S, G)).1 14 9 else -1) (if 1 ≤ cy ∧ cy ≤ 3000 then (cRunF st cnt cy.toNatClampNeg (S, G)).1 else S) (if 1 ≤ cy ∧ cy ≤ 3000 then (cRunF st cnt cy.toNatClampNeg (S, G)).2 else G)) := by
  refine rMet_oz RX10 rfl (by decide) (Nat.le_of_ble_eq_true rfl) ?_
  intro p e s m args below meth c Z hZ X hnm
  have hw := hI.1
  by_cases hin : 1 ≤ cy ∧ cy ≤ 3000
  · obtain ⟨N, hN, rfl⟩ : ∃ N : Nat, N ≤ 3000 ∧ cy = nI N := by
      rw [i_le, i_le] at hin
      have e1 : (1 : Int32).toInt = 1 := rfl
      have e3 : (3000 : Int32).toInt = 3000 := rfl
      rw [e1, e3] at hin
      obtain ⟨j, hj, e⟩ := nI_of (x := cy) (by rw [i_lt]; show ¬ cy.toInt < 0; omega)
      exact ⟨j, by rw [e, i_nI (by omega)] at hin; omega, e⟩
    rw [nI_clamp (by omega)] at hZ
    have hw' := (cRunF_inv N (S, G) hI).1
    refine rJ_iload_n X dX10_run_0 rfl rfl ?_
    refine rJ_iconst (v := 1) X dX10_run_1 (by decide) ?_
    refine rJ_icmp_lt (tgt := 12) X dX10_run_2 (by decide) (fun c1 => ?_) (fun c1 => ?_)
    · exact absurd hin (by clear X hZ; grind)
    · refine rJ_iload_n X dX10_run_5 rfl rfl ?_
      refine rJ_sipush (v := 3000) X dX10_run_6 (by decide) ?_
      refine rJ_icmp_le (tgt := 14) X dX10_run_9 (by decide) (fun c2 => ?_) (fun c2 => ?_)
      · refine rJ_aload_n X dX10_run_14 rfl rfl ?_
        refine rJ_getR X fX10_53 (by first | exact hw.1 _ _ rfl | exact hw'.1 _ _ rfl) (by first | exact hw.2 _ _ _ rfl | exact hw'.2 _ _ _ rfl) dX10_run_15 ?_
        refine rJ_iload_n X dX10_run_18 rfl rfl ?_
        refine rJ_Vv1 X gX10_112 (cQ_advance hI hN) (by first | exact hw.1 _ _ rfl | exact hw'.1 _ _ rfl) dX10_run_19 (by decide) (Nat.le_of_ble_eq_true rfl) ⟨Nat.le_refl _, Nat.le_refl _⟩ ?_
        refine rJ_aload_n X dX10_run_22 rfl rfl ?_
        refine rJ_getR X fX10_53 (by first | exact hw.1 _ _ rfl | exact hw'.1 _ _ rfl) (by first | exact hw.2 _ _ _ rfl | exact hw'.2 _ _ _ rfl) dX10_run_23 ?_
        refine rJ_Vi0 X gX10_116 (cQ_reached hw') (by first | exact hw.1 _ _ rfl | exact hw'.1 _ _ rfl) dX10_run_26 (by decide) (Nat.le_of_ble_eq_true rfl) ⟨Nat.le_refl _, Nat.le_refl _⟩ ?_
        exact rJ_iretZ hZ X dX10_run_29 ⟨by rw [if_pos hin], rfl, rfl, by rw [if_pos hin], by rw [if_pos hin]⟩
      · exact absurd hin (by clear X hZ; grind)
  · refine rJ_iload_n X dX10_run_0 rfl rfl ?_
    refine rJ_iconst (v := 1) X dX10_run_1 (by decide) ?_
    refine rJ_icmp_lt (tgt := 12) X dX10_run_2 (by decide) (fun c1 => ?_) (fun c1 => ?_)
    · refine rJ_iconst (v := (-1)) X dX10_run_12 (by decide) ?_
      exact rJ_iretZ hZ X dX10_run_13 ⟨by rw [if_neg hin], rfl, rfl, by rw [if_neg hin], by rw [if_neg hin]⟩
    · refine rJ_iload_n X dX10_run_5 rfl rfl ?_
      refine rJ_sipush (v := 3000) X dX10_run_6 (by decide) ?_
      refine rJ_icmp_le (tgt := 14) X dX10_run_9 (by decide) (fun c2 => ?_) (fun c2 => ?_)
      · exact absurd (by clear X hZ; grind) hin
      · refine rJ_iconst (v := (-1)) X dX10_run_12 (by decide) ?_
        exact rJ_iretZ hZ X dX10_run_13 ⟨by rw [if_neg hin], rfl, rfl, by rw [if_neg hin], by rw [if_neg hin]⟩

set_option maxHeartbeats 4000000 in
set_option maxRecDepth 100000 in
theorem cF_cycle {l : Launch} {D : va_G} {b : Nat} {A : Nat → Nat} {Sh : mS} {S : mI} {G : mP} (hw : okC Sh G) : rMet l D b yX10_cycle cX10_cycle 1 (some .int) (mR 1) A Sh S G [.ref (A 0)] (rPi A Sh (S 14 9) S G) := by
  refine rMet_oz RX10 rfl (by decide) (Nat.le_of_ble_eq_true rfl) ?_
  intro p e s m args below meth c Z hZ X hnm
  refine rJ_aload_n X dX10_cycle_0 rfl rfl ?_
  refine rJ_getR X fX10_53 (by first | exact hw.1 _ _ rfl | assumption) (by first | exact hw.2 _ _ _ rfl | assumption) dX10_cycle_1 ?_
  refine rJ_Vi0 X gX10_116 (cQ_reached hw) (by first | exact hw.1 _ _ rfl | assumption) dX10_cycle_4 (by decide) (Nat.le_of_ble_eq_true rfl) ⟨Nat.le_refl _, Nat.le_refl _⟩ ?_
  exact rJ_iretZ hZ X dX10_cycle_7 ⟨rfl, rfl, rfl, rfl, rfl⟩
set_option maxHeartbeats 4000000 in
set_option maxRecDepth 100000 in
theorem cF_retired {l : Launch} {D : va_G} {b : Nat} {A : Nat → Nat} {Sh : mS} {S : mI} {G : mP} (hw : okC Sh G) : rMet l D b yX10_retired cX10_retired 1 (some .int) (mR 1) A Sh S G [.ref (A 0)] (rPi A Sh (S 14 10) S G) := by
  refine rMet_oz RX10 rfl (by decide) (Nat.le_of_ble_eq_true rfl) ?_
  intro p e s m args below meth c Z hZ X hnm
  refine rJ_aload_n X dX10_retired_0 rfl rfl ?_
  refine rJ_getR X fX10_53 (by first | exact hw.1 _ _ rfl | assumption) (by first | exact hw.2 _ _ _ rfl | assumption) dX10_retired_1 ?_
  refine rJ_Vi0 X gX10_142 (cQ_gone hw) (by first | exact hw.1 _ _ rfl | assumption) dX10_retired_4 (by decide) (Nat.le_of_ble_eq_true rfl) ⟨Nat.le_refl _, Nat.le_refl _⟩ ?_
  exact rJ_iretZ hZ X dX10_retired_7 ⟨rfl, rfl, rfl, rfl, rfl⟩
set_option maxHeartbeats 4000000 in
set_option maxRecDepth 100000 in
theorem cF_ended {l : Launch} {D : va_G} {b : Nat} {A : Nat → Nat} {Sh : mS} {S : mI} {G : mP} (hw : okC Sh G) (h11 : S 14 11 = 0 ∨ S 14 11 = 1) : rMet l D b yX10_ended cX10_ended 1 (some .boolean) (mR 1) A Sh S G [.ref (A 0)] (rPi A Sh (S 14 11) S G) := by
  refine rMet_oz RX10 rfl (by decide) (Nat.le_of_ble_eq_true rfl) ?_
  intro p e s m args below meth c Z hZ X hnm
  refine rJ_aload_n X dX10_ended_0 rfl rfl ?_
  refine rJ_getR X fX10_53 (by first | exact hw.1 _ _ rfl | assumption) (by first | exact hw.2 _ _ _ rfl | assumption) dX10_ended_1 ?_
  refine rJ_Vi0 X gX10_119 (cQ_isEnded hw h11) (by first | exact hw.1 _ _ rfl | assumption) dX10_ended_4 (by decide) (Nat.le_of_ble_eq_true rfl) ⟨Nat.le_refl _, Nat.le_refl _⟩ ?_
  exact rJ_zretZ hZ X dX10_ended_7 (by rcases h11 with h | h <;> rw [h] <;> rfl) ⟨rfl, rfl, rfl, rfl, rfl⟩
set_option maxHeartbeats 4000000 in
set_option maxRecDepth 100000 in
theorem cF_commits {l : Launch} {D : va_G} {b : Nat} {A : Nat → Nat} {Sh : mS} {S : mI} {G : mP} (hw : okC Sh G) : rMet l D b yX10_commits cX10_commits 1 (some .int) (mR 1) A Sh S G [.ref (A 0)] (rPi A Sh (S 12 2) S G) := by
  refine rMet_oz RX10 rfl (by decide) (Nat.le_of_ble_eq_true rfl) ?_
  intro p e s m args below meth c Z hZ X hnm
  refine rJ_aload_n X dX10_commits_0 rfl rfl ?_
  refine rJ_getR X fX10_44 (by first | exact hw.1 _ _ rfl | assumption) (by first | exact hw.2 _ _ _ rfl | assumption) dX10_commits_1 ?_
  refine rJ_Vi0 X gX10_122 (cG_total hw) (by first | exact hw.1 _ _ rfl | assumption) dX10_commits_4 (by decide) (Nat.le_of_ble_eq_true rfl) ⟨Nat.le_refl _, Nat.le_refl _⟩ ?_
  exact rJ_iretZ hZ X dX10_commits_7 ⟨rfl, rfl, rfl, rfl, rfl⟩
set_option maxHeartbeats 4000000 in
set_option maxRecDepth 100000 in
theorem cF_commit {l : Launch} {D : va_G} {b : Nat} {A : Nat → Nat} {Sh : mS} {S : mI} {G : mP} (hw : okC Sh G) {kp : Nat} (hk : S 12 1 = nI kp) (hk1 : kp ≤ 1000) (k w : Int32) : rMet l D b yX10_commit cX10_commit 3 (some .int) (mR 1) A Sh S G [.ref (A 0), .int k, .int w] (rPi A Sh (cPart S k w) S G) := by
  refine rMet_oz RX10 rfl (by decide) (Nat.le_of_ble_eq_true rfl) ?_
  intro p e s m args below meth c Z hZ X hnm
  refine rJ_aload_n X dX10_commit_0 rfl rfl ?_
  refine rJ_getR X fX10_44 (by first | exact hw.1 _ _ rfl | assumption) (by first | exact hw.2 _ _ _ rfl | assumption) dX10_commit_1 ?_
  refine rJ_iload_n X dX10_commit_4 rfl rfl ?_
  refine rJ_iload_n X dX10_commit_5 rfl rfl ?_
  refine rJ_Vi2 X gX10_125 (cG_part hw hk hk1 _ _) (by first | exact hw.1 _ _ rfl | assumption) dX10_commit_6 (by decide) (Nat.le_of_ble_eq_true rfl) ⟨Nat.le_refl _, Nat.le_refl _⟩ ?_
  exact rJ_iretZ hZ X dX10_commit_9 ⟨rfl, rfl, rfl, rfl, rfl⟩
set_option maxHeartbeats 4000000 in
set_option maxRecDepth 100000 in
theorem cF_register {l : Launch} {D : va_G} {b : Nat} {A : Nat → Nat} {Sh : mS} {S : mI} {G : mP} (hw : okC Sh G) (k : Int32) : rMet l D b yX10_register cX10_register 2 (some .int) (mR 2) A Sh S G [.ref (A 0), .int k] (rPi A Sh (if 0 ≤ k ∧ k < 8 then S 16 k.toNatClampNeg else -1) S G) := by
  refine rMet_oz RX10 rfl (by decide) (Nat.le_of_ble_eq_true rfl) ?_
  intro p e s m args below meth c Z hZ X hnm
  refine rJ_iload_n X dX10_register_0 rfl rfl ?_
  refine rJ_Si1 X gX10_89 (cC_isRegister _) dX10_register_1 (by decide) (Nat.le_of_ble_eq_true rfl) ⟨Nat.le_refl _, Nat.le_refl _⟩ ?_
  refine rJ_if_eq (tgt := 21) X dX10_register_4 (by decide) (fun c1 => ?_) (fun c1 => ?_)
  · try replace c1 := z_f c1
    refine rJ_iconst (v := (-1)) X dX10_register_21 (by decide) ?_
    exact rJ_iretZ hZ X dX10_register_22 ⟨by simp only [c1, if_false, if_true]; try rfl, rfl, rfl, rfl, rfl⟩
  · try replace c1 := z_t c1
    refine rJ_aload_n X dX10_register_7 rfl rfl ?_
    refine rJ_getR X fX10_53 (by first | exact hw.1 _ _ rfl | assumption) (by first | exact hw.2 _ _ _ rfl | assumption) dX10_register_8 ?_
    refine rJ_Vr0 X gX10_129 (cQ_holdings hw) (by first | exact hw.1 _ _ rfl | assumption) dX10_register_11 (by decide) (Nat.le_of_ble_eq_true rfl) ⟨Nat.le_refl _, Nat.le_refl _⟩ ?_
    refine rJ_iload_n X dX10_register_14 rfl rfl ?_
    refine rJ_Vi1 X gX10_133 (cH_inRegister (r := 15) (r1 := 16) (r2 := 17) (hw.1 _ _ rfl) (hw.2 _ _ _ rfl) (hw.2 _ _ _ rfl) (hw.1 _ _ rfl) (hw.1 _ _ rfl) _) (by first | exact hw.1 _ _ rfl | assumption) dX10_register_15 (by decide) (Nat.le_of_ble_eq_true rfl) ⟨Nat.le_refl _, Nat.le_refl _⟩ ?_
    refine rJ_goto (tgt := 22) X dX10_register_18 (by decide) ?_
    exact rJ_iretZ hZ X dX10_register_22 ⟨by simp only [c1, if_false, if_true]; try rfl, rfl, rfl, rfl, rfl⟩
set_option maxHeartbeats 4000000 in
set_option maxRecDepth 100000 in
theorem cF_place {l : Launch} {D : va_G} {b : Nat} {A : Nat → Nat} {Sh : mS} {S : mI} {G : mP} (hw : okC Sh G) (k : Int32) : rMet l D b yX10_place cX10_place 2 (some .int) (mR 2) A Sh S G [.ref (A 0), .int k] (rPi A Sh (if 0 ≤ k ∧ k < 64 then S 17 k.toNatClampNeg else -1) S G) := by
  refine rMet_oz RX10 rfl (by decide) (Nat.le_of_ble_eq_true rfl) ?_
  intro p e s m args below meth c Z hZ X hnm
  refine rJ_iload_n X dX10_place_0 rfl rfl ?_
  refine rJ_Si1 X gX10_102 (cC_isPlace _) dX10_place_1 (by decide) (Nat.le_of_ble_eq_true rfl) ⟨Nat.le_refl _, Nat.le_refl _⟩ ?_
  refine rJ_if_eq (tgt := 21) X dX10_place_4 (by decide) (fun c1 => ?_) (fun c1 => ?_)
  · try replace c1 := z_f c1
    refine rJ_iconst (v := (-1)) X dX10_place_21 (by decide) ?_
    exact rJ_iretZ hZ X dX10_place_22 ⟨by simp only [c1, if_false, if_true]; try rfl, rfl, rfl, rfl, rfl⟩
  · try replace c1 := z_t c1
    refine rJ_aload_n X dX10_place_7 rfl rfl ?_
    refine rJ_getR X fX10_53 (by first | exact hw.1 _ _ rfl | assumption) (by first | exact hw.2 _ _ _ rfl | assumption) dX10_place_8 ?_
    refine rJ_Vr0 X gX10_129 (cQ_holdings hw) (by first | exact hw.1 _ _ rfl | assumption) dX10_place_11 (by decide) (Nat.le_of_ble_eq_true rfl) ⟨Nat.le_refl _, Nat.le_refl _⟩ ?_
    refine rJ_iload_n X dX10_place_14 rfl rfl ?_
    refine rJ_Vi1 X gX10_139 (cH_atPlace (r := 15) (r1 := 16) (r2 := 17) (hw.1 _ _ rfl) (hw.2 _ _ _ rfl) (hw.2 _ _ _ rfl) (hw.1 _ _ rfl) (hw.1 _ _ rfl) _) (by first | exact hw.1 _ _ rfl | assumption) dX10_place_15 (by decide) (Nat.le_of_ble_eq_true rfl) ⟨Nat.le_refl _, Nat.le_refl _⟩ ?_
    refine rJ_goto (tgt := 22) X dX10_place_18 (by decide) ?_
    exact rJ_iretZ hZ X dX10_place_22 ⟨by simp only [c1, if_false, if_true]; try rfl, rfl, rfl, rfl, rfl⟩
def cTold (S : mI) (k : Int32) : Int32 := if k = 0 then S 4 1 else if k = 1 then S 6 2 else if k = 2 then S 0 1 else if 3 ≤ k ∧ k < 11 then cStg S (k - 3) else -1
set_option maxHeartbeats 4000000 in
set_option maxRecDepth 100000 in
theorem cF_told {l : Launch} {D : va_G} {b : Nat} {A : Nat → Nat} {Sh : mS} {S : mI} {G : mP} (hw : okC Sh G) (k : Int32) : rMet l D b yX10_told cX10_told 2 (some .int) (mR 1) A Sh S G [.ref (A 0), .int k] (rPi A Sh (cTold S k) S G) := by
  refine rMet_oz RX10 rfl (by decide) (Nat.le_of_ble_eq_true rfl) ?_
  intro p e s m args below meth c Z hZ X hnm
  refine rJ_iload_n X dX10_told_0 rfl rfl ?_
  by_cases hr : k.toInt < 0 ∨ 2 < k.toInt
  · have n0 : ¬ k = 0 := fun e => by rw [e] at hr; exact absurd hr (by decide)
    have n1 : ¬ k = 1 := fun e => by rw [e] at hr; exact absurd hr (by decide)
    have n2 : ¬ k = 2 := fun e => by rw [e] at hr; exact absurd hr (by decide)
    refine rJ_tabOut (tgt := 49) X dX10_told_1 hr (by decide) ?_
    refine rJ_iload_n X dX10_told_49 rfl rfl ?_
    refine rJ_iconst (v := 3) X dX10_told_50 (by decide) ?_
    refine rJ_icmp_lt (tgt := 60) X dX10_told_51 (by decide) (fun c1 => ?_) (fun c1 => ?_)
    · refine rJ_iconst (v := (-1)) X dX10_told_60 (by decide) ?_
      refine rJ_goto (tgt := 74) X dX10_told_61 (by decide) ?_
      exact rJ_iretZ hZ X dX10_told_74 ⟨by clear X hZ; grind [cTold], rfl, rfl, rfl, rfl⟩
    · refine rJ_iload_n X dX10_told_54 rfl rfl ?_
      refine rJ_bipush (v := 11) X dX10_told_55 (by decide) ?_
      refine rJ_icmp_lt (tgt := 64) X dX10_told_57 (by decide) (fun c2 => ?_) (fun c2 => ?_)
      · refine rJ_aload_n X dX10_told_64 rfl rfl ?_
        refine rJ_getR X fX10_23 (by first | exact hw.1 _ _ rfl | assumption) (by first | exact hw.2 _ _ _ rfl | assumption) dX10_told_65 ?_
        refine rJ_iload_n X dX10_told_68 rfl rfl ?_
        refine rJ_iconst (v := 3) X dX10_told_69 (by decide) ?_
        refine rJ_isub X dX10_told_70 ?_
        refine rJ_Vi1 X gX10_152 (cL_stageOf hw _) (by first | exact hw.1 _ _ rfl | assumption) dX10_told_71 (by decide) (Nat.le_of_ble_eq_true rfl) ⟨Nat.le_refl _, Nat.le_refl _⟩ ?_
        exact rJ_iretZ hZ X dX10_told_74 ⟨by clear X hZ; grind [cTold], rfl, rfl, rfl, rfl⟩
      · refine rJ_iconst (v := (-1)) X dX10_told_60 (by decide) ?_
        refine rJ_goto (tgt := 74) X dX10_told_61 (by decide) ?_
        exact rJ_iretZ hZ X dX10_told_74 ⟨by clear X hZ; grind [cTold], rfl, rfl, rfl, rfl⟩
  · have hu : k = 0 ∨ k = 1 ∨ k = 2 := by
      simp only [i_eq, Int32.reduceToInt]
      omega
    rcases hu with hk | hk | hk
    · refine rJ_as 0 hk ?_
      refine rJ_tabIn (off := 27) (tgt := 28) X dX10_told_1 (by decide) (by decide) rfl (by decide) ?_
      refine rJ_aload_n X dX10_told_28 rfl rfl ?_
      refine rJ_getR X fX10_23 (by first | exact hw.1 _ _ rfl | assumption) (by first | exact hw.2 _ _ _ rfl | assumption) dX10_told_29 ?_
      refine rJ_Vi0 X gX10_81 (cL_stageCount hw) (by first | exact hw.1 _ _ rfl | assumption) dX10_told_32 (by decide) (Nat.le_of_ble_eq_true rfl) ⟨Nat.le_refl _, Nat.le_refl _⟩ ?_
      exact rJ_iretZ hZ X dX10_told_35 ⟨by rw [hk]; rfl, rfl, rfl, rfl, rfl⟩
    · refine rJ_as 1 hk ?_
      refine rJ_tabIn (off := 35) (tgt := 36) X dX10_told_1 (by decide) (by decide) rfl (by decide) ?_
      refine rJ_aload_n X dX10_told_36 rfl rfl ?_
      refine rJ_getR X fX10_30 (by first | exact hw.1 _ _ rfl | assumption) (by first | exact hw.2 _ _ _ rfl | assumption) dX10_told_37 ?_
      refine rJ_Vi0 X gX10_149 (cP_size hw) (by first | exact hw.1 _ _ rfl | assumption) dX10_told_40 (by decide) (Nat.le_of_ble_eq_true rfl) ⟨Nat.le_refl _, Nat.le_refl _⟩ ?_
      exact rJ_iretZ hZ X dX10_told_43 ⟨by rw [hk]; rfl, rfl, rfl, rfl, rfl⟩
    · refine rJ_as 2 hk ?_
      refine rJ_tabIn (off := 43) (tgt := 44) X dX10_told_1 (by decide) (by decide) rfl (by decide) ?_
      refine rJ_aload_n X dX10_told_44 rfl rfl ?_
      refine rJ_getI X fX10_66 (by first | exact hw.1 _ _ rfl | assumption) dX10_told_45 ?_
      exact rJ_iretZ hZ X dX10_told_48 ⟨by rw [hk]; rfl, rfl, rfl, rfl, rfl⟩
