/-- pointers end at cells -/
def gcl (Sh : mS) (G : mP) : Prop := ∀ z k q, G z k = some q → Sh q ≠ none
theorem gcl.no {Sh : mS} {G : mP} (h : gcl Sh G) {r : Nat} (hr : Sh r = none) : ∀ z k, (Sh z).isSome = true → G z k ≠ some r := fun z k _ e => h z k r e hr
theorem gcl.new {Sh : mS} {G : mP} (h : gcl Sh G) (r : Nat) (sh : Nat × Nat × Nat) : gcl (mTn Sh r sh) (mPn G r) := fun z k q e => by
  by_cases hz : z = r
  · simp [mPn, hz] at e
  · simp only [mPn, if_neg hz] at e
    show (if q = r then some sh else Sh q) ≠ none
    split
    · exact Option.some_ne_none _
    · exact h z k q e
theorem gcl.put {Sh : mS} {G : mP} (h : gcl Sh G) (r k : Nat) {q : Nat} (hq : Sh q ≠ none) : gcl Sh (mu G r k (some q)) := fun z j q' e => by
  by_cases hz : z = r ∧ j = k
  · rw [hz.1, hz.2, mu_eq] at e
    cases e
    exact hq
  · simp only [mu, if_neg hz] at e
    exact h z j q' e
abbrev mRA (k c n : Nat) : Room := { frames := k, cells := c, slots := n, locals := 33 * k }

def cMk (S : mI) (q : Nat) (k d a b i : Int32) : mI := mu (mu (mu (mu (mu S q 0 k) q 1 (tg k d)) q 2 a) q 3 b) q 4 i
set_option maxHeartbeats 4000000 in
set_option maxRecDepth 100000 in
theorem cI_init {l : Launch} {D : va_G} {b : Nat} {A : Nat → Nat} {Sh : mS} {S : mI} {G : mP} {q : Nat} (hq : Sh q = some (0, 2, 0)) (k d a b2 i : Int32) : rMet l D b yX2_init cX2_init 6 none (mR 1) A Sh S G [.ref (A q), .int k, .int d, .int a, .int b2, .int i] (rPv A Sh (cMk S q k d a b2 i) G) := by
  refine rMet_oz RX2 rfl (by decide) (Nat.le_of_ble_eq_true rfl) ?_
  intro p e s m args below meth c Z hZ X hnm
  refine rJ_aload_n X dX2_init_0 rfl rfl ?_
  refine rJ_objInit X koX2_3 koI koC dX2_init_1 (Nat.le_of_ble_eq_true rfl) (Nat.le_of_ble_eq_true rfl) ?_
  refine rJ_aload_n X dX2_init_4 rfl rfl ?_
  refine rJ_iload_n X dX2_init_5 rfl rfl ?_
  refine rJ_setI X fX2_9 (Or.inr hnm) hq ⟨rfl, rfl⟩ dX2_init_6 (fun S6 hS6 => ?_)
  refine rJ_aload_n X dX2_init_9 rfl rfl ?_
  refine rJ_iload_n X dX2_init_10 rfl rfl ?_
  refine rJ_iconst (v := 1) X dX2_init_11 (by decide) ?_
  refine rJ_icmp_lt (tgt := 24) X dX2_init_12 (by decide) (fun c1 => ?_) (fun c1 => ?_)
  · refine rJ_iconst (v := (-1)) X dX2_init_24 (by decide) ?_
    refine rJ_setI X fX2_15 (Or.inr hnm) hq ⟨rfl, rfl⟩ dX2_init_25 (fun S25 hS25 => ?_)
    refine rJ_aload_n X dX2_init_28 rfl rfl ?_
    refine rJ_iload_n X dX2_init_29 rfl rfl ?_
    refine rJ_setI X fX2_18 (Or.inr hnm) hq ⟨rfl, rfl⟩ dX2_init_30 (fun S30 hS30 => ?_)
    refine rJ_aload_n X dX2_init_33 rfl rfl ?_
    refine rJ_iload X dX2_init_34 rfl ?_
    refine rJ_setI X fX2_21 (Or.inr hnm) hq ⟨rfl, rfl⟩ dX2_init_36 (fun S36 hS36 => ?_)
    refine rJ_aload_n X dX2_init_39 rfl rfl ?_
    refine rJ_iload X dX2_init_40 rfl ?_
    refine rJ_setI X fX2_24 (Or.inr hnm) hq ⟨rfl, rfl⟩ dX2_init_42 (fun S42 hS42 => ?_)
    exact rJ_vretZ hZ X dX2_init_45 ⟨rfl, rfl, rfl, by rw [hS42, hS36, hS30, hS25, hS6, cMk]; clear X hZ hS42 hS36 hS30 hS25 hS6; first | rw [show tg k d = -1 from by unfold tg; grind] | rw [show tg k d = d from by unfold tg; grind], rfl⟩
  · refine rJ_iload_n X dX2_init_15 rfl rfl ?_
    refine rJ_iconst (v := 5) X dX2_init_16 (by decide) ?_
    refine rJ_icmp_gt (tgt := 24) X dX2_init_17 (by decide) (fun c2 => ?_) (fun c2 => ?_)
    · refine rJ_iconst (v := (-1)) X dX2_init_24 (by decide) ?_
      refine rJ_setI X fX2_15 (Or.inr hnm) hq ⟨rfl, rfl⟩ dX2_init_25 (fun S25 hS25 => ?_)
      refine rJ_aload_n X dX2_init_28 rfl rfl ?_
      refine rJ_iload_n X dX2_init_29 rfl rfl ?_
      refine rJ_setI X fX2_18 (Or.inr hnm) hq ⟨rfl, rfl⟩ dX2_init_30 (fun S30 hS30 => ?_)
      refine rJ_aload_n X dX2_init_33 rfl rfl ?_
      refine rJ_iload X dX2_init_34 rfl ?_
      refine rJ_setI X fX2_21 (Or.inr hnm) hq ⟨rfl, rfl⟩ dX2_init_36 (fun S36 hS36 => ?_)
      refine rJ_aload_n X dX2_init_39 rfl rfl ?_
      refine rJ_iload X dX2_init_40 rfl ?_
      refine rJ_setI X fX2_24 (Or.inr hnm) hq ⟨rfl, rfl⟩ dX2_init_42 (fun S42 hS42 => ?_)
      exact rJ_vretZ hZ X dX2_init_45 ⟨rfl, rfl, rfl, by rw [hS42, hS36, hS30, hS25, hS6, cMk]; clear X hZ hS42 hS36 hS30 hS25 hS6; first | rw [show tg k d = -1 from by unfold tg; grind] | rw [show tg k d = d from by unfold tg; grind], rfl⟩
    · refine rJ_iload_n X dX2_init_20 rfl rfl ?_
      refine rJ_goto (tgt := 25) X dX2_init_21 (by decide) ?_
      refine rJ_setI X fX2_15 (Or.inr hnm) hq ⟨rfl, rfl⟩ dX2_init_25 (fun S25 hS25 => ?_)
      refine rJ_aload_n X dX2_init_28 rfl rfl ?_
      refine rJ_iload_n X dX2_init_29 rfl rfl ?_
      refine rJ_setI X fX2_18 (Or.inr hnm) hq ⟨rfl, rfl⟩ dX2_init_30 (fun S30 hS30 => ?_)
      refine rJ_aload_n X dX2_init_33 rfl rfl ?_
      refine rJ_iload X dX2_init_34 rfl ?_
      refine rJ_setI X fX2_21 (Or.inr hnm) hq ⟨rfl, rfl⟩ dX2_init_36 (fun S36 hS36 => ?_)
      refine rJ_aload_n X dX2_init_39 rfl rfl ?_
      refine rJ_iload X dX2_init_40 rfl ?_
      refine rJ_setI X fX2_24 (Or.inr hnm) hq ⟨rfl, rfl⟩ dX2_init_42 (fun S42 hS42 => ?_)
      exact rJ_vretZ hZ X dX2_init_45 ⟨rfl, rfl, rfl, by rw [hS42, hS36, hS30, hS25, hS6, cMk]; clear X hZ hS42 hS36 hS30 hS25 hS6; first | rw [show tg k d = -1 from by unfold tg; grind] | rw [show tg k d = d from by unfold tg; grind], rfl⟩
abbrev cCodeOk (S : mI) (k d a b : Int32) : Prop := (0 ≤ k ∧ k ≤ 9) ∧ ¬ 40 ≤ S 6 2 ∧ (0 ≤ d ∧ d < 8) ∧ (0 ≤ a ∧ a < 8) ∧ (0 ≤ b ∧ b < 8)
/-- an instruction is added: its cell 32 + cnt, then all anew -/
def cCodG (G : mP) (cnt : Nat) : mP := mu (mPn G (32 + cnt)) 7 cnt (some (32 + cnt))
def cCodS (S : mI) (G : mP) (cnt : Nat) (k d a b i : Int32) : mI := cAnew (mu (cMk (mIn S (32 + cnt)) (32 + cnt) k d a b i) 6 2 (nI (cnt + 1))) (cCodG G cnt)
theorem cCodG_th {G : mP} {cnt k : Nat} : thG (cCodG G cnt) k = thG G k := by
  unfold thG cCodG
  rw [mu_na _ _ _ (by decide)]
  show (if 18 = 32 + cnt then none else G 18 k).getD 0 = _
  rw [if_neg (by omega)]
theorem cCodG_ro {G : mP} {cnt t : Nat} (h : 24 ≤ t ∧ t < 32) : roG (cCodG G cnt) t = roG G t := by
  unfold roG cCodG
  rw [mu_na _ _ _ (by omega)]
  show (if t = 32 + cnt then none else G t 1).getD 0 = _
  rw [if_neg (by omega)]
theorem okC_pn {Sh : mS} {G : mP} (h : okC Sh G) {cnt : Nat} (hn : Sh (32 + cnt) = none) (sh0 : Nat × Nat × Nat) : okC (mTn Sh (32 + cnt) sh0) (mPn G (32 + cnt)) := by
  refine ⟨fun r sh e => ?_, fun r k q e => ?_⟩
  · have := h.1 r sh e
    show (if r = 32 + cnt then _ else Sh r) = _
    rw [if_neg (fun e2 => by rw [e2, hn] at this; cases this)]
    exact this
  · have := h.2 r k q e
    have hr : r ≠ 32 + cnt := fun e2 => by rw [gC_hi (by omega)] at e; cases e
    show (if r = 32 + cnt then none else G r k) = _
    rw [if_neg hr]
    exact this
theorem okC_new {Sh : mS} {G : mP} (h : okC Sh G) {cnt : Nat} (hn : Sh (32 + cnt) = none) : okC (mTn Sh (32 + cnt) (0, 2, 0)) (cCodG G cnt) := by
  refine ⟨fun r sh e => ?_, fun r k q e => ?_⟩
  · have := h.1 r sh e
    show (if r = 32 + cnt then _ else Sh r) = _
    rw [if_neg (fun e2 => by rw [e2, hn] at this; cases this)]
    exact this
  · have := h.2 r k q e
    have hr7 : r ≠ 7 := fun e2 => by rw [e2, gC_7] at e; cases e
    have hr : r ≠ 32 + cnt := fun e2 => by rw [gC_hi (by omega)] at e; cases e
    unfold cCodG
    rw [mu_na _ _ _ hr7]
    show (if r = 32 + cnt then none else G r k) = _
    rw [if_neg hr]
    exact this
theorem okT_new {Sh : mS} {S U : mI} {G : mP} (h : okT Sh S G) {cnt : Nat} (hn : Sh (32 + cnt) = none) (hU : ∀ k, k < 8 → U (thG G k) 0 = S (thG G k) 0) : okT (mTn Sh (32 + cnt) (0, 2, 0)) U (cCodG G cnt) := by
  refine ⟨fun k hk => ?_, fun i j hi hj e => h.2 i j hi hj (by rw [cCodG_th, cCodG_th] at e; exact e)⟩
  have hr := h.r hk
  have hq := h.q hk
  unfold tf
  rw [cCodG_th, cCodG_ro hr]
  obtain ⟨h1, h2, h3, h4, h5, h6, h7⟩ := h.1 k hk
  refine ⟨?_, ?_, h3, ?_, ?_, h6, ?_⟩
  · unfold cCodG
    rw [mu_na _ _ _ (by decide)]
    show (if 18 = 32 + cnt then none else G 18 k) = _
    rw [if_neg (by omega)]
    exact h1
  · show (if thG G k = 32 + cnt then _ else Sh _) = _
    rw [if_neg (by omega)]
    exact h2
  · unfold cCodG
    rw [mu_na _ _ _ (by omega)]
    show (if thG G k = 32 + cnt then none else G (thG G k) 1) = _
    rw [if_neg (by omega)]
    exact h4
  · show (if roG G (thG G k) = 32 + cnt then _ else Sh _) = _
    rw [if_neg (fun e2 => by rw [e2, hn] at hq; cases hq)]
    exact h5
  · rw [hU k hk]
    exact h7
set_option maxHeartbeats 4000000 in
set_option maxRecDepth 100000 in
theorem cF_code {l : Launch} {D : va_G} {b : Nat} {A : Nat → Nat} {Sh : mS} {S : mI} {G : mP} (hw : okC Sh G) (ht : okT Sh S G) (hg : gcl Sh G) {cnt : Nat} (hc : S 6 2 = nI cnt) (h40 : cnt ≤ 40) (hn : Sh (32 + cnt) = none) (k d a b2 i : Int32) : rMet l D b yX10_code cX10_code 7 (some .int) (mRA 4 1 5) A Sh S G [.ref (A 0), .int k, .int d, .int a, .int b2, .int i] (fun v A' Sh' S' G' => ((¬ cCodeOk S k d a b2) ∧ v = some (.int (-1)) ∧ A' = A ∧ Sh' = Sh ∧ S' = S ∧ G' = G) ∨ (cCodeOk S k d a b2 ∧ v = some (.int (nI cnt)) ∧ (∀ x, x ≠ 32 + cnt → A' x = A x) ∧ Sh' = mTn Sh (32 + cnt) (0, 2, 0) ∧ S' = cCodS S G cnt k d a b2 i ∧ G' = cCodG G cnt)) := by
  refine rMet_oz RX10 rfl (by decide) (Nat.le_of_ble_eq_true rfl) ?_
  intro p e s m args below meth c Z hZ X hnm
  have hlt40 : ∀ q : ¬ (40 : Int32) ≤ S 6 2, cnt < 40 := fun q => by
    rw [hc, show (40 : Int32) = nI 40 from rfl, nI_leI (by omega) (by omega)] at q
    omega
  refine rJ_iload_n X dX10_code_0 rfl rfl ?_
  refine rJ_if_lt (tgt := 20) X dX10_code_1 (by decide) (fun c1 => ?_) (fun c1 => ?_)
  · refine rJ_iconst (v := (-1)) X dX10_code_20 (by decide) ?_
    refine rJ_wide (k := 1) (n := 5) (Nat.le_of_ble_eq_true rfl) (Nat.le_of_ble_eq_true rfl) ?_
    exact rJ_iretZ hZ X dX10_code_21 (Or.inl ⟨(by clear X hZ; grind), rfl, rfl, rfl, rfl, rfl⟩)
  · refine rJ_iload_n X dX10_code_4 rfl rfl ?_
    refine rJ_bipush (v := 9) X dX10_code_5 (by decide) ?_
    refine rJ_icmp_gt (tgt := 20) X dX10_code_7 (by decide) (fun c2 => ?_) (fun c2 => ?_)
    · refine rJ_iconst (v := (-1)) X dX10_code_20 (by decide) ?_
      refine rJ_wide (k := 1) (n := 5) (Nat.le_of_ble_eq_true rfl) (Nat.le_of_ble_eq_true rfl) ?_
      exact rJ_iretZ hZ X dX10_code_21 (Or.inl ⟨(by clear X hZ; grind), rfl, rfl, rfl, rfl, rfl⟩)
    · refine rJ_aload_n X dX10_code_10 rfl rfl ?_
      refine rJ_getR X fX10_30 (by first | exact hw.1 _ _ rfl | assumption) (by first | exact hw.2 _ _ _ rfl | assumption) dX10_code_11 ?_
      refine rJ_Vi0 X gX10_85 (cP_isFull hw) (by first | exact hw.1 _ _ rfl | assumption) dX10_code_14 (by decide) (Nat.le_of_ble_eq_true rfl) ⟨(Nat.le_of_ble_eq_true rfl), (Nat.le_of_ble_eq_true rfl)⟩ ?_
      refine rJ_if_eq (tgt := 22) X dX10_code_17 (by decide) (fun c3 => ?_) (fun c3 => ?_)
      · try replace c3 := z_f c3
        refine rJ_iload_n X dX10_code_22 rfl rfl ?_
        refine rJ_Si1 X gX10_89 (cC_isRegister _) dX10_code_23 (by decide) (Nat.le_of_ble_eq_true rfl) ⟨(Nat.le_of_ble_eq_true rfl), (Nat.le_of_ble_eq_true rfl)⟩ ?_
        refine rJ_if_eq (tgt := 44) X dX10_code_26 (by decide) (fun c4 => ?_) (fun c4 => ?_)
        · try replace c4 := z_f c4
          refine rJ_iconst (v := (-1)) X dX10_code_44 (by decide) ?_
          refine rJ_wide (k := 1) (n := 5) (Nat.le_of_ble_eq_true rfl) (Nat.le_of_ble_eq_true rfl) ?_
          exact rJ_iretZ hZ X dX10_code_45 (Or.inl ⟨(by clear X hZ; grind), rfl, rfl, rfl, rfl, rfl⟩)
        · try replace c4 := z_t c4
          refine rJ_iload_n X dX10_code_29 rfl rfl ?_
          refine rJ_Si1 X gX10_89 (cC_isRegister _) dX10_code_30 (by decide) (Nat.le_of_ble_eq_true rfl) ⟨(Nat.le_of_ble_eq_true rfl), (Nat.le_of_ble_eq_true rfl)⟩ ?_
          refine rJ_if_eq (tgt := 44) X dX10_code_33 (by decide) (fun c5 => ?_) (fun c5 => ?_)
          · try replace c5 := z_f c5
            refine rJ_iconst (v := (-1)) X dX10_code_44 (by decide) ?_
            refine rJ_wide (k := 1) (n := 5) (Nat.le_of_ble_eq_true rfl) (Nat.le_of_ble_eq_true rfl) ?_
            exact rJ_iretZ hZ X dX10_code_45 (Or.inl ⟨(by clear X hZ; grind), rfl, rfl, rfl, rfl, rfl⟩)
          · try replace c5 := z_t c5
            refine rJ_iload X dX10_code_36 rfl ?_
            refine rJ_Si1 X gX10_89 (cC_isRegister _) dX10_code_38 (by decide) (Nat.le_of_ble_eq_true rfl) ⟨(Nat.le_of_ble_eq_true rfl), (Nat.le_of_ble_eq_true rfl)⟩ ?_
            refine rJ_if_ne (tgt := 46) X dX10_code_41 (by decide) (fun c6 => ?_) (fun c6 => ?_)
            · try replace c6 := z_t c6
              refine rJ_aload_n X dX10_code_46 rfl rfl ?_
              refine rJ_getR X fX10_30 (by first | exact hw.1 _ _ rfl | assumption) (by first | exact hw.2 _ _ _ rfl | assumption) dX10_code_47 ?_
              have hok : cCodeOk S k d a b2 := by clear X hZ; grind
              have hwN : okC (mTn Sh (32 + cnt) (0, 2, 0)) (mPn G (32 + cnt)) := okC_pn hw hn _
              have hw2 : okC (mTn Sh (32 + cnt) (0, 2, 0)) (cCodG G cnt) := okC_new hw hn
              have hT2 : okT (mTn Sh (32 + cnt) (0, 2, 0)) (mu (cMk (mIn S (32 + cnt)) (32 + cnt) k d a b2 i) 6 2 (nI (cnt + 1))) (cCodG G cnt) := okT_new ht hn (fun j hj => by
                have hr := ht.r hj
                rw [mu_na _ _ _ (by omega)]
                exact (show cMk (mIn S (32 + cnt)) (32 + cnt) k d a b2 i (thG G j) 0 = S (thG G j) 0 from by unfold cMk; rw [mu_na _ _ _ (by omega), mu_na _ _ _ (by omega), mu_na _ _ _ (by omega), mu_na _ _ _ (by omega), mu_na _ _ _ (by omega)]; exact if_neg (by omega)))
              refine rJ_new X (32 + cnt) clX2 klX10_93 knX2 kzX2 (by decide) (Nat.le_of_ble_eq_true rfl) (Nat.le_of_ble_eq_true rfl) dX10_code_50 hn (hg.no hn) (fun a50 A50 hA50 _ => ?_)
              rw [show A 0 = A50 0 from by rw [hA50]; exact (if_neg (by omega)).symm, show A 6 = A50 6 from by rw [hA50]; exact (if_neg (by omega)).symm]
              refine rJ_dup X dX10_code_53 rfl ?_
              refine rJ_iload_n X dX10_code_54 rfl rfl ?_
              refine rJ_iload_n X dX10_code_55 rfl rfl ?_
              refine rJ_iload_n X dX10_code_56 rfl rfl ?_
              refine rJ_iload X dX10_code_57 rfl ?_
              refine rJ_iload X dX10_code_59 rfl ?_
              refine rJ_callI (As := [.int k, .int d, .int a, .int b2, .int i]) (rm := mR 1) X mX2_init kX10_95 kiX2_init rfl (cI_init (q := 32 + cnt) (by simp [mTn]) k d a b2 i) rfl rfl (Nat.le_of_ble_eq_true rfl) ⟨(Nat.le_of_ble_eq_true rfl), (Nat.le_of_ble_eq_true rfl)⟩ ⟨(Nat.le_of_ble_eq_true rfl), (Nat.le_of_ble_eq_true rfl)⟩ dX10_code_61 ?_
              intro v61 A61 Sh61 S61 G61 hp61
              obtain ⟨rfl, rfl, rfl, rfl, rfl⟩ := hp61
              refine rJ_callV (As := [.ref (A61 (32 + cnt))]) (rm := mR 1) X gX10_98 (cP_add (cnt := cnt) (q := 32 + cnt) hwN (by rw [(show cMk (mIn S (32 + cnt)) (32 + cnt) k d a b2 i 6 2 = S 6 2 from by unfold cMk; rw [mu_na _ _ _ (by omega), mu_na _ _ _ (by omega), mu_na _ _ _ (by omega), mu_na _ _ _ (by omega), mu_na _ _ _ (by omega)]; exact if_neg (by omega))]; exact hc) (hlt40 hok.2.1) (by simp [mTn])) (hwN.1 _ _ rfl) rfl rfl (Nat.le_of_ble_eq_true rfl) ⟨(Nat.le_of_ble_eq_true rfl), (Nat.le_of_ble_eq_true rfl)⟩ ⟨(Nat.le_of_ble_eq_true rfl), (Nat.le_of_ble_eq_true rfl)⟩ dX10_code_64 ?_
              intro v64 A64 Sh64 S64 G64 hp64
              obtain ⟨rfl, rfl, rfl, rfl, rfl⟩ := hp64
              refine rJ_eqG (G' := cCodG G cnt) rfl ?_
              refine rJ_istore X dX10_code_67 (by decide) ?_
              refine rJ_aload_n X dX10_code_69 rfl rfl ?_
              refine rJ_getR X fX10_53 (hw2.1 _ _ rfl) (hw2.2 _ _ _ rfl) dX10_code_70 ?_
              refine rJ_callV (As := []) (rm := mR 3) X gX10_78 (cQ_beginAnew hw2 hT2) (hw2.1 _ _ rfl) rfl rfl (Nat.le_of_ble_eq_true rfl) ⟨(Nat.le_of_ble_eq_true rfl), (Nat.le_of_ble_eq_true rfl)⟩ ⟨(Nat.le_of_ble_eq_true rfl), (Nat.le_of_ble_eq_true rfl)⟩ dX10_code_73 ?_
              intro v73 A73 Sh73 S73 G73 hp73
              obtain ⟨rfl, rfl, rfl, rfl, rfl⟩ := hp73
              refine rJ_iload X dX10_code_76 rfl ?_
              exact rJ_iretZ hZ X dX10_code_78 (Or.inr ⟨hok, rfl, fun x hx => by rw [hA50]; exact if_neg hx, rfl, rfl, rfl⟩)
            · try replace c6 := z_f c6
              refine rJ_iconst (v := (-1)) X dX10_code_44 (by decide) ?_
              refine rJ_wide (k := 1) (n := 5) (Nat.le_of_ble_eq_true rfl) (Nat.le_of_ble_eq_true rfl) ?_
              exact rJ_iretZ hZ X dX10_code_45 (Or.inl ⟨(by clear X hZ; grind), rfl, rfl, rfl, rfl, rfl⟩)
      · try replace c3 := z_t c3
        refine rJ_iconst (v := (-1)) X dX10_code_20 (by decide) ?_
        refine rJ_wide (k := 1) (n := 5) (Nat.le_of_ble_eq_true rfl) (Nat.le_of_ble_eq_true rfl) ?_
        exact rJ_iretZ hZ X dX10_code_21 (Or.inl ⟨(by clear X hZ; grind), rfl, rfl, rfl, rfl, rfl⟩)
