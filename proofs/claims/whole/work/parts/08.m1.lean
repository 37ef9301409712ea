set_option maxHeartbeats 4000000 in
set_option maxRecDepth 100000 in
theorem cM_isIn {l : Launch} {D : va_G} {b : Nat} {A : Nat → Nat} {Sh : mS} {S : mI} {G : mP} (v lo hi : Int32) : rMet l D b yX11_isIn cX11_isIn 3 (some .boolean) (mR 0) A Sh S G [.int v, .int lo, .int hi] (rPi A Sh (if lo ≤ v ∧ v ≤ hi then 1 else 0) S G) := by
  refine rMet_oz RX11 rfl (by decide) (Nat.le_of_ble_eq_true rfl) ?_
  intro p e s m args below meth c Z hZ X hnm
  refine rJ_iload_n X dX11_isIn_0 rfl rfl ?_
  refine rJ_iload_n X dX11_isIn_1 rfl rfl ?_
  refine rJ_icmp_lt (tgt := 14) X dX11_isIn_2 (by decide) (fun c1 => ?_) (fun c1 => ?_)
  · refine rJ_iconst (v := 0) X dX11_isIn_14 (by decide) ?_
    exact rJ_zretZ hZ X dX11_isIn_15 rfl ⟨by grind, rfl, rfl, rfl, rfl⟩
  · refine rJ_iload_n X dX11_isIn_5 rfl rfl ?_
    refine rJ_iload_n X dX11_isIn_6 rfl rfl ?_
    refine rJ_icmp_gt (tgt := 14) X dX11_isIn_7 (by decide) (fun c2 => ?_) (fun c2 => ?_)
    · refine rJ_iconst (v := 0) X dX11_isIn_14 (by decide) ?_
      exact rJ_zretZ hZ X dX11_isIn_15 rfl ⟨by grind, rfl, rfl, rfl, rfl⟩
    · refine rJ_iconst (v := 1) X dX11_isIn_10 (by decide) ?_
      refine rJ_goto (tgt := 15) X dX11_isIn_11 (by decide) ?_
      exact rJ_zretZ hZ X dX11_isIn_15 rfl ⟨by grind, rfl, rfl, rfl, rfl⟩
/-- the kind of instruction n: a stop where there is none -/
def mKind (S : mI) (n : Int32) : Int32 := if 0 ≤ n ∧ n ≤ S 100 10 - 1 then S 106 n.toNatClampNeg else 0
theorem mKind_in {S : mI} {n : Int32} {sz : Nat} (hs : S 100 10 = nI sz) (h40 : sz ≤ 40) (h : 0 ≤ n ∧ n ≤ S 100 10 - 1) : vp_in n 40 := by
  rw [hs, i_le, i_le] at h
  have h1 : (nI sz - 1).toInt = (nI sz).toInt - (1 : Int32).toInt := i_sub (by rw [i_nI (by omega)]; show _ ≤ _ - (1 : Int); omega) (by rw [i_nI (by omega)]; show _ - (1 : Int) < _; omega)
  rw [h1, i_nI (by omega)] at h
  have e1 : (1 : Int32).toInt = 1 := rfl
  have e0 : (0 : Int32).toInt = 0 := rfl
  rw [e1, e0] at h
  exact in_i (by omega) (by omega)
set_option maxHeartbeats 4000000 in
set_option maxRecDepth 100000 in
theorem cM_kindOf {l : Launch} {D : va_G} {b : Nat} {A : Nat → Nat} {Sh : mS} {S : mI} {G : mP} (hw : okM Sh G) (n : Int32) {sz : Nat} (hs : S 100 10 = nI sz) (h40 : sz ≤ 40) : rMet l D b yX11_kindOf cX11_kindOf 2 (some .int) (mR 1) A Sh S G [.ref (A 100), .int n] (rPi A Sh (mKind S n) S G) := by
  refine rMet_oz RX11 rfl (by decide) (Nat.le_of_ble_eq_true rfl) ?_
  intro p e s m args below meth c Z hZ X hnm
  refine rJ_iload_n X dX11_kindOf_0 rfl rfl ?_
  refine rJ_iconst (v := 0) X dX11_kindOf_1 (by decide) ?_
  refine rJ_aload_n X dX11_kindOf_2 rfl rfl ?_
  refine rJ_getI X fX11_126 (hw.1 _ _ rfl) dX11_kindOf_3 ?_
  refine rJ_iconst (v := 1) X dX11_kindOf_6 (by decide) ?_
  refine rJ_isub X dX11_kindOf_7 ?_
  refine rJ_Si3 X gX11_115 (cM_isIn _ _ _) dX11_kindOf_8 (by decide) (Nat.le_of_ble_eq_true rfl) ⟨Nat.le_refl _, Nat.le_refl _⟩ ?_
  refine rJ_if_eq (tgt := 23) X dX11_kindOf_11 (by decide) (fun c1 => ?_) (fun c1 => ?_)
  · try replace c1 := z_f c1
    refine rJ_iconst (v := 0) X dX11_kindOf_23 (by decide) ?_
    exact rJ_iretZ hZ X dX11_kindOf_24 ⟨by grind [mKind], rfl, rfl, rfl, rfl⟩
  · try replace c1 := z_t c1
    refine rJ_aload_n X dX11_kindOf_14 rfl rfl ?_
    refine rJ_getR X fX11_23 (hw.1 _ _ rfl) (hw.2 _ _ rfl) dX11_kindOf_15 ?_
    refine rJ_iload_n X dX11_kindOf_18 rfl rfl ?_
    refine rJ_iald X (hw.1 _ _ rfl) (mKind_in hs h40 c1) dX11_kindOf_19 ?_
    refine rJ_goto (tgt := 24) X dX11_kindOf_20 (by decide) ?_
    exact rJ_iretZ hZ X dX11_kindOf_24 ⟨by grind [mKind], rfl, rfl, rfl, rfl⟩
theorem mKind_ne {S : mI} {n : Int32} {sz : Nat} (hs : S 100 10 = nI sz) (h40 : sz ≤ 40) (h : mKind S n ≠ 0) : vp_in n 40 := by
  by_cases hc : 0 ≤ n ∧ n ≤ S 100 10 - 1
  · exact mKind_in hs h40 hc
  · simp [mKind, hc] at h
abbrev mCR (S : mI) (n reg : Int32) : Prop := (1 ≤ mKind S n ∧ mKind S n ≤ 5) ∧ S 107 n.toNatClampNeg = reg
set_option maxHeartbeats 4000000 in
set_option maxRecDepth 100000 in
theorem cM_commitsRegister {l : Launch} {D : va_G} {b : Nat} {A : Nat → Nat} {Sh : mS} {S : mI} {G : mP} (hw : okM Sh G) (n reg : Int32) {sz : Nat} (hs : S 100 10 = nI sz) (h40 : sz ≤ 40) : rMet l D b yX11_commitsRegister cX11_commitsRegister 3 (some .boolean) (mR 2) A Sh S G [.ref (A 100), .int n, .int reg] (rPi A Sh (if mCR S n reg then 1 else 0) S G) := by
  refine rMet_oz RX11 rfl (by decide) (Nat.le_of_ble_eq_true rfl) ?_
  intro p e s m args below meth c Z hZ X hnm
  refine rJ_aload_n X dX11_commitsRegister_0 rfl rfl ?_
  refine rJ_iload_n X dX11_commitsRegister_1 rfl rfl ?_
  refine rJ_Vi1 X gX11_129 (cM_kindOf hw _ hs h40) (hw.1 _ _ rfl) dX11_commitsRegister_2 (by decide) (Nat.le_of_ble_eq_true rfl) ⟨Nat.le_refl _, Nat.le_refl _⟩ ?_
  refine rJ_iconst (v := 1) X dX11_commitsRegister_5 (by decide) ?_
  refine rJ_iconst (v := 5) X dX11_commitsRegister_6 (by decide) ?_
  refine rJ_Si3 X gX11_115 (cM_isIn _ _ _) dX11_commitsRegister_7 (by decide) (Nat.le_of_ble_eq_true rfl) ⟨Nat.le_refl _, Nat.le_refl _⟩ ?_
  refine rJ_if_eq (tgt := 27) X dX11_commitsRegister_10 (by decide) (fun c1 => ?_) (fun c1 => ?_)
  · try replace c1 := z_f c1
    refine rJ_iconst (v := 0) X dX11_commitsRegister_27 (by decide) ?_
    exact rJ_zretZ hZ X dX11_commitsRegister_28 rfl ⟨by grind, rfl, rfl, rfl, rfl⟩
  · try replace c1 := z_t c1
    refine rJ_aload_n X dX11_commitsRegister_13 rfl rfl ?_
    refine rJ_getR X fX11_26 (hw.1 _ _ rfl) (hw.2 _ _ rfl) dX11_commitsRegister_14 ?_
    refine rJ_iload_n X dX11_commitsRegister_17 rfl rfl ?_
    refine rJ_iald X (hw.1 _ _ rfl) (mKind_ne hs h40 (by grind)) dX11_commitsRegister_18 ?_
    refine rJ_iload_n X dX11_commitsRegister_19 rfl rfl ?_
    refine rJ_icmp_ne (tgt := 27) X dX11_commitsRegister_20 (by decide) (fun c2 => ?_) (fun c2 => ?_)
    · refine rJ_iconst (v := 0) X dX11_commitsRegister_27 (by decide) ?_
      exact rJ_zretZ hZ X dX11_commitsRegister_28 rfl ⟨by grind, rfl, rfl, rfl, rfl⟩
    · refine rJ_iconst (v := 1) X dX11_commitsRegister_23 (by decide) ?_
      refine rJ_goto (tgt := 28) X dX11_commitsRegister_24 (by decide) ?_
      exact rJ_zretZ hZ X dX11_commitsRegister_28 rfl ⟨by grind, rfl, rfl, rfl, rfl⟩
/-- the youngest of the older threads that commits the register: its stage, or st -/
def mGvF (S : mI) (reg : Int32) : Nat → Nat → Nat
  | 0, k => k
  | f + 1, k => if ¬ S 115 k = 0 ∧ mCR S (S 114 k) reg then k else mGvF S reg f (k + 1)
abbrev mGv (S : mI) (st : Nat) (reg : Int32) (k : Nat) : Nat := mGvF S reg (st - k) k
theorem mGv_end (S : mI) (st : Nat) (reg : Int32) : mGv S st reg st = st := by simp [mGv, mGvF]
theorem mGv_step (S : mI) {st k : Nat} (reg : Int32) (h : k < st) : mGv S st reg k = if ¬ S 115 k = 0 ∧ mCR S (S 114 k) reg then k else mGv S st reg (k + 1) := by
  have e : st - k = (st - (k + 1)) + 1 := by omega
  show mGvF S reg (st - k) k = _
  rw [e]
  rfl
theorem mGv_le (S : mI) (st : Nat) (reg : Int32) : ∀ f k, k + f = st → mGvF S reg f k ≤ st ∧ k ≤ mGvF S reg f k := by
  intro f
  induction f with
  | zero => intro k h; simp [mGvF]; omega
  | succ f ih =>
    intro k h
    unfold mGvF
    split
    · omega
    · have := ih (k + 1) (by omega); omega
theorem mGv_in (S : mI) {st k : Nat} (reg : Int32) (h : k ≤ st) : mGv S st reg k ≤ st ∧ k ≤ mGv S st reg k := mGv_le S st reg (st - k) k (by omega)
set_option maxHeartbeats 4000000 in
set_option maxRecDepth 100000 in
theorem cM_giver {l : Launch} {D : va_G} {b : Nat} {A : Nat → Nat} {Sh : mS} {S : mI} {G : mP} (hw : okM Sh G) (reg : Int32) {sz : Nat} (hs : S 100 10 = nI sz) (h40 : sz ≤ 40) {st s0 : Nat} (h2 : S 100 2 = nI st) (h8 : st ≤ 8) (hlt : s0 < st) : rMet l D b yX11_giver cX11_giver 4 (some .int) (mR 3) A Sh S G [.ref (A 100), .int (nI s0), .int reg] (rPi A Sh (nI (mGv S st reg (s0 + 1))) S G) := by
  refine rMet_oz RX11 rfl (by decide) (Nat.le_of_ble_eq_true rfl) ?_
  intro p e s m args below meth c Z hZ X hnm
  have loop : ∀ (f k : Nat), k ≤ st → st - k < f → mGv S st reg k = mGv S st reg (s0 + 1) → rJ p l e (mR 3) s m args below meth c D vwCl mty b 4 Z 0 0 A Sh S G [(0, .ref (A 100)), (1, .int (nI s0)), (2, .int reg), (3, .int (nI k))] 4 [] := by
    intro f
    induction f with
    | zero => intro k h1 h3; exact absurd h3 (by omega)
    | succ f ih =>
      intro k h1 h3 he
      refine rJ_iload_n X dX11_giver_4 rfl rfl ?_
      refine rJ_aload_n X dX11_giver_5 rfl rfl ?_
      refine rJ_getI X fX11_13 (hw.1 _ _ rfl) dX11_giver_6 ?_
      refine rJ_icmp_ge (tgt := 43) X dX11_giver_9 (by decide) (fun c1 => ?_) (fun c1 => ?_)
      · rw [h2, nI_leI (by omega) (by omega)] at c1
        refine rJ_aload_n X dX11_giver_43 rfl rfl ?_
        refine rJ_getI X fX11_13 (hw.1 _ _ rfl) dX11_giver_44 ?_
        exact rJ_iretZ hZ X dX11_giver_47 ⟨by rw [← he, h2, show k = st by omega, mGv_end], rfl, rfl, rfl, rfl⟩
      · rw [h2, nI_leI (by omega) (by omega)] at c1
        refine rJ_aload_n X dX11_giver_12 rfl rfl ?_
        refine rJ_getR X fX11_47 (hw.1 _ _ rfl) (hw.2 _ _ rfl) dX11_giver_13 ?_
        refine rJ_iload_n X dX11_giver_16 rfl rfl ?_
        refine rJ_zaldK (k := k) X rfl ⟨by omega, by omega⟩ (hw.1 _ _ rfl) dX11_giver_17 ?_
        refine rJ_if_eq (tgt := 37) X dX11_giver_18 (by decide) (fun c2 => ?_) (fun c2 => ?_)
        · refine rJ_inc (n := 1) (w := 1) X dX11_giver_37 rfl (by decide) (by decide) ?_
          rw [nI_1 k]
          refine rJ_goto (tgt := 4) X dX11_giver_40 (by decide) ?_
          exact rJ_lv _ rfl (ih (k + 1) (by omega) (by omega) (by rw [← he, mGv_step S (k := k) reg (by omega), if_neg (by first | exact fun q => q.1 c2 | exact fun q => c3 q.2)]))
        · refine rJ_aload_n X dX11_giver_21 rfl rfl ?_
          refine rJ_aload_n X dX11_giver_22 rfl rfl ?_
          refine rJ_getR X fX11_44 (hw.1 _ _ rfl) (hw.2 _ _ rfl) dX11_giver_23 ?_
          refine rJ_iload_n X dX11_giver_26 rfl rfl ?_
          refine rJ_ialdK (k := k) X rfl ⟨by omega, by omega⟩ (hw.1 _ _ rfl) dX11_giver_27 ?_
          refine rJ_iload_n X dX11_giver_28 rfl rfl ?_
          refine rJ_Vi2 X gX11_132 (cM_commitsRegister hw _ _ hs h40) (hw.1 _ _ rfl) dX11_giver_29 (by decide) (Nat.le_of_ble_eq_true rfl) ⟨Nat.le_refl _, Nat.le_refl _⟩ ?_
          refine rJ_if_eq (tgt := 37) X dX11_giver_32 (by decide) (fun c3 => ?_) (fun c3 => ?_)
          · try replace c3 := z_f c3
            refine rJ_inc (n := 1) (w := 1) X dX11_giver_37 rfl (by decide) (by decide) ?_
            rw [nI_1 k]
            refine rJ_goto (tgt := 4) X dX11_giver_40 (by decide) ?_
            exact rJ_lv _ rfl (ih (k + 1) (by omega) (by omega) (by rw [← he, mGv_step S (k := k) reg (by omega), if_neg (by first | exact fun q => q.1 c2 | exact fun q => c3 q.2)]))
          · try replace c3 := z_t c3
            refine rJ_iload_n X dX11_giver_35 rfl rfl ?_
            exact rJ_iretZ hZ X dX11_giver_36 ⟨by rw [← he, mGv_step S reg (by omega), if_pos ⟨c2, c3⟩], rfl, rfl, rfl, rfl⟩
  refine rJ_iload_n X dX11_giver_0 rfl rfl ?_
  refine rJ_iconst (v := 1) X dX11_giver_1 (by decide) ?_
  refine rJ_iadd X dX11_giver_2 ?_
  refine rJ_as (nI (s0 + 1)) (nI_1 s0) ?_
  refine rJ_istore_n X dX11_giver_3 rfl (by decide) ?_
  exact rJ_lv _ rfl (loop (st + 1) (s0 + 1) (by omega) (by omega) rfl)
abbrev mNeed (S : mI) (n : Int32) : Int32 := if mKind S n = 5 ∧ S 100 4 < S 104 5 then S 104 5 else S 100 4
/-- the register can be read at stage s0 -/
def mRdy (S : mI) (st s0 : Nat) (reg : Int32) : Bool := if mGv S st reg (s0 + 1) = st then decide (¬ S 126 reg.toNatClampNeg = S 100 20) else decide (¬ S 100 4 = -1 ∧ (mNeed S (S 114 (mGv S st reg (s0 + 1))) + 1 < nI (mGv S st reg (s0 + 1)) ∨ nI (mGv S st reg (s0 + 1)) = mNeed S (S 114 (mGv S st reg (s0 + 1))) + 1 ∧ S 120 (mGv S st reg (s0 + 1)) < S 100 20))
def mRead (S : mI) (st s0 : Nat) (reg : Int32) : Int32 := if mGv S st reg (s0 + 1) = st then S 125 reg.toNatClampNeg else S 118 (mGv S st reg (s0 + 1))
set_option maxHeartbeats 4000000 in
set_option maxRecDepth 100000 in
theorem cM_isReady {l : Launch} {D : va_G} {b : Nat} {A : Nat → Nat} {Sh : mS} {S : mI} {G : mP} (hw : okM Sh G) (reg : Int32) {sz : Nat} (hs : S 100 10 = nI sz) (h40 : sz ≤ 40) {st s0 : Nat} (h2 : S 100 2 = nI st) (h8 : st ≤ 8) (hlt : s0 < st) (hr8 : vp_in reg 8) : rMet l D b yX11_isReady cX11_isReady 5 (some .boolean) (mR 4) A Sh S G [.ref (A 100), .int (nI s0), .int reg] (rPi A Sh (if mRdy S st s0 reg = true then 1 else 0) S G) := by
  refine rMet_oz RX11 rfl (by decide) (Nat.le_of_ble_eq_true rfl) ?_
  intro p e s m args below meth c Z hZ X hnm
  have hg := mGv_in S (k := s0 + 1) reg (st := st) (by omega)
  refine rJ_aload_n X dX11_isReady_0 rfl rfl ?_
  refine rJ_iload_n X dX11_isReady_1 rfl rfl ?_
  refine rJ_iload_n X dX11_isReady_2 rfl rfl ?_
  refine rJ_Vi2 X gX11_136 (cM_giver hw _ hs h40 h2 h8 hlt) (hw.1 _ _ rfl) dX11_isReady_3 (by decide) (Nat.le_of_ble_eq_true rfl) ⟨Nat.le_refl _, Nat.le_refl _⟩ ?_
  refine rJ_istore_n X dX11_isReady_6 rfl (by decide) ?_
  refine rJ_iload_n X dX11_isReady_7 rfl rfl ?_
  refine rJ_aload_n X dX11_isReady_8 rfl rfl ?_
  refine rJ_getI X fX11_13 (hw.1 _ _ rfl) dX11_isReady_9 ?_
  refine rJ_icmp_ne (tgt := 34) X dX11_isReady_12 (by decide) (fun c1 => ?_) (fun c1 => ?_)
  · rw [h2, nI_eq (by omega) (by omega)] at c1
    refine rJ_aload_n X dX11_isReady_34 rfl rfl ?_
    refine rJ_getI X fX11_20 (hw.1 _ _ rfl) dX11_isReady_35 ?_
    refine rJ_iconst (v := (-1)) X dX11_isReady_38 (by decide) ?_
    refine rJ_icmp_ne (tgt := 44) X dX11_isReady_39 (by decide) (fun c2 => ?_) (fun c2 => ?_)
    · refine rJ_aload_n X dX11_isReady_44 rfl rfl ?_
      refine rJ_aload_n X dX11_isReady_45 rfl rfl ?_
      refine rJ_getR X fX11_44 (hw.1 _ _ rfl) (hw.2 _ _ rfl) dX11_isReady_46 ?_
      refine rJ_iload_n X dX11_isReady_49 rfl rfl ?_
      refine rJ_ialdK (k := mGv S st reg (s0 + 1)) X rfl ⟨by omega, by omega⟩ (hw.1 _ _ rfl) dX11_isReady_50 ?_
      refine rJ_Vi1 X gX11_129 (cM_kindOf hw _ hs h40) (hw.1 _ _ rfl) dX11_isReady_51 (by decide) (Nat.le_of_ble_eq_true rfl) ⟨Nat.le_refl _, Nat.le_refl _⟩ ?_
      refine rJ_iconst (v := 5) X dX11_isReady_54 (by decide) ?_
      refine rJ_icmp_ne (tgt := 80) X dX11_isReady_55 (by decide) (fun c3 => ?_) (fun c3 => ?_)
      · refine rJ_aload_n X dX11_isReady_80 rfl rfl ?_
        refine rJ_getI X fX11_20 (hw.1 _ _ rfl) dX11_isReady_81 ?_
        refine rJ_istore X dX11_isReady_84 (by decide) ?_
        refine rJ_iload_n X dX11_isReady_86 rfl rfl ?_
        refine rJ_iload X dX11_isReady_87 rfl ?_
        refine rJ_iconst (v := 1) X dX11_isReady_89 (by decide) ?_
        refine rJ_iadd X dX11_isReady_90 ?_
        refine rJ_icmp_gt (tgt := 115) X dX11_isReady_91 (by decide) (fun c4 => ?_) (fun c4 => ?_)
        · refine rJ_iconst (v := 1) X dX11_isReady_115 (by decide) ?_
          refine rJ_goto (tgt := 120) X dX11_isReady_116 (by decide) ?_
          exact rJ_zretZ hZ X dX11_isReady_120 rfl ⟨by clear X hZ; simp only [mRdy, mNeed]; grind, rfl, rfl, rfl, rfl⟩
        · refine rJ_iload_n X dX11_isReady_94 rfl rfl ?_
          refine rJ_iload X dX11_isReady_95 rfl ?_
          refine rJ_iconst (v := 1) X dX11_isReady_97 (by decide) ?_
          refine rJ_iadd X dX11_isReady_98 ?_
          refine rJ_icmp_ne (tgt := 119) X dX11_isReady_99 (by decide) (fun c5 => ?_) (fun c5 => ?_)
          · refine rJ_iconst (v := 0) X dX11_isReady_119 (by decide) ?_
            exact rJ_zretZ hZ X dX11_isReady_120 rfl ⟨by clear X hZ; simp only [mRdy, mNeed]; grind, rfl, rfl, rfl, rfl⟩
          · refine rJ_aload_n X dX11_isReady_102 rfl rfl ?_
            refine rJ_getR X fX11_63 (hw.1 _ _ rfl) (hw.2 _ _ rfl) dX11_isReady_103 ?_
            refine rJ_iload_n X dX11_isReady_106 rfl rfl ?_
            refine rJ_ialdK (k := mGv S st reg (s0 + 1)) X rfl ⟨by omega, by omega⟩ (hw.1 _ _ rfl) dX11_isReady_107 ?_
            refine rJ_aload_n X dX11_isReady_108 rfl rfl ?_
            refine rJ_getI X fX11_99 (hw.1 _ _ rfl) dX11_isReady_109 ?_
            refine rJ_icmp_ge (tgt := 119) X dX11_isReady_112 (by decide) (fun c6 => ?_) (fun c6 => ?_)
            · refine rJ_iconst (v := 0) X dX11_isReady_119 (by decide) ?_
              exact rJ_zretZ hZ X dX11_isReady_120 rfl ⟨by clear X hZ; simp only [mRdy, mNeed]; grind, rfl, rfl, rfl, rfl⟩
            · refine rJ_iconst (v := 1) X dX11_isReady_115 (by decide) ?_
              refine rJ_goto (tgt := 120) X dX11_isReady_116 (by decide) ?_
              exact rJ_zretZ hZ X dX11_isReady_120 rfl ⟨by clear X hZ; simp only [mRdy, mNeed]; grind, rfl, rfl, rfl, rfl⟩
      · refine rJ_aload_n X dX11_isReady_58 rfl rfl ?_
        refine rJ_getR X fX11_17 (hw.1 _ _ rfl) (hw.2 _ _ rfl) dX11_isReady_59 ?_
        refine rJ_iconst (v := 5) X dX11_isReady_62 (by decide) ?_
        refine rJ_ialdK (k := 5) X (by decide) ⟨by decide, by decide⟩ (hw.1 _ _ rfl) dX11_isReady_63 ?_
        refine rJ_aload_n X dX11_isReady_64 rfl rfl ?_
        refine rJ_getI X fX11_20 (hw.1 _ _ rfl) dX11_isReady_65 ?_
        refine rJ_icmp_le (tgt := 80) X dX11_isReady_68 (by decide) (fun c7 => ?_) (fun c7 => ?_)
        · refine rJ_aload_n X dX11_isReady_80 rfl rfl ?_
          refine rJ_getI X fX11_20 (hw.1 _ _ rfl) dX11_isReady_81 ?_
          refine rJ_istore X dX11_isReady_84 (by decide) ?_
          refine rJ_iload_n X dX11_isReady_86 rfl rfl ?_
          refine rJ_iload X dX11_isReady_87 rfl ?_
          refine rJ_iconst (v := 1) X dX11_isReady_89 (by decide) ?_
          refine rJ_iadd X dX11_isReady_90 ?_
          refine rJ_icmp_gt (tgt := 115) X dX11_isReady_91 (by decide) (fun c8 => ?_) (fun c8 => ?_)
          · refine rJ_iconst (v := 1) X dX11_isReady_115 (by decide) ?_
            refine rJ_goto (tgt := 120) X dX11_isReady_116 (by decide) ?_
            exact rJ_zretZ hZ X dX11_isReady_120 rfl ⟨by clear X hZ; simp only [mRdy, mNeed]; grind, rfl, rfl, rfl, rfl⟩
          · refine rJ_iload_n X dX11_isReady_94 rfl rfl ?_
            refine rJ_iload X dX11_isReady_95 rfl ?_
            refine rJ_iconst (v := 1) X dX11_isReady_97 (by decide) ?_
            refine rJ_iadd X dX11_isReady_98 ?_
            refine rJ_icmp_ne (tgt := 119) X dX11_isReady_99 (by decide) (fun c9 => ?_) (fun c9 => ?_)
            · refine rJ_iconst (v := 0) X dX11_isReady_119 (by decide) ?_
              exact rJ_zretZ hZ X dX11_isReady_120 rfl ⟨by clear X hZ; simp only [mRdy, mNeed]; grind, rfl, rfl, rfl, rfl⟩
            · refine rJ_aload_n X dX11_isReady_102 rfl rfl ?_
              refine rJ_getR X fX11_63 (hw.1 _ _ rfl) (hw.2 _ _ rfl) dX11_isReady_103 ?_
              refine rJ_iload_n X dX11_isReady_106 rfl rfl ?_
              refine rJ_ialdK (k := mGv S st reg (s0 + 1)) X rfl ⟨by omega, by omega⟩ (hw.1 _ _ rfl) dX11_isReady_107 ?_
              refine rJ_aload_n X dX11_isReady_108 rfl rfl ?_
              refine rJ_getI X fX11_99 (hw.1 _ _ rfl) dX11_isReady_109 ?_
              refine rJ_icmp_ge (tgt := 119) X dX11_isReady_112 (by decide) (fun c10 => ?_) (fun c10 => ?_)
              · refine rJ_iconst (v := 0) X dX11_isReady_119 (by decide) ?_
                exact rJ_zretZ hZ X dX11_isReady_120 rfl ⟨by clear X hZ; simp only [mRdy, mNeed]; grind, rfl, rfl, rfl, rfl⟩
              · refine rJ_iconst (v := 1) X dX11_isReady_115 (by decide) ?_
                refine rJ_goto (tgt := 120) X dX11_isReady_116 (by decide) ?_
                exact rJ_zretZ hZ X dX11_isReady_120 rfl ⟨by clear X hZ; simp only [mRdy, mNeed]; grind, rfl, rfl, rfl, rfl⟩
        · refine rJ_aload_n X dX11_isReady_71 rfl rfl ?_
          refine rJ_getR X fX11_17 (hw.1 _ _ rfl) (hw.2 _ _ rfl) dX11_isReady_72 ?_
          refine rJ_iconst (v := 5) X dX11_isReady_75 (by decide) ?_
          refine rJ_ialdK (k := 5) X (by decide) ⟨by decide, by decide⟩ (hw.1 _ _ rfl) dX11_isReady_76 ?_
          refine rJ_goto (tgt := 84) X dX11_isReady_77 (by decide) ?_
          refine rJ_istore X dX11_isReady_84 (by decide) ?_
          refine rJ_iload_n X dX11_isReady_86 rfl rfl ?_
          refine rJ_iload X dX11_isReady_87 rfl ?_
          refine rJ_iconst (v := 1) X dX11_isReady_89 (by decide) ?_
          refine rJ_iadd X dX11_isReady_90 ?_
          refine rJ_icmp_gt (tgt := 115) X dX11_isReady_91 (by decide) (fun c11 => ?_) (fun c11 => ?_)
          · refine rJ_iconst (v := 1) X dX11_isReady_115 (by decide) ?_
            refine rJ_goto (tgt := 120) X dX11_isReady_116 (by decide) ?_
            exact rJ_zretZ hZ X dX11_isReady_120 rfl ⟨by clear X hZ; simp only [mRdy, mNeed]; grind, rfl, rfl, rfl, rfl⟩
          · refine rJ_iload_n X dX11_isReady_94 rfl rfl ?_
            refine rJ_iload X dX11_isReady_95 rfl ?_
            refine rJ_iconst (v := 1) X dX11_isReady_97 (by decide) ?_
            refine rJ_iadd X dX11_isReady_98 ?_
            refine rJ_icmp_ne (tgt := 119) X dX11_isReady_99 (by decide) (fun c12 => ?_) (fun c12 => ?_)
            · refine rJ_iconst (v := 0) X dX11_isReady_119 (by decide) ?_
              exact rJ_zretZ hZ X dX11_isReady_120 rfl ⟨by clear X hZ; simp only [mRdy, mNeed]; grind, rfl, rfl, rfl, rfl⟩
            · refine rJ_aload_n X dX11_isReady_102 rfl rfl ?_
              refine rJ_getR X fX11_63 (hw.1 _ _ rfl) (hw.2 _ _ rfl) dX11_isReady_103 ?_
              refine rJ_iload_n X dX11_isReady_106 rfl rfl ?_
              refine rJ_ialdK (k := mGv S st reg (s0 + 1)) X rfl ⟨by omega, by omega⟩ (hw.1 _ _ rfl) dX11_isReady_107 ?_
              refine rJ_aload_n X dX11_isReady_108 rfl rfl ?_
              refine rJ_getI X fX11_99 (hw.1 _ _ rfl) dX11_isReady_109 ?_
              refine rJ_icmp_ge (tgt := 119) X dX11_isReady_112 (by decide) (fun c13 => ?_) (fun c13 => ?_)
              · refine rJ_iconst (v := 0) X dX11_isReady_119 (by decide) ?_
                exact rJ_zretZ hZ X dX11_isReady_120 rfl ⟨by clear X hZ; simp only [mRdy, mNeed]; grind, rfl, rfl, rfl, rfl⟩
              · refine rJ_iconst (v := 1) X dX11_isReady_115 (by decide) ?_
                refine rJ_goto (tgt := 120) X dX11_isReady_116 (by decide) ?_
                exact rJ_zretZ hZ X dX11_isReady_120 rfl ⟨by clear X hZ; simp only [mRdy, mNeed]; grind, rfl, rfl, rfl, rfl⟩
    · refine rJ_iconst (v := 0) X dX11_isReady_42 (by decide) ?_
      exact rJ_zretZ hZ X dX11_isReady_43 rfl ⟨by clear X hZ; simp only [mRdy, mNeed]; grind, rfl, rfl, rfl, rfl⟩
  · rw [h2, nI_eq (by omega) (by omega)] at c1
    refine rJ_aload_n X dX11_isReady_15 rfl rfl ?_
    refine rJ_getR X fX11_69 (hw.1 _ _ rfl) (hw.2 _ _ rfl) dX11_isReady_16 ?_
    refine rJ_iload_n X dX11_isReady_19 rfl rfl ?_
    refine rJ_iald X (hw.1 _ _ rfl) hr8 dX11_isReady_20 ?_
    refine rJ_aload_n X dX11_isReady_21 rfl rfl ?_
    refine rJ_getI X fX11_99 (hw.1 _ _ rfl) dX11_isReady_22 ?_
    refine rJ_icmp_eq (tgt := 32) X dX11_isReady_25 (by decide) (fun c14 => ?_) (fun c14 => ?_)
    · refine rJ_iconst (v := 0) X dX11_isReady_32 (by decide) ?_
      exact rJ_zretZ hZ X dX11_isReady_33 rfl ⟨by clear X hZ; simp only [mRdy, mNeed]; grind, rfl, rfl, rfl, rfl⟩
    · refine rJ_iconst (v := 1) X dX11_isReady_28 (by decide) ?_
      refine rJ_goto (tgt := 33) X dX11_isReady_29 (by decide) ?_
      exact rJ_zretZ hZ X dX11_isReady_33 rfl ⟨by clear X hZ; simp only [mRdy, mNeed]; grind, rfl, rfl, rfl, rfl⟩
set_option maxHeartbeats 4000000 in
set_option maxRecDepth 100000 in
theorem cM_read {l : Launch} {D : va_G} {b : Nat} {A : Nat → Nat} {Sh : mS} {S : mI} {G : mP} (hw : okM Sh G) (reg : Int32) {sz : Nat} (hs : S 100 10 = nI sz) (h40 : sz ≤ 40) {st s0 : Nat} (h2 : S 100 2 = nI st) (h8 : st ≤ 8) (hlt : s0 < st) (hr8 : vp_in reg 8) : rMet l D b yX11_read cX11_read 4 (some .int) (mR 4) A Sh S G [.ref (A 100), .int (nI s0), .int reg] (rPi A Sh (mRead S st s0 reg) S G) := by
  refine rMet_oz RX11 rfl (by decide) (Nat.le_of_ble_eq_true rfl) ?_
  intro p e s m args below meth c Z hZ X hnm
  have hg := mGv_in S (k := s0 + 1) reg (st := st) (by omega)
  refine rJ_aload_n X dX11_read_0 rfl rfl ?_
  refine rJ_iload_n X dX11_read_1 rfl rfl ?_
  refine rJ_iload_n X dX11_read_2 rfl rfl ?_
  refine rJ_Vi2 X gX11_136 (cM_giver hw _ hs h40 h2 h8 hlt) (hw.1 _ _ rfl) dX11_read_3 (by decide) (Nat.le_of_ble_eq_true rfl) ⟨Nat.le_refl _, Nat.le_refl _⟩ ?_
  refine rJ_istore_n X dX11_read_6 rfl (by decide) ?_
  refine rJ_iload_n X dX11_read_7 rfl rfl ?_
  refine rJ_aload_n X dX11_read_8 rfl rfl ?_
  refine rJ_getI X fX11_13 (hw.1 _ _ rfl) dX11_read_9 ?_
  refine rJ_icmp_ne (tgt := 24) X dX11_read_12 (by decide) (fun c1 => ?_) (fun c1 => ?_)
  · rw [h2, nI_eq (by omega) (by omega)] at c1
    refine rJ_aload_n X dX11_read_24 rfl rfl ?_
    refine rJ_getR X fX11_57 (hw.1 _ _ rfl) (hw.2 _ _ rfl) dX11_read_25 ?_
    refine rJ_iload_n X dX11_read_28 rfl rfl ?_
    refine rJ_ialdK (k := mGv S st reg (s0 + 1)) X rfl ⟨by omega, by omega⟩ (hw.1 _ _ rfl) dX11_read_29 ?_
    exact rJ_iretZ hZ X dX11_read_30 ⟨by simp [mRead, c1], rfl, rfl, rfl, rfl⟩
  · rw [h2, nI_eq (by omega) (by omega)] at c1
    refine rJ_aload_n X dX11_read_15 rfl rfl ?_
    refine rJ_getR X fX11_66 (hw.1 _ _ rfl) (hw.2 _ _ rfl) dX11_read_16 ?_
    refine rJ_iload_n X dX11_read_19 rfl rfl ?_
    refine rJ_iald X (hw.1 _ _ rfl) hr8 dX11_read_20 ?_
    refine rJ_goto (tgt := 30) X dX11_read_21 (by decide) ?_
    exact rJ_iretZ hZ X dX11_read_30 ⟨by simp [mRead, c1], rfl, rfl, rfl, rfl⟩
abbrev mR1 (k : Int32) : Prop := 2 ≤ k ∧ k ≤ 8
abbrev mR2 (k : Int32) : Prop := (2 ≤ k ∧ k ≤ 4) ∨ k = 6 ∨ k = 7
set_option maxHeartbeats 4000000 in
set_option maxRecDepth 100000 in
theorem cM_readsOne {l : Launch} {D : va_G} {b : Nat} {A : Nat → Nat} {Sh : mS} {S : mI} {G : mP} (k : Int32) : rMet l D b yX11_readsOne cX11_readsOne 1 (some .boolean) (mR 1) A Sh S G [.int k] (rPi A Sh (if mR1 k then 1 else 0) S G) := by
  refine rMet_oz RX11 rfl (by decide) (Nat.le_of_ble_eq_true rfl) ?_
  intro p e s m args below meth c Z hZ X hnm
  refine rJ_iload_n X dX11_readsOne_0 rfl rfl ?_
  refine rJ_iconst (v := 2) X dX11_readsOne_1 (by decide) ?_
  refine rJ_bipush (v := 8) X dX11_readsOne_2 (by decide) ?_
  refine rJ_Si3 X gX11_115 (cM_isIn _ _ _) dX11_readsOne_4 (by decide) (Nat.le_of_ble_eq_true rfl) ⟨Nat.le_refl _, Nat.le_refl _⟩ ?_
  exact rJ_zretZ hZ X dX11_readsOne_7 z_n ⟨rfl, rfl, rfl, rfl, rfl⟩
set_option maxHeartbeats 4000000 in
set_option maxRecDepth 100000 in
theorem cM_readsTwo {l : Launch} {D : va_G} {b : Nat} {A : Nat → Nat} {Sh : mS} {S : mI} {G : mP} (k : Int32) : rMet l D b yX11_readsTwo cX11_readsTwo 1 (some .boolean) (mR 1) A Sh S G [.int k] (rPi A Sh (if mR2 k then 1 else 0) S G) := by
  refine rMet_oz RX11 rfl (by decide) (Nat.le_of_ble_eq_true rfl) ?_
  intro p e s m args below meth c Z hZ X hnm
  refine rJ_iload_n X dX11_readsTwo_0 rfl rfl ?_
  refine rJ_iconst (v := 2) X dX11_readsTwo_1 (by decide) ?_
  refine rJ_iconst (v := 4) X dX11_readsTwo_2 (by decide) ?_
  refine rJ_Si3 X gX11_115 (cM_isIn _ _ _) dX11_readsTwo_3 (by decide) (Nat.le_of_ble_eq_true rfl) ⟨Nat.le_refl _, Nat.le_refl _⟩ ?_
  refine rJ_if_ne (tgt := 21) X dX11_readsTwo_6 (by decide) (fun c1 => ?_) (fun c1 => ?_)
  · try replace c1 := z_t c1
    refine rJ_iconst (v := 1) X dX11_readsTwo_21 (by decide) ?_
    refine rJ_goto (tgt := 26) X dX11_readsTwo_22 (by decide) ?_
    exact rJ_zretZ hZ X dX11_readsTwo_26 rfl ⟨by clear X hZ; grind, rfl, rfl, rfl, rfl⟩
  · try replace c1 := z_f c1
    refine rJ_iload_n X dX11_readsTwo_9 rfl rfl ?_
    refine rJ_bipush (v := 6) X dX11_readsTwo_10 (by decide) ?_
    refine rJ_icmp_eq (tgt := 21) X dX11_readsTwo_12 (by decide) (fun c2 => ?_) (fun c2 => ?_)
    · refine rJ_iconst (v := 1) X dX11_readsTwo_21 (by decide) ?_
      refine rJ_goto (tgt := 26) X dX11_readsTwo_22 (by decide) ?_
      exact rJ_zretZ hZ X dX11_readsTwo_26 rfl ⟨by clear X hZ; grind, rfl, rfl, rfl, rfl⟩
    · refine rJ_iload_n X dX11_readsTwo_15 rfl rfl ?_
      refine rJ_bipush (v := 7) X dX11_readsTwo_16 (by decide) ?_
      refine rJ_icmp_ne (tgt := 25) X dX11_readsTwo_18 (by decide) (fun c3 => ?_) (fun c3 => ?_)
      · refine rJ_iconst (v := 0) X dX11_readsTwo_25 (by decide) ?_
        exact rJ_zretZ hZ X dX11_readsTwo_26 rfl ⟨by clear X hZ; grind, rfl, rfl, rfl, rfl⟩
      · refine rJ_iconst (v := 1) X dX11_readsTwo_21 (by decide) ?_
        refine rJ_goto (tgt := 26) X dX11_readsTwo_22 (by decide) ?_
        exact rJ_zretZ hZ X dX11_readsTwo_26 rfl ⟨by clear X hZ; grind, rfl, rfl, rfl, rfl⟩
def mOldF (S : mI) : Nat → Nat → Bool
  | 0, _ => false
  | f + 1, k => decide (¬ S 115 k = 0 ∧ mKind S (S 114 k) = 6) || mOldF S f (k + 1)
theorem mOld_step (S : mI) {st k : Nat} (h : k < st) : mOldF S (st - k) k = (decide (¬ S 115 k = 0 ∧ mKind S (S 114 k) = 6) || mOldF S (st - (k + 1)) (k + 1)) := by
  have e : st - k = (st - (k + 1)) + 1 := by omega
  rw [e]
  rfl
/-- a store is ahead -/
def mOld (S : mI) (st s0 : Nat) : Bool := decide (¬ S 100 27 = 0) || mOldF S (st - (s0 + 1)) (s0 + 1)
set_option maxHeartbeats 4000000 in
set_option maxRecDepth 100000 in
theorem cM_hasOlderStore {l : Launch} {D : va_G} {b : Nat} {A : Nat → Nat} {Sh : mS} {S : mI} {G : mP} (hw : okM Sh G) {sz : Nat} (hs : S 100 10 = nI sz) (h40 : sz ≤ 40) {st s0 : Nat} (h2 : S 100 2 = nI st) (h8 : st ≤ 8) (hlt : s0 < st) (h27 : S 100 27 = 0 ∨ S 100 27 = 1) : rMet l D b yX11_hasOlderStore cX11_hasOlderStore 4 (some .boolean) (mR 2) A Sh S G [.ref (A 100), .int (nI s0)] (rPi A Sh (if mOld S st s0 = true then 1 else 0) S G) := by
  refine rMet_oz RX11 rfl (by decide) (Nat.le_of_ble_eq_true rfl) ?_
  intro p e s m args below meth c Z hZ X hnm
  have loop : ∀ (f k : Nat) (acc : Bool), k ≤ st → st - k < f → (acc || mOldF S (st - k) k) = mOld S st s0 → rJ p l e (mR 2) s m args below meth c D vwCl mty b 4 Z 0 0 A Sh S G [(0, .ref (A 100)), (1, .int (nI s0)), (2, .int (if acc = true then 1 else 0)), (3, .int (nI k))] 9 [] := by
    intro f
    induction f with
    | zero => intro k acc h1 h3; exact absurd h3 (by omega)
    | succ f ih =>
      intro k acc h1 h3 he
      refine rJ_iload_n X dX11_hasOlderStore_9 rfl rfl ?_
      refine rJ_aload_n X dX11_hasOlderStore_10 rfl rfl ?_
      refine rJ_getI X fX11_13 (hw.1 _ _ rfl) dX11_hasOlderStore_11 ?_
      refine rJ_icmp_ge (tgt := 57) X dX11_hasOlderStore_14 (by decide) (fun c1 => ?_) (fun c1 => ?_)
      · rw [h2, nI_leI (by omega) (by omega)] at c1
        refine rJ_iload_n X dX11_hasOlderStore_57 rfl rfl ?_
        exact rJ_zretZ hZ X dX11_hasOlderStore_58 z_n ⟨by rw [← he, show k = st by omega]; simp [mOldF], rfl, rfl, rfl, rfl⟩
      · rw [h2, nI_leI (by omega) (by omega)] at c1
        refine rJ_iload_n X dX11_hasOlderStore_17 rfl rfl ?_
        refine rJ_if_ne (tgt := 45) X dX11_hasOlderStore_18 (by decide) (fun c2 => ?_) (fun c2 => ?_)
        · first | replace c2 := z_t c2 | replace c2 := z_f c2
          refine rJ_iconst (v := 1) X dX11_hasOlderStore_45 (by decide) ?_
          refine rJ_goto (tgt := 50) X dX11_hasOlderStore_46 (by decide) ?_
          refine rJ_istore_n X dX11_hasOlderStore_50 rfl (by decide) ?_
          refine rJ_inc (n := 1) (w := 1) X dX11_hasOlderStore_51 rfl (by decide) (by decide) ?_
          rw [nI_1 k]
          refine rJ_goto (tgt := 9) X dX11_hasOlderStore_54 (by decide) ?_
          first
            | exact rJ_lv _ rfl (ih (k + 1) true (by omega) (by omega) (by rw [← he, mOld_step S (k := k) (by omega)]; simp [*]))
            | exact rJ_lv _ rfl (ih (k + 1) false (by omega) (by omega) (by rw [← he, mOld_step S (k := k) (by omega)]; simp [*]))
        · first | replace c2 := z_t c2 | replace c2 := z_f c2
          refine rJ_aload_n X dX11_hasOlderStore_21 rfl rfl ?_
          refine rJ_getR X fX11_47 (hw.1 _ _ rfl) (hw.2 _ _ rfl) dX11_hasOlderStore_22 ?_
          refine rJ_iload_n X dX11_hasOlderStore_25 rfl rfl ?_
          refine rJ_zaldK (k := k) X rfl ⟨by omega, by omega⟩ (hw.1 _ _ rfl) dX11_hasOlderStore_26 ?_
          refine rJ_if_eq (tgt := 49) X dX11_hasOlderStore_27 (by decide) (fun c3 => ?_) (fun c3 => ?_)
          · refine rJ_iconst (v := 0) X dX11_hasOlderStore_49 (by decide) ?_
            refine rJ_istore_n X dX11_hasOlderStore_50 rfl (by decide) ?_
            refine rJ_inc (n := 1) (w := 1) X dX11_hasOlderStore_51 rfl (by decide) (by decide) ?_
            rw [nI_1 k]
            refine rJ_goto (tgt := 9) X dX11_hasOlderStore_54 (by decide) ?_
            first
              | exact rJ_lv _ rfl (ih (k + 1) true (by omega) (by omega) (by rw [← he, mOld_step S (k := k) (by omega)]; simp [*]))
              | exact rJ_lv _ rfl (ih (k + 1) false (by omega) (by omega) (by rw [← he, mOld_step S (k := k) (by omega)]; simp [*]))
          · refine rJ_aload_n X dX11_hasOlderStore_30 rfl rfl ?_
            refine rJ_aload_n X dX11_hasOlderStore_31 rfl rfl ?_
            refine rJ_getR X fX11_44 (hw.1 _ _ rfl) (hw.2 _ _ rfl) dX11_hasOlderStore_32 ?_
            refine rJ_iload_n X dX11_hasOlderStore_35 rfl rfl ?_
            refine rJ_ialdK (k := k) X rfl ⟨by omega, by omega⟩ (hw.1 _ _ rfl) dX11_hasOlderStore_36 ?_
            refine rJ_Vi1 X gX11_129 (cM_kindOf hw _ hs h40) (hw.1 _ _ rfl) dX11_hasOlderStore_37 (by decide) (Nat.le_of_ble_eq_true rfl) ⟨Nat.le_refl _, Nat.le_refl _⟩ ?_
            refine rJ_bipush (v := 6) X dX11_hasOlderStore_40 (by decide) ?_
            refine rJ_icmp_ne (tgt := 49) X dX11_hasOlderStore_42 (by decide) (fun c4 => ?_) (fun c4 => ?_)
            · refine rJ_iconst (v := 0) X dX11_hasOlderStore_49 (by decide) ?_
              refine rJ_istore_n X dX11_hasOlderStore_50 rfl (by decide) ?_
              refine rJ_inc (n := 1) (w := 1) X dX11_hasOlderStore_51 rfl (by decide) (by decide) ?_
              rw [nI_1 k]
              refine rJ_goto (tgt := 9) X dX11_hasOlderStore_54 (by decide) ?_
              first
                | exact rJ_lv _ rfl (ih (k + 1) true (by omega) (by omega) (by rw [← he, mOld_step S (k := k) (by omega)]; simp [*]))
                | exact rJ_lv _ rfl (ih (k + 1) false (by omega) (by omega) (by rw [← he, mOld_step S (k := k) (by omega)]; simp [*]))
            · refine rJ_iconst (v := 1) X dX11_hasOlderStore_45 (by decide) ?_
              refine rJ_goto (tgt := 50) X dX11_hasOlderStore_46 (by decide) ?_
              refine rJ_istore_n X dX11_hasOlderStore_50 rfl (by decide) ?_
              refine rJ_inc (n := 1) (w := 1) X dX11_hasOlderStore_51 rfl (by decide) (by decide) ?_
              rw [nI_1 k]
              refine rJ_goto (tgt := 9) X dX11_hasOlderStore_54 (by decide) ?_
              first
                | exact rJ_lv _ rfl (ih (k + 1) true (by omega) (by omega) (by rw [← he, mOld_step S (k := k) (by omega)]; simp [*]))
                | exact rJ_lv _ rfl (ih (k + 1) false (by omega) (by omega) (by rw [← he, mOld_step S (k := k) (by omega)]; simp [*]))
  refine rJ_aload_n X dX11_hasOlderStore_0 rfl rfl ?_
  refine rJ_getI X fX11_140 (hw.1 _ _ rfl) dX11_hasOlderStore_1 ?_
  refine rJ_as (if (decide (¬ S 100 27 = 0)) = true then 1 else 0) (by rcases h27 with h | h <;> simp [h]) ?_
  refine rJ_istore_n X dX11_hasOlderStore_4 rfl (by decide) ?_
  refine rJ_iload_n X dX11_hasOlderStore_5 rfl rfl ?_
  refine rJ_iconst (v := 1) X dX11_hasOlderStore_6 (by decide) ?_
  refine rJ_iadd X dX11_hasOlderStore_7 ?_
  refine rJ_as (nI (s0 + 1)) (nI_1 s0) ?_
  refine rJ_istore_n X dX11_hasOlderStore_8 rfl (by decide) ?_
  exact rJ_lv _ rfl (loop (st + 1) (s0 + 1) _ (by omega) (by omega) rfl)
def mPlace (S : mI) (s0 : Nat) : Int32 := (S 116 s0 + S 110 (S 114 s0).toNatClampNeg) &&& 63
theorem mPlace_nI (S : mI) (s0 : Nat) : ∃ j : Nat, j < 64 ∧ mPlace S s0 = nI j := pk_andE _ 6 rfl
def mLat (S : mI) (s0 : Nat) : Int32 := S 113 ((mPlace S s0).toNatClampNeg % 8)
set_option maxHeartbeats 4000000 in
set_option maxRecDepth 100000 in
theorem cM_placeOf {l : Launch} {D : va_G} {b : Nat} {A : Nat → Nat} {Sh : mS} {S : mI} {G : mP} (hw : okM Sh G) {s0 : Nat} (hs8 : s0 < 8) (hn : vp_in (S 114 s0) 40) : rMet l D b yX11_placeOf cX11_placeOf 2 (some .int) (mR 0) A Sh S G [.ref (A 100), .int (nI s0)] (rPi A Sh (mPlace S s0) S G) := by
  refine rMet_oz RX11 rfl (by decide) (Nat.le_of_ble_eq_true rfl) ?_
  intro p e s m args below meth c Z hZ X hnm
  refine rJ_aload_n X dX11_placeOf_0 rfl rfl ?_
  refine rJ_getR X fX11_51 (hw.1 _ _ rfl) (hw.2 _ _ rfl) dX11_placeOf_1 ?_
  refine rJ_iload_n X dX11_placeOf_4 rfl rfl ?_
  refine rJ_ialdK (k := s0) X rfl ⟨by omega, by omega⟩ (hw.1 _ _ rfl) dX11_placeOf_5 ?_
  refine rJ_aload_n X dX11_placeOf_6 rfl rfl ?_
  refine rJ_getR X fX11_35 (hw.1 _ _ rfl) (hw.2 _ _ rfl) dX11_placeOf_7 ?_
  refine rJ_aload_n X dX11_placeOf_10 rfl rfl ?_
  refine rJ_getR X fX11_44 (hw.1 _ _ rfl) (hw.2 _ _ rfl) dX11_placeOf_11 ?_
  refine rJ_iload_n X dX11_placeOf_14 rfl rfl ?_
  refine rJ_ialdK (k := s0) X rfl ⟨by omega, by omega⟩ (hw.1 _ _ rfl) dX11_placeOf_15 ?_
  refine rJ_iald X (hw.1 _ _ rfl) hn dX11_placeOf_16 ?_
  refine rJ_iadd X dX11_placeOf_17 ?_
  refine rJ_bipush (v := 63) X dX11_placeOf_18 (by decide) ?_
  refine rJ_iand X dX11_placeOf_20 ?_
  exact rJ_iretZ hZ X dX11_placeOf_21 ⟨rfl, rfl, rfl, rfl, rfl⟩
