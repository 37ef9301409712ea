/-! the line's threads: which label stands at a stage, which instruction it has -/
def thG (G : mP) (k : Nat) : Nat := (G 18 k).getD 0
def roG (G : mP) (t : Nat) : Nat := (G t 1).getD 0
abbrev tf (S : mI) (G : mP) (k f : Nat) : Int32 := S (thG G k) f
abbrev ti (S : mI) (G : mP) (k f : Nat) : Int32 := S (roG G (thG G k)) f
def okT (Sh : mS) (S : mI) (G : mP) : Prop := (∀ k, k < 8 → G 18 k = some (thG G k) ∧ Sh (thG G k) = some (0, 5, 0) ∧ (24 ≤ thG G k ∧ thG G k < 32) ∧ G (thG G k) 1 = some (roG G (thG G k)) ∧ Sh (roG G (thG G k)) = some (0, 2, 0) ∧ (roG G (thG G k) = 8 ∨ 32 ≤ roG G (thG G k)) ∧ (tf S G k 0 = 0 ∨ tf S G k 0 = 1)) ∧ ∀ i j, i < 8 → j < 8 → thG G i = thG G j → i = j
theorem okT.g {Sh : mS} {S : mI} {G : mP} (h : okT Sh S G) {k : Nat} (hk : k < 8) : G 18 k = some (thG G k) := (h.1 k hk).1
theorem okT.t {Sh : mS} {S : mI} {G : mP} (h : okT Sh S G) {k : Nat} (hk : k < 8) : Sh (thG G k) = some (0, 5, 0) := (h.1 k hk).2.1
theorem okT.r {Sh : mS} {S : mI} {G : mP} (h : okT Sh S G) {k : Nat} (hk : k < 8) : 24 ≤ thG G k ∧ thG G k < 32 := (h.1 k hk).2.2.1
theorem okT.w {Sh : mS} {S : mI} {G : mP} (h : okT Sh S G) {k : Nat} (hk : k < 8) : G (thG G k) 1 = some (roG G (thG G k)) := (h.1 k hk).2.2.2.1
theorem okT.q {Sh : mS} {S : mI} {G : mP} (h : okT Sh S G) {k : Nat} (hk : k < 8) : Sh (roG G (thG G k)) = some (0, 2, 0) := (h.1 k hk).2.2.2.2.1
theorem okT.p {Sh : mS} {S : mI} {G : mP} (h : okT Sh S G) {k : Nat} (hk : k < 8) : tf S G k 0 = 0 ∨ tf S G k 0 = 1 := (h.1 k hk).2.2.2.2.2.2
set_option maxHeartbeats 4000000 in
set_option maxRecDepth 100000 in
theorem cQ_isLast {l : Launch} {D : va_G} {b : Nat} {A : Nat → Nat} {Sh : mS} {S : mI} {G : mP} (hw : okC Sh G) (ht : okT Sh S G) {st : Nat} (h4 : S 4 1 = nI st) (h8 : st ≤ 8) {s0 : Nat} (hlt : s0 < st) : rMet l D b yX7_isLast cX7_isLast 2 (some .boolean) (mR 1) A Sh S G [.ref (A 14), .int (nI s0)] (rPi A Sh (if s0 + 1 = st then 1 else 0) S G) := by
  refine rMet_oz RX7 rfl (by decide) (Nat.le_of_ble_eq_true rfl) ?_
  intro p e s m args below meth c Z hZ X hnm
  refine rJ_iload_n X dX7_isLast_0 rfl rfl ?_
  refine rJ_iconst (v := 1) X dX7_isLast_1 (by decide) ?_
  refine rJ_iadd X dX7_isLast_2 ?_
  refine rJ_as (nI (s0 + 1)) (nI_1 s0) ?_
  refine rJ_aload_n X dX7_isLast_3 rfl rfl ?_
  refine rJ_getR X fX7_28 (by first | exact hw.1 _ _ rfl | assumption) (by first | exact hw.2 _ _ _ rfl | assumption) dX7_isLast_4 ?_
  refine rJ_Vi0 X gX7_99 (cL_stageCount hw) (by first | exact hw.1 _ _ rfl | assumption) dX7_isLast_7 (by decide) (Nat.le_of_ble_eq_true rfl) ⟨Nat.le_refl _, Nat.le_refl _⟩ ?_
  refine rJ_icmp_lt (tgt := 17) X dX7_isLast_10 (by decide) (fun c1 => ?_) (fun c1 => ?_)
  · rw [h4, nI_ltI (by omega) (by omega)] at c1
    refine rJ_iconst (v := 0) X dX7_isLast_17 (by decide) ?_
    exact rJ_zretZ hZ X dX7_isLast_18 rfl ⟨by clear X hZ; grind, rfl, rfl, rfl, rfl⟩
  · rw [h4, nI_ltI (by omega) (by omega)] at c1
    refine rJ_iconst (v := 1) X dX7_isLast_13 (by decide) ?_
    refine rJ_goto (tgt := 18) X dX7_isLast_14 (by decide) ?_
    exact rJ_zretZ hZ X dX7_isLast_18 rfl ⟨by clear X hZ; grind, rfl, rfl, rfl, rfl⟩
abbrev cCT (S : mI) (G : mP) (k : Nat) (reg : Int32) : Prop := ¬ tf S G k 0 = 0 ∧ ti S G k 1 = reg
def cGvF (S : mI) (G : mP) (reg : Int32) : Nat → Nat → Nat
  | 0, k => k
  | f + 1, k => if cCT S G k reg then k else cGvF S G reg f (k + 1)
abbrev cGv (S : mI) (G : mP) (st : Nat) (reg : Int32) (k : Nat) : Nat := cGvF S G reg (st - k) k
theorem cGv_end (S : mI) (G : mP) (st : Nat) (reg : Int32) : cGv S G st reg st = st := by simp [cGv, cGvF]
theorem cGv_step (S : mI) (G : mP) {st k : Nat} (reg : Int32) (h : k < st) : cGv S G st reg k = if cCT S G k reg then k else cGv S G st reg (k + 1) := by
  have e : st - k = (st - (k + 1)) + 1 := by omega
  show cGvF S G reg (st - k) k = _
  rw [e]
  rfl
theorem cGv_le (S : mI) (G : mP) (st : Nat) (reg : Int32) : ∀ f k, k + f = st → cGvF S G reg f k ≤ st ∧ k ≤ cGvF S G reg f k := by
  intro f
  induction f with
  | zero => intro k h; simp [cGvF]; omega
  | succ f ih =>
    intro k h
    unfold cGvF
    split
    · omega
    · have := ih (k + 1) (by omega); omega
theorem cGv_in (S : mI) (G : mP) {st k : Nat} (reg : Int32) (h : k ≤ st) : cGv S G st reg k ≤ st ∧ k ≤ cGv S G st reg k := cGv_le S G st reg (st - k) k (by omega)
set_option maxHeartbeats 4000000 in
set_option maxRecDepth 100000 in
theorem cQ_writerAhead {l : Launch} {D : va_G} {b : Nat} {A : Nat → Nat} {Sh : mS} {S : mI} {G : mP} (hw : okC Sh G) (ht : okT Sh S G) {st : Nat} (h4 : S 4 1 = nI st) (h8 : st ≤ 8) {s0 : Nat} (hlt : s0 < st) (reg : Int32) : rMet l D b yX7_writerAhead cX7_writerAhead 4 (some .int) (mR 3) A Sh S G [.ref (A 14), .int (nI s0), .int reg] (rPi A Sh (if cGv S G st reg (s0 + 1) = st then -1 else nI (cGv S G st reg (s0 + 1))) S G) := by
  refine rMet_oz RX7 rfl (by decide) (Nat.le_of_ble_eq_true rfl) ?_
  intro p e s m args below meth c Z hZ X hnm
  have loop : ∀ (f k : Nat), k ≤ st → st - k < f → cGv S G st reg k = cGv S G st reg (s0 + 1) → rJ p l e (mR 3) s m args below meth c D vwCl mty b 4 Z 0 0 A Sh S G [(0, .ref (A 14)), (1, .int (nI s0)), (2, .int reg), (3, .int (nI k))] 4 [] := by
    intro f
    induction f with
    | zero => intro k h1 h3; exact absurd h3 (by omega)
    | succ f ih =>
      intro k h1 h3 he
      refine rJ_iload_n X dX7_writerAhead_4 rfl rfl ?_
      refine rJ_aload_n X dX7_writerAhead_5 rfl rfl ?_
      refine rJ_getR X fX7_28 (by first | exact hw.1 _ _ rfl | assumption) (by first | exact hw.2 _ _ _ rfl | assumption) dX7_writerAhead_6 ?_
      refine rJ_Vi0 X gX7_99 (cL_stageCount hw) (hw.1 _ _ rfl) dX7_writerAhead_9 (by decide) (Nat.le_of_ble_eq_true rfl) ⟨Nat.le_refl _, Nat.le_refl _⟩ ?_
      refine rJ_icmp_ge (tgt := 51) X dX7_writerAhead_12 (by decide) (fun a1 => ?_) (fun a1 => ?_)
      · rw [h4, nI_leI (by omega) (by omega)] at a1
        refine rJ_iconst (v := (-1)) X dX7_writerAhead_51 (by decide) ?_
        exact rJ_iretZ hZ X dX7_writerAhead_52 ⟨by rw [← he, show k = st by omega, cGv_end, if_pos rfl], rfl, rfl, rfl, rfl⟩
      · rw [h4, nI_leI (by omega) (by omega)] at a1
        refine rJ_aload_n X dX7_writerAhead_15 rfl rfl ?_
        refine rJ_getR X fX7_20 (by first | exact hw.1 _ _ rfl | assumption) (by first | exact hw.2 _ _ _ rfl | assumption) dX7_writerAhead_16 ?_
        refine rJ_iload_n X dX7_writerAhead_19 rfl rfl ?_
        refine rJ_aaldK (k := k) X rfl (n := 8) ⟨by omega, by decide⟩ (by first | exact hw.1 _ _ rfl | assumption) (ht.g (by omega)) dX7_writerAhead_20 ?_
        refine rJ_Vi0 X gX7_92 (cT_isPresent (ht.t (by omega)) (ht.p (by omega))) (ht.t (by omega)) dX7_writerAhead_21 (by decide) (Nat.le_of_ble_eq_true rfl) ⟨Nat.le_refl _, Nat.le_refl _⟩ ?_
        refine rJ_if_eq (tgt := 45) X dX7_writerAhead_24 (by decide) (fun a2 => ?_) (fun a2 => ?_)
        · try replace a2 := z_f a2
          refine rJ_inc (n := 1) (w := 1) X dX7_writerAhead_45 rfl (by decide) (by decide) ?_
          rw [nI_1 k]
          refine rJ_goto (tgt := 4) X dX7_writerAhead_48 (by decide) ?_
          exact rJ_lv _ rfl (ih (k + 1) (by omega) (by omega) (by rw [← he, cGv_step S G (k := k) reg (by omega), if_neg (by first | exact fun q => q.1 a2 | exact fun q => a3 q.2)]))
        · try replace a2 := z_t a2
          refine rJ_aload_n X dX7_writerAhead_27 rfl rfl ?_
          refine rJ_getR X fX7_20 (by first | exact hw.1 _ _ rfl | assumption) (by first | exact hw.2 _ _ _ rfl | assumption) dX7_writerAhead_28 ?_
          refine rJ_iload_n X dX7_writerAhead_31 rfl rfl ?_
          refine rJ_aaldK (k := k) X rfl (n := 8) ⟨by omega, by decide⟩ (by first | exact hw.1 _ _ rfl | assumption) (ht.g (by omega)) dX7_writerAhead_32 ?_
          refine rJ_Vr0 X gX7_119 (cT_instruction (ht.t (by omega)) (ht.w (by omega)) (ht.q (by omega))) (ht.t (by omega)) dX7_writerAhead_33 (by decide) (Nat.le_of_ble_eq_true rfl) ⟨Nat.le_refl _, Nat.le_refl _⟩ ?_
          refine rJ_iload_n X dX7_writerAhead_36 rfl rfl ?_
          refine rJ_Vi1 X gX7_172 (cI_commitsTo (ht.q (by omega)) _) (ht.q (by omega)) dX7_writerAhead_37 (by decide) (Nat.le_of_ble_eq_true rfl) ⟨Nat.le_refl _, Nat.le_refl _⟩ ?_
          refine rJ_if_eq (tgt := 45) X dX7_writerAhead_40 (by decide) (fun a3 => ?_) (fun a3 => ?_)
          · try replace a3 := z_f a3
            refine rJ_inc (n := 1) (w := 1) X dX7_writerAhead_45 rfl (by decide) (by decide) ?_
            rw [nI_1 k]
            refine rJ_goto (tgt := 4) X dX7_writerAhead_48 (by decide) ?_
            exact rJ_lv _ rfl (ih (k + 1) (by omega) (by omega) (by rw [← he, cGv_step S G (k := k) reg (by omega), if_neg (by first | exact fun q => q.1 a2 | exact fun q => a3 q.2)]))
          · try replace a3 := z_t a3
            refine rJ_iload_n X dX7_writerAhead_43 rfl rfl ?_
            exact rJ_iretZ hZ X dX7_writerAhead_44 ⟨by rw [show cGv S G st reg (s0 + 1) = k by rw [← he, cGv_step S G reg (by omega), if_pos ⟨a2, a3⟩], if_neg (by omega)], rfl, rfl, rfl, rfl⟩
  refine rJ_iload_n X dX7_writerAhead_0 rfl rfl ?_
  refine rJ_iconst (v := 1) X dX7_writerAhead_1 (by decide) ?_
  refine rJ_iadd X dX7_writerAhead_2 ?_
  refine rJ_as (nI (s0 + 1)) (nI_1 s0) ?_
  refine rJ_istore_n X dX7_writerAhead_3 rfl (by decide) ?_
  exact rJ_lv _ rfl (loop (st + 1) (s0 + 1) (by omega) (by omega) rfl)
def cRdy (S : mI) (G : mP) (st s0 : Nat) (reg : Int32) : Bool := if cGv S G st reg (s0 + 1) = st then decide (¬ ((0 ≤ reg ∧ reg < 8) ∧ S 19 reg.toNatClampNeg = S 14 9)) else decide (¬ tf S G (cGv S G st reg (s0 + 1)) 6 = 0 ∧ tf S G (cGv S G st reg (s0 + 1)) 6 < S 14 9)
theorem nI_m1 {k : Nat} (h : k < 2147483648) : ¬ nI k = -1 := by
  rw [i_eq, i_nI h]
  show ¬ (k : Int) = -1
  omega
set_option maxHeartbeats 4000000 in
set_option maxRecDepth 100000 in
theorem cQ_isReady {l : Launch} {D : va_G} {b : Nat} {A : Nat → Nat} {Sh : mS} {S : mI} {G : mP} (hw : okC Sh G) (ht : okT Sh S G) {st : Nat} (h4 : S 4 1 = nI st) (h8 : st ≤ 8) {s0 : Nat} (hlt : s0 < st) (reg : Int32) : rMet l D b yX7_isReady cX7_isReady 4 (some .boolean) (mR 4) A Sh S G [.ref (A 14), .int (nI s0), .int reg] (rPi A Sh (if cRdy S G st s0 reg = true then 1 else 0) S G) := by
  refine rMet_oz RX7 rfl (by decide) (Nat.le_of_ble_eq_true rfl) ?_
  intro p e s m args below meth c Z hZ X hnm
  have hg := cGv_in S G (k := s0 + 1) reg (st := st) (by omega)
  by_cases hgs : cGv S G st reg (s0 + 1) = st
  · refine rJ_aload_n X dX7_isReady_0 rfl rfl ?_
    refine rJ_iload_n X dX7_isReady_1 rfl rfl ?_
    refine rJ_iload_n X dX7_isReady_2 rfl rfl ?_
    refine rJ_Vi2 X gX7_162 (cQ_writerAhead hw ht h4 h8 hlt _) (by first | exact hw.1 _ _ rfl | assumption) dX7_isReady_3 (by decide) (Nat.le_of_ble_eq_true rfl) ⟨Nat.le_refl _, Nat.le_refl _⟩ ?_
    rw [if_pos hgs]
    refine rJ_istore_n X dX7_isReady_6 rfl (by decide) ?_
    refine rJ_iload_n X dX7_isReady_7 rfl rfl ?_
    refine rJ_iconst (v := (-1)) X dX7_isReady_8 (by decide) ?_
    refine rJ_icmp_eq (tgt := 26) X dX7_isReady_9 (by decide) (fun a1 => ?_) (fun a1 => ?_)
    · refine rJ_iload_n X dX7_isReady_26 rfl rfl ?_
      refine rJ_Ni1 X gX7_169 (cC_isRegister _) dX7_isReady_27 (by decide) (Nat.le_of_ble_eq_true rfl) ⟨Nat.le_refl _, Nat.le_refl _⟩ ?_
      refine rJ_if_eq (tgt := 46) X dX7_isReady_30 (by decide) (fun a2 => ?_) (fun a2 => ?_)
      · try replace a2 := z_f a2
        refine rJ_iconst (v := 1) X dX7_isReady_46 (by decide) ?_
        refine rJ_goto (tgt := 51) X dX7_isReady_47 (by decide) ?_
        exact rJ_zretZ hZ X dX7_isReady_51 rfl ⟨by rw [cRdy, if_pos hgs]; clear X hZ; grind, rfl, rfl, rfl, rfl⟩
      · try replace a2 := z_t a2
        refine rJ_aload_n X dX7_isReady_33 rfl rfl ?_
        refine rJ_getR X fX7_24 (by first | exact hw.1 _ _ rfl | assumption) (by first | exact hw.2 _ _ _ rfl | assumption) dX7_isReady_34 ?_
        refine rJ_iload_n X dX7_isReady_37 rfl rfl ?_
        refine rJ_iald X (by first | exact hw.1 _ _ rfl | assumption) (in_lt2 a2 (by decide)) dX7_isReady_38 ?_
        refine rJ_aload_n X dX7_isReady_39 rfl rfl ?_
        refine rJ_getI X fX7_79 (by first | exact hw.1 _ _ rfl | assumption) dX7_isReady_40 ?_
        refine rJ_icmp_eq (tgt := 50) X dX7_isReady_43 (by decide) (fun a3 => ?_) (fun a3 => ?_)
        · refine rJ_iconst (v := 0) X dX7_isReady_50 (by decide) ?_
          exact rJ_zretZ hZ X dX7_isReady_51 rfl ⟨by rw [cRdy, if_pos hgs]; clear X hZ; grind, rfl, rfl, rfl, rfl⟩
        · refine rJ_iconst (v := 1) X dX7_isReady_46 (by decide) ?_
          refine rJ_goto (tgt := 51) X dX7_isReady_47 (by decide) ?_
          exact rJ_zretZ hZ X dX7_isReady_51 rfl ⟨by rw [cRdy, if_pos hgs]; clear X hZ; grind, rfl, rfl, rfl, rfl⟩
    · exact absurd rfl a1
  · refine rJ_aload_n X dX7_isReady_0 rfl rfl ?_
    refine rJ_iload_n X dX7_isReady_1 rfl rfl ?_
    refine rJ_iload_n X dX7_isReady_2 rfl rfl ?_
    refine rJ_Vi2 X gX7_162 (cQ_writerAhead hw ht h4 h8 hlt _) (by first | exact hw.1 _ _ rfl | assumption) dX7_isReady_3 (by decide) (Nat.le_of_ble_eq_true rfl) ⟨Nat.le_refl _, Nat.le_refl _⟩ ?_
    rw [if_neg hgs]
    refine rJ_istore_n X dX7_isReady_6 rfl (by decide) ?_
    refine rJ_iload_n X dX7_isReady_7 rfl rfl ?_
    refine rJ_iconst (v := (-1)) X dX7_isReady_8 (by decide) ?_
    refine rJ_icmp_eq (tgt := 26) X dX7_isReady_9 (by decide) (fun a1 => ?_) (fun a1 => ?_)
    · exact absurd a1 (nI_m1 (by omega))
    · refine rJ_aload_n X dX7_isReady_12 rfl rfl ?_
      refine rJ_getR X fX7_20 (by first | exact hw.1 _ _ rfl | assumption) (by first | exact hw.2 _ _ _ rfl | assumption) dX7_isReady_13 ?_
      refine rJ_iload_n X dX7_isReady_16 rfl rfl ?_
      refine rJ_aaldK (k := cGv S G st reg (s0 + 1)) X rfl (n := 8) ⟨by omega, by decide⟩ (by first | exact hw.1 _ _ rfl | assumption) (ht.g (by omega)) dX7_isReady_17 ?_
      refine rJ_aload_n X dX7_isReady_18 rfl rfl ?_
      refine rJ_getI X fX7_79 (by first | exact hw.1 _ _ rfl | assumption) dX7_isReady_19 ?_
      refine rJ_Vi1 X gX7_166 (cT_gaveBefore (ht.t (by omega)) _) (ht.t (by omega)) dX7_isReady_22 (by decide) (Nat.le_of_ble_eq_true rfl) ⟨Nat.le_refl _, Nat.le_refl _⟩ ?_
      exact rJ_zretZ hZ X dX7_isReady_25 z_n ⟨by rw [cRdy, if_neg hgs]; simp, rfl, rfl, rfl, rfl⟩
abbrev cR2 (k : Int32) : Prop := mR1 k ∧ ¬ k = 5 ∧ ¬ k = 8
def cMr (S : mI) (G : mP) (st s0 q : Nat) : Bool := decide (¬ (mR1 (S q 0) ∧ ¬ cRdy S G st s0 (S q 2) = true)) && decide (¬ (cR2 (S q 0) ∧ ¬ cRdy S G st s0 (S q 3) = true))
set_option maxHeartbeats 4000000 in
set_option maxRecDepth 100000 in
theorem cQ_mayRead {l : Launch} {D : va_G} {b : Nat} {A : Nat → Nat} {Sh : mS} {S : mI} {G : mP} (hw : okC Sh G) (ht : okT Sh S G) {st : Nat} (h4 : S 4 1 = nI st) (h8 : st ≤ 8) {s0 : Nat} (hlt : s0 < st) {q : Nat} (hq : Sh q = some (0, 2, 0)) : rMet l D b yX7_mayRead cX7_mayRead 3 (some .boolean) (mR 5) A Sh S G [.ref (A 14), .int (nI s0), .ref (A q)] (rPi A Sh (if cMr S G st s0 q = true then 1 else 0) S G) := by
  refine rMet_oz RX7 rfl (by decide) (Nat.le_of_ble_eq_true rfl) ?_
  intro p e s m args below meth c Z hZ X hnm
  refine rJ_aload_n X dX7_mayRead_0 rfl rfl ?_
  refine rJ_Vi0 X gX7_147 (cI_readsLeft hq) hq dX7_mayRead_1 (by decide) (Nat.le_of_ble_eq_true rfl) ⟨Nat.le_refl _, Nat.le_refl _⟩ ?_
  refine rJ_if_eq (tgt := 21) X dX7_mayRead_4 (by decide) (fun c1 => ?_) (fun c1 => ?_)
  · try replace c1 := z_f c1
    refine rJ_aload_n X dX7_mayRead_21 rfl rfl ?_
    refine rJ_Vi0 X gX7_156 (cI_readsRight hq) hq dX7_mayRead_22 (by decide) (Nat.le_of_ble_eq_true rfl) ⟨Nat.le_refl _, Nat.le_refl _⟩ ?_
    refine rJ_if_eq (tgt := 40) X dX7_mayRead_25 (by decide) (fun c2 => ?_) (fun c2 => ?_)
    · try replace c2 := z_f c2
      refine rJ_iconst (v := 1) X dX7_mayRead_40 (by decide) ?_
      refine rJ_goto (tgt := 45) X dX7_mayRead_41 (by decide) ?_
      exact rJ_zretZ hZ X dX7_mayRead_45 rfl ⟨by clear X hZ; simp only [cMr]; grind, rfl, rfl, rfl, rfl⟩
    · try replace c2 := z_t c2
      refine rJ_aload_n X dX7_mayRead_28 rfl rfl ?_
      refine rJ_iload_n X dX7_mayRead_29 rfl rfl ?_
      refine rJ_aload_n X dX7_mayRead_30 rfl rfl ?_
      refine rJ_Vi0 X gX7_159 (cI_right hq) hq dX7_mayRead_31 (by decide) (Nat.le_of_ble_eq_true rfl) ⟨Nat.le_refl _, Nat.le_refl _⟩ ?_
      refine rJ_Vi2 X gX7_153 (cQ_isReady hw ht h4 h8 hlt _) (by first | exact hw.1 _ _ rfl | assumption) dX7_mayRead_34 (by decide) (Nat.le_of_ble_eq_true rfl) ⟨Nat.le_refl _, Nat.le_refl _⟩ ?_
      refine rJ_if_eq (tgt := 44) X dX7_mayRead_37 (by decide) (fun c3 => ?_) (fun c3 => ?_)
      · try replace c3 := z_f c3
        refine rJ_iconst (v := 0) X dX7_mayRead_44 (by decide) ?_
        exact rJ_zretZ hZ X dX7_mayRead_45 rfl ⟨by clear X hZ; simp only [cMr]; grind, rfl, rfl, rfl, rfl⟩
      · try replace c3 := z_t c3
        refine rJ_iconst (v := 1) X dX7_mayRead_40 (by decide) ?_
        refine rJ_goto (tgt := 45) X dX7_mayRead_41 (by decide) ?_
        exact rJ_zretZ hZ X dX7_mayRead_45 rfl ⟨by clear X hZ; simp only [cMr]; grind, rfl, rfl, rfl, rfl⟩
  · try replace c1 := z_t c1
    refine rJ_aload_n X dX7_mayRead_7 rfl rfl ?_
    refine rJ_iload_n X dX7_mayRead_8 rfl rfl ?_
    refine rJ_aload_n X dX7_mayRead_9 rfl rfl ?_
    refine rJ_Vi0 X gX7_150 (cI_left hq) hq dX7_mayRead_10 (by decide) (Nat.le_of_ble_eq_true rfl) ⟨Nat.le_refl _, Nat.le_refl _⟩ ?_
    refine rJ_Vi2 X gX7_153 (cQ_isReady hw ht h4 h8 hlt _) (by first | exact hw.1 _ _ rfl | assumption) dX7_mayRead_13 (by decide) (Nat.le_of_ble_eq_true rfl) ⟨Nat.le_refl _, Nat.le_refl _⟩ ?_
    refine rJ_if_ne (tgt := 21) X dX7_mayRead_16 (by decide) (fun c4 => ?_) (fun c4 => ?_)
    · try replace c4 := z_t c4
      refine rJ_aload_n X dX7_mayRead_21 rfl rfl ?_
      refine rJ_Vi0 X gX7_156 (cI_readsRight hq) hq dX7_mayRead_22 (by decide) (Nat.le_of_ble_eq_true rfl) ⟨Nat.le_refl _, Nat.le_refl _⟩ ?_
      refine rJ_if_eq (tgt := 40) X dX7_mayRead_25 (by decide) (fun c5 => ?_) (fun c5 => ?_)
      · try replace c5 := z_f c5
        refine rJ_iconst (v := 1) X dX7_mayRead_40 (by decide) ?_
        refine rJ_goto (tgt := 45) X dX7_mayRead_41 (by decide) ?_
        exact rJ_zretZ hZ X dX7_mayRead_45 rfl ⟨by clear X hZ; simp only [cMr]; grind, rfl, rfl, rfl, rfl⟩
      · try replace c5 := z_t c5
        refine rJ_aload_n X dX7_mayRead_28 rfl rfl ?_
        refine rJ_iload_n X dX7_mayRead_29 rfl rfl ?_
        refine rJ_aload_n X dX7_mayRead_30 rfl rfl ?_
        refine rJ_Vi0 X gX7_159 (cI_right hq) hq dX7_mayRead_31 (by decide) (Nat.le_of_ble_eq_true rfl) ⟨Nat.le_refl _, Nat.le_refl _⟩ ?_
        refine rJ_Vi2 X gX7_153 (cQ_isReady hw ht h4 h8 hlt _) (by first | exact hw.1 _ _ rfl | assumption) dX7_mayRead_34 (by decide) (Nat.le_of_ble_eq_true rfl) ⟨Nat.le_refl _, Nat.le_refl _⟩ ?_
        refine rJ_if_eq (tgt := 44) X dX7_mayRead_37 (by decide) (fun c6 => ?_) (fun c6 => ?_)
        · try replace c6 := z_f c6
          refine rJ_iconst (v := 0) X dX7_mayRead_44 (by decide) ?_
          exact rJ_zretZ hZ X dX7_mayRead_45 rfl ⟨by clear X hZ; simp only [cMr]; grind, rfl, rfl, rfl, rfl⟩
        · try replace c6 := z_t c6
          refine rJ_iconst (v := 1) X dX7_mayRead_40 (by decide) ?_
          refine rJ_goto (tgt := 45) X dX7_mayRead_41 (by decide) ?_
          exact rJ_zretZ hZ X dX7_mayRead_45 rfl ⟨by clear X hZ; simp only [cMr]; grind, rfl, rfl, rfl, rfl⟩
    · try replace c4 := z_f c4
      refine rJ_iconst (v := 0) X dX7_mayRead_19 (by decide) ?_
      exact rJ_zretZ hZ X dX7_mayRead_20 rfl ⟨by clear X hZ; simp only [cMr]; grind, rfl, rfl, rfl, rfl⟩
def cOldF (S : mI) (G : mP) : Nat → Nat → Bool
  | 0, _ => decide (S 14 7 = S 14 9)
  | f + 1, k => decide (¬ tf S G k 0 = 0 ∧ ti S G k 0 = 6) || cOldF S G f (k + 1)
theorem cOld_step (S : mI) (G : mP) {st k : Nat} (h : k < st) : cOldF S G (st - k) k = (decide (¬ tf S G k 0 = 0 ∧ ti S G k 0 = 6) || cOldF S G (st - (k + 1)) (k + 1)) := by
  have e : st - k = (st - (k + 1)) + 1 := by omega
  rw [e]
  rfl
abbrev cOld (S : mI) (G : mP) (st s0 : Nat) : Bool := cOldF S G (st - (s0 + 1)) (s0 + 1)
set_option maxHeartbeats 4000000 in
set_option maxRecDepth 100000 in
theorem cQ_isStoreAhead {l : Launch} {D : va_G} {b : Nat} {A : Nat → Nat} {Sh : mS} {S : mI} {G : mP} (hw : okC Sh G) (ht : okT Sh S G) {st : Nat} (h4 : S 4 1 = nI st) (h8 : st ≤ 8) {s0 : Nat} (hlt : s0 < st) : rMet l D b yX7_isStoreAhead cX7_isStoreAhead 3 (some .boolean) (mR 1) A Sh S G [.ref (A 14), .int (nI s0)] (rPi A Sh (if cOld S G st s0 = true then 1 else 0) S G) := by
  refine rMet_oz RX7 rfl (by decide) (Nat.le_of_ble_eq_true rfl) ?_
  intro p e s m args below meth c Z hZ X hnm
  have loop : ∀ (f k : Nat), k ≤ st → st - k < f → cOldF S G (st - k) k = cOld S G st s0 → rJ p l e (mR 1) s m args below meth c D vwCl mty b 3 Z 0 0 A Sh S G [(0, .ref (A 14)), (1, .int (nI s0)), (2, .int (nI k))] 4 [] := by
    intro f
    induction f with
    | zero => intro k h1 h3; exact absurd h3 (by omega)
    | succ f ih =>
      intro k h1 h3 he
      refine rJ_iload_n X dX7_isStoreAhead_4 rfl rfl ?_
      refine rJ_aload_n X dX7_isStoreAhead_5 rfl rfl ?_
      refine rJ_getR X fX7_28 (by first | exact hw.1 _ _ rfl | assumption) (by first | exact hw.2 _ _ _ rfl | assumption) dX7_isStoreAhead_6 ?_
      refine rJ_Vi0 X gX7_99 (cL_stageCount hw) (hw.1 _ _ rfl) dX7_isStoreAhead_9 (by decide) (Nat.le_of_ble_eq_true rfl) ⟨Nat.le_refl _, Nat.le_refl _⟩ ?_
      refine rJ_icmp_ge (tgt := 52) X dX7_isStoreAhead_12 (by decide) (fun a1 => ?_) (fun a1 => ?_)
      · rw [h4, nI_leI (by omega) (by omega)] at a1
        refine rJ_aload_n X dX7_isStoreAhead_52 rfl rfl ?_
        refine rJ_getI X fX7_72 (by first | exact hw.1 _ _ rfl | assumption) dX7_isStoreAhead_53 ?_
        refine rJ_aload_n X dX7_isStoreAhead_56 rfl rfl ?_
        refine rJ_getI X fX7_79 (by first | exact hw.1 _ _ rfl | assumption) dX7_isStoreAhead_57 ?_
        refine rJ_icmp_ne (tgt := 67) X dX7_isStoreAhead_60 (by decide) (fun a2 => ?_) (fun a2 => ?_)
        · refine rJ_iconst (v := 0) X dX7_isStoreAhead_67 (by decide) ?_
          exact rJ_zretZ hZ X dX7_isStoreAhead_68 rfl ⟨by rw [← he, show st - k = 0 by omega, cOldF]; clear X hZ; grind, rfl, rfl, rfl, rfl⟩
        · refine rJ_iconst (v := 1) X dX7_isStoreAhead_63 (by decide) ?_
          refine rJ_goto (tgt := 68) X dX7_isStoreAhead_64 (by decide) ?_
          exact rJ_zretZ hZ X dX7_isStoreAhead_68 rfl ⟨by rw [← he, show st - k = 0 by omega, cOldF]; clear X hZ; grind, rfl, rfl, rfl, rfl⟩
      · rw [h4, nI_leI (by omega) (by omega)] at a1
        refine rJ_aload_n X dX7_isStoreAhead_15 rfl rfl ?_
        refine rJ_getR X fX7_20 (by first | exact hw.1 _ _ rfl | assumption) (by first | exact hw.2 _ _ _ rfl | assumption) dX7_isStoreAhead_16 ?_
        refine rJ_iload_n X dX7_isStoreAhead_19 rfl rfl ?_
        refine rJ_aaldK (k := k) X rfl (n := 8) ⟨by omega, by decide⟩ (by first | exact hw.1 _ _ rfl | assumption) (ht.g (by omega)) dX7_isStoreAhead_20 ?_
        refine rJ_Vi0 X gX7_92 (cT_isPresent (ht.t (by omega)) (ht.p (by omega))) (ht.t (by omega)) dX7_isStoreAhead_21 (by decide) (Nat.le_of_ble_eq_true rfl) ⟨Nat.le_refl _, Nat.le_refl _⟩ ?_
        refine rJ_if_eq (tgt := 46) X dX7_isStoreAhead_24 (by decide) (fun a3 => ?_) (fun a3 => ?_)
        · try replace a3 := z_f a3
          refine rJ_inc (n := 1) (w := 1) X dX7_isStoreAhead_46 rfl (by decide) (by decide) ?_
          rw [nI_1 k]
          refine rJ_goto (tgt := 4) X dX7_isStoreAhead_49 (by decide) ?_
          exact rJ_lv _ rfl (ih (k + 1) (by omega) (by omega) (by rw [← he, cOld_step S G (k := k) (by omega)]; simp [*]))
        · try replace a3 := z_t a3
          refine rJ_aload_n X dX7_isStoreAhead_27 rfl rfl ?_
          refine rJ_getR X fX7_20 (by first | exact hw.1 _ _ rfl | assumption) (by first | exact hw.2 _ _ _ rfl | assumption) dX7_isStoreAhead_28 ?_
          refine rJ_iload_n X dX7_isStoreAhead_31 rfl rfl ?_
          refine rJ_aaldK (k := k) X rfl (n := 8) ⟨by omega, by decide⟩ (by first | exact hw.1 _ _ rfl | assumption) (ht.g (by omega)) dX7_isStoreAhead_32 ?_
          refine rJ_Vr0 X gX7_119 (cT_instruction (ht.t (by omega)) (ht.w (by omega)) (ht.q (by omega))) (ht.t (by omega)) dX7_isStoreAhead_33 (by decide) (Nat.le_of_ble_eq_true rfl) ⟨Nat.le_refl _, Nat.le_refl _⟩ ?_
          refine rJ_Vi0 X gX7_127 (cI_kind (ht.q (by omega))) (ht.q (by omega)) dX7_isStoreAhead_36 (by decide) (Nat.le_of_ble_eq_true rfl) ⟨Nat.le_refl _, Nat.le_refl _⟩ ?_
          refine rJ_bipush (v := 6) X dX7_isStoreAhead_39 (by decide) ?_
          refine rJ_icmp_ne (tgt := 46) X dX7_isStoreAhead_41 (by decide) (fun a4 => ?_) (fun a4 => ?_)
          · refine rJ_inc (n := 1) (w := 1) X dX7_isStoreAhead_46 rfl (by decide) (by decide) ?_
            rw [nI_1 k]
            refine rJ_goto (tgt := 4) X dX7_isStoreAhead_49 (by decide) ?_
            exact rJ_lv _ rfl (ih (k + 1) (by omega) (by omega) (by rw [← he, cOld_step S G (k := k) (by omega)]; simp [*]))
          · refine rJ_iconst (v := 1) X dX7_isStoreAhead_44 (by decide) ?_
            exact rJ_zretZ hZ X dX7_isStoreAhead_45 rfl ⟨by rw [← he, cOld_step S G (k := k) (by omega)]; simp [*], rfl, rfl, rfl, rfl⟩
  refine rJ_iload_n X dX7_isStoreAhead_0 rfl rfl ?_
  refine rJ_iconst (v := 1) X dX7_isStoreAhead_1 (by decide) ?_
  refine rJ_iadd X dX7_isStoreAhead_2 ?_
  refine rJ_as (nI (s0 + 1)) (nI_1 s0) ?_
  refine rJ_istore_n X dX7_isStoreAhead_3 rfl (by decide) ?_
  exact rJ_lv _ rfl (loop (st + 1) (s0 + 1) (by omega) (by omega) rfl)
def cPl (S : mI) (G : mP) (k : Nat) : Int32 := (tf S G k 2 + ti S G k 4) &&& 63
theorem cPl_nI (S : mI) (G : mP) (k : Nat) : ∃ j : Nat, j < 64 ∧ cPl S G k = nI j := pk_andE _ 6 rfl
def cMay (S : mI) (G : mP) (st s0 : Nat) : Bool :=
  if ¬ s0 + 1 = st ∧ ¬ tf S G (s0 + 1) 0 = 0 then false
  else if S 5 1 = nI s0 ∧ ¬ cMr S G st s0 (roG G (thG G s0)) = true then false
  else if ¬ ti S G s0 0 = 5 then true
  else if S 5 4 = nI s0 ∧ cOld S G st s0 = true then false
  else decide (¬ S 5 5 = nI s0 ∨ S 11 ((cPl S G s0).toNatClampNeg % 8) ≤ S 14 9 - tf S G s0 5)
theorem cStg_n (S : mI) (k : Nat) (h : k < 8) : cStg S (nI k) = S 5 k := by
  have h1 : 0 ≤ nI k ∧ nI k < 8 := ⟨nI_pos' (by omega), by rw [show (8 : Int32) = nI 8 from rfl]; exact nI_lt h (by decide)⟩
  rw [cStg, if_pos h1, nI_clamp (by omega)]
set_option maxHeartbeats 4000000 in
set_option maxRecDepth 100000 in
theorem cQ_mayFire {l : Launch} {D : va_G} {b : Nat} {A : Nat → Nat} {Sh : mS} {S : mI} {G : mP} (hw : okC Sh G) (ht : okT Sh S G) {st : Nat} (h4 : S 4 1 = nI st) (h8 : st ≤ 8) {s0 : Nat} (hlt : s0 < st) : rMet l D b yX7_mayFire cX7_mayFire 3 (some .boolean) (mR 6) A Sh S G [.ref (A 14), .int (nI s0)] (rPi A Sh (if cMay S G st s0 = true then 1 else 0) S G) := by
  refine rMet_oz RX7 rfl (by decide) (Nat.le_of_ble_eq_true rfl) ?_
  intro p e s m args below meth c Z hZ X hnm
  have K92 : (¬ (¬ s0 + 1 = st ∧ ¬ tf S G (s0 + 1) 0 = 0)) → (¬ (S 5 1 = nI s0 ∧ ¬ cMr S G st s0 (roG G (thG G s0)) = true)) → ti S G s0 0 = 5 → (¬ (S 5 4 = nI s0 ∧ cOld S G st s0 = true)) → rJ p l e (mR 6) s m args below meth c D vwCl mty b 3 Z 0 0 A Sh S G [(0, .ref (A 14)), (1, .int (nI s0)), (2, .ref (A (thG G s0)))] 92 [] := by
    intro k1 k2 k3 k4
    refine rJ_aload_n X dX7_mayFire_92 rfl rfl ?_
    refine rJ_getR X fX7_28 (by first | exact hw.1 _ _ rfl | assumption) (by first | exact hw.2 _ _ _ rfl | assumption) dX7_mayFire_93 ?_
    refine rJ_iconst (v := 5) X dX7_mayFire_96 (by decide) ?_
    refine rJ_as (nI 5) rfl ?_
    refine rJ_iload_n X dX7_mayFire_97 rfl rfl ?_
    refine rJ_Vi2 X gX7_115 (cL_has hw (nI 5) (nI s0)) (by first | exact hw.1 _ _ rfl | assumption) dX7_mayFire_98 (by decide) (Nat.le_of_ble_eq_true rfl) ⟨Nat.le_refl _, Nat.le_refl _⟩ ?_
    refine rJ_if_eq (tgt := 126) X dX7_mayFire_101 (by decide) (fun a1 => ?_) (fun a1 => ?_)
    · try replace a1 := z_f a1
      rw [cStg_n S 5 (by decide)] at a1
      refine rJ_iconst (v := 1) X dX7_mayFire_126 (by decide) ?_
      refine rJ_goto (tgt := 131) X dX7_mayFire_127 (by decide) ?_
      exact rJ_zretZ hZ X dX7_mayFire_131 rfl ⟨by clear X hZ; simp only [cMay]; grind, rfl, rfl, rfl, rfl⟩
    · try replace a1 := z_t a1
      rw [cStg_n S 5 (by decide)] at a1
      refine rJ_aload_n X dX7_mayFire_104 rfl rfl ?_
      refine rJ_aload_n X dX7_mayFire_105 rfl rfl ?_
      refine rJ_getI X fX7_79 (by first | exact hw.1 _ _ rfl | assumption) dX7_mayFire_106 ?_
      refine rJ_aload_n X dX7_mayFire_109 rfl rfl ?_
      refine rJ_getR X fX7_36 (by first | exact hw.1 _ _ rfl | assumption) (by first | exact hw.2 _ _ _ rfl | assumption) dX7_mayFire_110 ?_
      refine rJ_aload_n X dX7_mayFire_113 rfl rfl ?_
      refine rJ_Vi0 X gX7_135 (cT_asksPlace (ht.t (by omega)) (ht.w (by omega)) (ht.q (by omega))) (ht.t (by omega)) dX7_mayFire_114 (by decide) (Nat.le_of_ble_eq_true rfl) ⟨Nat.le_refl _, Nat.le_refl _⟩ ?_
      obtain ⟨j, hj, ej⟩ := cPl_nI S G s0
      refine rJ_as (nI j) ej ?_
      refine rJ_Vi1 X gX7_138 (cS_delayOf hw hj) (by first | exact hw.1 _ _ rfl | assumption) dX7_mayFire_117 (by decide) (Nat.le_of_ble_eq_true rfl) ⟨Nat.le_refl _, Nat.le_refl _⟩ ?_
      refine rJ_Vi2 X gX7_144 (cT_isAnswered (ht.t (by omega)) _ _) (ht.t (by omega)) dX7_mayFire_120 (by decide) (Nat.le_of_ble_eq_true rfl) ⟨Nat.le_refl _, Nat.le_refl _⟩ ?_
      refine rJ_if_eq (tgt := 130) X dX7_mayFire_123 (by decide) (fun a2 => ?_) (fun a2 => ?_)
      · try replace a2 := z_f a2
        refine rJ_iconst (v := 0) X dX7_mayFire_130 (by decide) ?_
        exact rJ_zretZ hZ X dX7_mayFire_131 rfl ⟨by simp only [cMay, ej, nI_clamp (show j < 2 ^ 31 by omega)]; clear X hZ; grind, rfl, rfl, rfl, rfl⟩
      · try replace a2 := z_t a2
        refine rJ_iconst (v := 1) X dX7_mayFire_126 (by decide) ?_
        refine rJ_goto (tgt := 131) X dX7_mayFire_127 (by decide) ?_
        exact rJ_zretZ hZ X dX7_mayFire_131 rfl ⟨by simp only [cMay, ej, nI_clamp (show j < 2 ^ 31 by omega)]; clear X hZ; grind, rfl, rfl, rfl, rfl⟩
  have K57 : (¬ (¬ s0 + 1 = st ∧ ¬ tf S G (s0 + 1) 0 = 0)) → (¬ (S 5 1 = nI s0 ∧ ¬ cMr S G st s0 (roG G (thG G s0)) = true)) → rJ p l e (mR 6) s m args below meth c D vwCl mty b 3 Z 0 0 A Sh S G [(0, .ref (A 14)), (1, .int (nI s0)), (2, .ref (A (thG G s0)))] 57 [] := by
    intro k1 k2
    refine rJ_aload_n X dX7_mayFire_57 rfl rfl ?_
    refine rJ_Vr0 X gX7_119 (cT_instruction (ht.t (by omega)) (ht.w (by omega)) (ht.q (by omega))) (ht.t (by omega)) dX7_mayFire_58 (by decide) (Nat.le_of_ble_eq_true rfl) ⟨Nat.le_refl _, Nat.le_refl _⟩ ?_
    refine rJ_Vi0 X gX7_127 (cI_kind (ht.q (by omega))) (ht.q (by omega)) dX7_mayFire_61 (by decide) (Nat.le_of_ble_eq_true rfl) ⟨Nat.le_refl _, Nat.le_refl _⟩ ?_
    refine rJ_iconst (v := 5) X dX7_mayFire_64 (by decide) ?_
    refine rJ_icmp_eq (tgt := 70) X dX7_mayFire_65 (by decide) (fun a1 => ?_) (fun a1 => ?_)
    · refine rJ_aload_n X dX7_mayFire_70 rfl rfl ?_
      refine rJ_getR X fX7_28 (by first | exact hw.1 _ _ rfl | assumption) (by first | exact hw.2 _ _ _ rfl | assumption) dX7_mayFire_71 ?_
      refine rJ_iconst (v := 4) X dX7_mayFire_74 (by decide) ?_
      refine rJ_as (nI 4) rfl ?_
      refine rJ_iload_n X dX7_mayFire_75 rfl rfl ?_
      refine rJ_Vi2 X gX7_115 (cL_has hw (nI 4) (nI s0)) (by first | exact hw.1 _ _ rfl | assumption) dX7_mayFire_76 (by decide) (Nat.le_of_ble_eq_true rfl) ⟨Nat.le_refl _, Nat.le_refl _⟩ ?_
      refine rJ_if_eq (tgt := 92) X dX7_mayFire_79 (by decide) (fun a2 => ?_) (fun a2 => ?_)
      · try replace a2 := z_f a2
        rw [cStg_n S 4 (by decide)] at a2
        exact rJ_lv _ rfl (K92 k1 k2 (by assumption) (by clear X hZ K92; grind))
      · try replace a2 := z_t a2
        rw [cStg_n S 4 (by decide)] at a2
        refine rJ_aload_n X dX7_mayFire_82 rfl rfl ?_
        refine rJ_iload_n X dX7_mayFire_83 rfl rfl ?_
        refine rJ_Vi1 X gX7_132 (cQ_isStoreAhead hw ht h4 h8 hlt) (by first | exact hw.1 _ _ rfl | assumption) dX7_mayFire_84 (by decide) (Nat.le_of_ble_eq_true rfl) ⟨Nat.le_refl _, Nat.le_refl _⟩ ?_
        refine rJ_if_eq (tgt := 92) X dX7_mayFire_87 (by decide) (fun a3 => ?_) (fun a3 => ?_)
        · try replace a3 := z_f a3
          exact rJ_lv _ rfl (K92 k1 k2 (by assumption) (by clear X hZ K92; grind))
        · try replace a3 := z_t a3
          refine rJ_iconst (v := 0) X dX7_mayFire_90 (by decide) ?_
          exact rJ_zretZ hZ X dX7_mayFire_91 rfl ⟨by clear X hZ K92; simp only [cMay]; grind, rfl, rfl, rfl, rfl⟩
    · refine rJ_iconst (v := 1) X dX7_mayFire_68 (by decide) ?_
      exact rJ_zretZ hZ X dX7_mayFire_69 rfl ⟨by clear X hZ K92; simp only [cMay]; grind, rfl, rfl, rfl, rfl⟩
  have K24 : (¬ (¬ s0 + 1 = st ∧ ¬ tf S G (s0 + 1) 0 = 0)) → rJ p l e (mR 6) s m args below meth c D vwCl mty b 3 Z 0 0 A Sh S G [(0, .ref (A 14)), (1, .int (nI s0))] 24 [] := by
    intro k1
    refine rJ_aload_n X dX7_mayFire_24 rfl rfl ?_
    refine rJ_getR X fX7_20 (by first | exact hw.1 _ _ rfl | assumption) (by first | exact hw.2 _ _ _ rfl | assumption) dX7_mayFire_25 ?_
    refine rJ_iload_n X dX7_mayFire_28 rfl rfl ?_
    refine rJ_aaldK (k := s0) X rfl (n := 8) ⟨by omega, by decide⟩ (by first | exact hw.1 _ _ rfl | assumption) (ht.g (by omega)) dX7_mayFire_29 ?_
    refine rJ_astore_n X dX7_mayFire_30 rfl (by decide) ?_
    refine rJ_aload_n X dX7_mayFire_31 rfl rfl ?_
    refine rJ_getR X fX7_28 (by first | exact hw.1 _ _ rfl | assumption) (by first | exact hw.2 _ _ _ rfl | assumption) dX7_mayFire_32 ?_
    refine rJ_iconst (v := 1) X dX7_mayFire_35 (by decide) ?_
    refine rJ_as (nI 1) rfl ?_
    refine rJ_iload_n X dX7_mayFire_36 rfl rfl ?_
    refine rJ_Vi2 X gX7_115 (cL_has hw (nI 1) (nI s0)) (by first | exact hw.1 _ _ rfl | assumption) dX7_mayFire_37 (by decide) (Nat.le_of_ble_eq_true rfl) ⟨Nat.le_refl _, Nat.le_refl _⟩ ?_
    refine rJ_if_eq (tgt := 57) X dX7_mayFire_40 (by decide) (fun a1 => ?_) (fun a1 => ?_)
    · try replace a1 := z_f a1
      rw [cStg_n S 1 (by decide)] at a1
      exact rJ_lv _ rfl (K57 k1 (by clear X hZ K92 K57; grind))
    · try replace a1 := z_t a1
      rw [cStg_n S 1 (by decide)] at a1
      refine rJ_aload_n X dX7_mayFire_43 rfl rfl ?_
      refine rJ_iload_n X dX7_mayFire_44 rfl rfl ?_
      refine rJ_aload_n X dX7_mayFire_45 rfl rfl ?_
      refine rJ_Vr0 X gX7_119 (cT_instruction (ht.t (by omega)) (ht.w (by omega)) (ht.q (by omega))) (ht.t (by omega)) dX7_mayFire_46 (by decide) (Nat.le_of_ble_eq_true rfl) ⟨Nat.le_refl _, Nat.le_refl _⟩ ?_
      refine rJ_Vi2 X gX7_123 (cQ_mayRead hw ht h4 h8 hlt (ht.q (by omega))) (by first | exact hw.1 _ _ rfl | assumption) dX7_mayFire_49 (by decide) (Nat.le_of_ble_eq_true rfl) ⟨Nat.le_refl _, Nat.le_refl _⟩ ?_
      refine rJ_if_ne (tgt := 57) X dX7_mayFire_52 (by decide) (fun a2 => ?_) (fun a2 => ?_)
      · try replace a2 := z_t a2
        exact rJ_lv _ rfl (K57 k1 (by clear X hZ K92 K57; grind))
      · try replace a2 := z_f a2
        refine rJ_iconst (v := 0) X dX7_mayFire_55 (by decide) ?_
        exact rJ_zretZ hZ X dX7_mayFire_56 rfl ⟨by clear X hZ K92 K57; simp only [cMay]; grind, rfl, rfl, rfl, rfl⟩
  refine rJ_aload_n X dX7_mayFire_0 rfl rfl ?_
  refine rJ_iload_n X dX7_mayFire_1 rfl rfl ?_
  refine rJ_Vi1 X gX7_112 (cQ_isLast hw ht h4 h8 hlt) (by first | exact hw.1 _ _ rfl | assumption) dX7_mayFire_2 (by decide) (Nat.le_of_ble_eq_true rfl) ⟨Nat.le_refl _, Nat.le_refl _⟩ ?_
  refine rJ_if_ne (tgt := 24) X dX7_mayFire_5 (by decide) (fun c1 => ?_) (fun c1 => ?_)
  · try replace c1 := z_t c1
    exact rJ_lv _ rfl (K24 (by clear X hZ K92 K57 K24; grind))
  · try replace c1 := z_f c1
    refine rJ_aload_n X dX7_mayFire_8 rfl rfl ?_
    refine rJ_getR X fX7_20 (by first | exact hw.1 _ _ rfl | assumption) (by first | exact hw.2 _ _ _ rfl | assumption) dX7_mayFire_9 ?_
    refine rJ_iload_n X dX7_mayFire_12 rfl rfl ?_
    refine rJ_iconst (v := 1) X dX7_mayFire_13 (by decide) ?_
    refine rJ_iadd X dX7_mayFire_14 ?_
    refine rJ_as (nI (s0 + 1)) (nI_1 s0) ?_
    refine rJ_aaldK (k := (s0 + 1)) X rfl (n := 8) ⟨by omega, by decide⟩ (by first | exact hw.1 _ _ rfl | assumption) (ht.g (by omega)) dX7_mayFire_15 ?_
    refine rJ_Vi0 X gX7_92 (cT_isPresent (ht.t (k := s0 + 1) (by omega)) (ht.p (by omega))) (ht.t (by omega)) dX7_mayFire_16 (by decide) (Nat.le_of_ble_eq_true rfl) ⟨Nat.le_refl _, Nat.le_refl _⟩ ?_
    refine rJ_if_eq (tgt := 24) X dX7_mayFire_19 (by decide) (fun c2 => ?_) (fun c2 => ?_)
    · try replace c2 := z_f c2
      exact rJ_lv _ rfl (K24 (by clear X hZ K92 K57 K24; grind))
    · try replace c2 := z_t c2
      refine rJ_iconst (v := 0) X dX7_mayFire_22 (by decide) ?_
      exact rJ_zretZ hZ X dX7_mayFire_23 rfl ⟨by clear X hZ K92 K57 K24; simp only [cMay]; grind, rfl, rfl, rfl, rfl⟩
