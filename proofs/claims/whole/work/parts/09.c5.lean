def cVal (S : mI) (G : mP) (st s0 : Nat) (reg : Int32) : Int32 := if cGv S G st reg (s0 + 1) = st then (if 0 ≤ reg ∧ reg < 8 then S 16 reg.toNatClampNeg else -1) else tf S G (cGv S G st reg (s0 + 1)) 4
/-- what the walk of a stage keeps: the layout, an instruction, the log's head, the threads -/
def cKp (Sh : mS) (G : mP) (S U : mI) (q : Nat) : Prop := okT Sh U G ∧ U 4 = S 4 ∧ U 5 = S 5 ∧ U q = S q ∧ U 12 = S 12
theorem okT_mu {Sh : mS} {S : mI} {G : mP} (h : okT Sh S G) (r f : Nat) (v : Int32) (hf : (∀ k, k < 8 → r ≠ thG G k) ∨ f ≠ 0 ∨ v = 0) : okT Sh (mu S r f v) G := by
  refine ⟨fun k hk => ?_, h.2⟩
  obtain ⟨h1, h2, h3, h4, h5, h6, h7⟩ := h.1 k hk
  refine ⟨h1, h2, h3, h4, h5, h6, ?_⟩
  show mu S r f v (thG G k) 0 = 0 ∨ mu S r f v (thG G k) 0 = 1
  by_cases he : thG G k = r ∧ 0 = f
  · rcases hf with hf | hf | hf
    · exact absurd he.1.symm (hf k hk)
    · exact absurd he.2.symm hf
    · left; simp [mu, he, hf]
  · simp only [mu, he, if_false]
    exact h7
theorem cKp_t {Sh : mS} {G : mP} {S U : mI} {q : Nat} (h : cKp Sh G S U q) (hq : q = 8 ∨ 32 ≤ q) {r : Nat} (hr : 24 ≤ r ∧ r < 32) (f : Nat) (v : Int32) (hf : f ≠ 0 ∨ v = 0) : cKp Sh G S (mu U r f v) q := by
  obtain ⟨h1, h2, h3, h4, h5⟩ := h
  refine ⟨okT_mu h1 r f v (Or.inr hf), ?_, ?_, ?_, ?_⟩
  · rw [mu_row _ _ _ (by omega)]; exact h2
  · rw [mu_row _ _ _ (by omega)]; exact h3
  · rw [mu_row _ _ _ (by omega)]; exact h4
  · rw [mu_row _ _ _ (by omega)]; exact h5
theorem cKp_s {Sh : mS} {G : mP} {S U : mI} {q : Nat} (h : cKp Sh G S U q) {r : Nat} (hr : r < 24 ∧ r ≠ 4 ∧ r ≠ 5 ∧ r ≠ 12 ∧ r ≠ q) (f : Nat) (v : Int32) : cKp Sh G S (mu U r f v) q := by
  obtain ⟨h1, h2, h3, h4, h5⟩ := h
  refine ⟨okT_mu h1 r f v (Or.inl (fun k hk => ?_)), ?_, ?_, ?_, ?_⟩
  · have := h1.r hk; omega
  · rw [mu_row _ _ _ (Ne.symm hr.2.1)]; exact h2
  · rw [mu_row _ _ _ (Ne.symm hr.2.2.1)]; exact h3
  · rw [mu_row _ _ _ (Ne.symm hr.2.2.2.2)]; exact h4
  · rw [mu_row _ _ _ (Ne.symm hr.2.2.2.1)]; exact h5
/-- the threads behind stage n are out -/
def cOut (S : mI) (G : mP) : Nat → mI
  | 0 => S
  | n + 1 => mu (cOut S G n) (thG G n) 0 0
theorem cKp_out {Sh : mS} {G : mP} {S U : mI} {q : Nat} (h : cKp Sh G S U q) (hq : q = 8 ∨ 32 ≤ q) : ∀ n, n ≤ 8 → cKp Sh G S (cOut U G n) q := by
  intro n
  induction n with
  | zero => intro _; exact h
  | succ n ih => intro hn; exact cKp_t (ih (by omega)) hq (h.1.r (by omega)) 0 0 (Or.inr rfl)
set_option maxHeartbeats 4000000 in
set_option maxRecDepth 100000 in
theorem cQ_valueFor {l : Launch} {D : va_G} {b : Nat} {A : Nat → Nat} {Sh : mS} {S : mI} {G : mP} (hw : okC Sh G) (ht : okT Sh S G) {st : Nat} (h4 : S 4 1 = nI st) (h8 : st ≤ 8) {s0 : Nat} (hlt : s0 < st) (reg : Int32) : rMet l D b yX7_valueFor cX7_valueFor 4 (some .int) (mR 4) A Sh S G [.ref (A 14), .int (nI s0), .int reg] (rPi A Sh (cVal S G st s0 reg) S G) := by
  refine rMet_oz RX7 rfl (by decide) (Nat.le_of_ble_eq_true rfl) ?_
  intro p e s m args below meth c Z hZ X hnm
  have hg := cGv_in S G (k := s0 + 1) reg (st := st) (by omega)
  by_cases hgs : cGv S G st reg (s0 + 1) = st
  · refine rJ_aload_n X dX7_valueFor_0 rfl rfl ?_
    refine rJ_iload_n X dX7_valueFor_1 rfl rfl ?_
    refine rJ_iload_n X dX7_valueFor_2 rfl rfl ?_
    refine rJ_Vi2 X gX7_162 (cQ_writerAhead hw ht h4 h8 hlt _) (by first | exact hw.1 _ _ rfl | assumption) dX7_valueFor_3 (by decide) (Nat.le_of_ble_eq_true rfl) ⟨Nat.le_refl _, Nat.le_refl _⟩ ?_
    rw [if_pos hgs]
    refine rJ_istore_n X dX7_valueFor_6 rfl (by decide) ?_
    refine rJ_iload_n X dX7_valueFor_7 rfl rfl ?_
    refine rJ_iconst (v := (-1)) X dX7_valueFor_8 (by decide) ?_
    refine rJ_icmp_ne (tgt := 23) X dX7_valueFor_9 (by decide) (fun a1 => ?_) (fun a1 => ?_)
    · exact absurd rfl a1
    · refine rJ_aload_n X dX7_valueFor_12 rfl rfl ?_
      refine rJ_getR X fX7_12 (by first | exact hw.1 _ _ rfl | assumption) (by first | exact hw.2 _ _ _ rfl | assumption) dX7_valueFor_13 ?_
      refine rJ_iload_n X dX7_valueFor_16 rfl rfl ?_
      refine rJ_Vi1 X gX7_217 (cH_inRegister (r := 15) (r1 := 16) (r2 := 17) (hw.1 _ _ rfl) (hw.2 _ _ _ rfl) (hw.2 _ _ _ rfl) (hw.1 _ _ rfl) (hw.1 _ _ rfl) _) (by first | exact hw.1 _ _ rfl | assumption) dX7_valueFor_17 (by decide) (Nat.le_of_ble_eq_true rfl) ⟨Nat.le_refl _, Nat.le_refl _⟩ ?_
      refine rJ_goto (tgt := 32) X dX7_valueFor_20 (by decide) ?_
      exact rJ_iretZ hZ X dX7_valueFor_32 ⟨by rw [cVal, if_pos hgs], rfl, rfl, rfl, rfl⟩
  · refine rJ_aload_n X dX7_valueFor_0 rfl rfl ?_
    refine rJ_iload_n X dX7_valueFor_1 rfl rfl ?_
    refine rJ_iload_n X dX7_valueFor_2 rfl rfl ?_
    refine rJ_Vi2 X gX7_162 (cQ_writerAhead hw ht h4 h8 hlt _) (by first | exact hw.1 _ _ rfl | assumption) dX7_valueFor_3 (by decide) (Nat.le_of_ble_eq_true rfl) ⟨Nat.le_refl _, Nat.le_refl _⟩ ?_
    rw [if_neg hgs]
    refine rJ_istore_n X dX7_valueFor_6 rfl (by decide) ?_
    refine rJ_iload_n X dX7_valueFor_7 rfl rfl ?_
    refine rJ_iconst (v := (-1)) X dX7_valueFor_8 (by decide) ?_
    refine rJ_icmp_ne (tgt := 23) X dX7_valueFor_9 (by decide) (fun a1 => ?_) (fun a1 => ?_)
    · refine rJ_aload_n X dX7_valueFor_23 rfl rfl ?_
      refine rJ_getR X fX7_20 (by first | exact hw.1 _ _ rfl | assumption) (by first | exact hw.2 _ _ _ rfl | assumption) dX7_valueFor_24 ?_
      refine rJ_iload_n X dX7_valueFor_27 rfl rfl ?_
      refine rJ_aaldK (k := cGv S G st reg (s0 + 1)) X rfl (n := 8) ⟨by omega, by decide⟩ (by first | exact hw.1 _ _ rfl | assumption) (ht.g (by omega)) dX7_valueFor_28 ?_
      refine rJ_Vi0 X gX7_220 (cT_worth (ht.t (by omega))) (ht.t (by omega)) dX7_valueFor_29 (by decide) (Nat.le_of_ble_eq_true rfl) ⟨Nat.le_refl _, Nat.le_refl _⟩ ?_
      exact rJ_iretZ hZ X dX7_valueFor_32 ⟨by rw [cVal, if_neg hgs], rfl, rfl, rfl, rfl⟩
    · exact absurd a1 (nI_m1 (by omega))
theorem cGv_of {S S' : mI} {G : mP} (h : ∀ k, k < 8 → tf S' G k 0 = tf S G k 0 ∧ ti S' G k 0 = ti S G k 0 ∧ ti S' G k 1 = ti S G k 1) (reg : Int32) : ∀ f k, k + f ≤ 8 → cGvF S' G reg f k = cGvF S G reg f k := by
  intro f
  induction f with
  | zero => intro k _; rfl
  | succ f ih =>
    intro k hk
    obtain ⟨h1, h2, h3⟩ := h k (by omega)
    simp only [cGvF, cCT, h1, h2, h3, ih (k + 1) (by omega)]
/-- a number of a thread that no one asks for changes nothing in what is read -/
theorem cVal_mu {Sh : mS} {S : mI} {G : mP} (ht : okT Sh S G) {st s0 s1 : Nat} (h8 : st ≤ 8) (h1 : s1 < 8) (hs : s0 < st) (f : Nat) (v : Int32) (hf : f = 2 ∨ f = 3) (reg : Int32) : cVal (mu S (thG G s1) f v) G st s0 reg = cVal S G st s0 reg := by
  have hn : ∀ k, k < 8 → roG G (thG G k) ≠ thG G s1 := fun k hk => by
    have a := ht.r h1
    have b := (ht.1 k hk).2.2.2.2.2.1
    omega
  have e : cGv (mu S (thG G s1) f v) G st reg (s0 + 1) = cGv S G st reg (s0 + 1) := cGv_of (fun k hk => ⟨mu_ns _ _ _ (by omega) _, mu_na _ _ _ (hn k hk) _, mu_na _ _ _ (hn k hk) _⟩) reg _ _ (by omega)
  have hr := ht.r h1
  simp only [cVal, e]
  split
  · rw [mu_na _ _ _ (by omega)]
  · exact mu_ns _ _ _ (by omega) _
def cF1 (S : mI) (G : mP) (st s0 : Nat) (t q : Nat) : mI := if S 5 1 = nI s0 then (if cR2 (S q 0) then mu (if mR1 (S q 0) then mu S t 2 (cVal S G st s0 (S q 2)) else S) t 3 (cVal S G st s0 (S q 3)) else (if mR1 (S q 0) then mu S t 2 (cVal S G st s0 (S q 2)) else S)) else S
def cF2 (S : mI) (s0 t q : Nat) : mI := if S 5 2 = nI s0 then mu S t 4 (cWork (S q 0) (S q 4) (S t 2) (S t 3)) else S
def cF3 (S : mI) (G : mP) (s0 t q : Nat) : mI := if S 5 3 = nI s0 ∧ (S q 0 = 9 ∨ (S q 0 = 7 ∧ S t 2 = S t 3)) then mu (cOut S G s0) 14 8 (S q 4) else S
def cF4 (S : mI) (s0 t q : Nat) : mI := if S 5 4 = nI s0 ∧ S q 0 = 5 then mu (mu S t 4 (S 17 ((S t 2 + S q 4) &&& 63).toNatClampNeg)) t 5 (S 14 9) else S
def cF5 (S : mI) (s0 t q : Nat) : mI := if cGiv S (S q 0) = nI s0 then mu S t 6 (S 14 9) else S
abbrev cWh (S : mI) (t q : Nat) : Int32 := if S q 0 = 6 then (S t 2 + S q 4) &&& 63 else if S q 0 = 8 then 0 else S q 1
abbrev cWk (S : mI) (q : Nat) : Int32 := if S q 0 = 6 then 1 else if S q 0 = 8 then 2 else 0
/-- a thread's end -/
def cFin (S : mI) (kp t q : Nat) : mI :=
  if S q 0 = 0 then mu S 14 11 1
  else if S q 0 = 6 then mu (cAdd (mu S 17 (cWh S t q).toNatClampNeg (S t 4)) kp 1 (cWh S t q) (S t 4) (S 14 9)) 14 7 (S 14 9)
  else if S q 0 = 8 then cAdd S kp 2 0 (S t 4) (S 14 9)
  else if 1 ≤ S q 0 ∧ S q 0 ≤ 5 then mu (cAdd (mu S 16 (S q 1).toNatClampNeg (S t 4)) kp 0 (S q 1) (S t 4) (S 14 9)) 19 (S q 1).toNatClampNeg (S 14 9)
  else S
def cF6 (S : mI) (kp s0 t q : Nat) : mI := if S 5 6 = nI s0 then cFin S kp t q else S
def cF7 (S : mI) (st s0 t : Nat) : mI := if s0 + 1 = st then mu (mu S t 0 0) 14 10 (S 14 10 + 1) else S
def cG7 (G : mP) (st s0 : Nat) : mP := if s0 + 1 = st then G else mu (mu G 18 s0 (some (thG G (s0 + 1)))) 18 (s0 + 1) (some (thG G s0))
set_option maxHeartbeats 4000000 in
set_option maxRecDepth 100000 in
theorem cQ_read {l : Launch} {D : va_G} {b : Nat} {A : Nat → Nat} {Sh : mS} {S : mI} {G : mP} (hw : okC Sh G) (ht : okT Sh S G) {st : Nat} (h4 : S 4 1 = nI st) (h8 : st ≤ 8) {s0 : Nat} (hlt : s0 < st) : rMet l D b yX7_read cX7_read 4 none (mR 5) A Sh S G [.ref (A 14), .int (nI s0), .ref (A (thG G s0))] (rPv A Sh (if cR2 (S (roG G (thG G s0)) 0) then mu (if mR1 (S (roG G (thG G s0)) 0) then mu S (thG G s0) 2 (cVal S G st s0 (S (roG G (thG G s0)) 2)) else S) (thG G s0) 3 (cVal S G st s0 (S (roG G (thG G s0)) 3)) else (if mR1 (S (roG G (thG G s0)) 0) then mu S (thG G s0) 2 (cVal S G st s0 (S (roG G (thG G s0)) 2)) else S)) G) := by
  refine rMet_oz RX7 rfl (by decide) (Nat.le_of_ble_eq_true rfl) ?_
  intro p e s m args below meth c Z hZ X hnm
  have hqt : roG G (thG G s0) ≠ thG G s0 := by
    have a := ht.r (k := s0) (by omega)
    have b := (ht.1 s0 (by omega)).2.2.2.2.2.1
    omega
  have K25 : ∀ U : mI, U = (if mR1 (S (roG G (thG G s0)) 0) then mu S (thG G s0) 2 (cVal S G st s0 (S (roG G (thG G s0)) 2)) else S) → rJ p l e (mR 5) s m args below meth c D vwCl mty b 4 Z 0 0 A Sh U G [(0, .ref (A 14)), (1, .int (nI s0)), (2, .ref (A (thG G s0))), (3, .ref (A (roG G (thG G s0))))] 25 [] := by
    intro U hU0
    have hU : okT Sh U G := by
      rw [hU0]
      split
      · exact okT_mu ht _ _ _ (Or.inr (Or.inl (by decide)))
      · exact ht
    have hq' : U (roG G (thG G s0)) = S (roG G (thG G s0)) := by
      rw [hU0]
      split
      · exact mu_row _ _ _ hqt
      · rfl
    have h4' : U 4 1 = nI st := by
      rw [hU0]
      split
      · have a := ht.r (k := s0) (by omega)
        rw [mu_na _ _ _ (by omega)]; exact h4
      · exact h4
    have hv : ∀ reg, cVal U G st s0 reg = cVal S G st s0 reg := by
      intro reg
      rw [hU0]
      split
      · exact cVal_mu ht h8 (by omega) hlt 2 _ (Or.inl rfl) reg
      · rfl
    refine rJ_aload_n X dX7_read_25 rfl rfl ?_
    refine rJ_Vi0 X gX7_156 (cI_readsRight (ht.q (by omega))) (ht.q (by omega)) dX7_read_26 (by decide) (Nat.le_of_ble_eq_true rfl) ⟨Nat.le_refl _, Nat.le_refl _⟩ ?_
    refine rJ_if_eq (tgt := 45) X dX7_read_29 (by decide) (fun a1 => ?_) (fun a1 => ?_)
    · try replace a1 := z_f a1
      exact rJ_vretZ hZ X dX7_read_45 ⟨rfl, rfl, rfl, by first | (rw [if_neg (by rw [hq'] at a1; exact a1)]; exact hU0) | (rw [if_pos (by rw [hq'] at a1; exact a1), hq', hv, hU0]), rfl⟩
    · try replace a1 := z_t a1
      refine rJ_aload_n X dX7_read_32 rfl rfl ?_
      refine rJ_aload_n X dX7_read_33 rfl rfl ?_
      refine rJ_iload_n X dX7_read_34 rfl rfl ?_
      refine rJ_aload_n X dX7_read_35 rfl rfl ?_
      refine rJ_Vi0 X gX7_159 (cI_right (ht.q (by omega))) (ht.q (by omega)) dX7_read_36 (by decide) (Nat.le_of_ble_eq_true rfl) ⟨Nat.le_refl _, Nat.le_refl _⟩ ?_
      refine rJ_Vi2 X gX7_208 (cQ_valueFor hw hU h4' h8 hlt _) (by first | exact hw.1 _ _ rfl | assumption) dX7_read_39 (by decide) (Nat.le_of_ble_eq_true rfl) ⟨Nat.le_refl _, Nat.le_refl _⟩ ?_
      refine rJ_Vv1 X gX7_214 (cT_readRight (ht.t (by omega)) _) (ht.t (by omega)) dX7_read_42 (by decide) (Nat.le_of_ble_eq_true rfl) ⟨Nat.le_refl _, Nat.le_refl _⟩ ?_
      exact rJ_vretZ hZ X dX7_read_45 ⟨rfl, rfl, rfl, by first | (rw [if_neg (by rw [hq'] at a1; exact a1)]; exact hU0) | (rw [if_pos (by rw [hq'] at a1; exact a1), hq', hv, hU0]), rfl⟩
  refine rJ_aload_n X dX7_read_0 rfl rfl ?_
  refine rJ_Vr0 X gX7_119 (cT_instruction (ht.t (by omega)) (ht.w (by omega)) (ht.q (by omega))) (ht.t (by omega)) dX7_read_1 (by decide) (Nat.le_of_ble_eq_true rfl) ⟨Nat.le_refl _, Nat.le_refl _⟩ ?_
  refine rJ_astore_n X dX7_read_4 rfl (by decide) ?_
  refine rJ_aload_n X dX7_read_5 rfl rfl ?_
  refine rJ_Vi0 X gX7_147 (cI_readsLeft (ht.q (by omega))) (ht.q (by omega)) dX7_read_6 (by decide) (Nat.le_of_ble_eq_true rfl) ⟨Nat.le_refl _, Nat.le_refl _⟩ ?_
  refine rJ_if_eq (tgt := 25) X dX7_read_9 (by decide) (fun c1 => ?_) (fun c1 => ?_)
  · try replace c1 := z_f c1
    exact rJ_lv _ rfl (K25 _ (by rw [if_neg c1]))
  · try replace c1 := z_t c1
    refine rJ_aload_n X dX7_read_12 rfl rfl ?_
    refine rJ_aload_n X dX7_read_13 rfl rfl ?_
    refine rJ_iload_n X dX7_read_14 rfl rfl ?_
    refine rJ_aload_n X dX7_read_15 rfl rfl ?_
    refine rJ_Vi0 X gX7_150 (cI_left (ht.q (by omega))) (ht.q (by omega)) dX7_read_16 (by decide) (Nat.le_of_ble_eq_true rfl) ⟨Nat.le_refl _, Nat.le_refl _⟩ ?_
    refine rJ_Vi2 X gX7_208 (cQ_valueFor hw ht h4 h8 hlt _) (by first | exact hw.1 _ _ rfl | assumption) dX7_read_19 (by decide) (Nat.le_of_ble_eq_true rfl) ⟨Nat.le_refl _, Nat.le_refl _⟩ ?_
    refine rJ_Vv1 X gX7_211 (cT_readLeft (ht.t (by omega)) _) (ht.t (by omega)) dX7_read_22 (by decide) (Nat.le_of_ble_eq_true rfl) ⟨Nat.le_refl _, Nat.le_refl _⟩ ?_
    exact rJ_lv _ rfl (K25 _ (by rw [if_pos c1]))
set_option maxHeartbeats 4000000 in
set_option maxRecDepth 100000 in
theorem cQ_throwOut {l : Launch} {D : va_G} {b : Nat} {A : Nat → Nat} {Sh : mS} {S : mI} {G : mP} (hw : okC Sh G) (ht : okT Sh S G) {n : Nat} (hn : n ≤ 8) : rMet l D b yX7_throwOutBehind cX7_throwOutBehind 3 none (mR 1) A Sh S G [.ref (A 14), .int (nI n)] (rPv A Sh (cOut S G n) G) := by
  refine rMet_oz RX7 rfl (by decide) (Nat.le_of_ble_eq_true rfl) ?_
  intro p e s m args below meth c Z hZ X hnm
  have loop : ∀ (f k : Nat) (U : mI), U = cOut S G k → k ≤ n → n - k < f → rJ p l e (mR 1) s m args below meth c D vwCl mty b 3 Z 0 0 A Sh U G [(0, .ref (A 14)), (1, .int (nI n)), (2, .int (nI k))] 2 [] := by
    intro f
    induction f with
    | zero => intro k U hU h1 h3; exact absurd h3 (by omega)
    | succ f ih =>
      intro k U hU h1 h3
      refine rJ_iload_n X dX7_throwOutBehind_2 rfl rfl ?_
      refine rJ_iload_n X dX7_throwOutBehind_3 rfl rfl ?_
      refine rJ_icmp_ge (tgt := 28) X dX7_throwOutBehind_4 (by decide) (fun a1 => ?_) (fun a1 => ?_)
      · rw [nI_leI (by omega) (by omega)] at a1
        exact rJ_vretZ hZ X dX7_throwOutBehind_28 ⟨rfl, rfl, rfl, by rw [hU, show k = n by omega], rfl⟩
      · rw [nI_leI (by omega) (by omega)] at a1
        refine rJ_iload_n X dX7_throwOutBehind_7 rfl rfl ?_
        refine rJ_bipush (v := 8) X dX7_throwOutBehind_8 (by decide) ?_
        refine rJ_icmp_ge (tgt := 28) X dX7_throwOutBehind_10 (by decide) (fun a2 => ?_) (fun a2 => ?_)
        · rw [show (8 : Int32) = nI 8 from rfl, nI_leI (by decide) (by omega)] at a2
          exact rJ_vretZ hZ X dX7_throwOutBehind_28 ⟨rfl, rfl, rfl, by rw [hU, show k = n by omega], rfl⟩
        · rw [show (8 : Int32) = nI 8 from rfl, nI_leI (by decide) (by omega)] at a2
          refine rJ_aload_n X dX7_throwOutBehind_13 rfl rfl ?_
          refine rJ_getR X fX7_20 (by first | exact hw.1 _ _ rfl | assumption) (by first | exact hw.2 _ _ _ rfl | assumption) dX7_throwOutBehind_14 ?_
          refine rJ_iload_n X dX7_throwOutBehind_17 rfl rfl ?_
          refine rJ_aaldK (k := k) X rfl (n := 8) ⟨by omega, by decide⟩ (by first | exact hw.1 _ _ rfl | assumption) (ht.g (by omega)) dX7_throwOutBehind_18 ?_
          refine rJ_Vv0 X gX7_223 (cT_leave (ht.t (by omega))) (ht.t (by omega)) dX7_throwOutBehind_19 (by decide) (Nat.le_of_ble_eq_true rfl) ⟨Nat.le_refl _, Nat.le_refl _⟩ ?_
          refine rJ_inc (n := 1) (w := 1) X dX7_throwOutBehind_22 rfl (by decide) (by decide) ?_
          rw [nI_1 k]
          refine rJ_goto (tgt := 2) X dX7_throwOutBehind_25 (by decide) ?_
          exact rJ_lv _ rfl (ih (k + 1) _ (by rw [hU]; rfl) (by omega) (by omega))
  refine rJ_iconst (v := 0) X dX7_throwOutBehind_0 (by decide) ?_
  refine rJ_istore_n X dX7_throwOutBehind_1 rfl (by decide) ?_
  exact rJ_lv _ rfl (loop (n + 1) 0 S rfl (by omega) (by omega))
set_option maxHeartbeats 4000000 in
set_option maxRecDepth 100000 in
theorem cQ_moveOn {l : Launch} {D : va_G} {b : Nat} {A : Nat → Nat} {Sh : mS} {S : mI} {G : mP} (hw : okC Sh G) (ht : okT Sh S G) {st : Nat} (h4 : S 4 1 = nI st) (h8 : st ≤ 8) {s0 : Nat} (hlt : s0 < st) : rMet l D b yX7_moveOn cX7_moveOn 3 none (mR 2) A Sh S G [.ref (A 14), .int (nI s0)] (rPv A Sh (cF7 S st s0 (thG G s0)) (cG7 G st s0)) := by
  refine rMet_oz RX7 rfl (by decide) (Nat.le_of_ble_eq_true rfl) ?_
  intro p e s m args below meth c Z hZ X hnm
  refine rJ_aload_n X dX7_moveOn_0 rfl rfl ?_
  refine rJ_getR X fX7_20 (by first | exact hw.1 _ _ rfl | assumption) (by first | exact hw.2 _ _ _ rfl | assumption) dX7_moveOn_1 ?_
  refine rJ_iload_n X dX7_moveOn_4 rfl rfl ?_
  refine rJ_aaldK (k := s0) X rfl (n := 8) ⟨by omega, by decide⟩ (by first | exact hw.1 _ _ rfl | assumption) (ht.g (by omega)) dX7_moveOn_5 ?_
  refine rJ_astore_n X dX7_moveOn_6 rfl (by decide) ?_
  refine rJ_aload_n X dX7_moveOn_7 rfl rfl ?_
  refine rJ_iload_n X dX7_moveOn_8 rfl rfl ?_
  refine rJ_Vi1 X gX7_112 (cQ_isLast hw ht h4 h8 hlt) (by first | exact hw.1 _ _ rfl | assumption) dX7_moveOn_9 (by decide) (Nat.le_of_ble_eq_true rfl) ⟨Nat.le_refl _, Nat.le_refl _⟩ ?_
  refine rJ_if_eq (tgt := 30) X dX7_moveOn_12 (by decide) (fun c1 => ?_) (fun c1 => ?_)
  · try replace c1 := z_f c1
    refine rJ_aload_n X dX7_moveOn_30 rfl rfl ?_
    refine rJ_getR X fX7_20 (by first | exact hw.1 _ _ rfl | assumption) (by first | exact hw.2 _ _ _ rfl | assumption) dX7_moveOn_31 ?_
    refine rJ_iload_n X dX7_moveOn_34 rfl rfl ?_
    refine rJ_aload_n X dX7_moveOn_35 rfl rfl ?_
    refine rJ_getR X fX7_20 (by first | exact hw.1 _ _ rfl | assumption) (by first | exact hw.2 _ _ _ rfl | assumption) dX7_moveOn_36 ?_
    refine rJ_iload_n X dX7_moveOn_39 rfl rfl ?_
    refine rJ_iconst (v := 1) X dX7_moveOn_40 (by decide) ?_
    refine rJ_iadd X dX7_moveOn_41 ?_
    refine rJ_as (nI (s0 + 1)) (nI_1 s0) ?_
    refine rJ_aaldK (k := (s0 + 1)) X rfl (n := 8) ⟨by omega, by decide⟩ (by first | exact hw.1 _ _ rfl | assumption) (ht.g (by omega)) dX7_moveOn_42 ?_
    refine rJ_aastK (k := s0) X rfl (n := 8) ⟨by omega, by decide⟩ (hw.1 _ _ rfl) (ht.t (k := s0 + 1) (by omega)) dX7_moveOn_43 (fun G43 hG43 => ?_)
    have hp43 : G43 14 5 = some 18 := by rw [hG43, mu_na _ _ _ (by decide)]; exact hw.2 _ _ _ rfl
    refine rJ_aload_n X dX7_moveOn_44 rfl rfl ?_
    refine rJ_getR X fX7_20 (hw.1 _ _ rfl) hp43 dX7_moveOn_45 ?_
    refine rJ_iload_n X dX7_moveOn_48 rfl rfl ?_
    refine rJ_iconst (v := 1) X dX7_moveOn_49 (by decide) ?_
    refine rJ_iadd X dX7_moveOn_50 ?_
    refine rJ_as (nI (s0 + 1)) (nI_1 s0) ?_
    refine rJ_aload_n X dX7_moveOn_51 rfl rfl ?_
    refine rJ_aastK (k := s0 + 1) X rfl (n := 8) ⟨by omega, by decide⟩ (hw.1 _ _ rfl) (ht.t (by omega)) dX7_moveOn_52 (fun G52 hG52 => ?_)
    exact rJ_vretZ hZ X dX7_moveOn_53 ⟨rfl, rfl, rfl, by rw [cF7, if_neg c1], by rw [cG7, if_neg c1, hG52, hG43]⟩
  · try replace c1 := z_t c1
    refine rJ_aload_n X dX7_moveOn_15 rfl rfl ?_
    refine rJ_Vv0 X gX7_223 (cT_leave (ht.t (by omega))) (ht.t (by omega)) dX7_moveOn_16 (by decide) (Nat.le_of_ble_eq_true rfl) ⟨Nat.le_refl _, Nat.le_refl _⟩ ?_
    refine rJ_aload_n X dX7_moveOn_19 rfl rfl ?_
    refine rJ_dup X dX7_moveOn_20 rfl ?_
    refine rJ_getI X fX7_82 (by first | exact hw.1 _ _ rfl | assumption) dX7_moveOn_21 ?_
    refine rJ_iconst (v := 1) X dX7_moveOn_24 (by decide) ?_
    refine rJ_iadd X dX7_moveOn_25 ?_
    refine rJ_setI X fX7_82 (Or.inl fwX7_82) (by first | exact hw.1 _ _ rfl | assumption) ⟨rfl, rfl⟩ dX7_moveOn_26 (fun S26 hS26 => ?_)
    exact rJ_vretZ hZ X dX7_moveOn_29 ⟨rfl, rfl, rfl, by rw [cF7, if_pos c1, hS26]; rw [mu_na _ _ _ (by have := ht.r (k := s0) (by omega); omega)], by rw [cG7, if_pos c1]⟩
