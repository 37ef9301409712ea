theorem mF1_kp {S : mI} {st sz s0 : Nat} (hB : mOk S st sz) (h32 : 0 ≤ (S 100 32).toInt) (n kd : Int32) : mKp S (mF1 S st s0 n kd) st sz s0 ∧ mF1 S st s0 n kd 100 32 = S 100 32 := by
  have h0 : mKp S S st sz s0 := ⟨hB, rfl, fun _ => rfl, h32⟩
  unfold mF1
  split
  · exact ⟨mKp_mu (mKp_mu h0 _ _ (by decide)) _ _ (by decide), by rw [mu_na _ _ _ (by decide), mu_na _ _ _ (by decide)]⟩
  · exact ⟨h0, rfl⟩
theorem mF2_kp {S U : mI} {st sz s0 : Nat} (h : mKp S U st sz s0 ∧ U 100 32 = S 100 32) (n kd : Int32) : mKp S (mF2 U s0 n kd) st sz s0 ∧ mF2 U s0 n kd 100 32 = S 100 32 := by
  unfold mF2
  split
  · exact ⟨mKp_work h.1 _ _, by rw [mWork_0]; exact h.2⟩
  · exact h
theorem mF3_kp {S U : mI} {st sz s0 : Nat} (h : mKp S U st sz s0 ∧ U 100 32 = S 100 32) (n kd : Int32) : mKp S (mF3 U s0 n kd) st sz s0 ∧ mF3 U s0 n kd 100 32 = S 100 32 := by
  unfold mF3
  split
  · exact ⟨mKp_m0 (mKp_clr h.1 _) _ _ (by decide), by rw [mu_ns _ _ _ (by decide), mClr_n _ _ (by decide)]; exact h.2⟩
  · exact h
theorem mF4_kp {S U : mI} {st sz s0 : Nat} (h : mKp S U st sz s0 ∧ U 100 32 = S 100 32) (kd : Int32) : mKp S (mF4 U s0 kd) st sz s0 ∧ mF4 U s0 kd 100 32 = S 100 32 := by
  unfold mF4
  split
  · exact ⟨mKp_mu (mKp_mu h.1 _ _ (by decide)) _ _ (by decide), by rw [mu_na _ _ _ (by decide), mu_na _ _ _ (by decide)]; exact h.2⟩
  · exact h
theorem mC1_32 (S : mI) (k q v : Int32) : mC1 S k q v 100 32 = S 100 32 + 1 := mu_eq _ _ _ _
theorem mCom_32 (S : mI) (s0 : Nat) (n kd : Int32) : mCom S s0 n kd 100 32 = S 100 32 + 1 ∨ mCom S s0 n kd 100 32 = S 100 32 := by
  unfold mCom
  split
  · left; rw [mC1_32, mu_na _ _ _ (by decide), mu_na _ _ _ (by decide)]
  · split
    · left; rw [mC1_32, mu_ns _ _ _ (by decide), mu_na _ _ _ (by decide)]
    · split
      · left; rw [mC1_32]
      · split
        · right; rw [mu_ns _ _ _ (by decide)]
        · right; rfl
theorem i_inc {x : Int32} (h0 : 0 ≤ x.toInt) (h : x.toInt < 2147483647) : (x + 1).toInt = x.toInt + 1 := by
  have e1 : (1 : Int32).toInt = 1 := rfl
  rw [i_add (by rw [e1]; omega) (by rw [e1]; omega), e1]
theorem mFire_ok {S : mI} {st sz s0 : Nat} (hB : mOk S st sz) (h32 : 0 ≤ (S 100 32).toInt) (hc : (S 100 32).toInt < 2147483647) : mOk (mFire S st s0) st sz ∧ 0 ≤ (mFire S st s0 100 32).toInt ∧ (mFire S st s0 100 32).toInt ≤ (S 100 32).toInt + 1 := by
  unfold mFire
  have h4 := mF4_kp (mF3_kp (mF2_kp (mF1_kp (s0 := s0) hB h32 (S 114 s0) (mKind S (S 114 s0))) (S 114 s0) (mKind S (S 114 s0))) (S 114 s0) (mKind S (S 114 s0))) (mKind S (S 114 s0))
  generalize mF4 (mF3 (mF2 (mF1 S st s0 (S 114 s0) (mKind S (S 114 s0))) s0 (S 114 s0) (mKind S (S 114 s0))) s0 (S 114 s0) (mKind S (S 114 s0))) s0 (mKind S (S 114 s0)) = U at h4
  obtain ⟨hk, h5⟩ := h4
  have h6 : mOk (mF5 U s0 (S 114 s0) (mKind S (S 114 s0))) st sz ∧ 0 ≤ (mF5 U s0 (S 114 s0) (mKind S (S 114 s0)) 100 32).toInt ∧ (mF5 U s0 (S 114 s0) (mKind S (S 114 s0)) 100 32).toInt ≤ (S 100 32).toInt + 1 := by
    unfold mF5
    split
    · have := mKp_com hk (by rw [h5]; exact hc) (S 114 s0) (mKind S (S 114 s0))
      refine ⟨this.1, this.2.2.2, ?_⟩
      rcases mCom_32 U s0 (S 114 s0) (mKind S (S 114 s0)) with e | e
      · rw [e, h5, i_inc h32 hc]; omega
      · rw [e, h5]; omega
    · exact ⟨hk.1, hk.2.2.2, by rw [h5]; omega⟩
  generalize mF5 U s0 (S 114 s0) (mKind S (S 114 s0)) = V at h6
  obtain ⟨g1, g2, g3⟩ := h6
  unfold mF6
  split
  · refine ⟨mOk_m0 (mOk_mu g1 _ _ (by decide)) _ _ (by decide), ?_⟩
    rw [mu_ns _ _ _ (by decide), mu_na _ _ _ (by decide)]
    exact ⟨g2, g3⟩
  · refine ⟨mOk_mu (mOk_mu (mOk_mu (mOk_mu (mOk_mu (mOk_mu (mOk_mu (mOk_mu g1 _ _ (by decide)) _ _ (by decide)) _ _ (by decide)) _ _ (by decide)) _ _ (by decide)) _ _ (by decide)) _ _ (by decide)) _ _ (by decide), ?_⟩
    rw [mu_na _ _ _ (by decide), mu_na _ _ _ (by decide), mu_na _ _ _ (by decide), mu_na _ _ _ (by decide), mu_na _ _ _ (by decide), mu_na _ _ _ (by decide), mu_na _ _ _ (by decide), mu_na _ _ _ (by decide)]
    exact ⟨g2, g3⟩
/-- a new thread at the cycle's begin -/
def mFetch (S : mI) : mI := if S 115 0 = 0 then mu (mu (mu (mu (mu (mu (mu (mu (mu (mu S 100 20 (S 100 20 + 1)) 100 27 0) 115 0 1) 114 0 (S 100 22)) 100 22 (S 100 22 + 1)) 116 0 0) 117 0 0) 118 0 0) 119 0 0) 120 0 0 else mu (mu S 100 20 (S 100 20 + 1)) 100 27 0
def mStg (S : mI) (st s0 : Nat) : mI := if ¬ S 115 s0 = 0 ∧ mFires S st s0 = true then mFire S st s0 else S
def mDown (st : Nat) : Nat → mI → mI
  | 0, S => S
  | k + 1, S => mDown st k (mStg S st k)
/-- one cycle -/
def mCyc (S : mI) (st : Nat) : mI := mDown st st (mFetch S)
def mRunF (st : Nat) : Nat → mI → mI
  | 0, S => S
  | f + 1, S => if S 100 21 = 0 then mRunF st f (mCyc S st) else S
theorem mRun_z {st N k : Nat} {U : mI} (h : N ≤ k) : mRunF st (N - k) U = U := by rw [Nat.sub_eq_zero_of_le h]; rfl
theorem mRun_o {st f : Nat} {U : mI} (h : ¬ U 100 21 = 0) : mRunF st f U = U := by cases f <;> simp [mRunF, h]
theorem mOk_s0 {S : mI} {st sz : Nat} (h : mOk S st sz) : mOk (mu S 100 27 0) st sz := mOk_of h (mu_ns _ _ _ (by decide) _) (mu_ns _ _ _ (by decide) _) (Or.inl (mu_eq _ _ _ _)) (mu_row _ _ _ (by decide)) (mu_row _ _ _ (by decide)) (mu_row _ _ _ (by decide)) (mu_row _ _ _ (by decide))
theorem mFetch_ok {S : mI} {st sz : Nat} (hB : mOk S st sz) : mOk (mFetch S) st sz ∧ mFetch S 100 32 = S 100 32 := by
  have h1 := mOk_s0 (mOk_m0 hB 20 (S 100 20 + 1) (by decide))
  unfold mFetch
  split
  · refine ⟨mOk_mu (mOk_mu (mOk_mu (mOk_mu (mOk_mu (mOk_m0 (mOk_mu (mOk_mu h1 _ _ (by decide)) _ _ (by decide)) _ _ (by decide)) _ _ (by decide)) _ _ (by decide)) _ _ (by decide)) _ _ (by decide)) _ _ (by decide), ?_⟩
    simp [mu]
  · exact ⟨h1, by simp [mu]⟩
theorem mStg_ok {S : mI} {st sz : Nat} (s0 : Nat) (hB : mOk S st sz) (h32 : 0 ≤ (S 100 32).toInt) (hc : (S 100 32).toInt < 2147483647) : mOk (mStg S st s0) st sz ∧ 0 ≤ (mStg S st s0 100 32).toInt ∧ (mStg S st s0 100 32).toInt ≤ (S 100 32).toInt + 1 := by
  unfold mStg
  split
  · exact mFire_ok hB h32 hc
  · exact ⟨hB, h32, by omega⟩
theorem mDown_ok {st sz : Nat} : ∀ (k : Nat) (S : mI), mOk S st sz → 0 ≤ (S 100 32).toInt → (S 100 32).toInt + k < 2147483647 → mOk (mDown st k S) st sz ∧ 0 ≤ (mDown st k S 100 32).toInt ∧ (mDown st k S 100 32).toInt ≤ (S 100 32).toInt + k := by
  intro k
  induction k with
  | zero => intro S h1 h2 h3; exact ⟨h1, h2, by simp [mDown]⟩
  | succ k ih =>
    intro S h1 h2 h3
    obtain ⟨g1, g2, g3⟩ := mStg_ok k h1 h2 (by omega)
    obtain ⟨f1, f2, f3⟩ := ih (mStg S st k) g1 g2 (by omega)
    exact ⟨f1, f2, by show (mDown st k (mStg S st k) 100 32).toInt ≤ _; omega⟩
theorem mCyc_ok {S : mI} {st sz : Nat} (hB : mOk S st sz) (h32 : 0 ≤ (S 100 32).toInt) (hc : (S 100 32).toInt + 8 < 2147483647) : mOk (mCyc S st) st sz ∧ 0 ≤ (mCyc S st 100 32).toInt ∧ (mCyc S st 100 32).toInt ≤ (S 100 32).toInt + 8 := by
  obtain ⟨g1, g2⟩ := mFetch_ok hB
  have h8 := hB.2.2.1
  obtain ⟨f1, f2, f3⟩ := mDown_ok st (mFetch S) g1 (by rw [g2]; exact h32) (by rw [g2]; omega)
  rw [g2] at f3
  exact ⟨f1, f2, by show (mDown st st (mFetch S) 100 32).toInt ≤ _; omega⟩
theorem mRunF_ok {st sz : Nat} : ∀ (f : Nat) (S : mI), mOk S st sz → 0 ≤ (S 100 32).toInt → (S 100 32).toInt + 8 * f < 2147483647 → mOk (mRunF st f S) st sz ∧ 0 ≤ (mRunF st f S 100 32).toInt ∧ (mRunF st f S 100 32).toInt ≤ (S 100 32).toInt + 8 * f := by
  intro f
  induction f with
  | zero => intro S h1 h2 h3; exact ⟨h1, h2, by simp [mRunF]⟩
  | succ f ih =>
    intro S h1 h2 h3
    unfold mRunF
    split
    · obtain ⟨g1, g2, g3⟩ := mCyc_ok h1 h2 (by omega)
      obtain ⟨f1, f2, f3⟩ := ih (mCyc S st) g1 g2 (by omega)
      exact ⟨f1, f2, by omega⟩
    · exact ⟨h1, h2, by omega⟩
set_option maxHeartbeats 4000000 in
set_option maxRecDepth 100000 in
theorem cM_oneCycle {l : Launch} {D : va_G} {b : Nat} {A : Nat → Nat} {Sh : mS} {S : mI} {G : mP} (hw : okM Sh G) {st sz : Nat} (hB : mOk S st sz) (h32 : 0 ≤ (S 100 32).toInt) (hc : (S 100 32).toInt + 8 < 2147483647) : rMet l D b yX11_oneCycle cX11_oneCycle 2 none (mR 6) A Sh S G [.ref (A 100)] (rPv A Sh (mCyc S st) G) := by
  refine rMet_oz RX11 rfl (by decide) (Nat.le_of_ble_eq_true rfl) ?_
  intro p e s m args below meth c Z hZ X hnm
  obtain ⟨h2, hst2, h8, hs, h40, h27, hV⟩ := id hB
  have loop : ∀ (k : Nat) (x : Int32) (U : mI), k ≤ st → x = nI k - 1 → mOk U st sz → 0 ≤ (U 100 32).toInt → (U 100 32).toInt + k < 2147483647 → mDown st k U = mCyc S st → rJ p l e (mR 6) s m args below meth c D vwCl mty b 2 Z 0 0 A Sh U G [(0, .ref (A 100)), (1, .int x)] 93 [] := by
    intro k
    induction k with
    | zero =>
      intro x U hk hx hU u32 uc he
      subst hx
      refine rJ_iload_n X dX11_oneCycle_93 rfl rfl ?_
      refine rJ_if_lt (tgt := 125) X dX11_oneCycle_94 (by decide) (fun a1 => ?_) (fun a1 => ?_)
      · exact rJ_vretZ hZ X dX11_oneCycle_125 ⟨rfl, rfl, rfl, he, rfl⟩
      · exact absurd (by decide) a1
    | succ j ih =>
      intro x U hk hx hU u32 uc he
      rw [nI_pred] at hx
      subst hx
      refine rJ_iload_n X dX11_oneCycle_93 rfl rfl ?_
      refine rJ_if_lt (tgt := 125) X dX11_oneCycle_94 (by decide) (fun a1 => ?_) (fun a1 => ?_)
      · exact absurd a1 (nI_pos (by omega))
      · refine rJ_aload_n X dX11_oneCycle_97 rfl rfl ?_
        refine rJ_getR X fX11_47 (hw.1 _ _ rfl) (hw.2 _ _ rfl) dX11_oneCycle_98 ?_
        refine rJ_iload_n X dX11_oneCycle_101 rfl rfl ?_
        refine rJ_zaldK (k := j) X rfl ⟨by omega, by omega⟩ (hw.1 _ _ rfl) dX11_oneCycle_102 ?_
        refine rJ_if_eq (tgt := 119) X dX11_oneCycle_103 (by decide) (fun a2 => ?_) (fun a2 => ?_)
        · refine rJ_inc (n := (-1)) (w := (-1)) X dX11_oneCycle_119 rfl (by decide) (by decide) ?_
          refine rJ_goto (tgt := 93) X dX11_oneCycle_122 (by decide) ?_
          first
            | exact rJ_lv _ rfl (ih _ _ (by omega) (Int32.sub_eq_add_neg ..).symm hU u32 (by omega) (by rw [← he, mDown, mStg, if_neg (by first | exact fun q => q.1 a2 | exact fun q => a3 q.2)]))
            | (obtain ⟨q1, q2, q3⟩ := mFire_ok (s0 := j) hU u32 (by omega)
               exact rJ_lv _ rfl (ih _ _ (by omega) (Int32.sub_eq_add_neg ..).symm q1 q2 (by omega) (by rw [← he, mDown, mStg, if_pos ⟨a2, a3⟩])))
        · refine rJ_aload_n X dX11_oneCycle_106 rfl rfl ?_
          refine rJ_iload_n X dX11_oneCycle_107 rfl rfl ?_
          refine rJ_Vi1 X gX11_172 (cM_fires hw hU (by omega)) (hw.1 _ _ rfl) dX11_oneCycle_108 (by decide) (Nat.le_of_ble_eq_true rfl) ⟨Nat.le_refl _, Nat.le_refl _⟩ ?_
          refine rJ_if_eq (tgt := 119) X dX11_oneCycle_111 (by decide) (fun a3 => ?_) (fun a3 => ?_)
          · try replace a3 := z_f a3
            refine rJ_inc (n := (-1)) (w := (-1)) X dX11_oneCycle_119 rfl (by decide) (by decide) ?_
            refine rJ_goto (tgt := 93) X dX11_oneCycle_122 (by decide) ?_
            first
              | exact rJ_lv _ rfl (ih _ _ (by omega) (Int32.sub_eq_add_neg ..).symm hU u32 (by omega) (by rw [← he, mDown, mStg, if_neg (by first | exact fun q => q.1 a2 | exact fun q => a3 q.2)]))
              | (obtain ⟨q1, q2, q3⟩ := mFire_ok (s0 := j) hU u32 (by omega)
                 exact rJ_lv _ rfl (ih _ _ (by omega) (Int32.sub_eq_add_neg ..).symm q1 q2 (by omega) (by rw [← he, mDown, mStg, if_pos ⟨a2, a3⟩])))
          · try replace a3 := z_t a3
            refine rJ_aload_n X dX11_oneCycle_114 rfl rfl ?_
            refine rJ_iload_n X dX11_oneCycle_115 rfl rfl ?_
            refine rJ_Vv1 X gX11_175 (cM_fire hw hU (by omega) u32 (by omega)) (hw.1 _ _ rfl) dX11_oneCycle_116 (by decide) (Nat.le_of_ble_eq_true rfl) ⟨Nat.le_refl _, Nat.le_refl _⟩ ?_
            refine rJ_inc (n := (-1)) (w := (-1)) X dX11_oneCycle_119 rfl (by decide) (by decide) ?_
            refine rJ_goto (tgt := 93) X dX11_oneCycle_122 (by decide) ?_
            first
              | exact rJ_lv _ rfl (ih _ _ (by omega) (Int32.sub_eq_add_neg ..).symm hU u32 (by omega) (by rw [← he, mDown, mStg, if_neg (by first | exact fun q => q.1 a2 | exact fun q => a3 q.2)]))
              | (obtain ⟨q1, q2, q3⟩ := mFire_ok (s0 := j) hU u32 (by omega)
                 exact rJ_lv _ rfl (ih _ _ (by omega) (Int32.sub_eq_add_neg ..).symm q1 q2 (by omega) (by rw [← he, mDown, mStg, if_pos ⟨a2, a3⟩])))
  have K86 : ∀ U : mI, U = mFetch S → rJ p l e (mR 6) s m args below meth c D vwCl mty b 2 Z 0 0 A Sh U G [(0, .ref (A 100))] 86 [] := by
    intro U hU
    obtain ⟨fB, f32⟩ := mFetch_ok hB
    rw [← hU] at fB f32
    have h2U : U 100 2 = nI st := fB.1
    refine rJ_aload_n X dX11_oneCycle_86 rfl rfl ?_
    refine rJ_getI X fX11_13 (hw.1 _ _ rfl) dX11_oneCycle_87 ?_
    refine rJ_iconst (v := 1) X dX11_oneCycle_90 (by decide) ?_
    refine rJ_isub X dX11_oneCycle_91 ?_
    refine rJ_istore_n X dX11_oneCycle_92 rfl (by decide) ?_
    exact rJ_lv _ rfl (loop st _ U (by omega) (by rw [h2U]) fB (by rw [f32]; exact h32) (by rw [f32]; omega) (by rw [hU]; rfl))
  refine rJ_aload_n X dX11_oneCycle_0 rfl rfl ?_
  refine rJ_dup X dX11_oneCycle_1 rfl ?_
  refine rJ_getI X fX11_99 (hw.1 _ _ rfl) dX11_oneCycle_2 ?_
  refine rJ_iconst (v := 1) X dX11_oneCycle_5 (by decide) ?_
  refine rJ_iadd X dX11_oneCycle_6 ?_
  refine rJ_setI X fX11_99 (Or.inl fwX11_99) (hw.1 _ _ rfl) ⟨rfl, rfl⟩ dX11_oneCycle_7 (fun S7 hS7 => ?_)
  refine rJ_aload_n X dX11_oneCycle_10 rfl rfl ?_
  refine rJ_iconst (v := 0) X dX11_oneCycle_11 (by decide) ?_
  refine rJ_setI X fX11_140 (Or.inl fwX11_140) (hw.1 _ _ rfl) ⟨by decide, by decide⟩ dX11_oneCycle_12 (fun S12 hS12 => ?_)
  refine rJ_aload_n X dX11_oneCycle_15 rfl rfl ?_
  refine rJ_getR X fX11_47 (hw.1 _ _ rfl) (hw.2 _ _ rfl) dX11_oneCycle_16 ?_
  refine rJ_iconst (v := 0) X dX11_oneCycle_19 (by decide) ?_
  refine rJ_zaldK (k := 0) X (by decide) ⟨by decide, by decide⟩ (hw.1 _ _ rfl) dX11_oneCycle_20 ?_
  refine rJ_if_ne (tgt := 86) X dX11_oneCycle_21 (by decide) (fun c1 => ?_) (fun c1 => ?_)
  · exact rJ_lv _ rfl (K86 _ (by subst hS12; subst hS7; rw [mu_na _ _ _ (by decide), mu_na _ _ _ (by decide)] at c1; simp [mFetch, c1]))
  · refine rJ_aload_n X dX11_oneCycle_24 rfl rfl ?_
    refine rJ_getR X fX11_47 (hw.1 _ _ rfl) (hw.2 _ _ rfl) dX11_oneCycle_25 ?_
    refine rJ_iconst (v := 0) X dX11_oneCycle_28 (by decide) ?_
    refine rJ_iconst (v := 1) X dX11_oneCycle_29 (by decide) ?_
    refine rJ_zastK (k := 0) X (by decide) ⟨by decide, by decide⟩ (hw.1 _ _ rfl) rfl dX11_oneCycle_30 (fun S30 hS30 => ?_)
    refine rJ_aload_n X dX11_oneCycle_31 rfl rfl ?_
    refine rJ_getR X fX11_44 (hw.1 _ _ rfl) (hw.2 _ _ rfl) dX11_oneCycle_32 ?_
    refine rJ_iconst (v := 0) X dX11_oneCycle_35 (by decide) ?_
    refine rJ_aload_n X dX11_oneCycle_36 rfl rfl ?_
    refine rJ_getI X fX11_106 (hw.1 _ _ rfl) dX11_oneCycle_37 ?_
    refine rJ_iastK (k := 0) X (by decide) ⟨by decide, by decide⟩ (hw.1 _ _ rfl) dX11_oneCycle_40 (fun S40 hS40 => ?_)
    refine rJ_aload_n X dX11_oneCycle_41 rfl rfl ?_
    refine rJ_dup X dX11_oneCycle_42 rfl ?_
    refine rJ_getI X fX11_106 (hw.1 _ _ rfl) dX11_oneCycle_43 ?_
    refine rJ_iconst (v := 1) X dX11_oneCycle_46 (by decide) ?_
    refine rJ_iadd X dX11_oneCycle_47 ?_
    refine rJ_setI X fX11_106 (Or.inl fwX11_106) (hw.1 _ _ rfl) ⟨rfl, rfl⟩ dX11_oneCycle_48 (fun S48 hS48 => ?_)
    refine rJ_aload_n X dX11_oneCycle_51 rfl rfl ?_
    refine rJ_getR X fX11_51 (hw.1 _ _ rfl) (hw.2 _ _ rfl) dX11_oneCycle_52 ?_
    refine rJ_iconst (v := 0) X dX11_oneCycle_55 (by decide) ?_
    refine rJ_iconst (v := 0) X dX11_oneCycle_56 (by decide) ?_
    refine rJ_iastK (k := 0) X (by decide) ⟨by decide, by decide⟩ (hw.1 _ _ rfl) dX11_oneCycle_57 (fun S57 hS57 => ?_)
    refine rJ_aload_n X dX11_oneCycle_58 rfl rfl ?_
    refine rJ_getR X fX11_54 (hw.1 _ _ rfl) (hw.2 _ _ rfl) dX11_oneCycle_59 ?_
    refine rJ_iconst (v := 0) X dX11_oneCycle_62 (by decide) ?_
    refine rJ_iconst (v := 0) X dX11_oneCycle_63 (by decide) ?_
    refine rJ_iastK (k := 0) X (by decide) ⟨by decide, by decide⟩ (hw.1 _ _ rfl) dX11_oneCycle_64 (fun S64 hS64 => ?_)
    refine rJ_aload_n X dX11_oneCycle_65 rfl rfl ?_
    refine rJ_getR X fX11_57 (hw.1 _ _ rfl) (hw.2 _ _ rfl) dX11_oneCycle_66 ?_
    refine rJ_iconst (v := 0) X dX11_oneCycle_69 (by decide) ?_
    refine rJ_iconst (v := 0) X dX11_oneCycle_70 (by decide) ?_
    refine rJ_iastK (k := 0) X (by decide) ⟨by decide, by decide⟩ (hw.1 _ _ rfl) dX11_oneCycle_71 (fun S71 hS71 => ?_)
    refine rJ_aload_n X dX11_oneCycle_72 rfl rfl ?_
    refine rJ_getR X fX11_60 (hw.1 _ _ rfl) (hw.2 _ _ rfl) dX11_oneCycle_73 ?_
    refine rJ_iconst (v := 0) X dX11_oneCycle_76 (by decide) ?_
    refine rJ_iconst (v := 0) X dX11_oneCycle_77 (by decide) ?_
    refine rJ_iastK (k := 0) X (by decide) ⟨by decide, by decide⟩ (hw.1 _ _ rfl) dX11_oneCycle_78 (fun S78 hS78 => ?_)
    refine rJ_aload_n X dX11_oneCycle_79 rfl rfl ?_
    refine rJ_getR X fX11_63 (hw.1 _ _ rfl) (hw.2 _ _ rfl) dX11_oneCycle_80 ?_
    refine rJ_iconst (v := 0) X dX11_oneCycle_83 (by decide) ?_
    refine rJ_iconst (v := 0) X dX11_oneCycle_84 (by decide) ?_
    refine rJ_iastK (k := 0) X (by decide) ⟨by decide, by decide⟩ (hw.1 _ _ rfl) dX11_oneCycle_85 (fun S85 hS85 => ?_)
    exact rJ_lv _ rfl (K86 _ (by subst hS85; subst hS78; subst hS71; subst hS64; subst hS57; subst hS48; subst hS40; subst hS30; subst hS12; subst hS7; rw [mu_na _ _ _ (by decide), mu_na _ _ _ (by decide)] at c1; simp [mFetch, c1, mu_na, mu_ns]))
set_option maxHeartbeats 4000000 in
set_option maxRecDepth 100000 in
theorem cM_run {l : Launch} {D : va_G} {b : Nat} {A : Nat → Nat} {Sh : mS} {S : mI} {G : mP} (hw : okM Sh G) (cy : Int32) {st sz : Nat} (hB : mOk S st sz) (h32 : 0 ≤ (S 100 32).toInt) (hc : (S 100 32).toInt + 24000 < 2147483647) : rMet l D b yX11_run cX11_run 3 (some .int) (mR 7) A Sh S G [.ref (A 100), .int cy] (rPi A Sh (if 1 ≤ cy ∧ cy ≤ 3000 then mRunF st cy.toNatClampNeg S 100 20 else -1) (if 1 ≤ cy ∧ cy ≤ 3000 then mRunF st cy.toNatClampNeg S else S) G) := by
  refine rMet_oz RX11 rfl (by decide) (Nat.le_of_ble_eq_true rfl) ?_
  intro p e s m args below meth c Z hZ X hnm
  obtain ⟨h2, hst2, h8, hs, h40, h27, hV⟩ := id hB
  by_cases hin : 1 ≤ cy ∧ cy ≤ 3000
  · obtain ⟨N, hN, rfl⟩ : ∃ N : Nat, N ≤ 3000 ∧ cy = nI N := by
      rw [i_le, i_le] at hin
      have e1 : (1 : Int32).toInt = 1 := rfl
      have e3 : (3000 : Int32).toInt = 3000 := rfl
      rw [e1, e3] at hin
      obtain ⟨j, hj, e⟩ := nI_of (x := cy) (by rw [i_lt]; show ¬ cy.toInt < 0; omega)
      exact ⟨j, by rw [e, i_nI (by omega)] at hin; omega, e⟩
    rw [nI_clamp (by omega)] at hZ
    have K37 : rJ p l e (mR 7) s m args below meth c D vwCl mty b 3 Z 0 0 A Sh (mRunF st N S) G [(0, .ref (A 100))] 37 [] := by
      refine rJ_aload_n X dX11_run_37 rfl rfl ?_
      refine rJ_getI X fX11_99 (hw.1 _ _ rfl) dX11_run_38 ?_
      exact rJ_iretZ hZ X dX11_run_41 ⟨by rw [if_pos hin], rfl, rfl, by rw [if_pos hin], rfl⟩
    have loop : ∀ (f k : Nat) (U : mI), k ≤ N → N - k < f → mOk U st sz → 0 ≤ (U 100 32).toInt → (U 100 32).toInt + 8 * (N - k : Nat) < 2147483647 → mRunF st (N - k) U = mRunF st N S → rJ p l e (mR 7) s m args below meth c D vwCl mty b 3 Z 0 0 A Sh U G [(0, .ref (A 100)), (1, .int (nI N)), (2, .int (nI k))] 15 [] := by
      intro f
      induction f with
      | zero => intro k U h1 h3; exact absurd h3 (by omega)
      | succ f ih =>
        intro k U h1 h3 hU u32 uc he
        refine rJ_iload_n X dX11_run_15 rfl rfl ?_
        refine rJ_iload_n X dX11_run_16 rfl rfl ?_
        refine rJ_icmp_ge (tgt := 37) X dX11_run_17 (by decide) (fun a1 => ?_) (fun a1 => ?_)
        · rw [nI_leI (by omega) (by omega)] at a1
          refine rJ_eqS (S' := mRunF st N S) (by first | exact ((mRun_z a1).symm.trans he).symm | exact ((mRun_o a2).symm.trans he).symm) ?_
          exact rJ_lv _ rfl K37
        · rw [nI_leI (by omega) (by omega)] at a1
          refine rJ_aload_n X dX11_run_20 rfl rfl ?_
          refine rJ_getI X fX11_102 (hw.1 _ _ rfl) dX11_run_21 ?_
          refine rJ_if_ne (tgt := 37) X dX11_run_24 (by decide) (fun a2 => ?_) (fun a2 => ?_)
          · refine rJ_eqS (S' := mRunF st N S) (by first | exact ((mRun_z a1).symm.trans he).symm | exact ((mRun_o a2).symm.trans he).symm) ?_
            exact rJ_lv _ rfl K37
          · refine rJ_aload_n X dX11_run_27 rfl rfl ?_
            refine rJ_Vv0 X gX11_179 (cM_oneCycle hw hU u32 (by omega)) (hw.1 _ _ rfl) dX11_run_28 (by decide) (Nat.le_of_ble_eq_true rfl) ⟨Nat.le_refl _, Nat.le_refl _⟩ ?_
            refine rJ_inc (n := 1) (w := 1) X dX11_run_31 rfl (by decide) (by decide) ?_
            rw [nI_1 k]
            refine rJ_goto (tgt := 15) X dX11_run_34 (by decide) ?_
            obtain ⟨q1, q2, q3⟩ := mCyc_ok hU u32 (by omega)
            exact rJ_lv _ rfl (ih (k + 1) _ (by omega) (by omega) q1 q2 (by omega) (by rw [← he, show N - k = (N - (k + 1)) + 1 by omega, mRunF, if_pos a2]))
    refine rJ_iload_n X dX11_run_0 rfl rfl ?_
    refine rJ_iconst (v := 1) X dX11_run_1 (by decide) ?_
    refine rJ_sipush (v := 3000) X dX11_run_2 (by decide) ?_
    refine rJ_Si3 X gX11_115 (cM_isIn _ _ _) dX11_run_5 (by decide) (Nat.le_of_ble_eq_true rfl) ⟨Nat.le_refl _, Nat.le_refl _⟩ ?_
    refine rJ_if_ne (tgt := 13) X dX11_run_8 (by decide) (fun c1 => ?_) (fun c1 => ?_)
    · try replace c1 := z_t c1
      refine rJ_iconst (v := 0) X dX11_run_13 (by decide) ?_
      refine rJ_istore_n X dX11_run_14 rfl (by decide) ?_
      exact rJ_lv _ rfl (loop (N + 1) 0 S (by omega) (by omega) hB h32 (by omega) rfl)
    · try replace c1 := z_f c1
      exact absurd hin c1
  · clear hc
    refine rJ_iload_n X dX11_run_0 rfl rfl ?_
    refine rJ_iconst (v := 1) X dX11_run_1 (by decide) ?_
    refine rJ_sipush (v := 3000) X dX11_run_2 (by decide) ?_
    refine rJ_Si3 X gX11_115 (cM_isIn _ _ _) dX11_run_5 (by decide) (Nat.le_of_ble_eq_true rfl) ⟨Nat.le_refl _, Nat.le_refl _⟩ ?_
    refine rJ_if_ne (tgt := 13) X dX11_run_8 (by decide) (fun c1 => ?_) (fun c1 => ?_)
    · try replace c1 := z_t c1
      exact absurd c1 hin
    · try replace c1 := z_f c1
      refine rJ_iconst (v := (-1)) X dX11_run_11 (by decide) ?_
      exact rJ_iretZ hZ X dX11_run_12 ⟨by rw [if_neg c1], rfl, rfl, by rw [if_neg c1], rfl⟩

