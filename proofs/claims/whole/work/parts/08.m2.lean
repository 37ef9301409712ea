def mOk (S : mI) (st sz : Nat) : Prop := S 100 2 = nI st ∧ 2 ≤ st ∧ st ≤ 8 ∧ S 100 10 = nI sz ∧ sz ≤ 40 ∧ (S 100 27 = 0 ∨ S 100 27 = 1) ∧ ∀ n : Int32, mKind S n ≠ 0 → vp_in (S 107 n.toNatClampNeg) 8 ∧ vp_in (S 108 n.toNatClampNeg) 8 ∧ vp_in (S 109 n.toNatClampNeg) 8
theorem mKind_of {S S' : mI} (h2 : S' 100 10 = S 100 10) (h4 : S' 106 = S 106) (n : Int32) : mKind S' n = mKind S n := by simp only [mKind, h2, h4]
theorem mOk_of {S S' : mI} {st sz : Nat} (h : mOk S st sz) (h1 : S' 100 2 = S 100 2) (h2 : S' 100 10 = S 100 10) (h3 : S' 100 27 = 0 ∨ S' 100 27 = 1) (h4 : S' 106 = S 106) (h5 : S' 107 = S 107) (h6 : S' 108 = S 108) (h7 : S' 109 = S 109) : mOk S' st sz := by
  obtain ⟨a1, a2, a3, a4, a5, a6, a7⟩ := h
  refine ⟨h1.trans a1, a2, a3, h2.trans a4, a5, h3, fun n hn => ?_⟩
  rw [mKind_of h2 h4] at hn
  rw [h5, h6, h7]
  exact a7 n hn
theorem mOk_mu {S : mI} {st sz : Nat} (h : mOk S st sz) {r : Nat} (k : Nat) (v : Int32) (hr : r ≠ 100 ∧ r ≠ 106 ∧ r ≠ 107 ∧ r ≠ 108 ∧ r ≠ 109) : mOk (mu S r k v) st sz := by
  obtain ⟨r0, r1, r2, r3, r4⟩ := hr
  refine mOk_of h (mu_na _ _ _ (Ne.symm r0) _) (mu_na _ _ _ (Ne.symm r0) _) ?_ (mu_row _ _ _ (Ne.symm r1)) (mu_row _ _ _ (Ne.symm r2)) (mu_row _ _ _ (Ne.symm r3)) (mu_row _ _ _ (Ne.symm r4))
  rw [mu_na _ _ _ (Ne.symm r0)]
  exact h.2.2.2.2.2.1
theorem mOk_m0 {S : mI} {st sz : Nat} (h : mOk S st sz) (k : Nat) (v : Int32) (hk : k ≠ 2 ∧ k ≠ 10 ∧ k ≠ 27) : mOk (mu S 100 k v) st sz := by
  refine mOk_of h (mu_ns _ _ _ (Ne.symm hk.1) _) (mu_ns _ _ _ (Ne.symm hk.2.1) _) ?_ (mu_row _ _ _ (by decide)) (mu_row _ _ _ (by decide)) (mu_row _ _ _ (by decide)) (mu_row _ _ _ (by decide))
  rw [mu_ns _ _ _ (Ne.symm hk.2.2)]
  exact h.2.2.2.2.2.1
theorem mOk_st {S : mI} {st sz : Nat} (h : mOk S st sz) : mOk (mu S 100 27 1) st sz := mOk_of h (mu_ns _ _ _ (by decide) _) (mu_ns _ _ _ (by decide) _) (Or.inr (mu_eq _ _ _ _)) (mu_row _ _ _ (by decide)) (mu_row _ _ _ (by decide)) (mu_row _ _ _ (by decide)) (mu_row _ _ _ (by decide))
theorem mKind_mu {S : mI} {r : Nat} (k : Nat) (v : Int32) (n : Int32) (hr : r ≠ 100 ∧ r ≠ 106) : mKind (mu S r k v) n = mKind S n := mKind_of (mu_na _ _ _ (Ne.symm hr.1) _) (mu_row _ _ _ (Ne.symm hr.2)) n
theorem mKind_m0 {S : mI} (k : Nat) (v : Int32) (n : Int32) (hk : k ≠ 10) : mKind (mu S 100 k v) n = mKind S n := mKind_of (mu_ns _ _ _ (Ne.symm hk) _) (mu_row _ _ _ (by decide)) n
theorem mRem (S : mI) (s0 : Nat) : mPlace S s0 - mPlace S s0 / 8 * 8 = nI ((mPlace S s0).toNatClampNeg % 8) := by
  obtain ⟨j, hj, e⟩ := mPlace_nI S s0
  rw [e, nI_clamp (by omega)]
  exact pk_rem (d := 8) (by omega) (by decide) (by decide)
/-- stage s0 fires -/
def mFires (S : mI) (st s0 : Nat) : Bool :=
  if s0 + 1 < st ∧ ¬ S 115 (s0 + 1) = 0 then false
  else if nI s0 = S 104 1 ∧ (mR1 (mKind S (S 114 s0)) ∧ ¬ mRdy S st s0 (S 108 (S 114 s0).toNatClampNeg) = true ∨ mR2 (mKind S (S 114 s0)) ∧ ¬ mRdy S st s0 (S 109 (S 114 s0).toNatClampNeg) = true) then false
  else if nI s0 = S 104 4 ∧ mKind S (S 114 s0) = 5 ∧ mOld S st s0 = true then false
  else decide (¬ nI s0 = S 104 5 ∨ ¬ mKind S (S 114 s0) = 5 ∨ mLat S s0 ≤ S 100 20 - S 119 s0)
section RE
variable {p : Program} {l : Launch} {e : Env} {R : Room} {s : State} {m : MethodId} {args : Array Value} {below : List Frame} {meth : Method} {c : Code} {D : va_G} {cl : List vw_C} {ty : Nat → Nat → FieldType} {b nL : Nat} {Z : State → Prop} {cells slots : Nat} {A : Nat → Nat} {Sh : mS} {S S' : mI} {G G' : mP} {lv : List (Nat × Value)} {pc : Nat} {st : List Value}
theorem rJ_eqS (h : S' = S) (k : rJ p l e R s m args below meth c D cl ty b nL Z cells slots A Sh S' G lv pc st) : rJ p l e R s m args below meth c D cl ty b nL Z cells slots A Sh S G lv pc st := h ▸ k
theorem rJ_eqG (h : G' = G) (k : rJ p l e R s m args below meth c D cl ty b nL Z cells slots A Sh S G' lv pc st) : rJ p l e R s m args below meth c D cl ty b nL Z cells slots A Sh S G lv pc st := h ▸ k
end RE
set_option maxHeartbeats 4000000 in
set_option maxRecDepth 100000 in
theorem cM_fires {l : Launch} {D : va_G} {b : Nat} {A : Nat → Nat} {Sh : mS} {S : mI} {G : mP} (hw : okM Sh G) {st sz s0 : Nat} (hB : mOk S st sz) (hlt : s0 < st) : rMet l D b yX11_fires cX11_fires 4 (some .boolean) (mR 5) A Sh S G [.ref (A 100), .int (nI s0)] (rPi A Sh (if mFires S st s0 = true then 1 else 0) S G) := by
  refine rMet_oz RX11 rfl (by decide) (Nat.le_of_ble_eq_true rfl) ?_
  intro p e s m args below meth c Z hZ X hnm
  obtain ⟨h2, hst2, h8, hs, h40, h27, hV⟩ := id hB
  have K115 : (¬ (s0 + 1 < st ∧ ¬ S 115 (s0 + 1) = 0)) → (¬ (nI s0 = S 104 1 ∧ (mR1 (mKind S (S 114 s0)) ∧ ¬ mRdy S st s0 (S 108 (S 114 s0).toNatClampNeg) = true ∨ mR2 (mKind S (S 114 s0)) ∧ ¬ mRdy S st s0 (S 109 (S 114 s0).toNatClampNeg) = true))) → (¬ (nI s0 = S 104 4 ∧ (mKind S (S 114 s0)) = 5 ∧ mOld S st s0 = true)) → rJ p l e (mR 5) s m args below meth c D vwCl mty b 4 Z 0 0 A Sh S G [(0, .ref (A 100)), (1, .int (nI s0)), (2, .int (S 114 s0)), (3, .int (mKind S (S 114 s0)))] 115 [] := by
    intro k1 k2 k3
    refine rJ_iload_n X dX11_fires_115 rfl rfl ?_
    refine rJ_aload_n X dX11_fires_116 rfl rfl ?_
    refine rJ_getR X fX11_17 (hw.1 _ _ rfl) (hw.2 _ _ rfl) dX11_fires_117 ?_
    refine rJ_iconst (v := 5) X dX11_fires_120 (by decide) ?_
    refine rJ_ialdK (k := 5) X (by decide) ⟨by decide, by decide⟩ (hw.1 _ _ rfl) dX11_fires_121 ?_
    refine rJ_icmp_ne (tgt := 157) X dX11_fires_122 (by decide) (fun a1 => ?_) (fun a1 => ?_)
    · refine rJ_iconst (v := 1) X dX11_fires_157 (by decide) ?_
      refine rJ_goto (tgt := 162) X dX11_fires_158 (by decide) ?_
      exact rJ_zretZ hZ X dX11_fires_162 rfl ⟨by clear X hZ; simp only [mFires, mLat]; grind, rfl, rfl, rfl, rfl⟩
    · refine rJ_iload_n X dX11_fires_125 rfl rfl ?_
      refine rJ_iconst (v := 5) X dX11_fires_126 (by decide) ?_
      refine rJ_icmp_ne (tgt := 157) X dX11_fires_127 (by decide) (fun a2 => ?_) (fun a2 => ?_)
      · refine rJ_iconst (v := 1) X dX11_fires_157 (by decide) ?_
        refine rJ_goto (tgt := 162) X dX11_fires_158 (by decide) ?_
        exact rJ_zretZ hZ X dX11_fires_162 rfl ⟨by clear X hZ; simp only [mFires, mLat]; grind, rfl, rfl, rfl, rfl⟩
      · refine rJ_aload_n X dX11_fires_130 rfl rfl ?_
        refine rJ_getI X fX11_99 (hw.1 _ _ rfl) dX11_fires_131 ?_
        refine rJ_aload_n X dX11_fires_134 rfl rfl ?_
        refine rJ_getR X fX11_60 (hw.1 _ _ rfl) (hw.2 _ _ rfl) dX11_fires_135 ?_
        refine rJ_iload_n X dX11_fires_138 rfl rfl ?_
        refine rJ_ialdK (k := s0) X rfl ⟨by omega, by omega⟩ (hw.1 _ _ rfl) dX11_fires_139 ?_
        refine rJ_isub X dX11_fires_140 ?_
        refine rJ_aload_n X dX11_fires_141 rfl rfl ?_
        refine rJ_getR X fX11_41 (hw.1 _ _ rfl) (hw.2 _ _ rfl) dX11_fires_142 ?_
        refine rJ_aload_n X dX11_fires_145 rfl rfl ?_
        refine rJ_iload_n X dX11_fires_146 rfl rfl ?_
        refine rJ_Vi1 X gX11_156 (cM_placeOf hw (by omega) (mKind_ne hs h40 (by grind))) (hw.1 _ _ rfl) dX11_fires_147 (by decide) (Nat.le_of_ble_eq_true rfl) ⟨Nat.le_refl _, Nat.le_refl _⟩ ?_
        refine rJ_bipush (v := 8) X dX11_fires_150 (by decide) ?_
        refine rJ_irem X dX11_fires_152 (by decide) ?_
        refine rJ_as (nI ((mPlace S s0).toNatClampNeg % 8)) (mRem S s0) ?_
        refine rJ_ialdK (k := ((mPlace S s0).toNatClampNeg % 8)) X rfl ⟨Nat.mod_lt _ (by decide), by decide⟩ (hw.1 _ _ rfl) dX11_fires_153 ?_
        refine rJ_icmp_lt (tgt := 161) X dX11_fires_154 (by decide) (fun a3 => ?_) (fun a3 => ?_)
        · refine rJ_iconst (v := 0) X dX11_fires_161 (by decide) ?_
          exact rJ_zretZ hZ X dX11_fires_162 rfl ⟨by clear X hZ; simp only [mFires, mLat]; grind, rfl, rfl, rfl, rfl⟩
        · refine rJ_iconst (v := 1) X dX11_fires_157 (by decide) ?_
          refine rJ_goto (tgt := 162) X dX11_fires_158 (by decide) ?_
          exact rJ_zretZ hZ X dX11_fires_162 rfl ⟨by clear X hZ; simp only [mFires, mLat]; grind, rfl, rfl, rfl, rfl⟩
  have K90 : (¬ (s0 + 1 < st ∧ ¬ S 115 (s0 + 1) = 0)) → (¬ (nI s0 = S 104 1 ∧ (mR1 (mKind S (S 114 s0)) ∧ ¬ mRdy S st s0 (S 108 (S 114 s0).toNatClampNeg) = true ∨ mR2 (mKind S (S 114 s0)) ∧ ¬ mRdy S st s0 (S 109 (S 114 s0).toNatClampNeg) = true))) → rJ p l e (mR 5) s m args below meth c D vwCl mty b 4 Z 0 0 A Sh S G [(0, .ref (A 100)), (1, .int (nI s0)), (2, .int (S 114 s0)), (3, .int (mKind S (S 114 s0)))] 90 [] := by
    intro k1 k2
    refine rJ_iload_n X dX11_fires_90 rfl rfl ?_
    refine rJ_aload_n X dX11_fires_91 rfl rfl ?_
    refine rJ_getR X fX11_17 (hw.1 _ _ rfl) (hw.2 _ _ rfl) dX11_fires_92 ?_
    refine rJ_iconst (v := 4) X dX11_fires_95 (by decide) ?_
    refine rJ_ialdK (k := 4) X (by decide) ⟨by decide, by decide⟩ (hw.1 _ _ rfl) dX11_fires_96 ?_
    refine rJ_icmp_ne (tgt := 115) X dX11_fires_97 (by decide) (fun a1 => ?_) (fun a1 => ?_)
    · exact rJ_lv _ rfl (K115 k1 k2 (by clear X hZ K115; grind))
    · refine rJ_iload_n X dX11_fires_100 rfl rfl ?_
      refine rJ_iconst (v := 5) X dX11_fires_101 (by decide) ?_
      refine rJ_icmp_ne (tgt := 115) X dX11_fires_102 (by decide) (fun a2 => ?_) (fun a2 => ?_)
      · exact rJ_lv _ rfl (K115 k1 k2 (by clear X hZ K115; grind))
      · refine rJ_aload_n X dX11_fires_105 rfl rfl ?_
        refine rJ_iload_n X dX11_fires_106 rfl rfl ?_
        refine rJ_Vi1 X gX11_153 (cM_hasOlderStore hw hs h40 h2 h8 hlt h27) (hw.1 _ _ rfl) dX11_fires_107 (by decide) (Nat.le_of_ble_eq_true rfl) ⟨Nat.le_refl _, Nat.le_refl _⟩ ?_
        refine rJ_if_eq (tgt := 115) X dX11_fires_110 (by decide) (fun a3 => ?_) (fun a3 => ?_)
        · try replace a3 := z_f a3
          exact rJ_lv _ rfl (K115 k1 k2 (by clear X hZ K115; grind))
        · try replace a3 := z_t a3
          refine rJ_iconst (v := 0) X dX11_fires_113 (by decide) ?_
          exact rJ_zretZ hZ X dX11_fires_114 rfl ⟨by clear X hZ K115; simp only [mFires, mLat]; grind, rfl, rfl, rfl, rfl⟩
  have K23 : (¬ (s0 + 1 < st ∧ ¬ S 115 (s0 + 1) = 0)) → rJ p l e (mR 5) s m args below meth c D vwCl mty b 4 Z 0 0 A Sh S G [(0, .ref (A 100)), (1, .int (nI s0))] 23 [] := by
    intro k1
    refine rJ_aload_n X dX11_fires_23 rfl rfl ?_
    refine rJ_getR X fX11_44 (hw.1 _ _ rfl) (hw.2 _ _ rfl) dX11_fires_24 ?_
    refine rJ_iload_n X dX11_fires_27 rfl rfl ?_
    refine rJ_ialdK (k := s0) X rfl ⟨by omega, by omega⟩ (hw.1 _ _ rfl) dX11_fires_28 ?_
    refine rJ_istore_n X dX11_fires_29 rfl (by decide) ?_
    refine rJ_aload_n X dX11_fires_30 rfl rfl ?_
    refine rJ_iload_n X dX11_fires_31 rfl rfl ?_
    refine rJ_Vi1 X gX11_129 (cM_kindOf hw _ hs h40) (hw.1 _ _ rfl) dX11_fires_32 (by decide) (Nat.le_of_ble_eq_true rfl) ⟨Nat.le_refl _, Nat.le_refl _⟩ ?_
    refine rJ_istore_n X dX11_fires_35 rfl (by decide) ?_
    refine rJ_iload_n X dX11_fires_36 rfl rfl ?_
    refine rJ_aload_n X dX11_fires_37 rfl rfl ?_
    refine rJ_getR X fX11_17 (hw.1 _ _ rfl) (hw.2 _ _ rfl) dX11_fires_38 ?_
    refine rJ_iconst (v := 1) X dX11_fires_41 (by decide) ?_
    refine rJ_ialdK (k := 1) X (by decide) ⟨by decide, by decide⟩ (hw.1 _ _ rfl) dX11_fires_42 ?_
    refine rJ_icmp_ne (tgt := 90) X dX11_fires_43 (by decide) (fun a1 => ?_) (fun a1 => ?_)
    · exact rJ_lv _ rfl (K90 k1 (by clear X hZ K115 K90; grind))
    · refine rJ_iload_n X dX11_fires_46 rfl rfl ?_
      refine rJ_Si1 X gX11_143 (cM_readsOne _) dX11_fires_47 (by decide) (Nat.le_of_ble_eq_true rfl) ⟨Nat.le_refl _, Nat.le_refl _⟩ ?_
      refine rJ_if_eq (tgt := 67) X dX11_fires_50 (by decide) (fun a2 => ?_) (fun a2 => ?_)
      · try replace a2 := z_f a2
        refine rJ_iload_n X dX11_fires_67 rfl rfl ?_
        refine rJ_Si1 X gX11_150 (cM_readsTwo _) dX11_fires_68 (by decide) (Nat.le_of_ble_eq_true rfl) ⟨Nat.le_refl _, Nat.le_refl _⟩ ?_
        refine rJ_if_eq (tgt := 90) X dX11_fires_71 (by decide) (fun a3 => ?_) (fun a3 => ?_)
        · try replace a3 := z_f a3
          exact rJ_lv _ rfl (K90 k1 (by clear X hZ K115 K90; grind))
        · try replace a3 := z_t a3
          refine rJ_aload_n X dX11_fires_74 rfl rfl ?_
          refine rJ_iload_n X dX11_fires_75 rfl rfl ?_
          refine rJ_aload_n X dX11_fires_76 rfl rfl ?_
          refine rJ_getR X fX11_32 (hw.1 _ _ rfl) (hw.2 _ _ rfl) dX11_fires_77 ?_
          refine rJ_iload_n X dX11_fires_80 rfl rfl ?_
          refine rJ_iald X (hw.1 _ _ rfl) (mKind_ne hs h40 (by grind)) dX11_fires_81 ?_
          refine rJ_Vi2 X gX11_147 (cM_isReady hw _ hs h40 h2 h8 hlt (hV _ (by grind)).2.2) (hw.1 _ _ rfl) dX11_fires_82 (by decide) (Nat.le_of_ble_eq_true rfl) ⟨Nat.le_refl _, Nat.le_refl _⟩ ?_
          refine rJ_if_ne (tgt := 90) X dX11_fires_85 (by decide) (fun a4 => ?_) (fun a4 => ?_)
          · try replace a4 := z_t a4
            exact rJ_lv _ rfl (K90 k1 (by clear X hZ K115 K90; grind))
          · try replace a4 := z_f a4
            refine rJ_iconst (v := 0) X dX11_fires_88 (by decide) ?_
            exact rJ_zretZ hZ X dX11_fires_89 rfl ⟨by clear X hZ; simp only [mFires, mLat]; grind, rfl, rfl, rfl, rfl⟩
      · try replace a2 := z_t a2
        refine rJ_aload_n X dX11_fires_53 rfl rfl ?_
        refine rJ_iload_n X dX11_fires_54 rfl rfl ?_
        refine rJ_aload_n X dX11_fires_55 rfl rfl ?_
        refine rJ_getR X fX11_29 (hw.1 _ _ rfl) (hw.2 _ _ rfl) dX11_fires_56 ?_
        refine rJ_iload_n X dX11_fires_59 rfl rfl ?_
        refine rJ_iald X (hw.1 _ _ rfl) (mKind_ne hs h40 (by grind)) dX11_fires_60 ?_
        refine rJ_Vi2 X gX11_147 (cM_isReady hw _ hs h40 h2 h8 hlt (hV _ (by grind)).2.1) (hw.1 _ _ rfl) dX11_fires_61 (by decide) (Nat.le_of_ble_eq_true rfl) ⟨Nat.le_refl _, Nat.le_refl _⟩ ?_
        refine rJ_if_eq (tgt := 88) X dX11_fires_64 (by decide) (fun a5 => ?_) (fun a5 => ?_)
        · try replace a5 := z_f a5
          refine rJ_iconst (v := 0) X dX11_fires_88 (by decide) ?_
          exact rJ_zretZ hZ X dX11_fires_89 rfl ⟨by clear X hZ; simp only [mFires, mLat]; grind, rfl, rfl, rfl, rfl⟩
        · try replace a5 := z_t a5
          refine rJ_iload_n X dX11_fires_67 rfl rfl ?_
          refine rJ_Si1 X gX11_150 (cM_readsTwo _) dX11_fires_68 (by decide) (Nat.le_of_ble_eq_true rfl) ⟨Nat.le_refl _, Nat.le_refl _⟩ ?_
          refine rJ_if_eq (tgt := 90) X dX11_fires_71 (by decide) (fun a6 => ?_) (fun a6 => ?_)
          · try replace a6 := z_f a6
            exact rJ_lv _ rfl (K90 k1 (by clear X hZ K115 K90; grind))
          · try replace a6 := z_t a6
            refine rJ_aload_n X dX11_fires_74 rfl rfl ?_
            refine rJ_iload_n X dX11_fires_75 rfl rfl ?_
            refine rJ_aload_n X dX11_fires_76 rfl rfl ?_
            refine rJ_getR X fX11_32 (hw.1 _ _ rfl) (hw.2 _ _ rfl) dX11_fires_77 ?_
            refine rJ_iload_n X dX11_fires_80 rfl rfl ?_
            refine rJ_iald X (hw.1 _ _ rfl) (mKind_ne hs h40 (by grind)) dX11_fires_81 ?_
            refine rJ_Vi2 X gX11_147 (cM_isReady hw _ hs h40 h2 h8 hlt (hV _ (by grind)).2.2) (hw.1 _ _ rfl) dX11_fires_82 (by decide) (Nat.le_of_ble_eq_true rfl) ⟨Nat.le_refl _, Nat.le_refl _⟩ ?_
            refine rJ_if_ne (tgt := 90) X dX11_fires_85 (by decide) (fun a7 => ?_) (fun a7 => ?_)
            · try replace a7 := z_t a7
              exact rJ_lv _ rfl (K90 k1 (by clear X hZ K115 K90; grind))
            · try replace a7 := z_f a7
              refine rJ_iconst (v := 0) X dX11_fires_88 (by decide) ?_
              exact rJ_zretZ hZ X dX11_fires_89 rfl ⟨by clear X hZ; simp only [mFires, mLat]; grind, rfl, rfl, rfl, rfl⟩
  refine rJ_iload_n X dX11_fires_0 rfl rfl ?_
  refine rJ_iconst (v := 1) X dX11_fires_1 (by decide) ?_
  refine rJ_iadd X dX11_fires_2 ?_
  refine rJ_as (nI (s0 + 1)) (nI_1 s0) ?_
  refine rJ_aload_n X dX11_fires_3 rfl rfl ?_
  refine rJ_getI X fX11_13 (hw.1 _ _ rfl) dX11_fires_4 ?_
  refine rJ_icmp_ge (tgt := 23) X dX11_fires_7 (by decide) (fun c1 => ?_) (fun c1 => ?_)
  · rw [h2, nI_leI (by omega) (by omega)] at c1
    exact rJ_lv _ rfl (K23 (by clear X hZ K115 K90 K23; grind))
  · rw [h2, nI_leI (by omega) (by omega)] at c1
    refine rJ_aload_n X dX11_fires_10 rfl rfl ?_
    refine rJ_getR X fX11_47 (hw.1 _ _ rfl) (hw.2 _ _ rfl) dX11_fires_11 ?_
    refine rJ_iload_n X dX11_fires_14 rfl rfl ?_
    refine rJ_iconst (v := 1) X dX11_fires_15 (by decide) ?_
    refine rJ_iadd X dX11_fires_16 ?_
    refine rJ_as (nI (s0 + 1)) (nI_1 s0) ?_
    refine rJ_zaldK (k := (s0 + 1)) X rfl ⟨by omega, by omega⟩ (hw.1 _ _ rfl) dX11_fires_17 ?_
    refine rJ_if_eq (tgt := 23) X dX11_fires_18 (by decide) (fun c2 => ?_) (fun c2 => ?_)
    · exact rJ_lv _ rfl (K23 (by clear X hZ K115 K90 K23; grind))
    · refine rJ_iconst (v := 0) X dX11_fires_21 (by decide) ?_
      exact rJ_zretZ hZ X dX11_fires_22 rfl ⟨by clear X hZ; simp only [mFires, mLat]; grind, rfl, rfl, rfl, rfl⟩
