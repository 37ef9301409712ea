theorem in_rng {x hi : Int32} {n : Nat} (h : 0 ≤ x ∧ x ≤ hi) (hn : hi.toInt < n) : vp_in x n := by
  rw [i_le, i_le] at h
  have e0 : (0 : Int32).toInt = 0 := rfl
  rw [e0] at h
  exact in_i (by omega) (by omega)
def mAn (S : mI) (i j : Nat) : mI := fun r k => if r = 100 ∧ (k = 20 ∨ k = 21 ∨ k = 22 ∨ k = 23 ∨ k = 32) then 0 else if (r = 115 ∨ r = 125 ∨ r = 126) ∧ k < i then 0 else if r = 127 ∧ k < j then S 112 k else S r k
theorem mAn_1 (S : mI) (i : Nat) : mu (mu (mu (mAn S i 0) 115 i 0) 125 i 0) 126 i 0 = mAn S (i + 1) 0 := by
  funext r k
  simp only [mu, mAn]
  grind
theorem mAn_2 (S : mI) (i j : Nat) : mu (mAn S i j) 127 j (mAn S i j 112 j) = mAn S i (j + 1) := by
  funext r k
  simp only [mu, mAn]
  grind
theorem mAn_0 (S : mI) : mu (mu (mu (mu (mu S 100 20 0) 100 21 0) 100 22 0) 100 23 0) 100 32 0 = mAn S 0 0 := by
  funext r k
  simp only [mu, mAn]
  grind
/-- the line begins anew -/
abbrev mAnew (S : mI) : mI := mAn S 8 64
set_option maxHeartbeats 4000000 in
set_option maxRecDepth 100000 in
theorem cM_anew {l : Launch} {D : va_G} {b : Nat} {A : Nat → Nat} {Sh : mS} {S : mI} {G : mP} (hw : okM Sh G) : rMet l D b yX11_anew cX11_anew 2 none (mR 0) A Sh S G [.ref (A 100)] (rPv A Sh (mAnew S) G) := by
  refine rMet_oz RX11 rfl (by decide) (Nat.le_of_ble_eq_true rfl) ?_
  intro p e s m args below meth c Z hZ X hnm
  have loop2 : ∀ (f k : Nat) (U : mI), U = mAn S 8 k → k ≤ 64 → 64 - k < f → rJ p l e (mR 0) s m args below meth c D vwCl mty b 2 Z 0 0 A Sh U G [(0, .ref (A 100)), (1, .int (nI k))] 62 [] := by
    intro f
    induction f with
    | zero => intro k U hU h1 h3; exact absurd h3 (by omega)
    | succ f ih =>
      intro k U hU h1 h3
      refine rJ_iload_n X dX11_anew_62 rfl rfl ?_
      refine rJ_bipush (v := 64) X dX11_anew_63 (by decide) ?_
      refine rJ_icmp_ge (tgt := 86) X dX11_anew_65 (by decide) (fun a1 => ?_) (fun a1 => ?_)
      · rw [show (64 : Int32) = nI 64 from rfl, nI_leI (by omega) (by omega)] at a1
        exact rJ_vretZ hZ X dX11_anew_86 ⟨rfl, rfl, rfl, by rw [hU, show k = 64 by omega], rfl⟩
      · rw [show (64 : Int32) = nI 64 from rfl, nI_leI (by omega) (by omega)] at a1
        refine rJ_aload_n X dX11_anew_68 rfl rfl ?_
        refine rJ_getR X fX11_72 (hw.1 _ _ rfl) (hw.2 _ _ rfl) dX11_anew_69 ?_
        refine rJ_iload_n X dX11_anew_72 rfl rfl ?_
        refine rJ_aload_n X dX11_anew_73 rfl rfl ?_
        refine rJ_getR X fX11_38 (hw.1 _ _ rfl) (hw.2 _ _ rfl) dX11_anew_74 ?_
        refine rJ_iload_n X dX11_anew_77 rfl rfl ?_
        refine rJ_ialdK (k := k) X rfl ⟨by omega, by omega⟩ (hw.1 _ _ rfl) dX11_anew_78 ?_
        refine rJ_iastK (k := k) X rfl ⟨by omega, by omega⟩ (hw.1 _ _ rfl) dX11_anew_79 (fun S79 hS79 => ?_)
        refine rJ_inc (n := 1) (w := 1) X dX11_anew_80 rfl (by decide) (by decide) ?_
        rw [nI_1 k]
        refine rJ_goto (tgt := 62) X dX11_anew_83 (by decide) ?_
        exact rJ_lv _ rfl (ih (k + 1) _ (by rw [hS79, hU, mAn_2]) (by omega) (by omega))
  have loop1 : ∀ (f k : Nat) (U : mI), U = mAn S k 0 → k ≤ 8 → 8 - k < f → rJ p l e (mR 0) s m args below meth c D vwCl mty b 2 Z 0 0 A Sh U G [(0, .ref (A 100)), (1, .int (nI k))] 27 [] := by
    intro f
    induction f with
    | zero => intro k U hU h1 h3; exact absurd h3 (by omega)
    | succ f ih =>
      intro k U hU h1 h3
      refine rJ_iload_n X dX11_anew_27 rfl rfl ?_
      refine rJ_bipush (v := 8) X dX11_anew_28 (by decide) ?_
      refine rJ_icmp_ge (tgt := 60) X dX11_anew_30 (by decide) (fun a1 => ?_) (fun a1 => ?_)
      · rw [show (8 : Int32) = nI 8 from rfl, nI_leI (by omega) (by omega)] at a1
        refine rJ_iconst (v := 0) X dX11_anew_60 (by decide) ?_
        refine rJ_istore_n X dX11_anew_61 rfl (by decide) ?_
        exact rJ_lv _ rfl (loop2 65 0 U (by rw [hU, show k = 8 by omega]) (by omega) (by omega))
      · rw [show (8 : Int32) = nI 8 from rfl, nI_leI (by omega) (by omega)] at a1
        refine rJ_aload_n X dX11_anew_33 rfl rfl ?_
        refine rJ_getR X fX11_47 (hw.1 _ _ rfl) (hw.2 _ _ rfl) dX11_anew_34 ?_
        refine rJ_iload_n X dX11_anew_37 rfl rfl ?_
        refine rJ_iconst (v := 0) X dX11_anew_38 (by decide) ?_
        refine rJ_zastK (k := k) X rfl ⟨by omega, by omega⟩ (hw.1 _ _ rfl) rfl dX11_anew_39 (fun S39 hS39 => ?_)
        refine rJ_aload_n X dX11_anew_40 rfl rfl ?_
        refine rJ_getR X fX11_66 (hw.1 _ _ rfl) (hw.2 _ _ rfl) dX11_anew_41 ?_
        refine rJ_iload_n X dX11_anew_44 rfl rfl ?_
        refine rJ_iconst (v := 0) X dX11_anew_45 (by decide) ?_
        refine rJ_iastK (k := k) X rfl ⟨by omega, by omega⟩ (hw.1 _ _ rfl) dX11_anew_46 (fun S46 hS46 => ?_)
        refine rJ_aload_n X dX11_anew_47 rfl rfl ?_
        refine rJ_getR X fX11_69 (hw.1 _ _ rfl) (hw.2 _ _ rfl) dX11_anew_48 ?_
        refine rJ_iload_n X dX11_anew_51 rfl rfl ?_
        refine rJ_iconst (v := 0) X dX11_anew_52 (by decide) ?_
        refine rJ_iastK (k := k) X rfl ⟨by omega, by omega⟩ (hw.1 _ _ rfl) dX11_anew_53 (fun S53 hS53 => ?_)
        refine rJ_inc (n := 1) (w := 1) X dX11_anew_54 rfl (by decide) (by decide) ?_
        rw [nI_1 k]
        refine rJ_goto (tgt := 27) X dX11_anew_57 (by decide) ?_
        exact rJ_lv _ rfl (ih (k + 1) _ (by rw [hS53, hS46, hS39, hU, mAn_1]) (by omega) (by omega))
  refine rJ_aload_n X dX11_anew_0 rfl rfl ?_
  refine rJ_iconst (v := 0) X dX11_anew_1 (by decide) ?_
  refine rJ_setI X fX11_99 (Or.inl fwX11_99) (hw.1 _ _ rfl) ⟨rfl, rfl⟩ dX11_anew_2 (fun S2 hS2 => ?_)
  refine rJ_aload_n X dX11_anew_5 rfl rfl ?_
  refine rJ_iconst (v := 0) X dX11_anew_6 (by decide) ?_
  refine rJ_setI X fX11_102 (Or.inl fwX11_102) (hw.1 _ _ rfl) ⟨by decide, by decide⟩ dX11_anew_7 (fun S7 hS7 => ?_)
  refine rJ_aload_n X dX11_anew_10 rfl rfl ?_
  refine rJ_iconst (v := 0) X dX11_anew_11 (by decide) ?_
  refine rJ_setI X fX11_106 (Or.inl fwX11_106) (hw.1 _ _ rfl) ⟨rfl, rfl⟩ dX11_anew_12 (fun S12 hS12 => ?_)
  refine rJ_aload_n X dX11_anew_15 rfl rfl ?_
  refine rJ_iconst (v := 0) X dX11_anew_16 (by decide) ?_
  refine rJ_setI X fX11_109 (Or.inl fwX11_109) (hw.1 _ _ rfl) ⟨rfl, rfl⟩ dX11_anew_17 (fun S17 hS17 => ?_)
  refine rJ_aload_n X dX11_anew_20 rfl rfl ?_
  refine rJ_iconst (v := 0) X dX11_anew_21 (by decide) ?_
  refine rJ_setI X fX11_112 (Or.inl fwX11_112) (hw.1 _ _ rfl) ⟨rfl, rfl⟩ dX11_anew_22 (fun S22 hS22 => ?_)
  refine rJ_iconst (v := 0) X dX11_anew_25 (by decide) ?_
  refine rJ_istore_n X dX11_anew_26 rfl (by decide) ?_
  exact rJ_lv _ rfl (loop1 9 0 _ (by rw [hS22, hS17, hS12, hS7, hS2, mAn_0]) (by omega) (by omega))
def mUnit (S : mI) (u : Int32) : mI := mu (mu S 101 (S 100 1).toNatClampNeg u) 100 1 (S 100 1 + 1)
set_option maxHeartbeats 4000000 in
set_option maxRecDepth 100000 in
theorem cM_unit {l : Launch} {D : va_G} {b : Nat} {A : Nat → Nat} {Sh : mS} {S : mI} {G : mP} (hw : okM Sh G) (u : Int32) (h30 : 0 ≤ (S 100 1).toInt ∧ (S 100 1).toInt ≤ 30) : rMet l D b yX11_unit cX11_unit 2 (some .boolean) (mR 1) A Sh S G [.ref (A 100), .int u] (rPi A Sh (if (32 ≤ u ∧ u ≤ 126) ∧ ¬ S 100 1 = 30 then 1 else 0) (if (32 ≤ u ∧ u ≤ 126) ∧ ¬ S 100 1 = 30 then mUnit S u else S) G) := by
  refine rMet_oz RX11 rfl (by decide) (Nat.le_of_ble_eq_true rfl) ?_
  intro p e s m args below meth c Z hZ X hnm
  refine rJ_iload_n X dX11_unit_0 rfl rfl ?_
  refine rJ_bipush (v := 32) X dX11_unit_1 (by decide) ?_
  refine rJ_bipush (v := 126) X dX11_unit_3 (by decide) ?_
  refine rJ_Si3 X gX11_115 (cM_isIn _ _ _) dX11_unit_5 (by decide) (Nat.le_of_ble_eq_true rfl) ⟨Nat.le_refl _, Nat.le_refl _⟩ ?_
  refine rJ_if_eq (tgt := 20) X dX11_unit_8 (by decide) (fun c1 => ?_) (fun c1 => ?_)
  · try replace c1 := z_f c1
    refine rJ_iconst (v := 0) X dX11_unit_20 (by decide) ?_
    exact rJ_zretZ hZ X dX11_unit_21 rfl ⟨by first | rw [if_neg (fun q => c1 q.1)] | rw [if_neg (fun q => q.2 c2)], rfl, rfl, by first | rw [if_neg (fun q => c1 q.1)] | rw [if_neg (fun q => q.2 c2)], rfl⟩
  · try replace c1 := z_t c1
    refine rJ_aload_n X dX11_unit_11 rfl rfl ?_
    refine rJ_getI X fX11_119 (hw.1 _ _ rfl) dX11_unit_12 ?_
    refine rJ_bipush (v := 30) X dX11_unit_15 (by decide) ?_
    refine rJ_icmp_ne (tgt := 22) X dX11_unit_17 (by decide) (fun c2 => ?_) (fun c2 => ?_)
    · refine rJ_aload_n X dX11_unit_22 rfl rfl ?_
      refine rJ_getR X fX11_7 (hw.1 _ _ rfl) (hw.2 _ _ rfl) dX11_unit_23 ?_
      refine rJ_aload_n X dX11_unit_26 rfl rfl ?_
      refine rJ_getI X fX11_119 (hw.1 _ _ rfl) dX11_unit_27 ?_
      refine rJ_iload_n X dX11_unit_30 rfl rfl ?_
      refine rJ_iast X (hw.1 _ _ rfl) (in_i h30.1 (by have e9 : (30 : Int32).toInt = 30 := rfl; rw [i_eq, e9] at c2; omega)) dX11_unit_31 (fun S31 hS31 => ?_)
      refine rJ_aload_n X dX11_unit_32 rfl rfl ?_
      refine rJ_dup X dX11_unit_33 rfl ?_
      refine rJ_getI X fX11_119 (hw.1 _ _ rfl) dX11_unit_34 ?_
      refine rJ_iconst (v := 1) X dX11_unit_37 (by decide) ?_
      refine rJ_iadd X dX11_unit_38 ?_
      refine rJ_setI X fX11_119 (Or.inl fwX11_119) (hw.1 _ _ rfl) ⟨rfl, rfl⟩ dX11_unit_39 (fun S39 hS39 => ?_)
      refine rJ_iconst (v := 1) X dX11_unit_42 (by decide) ?_
      exact rJ_zretZ hZ X dX11_unit_43 rfl ⟨by rw [if_pos ⟨c1, c2⟩], rfl, rfl, by rw [if_pos ⟨c1, c2⟩]; subst hS39; subst hS31; simp [mUnit, mu_na], rfl⟩
    · refine rJ_iconst (v := 0) X dX11_unit_20 (by decide) ?_
      exact rJ_zretZ hZ X dX11_unit_21 rfl ⟨by first | rw [if_neg (fun q => c1 q.1)] | rw [if_neg (fun q => q.2 c2)], rfl, rfl, by first | rw [if_neg (fun q => c1 q.1)] | rw [if_neg (fun q => q.2 c2)], rfl⟩
abbrev mCodeOk (S : mI) (k d a b : Int32) : Prop := (0 ≤ k ∧ k ≤ 9) ∧ (0 ≤ d ∧ d ≤ 7) ∧ (0 ≤ a ∧ a ≤ 7) ∧ (0 ≤ b ∧ b ≤ 7) ∧ ¬ S 100 10 = 40
def mCode (S : mI) (k d a b i : Int32) : mI := mAnew (mu (mu (mu (mu (mu (mu S 106 (S 100 10).toNatClampNeg k) 107 (S 100 10).toNatClampNeg d) 108 (S 100 10).toNatClampNeg a) 109 (S 100 10).toNatClampNeg b) 110 (S 100 10).toNatClampNeg i) 100 10 (S 100 10 + 1))
theorem mAnew_0 (S : mI) {k : Nat} (h : k ≠ 20 ∧ k ≠ 21 ∧ k ≠ 22 ∧ k ≠ 23 ∧ k ≠ 32) : mAnew S 100 k = S 100 k := by simp [mAn, h]
set_option maxHeartbeats 4000000 in
set_option maxRecDepth 100000 in
theorem cM_code {l : Launch} {D : va_G} {b : Nat} {A : Nat → Nat} {Sh : mS} {S : mI} {G : mP} (hw : okM Sh G) (k d a b2 i : Int32) (h40 : 0 ≤ (S 100 10).toInt ∧ (S 100 10).toInt ≤ 40) : rMet l D b yX11_code cX11_code 6 (some .int) (mR 1) A Sh S G [.ref (A 100), .int k, .int d, .int a, .int b2, .int i] (rPi A Sh (if mCodeOk S k d a b2 then S 100 10 else -1) (if mCodeOk S k d a b2 then mCode S k d a b2 i else S) G) := by
  refine rMet_oz RX11 rfl (by decide) (Nat.le_of_ble_eq_true rfl) ?_
  intro p e s m args below meth c Z hZ X hnm
  refine rJ_iload_n X dX11_code_0 rfl rfl ?_
  refine rJ_iconst (v := 0) X dX11_code_1 (by decide) ?_
  refine rJ_bipush (v := 9) X dX11_code_2 (by decide) ?_
  refine rJ_Si3 X gX11_115 (cM_isIn _ _ _) dX11_code_4 (by decide) (Nat.le_of_ble_eq_true rfl) ⟨Nat.le_refl _, Nat.le_refl _⟩ ?_
  refine rJ_if_eq (tgt := 50) X dX11_code_7 (by decide) (fun c1 => ?_) (fun c1 => ?_)
  · try replace c1 := z_f c1
    refine rJ_iconst (v := (-1)) X dX11_code_50 (by decide) ?_
    exact rJ_iretZ hZ X dX11_code_51 ⟨by rw [if_neg (by clear X hZ; grind)], rfl, rfl, by rw [if_neg (by clear X hZ; grind)], rfl⟩
  · try replace c1 := z_t c1
    refine rJ_iload_n X dX11_code_10 rfl rfl ?_
    refine rJ_iconst (v := 0) X dX11_code_11 (by decide) ?_
    refine rJ_bipush (v := 7) X dX11_code_12 (by decide) ?_
    refine rJ_Si3 X gX11_115 (cM_isIn _ _ _) dX11_code_14 (by decide) (Nat.le_of_ble_eq_true rfl) ⟨Nat.le_refl _, Nat.le_refl _⟩ ?_
    refine rJ_if_eq (tgt := 50) X dX11_code_17 (by decide) (fun c2 => ?_) (fun c2 => ?_)
    · try replace c2 := z_f c2
      refine rJ_iconst (v := (-1)) X dX11_code_50 (by decide) ?_
      exact rJ_iretZ hZ X dX11_code_51 ⟨by rw [if_neg (by clear X hZ; grind)], rfl, rfl, by rw [if_neg (by clear X hZ; grind)], rfl⟩
    · try replace c2 := z_t c2
      refine rJ_iload_n X dX11_code_20 rfl rfl ?_
      refine rJ_iconst (v := 0) X dX11_code_21 (by decide) ?_
      refine rJ_bipush (v := 7) X dX11_code_22 (by decide) ?_
      refine rJ_Si3 X gX11_115 (cM_isIn _ _ _) dX11_code_24 (by decide) (Nat.le_of_ble_eq_true rfl) ⟨Nat.le_refl _, Nat.le_refl _⟩ ?_
      refine rJ_if_eq (tgt := 50) X dX11_code_27 (by decide) (fun c3 => ?_) (fun c3 => ?_)
      · try replace c3 := z_f c3
        refine rJ_iconst (v := (-1)) X dX11_code_50 (by decide) ?_
        exact rJ_iretZ hZ X dX11_code_51 ⟨by rw [if_neg (by clear X hZ; grind)], rfl, rfl, by rw [if_neg (by clear X hZ; grind)], rfl⟩
      · try replace c3 := z_t c3
        refine rJ_iload X dX11_code_30 rfl ?_
        refine rJ_iconst (v := 0) X dX11_code_32 (by decide) ?_
        refine rJ_bipush (v := 7) X dX11_code_33 (by decide) ?_
        refine rJ_Si3 X gX11_115 (cM_isIn _ _ _) dX11_code_35 (by decide) (Nat.le_of_ble_eq_true rfl) ⟨Nat.le_refl _, Nat.le_refl _⟩ ?_
        refine rJ_if_eq (tgt := 50) X dX11_code_38 (by decide) (fun c4 => ?_) (fun c4 => ?_)
        · try replace c4 := z_f c4
          refine rJ_iconst (v := (-1)) X dX11_code_50 (by decide) ?_
          exact rJ_iretZ hZ X dX11_code_51 ⟨by rw [if_neg (by clear X hZ; grind)], rfl, rfl, by rw [if_neg (by clear X hZ; grind)], rfl⟩
        · try replace c4 := z_t c4
          refine rJ_aload_n X dX11_code_41 rfl rfl ?_
          refine rJ_getI X fX11_126 (hw.1 _ _ rfl) dX11_code_42 ?_
          refine rJ_bipush (v := 40) X dX11_code_45 (by decide) ?_
          refine rJ_icmp_ne (tgt := 52) X dX11_code_47 (by decide) (fun c5 => ?_) (fun c5 => ?_)
          · refine rJ_aload_n X dX11_code_52 rfl rfl ?_
            refine rJ_getR X fX11_23 (hw.1 _ _ rfl) (hw.2 _ _ rfl) dX11_code_53 ?_
            refine rJ_aload_n X dX11_code_56 rfl rfl ?_
            refine rJ_getI X fX11_126 (hw.1 _ _ rfl) dX11_code_57 ?_
            refine rJ_iload_n X dX11_code_60 rfl rfl ?_
            refine rJ_iast X (hw.1 _ _ rfl) (in_i h40.1 (by have e9 : (40 : Int32).toInt = 40 := rfl; rw [i_eq, e9] at c5; omega)) dX11_code_61 (fun S61 hS61 => ?_)
            refine rJ_aload_n X dX11_code_62 rfl rfl ?_
            refine rJ_getR X fX11_26 (hw.1 _ _ rfl) (hw.2 _ _ rfl) dX11_code_63 ?_
            refine rJ_aload_n X dX11_code_66 rfl rfl ?_
            refine rJ_getI X fX11_126 (hw.1 _ _ rfl) dX11_code_67 ?_
            refine rJ_as (S 100 10) (by rw [hS61]; simp [mu_na]) ?_
            refine rJ_iload_n X dX11_code_70 rfl rfl ?_
            refine rJ_iast X (hw.1 _ _ rfl) (in_i h40.1 (by have e9 : (40 : Int32).toInt = 40 := rfl; rw [i_eq, e9] at c5; omega)) dX11_code_71 (fun S71 hS71 => ?_)
            refine rJ_aload_n X dX11_code_72 rfl rfl ?_
            refine rJ_getR X fX11_29 (hw.1 _ _ rfl) (hw.2 _ _ rfl) dX11_code_73 ?_
            refine rJ_aload_n X dX11_code_76 rfl rfl ?_
            refine rJ_getI X fX11_126 (hw.1 _ _ rfl) dX11_code_77 ?_
            refine rJ_as (S 100 10) (by rw [hS71, hS61]; simp [mu_na]) ?_
            refine rJ_iload_n X dX11_code_80 rfl rfl ?_
            refine rJ_iast X (hw.1 _ _ rfl) (in_i h40.1 (by have e9 : (40 : Int32).toInt = 40 := rfl; rw [i_eq, e9] at c5; omega)) dX11_code_81 (fun S81 hS81 => ?_)
            refine rJ_aload_n X dX11_code_82 rfl rfl ?_
            refine rJ_getR X fX11_32 (hw.1 _ _ rfl) (hw.2 _ _ rfl) dX11_code_83 ?_
            refine rJ_aload_n X dX11_code_86 rfl rfl ?_
            refine rJ_getI X fX11_126 (hw.1 _ _ rfl) dX11_code_87 ?_
            refine rJ_as (S 100 10) (by rw [hS81, hS71, hS61]; simp [mu_na]) ?_
            refine rJ_iload X dX11_code_90 rfl ?_
            refine rJ_iast X (hw.1 _ _ rfl) (in_i h40.1 (by have e9 : (40 : Int32).toInt = 40 := rfl; rw [i_eq, e9] at c5; omega)) dX11_code_92 (fun S92 hS92 => ?_)
            refine rJ_aload_n X dX11_code_93 rfl rfl ?_
            refine rJ_getR X fX11_35 (hw.1 _ _ rfl) (hw.2 _ _ rfl) dX11_code_94 ?_
            refine rJ_aload_n X dX11_code_97 rfl rfl ?_
            refine rJ_getI X fX11_126 (hw.1 _ _ rfl) dX11_code_98 ?_
            refine rJ_as (S 100 10) (by rw [hS92, hS81, hS71, hS61]; simp [mu_na]) ?_
            refine rJ_iload X dX11_code_101 rfl ?_
            refine rJ_iast X (hw.1 _ _ rfl) (in_i h40.1 (by have e9 : (40 : Int32).toInt = 40 := rfl; rw [i_eq, e9] at c5; omega)) dX11_code_103 (fun S103 hS103 => ?_)
            refine rJ_aload_n X dX11_code_104 rfl rfl ?_
            refine rJ_dup X dX11_code_105 rfl ?_
            refine rJ_getI X fX11_126 (hw.1 _ _ rfl) dX11_code_106 ?_
            refine rJ_iconst (v := 1) X dX11_code_109 (by decide) ?_
            refine rJ_iadd X dX11_code_110 ?_
            refine rJ_setI X fX11_126 (Or.inl fwX11_126) (hw.1 _ _ rfl) ⟨rfl, rfl⟩ dX11_code_111 (fun S111 hS111 => ?_)
            refine rJ_aload_n X dX11_code_114 rfl rfl ?_
            refine rJ_Vv0 X gX11_96 (cM_anew hw) (hw.1 _ _ rfl) dX11_code_115 (by decide) (Nat.le_of_ble_eq_true rfl) ⟨Nat.le_refl _, Nat.le_refl _⟩ ?_
            refine rJ_aload_n X dX11_code_118 rfl rfl ?_
            refine rJ_getI X fX11_126 (hw.1 _ _ rfl) dX11_code_119 ?_
            refine rJ_iconst (v := 1) X dX11_code_122 (by decide) ?_
            refine rJ_isub X dX11_code_123 ?_
            exact rJ_iretZ hZ X dX11_code_124 ⟨by rw [if_pos ⟨c1, c2, c3, c4, c5⟩, mAnew_0 _ (by decide)]; subst hS111; subst hS103; subst hS92; subst hS81; subst hS71; subst hS61; simp [mu, Int32.add_sub_cancel], rfl, rfl, by rw [if_pos ⟨c1, c2, c3, c4, c5⟩]; subst hS111; subst hS103; subst hS92; subst hS81; subst hS71; subst hS61; simp [mCode, mu_na], rfl⟩
          · refine rJ_iconst (v := (-1)) X dX11_code_50 (by decide) ?_
            exact rJ_iretZ hZ X dX11_code_51 ⟨by rw [if_neg (by clear X hZ; grind)], rfl, rfl, by rw [if_neg (by clear X hZ; grind)], rfl⟩
set_option maxHeartbeats 4000000 in
set_option maxRecDepth 100000 in
theorem cM_memory {l : Launch} {D : va_G} {b : Nat} {A : Nat → Nat} {Sh : mS} {S : mI} {G : mP} (hw : okM Sh G) (q v : Int32) : rMet l D b yX11_memory cX11_memory 3 (some .boolean) (mR 1) A Sh S G [.ref (A 100), .int q, .int v] (rPi A Sh (if 0 ≤ q ∧ q ≤ 63 then 1 else 0) (if 0 ≤ q ∧ q ≤ 63 then mAnew (mu S 112 q.toNatClampNeg v) else S) G) := by
  refine rMet_oz RX11 rfl (by decide) (Nat.le_of_ble_eq_true rfl) ?_
  intro p e s m args below meth c Z hZ X hnm
  refine rJ_iload_n X dX11_memory_0 rfl rfl ?_
  refine rJ_iconst (v := 0) X dX11_memory_1 (by decide) ?_
  refine rJ_bipush (v := 63) X dX11_memory_2 (by decide) ?_
  refine rJ_Si3 X gX11_115 (cM_isIn _ _ _) dX11_memory_4 (by decide) (Nat.le_of_ble_eq_true rfl) ⟨Nat.le_refl _, Nat.le_refl _⟩ ?_
  refine rJ_if_ne (tgt := 12) X dX11_memory_7 (by decide) (fun c1 => ?_) (fun c1 => ?_)
  · try replace c1 := z_t c1
    refine rJ_aload_n X dX11_memory_12 rfl rfl ?_
    refine rJ_getR X fX11_38 (hw.1 _ _ rfl) (hw.2 _ _ rfl) dX11_memory_13 ?_
    refine rJ_iload_n X dX11_memory_16 rfl rfl ?_
    refine rJ_iload_n X dX11_memory_17 rfl rfl ?_
    refine rJ_iast X (hw.1 _ _ rfl) (in_rng c1 (by decide)) dX11_memory_18 (fun S18 hS18 => ?_)
    refine rJ_aload_n X dX11_memory_19 rfl rfl ?_
    refine rJ_Vv0 X gX11_96 (cM_anew hw) (hw.1 _ _ rfl) dX11_memory_20 (by decide) (Nat.le_of_ble_eq_true rfl) ⟨Nat.le_refl _, Nat.le_refl _⟩ ?_
    refine rJ_iconst (v := 1) X dX11_memory_23 (by decide) ?_
    exact rJ_zretZ hZ X dX11_memory_24 rfl ⟨by rw [if_pos c1], rfl, rfl, by rw [if_pos c1, hS18], rfl⟩
  · try replace c1 := z_f c1
    refine rJ_iconst (v := 0) X dX11_memory_10 (by decide) ?_
    exact rJ_zretZ hZ X dX11_memory_11 rfl ⟨by rw [if_neg c1], rfl, rfl, by rw [if_neg c1], rfl⟩
set_option maxHeartbeats 4000000 in
set_option maxRecDepth 100000 in
theorem cM_latency {l : Launch} {D : va_G} {b : Nat} {A : Nat → Nat} {Sh : mS} {S : mI} {G : mP} (hw : okM Sh G) (q v : Int32) : rMet l D b yX11_latency cX11_latency 3 (some .boolean) (mR 1) A Sh S G [.ref (A 100), .int q, .int v] (rPi A Sh (if (0 ≤ q ∧ q ≤ 7) ∧ (1 ≤ v ∧ v ≤ 16) then 1 else 0) (if (0 ≤ q ∧ q ≤ 7) ∧ (1 ≤ v ∧ v ≤ 16) then mAnew (mu S 113 q.toNatClampNeg v) else S) G) := by
  refine rMet_oz RX11 rfl (by decide) (Nat.le_of_ble_eq_true rfl) ?_
  intro p e s m args below meth c Z hZ X hnm
  refine rJ_iload_n X dX11_latency_0 rfl rfl ?_
  refine rJ_iconst (v := 0) X dX11_latency_1 (by decide) ?_
  refine rJ_bipush (v := 7) X dX11_latency_2 (by decide) ?_
  refine rJ_Si3 X gX11_115 (cM_isIn _ _ _) dX11_latency_4 (by decide) (Nat.le_of_ble_eq_true rfl) ⟨Nat.le_refl _, Nat.le_refl _⟩ ?_
  refine rJ_if_eq (tgt := 20) X dX11_latency_7 (by decide) (fun c1 => ?_) (fun c1 => ?_)
  · try replace c1 := z_f c1
    refine rJ_iconst (v := 0) X dX11_latency_20 (by decide) ?_
    exact rJ_zretZ hZ X dX11_latency_21 rfl ⟨by rw [if_neg (by clear X hZ; grind)], rfl, rfl, by rw [if_neg (by clear X hZ; grind)], rfl⟩
  · try replace c1 := z_t c1
    refine rJ_iload_n X dX11_latency_10 rfl rfl ?_
    refine rJ_iconst (v := 1) X dX11_latency_11 (by decide) ?_
    refine rJ_bipush (v := 16) X dX11_latency_12 (by decide) ?_
    refine rJ_Si3 X gX11_115 (cM_isIn _ _ _) dX11_latency_14 (by decide) (Nat.le_of_ble_eq_true rfl) ⟨Nat.le_refl _, Nat.le_refl _⟩ ?_
    refine rJ_if_ne (tgt := 22) X dX11_latency_17 (by decide) (fun c2 => ?_) (fun c2 => ?_)
    · try replace c2 := z_t c2
      refine rJ_aload_n X dX11_latency_22 rfl rfl ?_
      refine rJ_getR X fX11_41 (hw.1 _ _ rfl) (hw.2 _ _ rfl) dX11_latency_23 ?_
      refine rJ_iload_n X dX11_latency_26 rfl rfl ?_
      refine rJ_iload_n X dX11_latency_27 rfl rfl ?_
      refine rJ_iast X (hw.1 _ _ rfl) (in_rng c1 (by decide)) dX11_latency_28 (fun S28 hS28 => ?_)
      refine rJ_aload_n X dX11_latency_29 rfl rfl ?_
      refine rJ_Vv0 X gX11_96 (cM_anew hw) (hw.1 _ _ rfl) dX11_latency_30 (by decide) (Nat.le_of_ble_eq_true rfl) ⟨Nat.le_refl _, Nat.le_refl _⟩ ?_
      refine rJ_iconst (v := 1) X dX11_latency_33 (by decide) ?_
      exact rJ_zretZ hZ X dX11_latency_34 rfl ⟨by rw [if_pos ⟨c1, c2⟩], rfl, rfl, by rw [if_pos ⟨c1, c2⟩, hS28], rfl⟩
    · try replace c2 := z_f c2
      refine rJ_iconst (v := 0) X dX11_latency_20 (by decide) ?_
      exact rJ_zretZ hZ X dX11_latency_21 rfl ⟨by rw [if_neg (by clear X hZ; grind)], rfl, rfl, by rw [if_neg (by clear X hZ; grind)], rfl⟩
set_option maxHeartbeats 4000000 in
set_option maxRecDepth 100000 in
theorem cM_cycle {l : Launch} {D : va_G} {b : Nat} {A : Nat → Nat} {Sh : mS} {S : mI} {G : mP} (hw : okM Sh G) : rMet l D b yX11_cycle cX11_cycle 1 (some .int) (mR 0) A Sh S G [.ref (A 100)] (rPi A Sh (S 100 20) S G) := by
  refine rMet_oz RX11 rfl (by decide) (Nat.le_of_ble_eq_true rfl) ?_
  intro p e s m args below meth c Z hZ X hnm
  refine rJ_aload_n X dX11_cycle_0 rfl rfl ?_
  refine rJ_getI X fX11_99 (hw.1 _ _ rfl) dX11_cycle_1 ?_
  exact rJ_iretZ hZ X dX11_cycle_4 ⟨rfl, rfl, rfl, rfl, rfl⟩
set_option maxHeartbeats 4000000 in
set_option maxRecDepth 100000 in
theorem cM_commits {l : Launch} {D : va_G} {b : Nat} {A : Nat → Nat} {Sh : mS} {S : mI} {G : mP} (hw : okM Sh G) : rMet l D b yX11_commits cX11_commits 1 (some .int) (mR 0) A Sh S G [.ref (A 100)] (rPi A Sh (S 100 32) S G) := by
  refine rMet_oz RX11 rfl (by decide) (Nat.le_of_ble_eq_true rfl) ?_
  intro p e s m args below meth c Z hZ X hnm
  refine rJ_aload_n X dX11_commits_0 rfl rfl ?_
  refine rJ_getI X fX11_112 (hw.1 _ _ rfl) dX11_commits_1 ?_
  exact rJ_iretZ hZ X dX11_commits_4 ⟨rfl, rfl, rfl, rfl, rfl⟩
set_option maxHeartbeats 4000000 in
set_option maxRecDepth 100000 in
theorem cM_retired {l : Launch} {D : va_G} {b : Nat} {A : Nat → Nat} {Sh : mS} {S : mI} {G : mP} (hw : okM Sh G) : rMet l D b yX11_retired cX11_retired 1 (some .int) (mR 0) A Sh S G [.ref (A 100)] (rPi A Sh (S 100 23) S G) := by
  refine rMet_oz RX11 rfl (by decide) (Nat.le_of_ble_eq_true rfl) ?_
  intro p e s m args below meth c Z hZ X hnm
  refine rJ_aload_n X dX11_retired_0 rfl rfl ?_
  refine rJ_getI X fX11_109 (hw.1 _ _ rfl) dX11_retired_1 ?_
  exact rJ_iretZ hZ X dX11_retired_4 ⟨rfl, rfl, rfl, rfl, rfl⟩
set_option maxHeartbeats 4000000 in
set_option maxRecDepth 100000 in
theorem cM_ended {l : Launch} {D : va_G} {b : Nat} {A : Nat → Nat} {Sh : mS} {S : mI} {G : mP} (hw : okM Sh G) (h21 : S 100 21 = 0 ∨ S 100 21 = 1) : rMet l D b yX11_ended cX11_ended 1 (some .boolean) (mR 0) A Sh S G [.ref (A 100)] (rPi A Sh (S 100 21) S G) := by
  refine rMet_oz RX11 rfl (by decide) (Nat.le_of_ble_eq_true rfl) ?_
  intro p e s m args below meth c Z hZ X hnm
  refine rJ_aload_n X dX11_ended_0 rfl rfl ?_
  refine rJ_getI X fX11_102 (hw.1 _ _ rfl) dX11_ended_1 ?_
  exact rJ_zretZ hZ X dX11_ended_4 (by rcases h21 with h | h <;> rw [h] <;> rfl) ⟨rfl, rfl, rfl, rfl, rfl⟩
set_option maxHeartbeats 4000000 in
set_option maxRecDepth 100000 in
theorem cM_register {l : Launch} {D : va_G} {b : Nat} {A : Nat → Nat} {Sh : mS} {S : mI} {G : mP} (hw : okM Sh G) (k : Int32) : rMet l D b yX11_register cX11_register 2 (some .int) (mR 1) A Sh S G [.ref (A 100), .int k] (rPi A Sh (if 0 ≤ k ∧ k ≤ 7 then S 125 k.toNatClampNeg else -1) S G) := by
  refine rMet_oz RX11 rfl (by decide) (Nat.le_of_ble_eq_true rfl) ?_
  intro p e s m args below meth c Z hZ X hnm
  refine rJ_iload_n X dX11_register_0 rfl rfl ?_
  refine rJ_iconst (v := 0) X dX11_register_1 (by decide) ?_
  refine rJ_bipush (v := 7) X dX11_register_2 (by decide) ?_
  refine rJ_Si3 X gX11_115 (cM_isIn _ _ _) dX11_register_4 (by decide) (Nat.le_of_ble_eq_true rfl) ⟨Nat.le_refl _, Nat.le_refl _⟩ ?_
  refine rJ_if_eq (tgt := 19) X dX11_register_7 (by decide) (fun c1 => ?_) (fun c1 => ?_)
  · try replace c1 := z_f c1
    refine rJ_iconst (v := (-1)) X dX11_register_19 (by decide) ?_
    exact rJ_iretZ hZ X dX11_register_20 ⟨by first | rw [if_pos c1] | rw [if_neg c1], rfl, rfl, rfl, rfl⟩
  · try replace c1 := z_t c1
    refine rJ_aload_n X dX11_register_10 rfl rfl ?_
    refine rJ_getR X fX11_66 (hw.1 _ _ rfl) (hw.2 _ _ rfl) dX11_register_11 ?_
    refine rJ_iload_n X dX11_register_14 rfl rfl ?_
    refine rJ_iald X (hw.1 _ _ rfl) (in_rng c1 (by decide)) dX11_register_15 ?_
    refine rJ_goto (tgt := 20) X dX11_register_16 (by decide) ?_
    exact rJ_iretZ hZ X dX11_register_20 ⟨by first | rw [if_pos c1] | rw [if_neg c1], rfl, rfl, rfl, rfl⟩
set_option maxHeartbeats 4000000 in
set_option maxRecDepth 100000 in
theorem cM_place {l : Launch} {D : va_G} {b : Nat} {A : Nat → Nat} {Sh : mS} {S : mI} {G : mP} (hw : okM Sh G) (k : Int32) : rMet l D b yX11_place cX11_place 2 (some .int) (mR 1) A Sh S G [.ref (A 100), .int k] (rPi A Sh (if 0 ≤ k ∧ k ≤ 63 then S 127 k.toNatClampNeg else -1) S G) := by
  refine rMet_oz RX11 rfl (by decide) (Nat.le_of_ble_eq_true rfl) ?_
  intro p e s m args below meth c Z hZ X hnm
  refine rJ_iload_n X dX11_place_0 rfl rfl ?_
  refine rJ_iconst (v := 0) X dX11_place_1 (by decide) ?_
  refine rJ_bipush (v := 63) X dX11_place_2 (by decide) ?_
  refine rJ_Si3 X gX11_115 (cM_isIn _ _ _) dX11_place_4 (by decide) (Nat.le_of_ble_eq_true rfl) ⟨Nat.le_refl _, Nat.le_refl _⟩ ?_
  refine rJ_if_eq (tgt := 19) X dX11_place_7 (by decide) (fun c1 => ?_) (fun c1 => ?_)
  · try replace c1 := z_f c1
    refine rJ_iconst (v := (-1)) X dX11_place_19 (by decide) ?_
    exact rJ_iretZ hZ X dX11_place_20 ⟨by first | rw [if_pos c1] | rw [if_neg c1], rfl, rfl, rfl, rfl⟩
  · try replace c1 := z_t c1
    refine rJ_aload_n X dX11_place_10 rfl rfl ?_
    refine rJ_getR X fX11_72 (hw.1 _ _ rfl) (hw.2 _ _ rfl) dX11_place_11 ?_
    refine rJ_iload_n X dX11_place_14 rfl rfl ?_
    refine rJ_iald X (hw.1 _ _ rfl) (in_rng c1 (by decide)) dX11_place_15 ?_
    refine rJ_goto (tgt := 20) X dX11_place_16 (by decide) ?_
    exact rJ_iretZ hZ X dX11_place_20 ⟨by first | rw [if_pos c1] | rw [if_neg c1], rfl, rfl, rfl, rfl⟩
def mTold (S : mI) (k : Int32) : Int32 := if 3 ≤ k ∧ k ≤ 9 then S 104 (k - 3).toNatClampNeg else if k = 0 then S 100 2 else if k = 1 then S 100 10 else if k = 2 then S 100 1 else if k = 10 then S 100 4 else -1
theorem told_in {k : Int32} (h : 3 ≤ k ∧ k ≤ 9) : vp_in (k - 3) 7 := by
  rw [i_le, i_le] at h
  have e3 : (3 : Int32).toInt = 3 := rfl
  have e9 : (9 : Int32).toInt = 9 := rfl
  rw [e3, e9] at h
  have e := i_sub (x := k) (y := 3) (by rw [e3]; omega) (by rw [e3]; omega)
  rw [e3] at e
  exact in_i (by omega) (by omega)
def mCommit (S : mI) (k q : Int32) : Int32 := if k < 0 ∨ S 100 32 ≤ k ∨ 1000 ≤ k ∨ ¬ (0 ≤ q ∧ q ≤ 3) then -2 else if q = 0 then S 129 k.toNatClampNeg else if q = 1 then S 130 k.toNatClampNeg else if q = 2 then S 131 k.toNatClampNeg else S 132 k.toNatClampNeg
set_option maxHeartbeats 4000000 in
set_option maxRecDepth 100000 in
theorem cM_told {l : Launch} {D : va_G} {b : Nat} {A : Nat → Nat} {Sh : mS} {S : mI} {G : mP} (hw : okM Sh G) (k : Int32) : rMet l D b yX11_told cX11_told 2 (some .int) (mR 1) A Sh S G [.ref (A 100), .int k] (rPi A Sh (mTold S k) S G) := by
  refine rMet_oz RX11 rfl (by decide) (Nat.le_of_ble_eq_true rfl) ?_
  intro p e s m args below meth c Z hZ X hnm
  refine rJ_iload_n X dX11_told_0 rfl rfl ?_
  refine rJ_iconst (v := 3) X dX11_told_1 (by decide) ?_
  refine rJ_bipush (v := 9) X dX11_told_2 (by decide) ?_
  refine rJ_Si3 X gX11_115 (cM_isIn _ _ _) dX11_told_4 (by decide) (Nat.le_of_ble_eq_true rfl) ⟨Nat.le_refl _, Nat.le_refl _⟩ ?_
  refine rJ_if_eq (tgt := 19) X dX11_told_7 (by decide) (fun c1 => ?_) (fun c1 => ?_)
  · try replace c1 := z_f c1
    refine rJ_iload_n X dX11_told_19 rfl rfl ?_
    refine rJ_if_ne (tgt := 30) X dX11_told_20 (by decide) (fun c2 => ?_) (fun c2 => ?_)
    · refine rJ_iload_n X dX11_told_30 rfl rfl ?_
      refine rJ_iconst (v := 1) X dX11_told_31 (by decide) ?_
      refine rJ_icmp_ne (tgt := 42) X dX11_told_32 (by decide) (fun c3 => ?_) (fun c3 => ?_)
      · refine rJ_iload_n X dX11_told_42 rfl rfl ?_
        refine rJ_iconst (v := 2) X dX11_told_43 (by decide) ?_
        refine rJ_icmp_ne (tgt := 54) X dX11_told_44 (by decide) (fun c4 => ?_) (fun c4 => ?_)
        · refine rJ_iload_n X dX11_told_54 rfl rfl ?_
          refine rJ_bipush (v := 10) X dX11_told_55 (by decide) ?_
          refine rJ_icmp_ne (tgt := 67) X dX11_told_57 (by decide) (fun c5 => ?_) (fun c5 => ?_)
          · refine rJ_iconst (v := (-1)) X dX11_told_67 (by decide) ?_
            exact rJ_iretZ hZ X dX11_told_68 ⟨by clear X hZ; grind [mTold], rfl, rfl, rfl, rfl⟩
          · refine rJ_aload_n X dX11_told_60 rfl rfl ?_
            refine rJ_getI X fX11_20 (hw.1 _ _ rfl) dX11_told_61 ?_
            refine rJ_goto (tgt := 68) X dX11_told_64 (by decide) ?_
            exact rJ_iretZ hZ X dX11_told_68 ⟨by clear X hZ; grind [mTold], rfl, rfl, rfl, rfl⟩
        · refine rJ_aload_n X dX11_told_47 rfl rfl ?_
          refine rJ_getI X fX11_119 (hw.1 _ _ rfl) dX11_told_48 ?_
          refine rJ_goto (tgt := 68) X dX11_told_51 (by decide) ?_
          exact rJ_iretZ hZ X dX11_told_68 ⟨by clear X hZ; grind [mTold], rfl, rfl, rfl, rfl⟩
      · refine rJ_aload_n X dX11_told_35 rfl rfl ?_
        refine rJ_getI X fX11_126 (hw.1 _ _ rfl) dX11_told_36 ?_
        refine rJ_goto (tgt := 68) X dX11_told_39 (by decide) ?_
        exact rJ_iretZ hZ X dX11_told_68 ⟨by clear X hZ; grind [mTold], rfl, rfl, rfl, rfl⟩
    · refine rJ_aload_n X dX11_told_23 rfl rfl ?_
      refine rJ_getI X fX11_13 (hw.1 _ _ rfl) dX11_told_24 ?_
      refine rJ_goto (tgt := 68) X dX11_told_27 (by decide) ?_
      exact rJ_iretZ hZ X dX11_told_68 ⟨by clear X hZ; grind [mTold], rfl, rfl, rfl, rfl⟩
  · try replace c1 := z_t c1
    refine rJ_aload_n X dX11_told_10 rfl rfl ?_
    refine rJ_getR X fX11_17 (hw.1 _ _ rfl) (hw.2 _ _ rfl) dX11_told_11 ?_
    refine rJ_iload_n X dX11_told_14 rfl rfl ?_
    refine rJ_iconst (v := 3) X dX11_told_15 (by decide) ?_
    refine rJ_isub X dX11_told_16 ?_
    refine rJ_iald X (hw.1 _ _ rfl) (told_in c1) dX11_told_17 ?_
    exact rJ_iretZ hZ X dX11_told_18 ⟨by clear X hZ; grind [mTold], rfl, rfl, rfl, rfl⟩
theorem le999 {x : Int32} (h : ¬ (1000 : Int32) ≤ x) : x ≤ 999 := by
  rw [i_le] at h ⊢
  have e : (1000 : Int32).toInt = 1000 := rfl
  have e9 : (999 : Int32).toInt = 999 := rfl
  rw [e] at h
  rw [e9]
  omega
set_option maxHeartbeats 4000000 in
set_option maxRecDepth 100000 in
theorem cM_commit {l : Launch} {D : va_G} {b : Nat} {A : Nat → Nat} {Sh : mS} {S : mI} {G : mP} (hw : okM Sh G) (k q : Int32) : rMet l D b yX11_commit cX11_commit 3 (some .int) (mR 1) A Sh S G [.ref (A 100), .int k, .int q] (rPi A Sh (mCommit S k q) S G) := by
  refine rMet_oz RX11 rfl (by decide) (Nat.le_of_ble_eq_true rfl) ?_
  intro p e s m args below meth c Z hZ X hnm
  refine rJ_iload_n X dX11_commit_0 rfl rfl ?_
  refine rJ_if_lt (tgt := 28) X dX11_commit_1 (by decide) (fun c1 => ?_) (fun c1 => ?_)
  · refine rJ_bipush (v := (-2)) X dX11_commit_28 (by decide) ?_
    exact rJ_iretZ hZ X dX11_commit_30 ⟨by clear X hZ; grind [mCommit], rfl, rfl, rfl, rfl⟩
  · refine rJ_iload_n X dX11_commit_4 rfl rfl ?_
    refine rJ_aload_n X dX11_commit_5 rfl rfl ?_
    refine rJ_getI X fX11_112 (hw.1 _ _ rfl) dX11_commit_6 ?_
    refine rJ_icmp_ge (tgt := 28) X dX11_commit_9 (by decide) (fun c2 => ?_) (fun c2 => ?_)
    · refine rJ_bipush (v := (-2)) X dX11_commit_28 (by decide) ?_
      exact rJ_iretZ hZ X dX11_commit_30 ⟨by clear X hZ; grind [mCommit], rfl, rfl, rfl, rfl⟩
    · refine rJ_iload_n X dX11_commit_12 rfl rfl ?_
      refine rJ_sipush (v := 1000) X dX11_commit_13 (by decide) ?_
      refine rJ_icmp_ge (tgt := 28) X dX11_commit_16 (by decide) (fun c3 => ?_) (fun c3 => ?_)
      · refine rJ_bipush (v := (-2)) X dX11_commit_28 (by decide) ?_
        exact rJ_iretZ hZ X dX11_commit_30 ⟨by clear X hZ; grind [mCommit], rfl, rfl, rfl, rfl⟩
      · refine rJ_iload_n X dX11_commit_19 rfl rfl ?_
        refine rJ_iconst (v := 0) X dX11_commit_20 (by decide) ?_
        refine rJ_iconst (v := 3) X dX11_commit_21 (by decide) ?_
        refine rJ_Si3 X gX11_115 (cM_isIn _ _ _) dX11_commit_22 (by decide) (Nat.le_of_ble_eq_true rfl) ⟨Nat.le_refl _, Nat.le_refl _⟩ ?_
        refine rJ_if_ne (tgt := 31) X dX11_commit_25 (by decide) (fun c4 => ?_) (fun c4 => ?_)
        · try replace c4 := z_t c4
          refine rJ_iload_n X dX11_commit_31 rfl rfl ?_
          refine rJ_if_ne (tgt := 44) X dX11_commit_32 (by decide) (fun c5 => ?_) (fun c5 => ?_)
          · refine rJ_iload_n X dX11_commit_44 rfl rfl ?_
            refine rJ_iconst (v := 1) X dX11_commit_45 (by decide) ?_
            refine rJ_icmp_ne (tgt := 58) X dX11_commit_46 (by decide) (fun c6 => ?_) (fun c6 => ?_)
            · refine rJ_iload_n X dX11_commit_58 rfl rfl ?_
              refine rJ_iconst (v := 2) X dX11_commit_59 (by decide) ?_
              refine rJ_icmp_ne (tgt := 72) X dX11_commit_60 (by decide) (fun c7 => ?_) (fun c7 => ?_)
              · refine rJ_aload_n X dX11_commit_72 rfl rfl ?_
                refine rJ_getR X fX11_84 (hw.1 _ _ rfl) (hw.2 _ _ rfl) dX11_commit_73 ?_
                refine rJ_iload_n X dX11_commit_76 rfl rfl ?_
                refine rJ_iald X (hw.1 _ _ rfl) (in_rng (hi := 999) ⟨by rw [Int32.not_lt] at c1; exact c1, le999 c3⟩ (by decide)) dX11_commit_77 ?_
                exact rJ_iretZ hZ X dX11_commit_78 ⟨by clear X hZ; grind [mCommit], rfl, rfl, rfl, rfl⟩
              · refine rJ_aload_n X dX11_commit_63 rfl rfl ?_
                refine rJ_getR X fX11_81 (hw.1 _ _ rfl) (hw.2 _ _ rfl) dX11_commit_64 ?_
                refine rJ_iload_n X dX11_commit_67 rfl rfl ?_
                refine rJ_iald X (hw.1 _ _ rfl) (in_rng (hi := 999) ⟨by rw [Int32.not_lt] at c1; exact c1, le999 c3⟩ (by decide)) dX11_commit_68 ?_
                refine rJ_goto (tgt := 78) X dX11_commit_69 (by decide) ?_
                exact rJ_iretZ hZ X dX11_commit_78 ⟨by clear X hZ; grind [mCommit], rfl, rfl, rfl, rfl⟩
            · refine rJ_aload_n X dX11_commit_49 rfl rfl ?_
              refine rJ_getR X fX11_78 (hw.1 _ _ rfl) (hw.2 _ _ rfl) dX11_commit_50 ?_
              refine rJ_iload_n X dX11_commit_53 rfl rfl ?_
              refine rJ_iald X (hw.1 _ _ rfl) (in_rng (hi := 999) ⟨by rw [Int32.not_lt] at c1; exact c1, le999 c3⟩ (by decide)) dX11_commit_54 ?_
              refine rJ_goto (tgt := 78) X dX11_commit_55 (by decide) ?_
              exact rJ_iretZ hZ X dX11_commit_78 ⟨by clear X hZ; grind [mCommit], rfl, rfl, rfl, rfl⟩
          · refine rJ_aload_n X dX11_commit_35 rfl rfl ?_
            refine rJ_getR X fX11_75 (hw.1 _ _ rfl) (hw.2 _ _ rfl) dX11_commit_36 ?_
            refine rJ_iload_n X dX11_commit_39 rfl rfl ?_
            refine rJ_iald X (hw.1 _ _ rfl) (in_rng (hi := 999) ⟨by rw [Int32.not_lt] at c1; exact c1, le999 c3⟩ (by decide)) dX11_commit_40 ?_
            refine rJ_goto (tgt := 78) X dX11_commit_41 (by decide) ?_
            exact rJ_iretZ hZ X dX11_commit_78 ⟨by clear X hZ; grind [mCommit], rfl, rfl, rfl, rfl⟩
        · try replace c4 := z_f c4
          refine rJ_bipush (v := (-2)) X dX11_commit_28 (by decide) ?_
          exact rJ_iretZ hZ X dX11_commit_30 ⟨by clear X hZ; grind [mCommit], rfl, rfl, rfl, rfl⟩
