def mWork (S : mI) (s0 : Nat) (n kd : Int32) : mI := if kd = 1 then mu S 118 s0 (S 110 n.toNatClampNeg) else if 2 ≤ kd ∧ kd ≤ 4 then mu S 118 s0 (if kd = 2 then S 116 s0 + S 117 s0 else if kd = 3 then S 116 s0 - S 117 s0 else S 116 s0 * S 117 s0) else S
def mC1 (S : mI) (k q v : Int32) : mI := mu (if S 100 32 < 1000 then mu (mu (mu (mu S 129 (S 100 32).toNatClampNeg k) 130 (S 100 32).toNatClampNeg q) 131 (S 100 32).toNatClampNeg v) 132 (S 100 32).toNatClampNeg (S 100 20) else S) 100 32 (S 100 32 + 1)
def mCom (S : mI) (s0 : Nat) (n kd : Int32) : mI :=
  if 1 ≤ kd ∧ kd ≤ 5 then mC1 (mu (mu S 125 (S 107 n.toNatClampNeg).toNatClampNeg (S 118 s0)) 126 (S 107 n.toNatClampNeg).toNatClampNeg (S 100 20)) 0 (S 107 n.toNatClampNeg) (S 118 s0)
  else if kd = 6 then mC1 (mu (mu S 127 (mPlace S s0).toNatClampNeg (S 117 s0)) 100 27 1) 1 (mPlace S s0) (S 117 s0)
  else if kd = 8 then mC1 S 2 0 (S 116 s0)
  else if kd = 0 then mu S 100 21 1 else S
theorem mPlace_mu {S : mI} {r : Nat} (k : Nat) (v : Int32) (s0 : Nat) (hr : r ≠ 116 ∧ r ≠ 110 ∧ r ≠ 114) : mPlace (mu S r k v) s0 = mPlace S s0 := by
  simp only [mPlace]
  rw [mu_na _ _ _ (Ne.symm hr.1), mu_na _ _ _ (Ne.symm hr.2.1), mu_na _ _ _ (Ne.symm hr.2.2)]
theorem mPlace_in (S : mI) (s0 : Nat) : vp_in (mPlace S s0) 64 := pk_andIn _ 6 rfl (by decide)
theorem mGv_of {S S' : mI} (h1 : S' 115 = S 115) (h2 : S' 114 = S 114) (h3 : ∀ n, mKind S' n = mKind S n) (h4 : S' 107 = S 107) (reg : Int32) : ∀ f k, mGvF S' reg f k = mGvF S reg f k := by
  intro f
  induction f with
  | zero => intro k; rfl
  | succ f ih => intro k; simp only [mGvF, mCR, h1, h2, h3, h4, ih]
theorem mRead_of {S S' : mI} (h1 : S' 115 = S 115) (h2 : S' 114 = S 114) (h3 : ∀ n, mKind S' n = mKind S n) (h4 : S' 107 = S 107) (h5 : S' 125 = S 125) (h6 : S' 118 = S 118) (st s0 : Nat) (reg : Int32) : mRead S' st s0 reg = mRead S st s0 reg := by
  simp only [mRead, mGv, mGv_of h1 h2 h3 h4, h5, h6]
set_option maxHeartbeats 4000000 in
set_option maxRecDepth 100000 in
theorem cM_workOut {l : Launch} {D : va_G} {b : Nat} {A : Nat → Nat} {Sh : mS} {S : mI} {G : mP} (hw : okM Sh G) (n kd : Int32) {s0 : Nat} (hs8 : s0 < 8) (hn : kd = 1 → vp_in n 40) : rMet l D b yX11_workOut cX11_workOut 6 none (mR 1) A Sh S G [.ref (A 100), .int (nI s0), .int n, .int kd] (rPv A Sh (mWork S s0 n kd) G) := by
  refine rMet_oz RX11 rfl (by decide) (Nat.le_of_ble_eq_true rfl) ?_
  intro p e s m args below meth c Z hZ X hnm
  refine rJ_aload_n X dX11_workOut_0 rfl rfl ?_
  refine rJ_getR X fX11_51 (hw.1 _ _ rfl) (hw.2 _ _ rfl) dX11_workOut_1 ?_
  refine rJ_iload_n X dX11_workOut_4 rfl rfl ?_
  refine rJ_ialdK (k := s0) X rfl ⟨by omega, by omega⟩ (hw.1 _ _ rfl) dX11_workOut_5 ?_
  refine rJ_istore X dX11_workOut_6 (by decide) ?_
  refine rJ_aload_n X dX11_workOut_8 rfl rfl ?_
  refine rJ_getR X fX11_54 (hw.1 _ _ rfl) (hw.2 _ _ rfl) dX11_workOut_9 ?_
  refine rJ_iload_n X dX11_workOut_12 rfl rfl ?_
  refine rJ_ialdK (k := s0) X rfl ⟨by omega, by omega⟩ (hw.1 _ _ rfl) dX11_workOut_13 ?_
  refine rJ_istore X dX11_workOut_14 (by decide) ?_
  refine rJ_iload_n X dX11_workOut_16 rfl rfl ?_
  refine rJ_iconst (v := 1) X dX11_workOut_17 (by decide) ?_
  refine rJ_icmp_ne (tgt := 36) X dX11_workOut_18 (by decide) (fun c1 => ?_) (fun c1 => ?_)
  · refine rJ_iload_n X dX11_workOut_36 rfl rfl ?_
    refine rJ_iconst (v := 2) X dX11_workOut_37 (by decide) ?_
    refine rJ_iconst (v := 4) X dX11_workOut_38 (by decide) ?_
    refine rJ_Si3 X gX11_115 (cM_isIn _ _ _) dX11_workOut_39 (by decide) (Nat.le_of_ble_eq_true rfl) ⟨Nat.le_refl _, Nat.le_refl _⟩ ?_
    refine rJ_if_eq (tgt := 82) X dX11_workOut_42 (by decide) (fun c2 => ?_) (fun c2 => ?_)
    · try replace c2 := z_f c2
      exact rJ_vretZ hZ X dX11_workOut_82 ⟨rfl, rfl, rfl, by clear X hZ; subst_vars; grind [mWork], rfl⟩
    · try replace c2 := z_t c2
      refine rJ_aload_n X dX11_workOut_45 rfl rfl ?_
      refine rJ_getR X fX11_57 (hw.1 _ _ rfl) (hw.2 _ _ rfl) dX11_workOut_46 ?_
      refine rJ_iload_n X dX11_workOut_49 rfl rfl ?_
      refine rJ_iload_n X dX11_workOut_50 rfl rfl ?_
      refine rJ_iconst (v := 2) X dX11_workOut_51 (by decide) ?_
      refine rJ_icmp_ne (tgt := 63) X dX11_workOut_52 (by decide) (fun c3 => ?_) (fun c3 => ?_)
      · refine rJ_iload_n X dX11_workOut_63 rfl rfl ?_
        refine rJ_iconst (v := 3) X dX11_workOut_64 (by decide) ?_
        refine rJ_icmp_ne (tgt := 76) X dX11_workOut_65 (by decide) (fun c4 => ?_) (fun c4 => ?_)
        · refine rJ_iload X dX11_workOut_76 rfl ?_
          refine rJ_iload X dX11_workOut_78 rfl ?_
          refine rJ_imul X dX11_workOut_80 ?_
          refine rJ_iastK (k := s0) X rfl ⟨by omega, by omega⟩ (hw.1 _ _ rfl) dX11_workOut_81 (fun S81 hS81 => ?_)
          exact rJ_vretZ hZ X dX11_workOut_82 ⟨rfl, rfl, rfl, by clear X hZ; subst_vars; grind [mWork], rfl⟩
        · refine rJ_iload X dX11_workOut_68 rfl ?_
          refine rJ_iload X dX11_workOut_70 rfl ?_
          refine rJ_isub X dX11_workOut_72 ?_
          refine rJ_goto (tgt := 81) X dX11_workOut_73 (by decide) ?_
          refine rJ_iastK (k := s0) X rfl ⟨by omega, by omega⟩ (hw.1 _ _ rfl) dX11_workOut_81 (fun S81 hS81 => ?_)
          exact rJ_vretZ hZ X dX11_workOut_82 ⟨rfl, rfl, rfl, by clear X hZ; subst_vars; grind [mWork], rfl⟩
      · refine rJ_iload X dX11_workOut_55 rfl ?_
        refine rJ_iload X dX11_workOut_57 rfl ?_
        refine rJ_iadd X dX11_workOut_59 ?_
        refine rJ_goto (tgt := 81) X dX11_workOut_60 (by decide) ?_
        refine rJ_iastK (k := s0) X rfl ⟨by omega, by omega⟩ (hw.1 _ _ rfl) dX11_workOut_81 (fun S81 hS81 => ?_)
        exact rJ_vretZ hZ X dX11_workOut_82 ⟨rfl, rfl, rfl, by clear X hZ; subst_vars; grind [mWork], rfl⟩
  · refine rJ_aload_n X dX11_workOut_21 rfl rfl ?_
    refine rJ_getR X fX11_57 (hw.1 _ _ rfl) (hw.2 _ _ rfl) dX11_workOut_22 ?_
    refine rJ_iload_n X dX11_workOut_25 rfl rfl ?_
    refine rJ_aload_n X dX11_workOut_26 rfl rfl ?_
    refine rJ_getR X fX11_35 (hw.1 _ _ rfl) (hw.2 _ _ rfl) dX11_workOut_27 ?_
    refine rJ_iload_n X dX11_workOut_30 rfl rfl ?_
    refine rJ_iald X (hw.1 _ _ rfl) (hn c1) dX11_workOut_31 ?_
    refine rJ_iastK (k := s0) X rfl ⟨by omega, by omega⟩ (hw.1 _ _ rfl) dX11_workOut_32 (fun S32 hS32 => ?_)
    refine rJ_goto (tgt := 82) X dX11_workOut_33 (by decide) ?_
    exact rJ_vretZ hZ X dX11_workOut_82 ⟨rfl, rfl, rfl, by clear X hZ; subst_vars; grind [mWork], rfl⟩
set_option maxHeartbeats 4000000 in
set_option maxRecDepth 100000 in
theorem cM_commitOne {l : Launch} {D : va_G} {b : Nat} {A : Nat → Nat} {Sh : mS} {S : mI} {G : mP} (hw : okM Sh G) (k q v : Int32) (h32 : 0 ≤ (S 100 32).toInt) : rMet l D b yX11_commitOne cX11_commitOne 4 none (mR 0) A Sh S G [.ref (A 100), .int k, .int q, .int v] (rPv A Sh (mC1 S k q v) G) := by
  refine rMet_oz RX11 rfl (by decide) (Nat.le_of_ble_eq_true rfl) ?_
  intro p e s m args below meth c Z hZ X hnm
  refine rJ_aload_n X dX11_commitOne_0 rfl rfl ?_
  refine rJ_getI X fX11_112 (hw.1 _ _ rfl) dX11_commitOne_1 ?_
  refine rJ_sipush (v := 1000) X dX11_commitOne_4 (by decide) ?_
  refine rJ_icmp_ge (tgt := 53) X dX11_commitOne_7 (by decide) (fun c1 => ?_) (fun c1 => ?_)
  · try rw [Int32.not_le] at c1
    try rw [← Int32.not_lt] at c1
    refine rJ_aload_n X dX11_commitOne_53 rfl rfl ?_
    refine rJ_dup X dX11_commitOne_54 rfl ?_
    refine rJ_getI X fX11_112 (hw.1 _ _ rfl) dX11_commitOne_55 ?_
    refine rJ_iconst (v := 1) X dX11_commitOne_58 (by decide) ?_
    refine rJ_iadd X dX11_commitOne_59 ?_
    refine rJ_setI X fX11_112 (Or.inl fwX11_112) (hw.1 _ _ rfl) ⟨rfl, rfl⟩ dX11_commitOne_60 (fun S60 hS60 => ?_)
    exact rJ_vretZ hZ X dX11_commitOne_63 ⟨rfl, rfl, rfl, by clear X hZ; subst_vars; simp [mC1, mu_na, c1], rfl⟩
  · try rw [Int32.not_le] at c1
    try rw [← Int32.not_lt] at c1
    refine rJ_aload_n X dX11_commitOne_10 rfl rfl ?_
    refine rJ_getR X fX11_75 (hw.1 _ _ rfl) (hw.2 _ _ rfl) dX11_commitOne_11 ?_
    refine rJ_aload_n X dX11_commitOne_14 rfl rfl ?_
    refine rJ_getI X fX11_112 (hw.1 _ _ rfl) dX11_commitOne_15 ?_
    refine rJ_iload_n X dX11_commitOne_18 rfl rfl ?_
    refine rJ_iast X (hw.1 _ _ rfl) (in_i h32 (by rw [i_lt] at c1; exact c1)) dX11_commitOne_19 (fun S19 hS19 => ?_)
    refine rJ_aload_n X dX11_commitOne_20 rfl rfl ?_
    refine rJ_getR X fX11_78 (hw.1 _ _ rfl) (hw.2 _ _ rfl) dX11_commitOne_21 ?_
    refine rJ_aload_n X dX11_commitOne_24 rfl rfl ?_
    refine rJ_getI X fX11_112 (hw.1 _ _ rfl) dX11_commitOne_25 ?_
    refine rJ_as (S 100 32) (by rw [hS19, mu_na _ _ _ (by decide)]) ?_
    refine rJ_iload_n X dX11_commitOne_28 rfl rfl ?_
    refine rJ_iast X (hw.1 _ _ rfl) (in_i h32 (by rw [i_lt] at c1; exact c1)) dX11_commitOne_29 (fun S29 hS29 => ?_)
    refine rJ_aload_n X dX11_commitOne_30 rfl rfl ?_
    refine rJ_getR X fX11_81 (hw.1 _ _ rfl) (hw.2 _ _ rfl) dX11_commitOne_31 ?_
    refine rJ_aload_n X dX11_commitOne_34 rfl rfl ?_
    refine rJ_getI X fX11_112 (hw.1 _ _ rfl) dX11_commitOne_35 ?_
    refine rJ_as (S 100 32) (by rw [hS29, hS19, mu_na _ _ _ (by decide), mu_na _ _ _ (by decide)]) ?_
    refine rJ_iload_n X dX11_commitOne_38 rfl rfl ?_
    refine rJ_iast X (hw.1 _ _ rfl) (in_i h32 (by rw [i_lt] at c1; exact c1)) dX11_commitOne_39 (fun S39 hS39 => ?_)
    refine rJ_aload_n X dX11_commitOne_40 rfl rfl ?_
    refine rJ_getR X fX11_84 (hw.1 _ _ rfl) (hw.2 _ _ rfl) dX11_commitOne_41 ?_
    refine rJ_aload_n X dX11_commitOne_44 rfl rfl ?_
    refine rJ_getI X fX11_112 (hw.1 _ _ rfl) dX11_commitOne_45 ?_
    refine rJ_as (S 100 32) (by rw [hS39, hS29, hS19, mu_na _ _ _ (by decide), mu_na _ _ _ (by decide), mu_na _ _ _ (by decide)]) ?_
    refine rJ_aload_n X dX11_commitOne_48 rfl rfl ?_
    refine rJ_getI X fX11_99 (hw.1 _ _ rfl) dX11_commitOne_49 ?_
    refine rJ_iast X (hw.1 _ _ rfl) (in_i h32 (by rw [i_lt] at c1; exact c1)) dX11_commitOne_52 (fun S52 hS52 => ?_)
    refine rJ_aload_n X dX11_commitOne_53 rfl rfl ?_
    refine rJ_dup X dX11_commitOne_54 rfl ?_
    refine rJ_getI X fX11_112 (hw.1 _ _ rfl) dX11_commitOne_55 ?_
    refine rJ_iconst (v := 1) X dX11_commitOne_58 (by decide) ?_
    refine rJ_iadd X dX11_commitOne_59 ?_
    refine rJ_setI X fX11_112 (Or.inl fwX11_112) (hw.1 _ _ rfl) ⟨rfl, rfl⟩ dX11_commitOne_60 (fun S60 hS60 => ?_)
    exact rJ_vretZ hZ X dX11_commitOne_63 ⟨rfl, rfl, rfl, by clear X hZ; subst_vars; simp [mC1, mu_na, c1], rfl⟩
set_option maxHeartbeats 4000000 in
set_option maxRecDepth 100000 in
theorem cM_commitAll {l : Launch} {D : va_G} {b : Nat} {A : Nat → Nat} {Sh : mS} {S : mI} {G : mP} (hw : okM Sh G) {st sz s0 : Nat} (hB : mOk S st sz) (hlt : s0 < st) (h32 : 0 ≤ (S 100 32).toInt) : rMet l D b yX11_commitAll cX11_commitAll 4 none (mR 1) A Sh S G [.ref (A 100), .int (nI s0), .int (S 114 s0), .int (mKind S (S 114 s0))] (rPv A Sh (mCom S s0 (S 114 s0) (mKind S (S 114 s0))) G) := by
  refine rMet_oz RX11 rfl (by decide) (Nat.le_of_ble_eq_true rfl) ?_
  intro p e s m args below meth c Z hZ X hnm
  obtain ⟨h2, hst2, h8, hs, h40, h27, hV⟩ := id hB
  refine rJ_iload_n X dX11_commitAll_0 rfl rfl ?_
  refine rJ_iconst (v := 1) X dX11_commitAll_1 (by decide) ?_
  refine rJ_iconst (v := 5) X dX11_commitAll_2 (by decide) ?_
  refine rJ_Si3 X gX11_115 (cM_isIn _ _ _) dX11_commitAll_3 (by decide) (Nat.le_of_ble_eq_true rfl) ⟨Nat.le_refl _, Nat.le_refl _⟩ ?_
  refine rJ_if_eq (tgt := 61) X dX11_commitAll_6 (by decide) (fun c1 => ?_) (fun c1 => ?_)
  · try replace c1 := z_f c1
    refine rJ_iload_n X dX11_commitAll_61 rfl rfl ?_
    refine rJ_bipush (v := 6) X dX11_commitAll_62 (by decide) ?_
    refine rJ_icmp_ne (tgt := 107) X dX11_commitAll_64 (by decide) (fun c2 => ?_) (fun c2 => ?_)
    · refine rJ_iload_n X dX11_commitAll_107 rfl rfl ?_
      refine rJ_bipush (v := 8) X dX11_commitAll_108 (by decide) ?_
      refine rJ_icmp_ne (tgt := 128) X dX11_commitAll_110 (by decide) (fun c3 => ?_) (fun c3 => ?_)
      · refine rJ_iload_n X dX11_commitAll_128 rfl rfl ?_
        refine rJ_if_ne (tgt := 137) X dX11_commitAll_129 (by decide) (fun c4 => ?_) (fun c4 => ?_)
        · exact rJ_vretZ hZ X dX11_commitAll_137 ⟨rfl, rfl, rfl, by clear X hZ; subst_vars; grind [mCom, mu_na, mPlace_mu], rfl⟩
        · refine rJ_aload_n X dX11_commitAll_132 rfl rfl ?_
          refine rJ_iconst (v := 1) X dX11_commitAll_133 (by decide) ?_
          refine rJ_setI X fX11_102 (Or.inl fwX11_102) (hw.1 _ _ rfl) ⟨by decide, by decide⟩ dX11_commitAll_134 (fun S134 hS134 => ?_)
          exact rJ_vretZ hZ X dX11_commitAll_137 ⟨rfl, rfl, rfl, by clear X hZ; subst_vars; grind [mCom, mu_na, mPlace_mu], rfl⟩
      · refine rJ_aload_n X dX11_commitAll_113 rfl rfl ?_
        refine rJ_iconst (v := 2) X dX11_commitAll_114 (by decide) ?_
        refine rJ_iconst (v := 0) X dX11_commitAll_115 (by decide) ?_
        refine rJ_aload_n X dX11_commitAll_116 rfl rfl ?_
        refine rJ_getR X fX11_51 (hw.1 _ _ rfl) (hw.2 _ _ rfl) dX11_commitAll_117 ?_
        refine rJ_iload_n X dX11_commitAll_120 rfl rfl ?_
        refine rJ_ialdK (k := s0) X rfl ⟨by omega, by omega⟩ (hw.1 _ _ rfl) dX11_commitAll_121 ?_
        refine rJ_Vv3 X gX11_159 (cM_commitOne hw _ _ _ h32) (hw.1 _ _ rfl) dX11_commitAll_122 (by decide) (Nat.le_of_ble_eq_true rfl) ⟨Nat.le_refl _, Nat.le_refl _⟩ ?_
        refine rJ_goto (tgt := 137) X dX11_commitAll_125 (by decide) ?_
        exact rJ_vretZ hZ X dX11_commitAll_137 ⟨rfl, rfl, rfl, by clear X hZ; subst_vars; grind [mCom, mu_na, mPlace_mu], rfl⟩
    · refine rJ_aload_n X dX11_commitAll_67 rfl rfl ?_
      refine rJ_getR X fX11_72 (hw.1 _ _ rfl) (hw.2 _ _ rfl) dX11_commitAll_68 ?_
      refine rJ_aload_n X dX11_commitAll_71 rfl rfl ?_
      refine rJ_iload_n X dX11_commitAll_72 rfl rfl ?_
      refine rJ_Vi1 X gX11_156 (cM_placeOf hw (by omega) (mKind_ne hs h40 (by clear X hZ; grind))) (hw.1 _ _ rfl) dX11_commitAll_73 (by decide) (Nat.le_of_ble_eq_true rfl) ⟨Nat.le_refl _, Nat.le_refl _⟩ ?_
      refine rJ_aload_n X dX11_commitAll_76 rfl rfl ?_
      refine rJ_getR X fX11_54 (hw.1 _ _ rfl) (hw.2 _ _ rfl) dX11_commitAll_77 ?_
      refine rJ_iload_n X dX11_commitAll_80 rfl rfl ?_
      refine rJ_ialdK (k := s0) X rfl ⟨by omega, by omega⟩ (hw.1 _ _ rfl) dX11_commitAll_81 ?_
      refine rJ_iast X (hw.1 _ _ rfl) (mPlace_in S s0) dX11_commitAll_82 (fun S82 hS82 => ?_)
      refine rJ_aload_n X dX11_commitAll_83 rfl rfl ?_
      refine rJ_iconst (v := 1) X dX11_commitAll_84 (by decide) ?_
      refine rJ_setI X fX11_140 (Or.inl fwX11_140) (hw.1 _ _ rfl) ⟨by decide, by decide⟩ dX11_commitAll_85 (fun S85 hS85 => ?_)
      refine rJ_aload_n X dX11_commitAll_88 rfl rfl ?_
      refine rJ_iconst (v := 1) X dX11_commitAll_89 (by decide) ?_
      refine rJ_aload_n X dX11_commitAll_90 rfl rfl ?_
      refine rJ_iload_n X dX11_commitAll_91 rfl rfl ?_
      refine rJ_Vi1 X gX11_156 (cM_placeOf hw (by omega) (by rw [hS85, hS82, mu_na _ _ _ (by decide), mu_na _ _ _ (by decide)]; exact (mKind_ne hs h40 (by clear X hZ; grind)))) (hw.1 _ _ rfl) dX11_commitAll_92 (by decide) (Nat.le_of_ble_eq_true rfl) ⟨Nat.le_refl _, Nat.le_refl _⟩ ?_
      refine rJ_aload_n X dX11_commitAll_95 rfl rfl ?_
      refine rJ_getR X fX11_54 (hw.1 _ _ rfl) (hw.2 _ _ rfl) dX11_commitAll_96 ?_
      refine rJ_iload_n X dX11_commitAll_99 rfl rfl ?_
      refine rJ_ialdK (k := s0) X rfl ⟨by omega, by omega⟩ (hw.1 _ _ rfl) dX11_commitAll_100 ?_
      refine rJ_Vv3 X gX11_159 (cM_commitOne hw _ _ _ (by rw [hS85, mu_ns _ _ _ (by decide), hS82, mu_na _ _ _ (by decide)]; exact h32)) (hw.1 _ _ rfl) dX11_commitAll_101 (by decide) (Nat.le_of_ble_eq_true rfl) ⟨Nat.le_refl _, Nat.le_refl _⟩ ?_
      refine rJ_goto (tgt := 137) X dX11_commitAll_104 (by decide) ?_
      exact rJ_vretZ hZ X dX11_commitAll_137 ⟨rfl, rfl, rfl, by clear X hZ; subst_vars; grind [mCom, mu_na, mPlace_mu], rfl⟩
  · try replace c1 := z_t c1
    refine rJ_aload_n X dX11_commitAll_9 rfl rfl ?_
    refine rJ_getR X fX11_66 (hw.1 _ _ rfl) (hw.2 _ _ rfl) dX11_commitAll_10 ?_
    refine rJ_aload_n X dX11_commitAll_13 rfl rfl ?_
    refine rJ_getR X fX11_26 (hw.1 _ _ rfl) (hw.2 _ _ rfl) dX11_commitAll_14 ?_
    refine rJ_iload_n X dX11_commitAll_17 rfl rfl ?_
    refine rJ_iald X (hw.1 _ _ rfl) (mKind_ne hs h40 (by clear X hZ; grind)) dX11_commitAll_18 ?_
    refine rJ_aload_n X dX11_commitAll_19 rfl rfl ?_
    refine rJ_getR X fX11_57 (hw.1 _ _ rfl) (hw.2 _ _ rfl) dX11_commitAll_20 ?_
    refine rJ_iload_n X dX11_commitAll_23 rfl rfl ?_
    refine rJ_ialdK (k := s0) X rfl ⟨by omega, by omega⟩ (hw.1 _ _ rfl) dX11_commitAll_24 ?_
    refine rJ_iast X (hw.1 _ _ rfl) (hV _ (by clear X hZ; grind)).1 dX11_commitAll_25 (fun S25 hS25 => ?_)
    refine rJ_aload_n X dX11_commitAll_26 rfl rfl ?_
    refine rJ_getR X fX11_69 (hw.1 _ _ rfl) (hw.2 _ _ rfl) dX11_commitAll_27 ?_
    refine rJ_aload_n X dX11_commitAll_30 rfl rfl ?_
    refine rJ_getR X fX11_26 (hw.1 _ _ rfl) (hw.2 _ _ rfl) dX11_commitAll_31 ?_
    refine rJ_iload_n X dX11_commitAll_34 rfl rfl ?_
    refine rJ_iald X (hw.1 _ _ rfl) (mKind_ne hs h40 (by clear X hZ; grind)) dX11_commitAll_35 ?_
    refine rJ_aload_n X dX11_commitAll_36 rfl rfl ?_
    refine rJ_getI X fX11_99 (hw.1 _ _ rfl) dX11_commitAll_37 ?_
    refine rJ_iast X (hw.1 _ _ rfl) (by rw [hS25, mu_na _ _ _ (by decide)]; exact (hV _ (by clear X hZ; grind)).1) dX11_commitAll_40 (fun S40 hS40 => ?_)
    refine rJ_aload_n X dX11_commitAll_41 rfl rfl ?_
    refine rJ_iconst (v := 0) X dX11_commitAll_42 (by decide) ?_
    refine rJ_aload_n X dX11_commitAll_43 rfl rfl ?_
    refine rJ_getR X fX11_26 (hw.1 _ _ rfl) (hw.2 _ _ rfl) dX11_commitAll_44 ?_
    refine rJ_iload_n X dX11_commitAll_47 rfl rfl ?_
    refine rJ_iald X (hw.1 _ _ rfl) (mKind_ne hs h40 (by clear X hZ; grind)) dX11_commitAll_48 ?_
    refine rJ_aload_n X dX11_commitAll_49 rfl rfl ?_
    refine rJ_getR X fX11_57 (hw.1 _ _ rfl) (hw.2 _ _ rfl) dX11_commitAll_50 ?_
    refine rJ_iload_n X dX11_commitAll_53 rfl rfl ?_
    refine rJ_ialdK (k := s0) X rfl ⟨by omega, by omega⟩ (hw.1 _ _ rfl) dX11_commitAll_54 ?_
    refine rJ_Vv3 X gX11_159 (cM_commitOne hw _ _ _ (by rw [hS40, hS25, mu_na _ _ _ (by decide), mu_na _ _ _ (by decide)]; exact h32)) (hw.1 _ _ rfl) dX11_commitAll_55 (by decide) (Nat.le_of_ble_eq_true rfl) ⟨Nat.le_refl _, Nat.le_refl _⟩ ?_
    refine rJ_goto (tgt := 137) X dX11_commitAll_58 (by decide) ?_
    exact rJ_vretZ hZ X dX11_commitAll_137 ⟨rfl, rfl, rfl, by clear X hZ; subst_vars; grind [mCom, mu_na, mPlace_mu], rfl⟩
