set_option maxHeartbeats 4000000 in
set_option maxRecDepth 100000 in
theorem cG_clear {l : Launch} {D : va_G} {b : Nat} {A : Nat → Nat} {Sh : mS} {S : mI} {G : mP} (hw : okC Sh G) : rMet l D b yX0_clear cX0_clear 1 none (mR 0) A Sh S G [.ref (A 12)] (rPv A Sh (mu (mu S 12 1 0) 12 2 0) G) := by
  refine rMet_oz RX0 rfl (by decide) (Nat.le_of_ble_eq_true rfl) ?_
  intro p e s m args below meth c Z hZ X hnm
  refine rJ_aload_n X dX0_clear_0 rfl rfl ?_
  refine rJ_iconst (v := 0) X dX0_clear_1 (by decide) ?_
  refine rJ_setI X fX0_15 (Or.inl fwX0_15) (by first | exact hw.1 _ _ rfl | assumption) ⟨rfl, rfl⟩ dX0_clear_2 (fun S2 hS2 => ?_)
  refine rJ_aload_n X dX0_clear_5 rfl rfl ?_
  refine rJ_iconst (v := 0) X dX0_clear_6 (by decide) ?_
  refine rJ_setI X fX0_19 (Or.inl fwX0_19) (by first | exact hw.1 _ _ rfl | assumption) ⟨rfl, rfl⟩ dX0_clear_7 (fun S7 hS7 => ?_)
  exact rJ_vretZ hZ X dX0_clear_10 ⟨rfl, rfl, rfl, by rw [hS7, hS2], rfl⟩
set_option maxHeartbeats 4000000 in
set_option maxRecDepth 100000 in
theorem cG_total {l : Launch} {D : va_G} {b : Nat} {A : Nat → Nat} {Sh : mS} {S : mI} {G : mP} (hw : okC Sh G) : rMet l D b yX0_total cX0_total 1 (some .int) (mR 0) A Sh S G [.ref (A 12)] (rPi A Sh (S 12 2) S G) := by
  refine rMet_oz RX0 rfl (by decide) (Nat.le_of_ble_eq_true rfl) ?_
  intro p e s m args below meth c Z hZ X hnm
  refine rJ_aload_n X dX0_total_0 rfl rfl ?_
  refine rJ_getI X fX0_19 (by first | exact hw.1 _ _ rfl | assumption) dX0_total_1 ?_
  exact rJ_iretZ hZ X dX0_total_4 ⟨rfl, rfl, rfl, rfl, rfl⟩
set_option maxHeartbeats 4000000 in
set_option maxRecDepth 100000 in
theorem cG_size {l : Launch} {D : va_G} {b : Nat} {A : Nat → Nat} {Sh : mS} {S : mI} {G : mP} (hw : okC Sh G) : rMet l D b yX0_size cX0_size 1 (some .int) (mR 0) A Sh S G [.ref (A 12)] (rPi A Sh (S 12 1) S G) := by
  refine rMet_oz RX0 rfl (by decide) (Nat.le_of_ble_eq_true rfl) ?_
  intro p e s m args below meth c Z hZ X hnm
  refine rJ_aload_n X dX0_size_0 rfl rfl ?_
  refine rJ_getI X fX0_15 (by first | exact hw.1 _ _ rfl | assumption) dX0_size_1 ?_
  exact rJ_iretZ hZ X dX0_size_4 ⟨rfl, rfl, rfl, rfl, rfl⟩
def cAdd (S : mI) (kp : Nat) (a1 a2 a3 a4 : Int32) : mI := if kp < 1000 then mu (mu (mu (mu (mu (mu S 12 2 (S 12 2 + 1)) 13 (kp * 4) a1) 13 (kp * 4 + 1) a2) 13 (kp * 4 + 2) a3) 13 (kp * 4 + 3) a4) 12 1 (nI (kp + 1)) else mu S 12 2 (S 12 2 + 1)
set_option maxHeartbeats 4000000 in
set_option maxRecDepth 100000 in
theorem cG_add {l : Launch} {D : va_G} {b : Nat} {A : Nat → Nat} {Sh : mS} {S : mI} {G : mP} (hw : okC Sh G) {kp : Nat} (hk : S 12 1 = nI kp) (hk1 : kp ≤ 1000) (a1 a2 a3 a4 : Int32) : rMet l D b yX0_add cX0_add 6 none (mR 0) A Sh S G [.ref (A 12), .int a1, .int a2, .int a3, .int a4] (rPv A Sh (cAdd S kp a1 a2 a3 a4) G) := by
  refine rMet_oz RX0 rfl (by decide) (Nat.le_of_ble_eq_true rfl) ?_
  intro p e s m args below meth c Z hZ X hnm
  refine rJ_aload_n X dX0_add_0 rfl rfl ?_
  refine rJ_dup X dX0_add_1 rfl ?_
  refine rJ_getI X fX0_19 (by first | exact hw.1 _ _ rfl | assumption) dX0_add_2 ?_
  refine rJ_iconst (v := 1) X dX0_add_5 (by decide) ?_
  refine rJ_iadd X dX0_add_6 ?_
  refine rJ_setI X fX0_19 (Or.inl fwX0_19) (by first | exact hw.1 _ _ rfl | assumption) ⟨rfl, rfl⟩ dX0_add_7 (fun S7 hS7 => ?_)
  refine rJ_aload_n X dX0_add_10 rfl rfl ?_
  refine rJ_getI X fX0_15 (by first | exact hw.1 _ _ rfl | assumption) dX0_add_11 ?_
  refine rJ_sipush (v := 1000) X dX0_add_14 (by decide) ?_
  refine rJ_icmp_lt (tgt := 21) X dX0_add_17 (by decide) (fun c1 => ?_) (fun c1 => ?_)
  · rw [hS7, mu_ns _ _ _ (by decide), hk, show (1000 : Int32) = nI 1000 from rfl, nI_ltI (by omega) (by decide)] at c1
    refine rJ_aload_n X dX0_add_21 rfl rfl ?_
    refine rJ_getI X fX0_15 (by first | exact hw.1 _ _ rfl | assumption) dX0_add_22 ?_
    refine rJ_as (nI kp) (by rw [hS7, mu_ns _ _ _ (by decide), hk]) ?_
    refine rJ_iconst (v := 4) X dX0_add_25 (by decide) ?_
    refine rJ_imul X dX0_add_26 ?_
    refine rJ_as (nI (kp * 4)) (by rw [show (4 : Int32) = nI 4 from rfl, pk_mul]) ?_
    refine rJ_istore X dX0_add_27 (by decide) ?_
    refine rJ_aload_n X dX0_add_29 rfl rfl ?_
    refine rJ_getR X fX0_11 (by first | exact hw.1 _ _ rfl | assumption) (by first | exact hw.2 _ _ _ rfl | assumption) dX0_add_30 ?_
    refine rJ_iload X dX0_add_33 rfl ?_
    refine rJ_iload_n X dX0_add_35 rfl rfl ?_
    refine rJ_iastK (k := (kp * 4)) X rfl (n := 4000) ⟨by omega, by decide⟩ (by first | exact hw.1 _ _ rfl | assumption) dX0_add_36 (fun S36 hS36 => ?_)
    refine rJ_aload_n X dX0_add_37 rfl rfl ?_
    refine rJ_getR X fX0_11 (by first | exact hw.1 _ _ rfl | assumption) (by first | exact hw.2 _ _ _ rfl | assumption) dX0_add_38 ?_
    refine rJ_iload X dX0_add_41 rfl ?_
    refine rJ_iconst (v := 1) X dX0_add_43 (by decide) ?_
    refine rJ_iadd X dX0_add_44 ?_
    refine rJ_as (nI (kp * 4 + 1)) (by rw [show (1 : Int32) = nI 1 from rfl, nI_add]) ?_
    refine rJ_iload_n X dX0_add_45 rfl rfl ?_
    refine rJ_iastK (k := (kp * 4 + 1)) X rfl (n := 4000) ⟨by omega, by decide⟩ (by first | exact hw.1 _ _ rfl | assumption) dX0_add_46 (fun S46 hS46 => ?_)
    refine rJ_aload_n X dX0_add_47 rfl rfl ?_
    refine rJ_getR X fX0_11 (by first | exact hw.1 _ _ rfl | assumption) (by first | exact hw.2 _ _ _ rfl | assumption) dX0_add_48 ?_
    refine rJ_iload X dX0_add_51 rfl ?_
    refine rJ_iconst (v := 2) X dX0_add_53 (by decide) ?_
    refine rJ_iadd X dX0_add_54 ?_
    refine rJ_as (nI (kp * 4 + 2)) (by rw [show (2 : Int32) = nI 2 from rfl, nI_add]) ?_
    refine rJ_iload_n X dX0_add_55 rfl rfl ?_
    refine rJ_iastK (k := (kp * 4 + 2)) X rfl (n := 4000) ⟨by omega, by decide⟩ (by first | exact hw.1 _ _ rfl | assumption) dX0_add_56 (fun S56 hS56 => ?_)
    refine rJ_aload_n X dX0_add_57 rfl rfl ?_
    refine rJ_getR X fX0_11 (by first | exact hw.1 _ _ rfl | assumption) (by first | exact hw.2 _ _ _ rfl | assumption) dX0_add_58 ?_
    refine rJ_iload X dX0_add_61 rfl ?_
    refine rJ_iconst (v := 3) X dX0_add_63 (by decide) ?_
    refine rJ_iadd X dX0_add_64 ?_
    refine rJ_as (nI (kp * 4 + 3)) (by rw [show (3 : Int32) = nI 3 from rfl, nI_add]) ?_
    refine rJ_iload X dX0_add_65 rfl ?_
    refine rJ_iastK (k := (kp * 4 + 3)) X rfl (n := 4000) ⟨by omega, by decide⟩ (by first | exact hw.1 _ _ rfl | assumption) dX0_add_67 (fun S67 hS67 => ?_)
    refine rJ_aload_n X dX0_add_68 rfl rfl ?_
    refine rJ_dup X dX0_add_69 rfl ?_
    refine rJ_getI X fX0_15 (by first | exact hw.1 _ _ rfl | assumption) dX0_add_70 ?_
    refine rJ_as (nI kp) (by rw [hS67, hS56, hS46, hS36, hS7, mu_na _ _ _ (by decide), mu_na _ _ _ (by decide), mu_na _ _ _ (by decide), mu_na _ _ _ (by decide), mu_ns _ _ _ (by decide), hk]) ?_
    refine rJ_iconst (v := 1) X dX0_add_73 (by decide) ?_
    refine rJ_iadd X dX0_add_74 ?_
    refine rJ_setI X fX0_15 (Or.inl fwX0_15) (by first | exact hw.1 _ _ rfl | assumption) ⟨rfl, rfl⟩ dX0_add_75 (fun S75 hS75 => ?_)
    exact rJ_vretZ hZ X dX0_add_78 ⟨rfl, rfl, rfl, by rw [cAdd, if_pos c1, hS75, hS67, hS56, hS46, hS36, hS7, nI_1], rfl⟩
  · rw [hS7, mu_ns _ _ _ (by decide), hk, show (1000 : Int32) = nI 1000 from rfl, nI_ltI (by omega) (by decide)] at c1
    exact rJ_vretZ hZ X dX0_add_20 ⟨rfl, rfl, rfl, by rw [cAdd, if_neg c1, hS7], rfl⟩
def cPart (S : mI) (k w : Int32) : Int32 := if (0 ≤ k ∧ k < S 12 1) ∧ (0 ≤ w ∧ w < 4) then S 13 (k.toNatClampNeg * 4 + w.toNatClampNeg) else -2
theorem part_ix {k w : Int32} {kp : Nat} (hk1 : kp ≤ 1000) (h0 : ¬ k < 0) (h1 : ¬ nI kp ≤ k) (h2 : ¬ w < 0) (h3 : w < 4) : k * 4 + w = nI (k.toNatClampNeg * 4 + w.toNatClampNeg) ∧ k.toNatClampNeg * 4 + w.toNatClampNeg < 4000 := by
  obtain ⟨i, hi, rfl⟩ := nI_of h0
  obtain ⟨j, hj, rfl⟩ := nI_of h2
  rw [nI_leI (by omega) (by omega)] at h1
  rw [show (4 : Int32) = nI 4 from rfl, nI_ltI (by omega) (by decide)] at h3
  rw [nI_clamp (by omega), nI_clamp (by omega), show (4 : Int32) = nI 4 from rfl, pk_mul, nI_add]
  exact ⟨rfl, by omega⟩
set_option maxHeartbeats 4000000 in
set_option maxRecDepth 100000 in
theorem cG_part {l : Launch} {D : va_G} {b : Nat} {A : Nat → Nat} {Sh : mS} {S : mI} {G : mP} (hw : okC Sh G) {kp : Nat} (hk : S 12 1 = nI kp) (hk1 : kp ≤ 1000) (k w : Int32) : rMet l D b yX0_part cX0_part 3 (some .int) (mR 0) A Sh S G [.ref (A 12), .int k, .int w] (rPi A Sh (cPart S k w) S G) := by
  refine rMet_oz RX0 rfl (by decide) (Nat.le_of_ble_eq_true rfl) ?_
  intro p e s m args below meth c Z hZ X hnm
  refine rJ_iload_n X dX0_part_0 rfl rfl ?_
  refine rJ_if_lt (tgt := 21) X dX0_part_1 (by decide) (fun c1 => ?_) (fun c1 => ?_)
  · refine rJ_bipush (v := (-2)) X dX0_part_21 (by decide) ?_
    exact rJ_iretZ hZ X dX0_part_23 ⟨by clear X hZ; grind [cPart], rfl, rfl, rfl, rfl⟩
  · refine rJ_iload_n X dX0_part_4 rfl rfl ?_
    refine rJ_aload_n X dX0_part_5 rfl rfl ?_
    refine rJ_getI X fX0_15 (by first | exact hw.1 _ _ rfl | assumption) dX0_part_6 ?_
    refine rJ_icmp_ge (tgt := 21) X dX0_part_9 (by decide) (fun c2 => ?_) (fun c2 => ?_)
    · rw [hk] at c2
      refine rJ_bipush (v := (-2)) X dX0_part_21 (by decide) ?_
      exact rJ_iretZ hZ X dX0_part_23 ⟨by clear X hZ; grind [cPart], rfl, rfl, rfl, rfl⟩
    · rw [hk] at c2
      refine rJ_iload_n X dX0_part_12 rfl rfl ?_
      refine rJ_if_lt (tgt := 21) X dX0_part_13 (by decide) (fun c3 => ?_) (fun c3 => ?_)
      · refine rJ_bipush (v := (-2)) X dX0_part_21 (by decide) ?_
        exact rJ_iretZ hZ X dX0_part_23 ⟨by clear X hZ; grind [cPart], rfl, rfl, rfl, rfl⟩
      · refine rJ_iload_n X dX0_part_16 rfl rfl ?_
        refine rJ_iconst (v := 4) X dX0_part_17 (by decide) ?_
        refine rJ_icmp_lt (tgt := 24) X dX0_part_18 (by decide) (fun c4 => ?_) (fun c4 => ?_)
        · refine rJ_aload_n X dX0_part_24 rfl rfl ?_
          refine rJ_getR X fX0_11 (by first | exact hw.1 _ _ rfl | assumption) (by first | exact hw.2 _ _ _ rfl | assumption) dX0_part_25 ?_
          refine rJ_iload_n X dX0_part_28 rfl rfl ?_
          refine rJ_iconst (v := 4) X dX0_part_29 (by decide) ?_
          refine rJ_imul X dX0_part_30 ?_
          refine rJ_iload_n X dX0_part_31 rfl rfl ?_
          refine rJ_iadd X dX0_part_32 ?_
          refine rJ_ialdK (k := (k.toNatClampNeg * 4 + w.toNatClampNeg)) X (part_ix hk1 c1 c2 c3 c4).1 (n := 4000) ⟨(part_ix hk1 c1 c2 c3 c4).2, by decide⟩ (by first | exact hw.1 _ _ rfl | assumption) dX0_part_33 ?_
          exact rJ_iretZ hZ X dX0_part_34 ⟨by clear X hZ; grind [cPart], rfl, rfl, rfl, rfl⟩
        · refine rJ_bipush (v := (-2)) X dX0_part_21 (by decide) ?_
          exact rJ_iretZ hZ X dX0_part_23 ⟨by clear X hZ; grind [cPart], rfl, rfl, rfl, rfl⟩
abbrev cHolds (S : mI) (kp j : Nat) (x y z : Int32) : Prop := j < kp ∧ S 13 (j * 4) = x ∧ S 13 (j * 4 + 1) = y ∧ S 13 (j * 4 + 2) = z
set_option maxHeartbeats 4000000 in
set_option maxRecDepth 100000 in
theorem cG_holds {l : Launch} {D : va_G} {b : Nat} {A : Nat → Nat} {Sh : mS} {S : mI} {G : mP} (hw : okC Sh G) {kp : Nat} (hk : S 12 1 = nI kp) (hk1 : kp ≤ 1000) {j : Nat} (hj : j < 2147483648) (x y z : Int32) : rMet l D b yX0_holds cX0_holds 6 (some .boolean) (mR 0) A Sh S G [.ref (A 12), .int (nI j), .int x, .int y, .int z] (rPi A Sh (if cHolds S kp j x y z then 1 else 0) S G) := by
  refine rMet_oz RX0 rfl (by decide) (Nat.le_of_ble_eq_true rfl) ?_
  intro p e s m args below meth c Z hZ X hnm
  refine rJ_iload_n X dX0_holds_0 rfl rfl ?_
  refine rJ_if_lt (tgt := 12) X dX0_holds_1 (by decide) (fun c1 => ?_) (fun c1 => ?_)
  · exact absurd c1 (nI_pos hj)
  · refine rJ_iload_n X dX0_holds_4 rfl rfl ?_
    refine rJ_aload_n X dX0_holds_5 rfl rfl ?_
    refine rJ_getI X fX0_15 (by first | exact hw.1 _ _ rfl | assumption) dX0_holds_6 ?_
    refine rJ_icmp_lt (tgt := 14) X dX0_holds_9 (by decide) (fun c2 => ?_) (fun c2 => ?_)
    · rw [hk, nI_ltI (by omega) (by omega)] at c2
      refine rJ_iload_n X dX0_holds_14 rfl rfl ?_
      refine rJ_iconst (v := 4) X dX0_holds_15 (by decide) ?_
      refine rJ_imul X dX0_holds_16 ?_
      refine rJ_as (nI (j * 4)) (by rw [show (4 : Int32) = nI 4 from rfl, pk_mul]) ?_
      refine rJ_istore X dX0_holds_17 (by decide) ?_
      refine rJ_aload_n X dX0_holds_19 rfl rfl ?_
      refine rJ_getR X fX0_11 (by first | exact hw.1 _ _ rfl | assumption) (by first | exact hw.2 _ _ _ rfl | assumption) dX0_holds_20 ?_
      refine rJ_iload X dX0_holds_23 rfl ?_
      refine rJ_ialdK (k := (j * 4)) X rfl (n := 4000) ⟨by omega, by decide⟩ (by first | exact hw.1 _ _ rfl | assumption) dX0_holds_25 ?_
      refine rJ_iload_n X dX0_holds_26 rfl rfl ?_
      refine rJ_icmp_ne (tgt := 61) X dX0_holds_27 (by decide) (fun c3 => ?_) (fun c3 => ?_)
      · refine rJ_iconst (v := 0) X dX0_holds_61 (by decide) ?_
        exact rJ_zretZ hZ X dX0_holds_62 rfl ⟨by clear X hZ; grind, rfl, rfl, rfl, rfl⟩
      · refine rJ_aload_n X dX0_holds_30 rfl rfl ?_
        refine rJ_getR X fX0_11 (by first | exact hw.1 _ _ rfl | assumption) (by first | exact hw.2 _ _ _ rfl | assumption) dX0_holds_31 ?_
        refine rJ_iload X dX0_holds_34 rfl ?_
        refine rJ_iconst (v := 1) X dX0_holds_36 (by decide) ?_
        refine rJ_iadd X dX0_holds_37 ?_
        refine rJ_as (nI (j * 4 + 1)) (by rw [show (1 : Int32) = nI 1 from rfl, nI_add]) ?_
        refine rJ_ialdK (k := (j * 4 + 1)) X rfl (n := 4000) ⟨by omega, by decide⟩ (by first | exact hw.1 _ _ rfl | assumption) dX0_holds_38 ?_
        refine rJ_iload_n X dX0_holds_39 rfl rfl ?_
        refine rJ_icmp_ne (tgt := 61) X dX0_holds_40 (by decide) (fun c4 => ?_) (fun c4 => ?_)
        · refine rJ_iconst (v := 0) X dX0_holds_61 (by decide) ?_
          exact rJ_zretZ hZ X dX0_holds_62 rfl ⟨by clear X hZ; grind, rfl, rfl, rfl, rfl⟩
        · refine rJ_aload_n X dX0_holds_43 rfl rfl ?_
          refine rJ_getR X fX0_11 (by first | exact hw.1 _ _ rfl | assumption) (by first | exact hw.2 _ _ _ rfl | assumption) dX0_holds_44 ?_
          refine rJ_iload X dX0_holds_47 rfl ?_
          refine rJ_iconst (v := 2) X dX0_holds_49 (by decide) ?_
          refine rJ_iadd X dX0_holds_50 ?_
          refine rJ_as (nI (j * 4 + 2)) (by rw [show (2 : Int32) = nI 2 from rfl, nI_add]) ?_
          refine rJ_ialdK (k := (j * 4 + 2)) X rfl (n := 4000) ⟨by omega, by decide⟩ (by first | exact hw.1 _ _ rfl | assumption) dX0_holds_51 ?_
          refine rJ_iload X dX0_holds_52 rfl ?_
          refine rJ_icmp_ne (tgt := 61) X dX0_holds_54 (by decide) (fun c5 => ?_) (fun c5 => ?_)
          · refine rJ_iconst (v := 0) X dX0_holds_61 (by decide) ?_
            exact rJ_zretZ hZ X dX0_holds_62 rfl ⟨by clear X hZ; grind, rfl, rfl, rfl, rfl⟩
          · refine rJ_iconst (v := 1) X dX0_holds_57 (by decide) ?_
            refine rJ_goto (tgt := 62) X dX0_holds_58 (by decide) ?_
            exact rJ_zretZ hZ X dX0_holds_62 rfl ⟨by clear X hZ; grind, rfl, rfl, rfl, rfl⟩
    · rw [hk, nI_ltI (by omega) (by omega)] at c2
      refine rJ_iconst (v := 0) X dX0_holds_12 (by decide) ?_
      exact rJ_zretZ hZ X dX0_holds_13 rfl ⟨by clear X hZ; grind, rfl, rfl, rfl, rfl⟩
/-- the reader took a break between stages -/
abbrev cBrkOk (S : mI) : Prop := ¬ S 2 3 = 0 ∧ S 2 2 + 1 < 8
def cBrk (S : mI) : mI := mu (mu S 2 2 (S 2 2 + 1)) 2 3 0
def cPuts (S : mI) (k : Nat) : mI := mu (mu S 3 k (S 2 2)) 2 3 1
set_option maxHeartbeats 4000000 in
set_option maxRecDepth 100000 in
theorem cR_takesBreak {l : Launch} {D : va_G} {b : Nat} {A : Nat → Nat} {Sh : mS} {S : mI} {G : mP} (hw : okC Sh G) : rMet l D b yX4_takesBreak cX4_takesBreak 1 (some .boolean) (mR 0) A Sh S G [.ref (A 2)] (rPi A Sh (if cBrkOk S then 1 else 0) (if cBrkOk S then cBrk S else S) G) := by
  refine rMet_oz RX4 rfl (by decide) (Nat.le_of_ble_eq_true rfl) ?_
  intro p e s m args below meth c Z hZ X hnm
  refine rJ_aload_n X dX4_takesBreak_0 rfl rfl ?_
  refine rJ_getI X fX4_28 (by first | exact hw.1 _ _ rfl | assumption) dX4_takesBreak_1 ?_
  refine rJ_if_eq (tgt := 18) X dX4_takesBreak_4 (by decide) (fun c1 => ?_) (fun c1 => ?_)
  · refine rJ_iconst (v := 0) X dX4_takesBreak_18 (by decide) ?_
    exact rJ_zretZ hZ X dX4_takesBreak_19 rfl ⟨by rw [if_neg (by clear X hZ; grind)], rfl, rfl, by rw [if_neg (by clear X hZ; grind)], rfl⟩
  · refine rJ_aload_n X dX4_takesBreak_7 rfl rfl ?_
    refine rJ_getI X fX4_25 (by first | exact hw.1 _ _ rfl | assumption) dX4_takesBreak_8 ?_
    refine rJ_iconst (v := 1) X dX4_takesBreak_11 (by decide) ?_
    refine rJ_iadd X dX4_takesBreak_12 ?_
    refine rJ_bipush (v := 8) X dX4_takesBreak_13 (by decide) ?_
    refine rJ_icmp_lt (tgt := 20) X dX4_takesBreak_15 (by decide) (fun c2 => ?_) (fun c2 => ?_)
    · refine rJ_aload_n X dX4_takesBreak_20 rfl rfl ?_
      refine rJ_dup X dX4_takesBreak_21 rfl ?_
      refine rJ_getI X fX4_25 (by first | exact hw.1 _ _ rfl | assumption) dX4_takesBreak_22 ?_
      refine rJ_iconst (v := 1) X dX4_takesBreak_25 (by decide) ?_
      refine rJ_iadd X dX4_takesBreak_26 ?_
      refine rJ_setI X fX4_25 (Or.inl fwX4_25) (by first | exact hw.1 _ _ rfl | assumption) ⟨rfl, rfl⟩ dX4_takesBreak_27 (fun S27 hS27 => ?_)
      refine rJ_aload_n X dX4_takesBreak_30 rfl rfl ?_
      refine rJ_iconst (v := 0) X dX4_takesBreak_31 (by decide) ?_
      refine rJ_setI X fX4_28 (Or.inl fwX4_28) (by first | exact hw.1 _ _ rfl | assumption) ⟨by decide, by decide⟩ dX4_takesBreak_32 (fun S32 hS32 => ?_)
      refine rJ_iconst (v := 1) X dX4_takesBreak_35 (by decide) ?_
      exact rJ_zretZ hZ X dX4_takesBreak_36 rfl ⟨by rw [if_pos ⟨c1, c2⟩], rfl, rfl, by rw [if_pos ⟨c1, c2⟩, cBrk, hS32, hS27], rfl⟩
    · refine rJ_iconst (v := 0) X dX4_takesBreak_18 (by decide) ?_
      exact rJ_zretZ hZ X dX4_takesBreak_19 rfl ⟨by rw [if_neg (by clear X hZ; grind)], rfl, rfl, by rw [if_neg (by clear X hZ; grind)], rfl⟩
set_option maxHeartbeats 4000000 in
set_option maxRecDepth 100000 in
theorem cR_puts {l : Launch} {D : va_G} {b : Nat} {A : Nat → Nat} {Sh : mS} {S : mI} {G : mP} (hw : okC Sh G) {k : Nat} (hk : k < 8) : rMet l D b yX4_puts cX4_puts 2 (some .boolean) (mR 0) A Sh S G [.ref (A 2), .int (nI k)] (rPi A Sh 1 (cPuts S k) G) := by
  refine rMet_oz RX4 rfl (by decide) (Nat.le_of_ble_eq_true rfl) ?_
  intro p e s m args below meth c Z hZ X hnm
  refine rJ_aload_n X dX4_puts_0 rfl rfl ?_
  refine rJ_getR X fX4_9 (by first | exact hw.1 _ _ rfl | assumption) (by first | exact hw.2 _ _ _ rfl | assumption) dX4_puts_1 ?_
  refine rJ_iload_n X dX4_puts_4 rfl rfl ?_
  refine rJ_aload_n X dX4_puts_5 rfl rfl ?_
  refine rJ_getI X fX4_25 (by first | exact hw.1 _ _ rfl | assumption) dX4_puts_6 ?_
  refine rJ_iastK (k := k) X rfl (n := 8) ⟨by omega, by decide⟩ (by first | exact hw.1 _ _ rfl | assumption) dX4_puts_9 (fun S9 hS9 => ?_)
  refine rJ_aload_n X dX4_puts_10 rfl rfl ?_
  refine rJ_iconst (v := 1) X dX4_puts_11 (by decide) ?_
  refine rJ_setI X fX4_28 (Or.inl fwX4_28) (by first | exact hw.1 _ _ rfl | assumption) ⟨by decide, by decide⟩ dX4_puts_12 (fun S12 hS12 => ?_)
  refine rJ_iconst (v := 1) X dX4_puts_15 (by decide) ?_
  exact rJ_zretZ hZ X dX4_puts_16 rfl ⟨rfl, rfl, rfl, by rw [cPuts, hS12, hS9], rfl⟩
/-- the reader takes a sign: its next action is nx -/
def cTk (S : mI) (nx : Nat) (u : Int32) : Option mI :=
  if u = 47 then (if cBrkOk S then some (cBrk S) else none)
  else if u = 121 then (if 2 < nx ∧ nx ≤ 6 ∧ S 3 7 = -1 then some (cPuts S 7) else none)
  else if nx < 7 ∧ u = ssB nx ∧ ¬ (nx = 5 ∧ S 3 4 = S 2 2) then some (cPuts (mu S 2 1 (nI (nx + 1))) nx) else none
set_option maxHeartbeats 4000000 in
set_option maxRecDepth 100000 in
theorem cR_takes {l : Launch} {D : va_G} {b : Nat} {A : Nat → Nat} {Sh : mS} {S : mI} {G : mP} (hw : okC Sh G) {nx : Nat} (hn : S 2 1 = nI nx) (hn7 : nx ≤ 7) (u : Int32) : rMet l D b yX4_takes cX4_takes 2 (some .boolean) (mR 4) A Sh S G [.ref (A 2), .int u] (rPi A Sh (if (cTk S nx u).isSome = true then 1 else 0) ((cTk S nx u).getD S) G) := by
  refine rMet_oz RX4 rfl (by decide) (Nat.le_of_ble_eq_true rfl) ?_
  intro p e s m args below meth c Z hZ X hnm
  obtain ⟨hsR, hsO, hsC, hsV, hsT, hsZ, hsq⟩ := X.2.2.2.2.2.2.2.2.2.1.2.2.2
  refine rJ_iload_n X dX4_takes_0 rfl rfl ?_
  refine rJ_bipush (v := 47) X dX4_takes_1 (by decide) ?_
  refine rJ_icmp_ne (tgt := 11) X dX4_takes_3 (by decide) (fun c1 => ?_) (fun c1 => ?_)
  · refine rJ_iload_n X dX4_takes_11 rfl rfl ?_
    refine rJ_bipush (v := 121) X dX4_takes_12 (by decide) ?_
    refine rJ_icmp_ne (tgt := 60) X dX4_takes_14 (by decide) (fun c2 => ?_) (fun c2 => ?_)
    · refine rJ_aload_n X dX4_takes_60 rfl rfl ?_
      refine rJ_getI X fX4_21 (by first | exact hw.1 _ _ rfl | assumption) dX4_takes_61 ?_
      refine rJ_ldcS X hsR dX4_takes_64 ?_
      refine rJ_callO (As := []) X hsO cJ_length mJ0_length_8abf5 kvX4_38 kjJ0_length_8abf5 ksJ0_length_8abf5 rfl rfl dX4_takes_66 (by decide) (Nat.le_of_ble_eq_true rfl) ⟨Nat.le_refl _, Nat.le_refl _⟩ ?_
      refine rJ_icmp_ge (tgt := 85) X dX4_takes_69 (by decide) (fun c3 => ?_) (fun c3 => ?_)
      · rw [hn, show (7 : Int32) = nI 7 from rfl, nI_leI (by decide) (by omega)] at c3
        refine rJ_iconst (v := 0) X dX4_takes_85 (by decide) ?_
        exact rJ_zretZ hZ X dX4_takes_86 rfl ⟨by rw [show cTk S nx u = none by clear X hZ hsR hsO hsC hsV hsT hsZ hsq; grind [cTk]]; rfl, rfl, rfl, by rw [show cTk S nx u = none by clear X hZ hsR hsO hsC hsV hsT hsZ hsq; grind [cTk]]; rfl, rfl⟩
      · rw [hn, show (7 : Int32) = nI 7 from rfl, nI_leI (by decide) (by omega)] at c3
        refine rJ_iload_n X dX4_takes_72 rfl rfl ?_
        refine rJ_ldcS X hsR dX4_takes_73 ?_
        refine rJ_aload_n X dX4_takes_75 rfl rfl ?_
        refine rJ_getI X fX4_21 (by first | exact hw.1 _ _ rfl | assumption) dX4_takes_76 ?_
        rw [hn]
        refine rJ_callO (As := [.int (nI nx)]) X hsO (cJ_charAt (j := nx) (by omega)) mJ0_charAt_5068e kvX4_56 kjJ0_charAt_5068e ksJ0_charAt_5068e rfl rfl dX4_takes_79 (by decide) (Nat.le_of_ble_eq_true rfl) ⟨Nat.le_refl _, Nat.le_refl _⟩ ?_
        refine rJ_icmp_eq (tgt := 87) X dX4_takes_82 (by decide) (fun c4 => ?_) (fun c4 => ?_)
        · refine rJ_aload_n X dX4_takes_87 rfl rfl ?_
          refine rJ_getI X fX4_21 (by first | exact hw.1 _ _ rfl | assumption) dX4_takes_88 ?_
          refine rJ_iconst (v := 5) X dX4_takes_91 (by decide) ?_
          refine rJ_icmp_ne (tgt := 110) X dX4_takes_92 (by decide) (fun c5 => ?_) (fun c5 => ?_)
          · rw [hn, show (5 : Int32) = nI 5 from rfl, nI_eq (by omega) (by decide)] at c5
            refine rJ_aload_n X dX4_takes_110 rfl rfl ?_
            refine rJ_dup X dX4_takes_111 rfl ?_
            refine rJ_getI X fX4_21 (by first | exact hw.1 _ _ rfl | assumption) dX4_takes_112 ?_
            refine rJ_iconst (v := 1) X dX4_takes_115 (by decide) ?_
            refine rJ_iadd X dX4_takes_116 ?_
            refine rJ_setI X fX4_21 (Or.inl fwX4_21) (by first | exact hw.1 _ _ rfl | assumption) ⟨rfl, rfl⟩ dX4_takes_117 (fun S117 hS117 => ?_)
            refine rJ_aload_n X dX4_takes_120 rfl rfl ?_
            refine rJ_aload_n X dX4_takes_121 rfl rfl ?_
            refine rJ_getI X fX4_21 (by first | exact hw.1 _ _ rfl | assumption) dX4_takes_122 ?_
            refine rJ_as (nI (nx + 1)) (by rw [hS117, mu_eq, hn, nI_1]) ?_
            refine rJ_iconst (v := 1) X dX4_takes_125 (by decide) ?_
            refine rJ_isub X dX4_takes_126 ?_
            refine rJ_as (nI nx) (nI_pred nx) ?_
            refine rJ_Vi1 X gX4_53 (cR_puts hw (k := nx) (by omega)) (by first | exact hw.1 _ _ rfl | assumption) dX4_takes_127 (by decide) (Nat.le_of_ble_eq_true rfl) ⟨Nat.le_refl _, Nat.le_refl _⟩ ?_
            exact rJ_zretZ hZ X dX4_takes_130 rfl ⟨by rw [show cTk S nx u = some (cPuts (mu S 2 1 (nI (nx + 1))) nx) by clear X hZ hsR hsO hsC hsV hsT hsZ hsq; grind [cTk]]; rfl, rfl, rfl, by rw [show cTk S nx u = some (cPuts (mu S 2 1 (nI (nx + 1))) nx) by clear X hZ hsR hsO hsC hsV hsT hsZ hsq; grind [cTk]]; rw [hS117, hn, nI_1]; rfl, rfl⟩
          · rw [hn, show (5 : Int32) = nI 5 from rfl, nI_eq (by omega) (by decide)] at c5
            refine rJ_aload_n X dX4_takes_95 rfl rfl ?_
            refine rJ_getR X fX4_9 (by first | exact hw.1 _ _ rfl | assumption) (by first | exact hw.2 _ _ _ rfl | assumption) dX4_takes_96 ?_
            refine rJ_iconst (v := 4) X dX4_takes_99 (by decide) ?_
            refine rJ_ialdK (k := 4) X (by decide) (n := 8) ⟨by decide, by decide⟩ (by first | exact hw.1 _ _ rfl | assumption) dX4_takes_100 ?_
            refine rJ_aload_n X dX4_takes_101 rfl rfl ?_
            refine rJ_getI X fX4_25 (by first | exact hw.1 _ _ rfl | assumption) dX4_takes_102 ?_
            refine rJ_icmp_ne (tgt := 110) X dX4_takes_105 (by decide) (fun c6 => ?_) (fun c6 => ?_)
            · refine rJ_aload_n X dX4_takes_110 rfl rfl ?_
              refine rJ_dup X dX4_takes_111 rfl ?_
              refine rJ_getI X fX4_21 (by first | exact hw.1 _ _ rfl | assumption) dX4_takes_112 ?_
              refine rJ_iconst (v := 1) X dX4_takes_115 (by decide) ?_
              refine rJ_iadd X dX4_takes_116 ?_
              refine rJ_setI X fX4_21 (Or.inl fwX4_21) (by first | exact hw.1 _ _ rfl | assumption) ⟨rfl, rfl⟩ dX4_takes_117 (fun S117 hS117 => ?_)
              refine rJ_aload_n X dX4_takes_120 rfl rfl ?_
              refine rJ_aload_n X dX4_takes_121 rfl rfl ?_
              refine rJ_getI X fX4_21 (by first | exact hw.1 _ _ rfl | assumption) dX4_takes_122 ?_
              refine rJ_as (nI (nx + 1)) (by rw [hS117, mu_eq, hn, nI_1]) ?_
              refine rJ_iconst (v := 1) X dX4_takes_125 (by decide) ?_
              refine rJ_isub X dX4_takes_126 ?_
              refine rJ_as (nI nx) (nI_pred nx) ?_
              refine rJ_Vi1 X gX4_53 (cR_puts hw (k := nx) (by omega)) (by first | exact hw.1 _ _ rfl | assumption) dX4_takes_127 (by decide) (Nat.le_of_ble_eq_true rfl) ⟨Nat.le_refl _, Nat.le_refl _⟩ ?_
              exact rJ_zretZ hZ X dX4_takes_130 rfl ⟨by rw [show cTk S nx u = some (cPuts (mu S 2 1 (nI (nx + 1))) nx) by clear X hZ hsR hsO hsC hsV hsT hsZ hsq; grind [cTk]]; rfl, rfl, rfl, by rw [show cTk S nx u = some (cPuts (mu S 2 1 (nI (nx + 1))) nx) by clear X hZ hsR hsO hsC hsV hsT hsZ hsq; grind [cTk]]; rw [hS117, hn, nI_1]; rfl, rfl⟩
            · refine rJ_iconst (v := 0) X dX4_takes_108 (by decide) ?_
              exact rJ_zretZ hZ X dX4_takes_109 rfl ⟨by rw [show cTk S nx u = none by clear X hZ hsR hsO hsC hsV hsT hsZ hsq; grind [cTk]]; rfl, rfl, rfl, by rw [show cTk S nx u = none by clear X hZ hsR hsO hsC hsV hsT hsZ hsq; grind [cTk]]; rfl, rfl⟩
        · refine rJ_iconst (v := 0) X dX4_takes_85 (by decide) ?_
          exact rJ_zretZ hZ X dX4_takes_86 rfl ⟨by rw [show cTk S nx u = none by clear X hZ hsR hsO hsC hsV hsT hsZ hsq; grind [cTk]]; rfl, rfl, rfl, by rw [show cTk S nx u = none by clear X hZ hsR hsO hsC hsV hsT hsZ hsq; grind [cTk]]; rfl, rfl⟩
    · refine rJ_aload_n X dX4_takes_17 rfl rfl ?_
      refine rJ_getI X fX4_21 (by first | exact hw.1 _ _ rfl | assumption) dX4_takes_18 ?_
      refine rJ_iconst (v := 2) X dX4_takes_21 (by decide) ?_
      refine rJ_icmp_le (tgt := 58) X dX4_takes_22 (by decide) (fun c7 => ?_) (fun c7 => ?_)
      · rw [hn, show (2 : Int32) = nI 2 from rfl, nI_leI (by omega) (by decide)] at c7
        refine rJ_iconst (v := 0) X dX4_takes_58 (by decide) ?_
        exact rJ_zretZ hZ X dX4_takes_59 rfl ⟨by rw [show cTk S nx u = none by clear X hZ hsR hsO hsC hsV hsT hsZ hsq; grind [cTk]]; rfl, rfl, rfl, by rw [show cTk S nx u = none by clear X hZ hsR hsO hsC hsV hsT hsZ hsq; grind [cTk]]; rfl, rfl⟩
      · rw [hn, show (2 : Int32) = nI 2 from rfl, nI_leI (by omega) (by decide)] at c7
        refine rJ_aload_n X dX4_takes_25 rfl rfl ?_
        refine rJ_getI X fX4_21 (by first | exact hw.1 _ _ rfl | assumption) dX4_takes_26 ?_
        refine rJ_bipush (v := 6) X dX4_takes_29 (by decide) ?_
        refine rJ_icmp_gt (tgt := 58) X dX4_takes_31 (by decide) (fun c8 => ?_) (fun c8 => ?_)
        · rw [hn, show (6 : Int32) = nI 6 from rfl, nI_ltI (by decide) (by omega)] at c8
          refine rJ_iconst (v := 0) X dX4_takes_58 (by decide) ?_
          exact rJ_zretZ hZ X dX4_takes_59 rfl ⟨by rw [show cTk S nx u = none by clear X hZ hsR hsO hsC hsV hsT hsZ hsq; grind [cTk]]; rfl, rfl, rfl, by rw [show cTk S nx u = none by clear X hZ hsR hsO hsC hsV hsT hsZ hsq; grind [cTk]]; rfl, rfl⟩
        · rw [hn, show (6 : Int32) = nI 6 from rfl, nI_ltI (by decide) (by omega)] at c8
          refine rJ_aload_n X dX4_takes_34 rfl rfl ?_
          refine rJ_getR X fX4_9 (by first | exact hw.1 _ _ rfl | assumption) (by first | exact hw.2 _ _ _ rfl | assumption) dX4_takes_35 ?_
          refine rJ_bipush (v := 7) X dX4_takes_38 (by decide) ?_
          refine rJ_ialdK (k := 7) X (by decide) (n := 8) ⟨by decide, by decide⟩ (by first | exact hw.1 _ _ rfl | assumption) dX4_takes_40 ?_
          refine rJ_iconst (v := (-1)) X dX4_takes_41 (by decide) ?_
          refine rJ_icmp_ne (tgt := 58) X dX4_takes_42 (by decide) (fun c9 => ?_) (fun c9 => ?_)
          · refine rJ_iconst (v := 0) X dX4_takes_58 (by decide) ?_
            exact rJ_zretZ hZ X dX4_takes_59 rfl ⟨by rw [show cTk S nx u = none by clear X hZ hsR hsO hsC hsV hsT hsZ hsq; grind [cTk]]; rfl, rfl, rfl, by rw [show cTk S nx u = none by clear X hZ hsR hsO hsC hsV hsT hsZ hsq; grind [cTk]]; rfl, rfl⟩
          · refine rJ_aload_n X dX4_takes_45 rfl rfl ?_
            refine rJ_bipush (v := 7) X dX4_takes_46 (by decide) ?_
            refine rJ_Vi1 X gX4_53 (cR_puts hw (k := 7) (by decide)) (by first | exact hw.1 _ _ rfl | assumption) dX4_takes_48 (by decide) (Nat.le_of_ble_eq_true rfl) ⟨Nat.le_refl _, Nat.le_refl _⟩ ?_
            refine rJ_if_eq (tgt := 58) X dX4_takes_51 (by decide) (fun c10 => ?_) (fun c10 => ?_)
            · try replace c10 := z_f c10
              exact absurd (by assumption) (by decide)
            · try replace c10 := z_t c10
              refine rJ_iconst (v := 1) X dX4_takes_54 (by decide) ?_
              refine rJ_goto (tgt := 59) X dX4_takes_55 (by decide) ?_
              exact rJ_zretZ hZ X dX4_takes_59 rfl ⟨by rw [show cTk S nx u = some (cPuts S 7) by clear X hZ hsR hsO hsC hsV hsT hsZ hsq; grind [cTk]]; rfl, rfl, rfl, by rw [show cTk S nx u = some (cPuts S 7) by clear X hZ hsR hsO hsC hsV hsT hsZ hsq; grind [cTk]]; rfl, rfl⟩
  · refine rJ_aload_n X dX4_takes_6 rfl rfl ?_
    refine rJ_Vi0 X gX4_49 (cR_takesBreak hw) (by first | exact hw.1 _ _ rfl | assumption) dX4_takes_7 (by decide) (Nat.le_of_ble_eq_true rfl) ⟨Nat.le_refl _, Nat.le_refl _⟩ ?_
    exact rJ_zretZ hZ X dX4_takes_10 z_n ⟨by rw [cTk, if_pos c1]; split <;> rfl, rfl, rfl, by rw [cTk, if_pos c1]; split <;> rfl, rfl⟩
