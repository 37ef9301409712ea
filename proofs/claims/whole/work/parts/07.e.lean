set_option maxHeartbeats 4000000 in
set_option maxRecDepth 100000 in
theorem cJ_coder {l : Launch} {D : va_G} {b : Nat} {A : Nat → Nat} {Sh : mS} {S : mI} {G : mP}  : rMet l D b yJ0_coder_7d493 cJ0_coder_7d493 1 (some .byte) (mR 0) A Sh S G [.ref (D.2 900 0)] (rPi A Sh 0 S G) := by
  refine rMet_oz RJ0 rfl (by decide) (Nat.le_of_ble_eq_true rfl) ?_
  intro p e s m args below meth c Z hZ X hnm
  obtain ⟨hsR, hsO, hsC, hsV, hsT, hsZ, hsq⟩ := X.2.2.2.2.2.2.2.2.2.1.2.2.2
  refine rJ_gets X hsZ kfJ0_38 dJ0_coder_7d493_0 ?_
  refine rJ_if_eq (tgt := 13) X dJ0_coder_7d493_3 (by decide) (fun c1 => ?_) (fun c1 => ?_)
  · exact absurd c1 (by decide)
  · refine rJ_aload_n X dJ0_coder_7d493_6 rfl rfl ?_
    refine rJ_sget X hsC kfJ0_15 dJ0_coder_7d493_7 ?_
    refine rJ_goto (tgt := 14) X dJ0_coder_7d493_10 (by decide) ?_
    exact rJ_bretZ hZ X dJ0_coder_7d493_14 rfl ⟨rfl, rfl, rfl, rfl, rfl⟩
set_option maxHeartbeats 4000000 in
set_option maxRecDepth 100000 in
theorem cJ_isLatin1 {l : Launch} {D : va_G} {b : Nat} {A : Nat → Nat} {Sh : mS} {S : mI} {G : mP}  : rMet l D b yJ0_isLatin1_aae02 cJ0_isLatin1_aae02 1 (some .boolean) (mR 0) A Sh S G [.ref (D.2 900 0)] (rPi A Sh 1 S G) := by
  refine rMet_oz RJ0 rfl (by decide) (Nat.le_of_ble_eq_true rfl) ?_
  intro p e s m args below meth c Z hZ X hnm
  obtain ⟨hsR, hsO, hsC, hsV, hsT, hsZ, hsq⟩ := X.2.2.2.2.2.2.2.2.2.1.2.2.2
  refine rJ_gets X hsZ kfJ0_38 dJ0_isLatin1_aae02_0 ?_
  refine rJ_if_eq (tgt := 17) X dJ0_isLatin1_aae02_3 (by decide) (fun c1 => ?_) (fun c1 => ?_)
  · first | exact absurd c1 (by decide) | exact absurd rfl c2
  · refine rJ_aload_n X dJ0_isLatin1_aae02_6 rfl rfl ?_
    refine rJ_sget X hsC kfJ0_15 dJ0_isLatin1_aae02_7 ?_
    refine rJ_if_ne (tgt := 17) X dJ0_isLatin1_aae02_10 (by decide) (fun c2 => ?_) (fun c2 => ?_)
    · first | exact absurd c1 (by decide) | exact absurd rfl c2
    · refine rJ_iconst (v := 1) X dJ0_isLatin1_aae02_13 (by decide) ?_
      refine rJ_goto (tgt := 18) X dJ0_isLatin1_aae02_14 (by decide) ?_
      exact rJ_zretZ hZ X dJ0_isLatin1_aae02_18 rfl ⟨rfl, rfl, rfl, rfl, rfl⟩
set_option maxHeartbeats 4000000 in
set_option maxRecDepth 100000 in
theorem cJ_length {l : Launch} {D : va_G} {b : Nat} {A : Nat → Nat} {Sh : mS} {S : mI} {G : mP}  : rMet l D b yJ0_length_8abf5 cJ0_length_8abf5 1 (some .int) (mR 1) A Sh S G [.ref (D.2 900 0)] (rPi A Sh 7 S G) := by
  refine rMet_oz RJ0 rfl (by decide) (Nat.le_of_ble_eq_true rfl) ?_
  intro p e s m args below meth c Z hZ X hnm
  obtain ⟨hsR, hsO, hsC, hsV, hsT, hsZ, hsq⟩ := X.2.2.2.2.2.2.2.2.2.1.2.2.2
  refine rJ_aload_n X dJ0_length_8abf5_0 rfl rfl ?_
  refine rJ_sget X hsV kfJ0_9 dJ0_length_8abf5_1 ?_
  refine rJ_slen (v := 7) X hsT rfl dJ0_length_8abf5_4 ?_
  refine rJ_aload_n X dJ0_length_8abf5_5 rfl rfl ?_
  refine rJ_callO (As := []) X hsO cJ_coder mJ0_coder_7d493 kvJ0_335 kjJ0_coder_7d493 ksJ0_coder_7d493 rfl rfl dJ0_length_8abf5_6 (by decide) (Nat.le_of_ble_eq_true rfl) ⟨Nat.le_refl _, Nat.le_refl _⟩ ?_
  refine rJ_ishr X dJ0_length_8abf5_9 ?_
  exact rJ_iretZ hZ X dJ0_length_8abf5_10 ⟨by decide, rfl, rfl, rfl, rfl⟩
set_option maxHeartbeats 4000000 in
set_option maxRecDepth 100000 in
theorem cJ_checkn {l : Launch} {D : va_G} {b : Nat} {A : Nat → Nat} {Sh : mS} {S : mI} {G : mP} {i n : Int32} (h0 : ¬ i < 0) (h1 : i < n) : rMet l D b yJ3_checkIndex_8e157 cJ3_checkIndex_8e157 3 (some .int) (mR 0) A Sh S G [.int i, .int n, .null] (rPi A Sh i S G) := by
  refine rMet_oz RJ3 rfl (by decide) (Nat.le_of_ble_eq_true rfl) ?_
  intro p e s m args below meth c Z hZ X hnm
  refine rJ_iload_n X dJ3_checkIndex_8e157_0 rfl rfl ?_
  refine rJ_if_lt (tgt := 9) X dJ3_checkIndex_8e157_1 (by decide) (fun c1 => ?_) (fun c1 => ?_)
  · first | exact absurd c1 h0 | exact absurd h1 c2
  · refine rJ_iload_n X dJ3_checkIndex_8e157_4 rfl rfl ?_
    refine rJ_iload_n X dJ3_checkIndex_8e157_5 rfl rfl ?_
    refine rJ_icmp_lt (tgt := 16) X dJ3_checkIndex_8e157_6 (by decide) (fun c2 => ?_) (fun c2 => ?_)
    · refine rJ_iload_n X dJ3_checkIndex_8e157_16 rfl rfl ?_
      exact rJ_iretZ hZ X dJ3_checkIndex_8e157_17 ⟨rfl, rfl, rfl, rfl, rfl⟩
    · first | exact absurd c1 h0 | exact absurd h1 c2
set_option maxHeartbeats 4000000 in
set_option maxRecDepth 100000 in
theorem cJ_checkr {l : Launch} {D : va_G} {b : Nat} {A : Nat → Nat} {Sh : mS} {S : mI} {G : mP} {a9 : Nat} {i n : Int32} (h0 : ¬ i < 0) (h1 : i < n) : rMet l D b yJ3_checkIndex_8e157 cJ3_checkIndex_8e157 3 (some .int) (mR 0) A Sh S G [.int i, .int n, .ref a9] (rPi A Sh i S G) := by
  refine rMet_oz RJ3 rfl (by decide) (Nat.le_of_ble_eq_true rfl) ?_
  intro p e s m args below meth c Z hZ X hnm
  refine rJ_iload_n X dJ3_checkIndex_8e157_0 rfl rfl ?_
  refine rJ_if_lt (tgt := 9) X dJ3_checkIndex_8e157_1 (by decide) (fun c1 => ?_) (fun c1 => ?_)
  · first | exact absurd c1 h0 | exact absurd h1 c2
  · refine rJ_iload_n X dJ3_checkIndex_8e157_4 rfl rfl ?_
    refine rJ_iload_n X dJ3_checkIndex_8e157_5 rfl rfl ?_
    refine rJ_icmp_lt (tgt := 16) X dJ3_checkIndex_8e157_6 (by decide) (fun c2 => ?_) (fun c2 => ?_)
    · refine rJ_iload_n X dJ3_checkIndex_8e157_16 rfl rfl ?_
      exact rJ_iretZ hZ X dJ3_checkIndex_8e157_17 ⟨rfl, rfl, rfl, rfl, rfl⟩
    · first | exact absurd c1 h0 | exact absurd h1 c2
set_option maxHeartbeats 4000000 in
set_option maxRecDepth 100000 in
theorem cJ_checkIndex {l : Launch} {D : va_G} {b : Nat} {A : Nat → Nat} {Sh : mS} {S : mI} {G : mP} {i n : Int32} (h0 : ¬ i < 0) (h1 : i < n) : rMet l D b yJ0_checkIndex_df160 cJ0_checkIndex_df160 2 none (mR 1) A Sh S G [.int i, .int n] (rPv A Sh S G) := by
  refine rMet_oz RJ0 rfl (by decide) (Nat.le_of_ble_eq_true rfl) ?_
  intro p e s m args below meth c Z hZ X hnm
  obtain ⟨hsR, hsO, hsC, hsV, hsT, hsZ, hsq⟩ := X.2.2.2.2.2.2.2.2.2.1.2.2.2
  rcases hsq with hq | ⟨a9, hq⟩
  · refine rJ_iload_n X dJ0_checkIndex_df160_0 rfl rfl ?_
    refine rJ_iload_n X dJ0_checkIndex_df160_1 rfl rfl ?_
    refine rJ_gets X hq kfJ0_1053 dJ0_checkIndex_df160_2 ?_
    refine rJ_Si3 X gJ0_1059 (cJ_checkn h0 h1) dJ0_checkIndex_df160_5 (by decide) (Nat.le_of_ble_eq_true rfl) ⟨Nat.le_refl _, Nat.le_refl _⟩ ?_
    refine rJ_pop X dJ0_checkIndex_df160_8 rfl ?_
    exact rJ_vretZ hZ X dJ0_checkIndex_df160_9 ⟨rfl, rfl, rfl, rfl, rfl⟩
  · refine rJ_iload_n X dJ0_checkIndex_df160_0 rfl rfl ?_
    refine rJ_iload_n X dJ0_checkIndex_df160_1 rfl rfl ?_
    refine rJ_gets X hq kfJ0_1053 dJ0_checkIndex_df160_2 ?_
    refine rJ_Si3 X gJ0_1059 (cJ_checkr h0 h1) dJ0_checkIndex_df160_5 (by decide) (Nat.le_of_ble_eq_true rfl) ⟨Nat.le_refl _, Nat.le_refl _⟩ ?_
    refine rJ_pop X dJ0_checkIndex_df160_8 rfl ?_
    exact rJ_vretZ hZ X dJ0_checkIndex_df160_9 ⟨rfl, rfl, rfl, rfl, rfl⟩
theorem ssB_c : ∀ j, j < 7 → (((ssB j &&& 255).toUInt32 % 65536).toInt32 = ssB j) ∧ narrow .char (.int (ssB j)) = .int (ssB j) := by decide +kernel
set_option maxHeartbeats 4000000 in
set_option maxRecDepth 100000 in
theorem cJ_charAt1 {l : Launch} {D : va_G} {b : Nat} {A : Nat → Nat} {Sh : mS} {S : mI} {G : mP} {j : Nat} (hj : j < 7) : rMet l D b yJ1_charAt_3b067 cJ1_charAt_3b067 2 (some .char) (mR 2) A Sh S G [.ref (D.2 900 1), .int (nI j)] (rPi A Sh (ssB j) S G) := by
  refine rMet_oz RJ1 rfl (by decide) (Nat.le_of_ble_eq_true rfl) ?_
  intro p e s m args below meth c Z hZ X hnm
  obtain ⟨hsR, hsO, hsC, hsV, hsT, hsZ, hsq⟩ := X.2.2.2.2.2.2.2.2.2.1.2.2.2
  refine rJ_iload_n X dJ1_charAt_3b067_0 rfl rfl ?_
  refine rJ_aload_n X dJ1_charAt_3b067_1 rfl rfl ?_
  refine rJ_slen (v := 7) X hsT rfl dJ1_charAt_3b067_2 ?_
  refine rJ_Sv2 X gJ1_9 (cJ_checkIndex (nI_pos (by omega)) (show nI j < 7 from by rw [show (7 : Int32) = nI 7 from rfl]; exact nI_lt hj (by decide))) dJ1_charAt_3b067_3 (by decide) (Nat.le_of_ble_eq_true rfl) ⟨Nat.le_refl _, Nat.le_refl _⟩ ?_
  refine rJ_aload_n X dJ1_charAt_3b067_6 rfl rfl ?_
  refine rJ_iload_n X dJ1_charAt_3b067_7 rfl rfl ?_
  refine rJ_sbal (v := .int (ssB j)) X hsT (vp_in_nI hj (by decide)) (by rw [nI_clamp (by omega)]) dJ1_charAt_3b067_8 ?_
  refine rJ_sipush (v := 255) X dJ1_charAt_3b067_9 (by decide) ?_
  refine rJ_iand X dJ1_charAt_3b067_12 ?_
  refine rJ_i2c X dJ1_charAt_3b067_13 ?_
  rw [(ssB_c j hj).1]
  exact rJ_cretZ hZ X dJ1_charAt_3b067_14 (ssB_c j hj).2 ⟨rfl, rfl, rfl, rfl, rfl⟩
set_option maxHeartbeats 4000000 in
set_option maxRecDepth 100000 in
theorem cJ_charAt {l : Launch} {D : va_G} {b : Nat} {A : Nat → Nat} {Sh : mS} {S : mI} {G : mP} {j : Nat} (hj : j < 7) : rMet l D b yJ0_charAt_5068e cJ0_charAt_5068e 2 (some .char) (mR 3) A Sh S G [.ref (D.2 900 0), .int (nI j)] (rPi A Sh (ssB j) S G) := by
  refine rMet_oz RJ0 rfl (by decide) (Nat.le_of_ble_eq_true rfl) ?_
  intro p e s m args below meth c Z hZ X hnm
  obtain ⟨hsR, hsO, hsC, hsV, hsT, hsZ, hsq⟩ := X.2.2.2.2.2.2.2.2.2.1.2.2.2
  refine rJ_aload_n X dJ0_charAt_5068e_0 rfl rfl ?_
  refine rJ_callO (As := []) X hsO cJ_isLatin1 mJ0_isLatin1_aae02 kvJ0_492 kjJ0_isLatin1_aae02 ksJ0_isLatin1_aae02 rfl rfl dJ0_charAt_5068e_1 (by decide) (Nat.le_of_ble_eq_true rfl) ⟨Nat.le_refl _, Nat.le_refl _⟩ ?_
  refine rJ_if_eq (tgt := 16) X dJ0_charAt_5068e_4 (by decide) (fun c1 => ?_) (fun c1 => ?_)
  · exact absurd c1 (by decide)
  · refine rJ_aload_n X dJ0_charAt_5068e_7 rfl rfl ?_
    refine rJ_sget X hsV kfJ0_9 dJ0_charAt_5068e_8 ?_
    refine rJ_iload_n X dJ0_charAt_5068e_11 rfl rfl ?_
    refine rJ_Si2 X gJ0_495 (cJ_charAt1 hj) dJ0_charAt_5068e_12 (by decide) (Nat.le_of_ble_eq_true rfl) ⟨Nat.le_refl _, Nat.le_refl _⟩ ?_
    exact rJ_cretZ hZ X dJ0_charAt_5068e_15 (ssB_c j hj).2 ⟨rfl, rfl, rfl, rfl, rfl⟩
