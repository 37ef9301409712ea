def cCome (S : mI) (t : Nat) : mI := mu (mu (mu (mu (mu (mu S t 0 1) t 2 0) t 3 0) t 4 0) t 5 0) t 6 0
set_option maxHeartbeats 4000000 in
set_option maxRecDepth 100000 in
theorem cT_come {l : Launch} {D : va_G} {b : Nat} {A : Nat → Nat} {Sh : mS} {S : mI} {G : mP} {t : Nat} (ht : Sh t = some (0, 5, 0)) {q : Nat} (hq : Sh q = some (0, 2, 0)) : rMet l D b yX5_come cX5_come 2 none (mR 0) A Sh S G [.ref (A t), .ref (A q)] (rPv A Sh (cCome S t) (mu G t 1 (some q))) := by
  refine rMet_oz RX5 rfl (by decide) (Nat.le_of_ble_eq_true rfl) ?_
  intro p e s m args below meth c Z hZ X hnm
  refine rJ_aload_n X dX5_come_0 rfl rfl ?_
  refine rJ_iconst (v := 1) X dX5_come_1 (by decide) ?_
  refine rJ_setI X fX5_13 (Or.inl fwX5_13) (by assumption) ⟨by decide, by decide⟩ dX5_come_2 (fun S2 hS2 => ?_)
  refine rJ_aload_n X dX5_come_5 rfl rfl ?_
  refine rJ_aload_n X dX5_come_6 rfl rfl ?_
  refine rJ_setR X fX5_7 (Or.inl fwX5_7) (by assumption) dX5_come_7 (fun G7 hG7 => ?_)
  refine rJ_aload_n X dX5_come_10 rfl rfl ?_
  refine rJ_iconst (v := 0) X dX5_come_11 (by decide) ?_
  refine rJ_setI X fX5_17 (Or.inl fwX5_17) (by assumption) ⟨rfl, rfl⟩ dX5_come_12 (fun S12 hS12 => ?_)
  refine rJ_aload_n X dX5_come_15 rfl rfl ?_
  refine rJ_iconst (v := 0) X dX5_come_16 (by decide) ?_
  refine rJ_setI X fX5_21 (Or.inl fwX5_21) (by assumption) ⟨rfl, rfl⟩ dX5_come_17 (fun S17 hS17 => ?_)
  refine rJ_aload_n X dX5_come_20 rfl rfl ?_
  refine rJ_iconst (v := 0) X dX5_come_21 (by decide) ?_
  refine rJ_setI X fX5_24 (Or.inl fwX5_24) (by assumption) ⟨rfl, rfl⟩ dX5_come_22 (fun S22 hS22 => ?_)
  refine rJ_aload_n X dX5_come_25 rfl rfl ?_
  refine rJ_iconst (v := 0) X dX5_come_26 (by decide) ?_
  refine rJ_setI X fX5_27 (Or.inl fwX5_27) (by assumption) ⟨rfl, rfl⟩ dX5_come_27 (fun S27 hS27 => ?_)
  refine rJ_aload_n X dX5_come_30 rfl rfl ?_
  refine rJ_iconst (v := 0) X dX5_come_31 (by decide) ?_
  refine rJ_setI X fX5_30 (Or.inl fwX5_30) (by assumption) ⟨rfl, rfl⟩ dX5_come_32 (fun S32 hS32 => ?_)
  exact rJ_vretZ hZ X dX5_come_35 ⟨rfl, rfl, rfl, by rw [hS32, hS27, hS22, hS17, hS12, hS2]; rfl, hG7⟩
set_option maxHeartbeats 4000000 in
set_option maxRecDepth 100000 in
theorem cT_leave {l : Launch} {D : va_G} {b : Nat} {A : Nat → Nat} {Sh : mS} {S : mI} {G : mP} {t : Nat} (ht : Sh t = some (0, 5, 0)) : rMet l D b yX5_leave cX5_leave 1 none (mR 0) A Sh S G [.ref (A t)] (rPv A Sh (mu S t 0 0) G) := by
  refine rMet_oz RX5 rfl (by decide) (Nat.le_of_ble_eq_true rfl) ?_
  intro p e s m args below meth c Z hZ X hnm
  refine rJ_aload_n X dX5_leave_0 rfl rfl ?_
  refine rJ_iconst (v := 0) X dX5_leave_1 (by decide) ?_
  refine rJ_setI X fX5_13 (Or.inl fwX5_13) (by assumption) ⟨by decide, by decide⟩ dX5_leave_2 (fun S2 hS2 => ?_)
  exact rJ_vretZ hZ X dX5_leave_5 ⟨rfl, rfl, rfl, hS2, rfl⟩
set_option maxHeartbeats 4000000 in
set_option maxRecDepth 100000 in
theorem cT_isPresent {l : Launch} {D : va_G} {b : Nat} {A : Nat → Nat} {Sh : mS} {S : mI} {G : mP} {t : Nat} (ht : Sh t = some (0, 5, 0)) (hp : S t 0 = 0 ∨ S t 0 = 1) : rMet l D b yX5_isPresent cX5_isPresent 1 (some .boolean) (mR 0) A Sh S G [.ref (A t)] (rPi A Sh (S t 0) S G) := by
  refine rMet_oz RX5 rfl (by decide) (Nat.le_of_ble_eq_true rfl) ?_
  intro p e s m args below meth c Z hZ X hnm
  refine rJ_aload_n X dX5_isPresent_0 rfl rfl ?_
  refine rJ_getI X fX5_13 (by assumption) dX5_isPresent_1 ?_
  exact rJ_zretZ hZ X dX5_isPresent_4 (by rcases hp with h | h <;> rw [h] <;> rfl) ⟨rfl, rfl, rfl, rfl, rfl⟩
set_option maxHeartbeats 4000000 in
set_option maxRecDepth 100000 in
theorem cT_instruction {l : Launch} {D : va_G} {b : Nat} {A : Nat → Nat} {Sh : mS} {S : mI} {G : mP} {t q : Nat} (ht : Sh t = some (0, 5, 0)) (hrow : G t 1 = some q) (hq : Sh q = some (0, 2, 0)) : rMet l D b yX5_instruction cX5_instruction 1 (some (.object "PipeForge$Instruction")) (mR 0) A Sh S G [.ref (A t)] (rPr A Sh q S G) := by
  refine rMet_oz RX5 rfl (by decide) (Nat.le_of_ble_eq_true rfl) ?_
  intro p e s m args below meth c Z hZ X hnm
  refine rJ_aload_n X dX5_instruction_0 rfl rfl ?_
  refine rJ_getR X fX5_7 (by assumption) (by assumption) dX5_instruction_1 ?_
  exact rJ_aretZ hZ X (Or.inl ⟨_, rfl⟩) dX5_instruction_4 ⟨rfl, rfl, rfl, rfl, rfl⟩
set_option maxHeartbeats 4000000 in
set_option maxRecDepth 100000 in
theorem cT_readLeft {l : Launch} {D : va_G} {b : Nat} {A : Nat → Nat} {Sh : mS} {S : mI} {G : mP} {t : Nat} (ht : Sh t = some (0, 5, 0)) (v : Int32) : rMet l D b yX5_readLeft cX5_readLeft 2 none (mR 0) A Sh S G [.ref (A t), .int v] (rPv A Sh (mu S t 2 v) G) := by
  refine rMet_oz RX5 rfl (by decide) (Nat.le_of_ble_eq_true rfl) ?_
  intro p e s m args below meth c Z hZ X hnm
  refine rJ_aload_n X dX5_readLeft_0 rfl rfl ?_
  refine rJ_iload_n X dX5_readLeft_1 rfl rfl ?_
  refine rJ_setI X fX5_17 (Or.inl fwX5_17) (by assumption) ⟨rfl, rfl⟩ dX5_readLeft_2 (fun S2 hS2 => ?_)
  exact rJ_vretZ hZ X dX5_readLeft_5 ⟨rfl, rfl, rfl, hS2, rfl⟩
set_option maxHeartbeats 4000000 in
set_option maxRecDepth 100000 in
theorem cT_readRight {l : Launch} {D : va_G} {b : Nat} {A : Nat → Nat} {Sh : mS} {S : mI} {G : mP} {t : Nat} (ht : Sh t = some (0, 5, 0)) (v : Int32) : rMet l D b yX5_readRight cX5_readRight 2 none (mR 0) A Sh S G [.ref (A t), .int v] (rPv A Sh (mu S t 3 v) G) := by
  refine rMet_oz RX5 rfl (by decide) (Nat.le_of_ble_eq_true rfl) ?_
  intro p e s m args below meth c Z hZ X hnm
  refine rJ_aload_n X dX5_readRight_0 rfl rfl ?_
  refine rJ_iload_n X dX5_readRight_1 rfl rfl ?_
  refine rJ_setI X fX5_21 (Or.inl fwX5_21) (by assumption) ⟨rfl, rfl⟩ dX5_readRight_2 (fun S2 hS2 => ?_)
  exact rJ_vretZ hZ X dX5_readRight_5 ⟨rfl, rfl, rfl, hS2, rfl⟩
set_option maxHeartbeats 4000000 in
set_option maxRecDepth 100000 in
theorem cT_workOut {l : Launch} {D : va_G} {b : Nat} {A : Nat → Nat} {Sh : mS} {S : mI} {G : mP} {t q : Nat} (ht : Sh t = some (0, 5, 0)) (hrow : G t 1 = some q) (hq : Sh q = some (0, 2, 0)) : rMet l D b yX5_workOut cX5_workOut 1 none (mR 1) A Sh S G [.ref (A t)] (rPv A Sh (mu S t 4 (cWork (S q 0) (S q 4) (S t 2) (S t 3))) G) := by
  refine rMet_oz RX5 rfl (by decide) (Nat.le_of_ble_eq_true rfl) ?_
  intro p e s m args below meth c Z hZ X hnm
  refine rJ_aload_n X dX5_workOut_0 rfl rfl ?_
  refine rJ_aload_n X dX5_workOut_1 rfl rfl ?_
  refine rJ_getR X fX5_7 (by assumption) (by assumption) dX5_workOut_2 ?_
  refine rJ_aload_n X dX5_workOut_5 rfl rfl ?_
  refine rJ_getI X fX5_17 (by assumption) dX5_workOut_6 ?_
  refine rJ_aload_n X dX5_workOut_9 rfl rfl ?_
  refine rJ_getI X fX5_21 (by assumption) dX5_workOut_10 ?_
  refine rJ_Vi2 X gX5_33 (cI_workedOut hq _ _) (by assumption) dX5_workOut_13 (by decide) (Nat.le_of_ble_eq_true rfl) ⟨Nat.le_refl _, Nat.le_refl _⟩ ?_
  refine rJ_setI X fX5_24 (Or.inl fwX5_24) (by assumption) ⟨rfl, rfl⟩ dX5_workOut_16 (fun S16 hS16 => ?_)
  exact rJ_vretZ hZ X dX5_workOut_19 ⟨rfl, rfl, rfl, hS16, rfl⟩
set_option maxHeartbeats 4000000 in
set_option maxRecDepth 100000 in
theorem cT_goesOn {l : Launch} {D : va_G} {b : Nat} {A : Nat → Nat} {Sh : mS} {S : mI} {G : mP} {t q : Nat} (ht : Sh t = some (0, 5, 0)) (hrow : G t 1 = some q) (hq : Sh q = some (0, 2, 0)) : rMet l D b yX5_goesOn cX5_goesOn 1 (some .boolean) (mR 1) A Sh S G [.ref (A t)] (rPi A Sh (if S q 0 = 9 ∨ (S q 0 = 7 ∧ S t 2 = S t 3) then 1 else 0) S G) := by
  refine rMet_oz RX5 rfl (by decide) (Nat.le_of_ble_eq_true rfl) ?_
  intro p e s m args below meth c Z hZ X hnm
  refine rJ_aload_n X dX5_goesOn_0 rfl rfl ?_
  refine rJ_getR X fX5_7 (by assumption) (by assumption) dX5_goesOn_1 ?_
  refine rJ_aload_n X dX5_goesOn_4 rfl rfl ?_
  refine rJ_getI X fX5_17 (by assumption) dX5_goesOn_5 ?_
  refine rJ_aload_n X dX5_goesOn_8 rfl rfl ?_
  refine rJ_getI X fX5_21 (by assumption) dX5_goesOn_9 ?_
  refine rJ_Vi2 X gX5_39 (cI_goesOn hq _ _) (by assumption) dX5_goesOn_12 (by decide) (Nat.le_of_ble_eq_true rfl) ⟨Nat.le_refl _, Nat.le_refl _⟩ ?_
  exact rJ_zretZ hZ X dX5_goesOn_15 z_n ⟨rfl, rfl, rfl, rfl, rfl⟩
set_option maxHeartbeats 4000000 in
set_option maxRecDepth 100000 in
theorem cT_asksPlace {l : Launch} {D : va_G} {b : Nat} {A : Nat → Nat} {Sh : mS} {S : mI} {G : mP} {t q : Nat} (ht : Sh t = some (0, 5, 0)) (hrow : G t 1 = some q) (hq : Sh q = some (0, 2, 0)) : rMet l D b yX5_asksPlace cX5_asksPlace 1 (some .int) (mR 2) A Sh S G [.ref (A t)] (rPi A Sh ((S t 2 + S q 4) &&& 63) S G) := by
  refine rMet_oz RX5 rfl (by decide) (Nat.le_of_ble_eq_true rfl) ?_
  intro p e s m args below meth c Z hZ X hnm
  refine rJ_aload_n X dX5_asksPlace_0 rfl rfl ?_
  refine rJ_getR X fX5_7 (by assumption) (by assumption) dX5_asksPlace_1 ?_
  refine rJ_aload_n X dX5_asksPlace_4 rfl rfl ?_
  refine rJ_getI X fX5_17 (by assumption) dX5_asksPlace_5 ?_
  refine rJ_Vi1 X gX5_43 (cI_placeFrom hq _) (by assumption) dX5_asksPlace_8 (by decide) (Nat.le_of_ble_eq_true rfl) ⟨Nat.le_refl _, Nat.le_refl _⟩ ?_
  exact rJ_iretZ hZ X dX5_asksPlace_11 ⟨rfl, rfl, rfl, rfl, rfl⟩
set_option maxHeartbeats 4000000 in
set_option maxRecDepth 100000 in
theorem cT_commitsWhere {l : Launch} {D : va_G} {b : Nat} {A : Nat → Nat} {Sh : mS} {S : mI} {G : mP} {t q : Nat} (ht : Sh t = some (0, 5, 0)) (hrow : G t 1 = some q) (hq : Sh q = some (0, 2, 0)) : rMet l D b yX5_commitsWhere cX5_commitsWhere 1 (some .int) (mR 3) A Sh S G [.ref (A t)] (rPi A Sh (if S q 0 = 6 then (S t 2 + S q 4) &&& 63 else if S q 0 = 8 then 0 else S q 1) S G) := by
  refine rMet_oz RX5 rfl (by decide) (Nat.le_of_ble_eq_true rfl) ?_
  intro p e s m args below meth c Z hZ X hnm
  refine rJ_aload_n X dX5_commitsWhere_0 rfl rfl ?_
  refine rJ_getR X fX5_7 (by assumption) (by assumption) dX5_commitsWhere_1 ?_
  refine rJ_aload_n X dX5_commitsWhere_4 rfl rfl ?_
  refine rJ_getI X fX5_17 (by assumption) dX5_commitsWhere_5 ?_
  refine rJ_Vi1 X gX5_47 (cI_commitsWhere hq _) (by assumption) dX5_commitsWhere_8 (by decide) (Nat.le_of_ble_eq_true rfl) ⟨Nat.le_refl _, Nat.le_refl _⟩ ?_
  exact rJ_iretZ hZ X dX5_commitsWhere_11 ⟨rfl, rfl, rfl, rfl, rfl⟩
set_option maxHeartbeats 4000000 in
set_option maxRecDepth 100000 in
theorem cT_ask {l : Launch} {D : va_G} {b : Nat} {A : Nat → Nat} {Sh : mS} {S : mI} {G : mP} {t : Nat} (ht : Sh t = some (0, 5, 0)) (x y : Int32) : rMet l D b yX5_ask cX5_ask 3 none (mR 0) A Sh S G [.ref (A t), .int x, .int y] (rPv A Sh (mu (mu S t 4 x) t 5 y) G) := by
  refine rMet_oz RX5 rfl (by decide) (Nat.le_of_ble_eq_true rfl) ?_
  intro p e s m args below meth c Z hZ X hnm
  refine rJ_aload_n X dX5_ask_0 rfl rfl ?_
  refine rJ_iload_n X dX5_ask_1 rfl rfl ?_
  refine rJ_setI X fX5_24 (Or.inl fwX5_24) (by assumption) ⟨rfl, rfl⟩ dX5_ask_2 (fun S2 hS2 => ?_)
  refine rJ_aload_n X dX5_ask_5 rfl rfl ?_
  refine rJ_iload_n X dX5_ask_6 rfl rfl ?_
  refine rJ_setI X fX5_27 (Or.inl fwX5_27) (by assumption) ⟨rfl, rfl⟩ dX5_ask_7 (fun S7 hS7 => ?_)
  exact rJ_vretZ hZ X dX5_ask_10 ⟨rfl, rfl, rfl, by rw [hS7, hS2], rfl⟩
set_option maxHeartbeats 4000000 in
set_option maxRecDepth 100000 in
theorem cT_isAnswered {l : Launch} {D : va_G} {b : Nat} {A : Nat → Nat} {Sh : mS} {S : mI} {G : mP} {t : Nat} (ht : Sh t = some (0, 5, 0)) (x y : Int32) : rMet l D b yX5_isAnswered cX5_isAnswered 3 (some .boolean) (mR 0) A Sh S G [.ref (A t), .int x, .int y] (rPi A Sh (if y ≤ x - S t 5 then 1 else 0) S G) := by
  refine rMet_oz RX5 rfl (by decide) (Nat.le_of_ble_eq_true rfl) ?_
  intro p e s m args below meth c Z hZ X hnm
  refine rJ_iload_n X dX5_isAnswered_0 rfl rfl ?_
  refine rJ_aload_n X dX5_isAnswered_1 rfl rfl ?_
  refine rJ_getI X fX5_27 (by assumption) dX5_isAnswered_2 ?_
  refine rJ_isub X dX5_isAnswered_5 ?_
  refine rJ_iload_n X dX5_isAnswered_6 rfl rfl ?_
  refine rJ_icmp_lt (tgt := 14) X dX5_isAnswered_7 (by decide) (fun c1 => ?_) (fun c1 => ?_)
  · refine rJ_iconst (v := 0) X dX5_isAnswered_14 (by decide) ?_
    exact rJ_zretZ hZ X dX5_isAnswered_15 rfl ⟨by clear X hZ; grind, rfl, rfl, rfl, rfl⟩
  · refine rJ_iconst (v := 1) X dX5_isAnswered_10 (by decide) ?_
    refine rJ_goto (tgt := 15) X dX5_isAnswered_11 (by decide) ?_
    exact rJ_zretZ hZ X dX5_isAnswered_15 rfl ⟨by clear X hZ; grind, rfl, rfl, rfl, rfl⟩
set_option maxHeartbeats 4000000 in
set_option maxRecDepth 100000 in
theorem cT_give {l : Launch} {D : va_G} {b : Nat} {A : Nat → Nat} {Sh : mS} {S : mI} {G : mP} {t : Nat} (ht : Sh t = some (0, 5, 0)) (x : Int32) : rMet l D b yX5_give cX5_give 2 none (mR 0) A Sh S G [.ref (A t), .int x] (rPv A Sh (mu S t 6 x) G) := by
  refine rMet_oz RX5 rfl (by decide) (Nat.le_of_ble_eq_true rfl) ?_
  intro p e s m args below meth c Z hZ X hnm
  refine rJ_aload_n X dX5_give_0 rfl rfl ?_
  refine rJ_iload_n X dX5_give_1 rfl rfl ?_
  refine rJ_setI X fX5_30 (Or.inl fwX5_30) (by assumption) ⟨rfl, rfl⟩ dX5_give_2 (fun S2 hS2 => ?_)
  exact rJ_vretZ hZ X dX5_give_5 ⟨rfl, rfl, rfl, hS2, rfl⟩
set_option maxHeartbeats 4000000 in
set_option maxRecDepth 100000 in
theorem cT_gaveBefore {l : Launch} {D : va_G} {b : Nat} {A : Nat → Nat} {Sh : mS} {S : mI} {G : mP} {t : Nat} (ht : Sh t = some (0, 5, 0)) (x : Int32) : rMet l D b yX5_gaveBefore cX5_gaveBefore 2 (some .boolean) (mR 0) A Sh S G [.ref (A t), .int x] (rPi A Sh (if ¬ S t 6 = 0 ∧ S t 6 < x then 1 else 0) S G) := by
  refine rMet_oz RX5 rfl (by decide) (Nat.le_of_ble_eq_true rfl) ?_
  intro p e s m args below meth c Z hZ X hnm
  refine rJ_aload_n X dX5_gaveBefore_0 rfl rfl ?_
  refine rJ_getI X fX5_30 (by assumption) dX5_gaveBefore_1 ?_
  refine rJ_if_eq (tgt := 19) X dX5_gaveBefore_4 (by decide) (fun c1 => ?_) (fun c1 => ?_)
  · refine rJ_iconst (v := 0) X dX5_gaveBefore_19 (by decide) ?_
    exact rJ_zretZ hZ X dX5_gaveBefore_20 rfl ⟨by clear X hZ; grind, rfl, rfl, rfl, rfl⟩
  · refine rJ_aload_n X dX5_gaveBefore_7 rfl rfl ?_
    refine rJ_getI X fX5_30 (by assumption) dX5_gaveBefore_8 ?_
    refine rJ_iload_n X dX5_gaveBefore_11 rfl rfl ?_
    refine rJ_icmp_ge (tgt := 19) X dX5_gaveBefore_12 (by decide) (fun c2 => ?_) (fun c2 => ?_)
    · refine rJ_iconst (v := 0) X dX5_gaveBefore_19 (by decide) ?_
      exact rJ_zretZ hZ X dX5_gaveBefore_20 rfl ⟨by clear X hZ; grind, rfl, rfl, rfl, rfl⟩
    · refine rJ_iconst (v := 1) X dX5_gaveBefore_15 (by decide) ?_
      refine rJ_goto (tgt := 20) X dX5_gaveBefore_16 (by decide) ?_
      exact rJ_zretZ hZ X dX5_gaveBefore_20 rfl ⟨by clear X hZ; grind, rfl, rfl, rfl, rfl⟩
set_option maxHeartbeats 4000000 in
set_option maxRecDepth 100000 in
theorem cT_worth {l : Launch} {D : va_G} {b : Nat} {A : Nat → Nat} {Sh : mS} {S : mI} {G : mP} {t : Nat} (ht : Sh t = some (0, 5, 0)) : rMet l D b yX5_worth cX5_worth 1 (some .int) (mR 0) A Sh S G [.ref (A t)] (rPi A Sh (S t 4) S G) := by
  refine rMet_oz RX5 rfl (by decide) (Nat.le_of_ble_eq_true rfl) ?_
  intro p e s m args below meth c Z hZ X hnm
  refine rJ_aload_n X dX5_worth_0 rfl rfl ?_
  refine rJ_getI X fX5_24 (by assumption) dX5_worth_1 ?_
  exact rJ_iretZ hZ X dX5_worth_4 ⟨rfl, rfl, rfl, rfl, rfl⟩
set_option maxHeartbeats 4000000 in
set_option maxRecDepth 100000 in
theorem cL_stageCount {l : Launch} {D : va_G} {b : Nat} {A : Nat → Nat} {Sh : mS} {S : mI} {G : mP} (hw : okC Sh G) : rMet l D b yX3_stageCount cX3_stageCount 1 (some .int) (mR 0) A Sh S G [.ref (A 4)] (rPi A Sh (S 4 1) S G) := by
  refine rMet_oz RX3 rfl (by decide) (Nat.le_of_ble_eq_true rfl) ?_
  intro p e s m args below meth c Z hZ X hnm
  refine rJ_aload_n X dX3_stageCount_0 rfl rfl ?_
  refine rJ_getI X fX3_15 (by first | exact hw.1 _ _ rfl | assumption) dX3_stageCount_1 ?_
  exact rJ_iretZ hZ X dX3_stageCount_4 ⟨rfl, rfl, rfl, rfl, rfl⟩
abbrev cStg (S : mI) (x : Int32) : Int32 := if 0 ≤ x ∧ x < 8 then S 5 x.toNatClampNeg else -1
theorem in_lt {x hi : Int32} {n : Nat} (h0 : ¬ x < 0) (h1 : x < hi) (hn : hi.toInt ≤ n) : vp_in x n := by
  rw [i_lt] at h0 h1
  have e0 : (0 : Int32).toInt = 0 := rfl
  rw [e0] at h0
  exact in_i (by omega) (by omega)
theorem in_lt2 {x hi : Int32} {n : Nat} (h : 0 ≤ x ∧ x < hi) (hn : hi.toInt ≤ n) : vp_in x n := in_lt (by rw [Int32.not_lt]; exact h.1) h.2 hn
set_option maxHeartbeats 4000000 in
set_option maxRecDepth 100000 in
theorem cL_stageOf {l : Launch} {D : va_G} {b : Nat} {A : Nat → Nat} {Sh : mS} {S : mI} {G : mP} (hw : okC Sh G) (x : Int32) : rMet l D b yX3_stageOf cX3_stageOf 2 (some .int) (mR 0) A Sh S G [.ref (A 4), .int x] (rPi A Sh (cStg S x) S G) := by
  refine rMet_oz RX3 rfl (by decide) (Nat.le_of_ble_eq_true rfl) ?_
  intro p e s m args below meth c Z hZ X hnm
  refine rJ_iload_n X dX3_stageOf_0 rfl rfl ?_
  refine rJ_if_lt (tgt := 10) X dX3_stageOf_1 (by decide) (fun c1 => ?_) (fun c1 => ?_)
  · refine rJ_iconst (v := (-1)) X dX3_stageOf_10 (by decide) ?_
    refine rJ_goto (tgt := 20) X dX3_stageOf_11 (by decide) ?_
    exact rJ_iretZ hZ X dX3_stageOf_20 ⟨by clear X hZ; grind, rfl, rfl, rfl, rfl⟩
  · refine rJ_iload_n X dX3_stageOf_4 rfl rfl ?_
    refine rJ_bipush (v := 8) X dX3_stageOf_5 (by decide) ?_
    refine rJ_icmp_lt (tgt := 14) X dX3_stageOf_7 (by decide) (fun c2 => ?_) (fun c2 => ?_)
    · refine rJ_aload_n X dX3_stageOf_14 rfl rfl ?_
      refine rJ_getR X fX3_9 (by first | exact hw.1 _ _ rfl | assumption) (by first | exact hw.2 _ _ _ rfl | assumption) dX3_stageOf_15 ?_
      refine rJ_iload_n X dX3_stageOf_18 rfl rfl ?_
      refine rJ_iald X (by first | exact hw.1 _ _ rfl | assumption) (in_lt c1 c2 (by decide)) dX3_stageOf_19 ?_
      exact rJ_iretZ hZ X dX3_stageOf_20 ⟨by clear X hZ; grind, rfl, rfl, rfl, rfl⟩
    · refine rJ_iconst (v := (-1)) X dX3_stageOf_10 (by decide) ?_
      refine rJ_goto (tgt := 20) X dX3_stageOf_11 (by decide) ?_
      exact rJ_iretZ hZ X dX3_stageOf_20 ⟨by clear X hZ; grind, rfl, rfl, rfl, rfl⟩
set_option maxHeartbeats 4000000 in
set_option maxRecDepth 100000 in
theorem cL_has {l : Launch} {D : va_G} {b : Nat} {A : Nat → Nat} {Sh : mS} {S : mI} {G : mP} (hw : okC Sh G) (x y : Int32) : rMet l D b yX3_has cX3_has 3 (some .boolean) (mR 1) A Sh S G [.ref (A 4), .int x, .int y] (rPi A Sh (if cStg S x = y then 1 else 0) S G) := by
  refine rMet_oz RX3 rfl (by decide) (Nat.le_of_ble_eq_true rfl) ?_
  intro p e s m args below meth c Z hZ X hnm
  refine rJ_aload_n X dX3_has_0 rfl rfl ?_
  refine rJ_iload_n X dX3_has_1 rfl rfl ?_
  refine rJ_Vi1 X gX3_25 (cL_stageOf hw _) (by first | exact hw.1 _ _ rfl | assumption) dX3_has_2 (by decide) (Nat.le_of_ble_eq_true rfl) ⟨Nat.le_refl _, Nat.le_refl _⟩ ?_
  refine rJ_iload_n X dX3_has_5 rfl rfl ?_
  refine rJ_icmp_ne (tgt := 13) X dX3_has_6 (by decide) (fun c1 => ?_) (fun c1 => ?_)
  · refine rJ_iconst (v := 0) X dX3_has_13 (by decide) ?_
    exact rJ_zretZ hZ X dX3_has_14 rfl ⟨by first | rw [if_pos c1] | rw [if_neg c1], rfl, rfl, rfl, rfl⟩
  · refine rJ_iconst (v := 1) X dX3_has_9 (by decide) ?_
    refine rJ_goto (tgt := 14) X dX3_has_10 (by decide) ?_
    exact rJ_zretZ hZ X dX3_has_14 rfl ⟨by first | rw [if_pos c1] | rw [if_neg c1], rfl, rfl, rfl, rfl⟩
abbrev cGiv (S : mI) (k : Int32) : Int32 := if S 5 7 = -1 ∨ ¬ k = 5 then S 5 7 else if S 5 7 < S 5 5 then S 5 5 else S 5 7
set_option maxHeartbeats 4000000 in
set_option maxRecDepth 100000 in
theorem cL_givingStage {l : Launch} {D : va_G} {b : Nat} {A : Nat → Nat} {Sh : mS} {S : mI} {G : mP} (hw : okC Sh G) (k : Int32) : rMet l D b yX3_givingStage cX3_givingStage 3 (some .int) (mR 1) A Sh S G [.ref (A 4), .int k] (rPi A Sh (cGiv S k) S G) := by
  refine rMet_oz RX3 rfl (by decide) (Nat.le_of_ble_eq_true rfl) ?_
  intro p e s m args below meth c Z hZ X hnm
  refine rJ_aload_n X dX3_givingStage_0 rfl rfl ?_
  refine rJ_getR X fX3_9 (by first | exact hw.1 _ _ rfl | assumption) (by first | exact hw.2 _ _ _ rfl | assumption) dX3_givingStage_1 ?_
  refine rJ_bipush (v := 7) X dX3_givingStage_4 (by decide) ?_
  refine rJ_ialdK (k := 7) X (by decide) (n := 8) ⟨by decide, by decide⟩ (by first | exact hw.1 _ _ rfl | assumption) dX3_givingStage_6 ?_
  refine rJ_istore_n X dX3_givingStage_7 rfl (by decide) ?_
  refine rJ_iload_n X dX3_givingStage_8 rfl rfl ?_
  refine rJ_iconst (v := (-1)) X dX3_givingStage_9 (by decide) ?_
  refine rJ_icmp_eq (tgt := 18) X dX3_givingStage_10 (by decide) (fun c1 => ?_) (fun c1 => ?_)
  · refine rJ_iload_n X dX3_givingStage_18 rfl rfl ?_
    exact rJ_iretZ hZ X dX3_givingStage_19 ⟨by clear X hZ; grind, rfl, rfl, rfl, rfl⟩
  · refine rJ_iload_n X dX3_givingStage_13 rfl rfl ?_
    refine rJ_iconst (v := 5) X dX3_givingStage_14 (by decide) ?_
    refine rJ_icmp_eq (tgt := 20) X dX3_givingStage_15 (by decide) (fun c2 => ?_) (fun c2 => ?_)
    · refine rJ_iload_n X dX3_givingStage_20 rfl rfl ?_
      refine rJ_aload_n X dX3_givingStage_21 rfl rfl ?_
      refine rJ_getR X fX3_9 (by first | exact hw.1 _ _ rfl | assumption) (by first | exact hw.2 _ _ _ rfl | assumption) dX3_givingStage_22 ?_
      refine rJ_iconst (v := 5) X dX3_givingStage_25 (by decide) ?_
      refine rJ_ialdK (k := 5) X (by decide) (n := 8) ⟨by decide, by decide⟩ (by first | exact hw.1 _ _ rfl | assumption) dX3_givingStage_26 ?_
      refine rJ_Si2 X gX3_29 (cJ_max _ _) dX3_givingStage_27 (by decide) (Nat.le_of_ble_eq_true rfl) ⟨Nat.le_refl _, Nat.le_refl _⟩ ?_
      exact rJ_iretZ hZ X dX3_givingStage_30 ⟨by clear X hZ; grind, rfl, rfl, rfl, rfl⟩
    · refine rJ_iload_n X dX3_givingStage_18 rfl rfl ?_
      exact rJ_iretZ hZ X dX3_givingStage_19 ⟨by clear X hZ; grind, rfl, rfl, rfl, rfl⟩
def mCpy (S : mI) (a r n : Nat) : mI := fun x k => if x = r ∧ k < n then S a k else S x k
theorem mCpy_eq (S : mI) (a r n : Nat) {n1 : Int32} (hn : n1.toNatClampNeg = n) : (fun x => if x = r then va_cpy (S a) (S r) (0 : Int32).toNatClampNeg (0 : Int32).toNatClampNeg n1.toNatClampNeg else S x) = mCpy S a r n := by
  subst hn
  have e0 : (0 : Int32).toNatClampNeg = 0 := rfl
  rw [e0]
  funext x k
  by_cases hx : x = r
  · subst hx
    simp [mCpy, va_cpy]
  · simp [mCpy, hx]
set_option maxHeartbeats 4000000 in
set_option maxRecDepth 100000 in
theorem cL_become {l : Launch} {D : va_G} {b : Nat} {A : Nat → Nat} {Sh : mS} {S : mI} {G : mP} (hw : okC Sh G) (c9 : Int32) : rMet l D b yX3_become cX3_become 3 none (mR 1) A Sh S G [.ref (A 4), .ref (A 3), .int c9] (rPv A Sh (mu (mCpy S 3 5 8) 4 1 c9) G) := by
  refine rMet_oz RX3 rfl (by decide) (Nat.le_of_ble_eq_true rfl) ?_
  intro p e s m args below meth c Z hZ X hnm
  refine rJ_aload_n X dX3_become_0 rfl rfl ?_
  refine rJ_iconst (v := 0) X dX3_become_1 (by decide) ?_
  refine rJ_aload_n X dX3_become_2 rfl rfl ?_
  refine rJ_getR X fX3_9 (by first | exact hw.1 _ _ rfl | assumption) (by first | exact hw.2 _ _ _ rfl | assumption) dX3_become_3 ?_
  refine rJ_iconst (v := 0) X dX3_become_6 (by decide) ?_
  refine rJ_bipush (v := 8) X dX3_become_7 (by decide) ?_
  refine rJ_copy (r0 := 3) (r := 5) X kaX3_19 kaN kaS kaI (by first | exact hw.1 _ _ rfl | assumption) (by first | exact hw.1 _ _ rfl | assumption) (by decide) (by decide) (by decide) (by decide) (by decide) (by decide) (Nat.le_of_ble_eq_true rfl) dX3_become_9 (fun S9 hS9 => ?_)
  rw [mCpy_eq S 3 5 8 rfl] at hS9
  refine rJ_aload_n X dX3_become_12 rfl rfl ?_
  refine rJ_iload_n X dX3_become_13 rfl rfl ?_
  refine rJ_setI X fX3_15 (Or.inl fwX3_15) (by first | exact hw.1 _ _ rfl | assumption) ⟨rfl, rfl⟩ dX3_become_14 (fun S14 hS14 => ?_)
  exact rJ_vretZ hZ X dX3_become_17 ⟨rfl, rfl, rfl, by rw [hS14, hS9], rfl⟩
set_option maxHeartbeats 4000000 in
set_option maxRecDepth 100000 in
theorem cS_tell {l : Launch} {D : va_G} {b : Nat} {A : Nat → Nat} {Sh : mS} {S : mI} {G : mP} (hw : okC Sh G) (x v : Int32) : rMet l D b yX9_tell cX9_tell 3 none (mR 1) A Sh S G [.ref (A 9), .int x, .int v] (rPv A Sh (if 0 ≤ x ∧ x < 64 then mu S 10 x.toNatClampNeg v else S) G) := by
  refine rMet_oz RX9 rfl (by decide) (Nat.le_of_ble_eq_true rfl) ?_
  intro p e s m args below meth c Z hZ X hnm
  refine rJ_iload_n X dX9_tell_0 rfl rfl ?_
  refine rJ_Ni1 X gX9_18 (cC_isPlace _) dX9_tell_1 (by decide) (Nat.le_of_ble_eq_true rfl) ⟨Nat.le_refl _, Nat.le_refl _⟩ ?_
  refine rJ_if_eq (tgt := 14) X dX9_tell_4 (by decide) (fun c1 => ?_) (fun c1 => ?_)
  · try replace c1 := z_f c1
    exact rJ_vretZ hZ X dX9_tell_14 ⟨rfl, rfl, rfl, by first | rw [if_neg c1] | rw [if_pos c1, hS13], rfl⟩
  · try replace c1 := z_t c1
    refine rJ_aload_n X dX9_tell_7 rfl rfl ?_
    refine rJ_getR X fX9_9 (by first | exact hw.1 _ _ rfl | assumption) (by first | exact hw.2 _ _ _ rfl | assumption) dX9_tell_8 ?_
    refine rJ_iload_n X dX9_tell_11 rfl rfl ?_
    refine rJ_iload_n X dX9_tell_12 rfl rfl ?_
    refine rJ_iast X (by first | exact hw.1 _ _ rfl | assumption) (in_lt2 c1 (by decide)) dX9_tell_13 (fun S13 hS13 => ?_)
    exact rJ_vretZ hZ X dX9_tell_14 ⟨rfl, rfl, rfl, by first | rw [if_neg c1] | rw [if_pos c1, hS13], rfl⟩
set_option maxHeartbeats 4000000 in
set_option maxRecDepth 100000 in
theorem cS_delay {l : Launch} {D : va_G} {b : Nat} {A : Nat → Nat} {Sh : mS} {S : mI} {G : mP} (hw : okC Sh G) (x v : Int32) : rMet l D b yX9_delay cX9_delay 3 none (mR 0) A Sh S G [.ref (A 9), .int x, .int v] (rPv A Sh (if 0 ≤ x ∧ x < 8 then mu S 11 x.toNatClampNeg v else S) G) := by
  refine rMet_oz RX9 rfl (by decide) (Nat.le_of_ble_eq_true rfl) ?_
  intro p e s m args below meth c Z hZ X hnm
  refine rJ_iload_n X dX9_delay_0 rfl rfl ?_
  refine rJ_if_lt (tgt := 17) X dX9_delay_1 (by decide) (fun c1 => ?_) (fun c1 => ?_)
  · exact rJ_vretZ hZ X dX9_delay_17 ⟨rfl, rfl, rfl, by clear X hZ; grind, rfl⟩
  · refine rJ_iload_n X dX9_delay_4 rfl rfl ?_
    refine rJ_bipush (v := 8) X dX9_delay_5 (by decide) ?_
    refine rJ_icmp_ge (tgt := 17) X dX9_delay_7 (by decide) (fun c2 => ?_) (fun c2 => ?_)
    · exact rJ_vretZ hZ X dX9_delay_17 ⟨rfl, rfl, rfl, by clear X hZ; grind, rfl⟩
    · refine rJ_aload_n X dX9_delay_10 rfl rfl ?_
      refine rJ_getR X fX9_15 (by first | exact hw.1 _ _ rfl | assumption) (by first | exact hw.2 _ _ _ rfl | assumption) dX9_delay_11 ?_
      refine rJ_iload_n X dX9_delay_14 rfl rfl ?_
      refine rJ_iload_n X dX9_delay_15 rfl rfl ?_
      refine rJ_iast X (by first | exact hw.1 _ _ rfl | assumption) (in_lt c1 (by rw [Int32.not_le] at c2; exact c2) (by decide)) dX9_delay_16 (fun S16 hS16 => ?_)
      exact rJ_vretZ hZ X dX9_delay_17 ⟨rfl, rfl, rfl, by clear X hZ; grind, rfl⟩
theorem fMod8 {j : Nat} (h : j < 64) : fMod (nI j) 8 = nI (j % 8) := by
  have e : nI j - nI j / 8 * 8 = nI (j % 8) := pk_rem (d := 8) (by omega) (by decide) (by decide)
  unfold fMod
  have hx : 0 ≤ nI j ^^^ 8 := by
    have : ∀ i : Fin 64, 0 ≤ nI i.val ^^^ 8 := by decide +kernel
    exact this ⟨j, h⟩
  rw [if_neg (fun q => q.1 hx)]
  exact e
set_option maxHeartbeats 4000000 in
set_option maxRecDepth 100000 in
theorem cS_delayOf {l : Launch} {D : va_G} {b : Nat} {A : Nat → Nat} {Sh : mS} {S : mI} {G : mP} (hw : okC Sh G) {j : Nat} (hj : j < 64) : rMet l D b yX9_delayOf cX9_delayOf 2 (some .int) (mR 1) A Sh S G [.ref (A 9), .int (nI j)] (rPi A Sh (S 11 (j % 8)) S G) := by
  refine rMet_oz RX9 rfl (by decide) (Nat.le_of_ble_eq_true rfl) ?_
  intro p e s m args below meth c Z hZ X hnm
  refine rJ_aload_n X dX9_delayOf_0 rfl rfl ?_
  refine rJ_getR X fX9_15 (by first | exact hw.1 _ _ rfl | assumption) (by first | exact hw.2 _ _ _ rfl | assumption) dX9_delayOf_1 ?_
  refine rJ_iload_n X dX9_delayOf_4 rfl rfl ?_
  refine rJ_bipush (v := 8) X dX9_delayOf_5 (by decide) ?_
  refine rJ_Si2 X gX9_22 (cJ_floorMod _ _ (by decide)) dX9_delayOf_7 (by decide) (Nat.le_of_ble_eq_true rfl) ⟨Nat.le_refl _, Nat.le_refl _⟩ ?_
  rw [fMod8 hj]
  refine rJ_ialdK (k := (j % 8)) X rfl ⟨Nat.mod_lt _ (by decide), by decide⟩ (by first | exact hw.1 _ _ rfl | assumption) dX9_delayOf_10 ?_
  exact rJ_iretZ hZ X dX9_delayOf_11 ⟨rfl, rfl, rfl, rfl, rfl⟩
set_option maxHeartbeats 4000000 in
set_option maxRecDepth 100000 in
theorem cS_fill {l : Launch} {D : va_G} {b : Nat} {A : Nat → Nat} {Sh : mS} {S : mI} {G : mP} (hw : okC Sh G) {r : Nat} (hr : Sh r = some (1, 0, 64)) : rMet l D b yX9_fill cX9_fill 2 none (mR 1) A Sh S G [.ref (A 9), .ref (A r)] (rPv A Sh (mCpy S 10 r 64) G) := by
  refine rMet_oz RX9 rfl (by decide) (Nat.le_of_ble_eq_true rfl) ?_
  intro p e s m args below meth c Z hZ X hnm
  refine rJ_aload_n X dX9_fill_0 rfl rfl ?_
  refine rJ_getR X fX9_9 (by first | exact hw.1 _ _ rfl | assumption) (by first | exact hw.2 _ _ _ rfl | assumption) dX9_fill_1 ?_
  refine rJ_iconst (v := 0) X dX9_fill_4 (by decide) ?_
  refine rJ_aload_n X dX9_fill_5 rfl rfl ?_
  refine rJ_iconst (v := 0) X dX9_fill_6 (by decide) ?_
  refine rJ_bipush (v := 64) X dX9_fill_7 (by decide) ?_
  refine rJ_copy (r0 := 10) (r := r) X kaX9_28 kaN kaS kaI (by first | exact hw.1 _ _ rfl | assumption) (by first | exact hw.1 _ _ rfl | assumption) (by decide) (by decide) (by decide) (by decide) (by decide) (by decide) (Nat.le_of_ble_eq_true rfl) dX9_fill_9 (fun S9 hS9 => ?_)
  rw [mCpy_eq S 10 r 64 rfl] at hS9
  exact rJ_vretZ hZ X dX9_fill_12 ⟨rfl, rfl, rfl, hS9, rfl⟩
set_option maxHeartbeats 4000000 in
set_option maxRecDepth 100000 in
theorem cP_isFull {l : Launch} {D : va_G} {b : Nat} {A : Nat → Nat} {Sh : mS} {S : mI} {G : mP} (hw : okC Sh G) : rMet l D b yX8_isFull cX8_isFull 1 (some .boolean) (mR 0) A Sh S G [.ref (A 6)] (rPi A Sh (if 40 ≤ S 6 2 then 1 else 0) S G) := by
  refine rMet_oz RX8 rfl (by decide) (Nat.le_of_ble_eq_true rfl) ?_
  intro p e s m args below meth c Z hZ X hnm
  refine rJ_aload_n X dX8_isFull_0 rfl rfl ?_
  refine rJ_getI X fX8_24 (by first | exact hw.1 _ _ rfl | assumption) dX8_isFull_1 ?_
  refine rJ_bipush (v := 40) X dX8_isFull_4 (by decide) ?_
  refine rJ_icmp_lt (tgt := 13) X dX8_isFull_6 (by decide) (fun c1 => ?_) (fun c1 => ?_)
  · refine rJ_iconst (v := 0) X dX8_isFull_13 (by decide) ?_
    exact rJ_zretZ hZ X dX8_isFull_14 rfl ⟨by clear X hZ; grind, rfl, rfl, rfl, rfl⟩
  · refine rJ_iconst (v := 1) X dX8_isFull_9 (by decide) ?_
    refine rJ_goto (tgt := 14) X dX8_isFull_10 (by decide) ?_
    exact rJ_zretZ hZ X dX8_isFull_14 rfl ⟨by clear X hZ; grind, rfl, rfl, rfl, rfl⟩
set_option maxHeartbeats 4000000 in
set_option maxRecDepth 100000 in
theorem cP_size {l : Launch} {D : va_G} {b : Nat} {A : Nat → Nat} {Sh : mS} {S : mI} {G : mP} (hw : okC Sh G) : rMet l D b yX8_size cX8_size 1 (some .int) (mR 0) A Sh S G [.ref (A 6)] (rPi A Sh (S 6 2) S G) := by
  refine rMet_oz RX8 rfl (by decide) (Nat.le_of_ble_eq_true rfl) ?_
  intro p e s m args below meth c Z hZ X hnm
  refine rJ_aload_n X dX8_size_0 rfl rfl ?_
  refine rJ_getI X fX8_24 (by first | exact hw.1 _ _ rfl | assumption) dX8_size_1 ?_
  exact rJ_iretZ hZ X dX8_size_4 ⟨rfl, rfl, rfl, rfl, rfl⟩
abbrev cAt (cnt : Nat) (n : Int32) : Nat := if 0 ≤ n ∧ n < nI cnt then 32 + n.toNatClampNeg else 8
theorem in_cnt {n : Int32} {cnt : Nat} (h0 : ¬ n < 0) (h1 : n < nI cnt) (h40 : cnt ≤ 40) : vp_in n 40 ∧ n.toNatClampNeg < cnt := by
  rw [i_lt] at h0 h1
  have e0 : (0 : Int32).toInt = 0 := rfl
  rw [e0] at h0
  rw [i_nI (by omega)] at h1
  have := i_cl (x := n) (by omega)
  exact ⟨in_i (by omega) (by omega), by omega⟩
set_option maxHeartbeats 4000000 in
set_option maxRecDepth 100000 in
theorem cP_at {l : Launch} {D : va_G} {b : Nat} {A : Nat → Nat} {Sh : mS} {S : mI} {G : mP} (hw : okC Sh G) {cnt : Nat} (hc : S 6 2 = nI cnt) (h40 : cnt ≤ 40) (hrows : ∀ j, j < cnt → G 7 j = some (32 + j)) (n : Int32) : rMet l D b yX8_at cX8_at 2 (some (.object "PipeForge$Instruction")) (mR 0) A Sh S G [.ref (A 6), .int n] (rPr A Sh (cAt cnt n) S G) := by
  refine rMet_oz RX8 rfl (by decide) (Nat.le_of_ble_eq_true rfl) ?_
  intro p e s m args below meth c Z hZ X hnm
  have KR : ∀ r : Nat, r = cAt cnt n → rJ p l e (mR 0) s m args below meth c D vwCl mty b 2 Z 0 0 A Sh S G [] 25 [.ref (A r)] := by
    intro r hr
    subst hr
    exact rJ_aretZ hZ X (Or.inl ⟨_, rfl⟩) dX8_at_25 ⟨rfl, rfl, rfl, rfl, rfl⟩
  refine rJ_iload_n X dX8_at_0 rfl rfl ?_
  refine rJ_if_lt (tgt := 12) X dX8_at_1 (by decide) (fun c1 => ?_) (fun c1 => ?_)
  · refine rJ_aload_n X dX8_at_12 rfl rfl ?_
    refine rJ_getR X fX8_20 (by first | exact hw.1 _ _ rfl | assumption) (by first | exact hw.2 _ _ _ rfl | assumption) dX8_at_13 ?_
    refine rJ_goto (tgt := 25) X dX8_at_16 (by decide) ?_
    exact rJ_lv _ rfl (KR _ (by clear X hZ KR; grind))
  · refine rJ_iload_n X dX8_at_4 rfl rfl ?_
    refine rJ_aload_n X dX8_at_5 rfl rfl ?_
    refine rJ_getI X fX8_24 (by first | exact hw.1 _ _ rfl | assumption) dX8_at_6 ?_
    refine rJ_icmp_lt (tgt := 19) X dX8_at_9 (by decide) (fun c2 => ?_) (fun c2 => ?_)
    · rw [hc] at c2
      refine rJ_aload_n X dX8_at_19 rfl rfl ?_
      refine rJ_getR X fX8_11 (by first | exact hw.1 _ _ rfl | assumption) (by first | exact hw.2 _ _ _ rfl | assumption) dX8_at_20 ?_
      refine rJ_iload_n X dX8_at_23 rfl rfl ?_
      refine rJ_aald X (by first | exact hw.1 _ _ rfl | assumption) (in_cnt c1 c2 h40).1 (hrows _ (in_cnt c1 c2 h40).2) dX8_at_24 ?_
      exact rJ_lv _ rfl (KR _ (by clear X hZ KR; grind))
    · rw [hc] at c2
      refine rJ_aload_n X dX8_at_12 rfl rfl ?_
      refine rJ_getR X fX8_20 (by first | exact hw.1 _ _ rfl | assumption) (by first | exact hw.2 _ _ _ rfl | assumption) dX8_at_13 ?_
      refine rJ_goto (tgt := 25) X dX8_at_16 (by decide) ?_
      exact rJ_lv _ rfl (KR _ (by clear X hZ KR; grind))
set_option maxHeartbeats 4000000 in
set_option maxRecDepth 100000 in
theorem cP_add {l : Launch} {D : va_G} {b : Nat} {A : Nat → Nat} {Sh : mS} {S : mI} {G : mP} (hw : okC Sh G) {cnt : Nat} (hc : S 6 2 = nI cnt) (h40 : cnt < 40) {q : Nat} (hq : Sh q = some (0, 2, 0)) : rMet l D b yX8_add cX8_add 2 (some .int) (mR 1) A Sh S G [.ref (A 6), .ref (A q)] (rPi A Sh (nI cnt) (mu S 6 2 (nI (cnt + 1))) (mu G 7 cnt (some q))) := by
  refine rMet_oz RX8 rfl (by decide) (Nat.le_of_ble_eq_true rfl) ?_
  intro p e s m args below meth c Z hZ X hnm
  refine rJ_aload_n X dX8_add_0 rfl rfl ?_
  refine rJ_Vi0 X gX8_28 (cP_isFull hw) (by first | exact hw.1 _ _ rfl | assumption) dX8_add_1 (by decide) (Nat.le_of_ble_eq_true rfl) ⟨Nat.le_refl _, Nat.le_refl _⟩ ?_
  refine rJ_if_eq (tgt := 9) X dX8_add_4 (by decide) (fun c1 => ?_) (fun c1 => ?_)
  · try replace c1 := z_f c1
    refine rJ_aload_n X dX8_add_9 rfl rfl ?_
    refine rJ_getR X fX8_11 (by first | exact hw.1 _ _ rfl | assumption) (by first | exact hw.2 _ _ _ rfl | assumption) dX8_add_10 ?_
    refine rJ_aload_n X dX8_add_13 rfl rfl ?_
    refine rJ_getI X fX8_24 (by first | exact hw.1 _ _ rfl | assumption) dX8_add_14 ?_
    refine rJ_aload_n X dX8_add_17 rfl rfl ?_
    rw [hc]
    refine rJ_aastK (k := cnt) X rfl ⟨by omega, by omega⟩ (by first | exact hw.1 _ _ rfl | assumption) hq dX8_add_18 (fun G18 hG18 => ?_)
    refine rJ_aload_n X dX8_add_19 rfl rfl ?_
    refine rJ_dup X dX8_add_20 rfl ?_
    refine rJ_getI X fX8_24 (by first | exact hw.1 _ _ rfl | assumption) dX8_add_21 ?_
    refine rJ_iconst (v := 1) X dX8_add_24 (by decide) ?_
    refine rJ_iadd X dX8_add_25 ?_
    refine rJ_setI X fX8_24 (Or.inl fwX8_24) (by first | exact hw.1 _ _ rfl | assumption) ⟨rfl, rfl⟩ dX8_add_26 (fun S26 hS26 => ?_)
    refine rJ_aload_n X dX8_add_29 rfl rfl ?_
    refine rJ_getI X fX8_24 (by first | exact hw.1 _ _ rfl | assumption) dX8_add_30 ?_
    refine rJ_iconst (v := 1) X dX8_add_33 (by decide) ?_
    refine rJ_isub X dX8_add_34 ?_
    exact rJ_iretZ hZ X dX8_add_35 ⟨by rw [hS26, mu_eq, hc, nI_1, nI_pred], rfl, rfl, by rw [hS26, hc, nI_1], hG18⟩
  · try replace c1 := z_t c1
    exact absurd c1 (by rw [hc, show (40 : Int32) = nI 40 from rfl, nI_leI (by omega) (by omega)]; omega)
set_option maxHeartbeats 4000000 in
set_option maxRecDepth 100000 in
theorem cH_inRegister {l : Launch} {D : va_G} {b : Nat} {A : Nat → Nat} {Sh : mS} {S : mI} {G : mP} {r r1 r2 : Nat} (hr : Sh r = some (0, 1, 0)) (g1 : G r 0 = some r1) (g2 : G r 1 = some r2) (hr1 : Sh r1 = some (1, 0, 8)) (hr2 : Sh r2 = some (1, 0, 64)) (k : Int32) : rMet l D b yX1_inRegister cX1_inRegister 2 (some .int) (mR 1) A Sh S G [.ref (A r), .int k] (rPi A Sh (if 0 ≤ k ∧ k < 8 then S r1 k.toNatClampNeg else -1) S G) := by
  refine rMet_oz RX1 rfl (by decide) (Nat.le_of_ble_eq_true rfl) ?_
  intro p e s m args below meth c Z hZ X hnm
  refine rJ_iload_n X dX1_inRegister_0 rfl rfl ?_
  refine rJ_Ni1 X gX1_29 (cC_isRegister _) dX1_inRegister_1 (by decide) (Nat.le_of_ble_eq_true rfl) ⟨Nat.le_refl _, Nat.le_refl _⟩ ?_
  refine rJ_if_eq (tgt := 16) X dX1_inRegister_4 (by decide) (fun c1 => ?_) (fun c1 => ?_)
  · try replace c1 := z_f c1
    refine rJ_iconst (v := (-1)) X dX1_inRegister_16 (by decide) ?_
    exact rJ_iretZ hZ X dX1_inRegister_17 ⟨by first | rw [if_pos c1] | rw [if_neg c1], rfl, rfl, rfl, rfl⟩
  · try replace c1 := z_t c1
    refine rJ_aload_n X dX1_inRegister_7 rfl rfl ?_
    refine rJ_getR X fX1_9 (by first | assumption | exact hw.1 _ _ rfl) (by first | assumption | exact hw.2 _ _ _ rfl) dX1_inRegister_8 ?_
    refine rJ_iload_n X dX1_inRegister_11 rfl rfl ?_
    refine rJ_iald X (by first | assumption | exact hw.1 _ _ rfl) (in_lt2 c1 (by decide)) dX1_inRegister_12 ?_
    refine rJ_goto (tgt := 17) X dX1_inRegister_13 (by decide) ?_
    exact rJ_iretZ hZ X dX1_inRegister_17 ⟨by first | rw [if_pos c1] | rw [if_neg c1], rfl, rfl, rfl, rfl⟩
set_option maxHeartbeats 4000000 in
set_option maxRecDepth 100000 in
theorem cH_atPlace {l : Launch} {D : va_G} {b : Nat} {A : Nat → Nat} {Sh : mS} {S : mI} {G : mP} {r r1 r2 : Nat} (hr : Sh r = some (0, 1, 0)) (g1 : G r 0 = some r1) (g2 : G r 1 = some r2) (hr1 : Sh r1 = some (1, 0, 8)) (hr2 : Sh r2 = some (1, 0, 64)) (k : Int32) : rMet l D b yX1_atPlace cX1_atPlace 2 (some .int) (mR 1) A Sh S G [.ref (A r), .int k] (rPi A Sh (if 0 ≤ k ∧ k < 64 then S r2 k.toNatClampNeg else -1) S G) := by
  refine rMet_oz RX1 rfl (by decide) (Nat.le_of_ble_eq_true rfl) ?_
  intro p e s m args below meth c Z hZ X hnm
  refine rJ_iload_n X dX1_atPlace_0 rfl rfl ?_
  refine rJ_Ni1 X gX1_33 (cC_isPlace _) dX1_atPlace_1 (by decide) (Nat.le_of_ble_eq_true rfl) ⟨Nat.le_refl _, Nat.le_refl _⟩ ?_
  refine rJ_if_eq (tgt := 16) X dX1_atPlace_4 (by decide) (fun c1 => ?_) (fun c1 => ?_)
  · try replace c1 := z_f c1
    refine rJ_iconst (v := (-1)) X dX1_atPlace_16 (by decide) ?_
    exact rJ_iretZ hZ X dX1_atPlace_17 ⟨by first | rw [if_pos c1] | rw [if_neg c1], rfl, rfl, rfl, rfl⟩
  · try replace c1 := z_t c1
    refine rJ_aload_n X dX1_atPlace_7 rfl rfl ?_
    refine rJ_getR X fX1_15 (by first | assumption | exact hw.1 _ _ rfl) (by first | assumption | exact hw.2 _ _ _ rfl) dX1_atPlace_8 ?_
    refine rJ_iload_n X dX1_atPlace_11 rfl rfl ?_
    refine rJ_iald X (by first | assumption | exact hw.1 _ _ rfl) (in_lt2 c1 (by decide)) dX1_atPlace_12 ?_
    refine rJ_goto (tgt := 17) X dX1_atPlace_13 (by decide) ?_
    exact rJ_iretZ hZ X dX1_atPlace_17 ⟨by first | rw [if_pos c1] | rw [if_neg c1], rfl, rfl, rfl, rfl⟩
set_option maxHeartbeats 4000000 in
set_option maxRecDepth 100000 in
theorem cH_reset {l : Launch} {D : va_G} {b : Nat} {A : Nat → Nat} {Sh : mS} {S : mI} {G : mP} (hw : okC Sh G) {r r1 r2 : Nat} (hr : Sh r = some (0, 1, 0)) (g1 : G r 0 = some r1) (g2 : G r 1 = some r2) (hr1 : Sh r1 = some (1, 0, 8)) (hr2 : Sh r2 = some (1, 0, 64)) : rMet l D b yX1_reset cX1_reset 2 none (mR 2) A Sh S G [.ref (A r), .ref (A 9)] (rPv A Sh (mCpy (mFl S r1 8 0) 10 r2 64) G) := by
  refine rMet_oz RX1 rfl (by decide) (Nat.le_of_ble_eq_true rfl) ?_
  intro p e s m args below meth c Z hZ X hnm
  refine rJ_aload_n X dX1_reset_0 rfl rfl ?_
  refine rJ_getR X fX1_9 (by first | assumption | exact hw.1 _ _ rfl) (by first | assumption | exact hw.2 _ _ _ rfl) dX1_reset_1 ?_
  refine rJ_iconst (v := 0) X dX1_reset_4 (by decide) ?_
  refine rJ_Sv2 X gX1_18 (cJ_fill hr1 (by decide) _) dX1_reset_5 (by decide) (Nat.le_of_ble_eq_true rfl) ⟨Nat.le_refl _, Nat.le_refl _⟩ ?_
  refine rJ_aload_n X dX1_reset_8 rfl rfl ?_
  refine rJ_aload_n X dX1_reset_9 rfl rfl ?_
  refine rJ_getR X fX1_15 (by first | assumption | exact hw.1 _ _ rfl) (by first | assumption | exact hw.2 _ _ _ rfl) dX1_reset_10 ?_
  refine rJ_Vv1 X gX1_24 (cS_fill hw hr2) (by first | assumption | exact hw.1 _ _ rfl) dX1_reset_13 (by decide) (Nat.le_of_ble_eq_true rfl) ⟨Nat.le_refl _, Nat.le_refl _⟩ ?_
  exact rJ_vretZ hZ X dX1_reset_16 ⟨rfl, rfl, rfl, rfl, rfl⟩
def cTake (S : mI) (r1 r2 : Nat) (kd w v : Int32) : mI := if kd = 6 ∧ (0 ≤ w ∧ w < 64) then mu S r2 w.toNatClampNeg v else if (1 ≤ kd ∧ kd ≤ 5) ∧ (0 ≤ w ∧ w < 8) then mu S r1 w.toNatClampNeg v else S
set_option maxHeartbeats 4000000 in
set_option maxRecDepth 100000 in
theorem cH_take {l : Launch} {D : va_G} {b : Nat} {A : Nat → Nat} {Sh : mS} {S : mI} {G : mP} {r r1 r2 : Nat} (hr : Sh r = some (0, 1, 0)) (g1 : G r 0 = some r1) (g2 : G r 1 = some r2) (hr1 : Sh r1 = some (1, 0, 8)) (hr2 : Sh r2 = some (1, 0, 64)) {q : Nat} (hq : Sh q = some (0, 2, 0)) (hI : iD (S q 0) (S q 1)) (w v : Int32) : rMet l D b yX1_take cX1_take 4 none (mR 1) A Sh S G [.ref (A r), .ref (A q), .int w, .int v] (rPv A Sh (cTake S r1 r2 (S q 0) w v) G) := by
  refine rMet_oz RX1 rfl (by decide) (Nat.le_of_ble_eq_true rfl) ?_
  intro p e s m args below meth c Z hZ X hnm
  refine rJ_aload_n X dX1_take_0 rfl rfl ?_
  refine rJ_Vi0 X gX1_36 (cI_commitsRegister hq hI) hq dX1_take_1 (by decide) (Nat.le_of_ble_eq_true rfl) ⟨Nat.le_refl _, Nat.le_refl _⟩ ?_
  refine rJ_if_eq (tgt := 21) X dX1_take_4 (by decide) (fun c1 => ?_) (fun c1 => ?_)
  · try replace c1 := z_f c1
    refine rJ_aload_n X dX1_take_21 rfl rfl ?_
    refine rJ_Vi0 X gX1_42 (cI_kind hq) hq dX1_take_22 (by decide) (Nat.le_of_ble_eq_true rfl) ⟨Nat.le_refl _, Nat.le_refl _⟩ ?_
    refine rJ_bipush (v := 6) X dX1_take_25 (by decide) ?_
    refine rJ_icmp_ne (tgt := 44) X dX1_take_27 (by decide) (fun c2 => ?_) (fun c2 => ?_)
    · exact rJ_vretZ hZ X dX1_take_44 ⟨rfl, rfl, rfl, by clear X hZ; have hne : q ≠ r1 := (by intro e9; rw [e9, hr1] at hq; simp at hq); (try rw [hS20, mu_na _ _ _ hne] at *); subst_vars; grind [cTake], rfl⟩
    · refine rJ_iload_n X dX1_take_30 rfl rfl ?_
      refine rJ_Ni1 X gX1_33 (cC_isPlace _) dX1_take_31 (by decide) (Nat.le_of_ble_eq_true rfl) ⟨Nat.le_refl _, Nat.le_refl _⟩ ?_
      refine rJ_if_eq (tgt := 44) X dX1_take_34 (by decide) (fun c3 => ?_) (fun c3 => ?_)
      · try replace c3 := z_f c3
        exact rJ_vretZ hZ X dX1_take_44 ⟨rfl, rfl, rfl, by clear X hZ; have hne : q ≠ r1 := (by intro e9; rw [e9, hr1] at hq; simp at hq); (try rw [hS20, mu_na _ _ _ hne] at *); subst_vars; grind [cTake], rfl⟩
      · try replace c3 := z_t c3
        refine rJ_aload_n X dX1_take_37 rfl rfl ?_
        refine rJ_getR X fX1_15 (by first | assumption | exact hw.1 _ _ rfl) (by first | assumption | exact hw.2 _ _ _ rfl) dX1_take_38 ?_
        refine rJ_iload_n X dX1_take_41 rfl rfl ?_
        refine rJ_iload_n X dX1_take_42 rfl rfl ?_
        refine rJ_iast X (by first | assumption | exact hw.1 _ _ rfl) (in_lt2 (hi := 64) (by assumption) (by decide)) dX1_take_43 (fun S43 hS43 => ?_)
        exact rJ_vretZ hZ X dX1_take_44 ⟨rfl, rfl, rfl, by clear X hZ; have hne : q ≠ r1 := (by intro e9; rw [e9, hr1] at hq; simp at hq); (try rw [hS20, mu_na _ _ _ hne] at *); subst_vars; grind [cTake], rfl⟩
  · try replace c1 := z_t c1
    refine rJ_iload_n X dX1_take_7 rfl rfl ?_
    refine rJ_Ni1 X gX1_29 (cC_isRegister _) dX1_take_8 (by decide) (Nat.le_of_ble_eq_true rfl) ⟨Nat.le_refl _, Nat.le_refl _⟩ ?_
    refine rJ_if_eq (tgt := 21) X dX1_take_11 (by decide) (fun c4 => ?_) (fun c4 => ?_)
    · try replace c4 := z_f c4
      refine rJ_aload_n X dX1_take_21 rfl rfl ?_
      refine rJ_Vi0 X gX1_42 (cI_kind hq) hq dX1_take_22 (by decide) (Nat.le_of_ble_eq_true rfl) ⟨Nat.le_refl _, Nat.le_refl _⟩ ?_
      refine rJ_bipush (v := 6) X dX1_take_25 (by decide) ?_
      refine rJ_icmp_ne (tgt := 44) X dX1_take_27 (by decide) (fun c5 => ?_) (fun c5 => ?_)
      · exact rJ_vretZ hZ X dX1_take_44 ⟨rfl, rfl, rfl, by clear X hZ; have hne : q ≠ r1 := (by intro e9; rw [e9, hr1] at hq; simp at hq); (try rw [hS20, mu_na _ _ _ hne] at *); subst_vars; grind [cTake], rfl⟩
      · refine rJ_iload_n X dX1_take_30 rfl rfl ?_
        refine rJ_Ni1 X gX1_33 (cC_isPlace _) dX1_take_31 (by decide) (Nat.le_of_ble_eq_true rfl) ⟨Nat.le_refl _, Nat.le_refl _⟩ ?_
        refine rJ_if_eq (tgt := 44) X dX1_take_34 (by decide) (fun c6 => ?_) (fun c6 => ?_)
        · try replace c6 := z_f c6
          exact rJ_vretZ hZ X dX1_take_44 ⟨rfl, rfl, rfl, by clear X hZ; have hne : q ≠ r1 := (by intro e9; rw [e9, hr1] at hq; simp at hq); (try rw [hS20, mu_na _ _ _ hne] at *); subst_vars; grind [cTake], rfl⟩
        · try replace c6 := z_t c6
          refine rJ_aload_n X dX1_take_37 rfl rfl ?_
          refine rJ_getR X fX1_15 (by first | assumption | exact hw.1 _ _ rfl) (by first | assumption | exact hw.2 _ _ _ rfl) dX1_take_38 ?_
          refine rJ_iload_n X dX1_take_41 rfl rfl ?_
          refine rJ_iload_n X dX1_take_42 rfl rfl ?_
          refine rJ_iast X (by first | assumption | exact hw.1 _ _ rfl) (in_lt2 (hi := 64) (by assumption) (by decide)) dX1_take_43 (fun S43 hS43 => ?_)
          exact rJ_vretZ hZ X dX1_take_44 ⟨rfl, rfl, rfl, by clear X hZ; have hne : q ≠ r1 := (by intro e9; rw [e9, hr1] at hq; simp at hq); (try rw [hS20, mu_na _ _ _ hne] at *); subst_vars; grind [cTake], rfl⟩
    · try replace c4 := z_t c4
      refine rJ_aload_n X dX1_take_14 rfl rfl ?_
      refine rJ_getR X fX1_9 (by first | assumption | exact hw.1 _ _ rfl) (by first | assumption | exact hw.2 _ _ _ rfl) dX1_take_15 ?_
      refine rJ_iload_n X dX1_take_18 rfl rfl ?_
      refine rJ_iload_n X dX1_take_19 rfl rfl ?_
      refine rJ_iast X (by first | assumption | exact hw.1 _ _ rfl) (in_lt2 (hi := 8) (by assumption) (by decide)) dX1_take_20 (fun S20 hS20 => ?_)
      refine rJ_aload_n X dX1_take_21 rfl rfl ?_
      refine rJ_Vi0 X gX1_42 (cI_kind hq) hq dX1_take_22 (by decide) (Nat.le_of_ble_eq_true rfl) ⟨Nat.le_refl _, Nat.le_refl _⟩ ?_
      refine rJ_bipush (v := 6) X dX1_take_25 (by decide) ?_
      refine rJ_icmp_ne (tgt := 44) X dX1_take_27 (by decide) (fun c7 => ?_) (fun c7 => ?_)
      · exact rJ_vretZ hZ X dX1_take_44 ⟨rfl, rfl, rfl, by clear X hZ; have hne : q ≠ r1 := (by intro e9; rw [e9, hr1] at hq; simp at hq); (try rw [hS20, mu_na _ _ _ hne] at *); subst_vars; grind [cTake], rfl⟩
      · refine rJ_iload_n X dX1_take_30 rfl rfl ?_
        refine rJ_Ni1 X gX1_33 (cC_isPlace _) dX1_take_31 (by decide) (Nat.le_of_ble_eq_true rfl) ⟨Nat.le_refl _, Nat.le_refl _⟩ ?_
        refine rJ_if_eq (tgt := 44) X dX1_take_34 (by decide) (fun c8 => ?_) (fun c8 => ?_)
        · try replace c8 := z_f c8
          exact rJ_vretZ hZ X dX1_take_44 ⟨rfl, rfl, rfl, by clear X hZ; have hne : q ≠ r1 := (by intro e9; rw [e9, hr1] at hq; simp at hq); (try rw [hS20, mu_na _ _ _ hne] at *); subst_vars; grind [cTake], rfl⟩
        · try replace c8 := z_t c8
          refine rJ_aload_n X dX1_take_37 rfl rfl ?_
          refine rJ_getR X fX1_15 (by first | assumption | exact hw.1 _ _ rfl) (by first | assumption | exact hw.2 _ _ _ rfl) dX1_take_38 ?_
          refine rJ_iload_n X dX1_take_41 rfl rfl ?_
          refine rJ_iload_n X dX1_take_42 rfl rfl ?_
          refine rJ_iast X (by first | assumption | exact hw.1 _ _ rfl) (in_lt2 (hi := 64) (by assumption) (by decide)) dX1_take_43 (fun S43 hS43 => ?_)
          exact rJ_vretZ hZ X dX1_take_44 ⟨rfl, rfl, rfl, by clear X hZ; have hne : q ≠ r1 := (by intro e9; rw [e9, hr1] at hq; simp at hq); (try rw [hS20, mu_na _ _ _ hne] at *); subst_vars; grind [cTake], rfl⟩
