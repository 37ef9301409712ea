set_option maxHeartbeats 4000000 in
set_option maxRecDepth 100000 in
theorem cR_init {l : Launch} {D : va_G} {b : Nat} {A : Nat → Nat} {Sh : mS} {S : mI} {G : mP} (h0 : Sh 2 = some (0, 4, 0)) (h1 : Sh 3 = none) (hc : gcl Sh G) : rMet l D b yX4_init cX4_init 1 none (mRA 1 1 8) A Sh S G [.ref (A 2)] (fun v A' Sh' S' G' => v = none ∧ (∀ x, Sh x ≠ none → A' x = A x) ∧ Sh' = mTn Sh 3 (1, 0, 8) ∧ S' = mIn S 3 ∧ G' = mu (mPn G 3) 2 0 (some 3)) := by
  refine rMet_oz RX4 rfl (by decide) (Nat.le_of_ble_eq_true rfl) ?_
  intro p e s m args below meth c Z hZ X hnm
  refine rJ_aload_n X dX4_init_0 rfl rfl ?_
  refine rJ_objInit X koX4_3 koI koC dX4_init_1 (Nat.le_of_ble_eq_true rfl) (Nat.le_of_ble_eq_true rfl) ?_
  refine rJ_aload_n X dX4_init_4 rfl rfl ?_
  refine rJ_bipush (v := 8) X dX4_init_5 (by decide) ?_
  refine rJ_newa (N := 8) X 3 (by decide) (by decide) (by decide) (Nat.le_of_ble_eq_true rfl) (Nat.le_of_ble_eq_true rfl) dX4_init_7 h1 (hc.no h1) (fun a7 A7 hA7 _ => ?_)
  rw [show A 2 = A7 2 from by rw [hA7]; exact (if_neg (by omega)).symm]
  refine rJ_setR X fX4_9 (Or.inr hnm) (by first | rfl | exact h0) dX4_init_9 (fun G9 hG9 => ?_)
  exact rJ_vretZ hZ X dX4_init_12 ⟨rfl, fun x hx => by rw [hA7]; exact if_neg (fun e => hx (by rw [e]; exact h1)), rfl, rfl, by rw [hG9]⟩
set_option maxHeartbeats 4000000 in
set_option maxRecDepth 100000 in
theorem cG_init {l : Launch} {D : va_G} {b : Nat} {A : Nat → Nat} {Sh : mS} {S : mI} {G : mP} (h0 : Sh 12 = some (0, 0, 0)) (h1 : Sh 13 = none) (hc : gcl Sh G) : rMet l D b yX0_init cX0_init 1 none (mRA 1 1 4000) A Sh S G [.ref (A 12)] (fun v A' Sh' S' G' => v = none ∧ (∀ x, Sh x ≠ none → A' x = A x) ∧ Sh' = mTn Sh 13 (1, 0, 4000) ∧ S' = mIn S 13 ∧ G' = mu (mPn G 13) 12 0 (some 13)) := by
  refine rMet_oz RX0 rfl (by decide) (Nat.le_of_ble_eq_true rfl) ?_
  intro p e s m args below meth c Z hZ X hnm
  refine rJ_aload_n X dX0_init_0 rfl rfl ?_
  refine rJ_objInit X koX0_3 koI koC dX0_init_1 (Nat.le_of_ble_eq_true rfl) (Nat.le_of_ble_eq_true rfl) ?_
  refine rJ_aload_n X dX0_init_4 rfl rfl ?_
  refine rJ_sipush (v := 4000) X dX0_init_5 (by decide) ?_
  refine rJ_newa (N := 4000) X 13 (by decide) (by decide) (by decide) (Nat.le_of_ble_eq_true rfl) (Nat.le_of_ble_eq_true rfl) dX0_init_8 h1 (hc.no h1) (fun a8 A8 hA8 _ => ?_)
  rw [show A 12 = A8 12 from by rw [hA8]; exact (if_neg (by omega)).symm]
  refine rJ_setR X fX0_11 (Or.inr hnm) (by first | rfl | exact h0) dX0_init_10 (fun G10 hG10 => ?_)
  exact rJ_vretZ hZ X dX0_init_13 ⟨rfl, fun x hx => by rw [hA8]; exact if_neg (fun e => hx (by rw [e]; exact h1)), rfl, rfl, by rw [hG10]⟩
def cLay (S : mI) : mI := mu (mu (mu (mu (mu (mu (mu (mu (mu (mIn S 5) 5 0 0) 5 1 0) 5 2 1) 5 3 1) 5 4 1) 5 5 2) 5 6 3) 5 7 (-1)) 4 1 4
set_option maxHeartbeats 4000000 in
set_option maxRecDepth 100000 in
theorem cL_init {l : Launch} {D : va_G} {b : Nat} {A : Nat → Nat} {Sh : mS} {S : mI} {G : mP} (h0 : Sh 4 = some (0, 3, 0)) (h1 : Sh 5 = none) (hc : gcl Sh G) : rMet l D b yX3_init cX3_init 1 none (mRA 1 1 8) A Sh S G [.ref (A 4)] (fun v A' Sh' S' G' => v = none ∧ (∀ x, Sh x ≠ none → A' x = A x) ∧ Sh' = mTn Sh 5 (1, 0, 8) ∧ S' = cLay S ∧ G' = mu (mPn G 5) 4 0 (some 5)) := by
  refine rMet_oz RX3 rfl (by decide) (Nat.le_of_ble_eq_true rfl) ?_
  intro p e s m args below meth c Z hZ X hnm
  refine rJ_aload_n X dX3_init_0 rfl rfl ?_
  refine rJ_objInit X koX3_3 koI koC dX3_init_1 (Nat.le_of_ble_eq_true rfl) (Nat.le_of_ble_eq_true rfl) ?_
  refine rJ_aload_n X dX3_init_4 rfl rfl ?_
  refine rJ_bipush (v := 8) X dX3_init_5 (by decide) ?_
  refine rJ_newa (N := 8) X 5 (by decide) (by decide) (by decide) (Nat.le_of_ble_eq_true rfl) (Nat.le_of_ble_eq_true rfl) dX3_init_7 h1 (hc.no h1) (fun a7 A7 hA7 _ => ?_)
  rw [show A 4 = A7 4 from by rw [hA7]; exact (if_neg (by omega)).symm]
  refine rJ_dup X dX3_init_9 rfl ?_
  refine rJ_iconst (v := 0) X dX3_init_10 (by decide) ?_
  refine rJ_iconst (v := 0) X dX3_init_11 (by decide) ?_
  refine rJ_iastK (k := 0) X (by decide) (n := 8) ⟨by decide, by decide⟩ (by first | rfl | exact h0) dX3_init_12 (fun S12 hS12 => ?_)
  refine rJ_dup X dX3_init_13 rfl ?_
  refine rJ_iconst (v := 1) X dX3_init_14 (by decide) ?_
  refine rJ_iconst (v := 0) X dX3_init_15 (by decide) ?_
  refine rJ_iastK (k := 1) X (by decide) (n := 8) ⟨by decide, by decide⟩ (by first | rfl | exact h0) dX3_init_16 (fun S16 hS16 => ?_)
  refine rJ_dup X dX3_init_17 rfl ?_
  refine rJ_iconst (v := 2) X dX3_init_18 (by decide) ?_
  refine rJ_iconst (v := 1) X dX3_init_19 (by decide) ?_
  refine rJ_iastK (k := 2) X (by decide) (n := 8) ⟨by decide, by decide⟩ (by first | rfl | exact h0) dX3_init_20 (fun S20 hS20 => ?_)
  refine rJ_dup X dX3_init_21 rfl ?_
  refine rJ_iconst (v := 3) X dX3_init_22 (by decide) ?_
  refine rJ_iconst (v := 1) X dX3_init_23 (by decide) ?_
  refine rJ_iastK (k := 3) X (by decide) (n := 8) ⟨by decide, by decide⟩ (by first | rfl | exact h0) dX3_init_24 (fun S24 hS24 => ?_)
  refine rJ_dup X dX3_init_25 rfl ?_
  refine rJ_iconst (v := 4) X dX3_init_26 (by decide) ?_
  refine rJ_iconst (v := 1) X dX3_init_27 (by decide) ?_
  refine rJ_iastK (k := 4) X (by decide) (n := 8) ⟨by decide, by decide⟩ (by first | rfl | exact h0) dX3_init_28 (fun S28 hS28 => ?_)
  refine rJ_dup X dX3_init_29 rfl ?_
  refine rJ_iconst (v := 5) X dX3_init_30 (by decide) ?_
  refine rJ_iconst (v := 2) X dX3_init_31 (by decide) ?_
  refine rJ_iastK (k := 5) X (by decide) (n := 8) ⟨by decide, by decide⟩ (by first | rfl | exact h0) dX3_init_32 (fun S32 hS32 => ?_)
  refine rJ_dup X dX3_init_33 rfl ?_
  refine rJ_bipush (v := 6) X dX3_init_34 (by decide) ?_
  refine rJ_iconst (v := 3) X dX3_init_36 (by decide) ?_
  refine rJ_iastK (k := 6) X (by decide) (n := 8) ⟨by decide, by decide⟩ (by first | rfl | exact h0) dX3_init_37 (fun S37 hS37 => ?_)
  refine rJ_dup X dX3_init_38 rfl ?_
  refine rJ_bipush (v := 7) X dX3_init_39 (by decide) ?_
  refine rJ_iconst (v := (-1)) X dX3_init_41 (by decide) ?_
  refine rJ_iastK (k := 7) X (by decide) (n := 8) ⟨by decide, by decide⟩ (by first | rfl | exact h0) dX3_init_42 (fun S42 hS42 => ?_)
  refine rJ_setR X fX3_9 (Or.inr hnm) (by first | rfl | exact h0) dX3_init_43 (fun G43 hG43 => ?_)
  refine rJ_aload_n X dX3_init_46 rfl rfl ?_
  refine rJ_iconst (v := 4) X dX3_init_47 (by decide) ?_
  refine rJ_setI X fX3_15 (Or.inl fwX3_15) (by first | rfl | exact h0) ⟨rfl, rfl⟩ dX3_init_48 (fun S48 hS48 => ?_)
  exact rJ_vretZ hZ X dX3_init_51 ⟨rfl, fun x hx => by rw [hA7]; exact if_neg (fun e => hx (by rw [e]; exact h1)), rfl, by rw [hS48, hS42, hS37, hS32, hS28, hS24, hS20, hS16, hS12]; rfl, by rw [hG43]⟩
def cSta (S : mI) : mI := mu (mu (mu (mu (mu (mu (mu (mu (mIn (mIn S 10) 11) 11 0 1) 11 1 1) 11 2 1) 11 3 1) 11 4 1) 11 5 1) 11 6 1) 11 7 1
set_option maxHeartbeats 4000000 in
set_option maxRecDepth 100000 in
theorem cS_init {l : Launch} {D : va_G} {b : Nat} {A : Nat → Nat} {Sh : mS} {S : mI} {G : mP} (h0 : Sh 9 = some (0, 9, 0)) (h1 : Sh 10 = none) (h2 : Sh 11 = none) (hc : gcl Sh G) : rMet l D b yX9_init cX9_init 1 none (mRA 1 2 72) A Sh S G [.ref (A 9)] (fun v A' Sh' S' G' => v = none ∧ (∀ x, Sh x ≠ none → A' x = A x) ∧ Sh' = mTn (mTn Sh 10 (1, 0, 64)) 11 (1, 0, 8) ∧ S' = cSta S ∧ G' = mu (mPn (mu (mPn G 10) 9 0 (some 10)) 11) 9 1 (some 11)) := by
  refine rMet_oz RX9 rfl (by decide) (Nat.le_of_ble_eq_true rfl) ?_
  intro p e s m args below meth c Z hZ X hnm
  refine rJ_aload_n X dX9_init_0 rfl rfl ?_
  refine rJ_objInit X koX9_3 koI koC dX9_init_1 (Nat.le_of_ble_eq_true rfl) (Nat.le_of_ble_eq_true rfl) ?_
  refine rJ_aload_n X dX9_init_4 rfl rfl ?_
  refine rJ_bipush (v := 64) X dX9_init_5 (by decide) ?_
  refine rJ_newa (N := 64) X 10 (by decide) (by decide) (by decide) (Nat.le_of_ble_eq_true rfl) (Nat.le_of_ble_eq_true rfl) dX9_init_7 h1 (hc.no h1) (fun a7 A7 hA7 _ => ?_)
  rw [show A 9 = A7 9 from by rw [hA7]; exact (if_neg (by omega)).symm]
  refine rJ_setR X fX9_9 (Or.inr hnm) (by first | rfl | exact h0) dX9_init_9 (fun G9 hG9 => ?_)
  refine rJ_aload_n X dX9_init_12 rfl rfl ?_
  refine rJ_bipush (v := 8) X dX9_init_13 (by decide) ?_
  have hc2 : gcl (mTn Sh 10 (1, 0, 64)) G9 := by rw [hG9]; exact (hc.new 10 (1, 0, 64)).put 9 0 (by exact Option.some_ne_none _)
  refine rJ_newa (N := 8) X 11 (by decide) (by decide) (by decide) (Nat.le_of_ble_eq_true rfl) (Nat.le_of_ble_eq_true rfl) dX9_init_15 (show mTn Sh 10 (1, 0, 64) 11 = none from h2) (hc2.no (show mTn Sh 10 (1, 0, 64) 11 = none from h2)) (fun a15 A15 hA15 _ => ?_)
  rw [show A7 9 = A15 9 from by rw [hA15]; exact (if_neg (by omega)).symm]
  refine rJ_dup X dX9_init_17 rfl ?_
  refine rJ_iconst (v := 0) X dX9_init_18 (by decide) ?_
  refine rJ_iconst (v := 1) X dX9_init_19 (by decide) ?_
  refine rJ_iastK (k := 0) X (by decide) (n := 8) ⟨by decide, by decide⟩ (by first | rfl | exact h0) dX9_init_20 (fun S20 hS20 => ?_)
  refine rJ_dup X dX9_init_21 rfl ?_
  refine rJ_iconst (v := 1) X dX9_init_22 (by decide) ?_
  refine rJ_iconst (v := 1) X dX9_init_23 (by decide) ?_
  refine rJ_iastK (k := 1) X (by decide) (n := 8) ⟨by decide, by decide⟩ (by first | rfl | exact h0) dX9_init_24 (fun S24 hS24 => ?_)
  refine rJ_dup X dX9_init_25 rfl ?_
  refine rJ_iconst (v := 2) X dX9_init_26 (by decide) ?_
  refine rJ_iconst (v := 1) X dX9_init_27 (by decide) ?_
  refine rJ_iastK (k := 2) X (by decide) (n := 8) ⟨by decide, by decide⟩ (by first | rfl | exact h0) dX9_init_28 (fun S28 hS28 => ?_)
  refine rJ_dup X dX9_init_29 rfl ?_
  refine rJ_iconst (v := 3) X dX9_init_30 (by decide) ?_
  refine rJ_iconst (v := 1) X dX9_init_31 (by decide) ?_
  refine rJ_iastK (k := 3) X (by decide) (n := 8) ⟨by decide, by decide⟩ (by first | rfl | exact h0) dX9_init_32 (fun S32 hS32 => ?_)
  refine rJ_dup X dX9_init_33 rfl ?_
  refine rJ_iconst (v := 4) X dX9_init_34 (by decide) ?_
  refine rJ_iconst (v := 1) X dX9_init_35 (by decide) ?_
  refine rJ_iastK (k := 4) X (by decide) (n := 8) ⟨by decide, by decide⟩ (by first | rfl | exact h0) dX9_init_36 (fun S36 hS36 => ?_)
  refine rJ_dup X dX9_init_37 rfl ?_
  refine rJ_iconst (v := 5) X dX9_init_38 (by decide) ?_
  refine rJ_iconst (v := 1) X dX9_init_39 (by decide) ?_
  refine rJ_iastK (k := 5) X (by decide) (n := 8) ⟨by decide, by decide⟩ (by first | rfl | exact h0) dX9_init_40 (fun S40 hS40 => ?_)
  refine rJ_dup X dX9_init_41 rfl ?_
  refine rJ_bipush (v := 6) X dX9_init_42 (by decide) ?_
  refine rJ_iconst (v := 1) X dX9_init_44 (by decide) ?_
  refine rJ_iastK (k := 6) X (by decide) (n := 8) ⟨by decide, by decide⟩ (by first | rfl | exact h0) dX9_init_45 (fun S45 hS45 => ?_)
  refine rJ_dup X dX9_init_46 rfl ?_
  refine rJ_bipush (v := 7) X dX9_init_47 (by decide) ?_
  refine rJ_iconst (v := 1) X dX9_init_49 (by decide) ?_
  refine rJ_iastK (k := 7) X (by decide) (n := 8) ⟨by decide, by decide⟩ (by first | rfl | exact h0) dX9_init_50 (fun S50 hS50 => ?_)
  refine rJ_setR X fX9_15 (Or.inr hnm) (by first | rfl | exact h0) dX9_init_51 (fun G51 hG51 => ?_)
  exact rJ_vretZ hZ X dX9_init_54 ⟨rfl, fun x hx => by rw [hA15]; show (if x = 11 then _ else A7 x) = _; rw [if_neg (fun e => hx (by rw [e]; exact h2)), hA7]; exact if_neg (fun e => hx (by rw [e]; exact h1)), rfl, by rw [hS50, hS45, hS40, hS36, hS32, hS28, hS24, hS20]; rfl, by rw [hG51, hG9]⟩
set_option maxHeartbeats 4000000 in
set_option maxRecDepth 100000 in
theorem cH_init {l : Launch} {D : va_G} {b : Nat} {A : Nat → Nat} {Sh : mS} {S : mI} {G : mP} {r r1 r2 : Nat} (hd : r1 ≠ r2 ∧ r ≠ r1 ∧ r ≠ r2) (h0 : Sh r = some (0, 1, 0)) (h1 : Sh r1 = none) (h2 : Sh r2 = none) (hc : gcl Sh G) : rMet l D b yX1_init cX1_init 1 none (mRA 1 2 72) A Sh S G [.ref (A r)] (fun v A' Sh' S' G' => v = none ∧ (∀ x, Sh x ≠ none → A' x = A x) ∧ Sh' = mTn (mTn Sh r1 (1, 0, 8)) r2 (1, 0, 64) ∧ S' = mIn (mIn S r1) r2 ∧ G' = mu (mPn (mu (mPn G r1) r 0 (some r1)) r2) r 1 (some r2)) := by
  refine rMet_oz RX1 rfl (by decide) (Nat.le_of_ble_eq_true rfl) ?_
  intro p e s m args below meth c Z hZ X hnm
  have h0a : mTn Sh r1 (1, 0, 8) r = some (0, 1, 0) := by show (if r = r1 then _ else Sh r) = _; rw [if_neg (by omega)]; exact h0
  have h0b : mTn (mTn Sh r1 (1, 0, 8)) r2 (1, 0, 64) r = some (0, 1, 0) := by show (if r = r2 then _ else if r = r1 then _ else Sh r) = _; rw [if_neg (by omega), if_neg (by omega)]; exact h0
  refine rJ_aload_n X dX1_init_0 rfl rfl ?_
  refine rJ_objInit X koX1_3 koI koC dX1_init_1 (Nat.le_of_ble_eq_true rfl) (Nat.le_of_ble_eq_true rfl) ?_
  refine rJ_aload_n X dX1_init_4 rfl rfl ?_
  refine rJ_bipush (v := 8) X dX1_init_5 (by decide) ?_
  refine rJ_newa (N := 8) X r1 (by decide) (by decide) (by decide) (Nat.le_of_ble_eq_true rfl) (Nat.le_of_ble_eq_true rfl) dX1_init_7 h1 (hc.no h1) (fun a7 A7 hA7 _ => ?_)
  rw [show A r = A7 r from by rw [hA7]; exact (if_neg (by omega)).symm]
  refine rJ_setR X fX1_9 (Or.inr hnm) (by first | exact h0 | exact h0a | exact h0b) dX1_init_9 (fun G9 hG9 => ?_)
  refine rJ_aload_n X dX1_init_12 rfl rfl ?_
  refine rJ_bipush (v := 64) X dX1_init_13 (by decide) ?_
  have hc2 : gcl (mTn Sh r1 (1, 0, 8)) G9 := by rw [hG9]; exact (hc.new r1 (1, 0, 8)).put r 0 (by show (if r1 = r1 then _ else _) ≠ none; rw [if_pos rfl]; exact Option.some_ne_none _)
  have h2a : mTn Sh r1 (1, 0, 8) r2 = none := by show (if r2 = r1 then _ else Sh r2) = none; rw [if_neg (by omega)]; exact h2
  refine rJ_newa (N := 64) X r2 (by decide) (by decide) (by decide) (Nat.le_of_ble_eq_true rfl) (Nat.le_of_ble_eq_true rfl) dX1_init_15 h2a (hc2.no h2a) (fun a15 A15 hA15 _ => ?_)
  rw [show A7 r = A15 r from by rw [hA15]; exact (if_neg (by omega)).symm]
  refine rJ_setR X fX1_15 (Or.inr hnm) (by first | exact h0 | exact h0a | exact h0b) dX1_init_17 (fun G17 hG17 => ?_)
  exact rJ_vretZ hZ X dX1_init_20 ⟨rfl, fun x hx => by rw [hA15]; show (if x = r2 then _ else A7 x) = _; rw [if_neg (fun e => hx (by rw [e]; exact h2)), hA7]; exact if_neg (fun e => hx (by rw [e]; exact h1)), rfl, rfl, by rw [hG17, hG9]⟩
set_option maxHeartbeats 4000000 in
set_option maxRecDepth 100000 in
theorem cT_init {l : Launch} {D : va_G} {b : Nat} {A : Nat → Nat} {Sh : mS} {S : mI} {G : mP} {r q : Nat} (h0 : Sh r = some (0, 5, 0)) : rMet l D b yX5_init cX5_init 2 none (mR 1) A Sh S G [.ref (A r), .ref (A q)] (rPv A Sh S (mu G r 1 (some q))) := by
  refine rMet_oz RX5 rfl (by decide) (Nat.le_of_ble_eq_true rfl) ?_
  intro p e s m args below meth c Z hZ X hnm
  refine rJ_aload_n X dX5_init_0 rfl rfl ?_
  refine rJ_objInit X koX5_1 koI koC dX5_init_1 (Nat.le_of_ble_eq_true rfl) (Nat.le_of_ble_eq_true rfl) ?_
  refine rJ_aload_n X dX5_init_4 rfl rfl ?_
  refine rJ_aload_n X dX5_init_5 rfl rfl ?_
  refine rJ_setR X fX5_7 (Or.inl fwX5_7) h0 dX5_init_6 (fun G6 hG6 => ?_)
  exact rJ_vretZ hZ X dX5_init_9 ⟨rfl, rfl, rfl, rfl, by rw [hG6]⟩
set_option maxHeartbeats 4000000 in
set_option maxRecDepth 100000 in
theorem cO_init {l : Launch} {D : va_G} {b : Nat} {A : Nat → Nat} {Sh : mS} {S : mI} {G : mP} (h0 : Sh 20 = some (0, 6, 0)) (h1 : Sh 21 = none) (h2 : Sh 22 = none) (h3 : Sh 23 = none) (h6 : Sh 6 = some (0, 8, 0)) (h9 : Sh 9 = some (0, 9, 0)) (hc : gcl Sh G) : rMet l D b yX6_init cX6_init 3 none (mRA 2 3 74) A Sh S G [.ref (A 20), .ref (A 6), .ref (A 9)] (fun v A' Sh' S' G' => v = none ∧ (∀ x, Sh x ≠ none → A' x = A x) ∧ Sh' = mTn (mTn (mTn Sh 21 (0, 1, 0)) 22 (1, 0, 8)) 23 (1, 0, 64) ∧ S' = mIn (mIn (mIn S 21) 22) 23 ∧ G' = mu (mu (mu (mu (mPn (mu (mPn (mPn G 21) 22) 21 0 (some 22)) 23) 21 1 (some 23)) 20 2 (some 21)) 20 0 (some 6)) 20 1 (some 9)) := by
  refine rMet_oz RX6 rfl (by decide) (Nat.le_of_ble_eq_true rfl) ?_
  intro p e s m args below meth c Z hZ X hnm
  refine rJ_aload_n X dX6_init_0 rfl rfl ?_
  refine rJ_objInit X koX6_3 koI koC dX6_init_1 (Nat.le_of_ble_eq_true rfl) (Nat.le_of_ble_eq_true rfl) ?_
  refine rJ_aload_n X dX6_init_4 rfl rfl ?_
  refine rJ_new X 21 clX1 klX6_9 knX1 kzX1 (by decide) (Nat.le_of_ble_eq_true rfl) (Nat.le_of_ble_eq_true rfl) dX6_init_5 h1 (hc.no h1) (fun a5 A5 hA5 _ => ?_)
  rw [show A 20 = A5 20 from by rw [hA5]; rfl, show A 6 = A5 6 from by rw [hA5]; rfl, show A 9 = A5 9 from by rw [hA5]; rfl]
  refine rJ_dup X dX6_init_8 rfl ?_
  refine rJ_callIN (As := []) (rm := mRA 1 2 72) X mX1_init kNX6_11 kiX1_init rfl (cH_init (r := 21) (r1 := 22) (r2 := 23) (by decide) rfl (show mTn Sh 21 (0, 1, 0) 22 = none from h2) (show mTn Sh 21 (0, 1, 0) 23 = none from h3) (hc.new _ _)) rfl rfl (Nat.le_of_ble_eq_true rfl) ⟨(Nat.le_of_ble_eq_true rfl), (Nat.le_of_ble_eq_true rfl)⟩ ⟨(Nat.le_of_ble_eq_true rfl), (Nat.le_of_ble_eq_true rfl)⟩ dX6_init_9 ?_
  intro v9 A9 Sh9 S9 G9 hp9
  obtain ⟨rfl, hA9, rfl, rfl, rfl⟩ := hp9
  have h0c : mTn (mTn (mTn Sh 21 (0, 1, 0)) 22 (1, 0, 8)) 23 (1, 0, 64) 20 = some (0, 6, 0) := h0
  rw [show A5 20 = A9 20 from (hA9 20 (by rw [show mTn Sh 21 (0, 1, 0) 20 = some (0, 6, 0) from h0]; exact Option.some_ne_none _)).symm, show A5 21 = A9 21 from (hA9 21 (by exact Option.some_ne_none _)).symm, show A5 6 = A9 6 from (hA9 6 (by rw [show mTn Sh 21 (0, 1, 0) 6 = some (0, 8, 0) from h6]; exact Option.some_ne_none _)).symm, show A5 9 = A9 9 from (hA9 9 (by rw [show mTn Sh 21 (0, 1, 0) 9 = some (0, 9, 0) from h9]; exact Option.some_ne_none _)).symm]
  refine rJ_setR X fX6_12 (Or.inr hnm) h0c dX6_init_12 (fun G12 hG12 => ?_)
  refine rJ_aload_n X dX6_init_15 rfl rfl ?_
  refine rJ_aload_n X dX6_init_16 rfl rfl ?_
  refine rJ_setR X fX6_18 (Or.inr hnm) h0c dX6_init_17 (fun G17 hG17 => ?_)
  refine rJ_aload_n X dX6_init_20 rfl rfl ?_
  refine rJ_aload_n X dX6_init_21 rfl rfl ?_
  refine rJ_setR X fX6_22 (Or.inr hnm) h0c dX6_init_22 (fun G22 hG22 => ?_)
  exact rJ_vretZ hZ X dX6_init_25 ⟨rfl, fun x hx => by rw [hA9 x (fun e => hx (by by_cases e2 : x = 21 <;> first | (rw [e2]; exact h1) | exact (if_neg e2).symm.trans e)), hA5]; exact if_neg (fun e => hx (by rw [e]; exact h1)), rfl, rfl, by rw [hG22, hG17, hG12]⟩
def cRowG (G : mP) (n : Nat) : mP := fun x k => if x = 7 ∧ k < n then some 8 else G x k
theorem cRowG_0 (G : mP) : cRowG G 0 = G := by funext x k; simp [cRowG]
theorem cRowG_s (G : mP) (n : Nat) : mu (cRowG G n) 7 n (some 8) = cRowG G (n + 1) := by funext x k; simp only [mu, cRowG]; grind
theorem cRowG_n (G : mP) (n : Nat) {x : Nat} (h : x ≠ 7) : cRowG G n x = G x := by funext k; simp [cRowG, h]
set_option maxHeartbeats 4000000 in
set_option maxRecDepth 100000 in
theorem cP_init {l : Launch} {D : va_G} {b : Nat} {A : Nat → Nat} {Sh : mS} {S : mI} {G : mP} (h0 : Sh 6 = some (0, 8, 0)) (h1 : Sh 7 = none) (h2 : Sh 8 = none) (hc : gcl Sh G) : rMet l D b yX8_init cX8_init 2 none (mRA 2 2 45) A Sh S G [.ref (A 6)] (fun v A' Sh' S' G' => v = none ∧ (∀ x, Sh x ≠ none → A' x = A x) ∧ Sh' = (mTn (mTn Sh 7 (5, 0, 40)) 8 (0, 2, 0)) ∧ S' = (cMk (mIn (mIn S 7) 8) 8 0 0 0 0 0) ∧ G' = cRowG (mu (mPn (mu (mPn G 7) 6 0 (some 7)) 8) 6 1 (some 8)) 40) := by
  refine rMet_oz RX8 rfl (by decide) (Nat.le_of_ble_eq_true rfl) ?_
  intro p e s m args below meth c Z hZ X hnm
  have loop : ∀ (f k : Nat) (B : Nat → Nat) (H : mP), (∀ x, Sh x ≠ none → B x = A x) → H = cRowG (mu (mPn (mu (mPn G 7) 6 0 (some 7)) 8) 6 1 (some 8)) k → k ≤ 40 → 40 - k < f → rJ p l e (mRA 2 2 45) s m args below meth c D vwCl mty b 2 Z 2 45 B (mTn (mTn Sh 7 (5, 0, 40)) 8 (0, 2, 0)) (cMk (mIn (mIn S 7) 8) 8 0 0 0 0 0) H [(0, .ref (B 6)), (1, .int (nI k))] 31 [] := by
    intro f
    induction f with
    | zero => intro k B H hB hH h1 h3; exact absurd h3 (by omega)
    | succ f ih =>
      intro k B H hB hH h1 h3
      refine rJ_iload_n X dX8_init_31 rfl rfl ?_
      refine rJ_bipush (v := 40) X dX8_init_32 (by decide) ?_
      refine rJ_icmp_ge (tgt := 53) X dX8_init_34 (by decide) (fun a1 => ?_) (fun a1 => ?_)
      · rw [show (40 : Int32) = nI 40 from rfl, nI_leI (by omega) (by omega)] at a1
        exact rJ_vretZ hZ X dX8_init_53 ⟨rfl, hB, rfl, rfl, by rw [hH, show k = 40 by omega]⟩
      · rw [show (40 : Int32) = nI 40 from rfl, nI_leI (by omega) (by omega)] at a1
        refine rJ_aload_n X dX8_init_37 rfl rfl ?_
        refine rJ_getR X fX8_11 (by first | rfl | exact h0) (by rw [hH, cRowG_n _ _ (by decide)]; rfl) dX8_init_38 ?_
        refine rJ_iload_n X dX8_init_41 rfl rfl ?_
        refine rJ_aload_n X dX8_init_42 rfl rfl ?_
        refine rJ_getR X fX8_20 (by first | rfl | exact h0) (by rw [hH, cRowG_n _ _ (by decide)]; rfl) dX8_init_43 ?_
        refine rJ_aastK (k := k) X rfl ⟨by omega, by decide⟩ (show (mTn (mTn Sh 7 (5, 0, 40)) 8 (0, 2, 0)) 7 = some (2 + 3, 0, 40) from rfl) (show (mTn (mTn Sh 7 (5, 0, 40)) 8 (0, 2, 0)) 8 = some (0, 2, 0) from rfl) dX8_init_46 (fun G46 hG46 => ?_)
        refine rJ_inc (n := 1) (w := 1) X dX8_init_47 rfl (by decide) (by decide) ?_
        rw [nI_1 k]
        refine rJ_goto (tgt := 31) X dX8_init_50 (by decide) ?_
        exact rJ_lv _ rfl (ih (k + 1) B _ hB (by rw [hG46, hH, cRowG_s]) (by omega) (by omega))
  refine rJ_aload_n X dX8_init_0 rfl rfl ?_
  refine rJ_objInit X koX8_3 koI koC dX8_init_1 (Nat.le_of_ble_eq_true rfl) (Nat.le_of_ble_eq_true rfl) ?_
  refine rJ_aload_n X dX8_init_4 rfl rfl ?_
  refine rJ_bipush (v := 40) X dX8_init_5 (by decide) ?_
  refine rJ_newq (N := 40) (j := 2) X 7 rfl klX8_9 (fun U h => h.2.1) (by decide) (by decide) (by decide) (Nat.le_of_ble_eq_true rfl) (Nat.le_of_ble_eq_true rfl) dX8_init_7 h1 (hc.no h1) (fun a7 A7 hA7 _ => ?_)
  rw [show A 6 = A7 6 from by rw [hA7]; rfl]
  refine rJ_setR X fX8_11 (Or.inr hnm) (by first | rfl | exact h0) dX8_init_10 (fun G10 hG10 => ?_)
  refine rJ_aload_n X dX8_init_13 rfl rfl ?_
  have hc2 : gcl (mTn Sh 7 (5, 0, 40)) G10 := by rw [hG10]; exact (hc.new 7 (5, 0, 40)).put 6 0 (by exact Option.some_ne_none _)
  have h2a : mTn Sh 7 (5, 0, 40) 8 = none := h2
  refine rJ_new X 8 clX2 klX8_9 knX2 kzX2 (by decide) (Nat.le_of_ble_eq_true rfl) (Nat.le_of_ble_eq_true rfl) dX8_init_14 h2a (hc2.no h2a) (fun a14 A14 hA14 _ => ?_)
  rw [show A7 6 = A14 6 from by rw [hA14]; rfl]
  refine rJ_dup X dX8_init_17 rfl ?_
  refine rJ_iconst (v := 0) X dX8_init_18 (by decide) ?_
  refine rJ_iconst (v := 0) X dX8_init_19 (by decide) ?_
  refine rJ_iconst (v := 0) X dX8_init_20 (by decide) ?_
  refine rJ_iconst (v := 0) X dX8_init_21 (by decide) ?_
  refine rJ_iconst (v := 0) X dX8_init_22 (by decide) ?_
  refine rJ_callI (As := [.int 0, .int 0, .int 0, .int 0, .int 0]) (rm := mR 1) X mX2_init kX8_17 kiX2_init rfl (cI_init (q := 8) rfl 0 0 0 0 0) rfl rfl (Nat.le_of_ble_eq_true rfl) ⟨(Nat.le_of_ble_eq_true rfl), (Nat.le_of_ble_eq_true rfl)⟩ ⟨(Nat.le_of_ble_eq_true rfl), (Nat.le_of_ble_eq_true rfl)⟩ dX8_init_23 ?_
  intro v23 A23 Sh23 S23 G23 hp23
  obtain ⟨rfl, rfl, rfl, rfl, rfl⟩ := hp23
  refine rJ_setR X fX8_20 (Or.inr hnm) (by first | rfl | exact h0) dX8_init_26 (fun G26 hG26 => ?_)
  refine rJ_iconst (v := 0) X dX8_init_29 (by decide) ?_
  refine rJ_istore_n X dX8_init_30 rfl (by decide) ?_
  exact rJ_lv _ rfl (loop 41 0 A23 _ (fun x hx => by rw [hA14]; show (if x = 8 then _ else A7 x) = _; rw [if_neg (fun e => hx (by rw [e]; exact h2)), hA7]; exact if_neg (fun e => hx (by rw [e]; exact h1))) (by rw [hG26, hG10, cRowG_0]) (by omega) (by omega))
