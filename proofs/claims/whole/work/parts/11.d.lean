theorem gcl_row {Sh : mS} {G : mP} (h : gcl Sh G) (h8 : Sh 8 ≠ none) (n : Nat) : gcl Sh (cRowG G n) := fun z k q e => by
  simp only [cRowG] at e
  split at e
  · cases e; exact h8
  · exact h z k q e
theorem gcl_th {Sh : mS} {G : mP} (h : gcl Sh G) (h8 : Sh 8 ≠ none) (n : Nat) : gcl (cThS Sh n) (cThG G n) := fun z k q e => by
  simp only [cThG] at e
  have up : ∀ x, Sh x ≠ none → cThS Sh n x ≠ none := fun x hx => by
    simp only [cThS]
    split
    · exact Option.some_ne_none _
    · exact hx
  split at e
  · rename_i h1
    cases e
    simp only [cThS]
    rw [if_pos (by omega)]
    exact Option.some_ne_none _
  · split at e
    · split at e
      · cases e; exact up 8 h8
      · cases e
    · exact up q (h z k q e)
def Z0 : mS := fun x => if x = 0 then some (0, 10, 0) else none
theorem Z0_gcl : gcl Z0 (fun _ _ => none) := fun z k q e => by cases e
def zS9 : mS := mTn Z0 1 (1, 0, 30)
def zG9 : mP := mu (mPn (fun _ _ => none) 1) 0 0 (some 1)
theorem zc9 : gcl zS9 zG9 := (Z0_gcl.new 1 (1, 0, 30)).put 0 0 (by exact Option.some_ne_none _)
def zI9 : mI := mIn (fun _ _ => 0) 1
def zS20 : mS := mTn (mTn zS9 2 (0, 4, 0)) 3 (1, 0, 8)
def zG20 : mP := mu (mu (mPn (mPn zG9 2) 3) 2 0 (some 3)) 0 2 (some 2)
theorem zc20 : gcl zS20 zG20 := (((zc9.new 2 (0, 4, 0)).new 3 (1, 0, 8)).put 2 0 (by exact Option.some_ne_none _)).put 0 2 (by exact Option.some_ne_none _)
def zI20 : mI := mIn (mIn zI9 2) 3
def zS31 : mS := mTn (mTn zS20 4 (0, 3, 0)) 5 (1, 0, 8)
def zG31 : mP := mu (mu (mPn (mPn zG20 4) 5) 4 0 (some 5)) 0 3 (some 4)
theorem zc31 : gcl zS31 zG31 := (((zc20.new 4 (0, 3, 0)).new 5 (1, 0, 8)).put 4 0 (by exact Option.some_ne_none _)).put 0 3 (by exact Option.some_ne_none _)
def zI31 : mI := cLay (mIn zI20 4)
def zS42 : mS := mTn (mTn (mTn zS31 6 (0, 8, 0)) 7 (5, 0, 40)) 8 (0, 2, 0)
def zG42 : mP := mu (cRowG (mu (mPn (mu (mPn (mPn zG31 6) 7) 6 0 (some 7)) 8) 6 1 (some 8)) 40) 0 4 (some 6)
theorem zc42 : gcl zS42 zG42 := (gcl_row (((((zc31.new 6 (0, 8, 0)).new 7 (5, 0, 40)).put 6 0 (by exact Option.some_ne_none _)).new 8 (0, 2, 0)).put 6 1 (by exact Option.some_ne_none _)) (by exact Option.some_ne_none _) 40).put 0 4 (by exact Option.some_ne_none _)
def zI42 : mI := cMk (mIn (mIn (mIn zI31 6) 7) 8) 8 0 0 0 0 0
def zS53 : mS := mTn (mTn (mTn zS42 9 (0, 9, 0)) 10 (1, 0, 64)) 11 (1, 0, 8)
def zG53 : mP := mu (mu (mPn (mu (mPn (mPn zG42 9) 10) 9 0 (some 10)) 11) 9 1 (some 11)) 0 5 (some 9)
theorem zc53 : gcl zS53 zG53 := (((((zc42.new 9 (0, 9, 0)).new 10 (1, 0, 64)).put 9 0 (by exact Option.some_ne_none _)).new 11 (1, 0, 8)).put 9 1 (by exact Option.some_ne_none _)).put 0 5 (by exact Option.some_ne_none _)
def zI53 : mI := cSta (mIn zI42 9)
def zS64 : mS := mTn (mTn zS53 12 (0, 0, 0)) 13 (1, 0, 4000)
def zG64 : mP := mu (mu (mPn (mPn zG53 12) 13) 12 0 (some 13)) 0 6 (some 12)
theorem zc64 : gcl zS64 zG64 := (((zc53.new 12 (0, 0, 0)).new 13 (1, 0, 4000)).put 12 0 (by exact Option.some_ne_none _)).put 0 6 (by exact Option.some_ne_none _)
def zI64 : mI := mIn (mIn zI53 12) 13
def zS91 : mS := cThS (mTn (mTn (mTn (mTn (mTn (mTn zS64 14 (0, 7, 0)) 15 (0, 1, 0)) 16 (1, 0, 8)) 17 (1, 0, 64)) 18 (8, 0, 8)) 19 (1, 0, 8)) 8
def zG91 : mP := mu (cThG (mu (mu (mu (mu (mu (mPn (mu (mPn (mu (mu (mPn (mu (mPn (mPn (mPn zG64 14) 15) 16) 15 0 (some 16)) 17) 15 1 (some 17)) 14 4 (some 15)) 18) 14 5 (some 18)) 19) 14 6 (some 19)) 14 0 (some 4)) 14 1 (some 6)) 14 2 (some 9)) 14 3 (some 12)) 8) 0 7 (some 14)
theorem zc91 : gcl zS91 zG91 := (gcl_th (((((((((((((((zc64.new 14 (0, 7, 0)).new 15 (0, 1, 0)).new 16 (1, 0, 8)).put 15 0 (by exact Option.some_ne_none _)).new 17 (1, 0, 64)).put 15 1 (by exact Option.some_ne_none _)).put 14 4 (by exact Option.some_ne_none _)).new 18 (8, 0, 8)).put 14 5 (by exact Option.some_ne_none _)).new 19 (1, 0, 8)).put 14 6 (by exact Option.some_ne_none _)).put 14 0 (by exact Option.some_ne_none _)).put 14 1 (by exact Option.some_ne_none _)).put 14 2 (by exact Option.some_ne_none _)).put 14 3 (by exact Option.some_ne_none _)) (by exact Option.some_ne_none _) 8).put 0 7 (by exact Option.some_ne_none _)
def zI91 : mI := cThI (mIn (mIn (mIn (mIn (mIn (mIn zI64 14) 15) 16) 17) 18) 19) 8
def zS110 : mS := mTn (mTn (mTn (mTn zS91 20 (0, 6, 0)) 21 (0, 1, 0)) 22 (1, 0, 8)) 23 (1, 0, 64)
def zG110 : mP := mu (mu (mu (mu (mu (mPn (mu (mPn (mPn (mPn zG91 20) 21) 22) 21 0 (some 22)) 23) 21 1 (some 23)) 20 2 (some 21)) 20 0 (some 6)) 20 1 (some 9)) 0 8 (some 20)
theorem zc110 : gcl zS110 zG110 := ((((((((((zc91.new 20 (0, 6, 0)).new 21 (0, 1, 0)).new 22 (1, 0, 8)).put 21 0 (by exact Option.some_ne_none _)).new 23 (1, 0, 64)).put 21 1 (by exact Option.some_ne_none _)).put 20 2 (by exact Option.some_ne_none _)).put 20 0 (by exact Option.some_ne_none _)).put 20 1 (by exact Option.some_ne_none _))).put 0 8 (by exact Option.some_ne_none _)
def zI110 : mI := mIn (mIn (mIn (mIn zI91 20) 21) 22) 23
section RN9
variable {p : Program} {l : Launch} {e : Env} {R : Room} {s : State} {m : MethodId} {args : Array Value} {below : List Frame} {meth : Method} {c : Code}
variable {D : va_G} {cl : List vw_C} {ty : Nat → Nat → FieldType} {b nL : Nat} {Z : State → Prop} {cells slots : Nat} {A : Nat → Nat} {Sh Sh' : mS} {S S' : mI} {G G' : mP} {lv : List (Nat × Value)} {pc : Nat} {st : List Value}
theorem rJ_nm (h1 : Sh = Sh') (h2 : S = S') (h3 : G = G') (kk : rJ p l e R s m args below meth c D cl ty b nL Z cells slots A Sh' S' G' lv pc st) : rJ p l e R s m args below meth c D cl ty b nL Z cells slots A Sh S G lv pc st := by subst h1; subst h2; subst h3; exact kk
end RN9
set_option maxHeartbeats 4000000 in
set_option maxRecDepth 100000 in
theorem cF_init {l : Launch} {D : va_G} {b : Nat} {A : Nat → Nat}  : rMet l D b yX10_init cX10_init 1 none (mRA 3 31 4412) A Z0 (fun _ _ => 0) (fun _ _ => none) [.ref (A 0)] (fun v A' Sh' S' G' => v = none ∧ A' 0 = A 0 ∧ Sh' = zS110 ∧ S' = zI110 ∧ G' = zG110) := by
  refine rMet_oz RX10 rfl (by decide) (Nat.le_of_ble_eq_true rfl) ?_
  intro p e s m args below meth c Z hZ X hnm
  refine rJ_aload_n X dX10_init_0 rfl rfl ?_
  refine rJ_objInit X koX10_1 koI koC dX10_init_1 (Nat.le_of_ble_eq_true rfl) (Nat.le_of_ble_eq_true rfl) ?_
  refine rJ_aload_n X dX10_init_4 rfl rfl ?_
  refine rJ_bipush (v := 30) X dX10_init_5 (by decide) ?_
  refine rJ_newa (N := 30) X 1 (by decide) (by decide) (by decide) (Nat.le_of_ble_eq_true rfl) (Nat.le_of_ble_eq_true rfl) dX10_init_7 rfl (Z0_gcl.no rfl) (fun a7 A7 hA7 _ => ?_)
  rw [show A 0 = A7 0 from by rw [hA7]; exact (if_neg (by omega)).symm]
  refine rJ_setR X fX10_9 (Or.inr hnm) (by rfl) dX10_init_9 (fun G9 hG9 => ?_)
  refine rJ_nm (Sh' := zS9) (S' := zI9) (G' := zG9) rfl rfl (by rw [hG9]; rfl) ?_
  refine rJ_aload_n X dX10_init_12 rfl rfl ?_
  refine rJ_new X 2 clX4 klX10_13 knX4 kzX4 (by decide) (Nat.le_of_ble_eq_true rfl) (Nat.le_of_ble_eq_true rfl) dX10_init_13 rfl (zc9.no rfl) (fun a13 A13 hA13 _ => ?_)
  rw [show A7 0 = A13 0 from by rw [hA13]; rfl]
  refine rJ_dup X dX10_init_16 rfl ?_
  refine rJ_callIN (As := []) (rm := mRA 1 1 8) X mX4_init kNX10_15 kiX4_init rfl (cR_init rfl rfl (zc9.new 2 (0, 4, 0))) rfl rfl (Nat.le_of_ble_eq_true rfl) ⟨(Nat.le_of_ble_eq_true rfl), (Nat.le_of_ble_eq_true rfl)⟩ ⟨(Nat.le_of_ble_eq_true rfl), (Nat.le_of_ble_eq_true rfl)⟩ dX10_init_17 ?_
  intro v17 A17 Sh17 S17 G17 hp17
  obtain ⟨rfl, hA17, rfl, rfl, rfl⟩ := hp17
  rw [show A13 0 = A17 0 from (hA17 0 (by exact Option.some_ne_none _)).symm, show A13 2 = A17 2 from (hA17 2 (by exact Option.some_ne_none _)).symm]
  refine rJ_setR X fX10_16 (Or.inr hnm) (by rfl) dX10_init_20 (fun G20 hG20 => ?_)
  refine rJ_nm (Sh' := zS20) (S' := zI20) (G' := zG20) rfl rfl (by rw [hG20]; rfl) ?_
  refine rJ_aload_n X dX10_init_23 rfl rfl ?_
  refine rJ_new X 4 clX3 klX10_20 knX3 kzX3 (by decide) (Nat.le_of_ble_eq_true rfl) (Nat.le_of_ble_eq_true rfl) dX10_init_24 rfl (zc20.no rfl) (fun a24 A24 hA24 _ => ?_)
  rw [show A17 0 = A24 0 from by rw [hA24]; rfl]
  refine rJ_dup X dX10_init_27 rfl ?_
  refine rJ_callIN (As := []) (rm := mRA 1 1 8) X mX3_init kNX10_22 kiX3_init rfl (cL_init rfl rfl (zc20.new 4 (0, 3, 0))) rfl rfl (Nat.le_of_ble_eq_true rfl) ⟨(Nat.le_of_ble_eq_true rfl), (Nat.le_of_ble_eq_true rfl)⟩ ⟨(Nat.le_of_ble_eq_true rfl), (Nat.le_of_ble_eq_true rfl)⟩ dX10_init_28 ?_
  intro v28 A28 Sh28 S28 G28 hp28
  obtain ⟨rfl, hA28, rfl, rfl, rfl⟩ := hp28
  rw [show A24 0 = A28 0 from (hA28 0 (by exact Option.some_ne_none _)).symm, show A24 4 = A28 4 from (hA28 4 (by exact Option.some_ne_none _)).symm]
  refine rJ_setR X fX10_23 (Or.inr hnm) (by rfl) dX10_init_31 (fun G31 hG31 => ?_)
  refine rJ_nm (Sh' := zS31) (S' := zI31) (G' := zG31) rfl rfl (by rw [hG31]; rfl) ?_
  refine rJ_aload_n X dX10_init_34 rfl rfl ?_
  refine rJ_new X 6 clX8 klX10_27 knX8 kzX8 (by decide) (Nat.le_of_ble_eq_true rfl) (Nat.le_of_ble_eq_true rfl) dX10_init_35 rfl (zc31.no rfl) (fun a35 A35 hA35 _ => ?_)
  rw [show A28 0 = A35 0 from by rw [hA35]; rfl]
  refine rJ_dup X dX10_init_38 rfl ?_
  refine rJ_callI (As := []) (rm := mRA 2 2 45) X mX8_init kX10_29 kiX8_init rfl (cP_init rfl rfl rfl (zc31.new 6 (0, 8, 0))) rfl rfl (Nat.le_of_ble_eq_true rfl) ⟨(Nat.le_of_ble_eq_true rfl), (Nat.le_of_ble_eq_true rfl)⟩ ⟨(Nat.le_of_ble_eq_true rfl), (Nat.le_of_ble_eq_true rfl)⟩ dX10_init_39 ?_
  intro v39 A39 Sh39 S39 G39 hp39
  obtain ⟨rfl, hA39, rfl, rfl, rfl⟩ := hp39
  rw [show A35 0 = A39 0 from (hA39 0 (by exact Option.some_ne_none _)).symm, show A35 6 = A39 6 from (hA39 6 (by exact Option.some_ne_none _)).symm]
  refine rJ_setR X fX10_30 (Or.inr hnm) (by rfl) dX10_init_42 (fun G42 hG42 => ?_)
  refine rJ_nm (Sh' := zS42) (S' := zI42) (G' := zG42) rfl rfl (by rw [hG42]; rfl) ?_
  refine rJ_aload_n X dX10_init_45 rfl rfl ?_
  refine rJ_new X 9 clX9 klX10_34 knX9 kzX9 (by decide) (Nat.le_of_ble_eq_true rfl) (Nat.le_of_ble_eq_true rfl) dX10_init_46 rfl (zc42.no rfl) (fun a46 A46 hA46 _ => ?_)
  rw [show A39 0 = A46 0 from by rw [hA46]; rfl]
  refine rJ_dup X dX10_init_49 rfl ?_
  refine rJ_callIN (As := []) (rm := mRA 1 2 72) X mX9_init kNX10_36 kiX9_init rfl (cS_init rfl rfl rfl (zc42.new 9 (0, 9, 0))) rfl rfl (Nat.le_of_ble_eq_true rfl) ⟨(Nat.le_of_ble_eq_true rfl), (Nat.le_of_ble_eq_true rfl)⟩ ⟨(Nat.le_of_ble_eq_true rfl), (Nat.le_of_ble_eq_true rfl)⟩ dX10_init_50 ?_
  intro v50 A50 Sh50 S50 G50 hp50
  obtain ⟨rfl, hA50, rfl, rfl, rfl⟩ := hp50
  rw [show A46 0 = A50 0 from (hA50 0 (by exact Option.some_ne_none _)).symm, show A46 9 = A50 9 from (hA50 9 (by exact Option.some_ne_none _)).symm]
  refine rJ_setR X fX10_37 (Or.inr hnm) (by rfl) dX10_init_53 (fun G53 hG53 => ?_)
  refine rJ_nm (Sh' := zS53) (S' := zI53) (G' := zG53) rfl rfl (by rw [hG53]; rfl) ?_
  refine rJ_aload_n X dX10_init_56 rfl rfl ?_
  refine rJ_new X 12 clX0 klX10_41 knX0 kzX0 (by decide) (Nat.le_of_ble_eq_true rfl) (Nat.le_of_ble_eq_true rfl) dX10_init_57 rfl (zc53.no rfl) (fun a57 A57 hA57 _ => ?_)
  rw [show A50 0 = A57 0 from by rw [hA57]; rfl]
  refine rJ_dup X dX10_init_60 rfl ?_
  refine rJ_callIN (As := []) (rm := mRA 1 1 4000) X mX0_init kNX10_43 kiX0_init rfl (cG_init rfl rfl (zc53.new 12 (0, 0, 0))) rfl rfl (Nat.le_of_ble_eq_true rfl) ⟨(Nat.le_of_ble_eq_true rfl), (Nat.le_of_ble_eq_true rfl)⟩ ⟨(Nat.le_of_ble_eq_true rfl), (Nat.le_of_ble_eq_true rfl)⟩ dX10_init_61 ?_
  intro v61 A61 Sh61 S61 G61 hp61
  obtain ⟨rfl, hA61, rfl, rfl, rfl⟩ := hp61
  rw [show A57 0 = A61 0 from (hA61 0 (by exact Option.some_ne_none _)).symm, show A57 12 = A61 12 from (hA61 12 (by exact Option.some_ne_none _)).symm]
  refine rJ_setR X fX10_44 (Or.inr hnm) (by rfl) dX10_init_64 (fun G64 hG64 => ?_)
  refine rJ_nm (Sh' := zS64) (S' := zI64) (G' := zG64) rfl rfl (by rw [hG64]; rfl) ?_
  refine rJ_aload_n X dX10_init_67 rfl rfl ?_
  refine rJ_new X 14 clX7 klX10_48 knX7 kzX7 (by decide) (Nat.le_of_ble_eq_true rfl) (Nat.le_of_ble_eq_true rfl) dX10_init_68 rfl (zc64.no rfl) (fun a68 A68 hA68 _ => ?_)
  rw [show A61 0 = A68 0 from by rw [hA68]; rfl]
  refine rJ_dup X dX10_init_71 rfl ?_
  refine rJ_aload_n X dX10_init_72 rfl rfl ?_
  refine rJ_getR X fX10_23 (by rfl) (by rfl) dX10_init_73 ?_
  refine rJ_aload_n X dX10_init_76 rfl rfl ?_
  refine rJ_getR X fX10_30 (by rfl) (by rfl) dX10_init_77 ?_
  refine rJ_aload_n X dX10_init_80 rfl rfl ?_
  refine rJ_getR X fX10_37 (by rfl) (by rfl) dX10_init_81 ?_
  refine rJ_aload_n X dX10_init_84 rfl rfl ?_
  refine rJ_getR X fX10_44 (by rfl) (by rfl) dX10_init_85 ?_
  refine rJ_callI (As := [.ref (A68 4), .ref (A68 6), .ref (A68 9), .ref (A68 12)]) (rm := mRA 2 13 146) X mX7_init kX10_50 kiX7_init rfl (cQ_init rfl rfl rfl rfl rfl (by exact Option.some_ne_none _) rfl rfl rfl rfl rfl rfl (by decide) (zc64.new 14 (0, 7, 0))) rfl rfl (Nat.le_of_ble_eq_true rfl) ⟨(Nat.le_of_ble_eq_true rfl), (Nat.le_of_ble_eq_true rfl)⟩ ⟨(Nat.le_of_ble_eq_true rfl), (Nat.le_of_ble_eq_true rfl)⟩ dX10_init_88 ?_
  intro v88 A88 Sh88 S88 G88 hp88
  obtain ⟨rfl, hA88, rfl, rfl, rfl⟩ := hp88
  rw [show A68 0 = A88 0 from (hA88 0 (by exact Option.some_ne_none _)).symm, show A68 14 = A88 14 from (hA88 14 (by exact Option.some_ne_none _)).symm]
  refine rJ_setR X fX10_53 (Or.inr hnm) (by rfl) dX10_init_91 (fun G91 hG91 => ?_)
  refine rJ_nm (Sh' := zS91) (S' := zI91) (G' := zG91) rfl rfl (by rw [hG91]; rfl) ?_
  refine rJ_aload_n X dX10_init_94 rfl rfl ?_
  refine rJ_new X 20 clX6 klX10_57 knX6 kzX6 (by decide) (Nat.le_of_ble_eq_true rfl) (Nat.le_of_ble_eq_true rfl) dX10_init_95 rfl (zc91.no rfl) (fun a95 A95 hA95 _ => ?_)
  rw [show A88 0 = A95 0 from by rw [hA95]; rfl]
  refine rJ_dup X dX10_init_98 rfl ?_
  refine rJ_aload_n X dX10_init_99 rfl rfl ?_
  refine rJ_getR X fX10_30 (by rfl) (by rfl) dX10_init_100 ?_
  refine rJ_aload_n X dX10_init_103 rfl rfl ?_
  refine rJ_getR X fX10_37 (by rfl) (by rfl) dX10_init_104 ?_
  refine rJ_callI (As := [.ref (A95 6), .ref (A95 9)]) (rm := mRA 2 3 74) X mX6_init kX10_59 kiX6_init rfl (cO_init rfl rfl rfl rfl rfl rfl (zc91.new 20 (0, 6, 0))) rfl rfl (Nat.le_of_ble_eq_true rfl) ⟨(Nat.le_of_ble_eq_true rfl), (Nat.le_of_ble_eq_true rfl)⟩ ⟨(Nat.le_of_ble_eq_true rfl), (Nat.le_of_ble_eq_true rfl)⟩ dX10_init_107 ?_
  intro v107 A107 Sh107 S107 G107 hp107
  obtain ⟨rfl, hA107, rfl, rfl, rfl⟩ := hp107
  rw [show A95 0 = A107 0 from (hA107 0 (by exact Option.some_ne_none _)).symm, show A95 20 = A107 20 from (hA107 20 (by exact Option.some_ne_none _)).symm]
  refine rJ_setR X fX10_62 (Or.inr hnm) (by rfl) dX10_init_110 (fun G110 hG110 => ?_)
  refine rJ_nm (Sh' := zS110) (S' := zI110) (G' := zG110) rfl rfl (by rw [hG110]; rfl) ?_
  exact rJ_vretZ hZ X dX10_init_113 ⟨rfl, ((hA107 0 (by exact Option.some_ne_none _)).trans ((show A95 0 = A88 0 by rw [hA95]; rfl).trans ((hA88 0 (by exact Option.some_ne_none _)).trans ((show A68 0 = A61 0 by rw [hA68]; rfl).trans ((hA61 0 (by exact Option.some_ne_none _)).trans ((show A57 0 = A50 0 by rw [hA57]; rfl).trans ((hA50 0 (by exact Option.some_ne_none _)).trans ((show A46 0 = A39 0 by rw [hA46]; rfl).trans ((hA39 0 (by exact Option.some_ne_none _)).trans ((show A35 0 = A28 0 by rw [hA35]; rfl).trans ((hA28 0 (by exact Option.some_ne_none _)).trans ((show A24 0 = A17 0 by rw [hA24]; rfl).trans ((hA17 0 (by exact Option.some_ne_none _)).trans ((show A13 0 = A7 0 by rw [hA13]; rfl).trans (show A7 0 = A 0 by rw [hA7]; rfl))))))))))))))), rfl, rfl, rfl⟩
