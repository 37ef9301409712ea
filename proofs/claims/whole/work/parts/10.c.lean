/-- what the one-by-one commits -/
def oW (S : mI) (q : Nat) (x : Int32) : Int32 := if S q 0 = 6 then (x + S q 4) &&& 63 else if S q 0 = 8 then 0 else S q 1
def oV (S : mI) (q : Nat) (x y : Int32) : Int32 := if S q 0 = 5 then S 23 ((x + S q 4) &&& 63).toNatClampNeg else cWork (S q 0) (S q 4) x y
def oT (S : mI) (q : Nat) (x y : Int32) : mI := cTake S 22 23 (S q 0) (oW S q x) (oV S q x y)
theorem oT_n (S : mI) (q : Nat) (x y : Int32) {z : Nat} (h1 : z ≠ 22) (h2 : z ≠ 23) : oT S q x y z = S z := cTake_n _ _ _ _ _ _ h1 h2
set_option maxHeartbeats 4000000 in
set_option maxRecDepth 100000 in
theorem cO_commitsAs {l : Launch} {D : va_G} {b : Nat} {A : Nat → Nat} {Sh : mS} {S : mI} {G : mP} (hw : okC Sh G) {kp : Nat} (hk : S 12 1 = nI kp) (hk1 : kp ≤ 1000) {q : Nat} (hq : Sh q = some (0, 2, 0)) (hI : iD (S q 0) (S q 1)) (hqr : q = 8 ∨ 32 ≤ q) {j : Nat} (hj : j < 2147483648) (x y : Int32) : rMet l D b yX6_commitsAs cX6_commitsAs 8 (some .boolean) (mR 3) A Sh S G [.ref (A 20), .ref (A 12), .int (nI j), .ref (A q), .int x, .int y] (rPi A Sh (if cHolds S kp j (cWk S q) (oW S q x) (oV S q x y) then 1 else 0) (oT S q x y) G) := by
  refine rMet_oz RX6 rfl (by decide) (Nat.le_of_ble_eq_true rfl) ?_
  intro p e s m args below meth c Z hZ X hnm
  have hkT : oT S q x y 12 1 = nI kp := by rw [oT_n _ _ _ _ (by decide) (by decide)]; exact hk
  have hqT : oT S q x y q 0 = S q 0 := by rw [oT_n _ _ _ _ (by omega) (by omega)]
  have h13 : oT S q x y 13 = S 13 := oT_n _ _ _ _ (by decide) (by decide)
  have K42 : rJ p l e (mR 3) s m args below meth c D vwCl mty b 8 Z 0 0 A Sh S G [(0, .ref (A 20)), (1, .ref (A 12)), (2, .int (nI j)), (3, .ref (A q)), (4, .int x), (5, .int y), (6, .int (oW S q x)), (7, .int (oV S q x y))] 42 [] := by
    refine rJ_aload_n X dX6_commitsAs_42 rfl rfl ?_
    refine rJ_getR X fX6_12 (by first | exact hw.1 _ _ rfl | assumption) (by first | exact hw.2 _ _ _ rfl | assumption) dX6_commitsAs_43 ?_
    refine rJ_aload_n X dX6_commitsAs_46 rfl rfl ?_
    refine rJ_iload X dX6_commitsAs_47 rfl ?_
    refine rJ_iload X dX6_commitsAs_49 rfl ?_
    refine rJ_Vv3 X gX6_86 (cH_take (r := 21) (r1 := 22) (r2 := 23) (hw.1 _ _ rfl) (hw.2 _ _ _ rfl) (hw.2 _ _ _ rfl) (hw.1 _ _ rfl) (hw.1 _ _ rfl) hq hI _ _) (by first | exact hw.1 _ _ rfl | assumption) dX6_commitsAs_51 (by decide) (Nat.le_of_ble_eq_true rfl) ⟨Nat.le_refl _, Nat.le_refl _⟩ ?_
    refine rJ_eqS (S' := oT S q x y) rfl ?_
    refine rJ_aload_n X dX6_commitsAs_54 rfl rfl ?_
    refine rJ_iload_n X dX6_commitsAs_55 rfl rfl ?_
    refine rJ_aload_n X dX6_commitsAs_56 rfl rfl ?_
    refine rJ_Vi0 X gX6_90 (cI_commitKind hq) (by first | exact hw.1 _ _ rfl | assumption) dX6_commitsAs_57 (by decide) (Nat.le_of_ble_eq_true rfl) ⟨Nat.le_refl _, Nat.le_refl _⟩ ?_
    rw [hqT]
    refine rJ_iload X dX6_commitsAs_60 rfl ?_
    refine rJ_iload X dX6_commitsAs_62 rfl ?_
    refine rJ_Vi4 X gX6_93 (cG_holds hw hkT hk1 hj _ _ _) (by first | exact hw.1 _ _ rfl | assumption) dX6_commitsAs_64 (by decide) (Nat.le_of_ble_eq_true rfl) ⟨Nat.le_refl _, Nat.le_refl _⟩ ?_
    exact rJ_zretZ hZ X dX6_commitsAs_67 z_n ⟨by simp only [cHolds, h13], rfl, rfl, rfl, rfl⟩
  have K40 : rJ p l e (mR 3) s m args below meth c D vwCl mty b 8 Z 0 0 A Sh S G [(0, .ref (A 20)), (1, .ref (A 12)), (2, .int (nI j)), (3, .ref (A q)), (4, .int x), (5, .int y), (6, .int (oW S q x))] 40 [.int (oV S q x y)] := by
    refine rJ_istore X dX6_commitsAs_40 (by decide) ?_
    exact rJ_lv _ rfl K42
  refine rJ_aload_n X dX6_commitsAs_0 rfl rfl ?_
  refine rJ_iload X dX6_commitsAs_1 rfl ?_
  refine rJ_Vi1 X gX6_73 (cI_commitsWhere hq _) (by first | exact hw.1 _ _ rfl | assumption) dX6_commitsAs_3 (by decide) (Nat.le_of_ble_eq_true rfl) ⟨Nat.le_refl _, Nat.le_refl _⟩ ?_
  refine rJ_as (oW S q x) rfl ?_
  refine rJ_istore X dX6_commitsAs_6 (by decide) ?_
  refine rJ_aload_n X dX6_commitsAs_8 rfl rfl ?_
  refine rJ_Vi0 X gX6_43 (cI_kind hq) (by first | exact hw.1 _ _ rfl | assumption) dX6_commitsAs_9 (by decide) (Nat.le_of_ble_eq_true rfl) ⟨Nat.le_refl _, Nat.le_refl _⟩ ?_
  refine rJ_iconst (v := 5) X dX6_commitsAs_12 (by decide) ?_
  refine rJ_icmp_ne (tgt := 32) X dX6_commitsAs_13 (by decide) (fun c1 => ?_) (fun c1 => ?_)
  · refine rJ_aload_n X dX6_commitsAs_32 rfl rfl ?_
    refine rJ_iload X dX6_commitsAs_33 rfl ?_
    refine rJ_iload X dX6_commitsAs_35 rfl ?_
    refine rJ_Vi2 X gX6_82 (cI_workedOut hq _ _) (by first | exact hw.1 _ _ rfl | assumption) dX6_commitsAs_37 (by decide) (Nat.le_of_ble_eq_true rfl) ⟨Nat.le_refl _, Nat.le_refl _⟩ ?_
    refine rJ_as (oV S q x y) (by first | rw [if_pos (pl_lt _), oV, if_pos c1] | rw [oV, if_neg c1]) ?_
    exact rJ_lv _ rfl K40
  · refine rJ_aload_n X dX6_commitsAs_16 rfl rfl ?_
    refine rJ_getR X fX6_12 (by first | exact hw.1 _ _ rfl | assumption) (by first | exact hw.2 _ _ _ rfl | assumption) dX6_commitsAs_17 ?_
    refine rJ_aload_n X dX6_commitsAs_20 rfl rfl ?_
    refine rJ_iload X dX6_commitsAs_21 rfl ?_
    refine rJ_Vi1 X gX6_76 (cI_placeFrom hq _) (by first | exact hw.1 _ _ rfl | assumption) dX6_commitsAs_23 (by decide) (Nat.le_of_ble_eq_true rfl) ⟨Nat.le_refl _, Nat.le_refl _⟩ ?_
    refine rJ_Vi1 X gX6_79 (cH_atPlace (r := 21) (r1 := 22) (r2 := 23) (hw.1 _ _ rfl) (hw.2 _ _ _ rfl) (hw.2 _ _ _ rfl) (hw.1 _ _ rfl) (hw.1 _ _ rfl) _) (by first | exact hw.1 _ _ rfl | assumption) dX6_commitsAs_26 (by decide) (Nat.le_of_ble_eq_true rfl) ⟨Nat.le_refl _, Nat.le_refl _⟩ ?_
    refine rJ_goto (tgt := 40) X dX6_commitsAs_29 (by decide) ?_
    refine rJ_as (oV S q x y) (by first | rw [if_pos (pl_lt _), oV, if_pos c1] | rw [oV, if_neg c1]) ?_
    exact rJ_lv _ rfl K40
