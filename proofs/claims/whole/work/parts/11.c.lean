set_option maxHeartbeats 4000000 in
set_option maxRecDepth 100000 in
theorem cP_atNo {l : Launch} {D : va_G} {b : Nat} {A : Nat → Nat} {Sh : mS} {S : mI} {G : mP} (h6 : Sh 6 = some (0, 8, 0)) (hs : G 6 1 = some 8) : rMet l D b yX8_at cX8_at 2 (some (.object "PipeForge$Instruction")) (mR 0) A Sh S G [.ref (A 6), .int (-1)] (rPr A Sh 8 S G) := by
  refine rMet_oz RX8 rfl (by decide) (Nat.le_of_ble_eq_true rfl) ?_
  intro p e s m args below meth c Z hZ X hnm
  refine rJ_iload_n X dX8_at_0 rfl rfl ?_
  refine rJ_if_lt (tgt := 12) X dX8_at_1 (by decide) (fun c1 => ?_) (fun c1 => ?_)
  · refine rJ_aload_n X dX8_at_12 rfl rfl ?_
    refine rJ_getR X fX8_20 h6 hs dX8_at_13 ?_
    refine rJ_goto (tgt := 25) X dX8_at_16 (by decide) ?_
    exact rJ_aretZ hZ X (Or.inl ⟨_, rfl⟩) dX8_at_25 ⟨rfl, rfl, rfl, rfl, rfl⟩
  · exact absurd (by decide) c1
def cThS (Sh : mS) (k : Nat) : mS := fun x => if 24 ≤ x ∧ x < 24 + k then some (0, 5, 0) else Sh x
def cThI (S : mI) (k : Nat) : mI := fun x y => if 24 ≤ x ∧ x < 24 + k then 0 else S x y
def cThG (G : mP) (k : Nat) : mP := fun x y => if x = 18 ∧ y < k then some (24 + y) else if 24 ≤ x ∧ x < 24 + k then (if y = 1 then some 8 else none) else G x y
theorem cThS_0 (Sh : mS) : cThS Sh 0 = Sh := by funext x; simp only [cThS]; rw [if_neg (by omega)]
theorem cThI_0 (S : mI) : cThI S 0 = S := by funext x y; simp only [cThI]; rw [if_neg (by omega)]
theorem cThG_0 (G : mP) : cThG G 0 = G := by funext x y; simp only [cThG]; rw [if_neg (by omega), if_neg (by omega)]
theorem cThS_s (Sh : mS) (k : Nat) : mTn (cThS Sh k) (24 + k) (0, 5, 0) = cThS Sh (k + 1) := by funext x; simp only [cThS, mTn]; grind
theorem cThI_s (S : mI) (k : Nat) : mIn (cThI S k) (24 + k) = cThI S (k + 1) := by funext x y; simp only [cThI, mIn]; grind
theorem cThG_s (G : mP) (k : Nat) : mu (mu (mPn (cThG G k) (24 + k)) (24 + k) 1 (some 8)) 18 k (some (24 + k)) = cThG G (k + 1) := by funext x y; simp only [cThG, mu, mPn]; grind
theorem cThS_n (Sh : mS) (k : Nat) {x : Nat} (h : x < 24 ∨ 24 + k ≤ x) : cThS Sh k x = Sh x := by simp only [cThS]; rw [if_neg (by omega)]
theorem cThG_n (G : mP) (k : Nat) {x : Nat} (h : x < 24 ∨ 24 + k ≤ x) (h2 : x ≠ 18) (y : Nat) : cThG G k x y = G x y := by simp only [cThG]; rw [if_neg (by omega), if_neg (by omega)]
section RC9
variable {p : Program} {l : Launch} {e : Env} {R : Room} {s : State} {m : MethodId} {args : Array Value} {below : List Frame} {meth : Method} {c : Code}
variable {D : va_G} {cl : List vw_C} {ty : Nat → Nat → FieldType} {b nL : Nat} {Z : State → Prop} {cells slots : Nat} {A : Nat → Nat} {Sh : mS} {S : mI} {G : mP} {lv : List (Nat × Value)} {pc : Nat} {st : List Value}
theorem rJ_ctr {k n : Nat} (h1 : k = cells) (h2 : n = slots) (kk : rJ p l e R s m args below meth c D cl ty b nL Z k n A Sh S G lv pc st) : rJ p l e R s m args below meth c D cl ty b nL Z cells slots A Sh S G lv pc st := by subst h1; subst h2; exact kk
end RC9
set_option maxHeartbeats 4000000 in
set_option maxRecDepth 100000 in
theorem cQ_init {l : Launch} {D : va_G} {b : Nat} {A : Nat → Nat} {Sh : mS} {S : mI} {G : mP} (h0 : Sh 14 = some (0, 7, 0)) (h4 : Sh 4 = some (0, 3, 0)) (h6 : Sh 6 = some (0, 8, 0)) (h9 : Sh 9 = some (0, 9, 0)) (h12 : Sh 12 = some (0, 0, 0)) (h8 : Sh 8 ≠ none) (g6 : G 6 1 = some 8) (h15 : Sh 15 = none) (h16 : Sh 16 = none) (h17 : Sh 17 = none) (h18 : Sh 18 = none) (h19 : Sh 19 = none) (hfr : ∀ j, j < 8 → Sh (24 + j) = none) (hc : gcl Sh G) : rMet l D b yX7_init cX7_init 6 none (mRA 2 13 146) A Sh S G [.ref (A 14), .ref (A 4), .ref (A 6), .ref (A 9), .ref (A 12)] (fun v A' Sh' S' G' => v = none ∧ (∀ x, Sh x ≠ none → A' x = A x) ∧ Sh' = cThS (mTn (mTn (mTn (mTn (mTn Sh 15 (0, 1, 0)) 16 (1, 0, 8)) 17 (1, 0, 64)) 18 (8, 0, 8)) 19 (1, 0, 8)) 8 ∧ S' = cThI (mIn (mIn (mIn (mIn (mIn S 15) 16) 17) 18) 19) 8 ∧ G' = cThG (mu (mu (mu (mu (mu (mPn (mu (mPn (mu (mu (mPn (mu (mPn (mPn G 15) 16) 15 0 (some 16)) 17) 15 1 (some 17)) 14 4 (some 15)) 18) 14 5 (some 18)) 19) 14 6 (some 19)) 14 0 (some 4)) 14 1 (some 6)) 14 2 (some 9)) 14 3 (some 12)) 8) := by
  refine rMet_oz RX7 rfl (by decide) (Nat.le_of_ble_eq_true rfl) ?_
  intro p e s m args below meth c Z hZ X hnm
  have loop : ∀ (f k : Nat) (B : Nat → Nat) (T : mS) (H : mP), (∀ x, Sh x ≠ none → B x = A x) → T = cThS (mTn (mTn (mTn (mTn (mTn Sh 15 (0, 1, 0)) 16 (1, 0, 8)) 17 (1, 0, 64)) 18 (8, 0, 8)) 19 (1, 0, 8)) k → H = cThG (mu (mu (mu (mu (mu (mPn (mu (mPn (mu (mu (mPn (mu (mPn (mPn G 15) 16) 15 0 (some 16)) 17) 15 1 (some 17)) 14 4 (some 15)) 18) 14 5 (some 18)) 19) 14 6 (some 19)) 14 0 (some 4)) 14 1 (some 6)) 14 2 (some 9)) 14 3 (some 12)) k → gcl T H → k ≤ 8 → 8 - k < f → rJ p l e (mRA 2 13 146) s m args below meth c D vwCl mty b 6 Z (5 + k) (90 + 7 * k) B T (cThI (mIn (mIn (mIn (mIn (mIn S 15) 16) 17) 18) 19) k) H [(0, .ref (B 14)), (2, .ref (B 6)), (5, .int (nI k))] 56 [] := by
    intro f
    induction f with
    | zero => intro k B T H hB hT hH hcl h1 h3; exact absurd h3 (by omega)
    | succ f ih =>
      intro k B T H hB hT hH hcl h1 h3
      have hs14 : T 14 = some (0, 7, 0) := by rw [hT, cThS_n _ _ (by omega)]; exact h0
      have hs18 : T 18 = some (8, 0, 8) := by rw [hT, cThS_n _ _ (by omega)]; rfl
      have hs6 : T 6 = some (0, 8, 0) := by rw [hT, cThS_n _ _ (by omega)]; exact h6
      have hs8 : T 8 ≠ none := by rw [hT, cThS_n _ _ (by omega)]; exact h8
      have hg18 : H 14 5 = some 18 := by rw [hH, cThG_n _ _ (by omega) (by decide)]; rfl
      have hg6 : H 6 1 = some 8 := by rw [hH, cThG_n _ _ (by omega) (by decide)]; simp [mu, mPn, g6]
      refine rJ_iload X dX7_init_56 rfl ?_
      refine rJ_bipush (v := 8) X dX7_init_58 (by decide) ?_
      refine rJ_icmp_ge (tgt := 88) X dX7_init_60 (by decide) (fun a1 => ?_) (fun a1 => ?_)
      · rw [show (8 : Int32) = nI 8 from rfl, nI_leI (by omega) (by omega)] at a1
        exact rJ_ctr (show 13 = 5 + k by omega) (show 146 = 90 + 7 * k by omega) (rJ_vretZ hZ X dX7_init_88 ⟨rfl, hB, by rw [hT, show k = 8 by omega], by rw [show k = 8 by omega], by rw [hH, show k = 8 by omega]⟩)
      · rw [show (8 : Int32) = nI 8 from rfl, nI_leI (by omega) (by omega)] at a1
        refine rJ_aload_n X dX7_init_63 rfl rfl ?_
        refine rJ_getR X fX7_20 hs14 hg18 dX7_init_64 ?_
        refine rJ_iload X dX7_init_67 rfl ?_
        have hfk : T (24 + k) = none := by rw [hT, cThS_n _ _ (Or.inr (Nat.le_refl _))]; simp only [mTn]; rw [if_neg (by omega), if_neg (by omega), if_neg (by omega), if_neg (by omega), if_neg (by omega)]; exact hfr k (by omega)
        refine rJ_wide (k := 5 + k) (n := 90 + 7 * k) (by omega) (by omega) ?_
        refine rJ_new X (24 + k) clX5 klX7_18 knX5 kzX5 (by decide) (show 5 + k + 1 ≤ 13 by omega) (show 90 + 7 * k + 7 ≤ 146 by omega) dX7_init_69 hfk (hcl.no hfk) (fun a69 B69 hB69 _ => ?_)
        rw [show B 14 = B69 14 from by rw [hB69]; exact (if_neg (by omega)).symm, show B 18 = B69 18 from by rw [hB69]; exact (if_neg (by omega)).symm, show B 6 = B69 6 from by rw [hB69]; exact (if_neg (by omega)).symm]
        refine rJ_dup X dX7_init_72 rfl ?_
        refine rJ_aload_n X dX7_init_73 rfl rfl ?_
        refine rJ_iconst (v := (-1)) X dX7_init_74 (by decide) ?_
        refine rJ_callV (As := [.int (-1)]) (rm := mR 0) X gX7_44 (cP_atNo (by show (if 6 = 24 + k then _ else T 6) = _; rw [if_neg (by omega)]; exact hs6) (by show (if 6 = 24 + k then none else H 6 1) = _; rw [if_neg (by omega)]; exact hg6)) (by show (if 6 = 24 + k then _ else T 6) = _; rw [if_neg (by omega)]; exact hs6) rfl rfl (Nat.le_of_ble_eq_true rfl) ⟨(Nat.le_of_ble_eq_true rfl), (Nat.le_of_ble_eq_true rfl)⟩ ⟨by show 5 + k + 1 + 0 ≤ 13; omega, by show 90 + 7 * k + 7 + 0 ≤ 146; omega⟩ dX7_init_75 ?_
        intro v75 A75 Sh75 S75 G75 hp75
        obtain ⟨rfl, rfl, rfl, rfl, rfl⟩ := hp75
        refine rJ_callI (As := [.ref (A75 8)]) (rm := mR 1) X mX5_init kX7_50 kiX5_init rfl (cT_init (r := 24 + k) (q := 8) (by simp [mTn])) rfl rfl (Nat.le_of_ble_eq_true rfl) ⟨(Nat.le_of_ble_eq_true rfl), (Nat.le_of_ble_eq_true rfl)⟩ ⟨by show 5 + k + 1 + 0 + 0 ≤ 13; omega, by show 90 + 7 * k + 7 + 0 + 0 ≤ 146; omega⟩ dX7_init_78 ?_
        intro v78 A78 Sh78 S78 G78 hp78
        obtain ⟨rfl, rfl, rfl, rfl, rfl⟩ := hp78
        refine rJ_aastK (k := k) (j := 5) (q := 24 + k) X rfl ⟨show k < 8 by omega, by decide⟩ (show (if 18 = 24 + k then _ else T 18) = some (8, 0, 8) by rw [if_neg (by omega)]; exact hs18) (by simp [mTn]) dX7_init_81 (fun G81 hG81 => ?_)
        refine rJ_inc (n := 1) (w := 1) X dX7_init_82 rfl (by decide) (by decide) ?_
        rw [nI_1 k]
        refine rJ_goto (tgt := 56) X dX7_init_85 (by decide) ?_
        refine rJ_eqS (S' := cThI (mIn (mIn (mIn (mIn (mIn S 15) 16) 17) 18) 19) (k + 1)) (cThI_s _ _).symm ?_
        refine rJ_wide (k := 5 + (k + 1)) (n := 90 + 7 * (k + 1)) (show 5 + k + 1 + 0 + 0 ≤ 5 + (k + 1) by omega) (show 90 + 7 * k + 7 + 0 + 0 ≤ 90 + 7 * (k + 1) by omega) ?_
        refine rJ_lv _ rfl (ih (k + 1) _ _ _ (fun x hx => by rw [hB69]; show (if x = 24 + k then _ else B x) = _; rw [if_neg (fun e => hx (by rw [e]; exact hfr k (by omega)))]; exact hB x hx) (by rw [hT, cThS_s]) (by rw [hG81, hH, cThG_s]) ?_ (by omega) (by omega))
        rw [hG81]
        exact ((hcl.new (24 + k) (0, 5, 0)).put (24 + k) 1 (by show (if 8 = 24 + k then _ else T 8) ≠ none; rw [if_neg (by omega)]; exact hs8)).put 18 k (by simp [mTn])
  refine rJ_aload_n X dX7_init_0 rfl rfl ?_
  refine rJ_objInit X koX7_3 koI koC dX7_init_1 (Nat.le_of_ble_eq_true rfl) (Nat.le_of_ble_eq_true rfl) ?_
  refine rJ_aload_n X dX7_init_4 rfl rfl ?_
  refine rJ_new X 15 clX1 klX7_9 knX1 kzX1 (by decide) (Nat.le_of_ble_eq_true rfl) (Nat.le_of_ble_eq_true rfl) dX7_init_5 h15 (hc.no h15) (fun a5 A5 hA5 _ => ?_)
  rw [show A 14 = A5 14 from by rw [hA5]; rfl, show A 4 = A5 4 from by rw [hA5]; rfl, show A 6 = A5 6 from by rw [hA5]; rfl, show A 9 = A5 9 from by rw [hA5]; rfl, show A 12 = A5 12 from by rw [hA5]; rfl]
  refine rJ_dup X dX7_init_8 rfl ?_
  refine rJ_callIN (As := []) (rm := mRA 1 2 72) X mX1_init kNX7_11 kiX1_init rfl (cH_init (r := 15) (r1 := 16) (r2 := 17) (by decide) rfl (show mTn Sh 15 (0, 1, 0) 16 = none from h16) (show mTn Sh 15 (0, 1, 0) 17 = none from h17) (hc.new _ _)) rfl rfl (Nat.le_of_ble_eq_true rfl) ⟨(Nat.le_of_ble_eq_true rfl), (Nat.le_of_ble_eq_true rfl)⟩ ⟨(Nat.le_of_ble_eq_true rfl), (Nat.le_of_ble_eq_true rfl)⟩ dX7_init_9 ?_
  intro v9 A9 Sh9 S9 G9 hp9
  obtain ⟨rfl, hA9, rfl, hS9, rfl⟩ := hp9
  have hc9 : gcl (mTn (mTn (mTn Sh 15 (0, 1, 0)) 16 (1, 0, 8)) 17 (1, 0, 64)) (mu (mPn (mu (mPn (mPn G 15) 16) 15 0 (some 16)) 17) 15 1 (some 17)) := ((((hc.new 15 (0, 1, 0)).new 16 (1, 0, 8)).put 15 0 (by exact Option.some_ne_none _)).new 17 (1, 0, 64)).put 15 1 (by exact Option.some_ne_none _)
  rw [show A5 14 = A9 14 from (hA9 14 (by rw [show mTn Sh 15 (0, 1, 0) 14 = some (0, 7, 0) from h0]; exact Option.some_ne_none _)).symm, show A5 4 = A9 4 from (hA9 4 (by rw [show mTn Sh 15 (0, 1, 0) 4 = some (0, 3, 0) from h4]; exact Option.some_ne_none _)).symm, show A5 6 = A9 6 from (hA9 6 (by rw [show mTn Sh 15 (0, 1, 0) 6 = some (0, 8, 0) from h6]; exact Option.some_ne_none _)).symm, show A5 9 = A9 9 from (hA9 9 (by rw [show mTn Sh 15 (0, 1, 0) 9 = some (0, 9, 0) from h9]; exact Option.some_ne_none _)).symm, show A5 12 = A9 12 from (hA9 12 (by rw [show mTn Sh 15 (0, 1, 0) 12 = some (0, 0, 0) from h12]; exact Option.some_ne_none _)).symm]
  rw [show A5 15 = A9 15 from (hA9 15 (by exact Option.some_ne_none _)).symm]
  refine rJ_setR X fX7_12 (Or.inr hnm) (by first | rfl | exact h0) dX7_init_12 (fun G12 hG12 => ?_)
  refine rJ_aload_n X dX7_init_15 rfl rfl ?_
  refine rJ_bipush (v := 8) X dX7_init_16 (by decide) ?_
  have hc12 : gcl (mTn (mTn (mTn Sh 15 (0, 1, 0)) 16 (1, 0, 8)) 17 (1, 0, 64)) G12 := by rw [hG12]; exact hc9.put 14 4 (by exact Option.some_ne_none _)
  refine rJ_newq (N := 8) (j := 5) X 18 rfl klX7_18 (fun U h => h.2.2.1) (by decide) (by decide) (by decide) (Nat.le_of_ble_eq_true rfl) (Nat.le_of_ble_eq_true rfl) dX7_init_18 h18 (hc12.no h18) (fun a18 A18 hA18 _ => ?_)
  rw [show A9 14 = A18 14 from by rw [hA18]; rfl, show A9 4 = A18 4 from by rw [hA18]; rfl, show A9 6 = A18 6 from by rw [hA18]; rfl, show A9 9 = A18 9 from by rw [hA18]; rfl, show A9 12 = A18 12 from by rw [hA18]; rfl]
  refine rJ_setR X fX7_20 (Or.inr hnm) (by first | rfl | exact h0) dX7_init_21 (fun G21 hG21 => ?_)
  refine rJ_aload_n X dX7_init_24 rfl rfl ?_
  refine rJ_bipush (v := 8) X dX7_init_25 (by decide) ?_
  have hc21 : gcl (mTn (mTn (mTn (mTn Sh 15 (0, 1, 0)) 16 (1, 0, 8)) 17 (1, 0, 64)) 18 (8, 0, 8)) G21 := by rw [hG21]; exact (hc12.new 18 (8, 0, 8)).put 14 5 (by exact Option.some_ne_none _)
  refine rJ_newa (N := 8) X 19 (by decide) (by decide) (by decide) (Nat.le_of_ble_eq_true rfl) (Nat.le_of_ble_eq_true rfl) dX7_init_27 h19 (hc21.no h19) (fun a27 A27 hA27 _ => ?_)
  rw [show A18 14 = A27 14 from by rw [hA27]; rfl, show A18 4 = A27 4 from by rw [hA27]; rfl, show A18 6 = A27 6 from by rw [hA27]; rfl, show A18 9 = A27 9 from by rw [hA27]; rfl, show A18 12 = A27 12 from by rw [hA27]; rfl]
  refine rJ_setR X fX7_24 (Or.inr hnm) (by first | rfl | exact h0) dX7_init_29 (fun G29 hG29 => ?_)
  refine rJ_aload_n X dX7_init_32 rfl rfl ?_
  refine rJ_aload_n X dX7_init_33 rfl rfl ?_
  refine rJ_setR X fX7_28 (Or.inr hnm) (by first | rfl | exact h0) dX7_init_34 (fun G34 hG34 => ?_)
  refine rJ_aload_n X dX7_init_37 rfl rfl ?_
  refine rJ_aload_n X dX7_init_38 rfl rfl ?_
  refine rJ_setR X fX7_32 (Or.inr hnm) (by first | rfl | exact h0) dX7_init_39 (fun G39 hG39 => ?_)
  refine rJ_aload_n X dX7_init_42 rfl rfl ?_
  refine rJ_aload_n X dX7_init_43 rfl rfl ?_
  refine rJ_setR X fX7_36 (Or.inr hnm) (by first | rfl | exact h0) dX7_init_44 (fun G44 hG44 => ?_)
  refine rJ_aload_n X dX7_init_47 rfl rfl ?_
  refine rJ_aload X dX7_init_48 rfl ?_
  refine rJ_setR X fX7_40 (Or.inr hnm) (by first | rfl | exact h0) dX7_init_50 (fun G50 hG50 => ?_)
  refine rJ_iconst (v := 0) X dX7_init_53 (by decide) ?_
  refine rJ_istore X dX7_init_54 (by decide) ?_
  have hc48 : gcl (mTn (mTn (mTn (mTn (mTn Sh 15 (0, 1, 0)) 16 (1, 0, 8)) 17 (1, 0, 64)) 18 (8, 0, 8)) 19 (1, 0, 8)) G50 := by rw [hG50, hG44, hG39, hG34, hG29]; exact (((((hc21.new 19 (1, 0, 8)).put 14 6 (by exact Option.some_ne_none _)).put 14 0 (by rw [show (mTn (mTn (mTn (mTn (mTn Sh 15 (0, 1, 0)) 16 (1, 0, 8)) 17 (1, 0, 64)) 18 (8, 0, 8)) 19 (1, 0, 8)) 4 = some (0, 3, 0) from h4]; exact Option.some_ne_none _)).put 14 1 (by rw [show (mTn (mTn (mTn (mTn (mTn Sh 15 (0, 1, 0)) 16 (1, 0, 8)) 17 (1, 0, 64)) 18 (8, 0, 8)) 19 (1, 0, 8)) 6 = some (0, 8, 0) from h6]; exact Option.some_ne_none _)).put 14 2 (by rw [show (mTn (mTn (mTn (mTn (mTn Sh 15 (0, 1, 0)) 16 (1, 0, 8)) 17 (1, 0, 64)) 18 (8, 0, 8)) 19 (1, 0, 8)) 9 = some (0, 9, 0) from h9]; exact Option.some_ne_none _)).put 14 3 (by rw [show (mTn (mTn (mTn (mTn (mTn Sh 15 (0, 1, 0)) 16 (1, 0, 8)) 17 (1, 0, 64)) 18 (8, 0, 8)) 19 (1, 0, 8)) 12 = some (0, 0, 0) from h12]; exact Option.some_ne_none _)
  have hA : ∀ x, Sh x ≠ none → A27 x = A x := fun x hx => by
    rw [hA27]
    show (if x = 19 then _ else A18 x) = _
    rw [if_neg (fun e => hx (by rw [e]; exact h19)), hA18]
    show (if x = 18 then _ else A9 x) = _
    rw [if_neg (fun e => hx (by rw [e]; exact h18)), hA9 x (fun e => hx (by by_cases e2 : x = 15 <;> first | (rw [e2]; exact h15) | exact (if_neg e2).symm.trans e)), hA5]
    exact if_neg (fun e => hx (by rw [e]; exact h15))
  refine rJ_eqS (S' := cThI (mIn (mIn (mIn (mIn (mIn S 15) 16) 17) 18) 19) 0) (by rw [hS9, cThI_0]) ?_
  exact rJ_lv _ rfl (loop 9 0 A27 (mTn (mTn (mTn (mTn (mTn Sh 15 (0, 1, 0)) 16 (1, 0, 8)) 17 (1, 0, 64)) 18 (8, 0, 8)) 19 (1, 0, 8)) G50 hA (cThS_0 _).symm (by rw [hG50, hG44, hG39, hG34, hG29, hG21, hG12, cThG_0]) hc48 (by omega) (by omega))
