theorem cTake_n (S : mI) (r1 r2 : Nat) (kd w v : Int32) {x : Nat} (h1 : x ≠ r1) (h2 : x ≠ r2) : cTake S r1 r2 kd w v x = S x := by
  unfold cTake
  split
  · exact mu_row _ _ _ h2
  · split
    · exact mu_row _ _ _ h1
    · rfl
theorem cAdd_n (S : mI) (kp : Nat) (a1 a2 a3 a4 : Int32) {x : Nat} (h1 : x ≠ 12) (h2 : x ≠ 13) : cAdd S kp a1 a2 a3 a4 x = S x := by
  unfold cAdd
  split
  · rw [mu_row _ _ _ h1, mu_row _ _ _ h2, mu_row _ _ _ h2, mu_row _ _ _ h2, mu_row _ _ _ h2, mu_row _ _ _ h1]
  · exact mu_row _ _ _ h1
theorem pl_lt (x : Int32) : 0 ≤ x &&& 63 ∧ x &&& 63 < 64 := by
  obtain ⟨j, hj, e⟩ := pk_andE x (m := 63) 6 rfl
  rw [e, show (64 : Int32) = nI 64 from rfl]
  exact ⟨nI_pos' (by omega), nI_lt hj (by decide)⟩
set_option maxHeartbeats 4000000 in
set_option maxRecDepth 100000 in
theorem cQ_finish {l : Launch} {D : va_G} {b : Nat} {A : Nat → Nat} {Sh : mS} {S : mI} {G : mP} (hw : okC Sh G) (ht : okT Sh S G) {s0 : Nat} (hlt : s0 < 8) {kp : Nat} (hk : S 12 1 = nI kp) (hk1 : kp ≤ 1000) (hd : iD (S (roG G (thG G s0)) 0) (S (roG G (thG G s0)) 1)) : rMet l D b yX7_finish cX7_finish 4 none (mR 4) A Sh S G [.ref (A 14), .ref (A (thG G s0))] (rPv A Sh (cFin S kp (thG G s0) (roG G (thG G s0))) G) := by
  refine rMet_oz RX7 rfl (by decide) (Nat.le_of_ble_eq_true rfl) ?_
  intro p e s m args below meth c Z hZ X hnm
  have htr := ht.r (k := s0) (by omega)
  have hqr := (ht.1 s0 (by omega)).2.2.2.2.2.1
  have hqt : (roG G (thG G s0)) ≠ (thG G s0) := by omega
  have K256 : S (roG G (thG G s0)) 0 = 6 → rJ p l e (mR 4) s m args below meth c D vwCl mty b 4 Z 0 0 A Sh S G [(0, .ref (A 14)), (1, .ref (A (thG G s0))), (2, .ref (A (roG G (thG G s0))))] 25 [] := by
    intro hk6
    refine rJ_aload_n X dX7_finish_25 rfl rfl ?_
    refine rJ_Vi0 X gX7_229 (cT_commitsWhere (ht.t (by omega)) (ht.w (by omega)) (ht.q (by omega))) (ht.t (by omega)) dX7_finish_26 (by decide) (Nat.le_of_ble_eq_true rfl) ⟨Nat.le_refl _, Nat.le_refl _⟩ ?_
    refine rJ_istore_n X dX7_finish_29 rfl (by decide) ?_
    refine rJ_aload_n X dX7_finish_30 rfl rfl ?_
    refine rJ_getR X fX7_12 (by first | exact hw.1 _ _ rfl | assumption) (by first | exact hw.2 _ _ _ rfl | assumption) dX7_finish_31 ?_
    refine rJ_aload_n X dX7_finish_34 rfl rfl ?_
    refine rJ_iload_n X dX7_finish_35 rfl rfl ?_
    refine rJ_aload_n X dX7_finish_36 rfl rfl ?_
    refine rJ_Vi0 X gX7_220 (cT_worth (ht.t (by omega))) (ht.t (by omega)) dX7_finish_37 (by decide) (Nat.le_of_ble_eq_true rfl) ⟨Nat.le_refl _, Nat.le_refl _⟩ ?_
    refine rJ_Vv3 X gX7_232 (cH_take (r := 15) (r1 := 16) (r2 := 17) (hw.1 _ _ rfl) (hw.2 _ _ _ rfl) (hw.2 _ _ _ rfl) (hw.1 _ _ rfl) (hw.1 _ _ rfl) (ht.q (by omega)) hd _ _) (hw.1 _ _ rfl) dX7_finish_40 (by decide) (Nat.le_of_ble_eq_true rfl) ⟨Nat.le_refl _, Nat.le_refl _⟩ ?_
    refine rJ_nS (fun U hU => ?_)
    have hU12 : U 12 = S 12 := by rw [hU]; exact cTake_n _ _ _ _ _ _ (by decide) (by decide)
    have hUq : U (roG G (thG G s0)) = S (roG G (thG G s0)) := by rw [hU]; exact cTake_n _ _ _ _ _ _ (by omega) (by omega)
    have hUt : U (thG G s0) = S (thG G s0) := by rw [hU]; exact cTake_n _ _ _ _ _ _ (by omega) (by omega)
    have hU14 : U 14 = S 14 := by rw [hU]; exact cTake_n _ _ _ _ _ _ (by decide) (by decide)
    refine rJ_aload_n X dX7_finish_43 rfl rfl ?_
    refine rJ_getR X fX7_40 (by first | exact hw.1 _ _ rfl | assumption) (by first | exact hw.2 _ _ _ rfl | assumption) dX7_finish_44 ?_
    refine rJ_aload_n X dX7_finish_47 rfl rfl ?_
    refine rJ_Vi0 X gX7_236 (cI_commitKind (ht.q (by omega))) (ht.q (by omega)) dX7_finish_48 (by decide) (Nat.le_of_ble_eq_true rfl) ⟨Nat.le_refl _, Nat.le_refl _⟩ ?_
    refine rJ_iload_n X dX7_finish_51 rfl rfl ?_
    refine rJ_aload_n X dX7_finish_52 rfl rfl ?_
    refine rJ_Vi0 X gX7_220 (cT_worth (ht.t (by omega))) (ht.t (by omega)) dX7_finish_53 (by decide) (Nat.le_of_ble_eq_true rfl) ⟨Nat.le_refl _, Nat.le_refl _⟩ ?_
    refine rJ_aload_n X dX7_finish_56 rfl rfl ?_
    refine rJ_getI X fX7_79 (by first | exact hw.1 _ _ rfl | assumption) dX7_finish_57 ?_
    refine rJ_Vv4 X gX7_239 (cG_add hw (by rw [hU12]; exact hk) hk1 _ _ _ _) (hw.1 _ _ rfl) dX7_finish_60 (by decide) (Nat.le_of_ble_eq_true rfl) ⟨Nat.le_refl _, Nat.le_refl _⟩ ?_
    rw [hUq, hUt, hU14]
    refine rJ_nS (fun V hV => ?_)
    have hVq : V (roG G (thG G s0)) = S (roG G (thG G s0)) := by rw [hV, cAdd_n _ _ _ _ _ _ (by omega) (by omega)]; exact hUq
    have hV14 : V 14 = S 14 := by rw [hV, cAdd_n _ _ _ _ _ _ (by decide) (by decide)]; exact hU14
    refine rJ_aload_n X dX7_finish_63 rfl rfl ?_
    refine rJ_Vi0 X gX7_127 (cI_kind (ht.q (by omega))) (ht.q (by omega)) dX7_finish_64 (by decide) (Nat.le_of_ble_eq_true rfl) ⟨Nat.le_refl _, Nat.le_refl _⟩ ?_
    refine rJ_bipush (v := 6) X dX7_finish_67 (by decide) ?_
    refine rJ_icmp_ne (tgt := 80) X dX7_finish_69 (by decide) (fun a1 => ?_) (fun a1 => ?_)
    · rw [hVq] at a1
      exact absurd hk6 a1
    · rw [hVq] at a1
      refine rJ_aload_n X dX7_finish_72 rfl rfl ?_
      refine rJ_aload_n X dX7_finish_73 rfl rfl ?_
      refine rJ_getI X fX7_79 (by first | exact hw.1 _ _ rfl | assumption) dX7_finish_74 ?_
      refine rJ_setI X fX7_72 (Or.inl fwX7_72) (by first | exact hw.1 _ _ rfl | assumption) ⟨rfl, rfl⟩ dX7_finish_77 (fun S77 hS77 => ?_)
      refine rJ_aload_n X dX7_finish_80 rfl rfl ?_
      refine rJ_Vi0 X gX7_243 (cI_commitsRegister (ht.q (by omega)) (by first | (rw [hVq]; exact hd) | (rw [hS77, mu_row _ _ _ (by omega), hVq]; exact hd))) (ht.q (by omega)) dX7_finish_81 (by decide) (Nat.le_of_ble_eq_true rfl) ⟨Nat.le_refl _, Nat.le_refl _⟩ ?_
      refine rJ_if_eq (tgt := 104) X dX7_finish_84 (by decide) (fun a2 => ?_) (fun a2 => ?_)
      · try replace a2 := z_f a2
        exact rJ_vretZ hZ X dX7_finish_104 ⟨rfl, rfl, rfl, by rw [hS77, hV14, hV, hU]; simp [cFin, cTake, cWh, hk6, pl_lt (S (thG G s0) 2 + S (roG G (thG G s0)) 4)], rfl⟩
      · try replace a2 := z_t a2
        exact absurd a2.2 (by rw [hS77, mu_na _ _ _ (by omega), hVq, hk6]; decide)
  have K258 : S (roG G (thG G s0)) 0 = 8 → rJ p l e (mR 4) s m args below meth c D vwCl mty b 4 Z 0 0 A Sh S G [(0, .ref (A 14)), (1, .ref (A (thG G s0))), (2, .ref (A (roG G (thG G s0))))] 25 [] := by
    intro hk8
    refine rJ_aload_n X dX7_finish_25 rfl rfl ?_
    refine rJ_Vi0 X gX7_229 (cT_commitsWhere (ht.t (by omega)) (ht.w (by omega)) (ht.q (by omega))) (ht.t (by omega)) dX7_finish_26 (by decide) (Nat.le_of_ble_eq_true rfl) ⟨Nat.le_refl _, Nat.le_refl _⟩ ?_
    refine rJ_istore_n X dX7_finish_29 rfl (by decide) ?_
    refine rJ_aload_n X dX7_finish_30 rfl rfl ?_
    refine rJ_getR X fX7_12 (by first | exact hw.1 _ _ rfl | assumption) (by first | exact hw.2 _ _ _ rfl | assumption) dX7_finish_31 ?_
    refine rJ_aload_n X dX7_finish_34 rfl rfl ?_
    refine rJ_iload_n X dX7_finish_35 rfl rfl ?_
    refine rJ_aload_n X dX7_finish_36 rfl rfl ?_
    refine rJ_Vi0 X gX7_220 (cT_worth (ht.t (by omega))) (ht.t (by omega)) dX7_finish_37 (by decide) (Nat.le_of_ble_eq_true rfl) ⟨Nat.le_refl _, Nat.le_refl _⟩ ?_
    refine rJ_Vv3 X gX7_232 (cH_take (r := 15) (r1 := 16) (r2 := 17) (hw.1 _ _ rfl) (hw.2 _ _ _ rfl) (hw.2 _ _ _ rfl) (hw.1 _ _ rfl) (hw.1 _ _ rfl) (ht.q (by omega)) hd _ _) (hw.1 _ _ rfl) dX7_finish_40 (by decide) (Nat.le_of_ble_eq_true rfl) ⟨Nat.le_refl _, Nat.le_refl _⟩ ?_
    refine rJ_nS (fun U hU => ?_)
    have hU12 : U 12 = S 12 := by rw [hU]; exact cTake_n _ _ _ _ _ _ (by decide) (by decide)
    have hUq : U (roG G (thG G s0)) = S (roG G (thG G s0)) := by rw [hU]; exact cTake_n _ _ _ _ _ _ (by omega) (by omega)
    have hUt : U (thG G s0) = S (thG G s0) := by rw [hU]; exact cTake_n _ _ _ _ _ _ (by omega) (by omega)
    have hU14 : U 14 = S 14 := by rw [hU]; exact cTake_n _ _ _ _ _ _ (by decide) (by decide)
    refine rJ_aload_n X dX7_finish_43 rfl rfl ?_
    refine rJ_getR X fX7_40 (by first | exact hw.1 _ _ rfl | assumption) (by first | exact hw.2 _ _ _ rfl | assumption) dX7_finish_44 ?_
    refine rJ_aload_n X dX7_finish_47 rfl rfl ?_
    refine rJ_Vi0 X gX7_236 (cI_commitKind (ht.q (by omega))) (ht.q (by omega)) dX7_finish_48 (by decide) (Nat.le_of_ble_eq_true rfl) ⟨Nat.le_refl _, Nat.le_refl _⟩ ?_
    refine rJ_iload_n X dX7_finish_51 rfl rfl ?_
    refine rJ_aload_n X dX7_finish_52 rfl rfl ?_
    refine rJ_Vi0 X gX7_220 (cT_worth (ht.t (by omega))) (ht.t (by omega)) dX7_finish_53 (by decide) (Nat.le_of_ble_eq_true rfl) ⟨Nat.le_refl _, Nat.le_refl _⟩ ?_
    refine rJ_aload_n X dX7_finish_56 rfl rfl ?_
    refine rJ_getI X fX7_79 (by first | exact hw.1 _ _ rfl | assumption) dX7_finish_57 ?_
    refine rJ_Vv4 X gX7_239 (cG_add hw (by rw [hU12]; exact hk) hk1 _ _ _ _) (hw.1 _ _ rfl) dX7_finish_60 (by decide) (Nat.le_of_ble_eq_true rfl) ⟨Nat.le_refl _, Nat.le_refl _⟩ ?_
    rw [hUq, hUt, hU14]
    refine rJ_nS (fun V hV => ?_)
    have hVq : V (roG G (thG G s0)) = S (roG G (thG G s0)) := by rw [hV, cAdd_n _ _ _ _ _ _ (by omega) (by omega)]; exact hUq
    have hV14 : V 14 = S 14 := by rw [hV, cAdd_n _ _ _ _ _ _ (by decide) (by decide)]; exact hU14
    refine rJ_aload_n X dX7_finish_63 rfl rfl ?_
    refine rJ_Vi0 X gX7_127 (cI_kind (ht.q (by omega))) (ht.q (by omega)) dX7_finish_64 (by decide) (Nat.le_of_ble_eq_true rfl) ⟨Nat.le_refl _, Nat.le_refl _⟩ ?_
    refine rJ_bipush (v := 6) X dX7_finish_67 (by decide) ?_
    refine rJ_icmp_ne (tgt := 80) X dX7_finish_69 (by decide) (fun a1 => ?_) (fun a1 => ?_)
    · rw [hVq] at a1
      refine rJ_aload_n X dX7_finish_80 rfl rfl ?_
      refine rJ_Vi0 X gX7_243 (cI_commitsRegister (ht.q (by omega)) (by first | (rw [hVq]; exact hd) | (rw [hS77, mu_row _ _ _ (by omega), hVq]; exact hd))) (ht.q (by omega)) dX7_finish_81 (by decide) (Nat.le_of_ble_eq_true rfl) ⟨Nat.le_refl _, Nat.le_refl _⟩ ?_
      refine rJ_if_eq (tgt := 104) X dX7_finish_84 (by decide) (fun a2 => ?_) (fun a2 => ?_)
      · try replace a2 := z_f a2
        exact rJ_vretZ hZ X dX7_finish_104 ⟨rfl, rfl, rfl, by rw [hV, hU]; simp [cFin, cTake, hk8], rfl⟩
      · try replace a2 := z_t a2
        exact absurd (by assumption) (by rw [hVq, hk8]; decide)
    · rw [hVq] at a1
      exact absurd a1 (by rw [hk8]; decide)
  have K25r : (1 ≤ S (roG G (thG G s0)) 0 ∧ S (roG G (thG G s0)) 0 ≤ 5) → rJ p l e (mR 4) s m args below meth c D vwCl mty b 4 Z 0 0 A Sh S G [(0, .ref (A 14)), (1, .ref (A (thG G s0))), (2, .ref (A (roG G (thG G s0))))] 25 [] := by
    intro hkr
    have hdd := hd.1 hkr.1 hkr.2
    have hn0 : ¬ S (roG G (thG G s0)) 0 = 0 := by intro e; rw [e] at hkr; exact absurd hkr (by decide)
    have hn6 : ¬ S (roG G (thG G s0)) 0 = 6 := by intro e; rw [e] at hkr; exact absurd hkr (by decide)
    have hn8 : ¬ S (roG G (thG G s0)) 0 = 8 := by intro e; rw [e] at hkr; exact absurd hkr (by decide)
    refine rJ_aload_n X dX7_finish_25 rfl rfl ?_
    refine rJ_Vi0 X gX7_229 (cT_commitsWhere (ht.t (by omega)) (ht.w (by omega)) (ht.q (by omega))) (ht.t (by omega)) dX7_finish_26 (by decide) (Nat.le_of_ble_eq_true rfl) ⟨Nat.le_refl _, Nat.le_refl _⟩ ?_
    refine rJ_as (S (roG G (thG G s0)) 1) (by rw [if_neg hn6, if_neg hn8]) ?_
    refine rJ_istore_n X dX7_finish_29 rfl (by decide) ?_
    refine rJ_aload_n X dX7_finish_30 rfl rfl ?_
    refine rJ_getR X fX7_12 (by first | exact hw.1 _ _ rfl | assumption) (by first | exact hw.2 _ _ _ rfl | assumption) dX7_finish_31 ?_
    refine rJ_aload_n X dX7_finish_34 rfl rfl ?_
    refine rJ_iload_n X dX7_finish_35 rfl rfl ?_
    refine rJ_aload_n X dX7_finish_36 rfl rfl ?_
    refine rJ_Vi0 X gX7_220 (cT_worth (ht.t (by omega))) (ht.t (by omega)) dX7_finish_37 (by decide) (Nat.le_of_ble_eq_true rfl) ⟨Nat.le_refl _, Nat.le_refl _⟩ ?_
    refine rJ_Vv3 X gX7_232 (cH_take (r := 15) (r1 := 16) (r2 := 17) (hw.1 _ _ rfl) (hw.2 _ _ _ rfl) (hw.2 _ _ _ rfl) (hw.1 _ _ rfl) (hw.1 _ _ rfl) (ht.q (by omega)) hd _ _) (hw.1 _ _ rfl) dX7_finish_40 (by decide) (Nat.le_of_ble_eq_true rfl) ⟨Nat.le_refl _, Nat.le_refl _⟩ ?_
    refine rJ_nS (fun U hU => ?_)
    have hU12 : U 12 = S 12 := by rw [hU]; exact cTake_n _ _ _ _ _ _ (by decide) (by decide)
    have hUq : U (roG G (thG G s0)) = S (roG G (thG G s0)) := by rw [hU]; exact cTake_n _ _ _ _ _ _ (by omega) (by omega)
    have hUt : U (thG G s0) = S (thG G s0) := by rw [hU]; exact cTake_n _ _ _ _ _ _ (by omega) (by omega)
    have hU14 : U 14 = S 14 := by rw [hU]; exact cTake_n _ _ _ _ _ _ (by decide) (by decide)
    refine rJ_aload_n X dX7_finish_43 rfl rfl ?_
    refine rJ_getR X fX7_40 (by first | exact hw.1 _ _ rfl | assumption) (by first | exact hw.2 _ _ _ rfl | assumption) dX7_finish_44 ?_
    refine rJ_aload_n X dX7_finish_47 rfl rfl ?_
    refine rJ_Vi0 X gX7_236 (cI_commitKind (ht.q (by omega))) (ht.q (by omega)) dX7_finish_48 (by decide) (Nat.le_of_ble_eq_true rfl) ⟨Nat.le_refl _, Nat.le_refl _⟩ ?_
    refine rJ_iload_n X dX7_finish_51 rfl rfl ?_
    refine rJ_aload_n X dX7_finish_52 rfl rfl ?_
    refine rJ_Vi0 X gX7_220 (cT_worth (ht.t (by omega))) (ht.t (by omega)) dX7_finish_53 (by decide) (Nat.le_of_ble_eq_true rfl) ⟨Nat.le_refl _, Nat.le_refl _⟩ ?_
    refine rJ_aload_n X dX7_finish_56 rfl rfl ?_
    refine rJ_getI X fX7_79 (by first | exact hw.1 _ _ rfl | assumption) dX7_finish_57 ?_
    refine rJ_Vv4 X gX7_239 (cG_add hw (by rw [hU12]; exact hk) hk1 _ _ _ _) (hw.1 _ _ rfl) dX7_finish_60 (by decide) (Nat.le_of_ble_eq_true rfl) ⟨Nat.le_refl _, Nat.le_refl _⟩ ?_
    rw [hUq, hUt, hU14]
    refine rJ_nS (fun V hV => ?_)
    have hVq : V (roG G (thG G s0)) = S (roG G (thG G s0)) := by rw [hV, cAdd_n _ _ _ _ _ _ (by omega) (by omega)]; exact hUq
    have hV14 : V 14 = S 14 := by rw [hV, cAdd_n _ _ _ _ _ _ (by decide) (by decide)]; exact hU14
    refine rJ_aload_n X dX7_finish_63 rfl rfl ?_
    refine rJ_Vi0 X gX7_127 (cI_kind (ht.q (by omega))) (ht.q (by omega)) dX7_finish_64 (by decide) (Nat.le_of_ble_eq_true rfl) ⟨Nat.le_refl _, Nat.le_refl _⟩ ?_
    refine rJ_bipush (v := 6) X dX7_finish_67 (by decide) ?_
    refine rJ_icmp_ne (tgt := 80) X dX7_finish_69 (by decide) (fun a1 => ?_) (fun a1 => ?_)
    · rw [hVq] at a1
      refine rJ_aload_n X dX7_finish_80 rfl rfl ?_
      refine rJ_Vi0 X gX7_243 (cI_commitsRegister (ht.q (by omega)) (by first | (rw [hVq]; exact hd) | (rw [hS77, mu_row _ _ _ (by omega), hVq]; exact hd))) (ht.q (by omega)) dX7_finish_81 (by decide) (Nat.le_of_ble_eq_true rfl) ⟨Nat.le_refl _, Nat.le_refl _⟩ ?_
      refine rJ_if_eq (tgt := 104) X dX7_finish_84 (by decide) (fun a2 => ?_) (fun a2 => ?_)
      · try replace a2 := z_f a2
        rw [hVq] at a2
        exact absurd hkr (by assumption)
      · try replace a2 := z_t a2
        rw [hVq] at a2
        refine rJ_iload_n X dX7_finish_87 rfl rfl ?_
        refine rJ_Ni1 X gX7_169 (cC_isRegister _) dX7_finish_88 (by decide) (Nat.le_of_ble_eq_true rfl) ⟨Nat.le_refl _, Nat.le_refl _⟩ ?_
        refine rJ_if_eq (tgt := 104) X dX7_finish_91 (by decide) (fun a3 => ?_) (fun a3 => ?_)
        · try replace a3 := z_f a3
          exact absurd hdd (by assumption)
        · try replace a3 := z_t a3
          refine rJ_aload_n X dX7_finish_94 rfl rfl ?_
          refine rJ_getR X fX7_24 (by first | exact hw.1 _ _ rfl | assumption) (by first | exact hw.2 _ _ _ rfl | assumption) dX7_finish_95 ?_
          refine rJ_iload_n X dX7_finish_98 rfl rfl ?_
          refine rJ_aload_n X dX7_finish_99 rfl rfl ?_
          refine rJ_getI X fX7_79 (by first | exact hw.1 _ _ rfl | assumption) dX7_finish_100 ?_
          refine rJ_iast X (by first | exact hw.1 _ _ rfl | assumption) (in_lt2 (hi := 8) hdd (by decide)) dX7_finish_103 (fun S103 hS103 => ?_)
          exact rJ_vretZ hZ X dX7_finish_104 ⟨rfl, rfl, rfl, by rw [hS103, hV14, hV, hU]; simp [cFin, cTake, hn0, hn6, hn8, hkr, hdd], rfl⟩
    · rw [hVq] at a1
      exact absurd a1 hn6
  refine rJ_aload_n X dX7_finish_0 rfl rfl ?_
  refine rJ_Vr0 X gX7_119 (cT_instruction (ht.t (by omega)) (ht.w (by omega)) (ht.q (by omega))) (ht.t (by omega)) dX7_finish_1 (by decide) (Nat.le_of_ble_eq_true rfl) ⟨Nat.le_refl _, Nat.le_refl _⟩ ?_
  refine rJ_astore_n X dX7_finish_4 rfl (by decide) ?_
  refine rJ_aload_n X dX7_finish_5 rfl rfl ?_
  refine rJ_Vi0 X gX7_127 (cI_kind (ht.q (by omega))) (ht.q (by omega)) dX7_finish_6 (by decide) (Nat.le_of_ble_eq_true rfl) ⟨Nat.le_refl _, Nat.le_refl _⟩ ?_
  refine rJ_if_ne (tgt := 17) X dX7_finish_9 (by decide) (fun c1 => ?_) (fun c1 => ?_)
  · by_cases hca : (1 ≤ S (roG G (thG G s0)) 0 ∧ S (roG G (thG G s0)) 0 ≤ 5) ∨ S (roG G (thG G s0)) 0 = 6 ∨ S (roG G (thG G s0)) 0 = 8
    · refine rJ_aload_n X dX7_finish_17 rfl rfl ?_
      refine rJ_Vi0 X gX7_226 (cI_commitsAnything (ht.q (by omega)) hd) (ht.q (by omega)) dX7_finish_18 (by decide) (Nat.le_of_ble_eq_true rfl) ⟨Nat.le_refl _, Nat.le_refl _⟩ ?_
      refine rJ_if_ne (tgt := 25) X dX7_finish_21 (by decide) (fun c2 => ?_) (fun c2 => ?_)
      · rcases hca with h | h | h
        · exact rJ_lv _ rfl (K25r h)
        · exact rJ_lv _ rfl (K256 h)
        · exact rJ_lv _ rfl (K258 h)
      · exact absurd hca (z_f c2)
    · refine rJ_aload_n X dX7_finish_17 rfl rfl ?_
      refine rJ_Vi0 X gX7_226 (cI_commitsAnything (ht.q (by omega)) hd) (ht.q (by omega)) dX7_finish_18 (by decide) (Nat.le_of_ble_eq_true rfl) ⟨Nat.le_refl _, Nat.le_refl _⟩ ?_
      refine rJ_if_ne (tgt := 25) X dX7_finish_21 (by decide) (fun c2 => ?_) (fun c2 => ?_)
      · exact absurd (z_t c2) hca
      · exact rJ_vretZ hZ X dX7_finish_24 ⟨rfl, rfl, rfl, by rw [cFin, if_neg c1, if_neg (fun h => hca (Or.inr (Or.inl h))), if_neg (fun h => hca (Or.inr (Or.inr h))), if_neg (fun h => hca (Or.inl h))], rfl⟩
  · refine rJ_aload_n X dX7_finish_12 rfl rfl ?_
    refine rJ_iconst (v := 1) X dX7_finish_13 (by decide) ?_
    refine rJ_setI X fX7_85 (Or.inl fwX7_85) (by first | exact hw.1 _ _ rfl | assumption) ⟨by decide, by decide⟩ dX7_finish_14 (fun S14 hS14 => ?_)
    refine rJ_aload_n X dX7_finish_17 rfl rfl ?_
    refine rJ_Vi0 X gX7_226 (cI_commitsAnything (ht.q (by omega)) (by rw [hS14, mu_row _ _ _ (by omega)]; exact hd)) (ht.q (by omega)) dX7_finish_18 (by decide) (Nat.le_of_ble_eq_true rfl) ⟨Nat.le_refl _, Nat.le_refl _⟩ ?_
    refine rJ_if_ne (tgt := 25) X dX7_finish_21 (by decide) (fun c2 => ?_) (fun c2 => ?_)
    · exact absurd (z_t c2) (by rw [hS14, mu_na _ _ _ (by omega), c1]; decide)
    · exact rJ_vretZ hZ X dX7_finish_24 ⟨rfl, rfl, rfl, by rw [cFin, if_pos c1, hS14], rfl⟩
