theorem cCome_n {S : mI} {t x : Nat} (h : x ≠ t) : cCome S t x = S x := by
  unfold cCome
  rw [mu_row _ _ _ h, mu_row _ _ _ h, mu_row _ _ _ h, mu_row _ _ _ h, mu_row _ _ _ h, mu_row _ _ _ h]
set_option maxHeartbeats 4000000 in
set_option maxRecDepth 100000 in
theorem cQ_step {l : Launch} {D : va_G} {b : Nat} {A : Nat → Nat} {Sh : mS} {S : mI} {G : mP} {st cnt : Nat} (hI : cInv Sh S G st cnt) : rMet l D b yX7_step cX7_step 2 none (mR 7) A Sh S G [.ref (A 14)] (rPv A Sh (cCyc st cnt (S, G)).1 (cCyc st cnt (S, G)).2) := by
  refine rMet_oz RX7 rfl (by decide) (Nat.le_of_ble_eq_true rfl) ?_
  intro p e s m args below meth c Z hZ X hnm
  obtain ⟨hw, ht, h4, ⟨h2, h8⟩, h6, h40, hr, hi, hl, kp, hk1, hk⟩ := id hI
  have htr := ht.r (k := 0) (by decide)
  have loop : ∀ (k : Nat) (x : Int32) (U : mI) (H : mP), k ≤ st → x = nI k - 1 → cInv Sh U H st cnt → cDown st k (U, H) = cCyc st cnt (S, G) → rJ p l e (mR 7) s m args below meth c D vwCl mty b 2 Z 0 0 A Sh U H [(0, .ref (A 14)), (1, .int x)] 62 [] := by
    intro k
    induction k with
    | zero =>
      intro x U H hk9 hx hV he
      have hw' := hV.1
      subst hx
      refine rJ_iload_n X dX7_step_62 rfl rfl ?_
      refine rJ_if_lt (tgt := 97) X dX7_step_63 (by decide) (fun a1 => ?_) (fun a1 => ?_)
      · exact rJ_vretZ hZ X dX7_step_97 ⟨rfl, rfl, rfl, by rw [← he]; rfl, by rw [← he]; rfl⟩
      · exact absurd (by decide) a1
    | succ j ih =>
      intro x U H hk9 hx hV he
      obtain ⟨hw', hU, h4', -, h6', -, hr', hi', hl', kp', hk1', hk'⟩ := id hV
      rw [nI_pred] at hx
      subst hx
      refine rJ_iload_n X dX7_step_62 rfl rfl ?_
      refine rJ_if_lt (tgt := 97) X dX7_step_63 (by decide) (fun a1 => ?_) (fun a1 => ?_)
      · exact absurd a1 (nI_pos (by omega))
      · refine rJ_aload_n X dX7_step_66 rfl rfl ?_
        refine rJ_getR X fX7_20 (by first | exact hw'.1 _ _ rfl | assumption) (by first | exact hw'.2 _ _ _ rfl | assumption) dX7_step_67 ?_
        refine rJ_iload_n X dX7_step_70 rfl rfl ?_
        refine rJ_aaldK (k := j) X rfl (n := 8) ⟨by omega, by decide⟩ (by first | exact hw'.1 _ _ rfl | assumption) (hU.g (by omega)) dX7_step_71 ?_
        refine rJ_Vi0 X gX7_92 (cT_isPresent (hU.t (by omega)) (hU.p (by omega))) (hU.t (by omega)) dX7_step_72 (by decide) (Nat.le_of_ble_eq_true rfl) ⟨Nat.le_refl _, Nat.le_refl _⟩ ?_
        refine rJ_if_eq (tgt := 91) X dX7_step_75 (by decide) (fun a2 => ?_) (fun a2 => ?_)
        · try replace a2 := z_f a2
          refine rJ_inc (n := (-1)) (w := (-1)) X dX7_step_91 rfl (by decide) (by decide) ?_
          refine rJ_goto (tgt := 62) X dX7_step_94 (by decide) ?_
          exact rJ_lv _ rfl (ih _ U H (by omega) (Int32.sub_eq_add_neg ..).symm hV (by rw [← he, cDown, if_neg (fun q => q.1 a2)]))
        · try replace a2 := z_t a2
          refine rJ_aload_n X dX7_step_78 rfl rfl ?_
          refine rJ_iload_n X dX7_step_79 rfl rfl ?_
          refine rJ_Vi1 X gX7_105 (cQ_mayFire hw' hU h4' h8 (by omega)) (by first | exact hw'.1 _ _ rfl | assumption) dX7_step_80 (by decide) (Nat.le_of_ble_eq_true rfl) ⟨Nat.le_refl _, Nat.le_refl _⟩ ?_
          refine rJ_if_eq (tgt := 91) X dX7_step_83 (by decide) (fun a3 => ?_) (fun a3 => ?_)
          · try replace a3 := z_f a3
            refine rJ_inc (n := (-1)) (w := (-1)) X dX7_step_91 rfl (by decide) (by decide) ?_
            refine rJ_goto (tgt := 62) X dX7_step_94 (by decide) ?_
            exact rJ_lv _ rfl (ih _ U H (by omega) (Int32.sub_eq_add_neg ..).symm hV (by rw [← he, cDown, if_neg (fun q => a3 q.2)]))
          · try replace a3 := z_t a3
            refine rJ_aload_n X dX7_step_86 rfl rfl ?_
            refine rJ_iload_n X dX7_step_87 rfl rfl ?_
            refine rJ_Vv1 X gX7_109 (cQ_fire hw' hU h4' h8 (by omega) (by rw [kpO_eq hk1' hk']; exact hk') (by rw [kpO_eq hk1' hk']; exact hk1') (hi' _ (hU.q (by omega)))) (by first | exact hw'.1 _ _ rfl | assumption) dX7_step_88 (by decide) (Nat.le_of_ble_eq_true rfl) ⟨Nat.le_refl _, Nat.le_refl _⟩ ?_
            refine rJ_inc (n := (-1)) (w := (-1)) X dX7_step_91 rfl (by decide) (by decide) ?_
            refine rJ_goto (tgt := 62) X dX7_step_94 (by decide) ?_
            exact rJ_lv _ rfl (ih _ (cFire U H st j) (cG7 H st j) (by omega) (Int32.sub_eq_add_neg ..).symm (cFire_inv hV (by omega)) (by rw [← he, cDown, if_pos ⟨a2, a3⟩]))
  have K52 : ∀ (U : mI) (H : mP), U = cFetS S G → H = cFetG S G cnt → rJ p l e (mR 7) s m args below meth c D vwCl mty b 2 Z 0 0 A Sh U H [(0, .ref (A 14))] 52 [] := by
    intro U H hU0 hH0
    have hV : cInv Sh U H st cnt := by rw [hU0, hH0]; exact cFet_inv hI
    have he : cDown st st (U, H) = cCyc st cnt (S, G) := by rw [hU0, hH0]; rfl
    obtain ⟨hw', hU, h4', -, h6', -, hr', hi', hl', kp', hk1', hk'⟩ := id hV
    refine rJ_aload_n X dX7_step_52 rfl rfl ?_
    refine rJ_getR X fX7_28 (by first | exact hw'.1 _ _ rfl | assumption) (by first | exact hw'.2 _ _ _ rfl | assumption) dX7_step_53 ?_
    refine rJ_Vi0 X gX7_99 (cL_stageCount hw') (by first | exact hw'.1 _ _ rfl | assumption) dX7_step_56 (by decide) (Nat.le_of_ble_eq_true rfl) ⟨Nat.le_refl _, Nat.le_refl _⟩ ?_
    rw [h4']
    refine rJ_iconst (v := 1) X dX7_step_59 (by decide) ?_
    refine rJ_isub X dX7_step_60 ?_
    refine rJ_istore_n X dX7_step_61 rfl (by decide) ?_
    exact rJ_lv _ rfl (loop st _ U H (Nat.le_refl _) rfl hV he)
  refine rJ_aload_n X dX7_step_0 rfl rfl ?_
  refine rJ_dup X dX7_step_1 rfl ?_
  refine rJ_getI X fX7_79 (by first | exact hw.1 _ _ rfl | assumption) dX7_step_2 ?_
  refine rJ_iconst (v := 1) X dX7_step_5 (by decide) ?_
  refine rJ_iadd X dX7_step_6 ?_
  refine rJ_setI X fX7_79 (Or.inl fwX7_79) (by first | exact hw.1 _ _ rfl | assumption) ⟨rfl, rfl⟩ dX7_step_7 (fun S7 hS7 => ?_)
  refine rJ_aload_n X dX7_step_10 rfl rfl ?_
  refine rJ_getR X fX7_20 (by first | exact hw.1 _ _ rfl | assumption) (by first | exact hw.2 _ _ _ rfl | assumption) dX7_step_11 ?_
  refine rJ_iconst (v := 0) X dX7_step_14 (by decide) ?_
  refine rJ_aaldK (k := 0) X (by decide) (n := 8) ⟨by decide, by decide⟩ (by first | exact hw.1 _ _ rfl | assumption) (ht.g (by decide)) dX7_step_15 ?_
  refine rJ_Vi0 X gX7_92 (cT_isPresent (ht.t (by decide)) (by rw [hS7, mu_na _ _ _ (by omega)]; exact ht.p (k := 0) (by decide))) (ht.t (by decide)) dX7_step_16 (by decide) (Nat.le_of_ble_eq_true rfl) ⟨Nat.le_refl _, Nat.le_refl _⟩ ?_
  refine rJ_if_ne (tgt := 52) X dX7_step_19 (by decide) (fun c1 => ?_) (fun c1 => ?_)
  · try replace c1 := z_t c1
    rw [hS7, mu_na _ _ _ (by omega)] at c1
    exact rJ_lv _ rfl (K52 _ _ (by rw [cFetS, if_neg c1, hS7]) (by rw [cFetG, if_neg c1]))
  · try replace c1 := z_f c1
    rw [hS7, mu_na _ _ _ (by omega)] at c1
    refine rJ_aload_n X dX7_step_22 rfl rfl ?_
    refine rJ_getR X fX7_20 (by first | exact hw.1 _ _ rfl | assumption) (by first | exact hw.2 _ _ _ rfl | assumption) dX7_step_23 ?_
    refine rJ_iconst (v := 0) X dX7_step_26 (by decide) ?_
    refine rJ_aaldK (k := 0) X (by decide) (n := 8) ⟨by decide, by decide⟩ (by first | exact hw.1 _ _ rfl | assumption) (ht.g (by decide)) dX7_step_27 ?_
    refine rJ_aload_n X dX7_step_28 rfl rfl ?_
    refine rJ_getR X fX7_32 (by first | exact hw.1 _ _ rfl | assumption) (by first | exact hw.2 _ _ _ rfl | assumption) dX7_step_29 ?_
    refine rJ_aload_n X dX7_step_32 rfl rfl ?_
    refine rJ_getI X fX7_76 (by first | exact hw.1 _ _ rfl | assumption) dX7_step_33 ?_
    refine rJ_Vr1 X gX7_44 (cP_at hw (by rw [hS7, mu_na _ _ _ (by decide)]; exact h6) h40 (fun j hj => (hr j hj).1) _) (hw.1 _ _ rfl) dX7_step_36 (by decide) (Nat.le_of_ble_eq_true rfl) ⟨Nat.le_refl _, Nat.le_refl _⟩ ?_
    refine rJ_Vv1 X gX7_96 (cT_come (ht.t (by decide)) (cAt_sh hI _)) (ht.t (by decide)) dX7_step_39 (by decide) (Nat.le_of_ble_eq_true rfl) ⟨Nat.le_refl _, Nat.le_refl _⟩ ?_
    refine rJ_aload_n X dX7_step_42 rfl rfl ?_
    refine rJ_dup X dX7_step_43 rfl ?_
    refine rJ_getI X fX7_76 (by first | exact hw.1 _ _ rfl | assumption) dX7_step_44 ?_
    refine rJ_iconst (v := 1) X dX7_step_47 (by decide) ?_
    refine rJ_iadd X dX7_step_48 ?_
    have hp : mu G (thG G 0) 1 (some (cAt cnt (S7 14 8))) 14 0 = some 4 := by rw [mu_na _ _ _ (by omega)]; exact hw.2 _ _ _ rfl
    refine rJ_setI X fX7_76 (Or.inl fwX7_76) (hw.1 _ _ rfl) ⟨rfl, rfl⟩ dX7_step_49 (fun S49 hS49 => ?_)
    exact rJ_lv _ rfl (K52 _ _ (by rw [cFetS, if_pos c1, hS49, cCome_n (by omega), hS7, mu_ns _ _ _ (by decide)]) (by rw [cFetG, if_pos c1, hS7, mu_ns _ _ _ (by decide)]))
theorem cRun_z {st cnt N k : Nat} {x : mI × mP} (h : N ≤ k) : cRunF st cnt (N - k) x = x := by rw [Nat.sub_eq_zero_of_le h]; rfl
theorem cRun_o {st cnt f : Nat} {x : mI × mP} (h : ¬ x.1 14 11 = 0) : cRunF st cnt f x = x := by cases f <;> simp [cRunF, h]
set_option maxHeartbeats 4000000 in
set_option maxRecDepth 100000 in
theorem cQ_advance {l : Launch} {D : va_G} {b : Nat} {A : Nat → Nat} {Sh : mS} {S : mI} {G : mP} {st cnt : Nat} (hI : cInv Sh S G st cnt) {N : Nat} (hN : N ≤ 3000) : rMet l D b yX7_advance cX7_advance 3 none (mR 8) A Sh S G [.ref (A 14), .int (nI N)] (rPv A Sh (cRunF st cnt N (S, G)).1 (cRunF st cnt N (S, G)).2) := by
  refine rMet_oz RX7 rfl (by decide) (Nat.le_of_ble_eq_true rfl) ?_
  intro p e s m args below meth c Z hZ X hnm
  have loop : ∀ (f k : Nat) (U : mI) (H : mP), k ≤ N → N - k < f → cInv Sh U H st cnt → cRunF st cnt (N - k) (U, H) = cRunF st cnt N (S, G) → rJ p l e (mR 8) s m args below meth c D vwCl mty b 3 Z 0 0 A Sh U H [(0, .ref (A 14)), (1, .int (nI N)), (2, .int (nI k))] 2 [] := by
    intro f
    induction f with
    | zero => intro k U H h1 h3; exact absurd h3 (by omega)
    | succ f ih =>
      intro k U H h1 h3 hV he
      have hw' := hV.1
      refine rJ_iload_n X dX7_advance_2 rfl rfl ?_
      refine rJ_iload_n X dX7_advance_3 rfl rfl ?_
      refine rJ_icmp_ge (tgt := 24) X dX7_advance_4 (by decide) (fun a1 => ?_) (fun a1 => ?_)
      · rw [nI_leI (by omega) (by omega)] at a1
        have e : cRunF st cnt (N - k) (U, H) = (U, H) := by first | exact cRun_z a1 | exact cRun_o a2
        rw [e] at he
        exact rJ_vretZ hZ X dX7_advance_24 ⟨rfl, rfl, rfl, by rw [← he], by rw [← he]⟩
      · rw [nI_leI (by omega) (by omega)] at a1
        refine rJ_aload_n X dX7_advance_7 rfl rfl ?_
        refine rJ_getI X fX7_85 (by first | exact hw'.1 _ _ rfl | assumption) dX7_advance_8 ?_
        refine rJ_if_ne (tgt := 24) X dX7_advance_11 (by decide) (fun a2 => ?_) (fun a2 => ?_)
        · have e : cRunF st cnt (N - k) (U, H) = (U, H) := by first | exact cRun_z a1 | exact cRun_o a2
          rw [e] at he
          exact rJ_vretZ hZ X dX7_advance_24 ⟨rfl, rfl, rfl, by rw [← he], by rw [← he]⟩
        · refine rJ_aload_n X dX7_advance_14 rfl rfl ?_
          refine rJ_Vv0 X gX7_89 (cQ_step hV) (by first | exact hw'.1 _ _ rfl | assumption) dX7_advance_15 (by decide) (Nat.le_of_ble_eq_true rfl) ⟨Nat.le_refl _, Nat.le_refl _⟩ ?_
          refine rJ_inc (n := 1) (w := 1) X dX7_advance_18 rfl (by decide) (by decide) ?_
          rw [nI_1 k]
          refine rJ_goto (tgt := 2) X dX7_advance_21 (by decide) ?_
          exact rJ_lv _ rfl (ih (k + 1) _ _ (by omega) (by omega) (cCyc_inv (U, H) hV) (by rw [← he, show N - k = (N - (k + 1)) + 1 by omega, cRunF, if_pos a2]))
  refine rJ_iconst (v := 0) X dX7_advance_0 (by decide) ?_
  refine rJ_istore_n X dX7_advance_1 rfl (by decide) ?_
  exact rJ_lv _ rfl (loop (N + 1) 0 S G (by omega) (by omega) hI rfl)
/-- the class's line begins anew -/
def cAnew (S : mI) (G : mP) : mI := mu (mu (mu (mu (mu (mFl (mu (mu (mCpy (mFl (cOut S G 8) 16 8 0) 10 17 64) 12 1 0) 12 2 0) 19 8 0) 14 7 0) 14 8 0) 14 9 0) 14 10 0) 14 11 0
set_option maxHeartbeats 4000000 in
set_option maxRecDepth 100000 in
theorem cQ_beginAnew {l : Launch} {D : va_G} {b : Nat} {A : Nat → Nat} {Sh : mS} {S : mI} {G : mP} (hw : okC Sh G) (ht : okT Sh S G) : rMet l D b yX7_beginAnew cX7_beginAnew 1 none (mR 3) A Sh S G [.ref (A 14)] (rPv A Sh (cAnew S G) G) := by
  refine rMet_oz RX7 rfl (by decide) (Nat.le_of_ble_eq_true rfl) ?_
  intro p e s m args below meth c Z hZ X hnm
  refine rJ_aload_n X dX7_beginAnew_0 rfl rfl ?_
  refine rJ_bipush (v := 8) X dX7_beginAnew_1 (by decide) ?_
  refine rJ_as (nI 8) rfl ?_
  refine rJ_Vv1 X gX7_53 (cQ_throwOut hw ht (n := 8) (by decide)) (by first | exact hw.1 _ _ rfl | assumption) dX7_beginAnew_3 (by decide) (Nat.le_of_ble_eq_true rfl) ⟨Nat.le_refl _, Nat.le_refl _⟩ ?_
  refine rJ_aload_n X dX7_beginAnew_6 rfl rfl ?_
  refine rJ_getR X fX7_12 (by first | exact hw.1 _ _ rfl | assumption) (by first | exact hw.2 _ _ _ rfl | assumption) dX7_beginAnew_7 ?_
  refine rJ_aload_n X dX7_beginAnew_10 rfl rfl ?_
  refine rJ_getR X fX7_36 (by first | exact hw.1 _ _ rfl | assumption) (by first | exact hw.2 _ _ _ rfl | assumption) dX7_beginAnew_11 ?_
  refine rJ_Vv1 X gX7_57 (cH_reset hw (r := 15) (r1 := 16) (r2 := 17) (hw.1 _ _ rfl) (hw.2 _ _ _ rfl) (hw.2 _ _ _ rfl) (hw.1 _ _ rfl) (hw.1 _ _ rfl)) (by first | exact hw.1 _ _ rfl | assumption) dX7_beginAnew_14 (by decide) (Nat.le_of_ble_eq_true rfl) ⟨Nat.le_refl _, Nat.le_refl _⟩ ?_
  refine rJ_aload_n X dX7_beginAnew_17 rfl rfl ?_
  refine rJ_getR X fX7_40 (by first | exact hw.1 _ _ rfl | assumption) (by first | exact hw.2 _ _ _ rfl | assumption) dX7_beginAnew_18 ?_
  refine rJ_Vv0 X gX7_61 (cG_clear hw) (by first | exact hw.1 _ _ rfl | assumption) dX7_beginAnew_21 (by decide) (Nat.le_of_ble_eq_true rfl) ⟨Nat.le_refl _, Nat.le_refl _⟩ ?_
  refine rJ_aload_n X dX7_beginAnew_24 rfl rfl ?_
  refine rJ_getR X fX7_24 (by first | exact hw.1 _ _ rfl | assumption) (by first | exact hw.2 _ _ _ rfl | assumption) dX7_beginAnew_25 ?_
  refine rJ_iconst (v := 0) X dX7_beginAnew_28 (by decide) ?_
  refine rJ_Sv2 X gX7_66 (cJ_fill (r := 19) (n := 8) (hw.1 _ _ rfl) (by decide) _) dX7_beginAnew_29 (by decide) (Nat.le_of_ble_eq_true rfl) ⟨Nat.le_refl _, Nat.le_refl _⟩ ?_
  refine rJ_aload_n X dX7_beginAnew_32 rfl rfl ?_
  refine rJ_iconst (v := 0) X dX7_beginAnew_33 (by decide) ?_
  refine rJ_setI X fX7_72 (Or.inl fwX7_72) (by first | exact hw.1 _ _ rfl | assumption) ⟨rfl, rfl⟩ dX7_beginAnew_34 (fun S34 hS34 => ?_)
  refine rJ_aload_n X dX7_beginAnew_37 rfl rfl ?_
  refine rJ_iconst (v := 0) X dX7_beginAnew_38 (by decide) ?_
  refine rJ_setI X fX7_76 (Or.inl fwX7_76) (by first | exact hw.1 _ _ rfl | assumption) ⟨rfl, rfl⟩ dX7_beginAnew_39 (fun S39 hS39 => ?_)
  refine rJ_aload_n X dX7_beginAnew_42 rfl rfl ?_
  refine rJ_iconst (v := 0) X dX7_beginAnew_43 (by decide) ?_
  refine rJ_setI X fX7_79 (Or.inl fwX7_79) (by first | exact hw.1 _ _ rfl | assumption) ⟨rfl, rfl⟩ dX7_beginAnew_44 (fun S44 hS44 => ?_)
  refine rJ_aload_n X dX7_beginAnew_47 rfl rfl ?_
  refine rJ_iconst (v := 0) X dX7_beginAnew_48 (by decide) ?_
  refine rJ_setI X fX7_82 (Or.inl fwX7_82) (by first | exact hw.1 _ _ rfl | assumption) ⟨rfl, rfl⟩ dX7_beginAnew_49 (fun S49 hS49 => ?_)
  refine rJ_aload_n X dX7_beginAnew_52 rfl rfl ?_
  refine rJ_iconst (v := 0) X dX7_beginAnew_53 (by decide) ?_
  refine rJ_setI X fX7_85 (Or.inl fwX7_85) (by first | exact hw.1 _ _ rfl | assumption) ⟨by decide, by decide⟩ dX7_beginAnew_54 (fun S54 hS54 => ?_)
  exact rJ_vretZ hZ X dX7_beginAnew_57 ⟨rfl, rfl, rfl, by rw [hS54, hS49, hS44, hS39, hS34]; rfl, rfl⟩
set_option maxHeartbeats 4000000 in
set_option maxRecDepth 100000 in
theorem cQ_reached {l : Launch} {D : va_G} {b : Nat} {A : Nat → Nat} {Sh : mS} {S : mI} {G : mP} (hw : okC Sh G) : rMet l D b yX7_reached cX7_reached 1 (some .int) (mR 0) A Sh S G [.ref (A 14)] (rPi A Sh (S 14 9) S G) := by
  refine rMet_oz RX7 rfl (by decide) (Nat.le_of_ble_eq_true rfl) ?_
  intro p e s m args below meth c Z hZ X hnm
  refine rJ_aload_n X dX7_reached_0 rfl rfl ?_
  refine rJ_getI X fX7_79 (by first | exact hw.1 _ _ rfl | assumption) dX7_reached_1 ?_
  exact rJ_iretZ hZ X dX7_reached_4 ⟨rfl, rfl, rfl, rfl, rfl⟩
set_option maxHeartbeats 4000000 in
set_option maxRecDepth 100000 in
theorem cQ_gone {l : Launch} {D : va_G} {b : Nat} {A : Nat → Nat} {Sh : mS} {S : mI} {G : mP} (hw : okC Sh G) : rMet l D b yX7_gone cX7_gone 1 (some .int) (mR 0) A Sh S G [.ref (A 14)] (rPi A Sh (S 14 10) S G) := by
  refine rMet_oz RX7 rfl (by decide) (Nat.le_of_ble_eq_true rfl) ?_
  intro p e s m args below meth c Z hZ X hnm
  refine rJ_aload_n X dX7_gone_0 rfl rfl ?_
  refine rJ_getI X fX7_82 (by first | exact hw.1 _ _ rfl | assumption) dX7_gone_1 ?_
  exact rJ_iretZ hZ X dX7_gone_4 ⟨rfl, rfl, rfl, rfl, rfl⟩
set_option maxHeartbeats 4000000 in
set_option maxRecDepth 100000 in
theorem cQ_isEnded {l : Launch} {D : va_G} {b : Nat} {A : Nat → Nat} {Sh : mS} {S : mI} {G : mP} (hw : okC Sh G) (h11 : S 14 11 = 0 ∨ S 14 11 = 1) : rMet l D b yX7_isEnded cX7_isEnded 1 (some .boolean) (mR 0) A Sh S G [.ref (A 14)] (rPi A Sh (S 14 11) S G) := by
  refine rMet_oz RX7 rfl (by decide) (Nat.le_of_ble_eq_true rfl) ?_
  intro p e s m args below meth c Z hZ X hnm
  refine rJ_aload_n X dX7_isEnded_0 rfl rfl ?_
  refine rJ_getI X fX7_85 (by first | exact hw.1 _ _ rfl | assumption) dX7_isEnded_1 ?_
  exact rJ_zretZ hZ X dX7_isEnded_4 (by rcases h11 with h | h <;> rw [h] <;> rfl) ⟨rfl, rfl, rfl, rfl, rfl⟩
set_option maxHeartbeats 4000000 in
set_option maxRecDepth 100000 in
theorem cQ_holdings {l : Launch} {D : va_G} {b : Nat} {A : Nat → Nat} {Sh : mS} {S : mI} {G : mP} (hw : okC Sh G) : rMet l D b yX7_holdings cX7_holdings 1 (some (.object "PipeForge$Holdings")) (mR 0) A Sh S G [.ref (A 14)] (rPr A Sh 15 S G) := by
  refine rMet_oz RX7 rfl (by decide) (Nat.le_of_ble_eq_true rfl) ?_
  intro p e s m args below meth c Z hZ X hnm
  refine rJ_aload_n X dX7_holdings_0 rfl rfl ?_
  refine rJ_getR X fX7_12 (by first | exact hw.1 _ _ rfl | assumption) (by first | exact hw.2 _ _ _ rfl | assumption) dX7_holdings_1 ?_
  exact rJ_aretZ hZ X (Or.inl ⟨_, rfl⟩) dX7_holdings_4 ⟨rfl, rfl, rfl, rfl, rfl⟩
abbrev nxO (S : mI) : Nat := (S 2 1).toNatClampNeg
def cLr (t : Nat → Int32) : Nat → Nat → mI → Option Nat × mI
  | 0, _, S => (none, S)
  | f + 1, k, S => match cTk S (nxO S) (t k) with
    | some U => cLr t f (k + 1) U
    | none => (some k, S)
theorem cLr_some {t : Nat → Int32} {n k : Nat} {S : mI} (U : mI) (h : k < n) (e : cTk S (nxO S) (t k) = some U) : cLr t (n - k) k S = cLr t (n - (k + 1)) (k + 1) U := by
  rw [show n - k = (n - (k + 1)) + 1 by omega, cLr, e]
theorem cLr_none {t : Nat → Int32} {n k : Nat} {S : mI} (h : k < n) (e : cTk S (nxO S) (t k) = none) : cLr t (n - k) k S = (some k, S) := by
  rw [show n - k = (n - (k + 1)) + 1 by omega, cLr, e]
theorem cLr_end {t : Nat → Int32} {n k : Nat} {S : mI} (h : n ≤ k) : cLr t (n - k) k S = (none, S) := by
  rw [show n - k = 0 by omega]; rfl
def cRd0 (S : mI) : mI := mu (mu (mu (mFl S 3 8 (-1)) 2 1 0) 2 2 0) 2 3 0
def cFwR (S : mI) (n : Nat) : Int32 := match cLr (S 1) n 0 (cRd0 S) with
  | (some k, _) => nI k
  | (none, U) => if U 2 1 = 7 ∧ ¬ U 2 3 = 0 then -1 else nI n
abbrev cFwS (S : mI) (n : Nat) : mI := (cLr (S 1) n 0 (cRd0 S)).2
theorem cTk_ok {S U : mI} {nx : Nat} {u : Int32} (hn : S 2 1 = nI nx) (h7 : nx ≤ 7) (e : cTk S nx u = some U) : (∃ n2, n2 ≤ 7 ∧ U 2 1 = nI n2) ∧ ∀ x, x ≠ 2 → x ≠ 3 → U x = S x := by
  unfold cTk at e
  split at e
  · split at e
    · cases e
      exact ⟨⟨nx, h7, by unfold cBrk; rw [mu_ns _ _ _ (by decide), mu_ns _ _ _ (by decide)]; exact hn⟩, fun x h2 _ => by unfold cBrk; rw [mu_row _ _ _ h2, mu_row _ _ _ h2]⟩
    · cases e
  · split at e
    · split at e
      · cases e
        exact ⟨⟨nx, h7, by unfold cPuts; rw [mu_ns _ _ _ (by decide), mu_na _ _ _ (by decide)]; exact hn⟩, fun x h2 h3 => by unfold cPuts; rw [mu_row _ _ _ h2, mu_row _ _ _ h3]⟩
      · cases e
    · split at e
      · rename_i hc
        cases e
        exact ⟨⟨nx + 1, by omega, by unfold cPuts; rw [mu_ns _ _ _ (by decide), mu_na _ _ _ (by decide), mu_eq]⟩, fun x h2 h3 => by unfold cPuts; rw [mu_row _ _ _ h2, mu_row _ _ _ h3, mu_row _ _ _ h2]⟩
      · cases e
set_option maxHeartbeats 4000000 in
set_option maxRecDepth 100000 in
theorem cR_firstWrong {l : Launch} {D : va_G} {b : Nat} {A : Nat → Nat} {Sh : mS} {S : mI} {G : mP} (hw : okC Sh G) {n : Nat} (hn : n ≤ 30) : rMet l D b yX4_firstWrong cX4_firstWrong 4 (some .int) (mR 5) A Sh S G [.ref (A 2), .ref (A 1), .int (nI n)] (rPi A Sh (cFwR S n) (cFwS S n) G) := by
  refine rMet_oz RX4 rfl (by decide) (Nat.le_of_ble_eq_true rfl) ?_
  intro p e s m args below meth c Z hZ X hnm
  obtain ⟨hsR, hsO, hsC, hsV, hsT, hsZ, hsq⟩ := X.2.2.2.2.2.2.2.2.2.1.2.2.2
  have K54 : ∀ U : mI, (cLr (S 1) n 0 (cRd0 S)) = (none, U) → rJ p l e (mR 5) s m args below meth c D vwCl mty b 4 Z 0 0 A Sh U G [(0, .ref (A 2)), (2, .int (nI n))] 54 [] := by
    intro U he
    refine rJ_aload_n X dX4_firstWrong_54 rfl rfl ?_
    refine rJ_getI X fX4_21 (by first | exact hw.1 _ _ rfl | assumption) dX4_firstWrong_55 ?_
    refine rJ_ldcS X hsR dX4_firstWrong_58 ?_
    refine rJ_callO (As := []) X hsO cJ_length mJ0_length_8abf5 kvX4_38 kjJ0_length_8abf5 ksJ0_length_8abf5 rfl rfl dX4_firstWrong_60 (by decide) (Nat.le_of_ble_eq_true rfl) ⟨Nat.le_refl _, Nat.le_refl _⟩ ?_
    refine rJ_icmp_ne (tgt := 77) X dX4_firstWrong_63 (by decide) (fun a1 => ?_) (fun a1 => ?_)
    · refine rJ_iload_n X dX4_firstWrong_77 rfl rfl ?_
      exact rJ_iretZ hZ X dX4_firstWrong_78 ⟨by rw [cFwR, he]; clear X hZ hsR hsO hsC hsV hsT hsZ hsq; grind, rfl, rfl, by rw [cFwS, he], rfl⟩
    · refine rJ_aload_n X dX4_firstWrong_66 rfl rfl ?_
      refine rJ_getI X fX4_28 (by first | exact hw.1 _ _ rfl | assumption) dX4_firstWrong_67 ?_
      refine rJ_if_eq (tgt := 77) X dX4_firstWrong_70 (by decide) (fun a2 => ?_) (fun a2 => ?_)
      · refine rJ_iload_n X dX4_firstWrong_77 rfl rfl ?_
        exact rJ_iretZ hZ X dX4_firstWrong_78 ⟨by rw [cFwR, he]; clear X hZ hsR hsO hsC hsV hsT hsZ hsq; grind, rfl, rfl, by rw [cFwS, he], rfl⟩
      · refine rJ_iconst (v := (-1)) X dX4_firstWrong_73 (by decide) ?_
        refine rJ_goto (tgt := 78) X dX4_firstWrong_74 (by decide) ?_
        exact rJ_iretZ hZ X dX4_firstWrong_78 ⟨by rw [cFwR, he]; clear X hZ hsR hsO hsC hsV hsT hsZ hsq; grind, rfl, rfl, by rw [cFwS, he], rfl⟩
  have loop : ∀ (f k : Nat) (U : mI) (nx : Nat), k ≤ n → n - k < f → U 2 1 = nI nx → nx ≤ 7 → U 1 = S 1 → cLr (S 1) (n - k) k U = (cLr (S 1) n 0 (cRd0 S)) → rJ p l e (mR 5) s m args below meth c D vwCl mty b 4 Z 0 0 A Sh U G [(0, .ref (A 2)), (1, .ref (A 1)), (2, .int (nI n)), (3, .int (nI k))] 25 [] := by
    intro f
    induction f with
    | zero => intro k U nx h1 h3; exact absurd h3 (by omega)
    | succ f ih =>
      intro k U nx h1 h3 hx hx7 hU1 he
      refine rJ_iload_n X dX4_firstWrong_25 rfl rfl ?_
      refine rJ_iload_n X dX4_firstWrong_26 rfl rfl ?_
      refine rJ_icmp_ge (tgt := 54) X dX4_firstWrong_27 (by decide) (fun a1 => ?_) (fun a1 => ?_)
      · rw [nI_leI (by omega) (by omega)] at a1
        exact rJ_lv _ rfl (K54 U (by rw [← he, cLr_end a1]))
      · rw [nI_leI (by omega) (by omega)] at a1
        refine rJ_iload_n X dX4_firstWrong_30 rfl rfl ?_
        refine rJ_aload_n X dX4_firstWrong_31 rfl rfl ?_
        refine rJ_alen (v := 30) X (by first | exact hw.1 _ _ rfl | assumption) rfl dX4_firstWrong_32 ?_
        refine rJ_icmp_ge (tgt := 54) X dX4_firstWrong_33 (by decide) (fun a2 => ?_) (fun a2 => ?_)
        · rw [show (30 : Int32) = nI 30 from rfl, nI_leI (by decide) (by omega)] at a2
          exact absurd a2 (by omega)
        · rw [show (30 : Int32) = nI 30 from rfl, nI_leI (by decide) (by omega)] at a2
          refine rJ_aload_n X dX4_firstWrong_36 rfl rfl ?_
          refine rJ_aload_n X dX4_firstWrong_37 rfl rfl ?_
          refine rJ_iload_n X dX4_firstWrong_38 rfl rfl ?_
          refine rJ_ialdK (k := k) X rfl (n := 30) ⟨by omega, by decide⟩ (by first | exact hw.1 _ _ rfl | assumption) dX4_firstWrong_39 ?_
          rw [hU1]
          refine rJ_Vi1 X gX4_32 (cR_takes hw (nx := nxO U) (by show U 2 1 = nI (U 2 1).toNatClampNeg; rw [hx, nI_clamp (by omega)]) (by rw [nxO, hx, nI_clamp (by omega)]; exact hx7) _) (by first | exact hw.1 _ _ rfl | assumption) dX4_firstWrong_40 (by decide) (Nat.le_of_ble_eq_true rfl) ⟨Nat.le_refl _, Nat.le_refl _⟩ ?_
          cases etk : cTk U (nxO U) (S 1 k) with
          | none =>
            refine rJ_if_ne (tgt := 48) X dX4_firstWrong_43 (by decide) (fun a3 => ?_) (fun a3 => ?_)
            · exact absurd rfl a3
            · refine rJ_iload_n X dX4_firstWrong_46 rfl rfl ?_
              have e9 : cLr (S 1) n 0 (cRd0 S) = (some k, U) := by rw [← he]; exact cLr_none (by omega) etk
              exact rJ_iretZ hZ X dX4_firstWrong_47 ⟨by rw [cFwR, e9], rfl, rfl, by rw [cFwS, e9]; rfl, rfl⟩
          | some V =>
            refine rJ_if_ne (tgt := 48) X dX4_firstWrong_43 (by decide) (fun a3 => ?_) (fun a3 => ?_)
            · refine rJ_inc (n := 1) (w := 1) X dX4_firstWrong_48 rfl (by decide) (by decide) ?_
              rw [nI_1 k]
              refine rJ_goto (tgt := 25) X dX4_firstWrong_51 (by decide) ?_
              obtain ⟨⟨n2, hn2, en2⟩, hV⟩ := cTk_ok (by show U 2 1 = nI (U 2 1).toNatClampNeg; rw [hx, nI_clamp (by omega)]) (by rw [nxO, hx, nI_clamp (by omega)]; exact hx7) etk
              exact rJ_lv _ rfl (ih (k + 1) V n2 (by omega) (by omega) en2 hn2 (by rw [hV 1 (by decide) (by decide)]; exact hU1) (by rw [← he, cLr_some V (by omega) etk]))
            · exact absurd a3 (by simp)
  refine rJ_aload_n X dX4_firstWrong_0 rfl rfl ?_
  refine rJ_getR X fX4_9 (by first | exact hw.1 _ _ rfl | assumption) (by first | exact hw.2 _ _ _ rfl | assumption) dX4_firstWrong_1 ?_
  refine rJ_iconst (v := (-1)) X dX4_firstWrong_4 (by decide) ?_
  refine rJ_Sv2 X gX4_15 (cJ_fill (r := 3) (n := 8) (hw.1 _ _ rfl) (by decide) _) dX4_firstWrong_5 (by decide) (Nat.le_of_ble_eq_true rfl) ⟨Nat.le_refl _, Nat.le_refl _⟩ ?_
  refine rJ_aload_n X dX4_firstWrong_8 rfl rfl ?_
  refine rJ_iconst (v := 0) X dX4_firstWrong_9 (by decide) ?_
  refine rJ_setI X fX4_21 (Or.inl fwX4_21) (by first | exact hw.1 _ _ rfl | assumption) ⟨rfl, rfl⟩ dX4_firstWrong_10 (fun S10 hS10 => ?_)
  refine rJ_aload_n X dX4_firstWrong_13 rfl rfl ?_
  refine rJ_iconst (v := 0) X dX4_firstWrong_14 (by decide) ?_
  refine rJ_setI X fX4_25 (Or.inl fwX4_25) (by first | exact hw.1 _ _ rfl | assumption) ⟨rfl, rfl⟩ dX4_firstWrong_15 (fun S15 hS15 => ?_)
  refine rJ_aload_n X dX4_firstWrong_18 rfl rfl ?_
  refine rJ_iconst (v := 0) X dX4_firstWrong_19 (by decide) ?_
  refine rJ_setI X fX4_28 (Or.inl fwX4_28) (by first | exact hw.1 _ _ rfl | assumption) ⟨by decide, by decide⟩ dX4_firstWrong_20 (fun S20 hS20 => ?_)
  refine rJ_iconst (v := 0) X dX4_firstWrong_23 (by decide) ?_
  refine rJ_istore_n X dX4_firstWrong_24 rfl (by decide) ?_
  exact rJ_lv _ rfl (loop (n + 1) 0 S20 0 (by omega) (by omega) (by rw [hS20, mu_ns _ _ _ (by decide), hS15, mu_ns _ _ _ (by decide), hS10, mu_eq]; rfl) (by omega) (by rw [hS20, hS15, hS10, mu_row _ _ _ (by decide), mu_row _ _ _ (by decide), mu_row _ _ _ (by decide)]; funext y; simp [mFl]) (by rw [hS20, hS15, hS10]; rfl))
set_option maxHeartbeats 4000000 in
set_option maxRecDepth 100000 in
theorem cR_writeTo {l : Launch} {D : va_G} {b : Nat} {A : Nat → Nat} {Sh : mS} {S : mI} {G : mP} (hw : okC Sh G) : rMet l D b yX4_writeTo cX4_writeTo 2 none (mR 2) A Sh S G [.ref (A 2), .ref (A 4)] (rPv A Sh (mu (mCpy S 3 5 8) 4 1 (S 2 2 + 1)) G) := by
  refine rMet_oz RX4 rfl (by decide) (Nat.le_of_ble_eq_true rfl) ?_
  intro p e s m args below meth c Z hZ X hnm
  refine rJ_aload_n X dX4_writeTo_0 rfl rfl ?_
  refine rJ_aload_n X dX4_writeTo_1 rfl rfl ?_
  refine rJ_getR X fX4_9 (by first | exact hw.1 _ _ rfl | assumption) (by first | exact hw.2 _ _ _ rfl | assumption) dX4_writeTo_2 ?_
  refine rJ_aload_n X dX4_writeTo_5 rfl rfl ?_
  refine rJ_getI X fX4_25 (by first | exact hw.1 _ _ rfl | assumption) dX4_writeTo_6 ?_
  refine rJ_iconst (v := 1) X dX4_writeTo_9 (by decide) ?_
  refine rJ_iadd X dX4_writeTo_10 ?_
  refine rJ_Vv2 X gX4_44 (cL_become hw _) (by first | exact hw.1 _ _ rfl | assumption) dX4_writeTo_11 (by decide) (Nat.le_of_ble_eq_true rfl) ⟨Nat.le_refl _, Nat.le_refl _⟩ ?_
  exact rJ_vretZ hZ X dX4_writeTo_14 ⟨rfl, rfl, rfl, rfl, rfl⟩
