theorem kc41 : Cond.constant RX6 30 41000 ∈ TT := TT_3 220 rfl rfl
theorem qS_no2 {S : mI} {q : sQ} (hc : ¬ qC S q) : (qS S q).2 = q.2 := qS_no hc
/-- what the class holds, told by another state -/
def oH (S Y : mI) (cnt g m : Nat) : Prop := (∀ n : Int32, S (cAt cnt n) 0 = mKind Y n ∧ S (cAt cnt n) 1 = tg (mKind Y n) (Y 107 n.toNatClampNeg) ∧ (¬ mKind Y n = 0 → S (cAt cnt n) 2 = Y 108 n.toNatClampNeg ∧ S (cAt cnt n) 3 = Y 109 n.toNatClampNeg ∧ S (cAt cnt n) 4 = Y 110 n.toNatClampNeg)) ∧ (∀ n : Int32, 0 ≤ mKind Y n ∧ mKind Y n ≤ 9) ∧ (∀ n : Int32, ¬ mKind Y n = 0 → vp_in (Y 107 n.toNatClampNeg) 8 ∧ vp_in (Y 108 n.toNatClampNeg) 8 ∧ vp_in (Y 109 n.toNatClampNeg) 8) ∧ (∀ k, k < 64 → S 10 k = Y 112 k) ∧ (m ≤ qM Y g ∧ m ≤ 1000 ∧ S 12 1 = nI m) ∧ (∀ t, t < g → ¬ mKind Y (qN Y t).1 = 0) ∧ (∀ t, t < g → qC Y (qN Y t) → qM Y t < m → S 13 (qM Y t * 4) = qW Y (qN Y t) ∧ S 13 (qM Y t * 4 + 1) = qH Y (qN Y t) ∧ S 13 (qM Y t * 4 + 2) = qV Y (qN Y t)) ∧ (m ≤ qM Y 41000)
theorem oH.row {S Y : mI} {cnt g m : Nat} (h : oH S Y cnt g m) : ∀ n : Int32, S (cAt cnt n) 0 = mKind Y n ∧ S (cAt cnt n) 1 = tg (mKind Y n) (Y 107 n.toNatClampNeg) ∧ (¬ mKind Y n = 0 → S (cAt cnt n) 2 = Y 108 n.toNatClampNeg ∧ S (cAt cnt n) 3 = Y 109 n.toNatClampNeg ∧ S (cAt cnt n) 4 = Y 110 n.toNatClampNeg) := h.1
theorem oH.knd {S Y : mI} {cnt g m : Nat} (h : oH S Y cnt g m) : ∀ n : Int32, 0 ≤ mKind Y n ∧ mKind Y n ≤ 9 := h.2.1
theorem oH.reg {S Y : mI} {cnt g m : Nat} (h : oH S Y cnt g m) : ∀ n : Int32, ¬ mKind Y n = 0 → vp_in (Y 107 n.toNatClampNeg) 8 ∧ vp_in (Y 108 n.toNatClampNeg) 8 ∧ vp_in (Y 109 n.toNatClampNeg) 8 := h.2.2.1
theorem oH.base {S Y : mI} {cnt g m : Nat} (h : oH S Y cnt g m) : ∀ k, k < 64 → S 10 k = Y 112 k := h.2.2.2.1
theorem oH.len {S Y : mI} {cnt g m : Nat} (h : oH S Y cnt g m) : m ≤ qM Y g ∧ m ≤ 1000 ∧ S 12 1 = nI m := h.2.2.2.2.1
theorem oH.some {S Y : mI} {cnt g m : Nat} (h : oH S Y cnt g m) : ∀ t, t < g → ¬ mKind Y (qN Y t).1 = 0 := h.2.2.2.2.2.1
theorem oH.log {S Y : mI} {cnt g m : Nat} (h : oH S Y cnt g m) : ∀ t, t < g → qC Y (qN Y t) → qM Y t < m → S 13 (qM Y t * 4) = qW Y (qN Y t) ∧ S 13 (qM Y t * 4 + 1) = qH Y (qN Y t) ∧ S 13 (qM Y t * 4 + 2) = qV Y (qN Y t) := h.2.2.2.2.2.2.1
theorem oH.all {S Y : mI} {cnt g m : Nat} (h : oH S Y cnt g m) : m ≤ qM Y 41000 := h.2.2.2.2.2.2.2
theorem vp8 {x : Int32} (h : vp_in x 8) : 0 ≤ x ∧ x < 8 := by
  have := vp_in_iff.mp h
  rw [i_le, i_lt]
  exact ⟨this.1, this.2⟩
theorem kd_cases {k : Int32} (h : 0 ≤ k ∧ k ≤ 9) : k = 0 ∨ k = 1 ∨ k = 2 ∨ k = 3 ∨ k = 4 ∨ k = 5 ∨ k = 6 ∨ k = 7 ∨ k = 8 ∨ k = 9 := by
  simp only [i_le, i_eq, Int32.reduceToInt] at *
  omega
set_option maxHeartbeats 4000000 in
set_option maxRecDepth 100000 in
theorem cO_agreesWith {l : Launch} {D : va_G} {b : Nat} {A : Nat → Nat} {Sh : mS} {S : mI} {G : mP} {st cnt g mm : Nat} {Y : mI} (hI : cInv Sh S G st cnt) (hO : oH S Y cnt g mm) : rMet l D b yX6_agreesWith cX6_agreesWith 8 (some .boolean) (mR 4) A Sh S G [.ref (A 20), .ref (A 12)] (fun v A' Sh' S' G' => v = some (.int 1) ∧ A' = A ∧ Sh' = Sh ∧ G' = G ∧ ∀ x, x ≠ 22 → x ≠ 23 → S' x = S x) := by
  refine rMet_oz RX6 rfl (by decide) (Nat.le_of_ble_eq_true rfl) ?_
  intro p e s m args below meth c Z hZ X hnm
  obtain ⟨hw, ht, h4, ⟨h2, h8⟩, h6c, h40, hr, hi, hl, kp, hk1, hk⟩ := id hI
  have KE : ∀ (U : mI), (∀ x, x ≠ 22 → x ≠ 23 → U x = S x) → ∀ z : Nat, z = mm → rJ p l e (mR 4) s m args below meth c D vwCl mty b 8 Z 0 0 A Sh U G [(0, .ref (A 20)), (1, .ref (A 12)), (3, .int (nI z))] 139 [] := by
    intro U hx z hz
    subst hz
    have hmU : U 12 1 = nI z := by rw [hx 12 (by decide) (by decide)]; exact hO.len.2.2
    refine rJ_iload_n X dX6_agreesWith_139 rfl rfl ?_
    refine rJ_aload_n X dX6_agreesWith_140 rfl rfl ?_
    refine rJ_Vi0 X gX6_31 (cG_size hw) (by first | exact hw.1 _ _ rfl | assumption) dX6_agreesWith_141 (by decide) (Nat.le_of_ble_eq_true rfl) ⟨Nat.le_refl _, Nat.le_refl _⟩ ?_
    rw [hmU]
    refine rJ_icmp_ne (tgt := 151) X dX6_agreesWith_144 (by decide) (fun a1 => ?_) (fun a1 => ?_)
    · exact absurd rfl (by assumption)
    · refine rJ_iconst (v := 1) X dX6_agreesWith_147 (by decide) ?_
      refine rJ_goto (tgt := 152) X dX6_agreesWith_148 (by decide) ?_
      exact rJ_zretZ hZ X dX6_agreesWith_152 rfl ⟨rfl, rfl, rfl, rfl, hx⟩
  have K81 : ∀ (t : Nat) (U : mI), (∀ x, x ≠ 22 → x ≠ 23 → U x = S x) → (∀ j, j < 8 → U 22 j = (qN Y t).2.1 j) → (∀ j, j < 64 → U 23 j = (qN Y t).2.2 j) → t < g → ¬ mKind Y (qN Y t).1 = 0 → qM Y t < mm → S (cAt cnt (qN Y t).1) 0 = mKind Y (qN Y t).1 → S (cAt cnt (qN Y t).1) 1 = tg (mKind Y (qN Y t).1) (Y 107 (qN Y t).1.toNatClampNeg) → S (cAt cnt (qN Y t).1) 4 = Y 110 (qN Y t).1.toNatClampNeg → Sh (cAt cnt (qN Y t).1) = some (0, 2, 0) → ((cAt cnt (qN Y t).1) = 8 ∨ 32 ≤ (cAt cnt (qN Y t).1)) → t < 41000 → (∀ (V : mI), (∀ x, x ≠ 22 → x ≠ 23 → V x = S x) → (∀ j, j < 8 → V 22 j = (qN Y (t + 1)).2.1 j) → (∀ j, j < 64 → V 23 j = (qN Y (t + 1)).2.2 j) → qM Y (t + 1) ≤ mm → rJ p l e (mR 4) s m args below meth c D vwCl mty b 8 Z 0 0 A Sh V G [(0, .ref (A 20)), (1, .ref (A 12)), (2, .int (qN Y (t + 1)).1), (3, .int (nI (qM Y (t + 1)))), (4, .int (nI (t + 1)))] 18 []) → rJ p l e (mR 4) s m args below meth c D vwCl mty b 8 Z 0 0 A Sh U G [(0, .ref (A 20)), (1, .ref (A 12)), (2, .int (qN Y t).1), (3, .int (nI (qM Y t))), (4, .int (nI t)), (5, .ref (A (cAt cnt (qN Y t).1))), (6, .int (qA Y (qN Y t))), (7, .int (qB Y (qN Y t)))] 81 [] := by
    intro t U hx h5 h6 htg hkn hlt e0 e1 e4 hqs hqr ht9 ih
    have hmU : U 12 1 = nI mm := by rw [hx 12 (by decide) (by decide)]; exact hO.len.2.2
    have hlog := hO.log t htg
    have hm2 := hO.len.2.1
    have hkd := kd_cases (hO.knd (qN Y t).1)
    have eu : U (cAt cnt (qN Y t).1) = S (cAt cnt (qN Y t).1) := hx _ (by omega) (by omega)
    have hiU : iD (U (cAt cnt (qN Y t).1) 0) (U (cAt cnt (qN Y t).1) 1) := by rw [eu]; exact hi _ hqs
    have K109 : ∀ (U : mI) (z : Nat), (∀ x, x ≠ 22 → x ≠ 23 → U x = S x) → (∀ j, j < 8 → U 22 j = (qN Y (t + 1)).2.1 j) → (∀ j, j < 64 → U 23 j = (qN Y (t + 1)).2.2 j) → qM Y (t + 1) = z → qM Y (t + 1) ≤ mm → rJ p l e (mR 4) s m args below meth c D vwCl mty b 8 Z 0 0 A Sh U G [(0, .ref (A 20)), (1, .ref (A 12)), (2, .int (qN Y t).1), (3, .int (nI z)), (4, .int (nI t)), (5, .ref (A (cAt cnt (qN Y t).1))), (6, .int (qA Y (qN Y t))), (7, .int (qB Y (qN Y t)))] 109 [] := by
      intro U z hx h5 h6 hz hM1
      subst hz
      refine rJ_aload X dX6_agreesWith_109 rfl ?_
      refine rJ_iload X dX6_agreesWith_111 rfl ?_
      refine rJ_iload X dX6_agreesWith_113 rfl ?_
      refine rJ_Vi2 X gX6_66 (cI_goesOn hqs _ _) hqs dX6_agreesWith_115 (by decide) (Nat.le_of_ble_eq_true rfl) ⟨Nat.le_refl _, Nat.le_refl _⟩ ?_
      refine rJ_if_eq (tgt := 129) X dX6_agreesWith_118 (by decide) (fun a1 => ?_) (fun a1 => ?_)
      · try replace a1 := z_f a1
        have hgo := a1
        rw [hx _ (by omega) (by omega), e0] at hgo
        refine rJ_iload_n X dX6_agreesWith_129 rfl rfl ?_
        refine rJ_iconst (v := 1) X dX6_agreesWith_130 (by decide) ?_
        refine rJ_iadd X dX6_agreesWith_131 ?_
        refine rJ_as (qN Y (t + 1)).1 (by have e : (qN Y (t + 1)).1 = if qJ Y (qN Y t) then Y 110 (qN Y t).1.toNatClampNeg else (qN Y t).1 + 1 := rfl; rw [e]; first | rw [if_pos hgo] | rw [if_neg hgo]) ?_
        refine rJ_istore_n X dX6_agreesWith_132 rfl (by decide) ?_
        refine rJ_inc (n := 1) (w := 1) X dX6_agreesWith_133 rfl (by decide) (by decide) ?_
        rw [nI_1 t]
        refine rJ_goto (tgt := 18) X dX6_agreesWith_136 (by decide) ?_
        exact rJ_lv _ rfl (ih U hx h5 h6 hM1)
      · try replace a1 := z_t a1
        have hgo := a1
        rw [hx _ (by omega) (by omega), e0] at hgo
        refine rJ_aload X dX6_agreesWith_121 rfl ?_
        refine rJ_Vi0 X gX6_70 (cI_goal hqs) hqs dX6_agreesWith_123 (by decide) (Nat.le_of_ble_eq_true rfl) ⟨Nat.le_refl _, Nat.le_refl _⟩ ?_
        rw [hx _ (by omega) (by omega), e4]
        refine rJ_goto (tgt := 132) X dX6_agreesWith_126 (by decide) ?_
        refine rJ_as (qN Y (t + 1)).1 (by have e : (qN Y (t + 1)).1 = if qJ Y (qN Y t) then Y 110 (qN Y t).1.toNatClampNeg else (qN Y t).1 + 1 := rfl; rw [e]; first | rw [if_pos hgo] | rw [if_neg hgo]) ?_
        refine rJ_istore_n X dX6_agreesWith_132 rfl (by decide) ?_
        refine rJ_inc (n := 1) (w := 1) X dX6_agreesWith_133 rfl (by decide) (by decide) ?_
        rw [nI_1 t]
        refine rJ_goto (tgt := 18) X dX6_agreesWith_136 (by decide) ?_
        exact rJ_lv _ rfl (ih U hx h5 h6 hM1)
    have KD : qC Y (qN Y t) → (1 ≤ mKind Y (qN Y t).1 ∧ mKind Y (qN Y t).1 ≤ 5) ∨ mKind Y (qN Y t).1 = 6 ∨ mKind Y (qN Y t).1 = 8 := fun q => by
      rcases hkd with h | h | h | h | h | h | h | h | h | h <;> simp [h, qC] at q hkn ⊢
    have KF : (1 ≤ mKind Y (qN Y t).1 ∧ mKind Y (qN Y t).1 ≤ 5) ∨ mKind Y (qN Y t).1 = 6 ∨ mKind Y (qN Y t).1 = 8 → qC Y (qN Y t) := fun q => by
      rcases hkd with h | h | h | h | h | h | h | h | h | h <;> simp [h, qC] at q ⊢
    have KP0 : (qA Y (qN Y t) + U (cAt cnt (qN Y t).1) 4) &&& 63 = qP Y (qN Y t) := by rw [eu, e4]; rfl
    have KW : qC Y (qN Y t) → oW U (cAt cnt (qN Y t).1) (qA Y (qN Y t)) = qH Y (qN Y t) ∧ oV U (cAt cnt (qN Y t).1) (qA Y (qN Y t)) (qB Y (qN Y t)) = qV Y (qN Y t) ∧ cWk U (cAt cnt (qN Y t).1) = qW Y (qN Y t) := fun q => by
      have h6P := h6 _ (vp_in_nat (qP_in Y (qN Y t))).2
      have k0 : U (cAt cnt (qN Y t).1) 0 = mKind Y (qN Y t).1 := by rw [eu, e0]
      have k1 : U (cAt cnt (qN Y t).1) 1 = tg (mKind Y (qN Y t).1) (Y 107 (qN Y t).1.toNatClampNeg) := by rw [eu, e1]
      have k4 : U (cAt cnt (qN Y t).1) 4 = Y 110 (qN Y t).1.toNatClampNeg := by rw [eu, e4]
      simp only [oW, oV, cWk, KP0, k0, k1, tg]
      rcases hkd with h | h | h | h | h | h | h | h | h | h <;> simp [h, qC] at q hkn ⊢ <;> simp [h, qH, qV, qW, cWork, h6P, k4]
    have KC : (1 ≤ mKind Y (qN Y t).1 ∧ mKind Y (qN Y t).1 ≤ 5) ∨ mKind Y (qN Y t).1 = 6 ∨ mKind Y (qN Y t).1 = 8 → cHolds U mm (qM Y t) (cWk U (cAt cnt (qN Y t).1)) (oW U (cAt cnt (qN Y t).1) (qA Y (qN Y t))) (oV U (cAt cnt (qN Y t).1) (qA Y (qN Y t)) (qB Y (qN Y t))) := fun q => by
      have q := KF q
      obtain ⟨w1, w2, w3⟩ := KW q
      obtain ⟨l1, l2, l3⟩ := hlog q hlt
      have e13 : U 13 = S 13 := hx 13 (by decide) (by decide)
      exact ⟨hlt, by rw [e13, l1, w3], by rw [e13, l2, w1], by rw [e13, l3, w2]⟩
    have KX : ∀ x, x ≠ 22 → x ≠ 23 → oT U (cAt cnt (qN Y t).1) (qA Y (qN Y t)) (qB Y (qN Y t)) x = S x := fun x h1 h2 => by rw [oT_n _ _ _ _ h1 h2]; exact hx x h1 h2
    have KT : qC Y (qN Y t) → oT U (cAt cnt (qN Y t).1) (qA Y (qN Y t)) (qB Y (qN Y t)) = if mKind Y (qN Y t).1 = 6 then mu U 23 (qP Y (qN Y t)).toNatClampNeg (qV Y (qN Y t)) else if mKind Y (qN Y t).1 < 6 then mu U 22 (Y 107 (qN Y t).1.toNatClampNeg).toNatClampNeg (qV Y (qN Y t)) else U := fun q => by
      obtain ⟨w1, w2, w3⟩ := KW q
      have hp := vp8 (hO.reg _ hkn).1
      have hpl := pl_lt (qA Y (qN Y t) + Y 110 (qN Y t).1.toNatClampNeg)
      have k0 : U (cAt cnt (qN Y t).1) 0 = mKind Y (qN Y t).1 := by rw [eu, e0]
      simp only [oT, cTake, w1, w2, k0]
      rcases hkd with h | h | h | h | h | h | h | h | h | h <;> simp [h, qC] at q hkn ⊢ <;> simp [h, qH, hp, qP, hpl]
    have KR : qC Y (qN Y t) → ∀ j, j < 8 → oT U (cAt cnt (qN Y t).1) (qA Y (qN Y t)) (qB Y (qN Y t)) 22 j = (qN Y (t + 1)).2.1 j := fun q j hj => by
      rw [KT q, qN, qS]
      have := h5 j hj
      by_cases h : mKind Y (qN Y t).1 = 6
      · simp [h, mu, this]
      · by_cases h' : mKind Y (qN Y t).1 < 6
        · simp [h, h', mu, upd, this]
        · simp [h, h', this]
    have KP : qC Y (qN Y t) → ∀ j, j < 64 → oT U (cAt cnt (qN Y t).1) (qA Y (qN Y t)) (qB Y (qN Y t)) 23 j = (qN Y (t + 1)).2.2 j := fun q j hj => by
      rw [KT q, qN, qS]
      have := h6 j hj
      by_cases h : mKind Y (qN Y t).1 = 6
      · simp [h, mu, upd, this]
      · by_cases h' : mKind Y (qN Y t).1 < 6
        · simp [h, h', mu, this]
        · simp [h, h', this]
    refine rJ_aload X dX6_agreesWith_81 rfl ?_
    refine rJ_Vi0 X gX6_58 (cI_commitsAnything hqs hiU) hqs dX6_agreesWith_83 (by decide) (Nat.le_of_ble_eq_true rfl) ⟨Nat.le_refl _, Nat.le_refl _⟩ ?_
    refine rJ_if_eq (tgt := 109) X dX6_agreesWith_86 (by decide) (fun a1 => ?_) (fun a1 => ?_)
    · try replace a1 := z_f a1
      have hnc := a1
      rw [eu, e0] at hnc
      have hq9 : ¬ qC Y (qN Y t) := fun q => hnc (KD q)
      exact rJ_lv _ rfl (K109 U _ hx (by rw [qN, qS_no2 hq9]; exact h5) (by rw [qN, qS_no2 hq9]; exact h6) (by rw [qM.eq_2, if_neg hq9]) (by rw [qM.eq_2, if_neg hq9]; omega))
    · try replace a1 := z_t a1
      have hnc := a1
      rw [eu, e0] at hnc
      refine rJ_aload_n X dX6_agreesWith_89 rfl rfl ?_
      refine rJ_aload_n X dX6_agreesWith_90 rfl rfl ?_
      refine rJ_iload_n X dX6_agreesWith_91 rfl rfl ?_
      refine rJ_aload X dX6_agreesWith_92 rfl ?_
      refine rJ_iload X dX6_agreesWith_94 rfl ?_
      refine rJ_iload X dX6_agreesWith_96 rfl ?_
      refine rJ_Vi5 X gX6_62 (cO_commitsAs hw hmU hO.len.2.1 hqs hiU hqr (by omega) _ _) (by first | exact hw.1 _ _ rfl | assumption) dX6_agreesWith_98 (by decide) (Nat.le_of_ble_eq_true rfl) ⟨Nat.le_refl _, Nat.le_refl _⟩ ?_
      refine rJ_if_ne (tgt := 106) X dX6_agreesWith_101 (by decide) (fun a2 => ?_) (fun a2 => ?_)
      · try replace a2 := z_t a2
        have hcm := a2
        refine rJ_inc (n := 1) (w := 1) X dX6_agreesWith_106 rfl (by decide) (by decide) ?_
        rw [nI_1]
        have hq9 : qC Y (qN Y t) := KF hnc
        exact rJ_lv _ rfl (K109 _ _ KX (KR hq9) (KP hq9) (by rw [qM.eq_2, if_pos hq9]) (by rw [qM.eq_2, if_pos hq9]; omega))
      · try replace a2 := z_f a2
        have hcm := a2
        exact absurd (KC hnc) hcm
  have loop : ∀ (f t : Nat) (U : mI), (∀ x, x ≠ 22 → x ≠ 23 → U x = S x) → (∀ j, j < 8 → U 22 j = (qN Y t).2.1 j) → (∀ j, j < 64 → U 23 j = (qN Y t).2.2 j) → qM Y t ≤ mm → t ≤ 41000 → 41000 - t < f → rJ p l e (mR 4) s m args below meth c D vwCl mty b 8 Z 0 0 A Sh U G [(0, .ref (A 20)), (1, .ref (A 12)), (2, .int (qN Y t).1), (3, .int (nI (qM Y t))), (4, .int (nI t))] 18 [] := by
    intro f
    induction f with
    | zero => intro t U hx h5 h6 h7 h1 h3; exact absurd h3 (by omega)
    | succ f ih =>
      intro t U hx h5 h6 h7 h1 h3
      have hs := hO.some
      have hmU : U 12 1 = nI mm := by rw [hx 12 (by decide) (by decide)]; exact hO.len.2.2
      have hm1 := hO.len.1
      have hm2 := hO.len.2.1
      have hall := hO.all
      have hcU : U 6 2 = nI cnt := by rw [hx 6 (by decide) (by decide)]; exact h6c
      have hrow0 := hO.row (qN Y t).1
      refine rJ_iload X dX6_agreesWith_18 rfl ?_
      refine rJ_ldc X dX6_agreesWith_20 kc41 ?_
      refine rJ_icmp_ge (tgt := 139) X dX6_agreesWith_22 (by decide) (fun a1 => ?_) (fun a1 => ?_)
      · rw [show (41000 : Int32) = nI 41000 from rfl, nI_leI (by omega) (by omega)] at a1
        exact rJ_lv _ rfl (KE U hx _ (by have := qM_up Y a1; omega))
      · rw [show (41000 : Int32) = nI 41000 from rfl, nI_leI (by omega) (by omega)] at a1
        refine rJ_iload_n X dX6_agreesWith_25 rfl rfl ?_
        refine rJ_aload_n X dX6_agreesWith_26 rfl rfl ?_
        refine rJ_Vi0 X gX6_31 (cG_size hw) (by first | exact hw.1 _ _ rfl | assumption) dX6_agreesWith_27 (by decide) (Nat.le_of_ble_eq_true rfl) ⟨Nat.le_refl _, Nat.le_refl _⟩ ?_
        rw [hmU]
        refine rJ_icmp_ge (tgt := 139) X dX6_agreesWith_30 (by decide) (fun a2 => ?_) (fun a2 => ?_)
        · rw [nI_leI (by omega) (by omega)] at a2
          exact rJ_lv _ rfl (KE U hx _ (by omega))
        · rw [nI_leI (by omega) (by omega)] at a2
          refine rJ_aload_n X dX6_agreesWith_33 rfl rfl ?_
          refine rJ_getR X fX6_18 (by first | exact hw.1 _ _ rfl | assumption) (by first | exact hw.2 _ _ _ rfl | assumption) dX6_agreesWith_34 ?_
          refine rJ_iload_n X dX6_agreesWith_37 rfl rfl ?_
          refine rJ_Vr1 X gX6_37 (cP_at hw hcU h40 (fun j hj => (hr j hj).1) _) (by first | exact hw.1 _ _ rfl | assumption) dX6_agreesWith_38 (by decide) (Nat.le_of_ble_eq_true rfl) ⟨Nat.le_refl _, Nat.le_refl _⟩ ?_
          have htg : t < g := qM_lt (S := Y) (by omega)
          have hkn := hs t htg
          have hqs := cAt_sh hI (qN Y t).1
          have hqr : cAt cnt (qN Y t).1 = 8 ∨ 32 ≤ cAt cnt (qN Y t).1 := hl _ hqs
          have eu : U (cAt cnt (qN Y t).1) = S (cAt cnt (qN Y t).1) := hx _ (by omega) (by omega)
          obtain ⟨e0, e1, e9⟩ := hrow0
          obtain ⟨e2, e3, e4⟩ := e9 hkn
          refine rJ_astore X dX6_agreesWith_41 (by decide) ?_
          refine rJ_aload X dX6_agreesWith_43 rfl ?_
          refine rJ_Vi0 X gX6_43 (cI_kind hqs) hqs dX6_agreesWith_45 (by decide) (Nat.le_of_ble_eq_true rfl) ⟨Nat.le_refl _, Nat.le_refl _⟩ ?_
          rw [eu, e0]
          refine rJ_if_ne (tgt := 53) X dX6_agreesWith_48 (by decide) (fun a3 => ?_) (fun a3 => ?_)
          · refine rJ_aload_n X dX6_agreesWith_53 rfl rfl ?_
            refine rJ_getR X fX6_12 (by first | exact hw.1 _ _ rfl | assumption) (by first | exact hw.2 _ _ _ rfl | assumption) dX6_agreesWith_54 ?_
            refine rJ_aload X dX6_agreesWith_57 rfl ?_
            refine rJ_Vi0 X gX6_48 (cI_left hqs) hqs dX6_agreesWith_59 (by decide) (Nat.le_of_ble_eq_true rfl) ⟨Nat.le_refl _, Nat.le_refl _⟩ ?_
            rw [eu, e2]
            refine rJ_Vi1 X gX6_51 (cH_inRegister (r := 21) (r1 := 22) (r2 := 23) (hw.1 _ _ rfl) (hw.2 _ _ _ rfl) (hw.2 _ _ _ rfl) (hw.1 _ _ rfl) (hw.1 _ _ rfl) _) (by first | exact hw.1 _ _ rfl | assumption) dX6_agreesWith_62 (by decide) (Nat.le_of_ble_eq_true rfl) ⟨Nat.le_refl _, Nat.le_refl _⟩ ?_
            rw [if_pos (vp8 (hO.reg _ hkn).2.1)]
            refine rJ_as (qA Y (qN Y t)) (h5 _ (vp_in_nat (hO.reg _ hkn).2.1).2) ?_
            refine rJ_istore X dX6_agreesWith_65 (by decide) ?_
            refine rJ_aload_n X dX6_agreesWith_67 rfl rfl ?_
            refine rJ_getR X fX6_12 (by first | exact hw.1 _ _ rfl | assumption) (by first | exact hw.2 _ _ _ rfl | assumption) dX6_agreesWith_68 ?_
            refine rJ_aload X dX6_agreesWith_71 rfl ?_
            refine rJ_Vi0 X gX6_55 (cI_right hqs) hqs dX6_agreesWith_73 (by decide) (Nat.le_of_ble_eq_true rfl) ⟨Nat.le_refl _, Nat.le_refl _⟩ ?_
            rw [eu, e3]
            refine rJ_Vi1 X gX6_51 (cH_inRegister (r := 21) (r1 := 22) (r2 := 23) (hw.1 _ _ rfl) (hw.2 _ _ _ rfl) (hw.2 _ _ _ rfl) (hw.1 _ _ rfl) (hw.1 _ _ rfl) _) (by first | exact hw.1 _ _ rfl | assumption) dX6_agreesWith_76 (by decide) (Nat.le_of_ble_eq_true rfl) ⟨Nat.le_refl _, Nat.le_refl _⟩ ?_
            rw [if_pos (vp8 (hO.reg _ hkn).2.2)]
            refine rJ_as (qB Y (qN Y t)) (h5 _ (vp_in_nat (hO.reg _ hkn).2.2).2) ?_
            refine rJ_istore X dX6_agreesWith_79 (by decide) ?_
            exact rJ_lv _ rfl (K81 t U hx h5 h6 htg hkn (by omega) e0 e1 e4 hqs hqr (by omega) (fun V v1 v2 v3 v4 => ih (t + 1) V v1 v2 v3 v4 (by omega) (by omega)))
          · exact absurd a3 hkn
  refine rJ_aload_n X dX6_agreesWith_0 rfl rfl ?_
  refine rJ_getR X fX6_12 (by first | exact hw.1 _ _ rfl | assumption) (by first | exact hw.2 _ _ _ rfl | assumption) dX6_agreesWith_1 ?_
  refine rJ_aload_n X dX6_agreesWith_4 rfl rfl ?_
  refine rJ_getR X fX6_22 (by first | exact hw.1 _ _ rfl | assumption) (by first | exact hw.2 _ _ _ rfl | assumption) dX6_agreesWith_5 ?_
  refine rJ_Vv1 X gX6_26 (cH_reset hw (r := 21) (r1 := 22) (r2 := 23) (hw.1 _ _ rfl) (hw.2 _ _ _ rfl) (hw.2 _ _ _ rfl) (hw.1 _ _ rfl) (hw.1 _ _ rfl)) (by first | exact hw.1 _ _ rfl | assumption) dX6_agreesWith_8 (by decide) (Nat.le_of_ble_eq_true rfl) ⟨Nat.le_refl _, Nat.le_refl _⟩ ?_
  refine rJ_iconst (v := 0) X dX6_agreesWith_11 (by decide) ?_
  refine rJ_istore_n X dX6_agreesWith_12 rfl (by decide) ?_
  refine rJ_iconst (v := 0) X dX6_agreesWith_13 (by decide) ?_
  refine rJ_istore_n X dX6_agreesWith_14 rfl (by decide) ?_
  refine rJ_iconst (v := 0) X dX6_agreesWith_15 (by decide) ?_
  refine rJ_istore X dX6_agreesWith_16 (by decide) ?_
  exact rJ_lv _ rfl (loop 41001 0 _ (fun x h1 h2 => by rw [mCpy_n _ _ _ _ h2, mFl_n _ _ _ _ h1]) (fun j hj => by rw [mCpy_n _ _ _ _ (by decide)]; simp [mFl, hj, qN, qO]) (fun j hj => by simp [mCpy, mFl, hj, qN, qO]; exact hO.base j hj) (Nat.zero_le _) (by omega) (by omega))
set_option maxHeartbeats 4000000 in
set_option maxRecDepth 100000 in
theorem cF_faithful {l : Launch} {D : va_G} {b : Nat} {A : Nat → Nat} {Sh : mS} {S : mI} {G : mP} {st cnt g mm : Nat} {Y : mI} (hI : cInv Sh S G st cnt) (hO : oH S Y cnt g mm) : rMet l D b yX10_faithful cX10_faithful 1 (some .boolean) (mR 5) A Sh S G [.ref (A 0)] (fun v A' Sh' S' G' => v = some (.int 1) ∧ A' = A ∧ Sh' = Sh ∧ G' = G ∧ ∀ x, x ≠ 22 → x ≠ 23 → S' x = S x) := by
  refine rMet_oz RX10 rfl (by decide) (Nat.le_of_ble_eq_true rfl) ?_
  intro p e s m args below meth c Z hZ X hnm
  have hw := hI.1
  refine rJ_aload_n X dX10_faithful_0 rfl rfl ?_
  refine rJ_getR X fX10_62 (by first | exact hw.1 _ _ rfl | assumption) (by first | exact hw.2 _ _ _ rfl | assumption) dX10_faithful_1 ?_
  refine rJ_aload_n X dX10_faithful_4 rfl rfl ?_
  refine rJ_getR X fX10_44 (by first | exact hw.1 _ _ rfl | assumption) (by first | exact hw.2 _ _ _ rfl | assumption) dX10_faithful_5 ?_
  refine rJ_callV (As := [.ref (A 12)]) X gX10_145 (cO_agreesWith hI hO) (hw.1 _ _ rfl) rfl rfl (by decide) ⟨Nat.le_of_ble_eq_true rfl, Nat.le_of_ble_eq_true rfl⟩ ⟨Nat.le_refl _, Nat.le_refl _⟩ dX10_faithful_8 ?_
  intro v A' Sh' S' G' hp
  obtain ⟨rfl, rfl, rfl, rfl, hx⟩ := hp
  exact rJ_zretZ hZ X dX10_faithful_11 rfl ⟨rfl, rfl, rfl, rfl, hx⟩
