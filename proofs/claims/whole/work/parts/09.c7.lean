abbrev kpO (S : mI) : Nat := (S 12 1).toNatClampNeg
/-- what firing stage s0 makes of the numbers -/
def cFire (S : mI) (G : mP) (st s0 : Nat) : mI := cF7 (cF6 (cF5 (cF4 (cF3 (cF2 (cF1 S G st s0 (thG G s0) (roG G (thG G s0))) s0 (thG G s0) (roG G (thG G s0))) G s0 (thG G s0) (roG G (thG G s0))) s0 (thG G s0) (roG G (thG G s0))) s0 (thG G s0) (roG G (thG G s0))) (kpO S) s0 (thG G s0) (roG G (thG G s0))) st s0 (thG G s0)
theorem cFin_n (S : mI) (kp t q : Nat) {x : Nat} (h : x ≠ 14 ∧ x ≠ 17 ∧ x ≠ 16 ∧ x ≠ 19 ∧ x ≠ 12 ∧ x ≠ 13) : cFin S kp t q x = S x := by
  obtain ⟨h1, h2, h3, h4, h5, h6⟩ := h
  unfold cFin
  split
  · exact mu_row _ _ _ h1
  · split
    · rw [mu_row _ _ _ h1, cAdd_n _ _ _ _ _ _ h5 h6, mu_row _ _ _ h2]
    · split
      · exact cAdd_n _ _ _ _ _ _ h5 h6
      · split
        · rw [mu_row _ _ _ h4, cAdd_n _ _ _ _ _ _ h5 h6, mu_row _ _ _ h3]
        · rfl
theorem okT_of {Sh : mS} {S U : mI} {G : mP} (h : okT Sh S G) (he : ∀ k, k < 8 → U (thG G k) 0 = S (thG G k) 0) : okT Sh U G := ⟨fun k hk => by
  obtain ⟨h1, h2, h3, h4, h5, h6, h7⟩ := h.1 k hk
  exact ⟨h1, h2, h3, h4, h5, h6, by show U (thG G k) 0 = 0 ∨ U (thG G k) 0 = 1; rw [he k hk]; exact h7⟩, h.2⟩
theorem cFin_ok {Sh : mS} {G : mP} {U : mI} (hU : okT Sh U G) {s0 : Nat} (hs : s0 < 8) (kp q : Nat) (htr : 24 ≤ thG G s0 ∧ thG G s0 < 32) (hqr : q = 8 ∨ 32 ≤ q) : okT Sh (cFin U kp (thG G s0) q) G ∧ cFin U kp (thG G s0) q 4 = U 4 := ⟨okT_of hU (fun k hk => by have := hU.r hk; rw [cFin_n _ _ _ _ (by omega)]), cFin_n _ _ _ _ (by decide)⟩
theorem cRd_kp {Sh : mS} {G : mP} {S : mI} {st s0 : Nat} (ht : okT Sh S G) (htr : 24 ≤ thG G s0 ∧ thG G s0 < 32) (hqr : (roG G (thG G s0)) = 8 ∨ 32 ≤ (roG G (thG G s0))) : cKp Sh G S (if cR2 (S (roG G (thG G s0)) 0) then mu (if mR1 (S (roG G (thG G s0)) 0) then mu S (thG G s0) 2 (cVal S G st s0 (S (roG G (thG G s0)) 2)) else S) (thG G s0) 3 (cVal S G st s0 (S (roG G (thG G s0)) 3)) else (if mR1 (S (roG G (thG G s0)) 0) then mu S (thG G s0) 2 (cVal S G st s0 (S (roG G (thG G s0)) 2)) else S)) (roG G (thG G s0)) := by
  have h0 : cKp Sh G S S (roG G (thG G s0)) := ⟨ht, rfl, rfl, rfl, rfl⟩
  have h1 : cKp Sh G S (if mR1 (S (roG G (thG G s0)) 0) then mu S (thG G s0) 2 (cVal S G st s0 (S (roG G (thG G s0)) 2)) else S) (roG G (thG G s0)) := by
    split
    · exact cKp_t h0 hqr htr _ _ (Or.inl (by decide))
    · exact h0
  split
  · exact cKp_t h1 hqr htr _ _ (Or.inl (by decide))
  · exact h1
set_option maxHeartbeats 4000000 in
set_option maxRecDepth 100000 in
theorem cQ_fire {l : Launch} {D : va_G} {b : Nat} {A : Nat → Nat} {Sh : mS} {S : mI} {G : mP} (hw : okC Sh G) (ht : okT Sh S G) {st : Nat} (h4 : S 4 1 = nI st) (h8 : st ≤ 8) {s0 : Nat} (hlt : s0 < st) (hkp : S 12 1 = nI (kpO S)) (hk1 : kpO S ≤ 1000) (hd : iD (S (roG G (thG G s0)) 0) (S (roG G (thG G s0)) 1)) : rMet l D b yX7_fire cX7_fire 4 none (mR 6) A Sh S G [.ref (A 14), .int (nI s0)] (rPv A Sh (cFire S G st s0) (cG7 G st s0)) := by
  refine rMet_oz RX7 rfl (by decide) (Nat.le_of_ble_eq_true rfl) ?_
  intro p e s m args below meth c Z hZ X hnm
  have htr := ht.r (k := s0) (by omega)
  have hqr := (ht.1 s0 (by omega)).2.2.2.2.2.1
  have hqt : (roG G (thG G s0)) ≠ (thG G s0) := by omega
  have K158 : ∀ U : mI, okT Sh U G → U 4 = S 4 → cF7 U st s0 (thG G s0) = cFire S G st s0 → rJ p l e (mR 6) s m args below meth c D vwCl mty b 4 Z 0 0 A Sh U G [(0, .ref (A 14)), (1, .int (nI s0)), (2, .ref (A (thG G s0))), (3, .ref (A (roG G (thG G s0))))] 158 [] := by
    intro U hU hU4 he
    have h4' : U 4 1 = nI st := by rw [hU4]; exact h4
    refine rJ_aload_n X dX7_fire_158 rfl rfl ?_
    refine rJ_iload_n X dX7_fire_159 rfl rfl ?_
    refine rJ_Vv1 X gX7_205 (cQ_moveOn hw hU h4' h8 hlt) (by first | exact hw.1 _ _ rfl | assumption) dX7_fire_160 (by decide) (Nat.le_of_ble_eq_true rfl) ⟨Nat.le_refl _, Nat.le_refl _⟩ ?_
    exact rJ_vretZ hZ X dX7_fire_163 ⟨rfl, rfl, rfl, he, rfl⟩
  have K140 : ∀ U : mI, cKp Sh G S U (roG G (thG G s0)) → cF7 (cF6 U (kpO S) s0 (thG G s0) (roG G (thG G s0))) st s0 (thG G s0) = cFire S G st s0 → rJ p l e (mR 6) s m args below meth c D vwCl mty b 4 Z 0 0 A Sh U G [(0, .ref (A 14)), (1, .int (nI s0)), (2, .ref (A (thG G s0))), (3, .ref (A (roG G (thG G s0))))] 140 [] := by
    intro U hk he
    obtain ⟨hU, hU4, hU5, hUq, hU12⟩ := id hk
    have h4' : U 4 1 = nI st := by rw [hU4]; exact h4
    refine rJ_aload_n X dX7_fire_140 rfl rfl ?_
    refine rJ_getR X fX7_28 (by first | exact hw.1 _ _ rfl | assumption) (by first | exact hw.2 _ _ _ rfl | assumption) dX7_fire_141 ?_
    refine rJ_bipush (v := 6) X dX7_fire_144 (by decide) ?_
    refine rJ_as (nI 6) rfl ?_
    refine rJ_iload_n X dX7_fire_146 rfl rfl ?_
    refine rJ_Vi2 X gX7_115 (cL_has hw (nI 6) (nI s0)) (by first | exact hw.1 _ _ rfl | assumption) dX7_fire_147 (by decide) (Nat.le_of_ble_eq_true rfl) ⟨Nat.le_refl _, Nat.le_refl _⟩ ?_
    refine rJ_if_eq (tgt := 158) X dX7_fire_150 (by decide) (fun a1 => ?_) (fun a1 => ?_)
    · try replace a1 := z_f a1
      rw [cStg_n U 6 (by decide)] at a1
      exact rJ_lv _ rfl (K158 U hk.1 hk.2.1 (by rw [← he, cF6, if_neg a1]))
    · try replace a1 := z_t a1
      rw [cStg_n U 6 (by decide)] at a1
      refine rJ_aload_n X dX7_fire_153 rfl rfl ?_
      refine rJ_aload_n X dX7_fire_154 rfl rfl ?_
      refine rJ_Vv1 X gX7_201 (cQ_finish hw hU (by omega) (kp := kpO S) (by rw [hU12]; exact hkp) hk1 (by rw [hUq]; exact hd)) (hw.1 _ _ rfl) dX7_fire_155 (by decide) (Nat.le_of_ble_eq_true rfl) ⟨Nat.le_refl _, Nat.le_refl _⟩ ?_
      exact rJ_lv _ rfl (K158 _ (cFin_ok hU (by omega) _ _ htr hqr).1 (by rw [(cFin_ok hU (by omega) _ _ htr hqr).2]; exact hU4) (by rw [← he, cF6, if_pos a1]))
  have K117 : ∀ U : mI, cKp Sh G S U (roG G (thG G s0)) → cF7 (cF6 (cF5 U s0 (thG G s0) (roG G (thG G s0))) (kpO S) s0 (thG G s0) (roG G (thG G s0))) st s0 (thG G s0) = cFire S G st s0 → rJ p l e (mR 6) s m args below meth c D vwCl mty b 4 Z 0 0 A Sh U G [(0, .ref (A 14)), (1, .int (nI s0)), (2, .ref (A (thG G s0))), (3, .ref (A (roG G (thG G s0))))] 117 [] := by
    intro U hk he
    obtain ⟨hU, hU4, hU5, hUq, hU12⟩ := id hk
    have h4' : U 4 1 = nI st := by rw [hU4]; exact h4
    refine rJ_aload_n X dX7_fire_117 rfl rfl ?_
    refine rJ_getR X fX7_28 (by first | exact hw.1 _ _ rfl | assumption) (by first | exact hw.2 _ _ _ rfl | assumption) dX7_fire_118 ?_
    refine rJ_aload_n X dX7_fire_121 rfl rfl ?_
    refine rJ_Vi0 X gX7_127 (cI_kind (hU.q (by omega))) (hU.q (by omega)) dX7_fire_122 (by decide) (Nat.le_of_ble_eq_true rfl) ⟨Nat.le_refl _, Nat.le_refl _⟩ ?_
    refine rJ_Vi1 X gX7_195 (cL_givingStage hw _) (by first | exact hw.1 _ _ rfl | assumption) dX7_fire_125 (by decide) (Nat.le_of_ble_eq_true rfl) ⟨Nat.le_refl _, Nat.le_refl _⟩ ?_
    refine rJ_iload_n X dX7_fire_128 rfl rfl ?_
    refine rJ_icmp_ne (tgt := 140) X dX7_fire_129 (by decide) (fun a1 => ?_) (fun a1 => ?_)
    · exact rJ_lv _ rfl (K140 U hk (by rw [← he, cF5, if_neg a1]))
    · refine rJ_aload_n X dX7_fire_132 rfl rfl ?_
      refine rJ_aload_n X dX7_fire_133 rfl rfl ?_
      refine rJ_getI X fX7_79 (by first | exact hw.1 _ _ rfl | assumption) dX7_fire_134 ?_
      refine rJ_Vv1 X gX7_198 (cT_give (hU.t (by omega)) _) (hU.t (by omega)) dX7_fire_137 (by decide) (Nat.le_of_ble_eq_true rfl) ⟨Nat.le_refl _, Nat.le_refl _⟩ ?_
      exact rJ_lv _ rfl (K140 _ (cKp_t hk hqr htr _ _ (Or.inl (by decide))) (by rw [← he, cF5, if_pos a1]))
  have K78 : ∀ U : mI, cKp Sh G S U (roG G (thG G s0)) → cF7 (cF6 (cF5 (cF4 U s0 (thG G s0) (roG G (thG G s0))) s0 (thG G s0) (roG G (thG G s0))) (kpO S) s0 (thG G s0) (roG G (thG G s0))) st s0 (thG G s0) = cFire S G st s0 → rJ p l e (mR 6) s m args below meth c D vwCl mty b 4 Z 0 0 A Sh U G [(0, .ref (A 14)), (1, .int (nI s0)), (2, .ref (A (thG G s0))), (3, .ref (A (roG G (thG G s0))))] 78 [] := by
    intro U hk he
    obtain ⟨hU, hU4, hU5, hUq, hU12⟩ := id hk
    have h4' : U 4 1 = nI st := by rw [hU4]; exact h4
    refine rJ_aload_n X dX7_fire_78 rfl rfl ?_
    refine rJ_getR X fX7_28 (by first | exact hw.1 _ _ rfl | assumption) (by first | exact hw.2 _ _ _ rfl | assumption) dX7_fire_79 ?_
    refine rJ_iconst (v := 4) X dX7_fire_82 (by decide) ?_
    refine rJ_as (nI 4) rfl ?_
    refine rJ_iload_n X dX7_fire_83 rfl rfl ?_
    refine rJ_Vi2 X gX7_115 (cL_has hw (nI 4) (nI s0)) (by first | exact hw.1 _ _ rfl | assumption) dX7_fire_84 (by decide) (Nat.le_of_ble_eq_true rfl) ⟨Nat.le_refl _, Nat.le_refl _⟩ ?_
    refine rJ_if_eq (tgt := 117) X dX7_fire_87 (by decide) (fun a1 => ?_) (fun a1 => ?_)
    · try replace a1 := z_f a1
      rw [cStg_n U 4 (by decide)] at a1
      exact rJ_lv _ rfl (K117 U hk (by rw [← he, cF4, if_neg (fun h => a1 h.1)]))
    · try replace a1 := z_t a1
      rw [cStg_n U 4 (by decide)] at a1
      refine rJ_aload_n X dX7_fire_90 rfl rfl ?_
      refine rJ_Vi0 X gX7_127 (cI_kind (hU.q (by omega))) (hU.q (by omega)) dX7_fire_91 (by decide) (Nat.le_of_ble_eq_true rfl) ⟨Nat.le_refl _, Nat.le_refl _⟩ ?_
      refine rJ_iconst (v := 5) X dX7_fire_94 (by decide) ?_
      refine rJ_icmp_ne (tgt := 117) X dX7_fire_95 (by decide) (fun a2 => ?_) (fun a2 => ?_)
      · exact rJ_lv _ rfl (K117 U hk (by rw [← he, cF4, if_neg (fun h => a2 h.2)]))
      · refine rJ_aload_n X dX7_fire_98 rfl rfl ?_
        refine rJ_aload_n X dX7_fire_99 rfl rfl ?_
        refine rJ_getR X fX7_12 (by first | exact hw.1 _ _ rfl | assumption) (by first | exact hw.2 _ _ _ rfl | assumption) dX7_fire_100 ?_
        refine rJ_aload_n X dX7_fire_103 rfl rfl ?_
        refine rJ_Vi0 X gX7_135 (cT_asksPlace (hU.t (by omega)) (hU.w (by omega)) (hU.q (by omega))) (hU.t (by omega)) dX7_fire_104 (by decide) (Nat.le_of_ble_eq_true rfl) ⟨Nat.le_refl _, Nat.le_refl _⟩ ?_
        refine rJ_Vi1 X gX7_188 (cH_atPlace (r := 15) (r1 := 16) (r2 := 17) (hw.1 _ _ rfl) (hw.2 _ _ _ rfl) (hw.2 _ _ _ rfl) (hw.1 _ _ rfl) (hw.1 _ _ rfl) _) (by first | exact hw.1 _ _ rfl | assumption) dX7_fire_107 (by decide) (Nat.le_of_ble_eq_true rfl) ⟨Nat.le_refl _, Nat.le_refl _⟩ ?_
        rw [if_pos (pl_lt _)]
        refine rJ_aload_n X dX7_fire_110 rfl rfl ?_
        refine rJ_getI X fX7_79 (by first | exact hw.1 _ _ rfl | assumption) dX7_fire_111 ?_
        refine rJ_Vv2 X gX7_191 (cT_ask (hU.t (by omega)) _ _) (hU.t (by omega)) dX7_fire_114 (by decide) (Nat.le_of_ble_eq_true rfl) ⟨Nat.le_refl _, Nat.le_refl _⟩ ?_
        exact rJ_lv _ rfl (K117 _ (cKp_t (cKp_t hk hqr htr _ _ (Or.inl (by decide))) hqr htr _ _ (Or.inl (by decide))) (by rw [← he, cF4, if_pos ⟨a1, a2⟩]))
  have K46 : ∀ U : mI, cKp Sh G S U (roG G (thG G s0)) → cF7 (cF6 (cF5 (cF4 (cF3 U G s0 (thG G s0) (roG G (thG G s0))) s0 (thG G s0) (roG G (thG G s0))) s0 (thG G s0) (roG G (thG G s0))) (kpO S) s0 (thG G s0) (roG G (thG G s0))) st s0 (thG G s0) = cFire S G st s0 → rJ p l e (mR 6) s m args below meth c D vwCl mty b 4 Z 0 0 A Sh U G [(0, .ref (A 14)), (1, .int (nI s0)), (2, .ref (A (thG G s0))), (3, .ref (A (roG G (thG G s0))))] 46 [] := by
    intro U hk he
    obtain ⟨hU, hU4, hU5, hUq, hU12⟩ := id hk
    have h4' : U 4 1 = nI st := by rw [hU4]; exact h4
    refine rJ_aload_n X dX7_fire_46 rfl rfl ?_
    refine rJ_getR X fX7_28 (by first | exact hw.1 _ _ rfl | assumption) (by first | exact hw.2 _ _ _ rfl | assumption) dX7_fire_47 ?_
    refine rJ_iconst (v := 3) X dX7_fire_50 (by decide) ?_
    refine rJ_as (nI 3) rfl ?_
    refine rJ_iload_n X dX7_fire_51 rfl rfl ?_
    refine rJ_Vi2 X gX7_115 (cL_has hw (nI 3) (nI s0)) (by first | exact hw.1 _ _ rfl | assumption) dX7_fire_52 (by decide) (Nat.le_of_ble_eq_true rfl) ⟨Nat.le_refl _, Nat.le_refl _⟩ ?_
    refine rJ_if_eq (tgt := 78) X dX7_fire_55 (by decide) (fun a1 => ?_) (fun a1 => ?_)
    · try replace a1 := z_f a1
      rw [cStg_n U 3 (by decide)] at a1
      exact rJ_lv _ rfl (K78 U hk (by rw [← he, cF3, if_neg (fun h => a1 h.1)]))
    · try replace a1 := z_t a1
      rw [cStg_n U 3 (by decide)] at a1
      refine rJ_aload_n X dX7_fire_58 rfl rfl ?_
      refine rJ_Vi0 X gX7_182 (cT_goesOn (hU.t (by omega)) (hU.w (by omega)) (hU.q (by omega))) (hU.t (by omega)) dX7_fire_59 (by decide) (Nat.le_of_ble_eq_true rfl) ⟨Nat.le_refl _, Nat.le_refl _⟩ ?_
      refine rJ_if_eq (tgt := 78) X dX7_fire_62 (by decide) (fun a2 => ?_) (fun a2 => ?_)
      · try replace a2 := z_f a2
        exact rJ_lv _ rfl (K78 U hk (by rw [← he, cF3, if_neg (fun h => a2 h.2)]))
      · try replace a2 := z_t a2
        refine rJ_aload_n X dX7_fire_65 rfl rfl ?_
        refine rJ_iload_n X dX7_fire_66 rfl rfl ?_
        refine rJ_Vv1 X gX7_53 (cQ_throwOut hw hU (by omega)) (by first | exact hw.1 _ _ rfl | assumption) dX7_fire_67 (by decide) (Nat.le_of_ble_eq_true rfl) ⟨Nat.le_refl _, Nat.le_refl _⟩ ?_
        refine rJ_aload_n X dX7_fire_70 rfl rfl ?_
        refine rJ_aload_n X dX7_fire_71 rfl rfl ?_
        refine rJ_Vi0 X gX7_185 (cI_goal (hU.q (by omega))) (hU.q (by omega)) dX7_fire_72 (by decide) (Nat.le_of_ble_eq_true rfl) ⟨Nat.le_refl _, Nat.le_refl _⟩ ?_
        refine rJ_setI X fX7_76 (Or.inl fwX7_76) (by first | exact hw.1 _ _ rfl | assumption) ⟨rfl, rfl⟩ dX7_fire_75 (fun S75 hS75 => ?_)
        exact rJ_lv _ rfl (K78 _ (by rw [hS75]; exact cKp_s (cKp_out hk hqr s0 (by omega)) ⟨by decide, by decide, by decide, by decide, by omega⟩ _ _) (by rw [← he, cF3, if_pos ⟨a1, a2⟩, hS75, (cKp_out hk hqr s0 (by omega)).2.2.2.1, hUq]))
  have K30 : ∀ U : mI, cKp Sh G S U (roG G (thG G s0)) → cF7 (cF6 (cF5 (cF4 (cF3 (cF2 U s0 (thG G s0) (roG G (thG G s0))) G s0 (thG G s0) (roG G (thG G s0))) s0 (thG G s0) (roG G (thG G s0))) s0 (thG G s0) (roG G (thG G s0))) (kpO S) s0 (thG G s0) (roG G (thG G s0))) st s0 (thG G s0) = cFire S G st s0 → rJ p l e (mR 6) s m args below meth c D vwCl mty b 4 Z 0 0 A Sh U G [(0, .ref (A 14)), (1, .int (nI s0)), (2, .ref (A (thG G s0))), (3, .ref (A (roG G (thG G s0))))] 30 [] := by
    intro U hk he
    obtain ⟨hU, hU4, hU5, hUq, hU12⟩ := id hk
    have h4' : U 4 1 = nI st := by rw [hU4]; exact h4
    refine rJ_aload_n X dX7_fire_30 rfl rfl ?_
    refine rJ_getR X fX7_28 (by first | exact hw.1 _ _ rfl | assumption) (by first | exact hw.2 _ _ _ rfl | assumption) dX7_fire_31 ?_
    refine rJ_iconst (v := 2) X dX7_fire_34 (by decide) ?_
    refine rJ_as (nI 2) rfl ?_
    refine rJ_iload_n X dX7_fire_35 rfl rfl ?_
    refine rJ_Vi2 X gX7_115 (cL_has hw (nI 2) (nI s0)) (by first | exact hw.1 _ _ rfl | assumption) dX7_fire_36 (by decide) (Nat.le_of_ble_eq_true rfl) ⟨Nat.le_refl _, Nat.le_refl _⟩ ?_
    refine rJ_if_eq (tgt := 46) X dX7_fire_39 (by decide) (fun a1 => ?_) (fun a1 => ?_)
    · try replace a1 := z_f a1
      rw [cStg_n U 2 (by decide)] at a1
      exact rJ_lv _ rfl (K46 U hk (by rw [← he, cF2, if_neg a1]))
    · try replace a1 := z_t a1
      rw [cStg_n U 2 (by decide)] at a1
      refine rJ_aload_n X dX7_fire_42 rfl rfl ?_
      refine rJ_Vv0 X gX7_179 (cT_workOut (hU.t (by omega)) (hU.w (by omega)) (hU.q (by omega))) (hU.t (by omega)) dX7_fire_43 (by decide) (Nat.le_of_ble_eq_true rfl) ⟨Nat.le_refl _, Nat.le_refl _⟩ ?_
      exact rJ_lv _ rfl (K46 _ (cKp_t hk hqr htr _ _ (Or.inl (by decide))) (by rw [← he, cF2, if_pos a1]))
  refine rJ_aload_n X dX7_fire_0 rfl rfl ?_
  refine rJ_getR X fX7_20 (by first | exact hw.1 _ _ rfl | assumption) (by first | exact hw.2 _ _ _ rfl | assumption) dX7_fire_1 ?_
  refine rJ_iload_n X dX7_fire_4 rfl rfl ?_
  refine rJ_aaldK (k := s0) X rfl (n := 8) ⟨by omega, by decide⟩ (by first | exact hw.1 _ _ rfl | assumption) (ht.g (by omega)) dX7_fire_5 ?_
  refine rJ_astore_n X dX7_fire_6 rfl (by decide) ?_
  refine rJ_aload_n X dX7_fire_7 rfl rfl ?_
  refine rJ_Vr0 X gX7_119 (cT_instruction (ht.t (by omega)) (ht.w (by omega)) (ht.q (by omega))) (ht.t (by omega)) dX7_fire_8 (by decide) (Nat.le_of_ble_eq_true rfl) ⟨Nat.le_refl _, Nat.le_refl _⟩ ?_
  refine rJ_astore_n X dX7_fire_11 rfl (by decide) ?_
  refine rJ_aload_n X dX7_fire_12 rfl rfl ?_
  refine rJ_getR X fX7_28 (by first | exact hw.1 _ _ rfl | assumption) (by first | exact hw.2 _ _ _ rfl | assumption) dX7_fire_13 ?_
  refine rJ_iconst (v := 1) X dX7_fire_16 (by decide) ?_
  refine rJ_as (nI 1) rfl ?_
  refine rJ_iload_n X dX7_fire_17 rfl rfl ?_
  refine rJ_Vi2 X gX7_115 (cL_has hw (nI 1) (nI s0)) (by first | exact hw.1 _ _ rfl | assumption) dX7_fire_18 (by decide) (Nat.le_of_ble_eq_true rfl) ⟨Nat.le_refl _, Nat.le_refl _⟩ ?_
  refine rJ_if_eq (tgt := 30) X dX7_fire_21 (by decide) (fun c1 => ?_) (fun c1 => ?_)
  · try replace c1 := z_f c1
    rw [cStg_n S 1 (by decide)] at c1
    exact rJ_lv _ rfl (K30 S ⟨ht, rfl, rfl, rfl, rfl⟩ (by rw [cFire, cF1, if_neg c1]))
  · try replace c1 := z_t c1
    rw [cStg_n S 1 (by decide)] at c1
    refine rJ_aload_n X dX7_fire_24 rfl rfl ?_
    refine rJ_iload_n X dX7_fire_25 rfl rfl ?_
    refine rJ_aload_n X dX7_fire_26 rfl rfl ?_
    refine rJ_Vv2 X gX7_175 (cQ_read hw ht h4 h8 hlt) (hw.1 _ _ rfl) dX7_fire_27 (by decide) (Nat.le_of_ble_eq_true rfl) ⟨Nat.le_refl _, Nat.le_refl _⟩ ?_
    exact rJ_lv _ rfl (K30 _ (cRd_kp ht htr hqr) (by rw [cFire, cF1, if_pos c1]))
