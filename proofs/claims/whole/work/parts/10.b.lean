theorem qP_in (S : mI) (q : sQ) : vp_in (qP S q) 64 := by
  have h := pl_lt (qA S q + S 110 q.1.toNatClampNeg)
  exact in_rng ⟨h.1, by have := h.2; rw [i_lt] at this; rw [i_le]; have e : (64 : Int32).toInt = 64 := rfl; have e2 : (63 : Int32).toInt = 63 := rfl; rw [e] at this; rw [e2]; exact Int.lt_add_one_iff.mp this⟩ (by decide)
set_option maxHeartbeats 4000000 in
set_option maxRecDepth 100000 in
theorem cM_faithful {l : Launch} {D : va_G} {b : Nat} {A : Nat → Nat} {Sh : mS} {S : mI} {G : mP} (hw : okM Sh G) {st sz g : Nat} (hB : mOk S st sz) (hF : mFa S g) : rMet l D b yX11_faithful cX11_faithful 12 (some .boolean) (mR 2) A Sh S G [.ref (A 100)] (fun v A' Sh' S' G' => v = some (.int 1) ∧ A' = A ∧ Sh' = Sh ∧ G' = G ∧ ∀ x, x ≠ 135 → x ≠ 136 → S' x = S x) := by
  refine rMet_oz RX11 rfl (by decide) (Nat.le_of_ble_eq_true rfl) ?_
  intro p e s m args below meth c Z hZ X hnm
  obtain ⟨hns, h23, hg1, h32, hlg⟩ := id hF
  obtain ⟨h2, -, h8, hs, h40, -, hdd⟩ := id hB
  have hlt : ∀ t, t ≤ g → ¬ mKind S (qN S t).1 = 0 → ¬ S 100 23 ≤ nI t → t < g := fun t h1 hk hl => by
    rcases Nat.lt_or_ge t g with h | h
    · exact h
    · exfalso
      have e : t = g := by omega
      subst e
      rcases h23 with q | ⟨q, q2⟩
      · exact hl (by rw [q]; exact Int32.le_refl _)
      · exact hk q2
  have KE : ∀ (U : mI) (t : Nat), (∀ x, x ≠ 135 → x ≠ 136 → U x = S x) → t = g → rJ p l e (mR 2) s m args below meth c D vwCl mty b 12 Z 0 0 A Sh U G [(0, .ref (A 100)), (2, .int (nI (qM S t))), (3, .int 1)] 419 [] := by
    intro U t hx e
    subst e
    have h32U : U 100 32 = nI (qM S t) := by rw [hx 100 (by decide) (by decide)]; exact h32
    refine rJ_iload_n X dX11_faithful_419 rfl rfl ?_
    refine rJ_if_eq (tgt := 435) X dX11_faithful_420 (by decide) (fun e1 => ?_) (fun e1 => ?_)
    · first | exact absurd rfl (by assumption) | exact absurd e1 (by decide)
    · refine rJ_iload_n X dX11_faithful_423 rfl rfl ?_
      refine rJ_aload_n X dX11_faithful_424 rfl rfl ?_
      refine rJ_getI X fX11_112 (hw.1 _ _ rfl) dX11_faithful_425 ?_
      refine rJ_icmp_ne (tgt := 435) X dX11_faithful_428 (by decide) (fun e2 => ?_) (fun e2 => ?_)
      · rw [h32U] at e2
        first | exact absurd rfl (by assumption) | exact absurd e1 (by decide)
      · rw [h32U] at e2
        refine rJ_iconst (v := 1) X dX11_faithful_431 (by decide) ?_
        refine rJ_goto (tgt := 436) X dX11_faithful_432 (by decide) ?_
        exact rJ_zretZ hZ X dX11_faithful_436 rfl ⟨rfl, rfl, rfl, rfl, hx⟩
  have K84 : ∀ (f t : Nat) (U : mI), (∀ x, x ≠ 135 → x ≠ 136 → U x = S x) → (∀ j, j < 8 → U 135 j = (qN S t).2.1 j) → (∀ j, j < 64 → U 136 j = (qN S t).2.2 j) → t < g → ¬ mKind S (qN S t).1 = 0 → (∀ (V : mI), (∀ x, x ≠ 135 → x ≠ 136 → V x = S x) → (∀ j, j < 8 → V 135 j = (qN S (t + 1)).2.1 j) → (∀ j, j < 64 → V 136 j = (qN S (t + 1)).2.2 j) → rJ p l e (mR 2) s m args below meth c D vwCl mty b 12 Z 0 0 A Sh V G [(0, .ref (A 100)), (1, .int (qN S (t + 1)).1), (2, .int (nI (qM S (t + 1)))), (3, .int 1), (4, .int (nI (t + 1)))] 56 []) → rJ p l e (mR 2) s m args below meth c D vwCl mty b 12 Z 0 0 A Sh U G [(0, .ref (A 100)), (1, .int (qN S t).1), (2, .int (nI (qM S t))), (3, .int 1), (4, .int (nI t)), (5, .int (mKind S (qN S t).1))] 84 [] := by
    intro f t U hx h5 h6 htg hkn ih
    have hq40 : vp_in (qN S t).1 40 := mKind_ne hs h40 hkn
    have hd3 := hdd (qN S t).1 hkn
    have r8 : U 108 = S 108 := hx 108 (by decide) (by decide)
    have r9 : U 109 = S 109 := hx 109 (by decide) (by decide)
    have r7 : U 107 = S 107 := hx 107 (by decide) (by decide)
    have r10 : U 110 = S 110 := hx 110 (by decide) (by decide)
    have ha8 : vp_in (U 108 (qN S t).1.toNatClampNeg) 8 := by rw [r8]; exact hd3.2.1
    have hb8 : vp_in (U 109 (qN S t).1.toNatClampNeg) 8 := by rw [r9]; exact hd3.2.2
    have hA : U 135 (U 108 (qN S t).1.toNatClampNeg).toNatClampNeg = qA S (qN S t) := by rw [r8, h5 _ (vp_in_nat hd3.2.1).2]; rfl
    have hB2 : U 135 (U 109 (qN S t).1.toNatClampNeg).toNatClampNeg = qB S (qN S t) := by rw [r9, h5 _ (vp_in_nat hd3.2.2).2]; rfl
    have hP : (qA S (qN S t) + U 110 (qN S t).1.toNatClampNeg) &&& 63 = qP S (qN S t) := by rw [r10]; rfl
    have hC : U 136 (qP S (qN S t)).toNatClampNeg = (qN S t).2.2 (qP S (qN S t)).toNatClampNeg := h6 _ (vp_in_nat (qP_in _ _)).2
    have hMg : t < g := htg
    have hlog := hlg t htg
    have r29 : U 129 = S 129 := hx 129 (by decide) (by decide)
    have r30 : U 130 = S 130 := hx 130 (by decide) (by decide)
    have r31 : U 131 = S 131 := hx 131 (by decide) (by decide)
    have hMt : qM S t ≤ t := qM_le S t
    have hMG : qM S g ≤ g := qM_le S g
    have hstep : qC S (qN S t) → qM S t + 1 ≤ qM S g := qM_step htg
    have h32U : U 100 32 = nI (qM S g) := by rw [hx 100 (by decide) (by decide)]; exact h32
    have K379 : ∀ (V : mI), (∀ x, x ≠ 135 → x ≠ 136 → V x = S x) → (∀ j, j < 8 → V 135 j = (qS S (qN S t)).2.1 j) → (∀ j, j < 64 → V 136 j = (qS S (qN S t)).2.2 j) → rJ p l e (mR 2) s m args below meth c D vwCl mty b 12 Z 0 0 A Sh V G [(0, .ref (A 100)), (1, .int (qN S t).1), (2, .int (nI (qM S (t + 1)))), (3, .int 1), (4, .int (nI t)), (5, .int (mKind S (qN S t).1)), (6, .int (qA S (qN S t))), (7, .int (qB S (qN S t))), (8, .int (qP S (qN S t)))] 379 [] := by
      intro V hxV h5V h6V
      have r10V : V 110 = S 110 := hxV 110 (by decide) (by decide)
      refine rJ_iload X dX11_faithful_379 rfl ?_
      refine rJ_bipush (v := 9) X dX11_faithful_381 (by decide) ?_
      refine rJ_icmp_eq (tgt := 400) X dX11_faithful_383 (by decide) (fun d1 => ?_) (fun d1 => ?_)
      · refine rJ_aload_n X dX11_faithful_400 rfl rfl ?_
        refine rJ_getR X fX11_35 (hw.1 _ _ rfl) (hw.2 _ _ rfl) dX11_faithful_401 ?_
        refine rJ_iload_n X dX11_faithful_404 rfl rfl ?_
        refine rJ_iald X (hw.1 _ _ rfl) hq40 dX11_faithful_405 ?_
        refine rJ_goto (tgt := 412) X dX11_faithful_406 (by decide) ?_
        refine rJ_as (qN S (t + 1)).1 (by clear X hZ; grind [qN, qS]) ?_
        refine rJ_istore_n X dX11_faithful_412 rfl (by decide) ?_
        refine rJ_inc (n := 1) (w := 1) X dX11_faithful_413 rfl (by decide) (by decide) ?_
        rw [nI_1 t]
        refine rJ_goto (tgt := 56) X dX11_faithful_416 (by decide) ?_
        exact rJ_lv _ rfl (ih V hxV h5V h6V)
      · refine rJ_iload X dX11_faithful_386 rfl ?_
        refine rJ_bipush (v := 7) X dX11_faithful_388 (by decide) ?_
        refine rJ_icmp_ne (tgt := 409) X dX11_faithful_390 (by decide) (fun d2 => ?_) (fun d2 => ?_)
        · refine rJ_iload_n X dX11_faithful_409 rfl rfl ?_
          refine rJ_iconst (v := 1) X dX11_faithful_410 (by decide) ?_
          refine rJ_iadd X dX11_faithful_411 ?_
          refine rJ_as (qN S (t + 1)).1 (by clear X hZ; grind [qN, qS]) ?_
          refine rJ_istore_n X dX11_faithful_412 rfl (by decide) ?_
          refine rJ_inc (n := 1) (w := 1) X dX11_faithful_413 rfl (by decide) (by decide) ?_
          rw [nI_1 t]
          refine rJ_goto (tgt := 56) X dX11_faithful_416 (by decide) ?_
          exact rJ_lv _ rfl (ih V hxV h5V h6V)
        · refine rJ_iload X dX11_faithful_393 rfl ?_
          refine rJ_iload X dX11_faithful_395 rfl ?_
          refine rJ_icmp_ne (tgt := 409) X dX11_faithful_397 (by decide) (fun d3 => ?_) (fun d3 => ?_)
          · refine rJ_iload_n X dX11_faithful_409 rfl rfl ?_
            refine rJ_iconst (v := 1) X dX11_faithful_410 (by decide) ?_
            refine rJ_iadd X dX11_faithful_411 ?_
            refine rJ_as (qN S (t + 1)).1 (by clear X hZ; grind [qN, qS]) ?_
            refine rJ_istore_n X dX11_faithful_412 rfl (by decide) ?_
            refine rJ_inc (n := 1) (w := 1) X dX11_faithful_413 rfl (by decide) (by decide) ?_
            rw [nI_1 t]
            refine rJ_goto (tgt := 56) X dX11_faithful_416 (by decide) ?_
            exact rJ_lv _ rfl (ih V hxV h5V h6V)
          · refine rJ_aload_n X dX11_faithful_400 rfl rfl ?_
            refine rJ_getR X fX11_35 (hw.1 _ _ rfl) (hw.2 _ _ rfl) dX11_faithful_401 ?_
            refine rJ_iload_n X dX11_faithful_404 rfl rfl ?_
            refine rJ_iald X (hw.1 _ _ rfl) hq40 dX11_faithful_405 ?_
            refine rJ_goto (tgt := 412) X dX11_faithful_406 (by decide) ?_
            refine rJ_as (qN S (t + 1)).1 (by clear X hZ; grind [qN, qS]) ?_
            refine rJ_istore_n X dX11_faithful_412 rfl (by decide) ?_
            refine rJ_inc (n := 1) (w := 1) X dX11_faithful_413 rfl (by decide) (by decide) ?_
            rw [nI_1 t]
            refine rJ_goto (tgt := 56) X dX11_faithful_416 (by decide) ?_
            exact rJ_lv _ rfl (ih V hxV h5V h6V)
    have K340 : ∀ (y : Nat), qM S (t + 1) = y → rJ p l e (mR 2) s m args below meth c D vwCl mty b 12 Z 0 0 A Sh U G [(0, .ref (A 100)), (1, .int (qN S t).1), (2, .int (nI y)), (3, .int 1), (4, .int (nI t)), (5, .int (mKind S (qN S t).1)), (6, .int (qA S (qN S t))), (7, .int (qB S (qN S t))), (8, .int (qP S (qN S t))), (9, .int (qV S (qN S t)))] 340 [] := by
      intro y hy
      subst hy
      refine rJ_iload X dX11_faithful_340 rfl ?_
      refine rJ_bipush (v := 6) X dX11_faithful_342 (by decide) ?_
      refine rJ_icmp_ge (tgt := 363) X dX11_faithful_344 (by decide) (fun d1 => ?_) (fun d1 => ?_)
      · refine rJ_iload X dX11_faithful_363 rfl ?_
        refine rJ_bipush (v := 6) X dX11_faithful_365 (by decide) ?_
        refine rJ_icmp_ne (tgt := 379) X dX11_faithful_367 (by decide) (fun d2 => ?_) (fun d2 => ?_)
        · refine rJ_lv _ rfl (K379 _ hx (fun j hj => by rw [qS]; simp only [if_neg (Int32.not_lt.mpr d1)]; exact h5 j hj) (fun j hj => by rw [qS]; simp only [if_neg d2]; exact h6 j hj))
        · refine rJ_aload_n X dX11_faithful_370 rfl rfl ?_
          refine rJ_getR X fX11_93 (hw.1 _ _ rfl) (hw.2 _ _ rfl) dX11_faithful_371 ?_
          refine rJ_iload X dX11_faithful_374 rfl ?_
          refine rJ_iload X dX11_faithful_376 rfl ?_
          refine rJ_iast X (hw.1 _ _ rfl) (qP_in _ _) dX11_faithful_378 (fun S378 hS378 => ?_)
          refine rJ_lv _ rfl (K379 _ (fun x e1 e2 => by rw [hS378, mu_row _ _ _ e2]; exact hx x e1 e2) (fun j hj => by rw [hS378, mu_na _ _ _ (by decide), qS]; simp only [if_neg (Int32.not_lt.mpr d1)]; exact h5 j hj) (fun j hj => by
            rw [hS378, qS]
            simp only [if_pos d2, upd]
            by_cases e : j = (qP S (qN S t)).toNatClampNeg
            · rw [e, mu_eq, if_pos rfl]
            · rw [mu_ns _ _ _ e, if_neg e]; exact h6 j hj))
      · refine rJ_aload_n X dX11_faithful_347 rfl rfl ?_
        refine rJ_getR X fX11_90 (hw.1 _ _ rfl) (hw.2 _ _ rfl) dX11_faithful_348 ?_
        refine rJ_aload_n X dX11_faithful_351 rfl rfl ?_
        refine rJ_getR X fX11_26 (hw.1 _ _ rfl) (hw.2 _ _ rfl) dX11_faithful_352 ?_
        refine rJ_iload_n X dX11_faithful_355 rfl rfl ?_
        refine rJ_iald X (hw.1 _ _ rfl) hq40 dX11_faithful_356 ?_
        refine rJ_iload X dX11_faithful_357 rfl ?_
        refine rJ_iast X (hw.1 _ _ rfl) (by rw [r7]; exact hd3.1) dX11_faithful_359 (fun S359 hS359 => ?_)
        refine rJ_goto (tgt := 379) X dX11_faithful_360 (by decide) ?_
        refine rJ_lv _ rfl (K379 _ (fun x e1 e2 => by rw [hS359, mu_row _ _ _ e1]; exact hx x e1 e2) (fun j hj => by
          rw [hS359, r7, qS]
          simp only [if_pos (Int32.not_le.mp d1), upd]
          by_cases e : j = (S 107 (qN S t).1.toNatClampNeg).toNatClampNeg
          · rw [e, mu_eq, if_pos rfl]
          · rw [mu_ns _ _ _ e, if_neg e]; exact h5 j hj) (fun j hj => by rw [hS359, mu_na _ _ _ (by decide), qS]; simp only [if_neg (show ¬ mKind S (qN S t).1 = 6 from fun e => d1 (by rw [e]; decide))]; exact h6 j hj))
    have K267 : rJ p l e (mR 2) s m args below meth c D vwCl mty b 12 Z 0 0 A Sh U G [(0, .ref (A 100)), (1, .int (qN S t).1), (2, .int (nI (qM S t))), (3, .int 1), (4, .int (nI t)), (5, .int (mKind S (qN S t).1)), (6, .int (qA S (qN S t))), (7, .int (qB S (qN S t))), (8, .int (qP S (qN S t))), (9, .int (qV S (qN S t))), (10, .int (qW S (qN S t)))] 267 [.int (qH S (qN S t))] := by
      refine rJ_istore X dX11_faithful_267 (by decide) ?_
      refine rJ_iload X dX11_faithful_269 rfl ?_
      refine rJ_bipush (v := 7) X dX11_faithful_271 (by decide) ?_
      refine rJ_icmp_eq (tgt := 340) X dX11_faithful_273 (by decide) (fun d1 => ?_) (fun d1 => ?_)
      · refine rJ_lv _ rfl (K340 _ (by rw [qM.eq_2, if_neg (fun q => q.1 d1)]))
      · refine rJ_iload X dX11_faithful_276 rfl ?_
        refine rJ_bipush (v := 9) X dX11_faithful_278 (by decide) ?_
        refine rJ_icmp_eq (tgt := 340) X dX11_faithful_280 (by decide) (fun d2 => ?_) (fun d2 => ?_)
        · refine rJ_lv _ rfl (K340 _ (by rw [qM.eq_2, if_neg (fun q => q.2 d2)]))
        · refine rJ_iload_n X dX11_faithful_283 rfl rfl ?_
          refine rJ_aload_n X dX11_faithful_284 rfl rfl ?_
          refine rJ_getI X fX11_112 (hw.1 _ _ rfl) dX11_faithful_285 ?_
          refine rJ_icmp_ge (tgt := 335) X dX11_faithful_288 (by decide) (fun d3 => ?_) (fun d3 => ?_)
          · rw [h32U, nI_leI (by omega) (by omega)] at d3
            exfalso; clear X hZ; grind
          · rw [h32U, nI_leI (by omega) (by omega)] at d3
            refine rJ_iload_n X dX11_faithful_291 rfl rfl ?_
            refine rJ_sipush (v := 1000) X dX11_faithful_292 (by decide) ?_
            refine rJ_icmp_ge (tgt := 331) X dX11_faithful_295 (by decide) (fun d4 => ?_) (fun d4 => ?_)
            · rw [show (1000 : Int32) = nI 1000 from rfl, nI_leI (by omega) (by omega)] at d4
              refine rJ_iconst (v := 1) X dX11_faithful_331 (by decide) ?_
              refine rJ_goto (tgt := 336) X dX11_faithful_332 (by decide) ?_
              refine rJ_istore_n X dX11_faithful_336 rfl (by decide) ?_
              refine rJ_inc (n := 1) (w := 1) X dX11_faithful_337 rfl (by decide) (by decide) ?_
              rw [nI_1]
              refine rJ_lv _ rfl (K340 _ (by rw [qM.eq_2, if_pos ⟨d1, d2⟩]))
            · rw [show (1000 : Int32) = nI 1000 from rfl, nI_leI (by omega) (by omega)] at d4
              refine rJ_aload_n X dX11_faithful_298 rfl rfl ?_
              refine rJ_getR X fX11_75 (hw.1 _ _ rfl) (hw.2 _ _ rfl) dX11_faithful_299 ?_
              refine rJ_iload_n X dX11_faithful_302 rfl rfl ?_
              refine rJ_ialdK (k := (qM S t)) X rfl (n := 1000) ⟨by omega, by decide⟩ (hw.1 _ _ rfl) dX11_faithful_303 ?_
              refine rJ_iload X dX11_faithful_304 rfl ?_
              refine rJ_icmp_ne (tgt := 335) X dX11_faithful_306 (by decide) (fun d5 => ?_) (fun d5 => ?_)
              · exfalso; clear X hZ; grind
              · refine rJ_aload_n X dX11_faithful_309 rfl rfl ?_
                refine rJ_getR X fX11_78 (hw.1 _ _ rfl) (hw.2 _ _ rfl) dX11_faithful_310 ?_
                refine rJ_iload_n X dX11_faithful_313 rfl rfl ?_
                refine rJ_ialdK (k := (qM S t)) X rfl (n := 1000) ⟨by omega, by decide⟩ (hw.1 _ _ rfl) dX11_faithful_314 ?_
                refine rJ_iload X dX11_faithful_315 rfl ?_
                refine rJ_icmp_ne (tgt := 335) X dX11_faithful_317 (by decide) (fun d6 => ?_) (fun d6 => ?_)
                · exfalso; clear X hZ; grind
                · refine rJ_aload_n X dX11_faithful_320 rfl rfl ?_
                  refine rJ_getR X fX11_81 (hw.1 _ _ rfl) (hw.2 _ _ rfl) dX11_faithful_321 ?_
                  refine rJ_iload_n X dX11_faithful_324 rfl rfl ?_
                  refine rJ_ialdK (k := (qM S t)) X rfl (n := 1000) ⟨by omega, by decide⟩ (hw.1 _ _ rfl) dX11_faithful_325 ?_
                  refine rJ_iload X dX11_faithful_326 rfl ?_
                  refine rJ_icmp_ne (tgt := 335) X dX11_faithful_328 (by decide) (fun d7 => ?_) (fun d7 => ?_)
                  · exfalso; clear X hZ; grind
                  · refine rJ_iconst (v := 1) X dX11_faithful_331 (by decide) ?_
                    refine rJ_goto (tgt := 336) X dX11_faithful_332 (by decide) ?_
                    refine rJ_istore_n X dX11_faithful_336 rfl (by decide) ?_
                    refine rJ_inc (n := 1) (w := 1) X dX11_faithful_337 rfl (by decide) (by decide) ?_
                    rw [nI_1]
                    refine rJ_lv _ rfl (K340 _ (by rw [qM.eq_2, if_pos ⟨d1, d2⟩]))
    have K236 : rJ p l e (mR 2) s m args below meth c D vwCl mty b 12 Z 0 0 A Sh U G [(0, .ref (A 100)), (1, .int (qN S t).1), (2, .int (nI (qM S t))), (3, .int 1), (4, .int (nI t)), (5, .int (mKind S (qN S t).1)), (6, .int (qA S (qN S t))), (7, .int (qB S (qN S t))), (8, .int (qP S (qN S t))), (9, .int (qV S (qN S t)))] 236 [.int (qW S (qN S t))] := by
      refine rJ_istore X dX11_faithful_236 (by decide) ?_
      refine rJ_iload X dX11_faithful_238 rfl ?_
      refine rJ_bipush (v := 6) X dX11_faithful_240 (by decide) ?_
      refine rJ_icmp_ge (tgt := 254) X dX11_faithful_242 (by decide) (fun d1 => ?_) (fun d1 => ?_)
      · refine rJ_iload X dX11_faithful_254 rfl ?_
        refine rJ_bipush (v := 6) X dX11_faithful_256 (by decide) ?_
        refine rJ_icmp_ne (tgt := 266) X dX11_faithful_258 (by decide) (fun d2 => ?_) (fun d2 => ?_)
        · refine rJ_iconst (v := 0) X dX11_faithful_266 (by decide) ?_
          refine rJ_as (qH S (qN S t)) (by clear X hZ; grind [qH]) ?_
          exact rJ_lv _ rfl K267
        · refine rJ_iload X dX11_faithful_261 rfl ?_
          refine rJ_goto (tgt := 267) X dX11_faithful_263 (by decide) ?_
          refine rJ_as (qH S (qN S t)) (by clear X hZ; grind [qH]) ?_
          exact rJ_lv _ rfl K267
      · refine rJ_aload_n X dX11_faithful_245 rfl rfl ?_
        refine rJ_getR X fX11_26 (hw.1 _ _ rfl) (hw.2 _ _ rfl) dX11_faithful_246 ?_
        refine rJ_iload_n X dX11_faithful_249 rfl rfl ?_
        refine rJ_iald X (hw.1 _ _ rfl) hq40 dX11_faithful_250 ?_
        refine rJ_goto (tgt := 267) X dX11_faithful_251 (by decide) ?_
        refine rJ_as (qH S (qN S t)) (by clear X hZ; grind [qH]) ?_
        exact rJ_lv _ rfl K267
    have K211 : rJ p l e (mR 2) s m args below meth c D vwCl mty b 12 Z 0 0 A Sh U G [(0, .ref (A 100)), (1, .int (qN S t).1), (2, .int (nI (qM S t))), (3, .int 1), (4, .int (nI t)), (5, .int (mKind S (qN S t).1)), (6, .int (qA S (qN S t))), (7, .int (qB S (qN S t))), (8, .int (qP S (qN S t)))] 211 [.int (qV S (qN S t))] := by
      refine rJ_istore X dX11_faithful_211 (by decide) ?_
      refine rJ_iload X dX11_faithful_213 rfl ?_
      refine rJ_bipush (v := 6) X dX11_faithful_215 (by decide) ?_
      refine rJ_icmp_ge (tgt := 224) X dX11_faithful_217 (by decide) (fun d1 => ?_) (fun d1 => ?_)
      · refine rJ_iload X dX11_faithful_224 rfl ?_
        refine rJ_bipush (v := 6) X dX11_faithful_226 (by decide) ?_
        refine rJ_icmp_ne (tgt := 235) X dX11_faithful_228 (by decide) (fun d2 => ?_) (fun d2 => ?_)
        · refine rJ_iconst (v := 2) X dX11_faithful_235 (by decide) ?_
          refine rJ_as (qW S (qN S t)) (by clear X hZ; grind [qW]) ?_
          exact rJ_lv _ rfl K236
        · refine rJ_iconst (v := 1) X dX11_faithful_231 (by decide) ?_
          refine rJ_goto (tgt := 236) X dX11_faithful_232 (by decide) ?_
          refine rJ_as (qW S (qN S t)) (by clear X hZ; grind [qW]) ?_
          exact rJ_lv _ rfl K236
      · refine rJ_iconst (v := 0) X dX11_faithful_220 (by decide) ?_
        refine rJ_goto (tgt := 236) X dX11_faithful_221 (by decide) ?_
        refine rJ_as (qW S (qN S t)) (by clear X hZ; grind [qW]) ?_
        exact rJ_lv _ rfl K236
    refine rJ_aload_n X dX11_faithful_84 rfl rfl ?_
    refine rJ_getR X fX11_90 (hw.1 _ _ rfl) (hw.2 _ _ rfl) dX11_faithful_85 ?_
    refine rJ_aload_n X dX11_faithful_88 rfl rfl ?_
    refine rJ_getR X fX11_29 (hw.1 _ _ rfl) (hw.2 _ _ rfl) dX11_faithful_89 ?_
    refine rJ_iload_n X dX11_faithful_92 rfl rfl ?_
    refine rJ_iald X (hw.1 _ _ rfl) hq40 dX11_faithful_93 ?_
    refine rJ_iald X (hw.1 _ _ rfl) ha8 dX11_faithful_94 ?_
    refine rJ_as (qA S (qN S t)) hA ?_
    refine rJ_istore X dX11_faithful_95 (by decide) ?_
    refine rJ_aload_n X dX11_faithful_97 rfl rfl ?_
    refine rJ_getR X fX11_90 (hw.1 _ _ rfl) (hw.2 _ _ rfl) dX11_faithful_98 ?_
    refine rJ_aload_n X dX11_faithful_101 rfl rfl ?_
    refine rJ_getR X fX11_32 (hw.1 _ _ rfl) (hw.2 _ _ rfl) dX11_faithful_102 ?_
    refine rJ_iload_n X dX11_faithful_105 rfl rfl ?_
    refine rJ_iald X (hw.1 _ _ rfl) hq40 dX11_faithful_106 ?_
    refine rJ_iald X (hw.1 _ _ rfl) hb8 dX11_faithful_107 ?_
    refine rJ_as (qB S (qN S t)) hB2 ?_
    refine rJ_istore X dX11_faithful_108 (by decide) ?_
    refine rJ_iload X dX11_faithful_110 rfl ?_
    refine rJ_aload_n X dX11_faithful_112 rfl rfl ?_
    refine rJ_getR X fX11_35 (hw.1 _ _ rfl) (hw.2 _ _ rfl) dX11_faithful_113 ?_
    refine rJ_iload_n X dX11_faithful_116 rfl rfl ?_
    refine rJ_iald X (hw.1 _ _ rfl) hq40 dX11_faithful_117 ?_
    refine rJ_iadd X dX11_faithful_118 ?_
    refine rJ_bipush (v := 63) X dX11_faithful_119 (by decide) ?_
    refine rJ_iand X dX11_faithful_121 ?_
    refine rJ_as (qP S (qN S t)) hP ?_
    refine rJ_istore X dX11_faithful_122 (by decide) ?_
    refine rJ_iload X dX11_faithful_124 rfl ?_
    refine rJ_iconst (v := 1) X dX11_faithful_126 (by decide) ?_
    refine rJ_icmp_ne (tgt := 139) X dX11_faithful_127 (by decide) (fun a1 => ?_) (fun a1 => ?_)
    · refine rJ_iload X dX11_faithful_139 rfl ?_
      refine rJ_iconst (v := 2) X dX11_faithful_141 (by decide) ?_
      refine rJ_icmp_ne (tgt := 153) X dX11_faithful_142 (by decide) (fun a2 => ?_) (fun a2 => ?_)
      · refine rJ_iload X dX11_faithful_153 rfl ?_
        refine rJ_iconst (v := 3) X dX11_faithful_155 (by decide) ?_
        refine rJ_icmp_ne (tgt := 167) X dX11_faithful_156 (by decide) (fun a3 => ?_) (fun a3 => ?_)
        · refine rJ_iload X dX11_faithful_167 rfl ?_
          refine rJ_iconst (v := 4) X dX11_faithful_169 (by decide) ?_
          refine rJ_icmp_ne (tgt := 181) X dX11_faithful_170 (by decide) (fun a4 => ?_) (fun a4 => ?_)
          · refine rJ_iload X dX11_faithful_181 rfl ?_
            refine rJ_iconst (v := 5) X dX11_faithful_183 (by decide) ?_
            refine rJ_icmp_ne (tgt := 197) X dX11_faithful_184 (by decide) (fun a5 => ?_) (fun a5 => ?_)
            · refine rJ_iload X dX11_faithful_197 rfl ?_
              refine rJ_bipush (v := 6) X dX11_faithful_199 (by decide) ?_
              refine rJ_icmp_ne (tgt := 209) X dX11_faithful_201 (by decide) (fun a6 => ?_) (fun a6 => ?_)
              · refine rJ_iload X dX11_faithful_209 rfl ?_
                refine rJ_as (qV S (qN S t)) (by clear X hZ; grind [qV]) ?_
                exact rJ_lv _ rfl K211
              · refine rJ_iload X dX11_faithful_204 rfl ?_
                refine rJ_goto (tgt := 211) X dX11_faithful_206 (by decide) ?_
                refine rJ_as (qV S (qN S t)) (by clear X hZ; grind [qV]) ?_
                exact rJ_lv _ rfl K211
            · refine rJ_aload_n X dX11_faithful_187 rfl rfl ?_
              refine rJ_getR X fX11_93 (hw.1 _ _ rfl) (hw.2 _ _ rfl) dX11_faithful_188 ?_
              refine rJ_iload X dX11_faithful_191 rfl ?_
              refine rJ_iald X (hw.1 _ _ rfl) (qP_in _ _) dX11_faithful_193 ?_
              refine rJ_goto (tgt := 211) X dX11_faithful_194 (by decide) ?_
              refine rJ_as (qV S (qN S t)) (by clear X hZ; grind [qV]) ?_
              exact rJ_lv _ rfl K211
          · refine rJ_iload X dX11_faithful_173 rfl ?_
            refine rJ_iload X dX11_faithful_175 rfl ?_
            refine rJ_imul X dX11_faithful_177 ?_
            refine rJ_goto (tgt := 211) X dX11_faithful_178 (by decide) ?_
            refine rJ_as (qV S (qN S t)) (by clear X hZ; grind [qV]) ?_
            exact rJ_lv _ rfl K211
        · refine rJ_iload X dX11_faithful_159 rfl ?_
          refine rJ_iload X dX11_faithful_161 rfl ?_
          refine rJ_isub X dX11_faithful_163 ?_
          refine rJ_goto (tgt := 211) X dX11_faithful_164 (by decide) ?_
          refine rJ_as (qV S (qN S t)) (by clear X hZ; grind [qV]) ?_
          exact rJ_lv _ rfl K211
      · refine rJ_iload X dX11_faithful_145 rfl ?_
        refine rJ_iload X dX11_faithful_147 rfl ?_
        refine rJ_iadd X dX11_faithful_149 ?_
        refine rJ_goto (tgt := 211) X dX11_faithful_150 (by decide) ?_
        refine rJ_as (qV S (qN S t)) (by clear X hZ; grind [qV]) ?_
        exact rJ_lv _ rfl K211
    · refine rJ_aload_n X dX11_faithful_130 rfl rfl ?_
      refine rJ_getR X fX11_35 (hw.1 _ _ rfl) (hw.2 _ _ rfl) dX11_faithful_131 ?_
      refine rJ_iload_n X dX11_faithful_134 rfl rfl ?_
      refine rJ_iald X (hw.1 _ _ rfl) hq40 dX11_faithful_135 ?_
      refine rJ_goto (tgt := 211) X dX11_faithful_136 (by decide) ?_
      refine rJ_as (qV S (qN S t)) (by clear X hZ; grind [qV]) ?_
      exact rJ_lv _ rfl K211
  have loop : ∀ (f t : Nat) (U : mI), (∀ x, x ≠ 135 → x ≠ 136 → U x = S x) → (∀ j, j < 8 → U 135 j = (qN S t).2.1 j) → (∀ j, j < 64 → U 136 j = (qN S t).2.2 j) → t ≤ g → g + 1 - t < f → rJ p l e (mR 2) s m args below meth c D vwCl mty b 12 Z 0 0 A Sh U G [(0, .ref (A 100)), (1, .int (qN S t).1), (2, .int (nI (qM S t))), (3, .int 1), (4, .int (nI t))] 56 [] := by
    intro f
    induction f with
    | zero => intro t U hx h5 h6 h1 h3; exact absurd h3 (by omega)
    | succ f ih =>
      intro t U hx h5 h6 h1 h3
      have hsU : U 100 10 = nI sz := by rw [hx 100 (by decide) (by decide)]; exact hs
      have hkU : mKind U (qN S t).1 = mKind S (qN S t).1 := mKind_of (by rw [hx 100 (by decide) (by decide)]) (hx 106 (by decide) (by decide)) _
      have h23U : U 100 23 = S 100 23 := by rw [hx 100 (by decide) (by decide)]
      refine rJ_iload X dX11_faithful_56 rfl ?_
      refine rJ_aload_n X dX11_faithful_58 rfl rfl ?_
      refine rJ_getI X fX11_109 (hw.1 _ _ rfl) dX11_faithful_59 ?_
      refine rJ_icmp_ge (tgt := 419) X dX11_faithful_62 (by decide) (fun a1 => ?_) (fun a1 => ?_)
      · exact rJ_lv _ rfl (KE U t hx (by rcases h23 with h | ⟨h, _⟩ <;> rw [h23U, h, nI_leI (by omega) (by omega)] at a1 <;> omega))
      · refine rJ_iload_n X dX11_faithful_65 rfl rfl ?_
        refine rJ_if_eq (tgt := 419) X dX11_faithful_66 (by decide) (fun a2 => ?_) (fun a2 => ?_)
        · exact absurd a2 (by decide)
        · refine rJ_aload_n X dX11_faithful_69 rfl rfl ?_
          refine rJ_iload_n X dX11_faithful_70 rfl rfl ?_
          refine rJ_Vi1 X gX11_129 (cM_kindOf hw _ hsU h40) (hw.1 _ _ rfl) dX11_faithful_71 (by decide) (Nat.le_of_ble_eq_true rfl) ⟨Nat.le_refl _, Nat.le_refl _⟩ ?_
          rw [hkU]
          refine rJ_istore X dX11_faithful_74 (by decide) ?_
          refine rJ_iload X dX11_faithful_76 rfl ?_
          refine rJ_if_ne (tgt := 84) X dX11_faithful_78 (by decide) (fun a3 => ?_) (fun a3 => ?_)
          · have htg : t < g := hlt t h1 a3 (by rw [← h23U]; exact a1)
            exact rJ_lv _ rfl (K84 f t U hx h5 h6 htg a3 (fun V v1 v2 v3 => ih (t + 1) V v1 v2 v3 (by omega) (by omega)))
          · refine rJ_goto (tgt := 419) X dX11_faithful_81 (by decide) ?_
            exact rJ_lv _ rfl (KE U t hx (by rcases Nat.lt_or_ge t g with h | h <;> first | exact absurd a3 (hns t h) | omega))
  have loop2 : ∀ (f k : Nat) (U : mI), (∀ x, x ≠ 135 → x ≠ 136 → U x = S x) → (∀ j, j < 8 → U 135 j = 0) → (∀ j, j < k → U 136 j = S 112 j) → k ≤ 64 → 64 - k < f → rJ p l e (mR 2) s m args below meth c D vwCl mty b 12 Z 0 0 A Sh U G [(0, .ref (A 100)), (1, .int (nI k))] 23 [] := by
    intro f
    induction f with
    | zero => intro k U hx h5 h6 h1 h3; exact absurd h3 (by omega)
    | succ f ih =>
      intro k U hx h5 h6 h1 h3
      refine rJ_iload_n X dX11_faithful_23 rfl rfl ?_
      refine rJ_bipush (v := 64) X dX11_faithful_24 (by decide) ?_
      refine rJ_icmp_ge (tgt := 47) X dX11_faithful_26 (by decide) (fun a1 => ?_) (fun a1 => ?_)
      · rw [show (64 : Int32) = nI 64 from rfl, nI_leI (by omega) (by omega)] at a1
        refine rJ_iconst (v := 0) X dX11_faithful_47 (by decide) ?_
        refine rJ_istore_n X dX11_faithful_48 rfl (by decide) ?_
        refine rJ_iconst (v := 0) X dX11_faithful_49 (by decide) ?_
        refine rJ_istore_n X dX11_faithful_50 rfl (by decide) ?_
        refine rJ_iconst (v := 1) X dX11_faithful_51 (by decide) ?_
        refine rJ_istore_n X dX11_faithful_52 rfl (by decide) ?_
        refine rJ_iconst (v := 0) X dX11_faithful_53 (by decide) ?_
        refine rJ_istore X dX11_faithful_54 (by decide) ?_
        exact rJ_lv _ rfl (loop (g + 2) 0 U hx (fun j hj => h5 j hj) (fun j hj => h6 j (by omega)) (by omega) (by omega))
      · rw [show (64 : Int32) = nI 64 from rfl, nI_leI (by omega) (by omega)] at a1
        refine rJ_aload_n X dX11_faithful_29 rfl rfl ?_
        refine rJ_getR X fX11_93 (hw.1 _ _ rfl) (hw.2 _ _ rfl) dX11_faithful_30 ?_
        refine rJ_iload_n X dX11_faithful_33 rfl rfl ?_
        refine rJ_aload_n X dX11_faithful_34 rfl rfl ?_
        refine rJ_getR X fX11_38 (hw.1 _ _ rfl) (hw.2 _ _ rfl) dX11_faithful_35 ?_
        refine rJ_iload_n X dX11_faithful_38 rfl rfl ?_
        refine rJ_ialdK (k := k) X rfl ⟨by omega, by omega⟩ (hw.1 _ _ rfl) dX11_faithful_39 ?_
        refine rJ_iastK (k := k) X rfl ⟨by omega, by omega⟩ (hw.1 _ _ rfl) dX11_faithful_40 (fun S40 hS40 => ?_)
        refine rJ_inc (n := 1) (w := 1) X dX11_faithful_41 rfl (by decide) (by decide) ?_
        rw [nI_1 k]
        refine rJ_goto (tgt := 23) X dX11_faithful_44 (by decide) ?_
        exact rJ_lv _ rfl (ih (k + 1) _ (fun x h1 h2 => by rw [hS40, mu_row _ _ _ h2]; exact hx x h1 h2) (fun j hj => by rw [hS40, mu_na _ _ _ (by decide)]; exact h5 j hj) (fun j hj => by
          rw [hS40]
          by_cases e : j = k
          · rw [e, mu_eq, hx 112 (by decide) (by decide)]
          · rw [mu_ns _ _ _ e]; exact h6 j (by omega)) (by omega) (by omega))
  have loop1 : ∀ (f k : Nat) (U : mI), (∀ x, x ≠ 135 → x ≠ 136 → U x = S x) → (∀ j, j < k → U 135 j = 0) → k ≤ 8 → 8 - k < f → rJ p l e (mR 2) s m args below meth c D vwCl mty b 12 Z 0 0 A Sh U G [(0, .ref (A 100)), (1, .int (nI k))] 2 [] := by
    intro f
    induction f with
    | zero => intro k U hx h5 h1 h3; exact absurd h3 (by omega)
    | succ f ih =>
      intro k U hx h5 h1 h3
      refine rJ_iload_n X dX11_faithful_2 rfl rfl ?_
      refine rJ_bipush (v := 8) X dX11_faithful_3 (by decide) ?_
      refine rJ_icmp_ge (tgt := 21) X dX11_faithful_5 (by decide) (fun a1 => ?_) (fun a1 => ?_)
      · rw [show (8 : Int32) = nI 8 from rfl, nI_leI (by omega) (by omega)] at a1
        refine rJ_iconst (v := 0) X dX11_faithful_21 (by decide) ?_
        refine rJ_istore_n X dX11_faithful_22 rfl (by decide) ?_
        exact rJ_lv _ rfl (loop2 65 0 U hx (fun j hj => h5 j (by omega)) (fun j hj => absurd hj (by omega)) (by omega) (by omega))
      · rw [show (8 : Int32) = nI 8 from rfl, nI_leI (by omega) (by omega)] at a1
        refine rJ_aload_n X dX11_faithful_8 rfl rfl ?_
        refine rJ_getR X fX11_90 (hw.1 _ _ rfl) (hw.2 _ _ rfl) dX11_faithful_9 ?_
        refine rJ_iload_n X dX11_faithful_12 rfl rfl ?_
        refine rJ_iconst (v := 0) X dX11_faithful_13 (by decide) ?_
        refine rJ_iastK (k := k) X rfl ⟨by omega, by omega⟩ (hw.1 _ _ rfl) dX11_faithful_14 (fun S14 hS14 => ?_)
        refine rJ_inc (n := 1) (w := 1) X dX11_faithful_15 rfl (by decide) (by decide) ?_
        rw [nI_1 k]
        refine rJ_goto (tgt := 2) X dX11_faithful_18 (by decide) ?_
        exact rJ_lv _ rfl (ih (k + 1) _ (fun x h1 h2 => by rw [hS14, mu_row _ _ _ h1]; exact hx x h1 h2) (fun j hj => by
          rw [hS14]
          by_cases e : j = k
          · rw [e, mu_eq]
          · rw [mu_ns _ _ _ e]; exact h5 j (by omega)) (by omega) (by omega))
  refine rJ_iconst (v := 0) X dX11_faithful_0 (by decide) ?_
  refine rJ_istore_n X dX11_faithful_1 rfl (by decide) ?_
  exact rJ_lv _ rfl (loop1 9 0 S (fun _ _ _ => rfl) (fun j hj => absurd hj (by omega)) (by omega) (by omega))
