def mF1 (S : mI) (st s0 : Nat) (n kd : Int32) : mI := if nI s0 = S 104 1 then mu (mu S 116 s0 (if mR1 kd then mRead S st s0 (S 108 n.toNatClampNeg) else 0)) 117 s0 (if mR2 kd then mRead S st s0 (S 109 n.toNatClampNeg) else 0) else S
def mF2 (S : mI) (s0 : Nat) (n kd : Int32) : mI := if nI s0 = S 104 2 then mWork S s0 n kd else S
def mClr (S : mI) (k : Nat) : mI := fun r j => if r = 115 ∧ j < k then 0 else S r j
theorem mClr_0 (S : mI) : mClr S 0 = S := by funext r j; simp [mClr]
theorem mClr_s (S : mI) (k : Nat) : mu (mClr S k) 115 k 0 = mClr S (k + 1) := by
  funext r j
  by_cases h1 : r = 115
  · by_cases h2 : j = k
    · subst h1; subst h2; simp [mu, mClr]
    · subst h1
      have : (j < k + 1) ↔ j < k := by omega
      simp [mu, mClr, h2, this]
  · simp [mu, mClr, h1]
theorem mClr_n (S : mI) (k : Nat) {r : Nat} (h : r ≠ 115) : mClr S k r = S r := by funext j; simp [mClr, h]
def mF3 (S : mI) (s0 : Nat) (n kd : Int32) : mI := if nI s0 = S 104 3 ∧ (kd = 9 ∨ kd = 7 ∧ S 116 s0 = S 117 s0) then mu (mClr S s0) 100 22 (S 110 n.toNatClampNeg) else S
def mF4 (S : mI) (s0 : Nat) (kd : Int32) : mI := if nI s0 = S 104 4 ∧ kd = 5 then mu (mu S 119 s0 (S 100 20)) 118 s0 (S 127 (mPlace S s0).toNatClampNeg) else S
def mF5 (S : mI) (s0 : Nat) (n kd : Int32) : mI := if nI s0 = S 104 6 then mCom S s0 n kd else S
def mF6 (S : mI) (st s0 : Nat) (n : Int32) : mI := if s0 + 1 = st then mu (mu S 115 s0 0) 100 23 (S 100 23 + 1) else mu (mu (mu (mu (mu (mu (mu (mu S 115 s0 0) 115 (s0 + 1) 1) 114 (s0 + 1) n) 116 (s0 + 1) (S 116 s0)) 117 (s0 + 1) (S 117 s0)) 118 (s0 + 1) (S 118 s0)) 119 (s0 + 1) (S 119 s0)) 120 (s0 + 1) (S 100 20)
/-- what firing stage s0 makes of the state -/
def mFire (S : mI) (st s0 : Nat) : mI := mF6 (mF5 (mF4 (mF3 (mF2 (mF1 S st s0 (S 114 s0) (mKind S (S 114 s0))) s0 (S 114 s0) (mKind S (S 114 s0))) s0 (S 114 s0) (mKind S (S 114 s0))) s0 (mKind S (S 114 s0))) s0 (S 114 s0) (mKind S (S 114 s0))) st s0 (S 114 s0)
/-- what the phases keep -/
def mKp (S S' : mI) (st sz s0 : Nat) : Prop := mOk S' st sz ∧ S' 114 s0 = S 114 s0 ∧ (∀ n, mKind S' n = mKind S n) ∧ 0 ≤ (S' 100 32).toInt
theorem mKp_mu {S U : mI} {st sz s0 : Nat} (h : mKp S U st sz s0) {r : Nat} (k : Nat) (v : Int32) (hr : r ≠ 100 ∧ r ≠ 106 ∧ r ≠ 107 ∧ r ≠ 108 ∧ r ≠ 109 ∧ r ≠ 114) : mKp S (mu U r k v) st sz s0 := by
  obtain ⟨h1, h2, h3, h4⟩ := h
  obtain ⟨r0, r1, r2, r3, r4, r5⟩ := hr
  refine ⟨mOk_mu h1 k v ⟨r0, r1, r2, r3, r4⟩, by rw [mu_na _ _ _ (Ne.symm r5)]; exact h2, fun n => (mKind_mu k v n ⟨r0, r1⟩).trans (h3 n), by rw [mu_na _ _ _ (Ne.symm r0)]; exact h4⟩
theorem mKp_m0 {S U : mI} {st sz s0 : Nat} (h : mKp S U st sz s0) (k : Nat) (v : Int32) (hk : k ≠ 2 ∧ k ≠ 10 ∧ k ≠ 27 ∧ k ≠ 32) : mKp S (mu U 100 k v) st sz s0 := by
  obtain ⟨h1, h2, h3, h4⟩ := h
  refine ⟨mOk_m0 h1 k v ⟨hk.1, hk.2.1, hk.2.2.1⟩, by rw [mu_na _ _ _ (by decide)]; exact h2, fun n => (mKind_m0 k v n hk.2.1).trans (h3 n), by rw [mu_ns _ _ _ (Ne.symm hk.2.2.2)]; exact h4⟩
theorem mKp_clr {S U : mI} {st sz s0 : Nat} (h : mKp S U st sz s0) (k : Nat) : mKp S (mClr U k) st sz s0 := by
  obtain ⟨h1, h2, h3, h4⟩ := h
  refine ⟨mOk_of h1 (by rw [mClr_n _ _ (by decide)]) (by rw [mClr_n _ _ (by decide)]) (by rw [mClr_n _ _ (by decide)]; exact h1.2.2.2.2.2.1) (mClr_n _ _ (by decide)) (mClr_n _ _ (by decide)) (mClr_n _ _ (by decide)) (mClr_n _ _ (by decide)), by rw [mClr_n _ _ (by decide)]; exact h2, fun n => (mKind_of (by rw [mClr_n _ _ (by decide)]) (mClr_n _ _ (by decide)) n).trans (h3 n), by rw [mClr_n _ _ (by decide)]; exact h4⟩
theorem mKp_work {S U : mI} {st sz s0 : Nat} (h : mKp S U st sz s0) (n kd : Int32) : mKp S (mWork U s0 n kd) st sz s0 := by
  unfold mWork
  split
  · exact mKp_mu h _ _ (by decide)
  · split
    · exact mKp_mu h _ _ (by decide)
    · exact h
theorem mKp_c1 {S U : mI} {st sz s0 : Nat} (h : mKp S U st sz s0) (hc : (U 100 32).toInt < 2147483647) (k q v : Int32) : mKp S (mC1 U k q v) st sz s0 := by
  have e1 : (1 : Int32).toInt = 1 := rfl
  have h5 : (U 100 32 + 1).toInt = (U 100 32).toInt + 1 := by
    have := h.2.2.2
    rw [i_add (by rw [e1]; omega) (by rw [e1]; omega), e1]
  have hw : ∀ V : mI, mKp S V st sz s0 → mKp S (mu V 100 32 (U 100 32 + 1)) st sz s0 := by
    intro V hV
    obtain ⟨h1, h2, h3, h4⟩ := hV
    refine ⟨mOk_m0 h1 _ _ (by decide), by rw [mu_na _ _ _ (by decide)]; exact h2, fun n => (mKind_m0 _ _ n (by decide)).trans (h3 n), ?_⟩
    rw [mu_eq, h5]
    have := h.2.2.2
    omega
  unfold mC1
  refine hw _ ?_
  split
  · exact mKp_mu (mKp_mu (mKp_mu (mKp_mu h _ _ (by decide)) _ _ (by decide)) _ _ (by decide)) _ _ (by decide)
  · exact h
theorem mKp_st {S U : mI} {st sz s0 : Nat} (h : mKp S U st sz s0) : mKp S (mu U 100 27 1) st sz s0 := by
  obtain ⟨h1, h2, h3, h4⟩ := h
  exact ⟨mOk_st h1, by rw [mu_na _ _ _ (by decide)]; exact h2, fun n => (mKind_m0 _ _ n (by decide)).trans (h3 n), by rw [mu_ns _ _ _ (by decide)]; exact h4⟩
theorem mKp_com {S U : mI} {st sz s0 : Nat} (h : mKp S U st sz s0) (hc : (U 100 32).toInt < 2147483647) (n kd : Int32) : mKp S (mCom U s0 n kd) st sz s0 := by
  unfold mCom
  split
  · exact mKp_c1 (mKp_mu (mKp_mu h _ _ (by decide)) _ _ (by decide)) (by rw [mu_na _ _ _ (by decide), mu_na _ _ _ (by decide)]; exact hc) _ _ _
  · split
    · exact mKp_c1 (mKp_st (mKp_mu h _ _ (by decide))) (by rw [mu_ns _ _ _ (by decide), mu_na _ _ _ (by decide)]; exact hc) _ _ _
    · split
      · exact mKp_c1 h hc _ _ _
      · split
        · exact mKp_m0 h _ _ (by decide)
        · exact h
theorem mWork_0 (S : mI) (s0 : Nat) (n kd : Int32) : mWork S s0 n kd 100 = S 100 := by
  unfold mWork
  split
  · exact mu_row _ _ _ (by decide)
  · split
    · exact mu_row _ _ _ (by decide)
    · rfl
theorem mRead_m16 (S : mI) (k : Nat) (v : Int32) (st s0 : Nat) (reg : Int32) : mRead (mu S 116 k v) st s0 reg = mRead S st s0 reg := mRead_of (mu_row _ _ _ (by decide)) (mu_row _ _ _ (by decide)) (fun n => mKind_mu _ _ n (by decide)) (mu_row _ _ _ (by decide)) (mu_row _ _ _ (by decide)) (mu_row _ _ _ (by decide)) st s0 reg
set_option maxHeartbeats 4000000 in
set_option maxRecDepth 100000 in
theorem cM_fire {l : Launch} {D : va_G} {b : Nat} {A : Nat → Nat} {Sh : mS} {S : mI} {G : mP} (hw : okM Sh G) {st sz s0 : Nat} (hB : mOk S st sz) (hlt : s0 < st) (h32 : 0 ≤ (S 100 32).toInt) (hc : (S 100 32).toInt < 2147483647) : rMet l D b yX11_fire cX11_fire 5 none (mR 5) A Sh S G [.ref (A 100), .int (nI s0)] (rPv A Sh (mFire S st s0) G) := by
  refine rMet_oz RX11 rfl (by decide) (Nat.le_of_ble_eq_true rfl) ?_
  intro p e s m args below meth c Z hZ X hnm
  obtain ⟨h2, hst2, h8, hs, h40, h27, hV⟩ := id hB
  have K225 : ∀ U : mI, mKp S U st sz s0 → mF6 U st s0 (S 114 s0) = mFire S st s0 → rJ p l e (mR 5) s m args below meth c D vwCl mty b 5 Z 0 0 A Sh U G [(0, .ref (A 100)), (1, .int (nI s0)), (2, .int (S 114 s0)), (3, .int (mKind S (S 114 s0)))] 225 [] := by
    intro U hk he
    obtain ⟨hB', hn', hkd', h32'⟩ := id hk
    obtain ⟨h2', hst2', h8', hs', h40', h27', hV'⟩ := id hB'
    refine rJ_aload_n X dX11_fire_225 rfl rfl ?_
    refine rJ_getR X fX11_47 (hw.1 _ _ rfl) (hw.2 _ _ rfl) dX11_fire_226 ?_
    refine rJ_iload_n X dX11_fire_229 rfl rfl ?_
    refine rJ_iconst (v := 0) X dX11_fire_230 (by decide) ?_
    refine rJ_zastK (k := s0) X rfl ⟨by omega, by omega⟩ (hw.1 _ _ rfl) rfl dX11_fire_231 (fun S231 hS231 => ?_)
    refine rJ_iload_n X dX11_fire_232 rfl rfl ?_
    refine rJ_iconst (v := 1) X dX11_fire_233 (by decide) ?_
    refine rJ_iadd X dX11_fire_234 ?_
    refine rJ_as (nI (s0 + 1)) (nI_1 s0) ?_
    refine rJ_aload_n X dX11_fire_235 rfl rfl ?_
    refine rJ_getI X fX11_13 (hw.1 _ _ rfl) dX11_fire_236 ?_
    refine rJ_icmp_ne (tgt := 253) X dX11_fire_239 (by decide) (fun a1 => ?_) (fun a1 => ?_)
    · rw [hS231, mu_na _ _ _ (by decide), h2', nI_eq (by omega) (by omega)] at a1
      refine rJ_aload_n X dX11_fire_253 rfl rfl ?_
      refine rJ_getR X fX11_47 (hw.1 _ _ rfl) (hw.2 _ _ rfl) dX11_fire_254 ?_
      refine rJ_iload_n X dX11_fire_257 rfl rfl ?_
      refine rJ_iconst (v := 1) X dX11_fire_258 (by decide) ?_
      refine rJ_iadd X dX11_fire_259 ?_
      refine rJ_as (nI (s0 + 1)) (nI_1 s0) ?_
      refine rJ_iconst (v := 1) X dX11_fire_260 (by decide) ?_
      refine rJ_zastK (k := (s0 + 1)) X rfl ⟨by omega, by omega⟩ (hw.1 _ _ rfl) rfl dX11_fire_261 (fun S261 hS261 => ?_)
      refine rJ_aload_n X dX11_fire_262 rfl rfl ?_
      refine rJ_getR X fX11_44 (hw.1 _ _ rfl) (hw.2 _ _ rfl) dX11_fire_263 ?_
      refine rJ_iload_n X dX11_fire_266 rfl rfl ?_
      refine rJ_iconst (v := 1) X dX11_fire_267 (by decide) ?_
      refine rJ_iadd X dX11_fire_268 ?_
      refine rJ_as (nI (s0 + 1)) (nI_1 s0) ?_
      refine rJ_iload_n X dX11_fire_269 rfl rfl ?_
      refine rJ_iastK (k := (s0 + 1)) X rfl ⟨by omega, by omega⟩ (hw.1 _ _ rfl) dX11_fire_270 (fun S270 hS270 => ?_)
      refine rJ_aload_n X dX11_fire_271 rfl rfl ?_
      refine rJ_getR X fX11_51 (hw.1 _ _ rfl) (hw.2 _ _ rfl) dX11_fire_272 ?_
      refine rJ_iload_n X dX11_fire_275 rfl rfl ?_
      refine rJ_iconst (v := 1) X dX11_fire_276 (by decide) ?_
      refine rJ_iadd X dX11_fire_277 ?_
      refine rJ_as (nI (s0 + 1)) (nI_1 s0) ?_
      refine rJ_aload_n X dX11_fire_278 rfl rfl ?_
      refine rJ_getR X fX11_51 (hw.1 _ _ rfl) (hw.2 _ _ rfl) dX11_fire_279 ?_
      refine rJ_iload_n X dX11_fire_282 rfl rfl ?_
      refine rJ_ialdK (k := s0) X rfl ⟨by omega, by omega⟩ (hw.1 _ _ rfl) dX11_fire_283 ?_
      refine rJ_iastK (k := (s0 + 1)) X rfl ⟨by omega, by omega⟩ (hw.1 _ _ rfl) dX11_fire_284 (fun S284 hS284 => ?_)
      refine rJ_aload_n X dX11_fire_285 rfl rfl ?_
      refine rJ_getR X fX11_54 (hw.1 _ _ rfl) (hw.2 _ _ rfl) dX11_fire_286 ?_
      refine rJ_iload_n X dX11_fire_289 rfl rfl ?_
      refine rJ_iconst (v := 1) X dX11_fire_290 (by decide) ?_
      refine rJ_iadd X dX11_fire_291 ?_
      refine rJ_as (nI (s0 + 1)) (nI_1 s0) ?_
      refine rJ_aload_n X dX11_fire_292 rfl rfl ?_
      refine rJ_getR X fX11_54 (hw.1 _ _ rfl) (hw.2 _ _ rfl) dX11_fire_293 ?_
      refine rJ_iload_n X dX11_fire_296 rfl rfl ?_
      refine rJ_ialdK (k := s0) X rfl ⟨by omega, by omega⟩ (hw.1 _ _ rfl) dX11_fire_297 ?_
      refine rJ_iastK (k := (s0 + 1)) X rfl ⟨by omega, by omega⟩ (hw.1 _ _ rfl) dX11_fire_298 (fun S298 hS298 => ?_)
      refine rJ_aload_n X dX11_fire_299 rfl rfl ?_
      refine rJ_getR X fX11_57 (hw.1 _ _ rfl) (hw.2 _ _ rfl) dX11_fire_300 ?_
      refine rJ_iload_n X dX11_fire_303 rfl rfl ?_
      refine rJ_iconst (v := 1) X dX11_fire_304 (by decide) ?_
      refine rJ_iadd X dX11_fire_305 ?_
      refine rJ_as (nI (s0 + 1)) (nI_1 s0) ?_
      refine rJ_aload_n X dX11_fire_306 rfl rfl ?_
      refine rJ_getR X fX11_57 (hw.1 _ _ rfl) (hw.2 _ _ rfl) dX11_fire_307 ?_
      refine rJ_iload_n X dX11_fire_310 rfl rfl ?_
      refine rJ_ialdK (k := s0) X rfl ⟨by omega, by omega⟩ (hw.1 _ _ rfl) dX11_fire_311 ?_
      refine rJ_iastK (k := (s0 + 1)) X rfl ⟨by omega, by omega⟩ (hw.1 _ _ rfl) dX11_fire_312 (fun S312 hS312 => ?_)
      refine rJ_aload_n X dX11_fire_313 rfl rfl ?_
      refine rJ_getR X fX11_60 (hw.1 _ _ rfl) (hw.2 _ _ rfl) dX11_fire_314 ?_
      refine rJ_iload_n X dX11_fire_317 rfl rfl ?_
      refine rJ_iconst (v := 1) X dX11_fire_318 (by decide) ?_
      refine rJ_iadd X dX11_fire_319 ?_
      refine rJ_as (nI (s0 + 1)) (nI_1 s0) ?_
      refine rJ_aload_n X dX11_fire_320 rfl rfl ?_
      refine rJ_getR X fX11_60 (hw.1 _ _ rfl) (hw.2 _ _ rfl) dX11_fire_321 ?_
      refine rJ_iload_n X dX11_fire_324 rfl rfl ?_
      refine rJ_ialdK (k := s0) X rfl ⟨by omega, by omega⟩ (hw.1 _ _ rfl) dX11_fire_325 ?_
      refine rJ_iastK (k := (s0 + 1)) X rfl ⟨by omega, by omega⟩ (hw.1 _ _ rfl) dX11_fire_326 (fun S326 hS326 => ?_)
      refine rJ_aload_n X dX11_fire_327 rfl rfl ?_
      refine rJ_getR X fX11_63 (hw.1 _ _ rfl) (hw.2 _ _ rfl) dX11_fire_328 ?_
      refine rJ_iload_n X dX11_fire_331 rfl rfl ?_
      refine rJ_iconst (v := 1) X dX11_fire_332 (by decide) ?_
      refine rJ_iadd X dX11_fire_333 ?_
      refine rJ_as (nI (s0 + 1)) (nI_1 s0) ?_
      refine rJ_aload_n X dX11_fire_334 rfl rfl ?_
      refine rJ_getI X fX11_99 (hw.1 _ _ rfl) dX11_fire_335 ?_
      refine rJ_iastK (k := (s0 + 1)) X rfl ⟨by omega, by omega⟩ (hw.1 _ _ rfl) dX11_fire_338 (fun S338 hS338 => ?_)
      exact rJ_vretZ hZ X dX11_fire_339 ⟨rfl, rfl, rfl, by rw [← he]; clear he; subst_vars; simp [mF6, mu_na, a1], rfl⟩
    · rw [hS231, mu_na _ _ _ (by decide), h2', nI_eq (by omega) (by omega)] at a1
      refine rJ_aload_n X dX11_fire_242 rfl rfl ?_
      refine rJ_dup X dX11_fire_243 rfl ?_
      refine rJ_getI X fX11_109 (hw.1 _ _ rfl) dX11_fire_244 ?_
      refine rJ_iconst (v := 1) X dX11_fire_247 (by decide) ?_
      refine rJ_iadd X dX11_fire_248 ?_
      refine rJ_setI X fX11_109 (Or.inl fwX11_109) (hw.1 _ _ rfl) ⟨rfl, rfl⟩ dX11_fire_249 (fun S249 hS249 => ?_)
      exact rJ_vretZ hZ X dX11_fire_252 ⟨rfl, rfl, rfl, by rw [← he]; clear he; subst_vars; simp [mF6, mu_na], rfl⟩
  have K207 : ∀ U : mI, (mKp S U st sz s0 ∧ U 100 32 = S 100 32) → mF6 (mF5 U s0 (S 114 s0) (mKind S (S 114 s0))) st s0 (S 114 s0) = mFire S st s0 → rJ p l e (mR 5) s m args below meth c D vwCl mty b 5 Z 0 0 A Sh U G [(0, .ref (A 100)), (1, .int (nI s0)), (2, .int (S 114 s0)), (3, .int (mKind S (S 114 s0)))] 207 [] := by
    intro U hk he
    obtain ⟨hk, hc32⟩ := hk
    obtain ⟨hB', hn', hkd', h32'⟩ := id hk
    obtain ⟨h2', hst2', h8', hs', h40', h27', hV'⟩ := id hB'
    refine rJ_iload_n X dX11_fire_207 rfl rfl ?_
    refine rJ_aload_n X dX11_fire_208 rfl rfl ?_
    refine rJ_getR X fX11_17 (hw.1 _ _ rfl) (hw.2 _ _ rfl) dX11_fire_209 ?_
    refine rJ_bipush (v := 6) X dX11_fire_212 (by decide) ?_
    refine rJ_ialdK (k := 6) X (by decide) ⟨by decide, by decide⟩ (hw.1 _ _ rfl) dX11_fire_214 ?_
    refine rJ_icmp_ne (tgt := 225) X dX11_fire_215 (by decide) (fun a1 => ?_) (fun a1 => ?_)
    · exact rJ_lv _ rfl (K225 U hk (by rw [← he, mF5, if_neg a1]))
    · refine rJ_aload_n X dX11_fire_218 rfl rfl ?_
      refine rJ_iload_n X dX11_fire_219 rfl rfl ?_
      refine rJ_iload_n X dX11_fire_220 rfl rfl ?_
      refine rJ_iload_n X dX11_fire_221 rfl rfl ?_
      rw [← hkd', ← hn']
      refine rJ_Vv3 X gX11_169 (cM_commitAll hw hB' hlt h32') (hw.1 _ _ rfl) dX11_fire_222 (by decide) (Nat.le_of_ble_eq_true rfl) ⟨Nat.le_refl _, Nat.le_refl _⟩ ?_
      rw [hn', hkd']
      exact rJ_lv _ rfl (K225 _ (mKp_com hk (by rw [hc32]; exact hc) _ _) (by rw [← he, mF5, if_pos a1]))
  have K166 : ∀ U : mI, (mKp S U st sz s0 ∧ U 100 32 = S 100 32) → mF6 (mF5 (mF4 U s0 (mKind S (S 114 s0))) s0 (S 114 s0) (mKind S (S 114 s0))) st s0 (S 114 s0) = mFire S st s0 → rJ p l e (mR 5) s m args below meth c D vwCl mty b 5 Z 0 0 A Sh U G [(0, .ref (A 100)), (1, .int (nI s0)), (2, .int (S 114 s0)), (3, .int (mKind S (S 114 s0)))] 166 [] := by
    intro U hk he
    obtain ⟨hk, hc32⟩ := hk
    obtain ⟨hB', hn', hkd', h32'⟩ := id hk
    obtain ⟨h2', hst2', h8', hs', h40', h27', hV'⟩ := id hB'
    refine rJ_iload_n X dX11_fire_166 rfl rfl ?_
    refine rJ_aload_n X dX11_fire_167 rfl rfl ?_
    refine rJ_getR X fX11_17 (hw.1 _ _ rfl) (hw.2 _ _ rfl) dX11_fire_168 ?_
    refine rJ_iconst (v := 4) X dX11_fire_171 (by decide) ?_
    refine rJ_ialdK (k := 4) X (by decide) ⟨by decide, by decide⟩ (hw.1 _ _ rfl) dX11_fire_172 ?_
    refine rJ_icmp_ne (tgt := 207) X dX11_fire_173 (by decide) (fun a1 => ?_) (fun a1 => ?_)
    · first
        | exact rJ_lv _ rfl (K207 U ⟨hk, hc32⟩ (by rw [← he, mF4, if_neg (by clear X hZ; grind)]))
        | (refine rJ_lv _ rfl (K207 _ (by subst hS206; subst hS190; exact ⟨mKp_mu (mKp_mu hk _ _ (by decide)) _ _ (by decide), by rw [mu_na _ _ _ (by decide), mu_na _ _ _ (by decide)]; exact hc32⟩) (by rw [← he, mF4, if_pos ⟨a1, a2⟩]; clear he; subst hS206; subst hS190; simp [mu_na, mPlace_mu])))
    · refine rJ_iload_n X dX11_fire_176 rfl rfl ?_
      refine rJ_iconst (v := 5) X dX11_fire_177 (by decide) ?_
      refine rJ_icmp_ne (tgt := 207) X dX11_fire_178 (by decide) (fun a2 => ?_) (fun a2 => ?_)
      · first
          | exact rJ_lv _ rfl (K207 U ⟨hk, hc32⟩ (by rw [← he, mF4, if_neg (by clear X hZ; grind)]))
          | (refine rJ_lv _ rfl (K207 _ (by subst hS206; subst hS190; exact ⟨mKp_mu (mKp_mu hk _ _ (by decide)) _ _ (by decide), by rw [mu_na _ _ _ (by decide), mu_na _ _ _ (by decide)]; exact hc32⟩) (by rw [← he, mF4, if_pos ⟨a1, a2⟩]; clear he; subst hS206; subst hS190; simp [mu_na, mPlace_mu])))
      · refine rJ_aload_n X dX11_fire_181 rfl rfl ?_
        refine rJ_getR X fX11_60 (hw.1 _ _ rfl) (hw.2 _ _ rfl) dX11_fire_182 ?_
        refine rJ_iload_n X dX11_fire_185 rfl rfl ?_
        refine rJ_aload_n X dX11_fire_186 rfl rfl ?_
        refine rJ_getI X fX11_99 (hw.1 _ _ rfl) dX11_fire_187 ?_
        refine rJ_iastK (k := s0) X rfl ⟨by omega, by omega⟩ (hw.1 _ _ rfl) dX11_fire_190 (fun S190 hS190 => ?_)
        refine rJ_aload_n X dX11_fire_191 rfl rfl ?_
        refine rJ_getR X fX11_57 (hw.1 _ _ rfl) (hw.2 _ _ rfl) dX11_fire_192 ?_
        refine rJ_iload_n X dX11_fire_195 rfl rfl ?_
        refine rJ_aload_n X dX11_fire_196 rfl rfl ?_
        refine rJ_getR X fX11_72 (hw.1 _ _ rfl) (hw.2 _ _ rfl) dX11_fire_197 ?_
        refine rJ_aload_n X dX11_fire_200 rfl rfl ?_
        refine rJ_iload_n X dX11_fire_201 rfl rfl ?_
        refine rJ_Vi1 X gX11_156 (cM_placeOf hw (by omega) (by rw [hS190, mu_na _ _ _ (by decide), hn']; exact (mKind_ne hs h40 (by clear X hZ; grind)))) (hw.1 _ _ rfl) dX11_fire_202 (by decide) (Nat.le_of_ble_eq_true rfl) ⟨Nat.le_refl _, Nat.le_refl _⟩ ?_
        refine rJ_iald X (hw.1 _ _ rfl) (mPlace_in _ _) dX11_fire_205 ?_
        refine rJ_iastK (k := s0) X rfl ⟨by omega, by omega⟩ (hw.1 _ _ rfl) dX11_fire_206 (fun S206 hS206 => ?_)
        first
          | exact rJ_lv _ rfl (K207 U ⟨hk, hc32⟩ (by rw [← he, mF4, if_neg (by clear X hZ; grind)]))
          | (refine rJ_lv _ rfl (K207 _ (by subst hS206; subst hS190; exact ⟨mKp_mu (mKp_mu hk _ _ (by decide)) _ _ (by decide), by rw [mu_na _ _ _ (by decide), mu_na _ _ _ (by decide)]; exact hc32⟩) (by rw [← he, mF4, if_pos ⟨a1, a2⟩]; clear he; subst hS206; subst hS190; simp [mu_na, mPlace_mu])))
  have K96 : ∀ U : mI, (mKp S U st sz s0 ∧ U 100 32 = S 100 32) → mF6 (mF5 (mF4 (mF3 U s0 (S 114 s0) (mKind S (S 114 s0))) s0 (mKind S (S 114 s0))) s0 (S 114 s0) (mKind S (S 114 s0))) st s0 (S 114 s0) = mFire S st s0 → rJ p l e (mR 5) s m args below meth c D vwCl mty b 5 Z 0 0 A Sh U G [(0, .ref (A 100)), (1, .int (nI s0)), (2, .int (S 114 s0)), (3, .int (mKind S (S 114 s0)))] 96 [] := by
    intro U hk he
    obtain ⟨hk, hc32⟩ := hk
    obtain ⟨hB', hn', hkd', h32'⟩ := id hk
    obtain ⟨h2', hst2', h8', hs', h40', h27', hV'⟩ := id hB'
    by_cases hvc : nI s0 = U 104 3 ∧ ((mKind S (S 114 s0)) = 9 ∨ (mKind S (S 114 s0)) = 7 ∧ U 116 s0 = U 117 s0)
    · have K156 : ∀ V : mI, V = mClr U s0 → rJ p l e (mR 5) s m args below meth c D vwCl mty b 5 Z 0 0 A Sh V G [(0, .ref (A 100)), (1, .int (nI s0)), (2, .int (S 114 s0)), (3, .int (mKind S (S 114 s0)))] 156 [] := by
        intro V hV0
        refine rJ_aload_n X dX11_fire_156 rfl rfl ?_
        refine rJ_aload_n X dX11_fire_157 rfl rfl ?_
        refine rJ_getR X fX11_35 (hw.1 _ _ rfl) (hw.2 _ _ rfl) dX11_fire_158 ?_
        refine rJ_iload_n X dX11_fire_161 rfl rfl ?_
        refine rJ_iald X (hw.1 _ _ rfl) (mKind_ne hs h40 (by clear X hZ; grind)) dX11_fire_162 ?_
        refine rJ_setI X fX11_106 (Or.inl fwX11_106) (hw.1 _ _ rfl) ⟨rfl, rfl⟩ dX11_fire_163 (fun S163 hS163 => ?_)
        exact rJ_lv _ rfl (K166 _ (by subst hS163; subst hV0; exact ⟨mKp_m0 (mKp_clr hk _) _ _ (by decide), by rw [mu_ns _ _ _ (by decide), mClr_n _ _ (by decide)]; exact hc32⟩) (by rw [← he, mF3, if_pos hvc]; clear he; subst hS163; subst hV0; rw [mClr_n U s0 (r := 110) (by decide)]))
      have loop : ∀ (f k : Nat) (V : mI), V = mClr U k → k ≤ s0 → s0 - k < f → rJ p l e (mR 5) s m args below meth c D vwCl mty b 5 Z 0 0 A Sh V G [(0, .ref (A 100)), (1, .int (nI s0)), (2, .int (S 114 s0)), (3, .int (mKind S (S 114 s0))), (4, .int (nI k))] 136 [] := by
        intro f
        induction f with
        | zero => intro k V hV0 h1 h3; exact absurd h3 (by omega)
        | succ f ih =>
          intro k V hV0 h1 h3
          refine rJ_iload X dX11_fire_136 rfl ?_
          refine rJ_iload_n X dX11_fire_138 rfl rfl ?_
          refine rJ_icmp_ge (tgt := 156) X dX11_fire_139 (by decide) (fun e1 => ?_) (fun e1 => ?_)
          · rw [nI_leI (by omega) (by omega)] at e1
            exact rJ_lv _ rfl (K156 V (by rw [hV0, show k = s0 by omega]))
          · rw [nI_leI (by omega) (by omega)] at e1
            refine rJ_aload_n X dX11_fire_142 rfl rfl ?_
            refine rJ_getR X fX11_47 (hw.1 _ _ rfl) (hw.2 _ _ rfl) dX11_fire_143 ?_
            refine rJ_iload X dX11_fire_146 rfl ?_
            refine rJ_iconst (v := 0) X dX11_fire_148 (by decide) ?_
            refine rJ_zastK (k := k) X rfl ⟨by omega, by omega⟩ (hw.1 _ _ rfl) rfl dX11_fire_149 (fun S149 hS149 => ?_)
            refine rJ_inc (n := 1) (w := 1) X dX11_fire_150 rfl (by decide) (by decide) ?_
            rw [nI_1 k]
            refine rJ_goto (tgt := 136) X dX11_fire_153 (by decide) ?_
            exact rJ_lv _ rfl (ih (k + 1) _ (by rw [hS149, hV0, mClr_s]) (by omega) (by omega))
      refine rJ_iload_n X dX11_fire_96 rfl rfl ?_
      refine rJ_aload_n X dX11_fire_97 rfl rfl ?_
      refine rJ_getR X fX11_17 (hw.1 _ _ rfl) (hw.2 _ _ rfl) dX11_fire_98 ?_
      refine rJ_iconst (v := 3) X dX11_fire_101 (by decide) ?_
      refine rJ_ialdK (k := 3) X (by decide) ⟨by decide, by decide⟩ (hw.1 _ _ rfl) dX11_fire_102 ?_
      refine rJ_icmp_ne (tgt := 166) X dX11_fire_103 (by decide) (fun a1 => ?_) (fun a1 => ?_)
      · exact rJ_lv _ rfl (K166 U ⟨hk, hc32⟩ (by rw [← he, mF3, if_neg (by clear X hZ; grind)]))
      · refine rJ_iload_n X dX11_fire_106 rfl rfl ?_
        refine rJ_bipush (v := 9) X dX11_fire_107 (by decide) ?_
        refine rJ_icmp_eq (tgt := 133) X dX11_fire_109 (by decide) (fun a2 => ?_) (fun a2 => ?_)
        · refine rJ_iconst (v := 0) X dX11_fire_133 (by decide) ?_
          refine rJ_istore X dX11_fire_134 (by decide) ?_
          exact rJ_lv _ rfl (loop (s0 + 1) 0 U (mClr_0 U).symm (by omega) (by omega))
        · refine rJ_iload_n X dX11_fire_112 rfl rfl ?_
          refine rJ_bipush (v := 7) X dX11_fire_113 (by decide) ?_
          refine rJ_icmp_ne (tgt := 166) X dX11_fire_115 (by decide) (fun a3 => ?_) (fun a3 => ?_)
          · exact rJ_lv _ rfl (K166 U ⟨hk, hc32⟩ (by rw [← he, mF3, if_neg (by clear X hZ; grind)]))
          · refine rJ_aload_n X dX11_fire_118 rfl rfl ?_
            refine rJ_getR X fX11_51 (hw.1 _ _ rfl) (hw.2 _ _ rfl) dX11_fire_119 ?_
            refine rJ_iload_n X dX11_fire_122 rfl rfl ?_
            refine rJ_ialdK (k := s0) X rfl ⟨by omega, by omega⟩ (hw.1 _ _ rfl) dX11_fire_123 ?_
            refine rJ_aload_n X dX11_fire_124 rfl rfl ?_
            refine rJ_getR X fX11_54 (hw.1 _ _ rfl) (hw.2 _ _ rfl) dX11_fire_125 ?_
            refine rJ_iload_n X dX11_fire_128 rfl rfl ?_
            refine rJ_ialdK (k := s0) X rfl ⟨by omega, by omega⟩ (hw.1 _ _ rfl) dX11_fire_129 ?_
            refine rJ_icmp_ne (tgt := 166) X dX11_fire_130 (by decide) (fun a4 => ?_) (fun a4 => ?_)
            · exact rJ_lv _ rfl (K166 U ⟨hk, hc32⟩ (by rw [← he, mF3, if_neg (by clear X hZ; grind)]))
            · refine rJ_iconst (v := 0) X dX11_fire_133 (by decide) ?_
              refine rJ_istore X dX11_fire_134 (by decide) ?_
              exact rJ_lv _ rfl (loop (s0 + 1) 0 U (mClr_0 U).symm (by omega) (by omega))
    · have he2 : mF6 (mF5 (mF4 U s0 (mKind S (S 114 s0))) s0 (S 114 s0) (mKind S (S 114 s0))) st s0 (S 114 s0) = mFire S st s0 := by rw [← he, mF3, if_neg hvc]
      refine rJ_iload_n X dX11_fire_96 rfl rfl ?_
      refine rJ_aload_n X dX11_fire_97 rfl rfl ?_
      refine rJ_getR X fX11_17 (hw.1 _ _ rfl) (hw.2 _ _ rfl) dX11_fire_98 ?_
      refine rJ_iconst (v := 3) X dX11_fire_101 (by decide) ?_
      refine rJ_ialdK (k := 3) X (by decide) ⟨by decide, by decide⟩ (hw.1 _ _ rfl) dX11_fire_102 ?_
      refine rJ_icmp_ne (tgt := 166) X dX11_fire_103 (by decide) (fun a1 => ?_) (fun a1 => ?_)
      · exact rJ_lv _ rfl (K166 U ⟨hk, hc32⟩ he2)
      · refine rJ_iload_n X dX11_fire_106 rfl rfl ?_
        refine rJ_bipush (v := 9) X dX11_fire_107 (by decide) ?_
        refine rJ_icmp_eq (tgt := 133) X dX11_fire_109 (by decide) (fun a2 => ?_) (fun a2 => ?_)
        · exact absurd ⟨a1, (by clear X hZ; grind)⟩ hvc
        · refine rJ_iload_n X dX11_fire_112 rfl rfl ?_
          refine rJ_bipush (v := 7) X dX11_fire_113 (by decide) ?_
          refine rJ_icmp_ne (tgt := 166) X dX11_fire_115 (by decide) (fun a3 => ?_) (fun a3 => ?_)
          · exact rJ_lv _ rfl (K166 U ⟨hk, hc32⟩ he2)
          · refine rJ_aload_n X dX11_fire_118 rfl rfl ?_
            refine rJ_getR X fX11_51 (hw.1 _ _ rfl) (hw.2 _ _ rfl) dX11_fire_119 ?_
            refine rJ_iload_n X dX11_fire_122 rfl rfl ?_
            refine rJ_ialdK (k := s0) X rfl ⟨by omega, by omega⟩ (hw.1 _ _ rfl) dX11_fire_123 ?_
            refine rJ_aload_n X dX11_fire_124 rfl rfl ?_
            refine rJ_getR X fX11_54 (hw.1 _ _ rfl) (hw.2 _ _ rfl) dX11_fire_125 ?_
            refine rJ_iload_n X dX11_fire_128 rfl rfl ?_
            refine rJ_ialdK (k := s0) X rfl ⟨by omega, by omega⟩ (hw.1 _ _ rfl) dX11_fire_129 ?_
            refine rJ_icmp_ne (tgt := 166) X dX11_fire_130 (by decide) (fun a4 => ?_) (fun a4 => ?_)
            · exact rJ_lv _ rfl (K166 U ⟨hk, hc32⟩ he2)
            · exact absurd ⟨a1, (by clear X hZ; grind)⟩ hvc
  have K79 : ∀ U : mI, (mKp S U st sz s0 ∧ U 100 32 = S 100 32) → mF6 (mF5 (mF4 (mF3 (mF2 U s0 (S 114 s0) (mKind S (S 114 s0))) s0 (S 114 s0) (mKind S (S 114 s0))) s0 (mKind S (S 114 s0))) s0 (S 114 s0) (mKind S (S 114 s0))) st s0 (S 114 s0) = mFire S st s0 → rJ p l e (mR 5) s m args below meth c D vwCl mty b 5 Z 0 0 A Sh U G [(0, .ref (A 100)), (1, .int (nI s0)), (2, .int (S 114 s0)), (3, .int (mKind S (S 114 s0)))] 79 [] := by
    intro U hk he
    obtain ⟨hk, hc32⟩ := hk
    obtain ⟨hB', hn', hkd', h32'⟩ := id hk
    obtain ⟨h2', hst2', h8', hs', h40', h27', hV'⟩ := id hB'
    refine rJ_iload_n X dX11_fire_79 rfl rfl ?_
    refine rJ_aload_n X dX11_fire_80 rfl rfl ?_
    refine rJ_getR X fX11_17 (hw.1 _ _ rfl) (hw.2 _ _ rfl) dX11_fire_81 ?_
    refine rJ_iconst (v := 2) X dX11_fire_84 (by decide) ?_
    refine rJ_ialdK (k := 2) X (by decide) ⟨by decide, by decide⟩ (hw.1 _ _ rfl) dX11_fire_85 ?_
    refine rJ_icmp_ne (tgt := 96) X dX11_fire_86 (by decide) (fun a1 => ?_) (fun a1 => ?_)
    · first
        | exact rJ_lv _ rfl (K96 U ⟨hk, hc32⟩ (by rw [← he, mF2, if_neg a1]))
        | exact rJ_lv _ rfl (K96 _ ⟨mKp_work hk _ _, by rw [mWork_0]; exact hc32⟩ (by rw [← he, mF2, if_pos a1]))
    · refine rJ_aload_n X dX11_fire_89 rfl rfl ?_
      refine rJ_iload_n X dX11_fire_90 rfl rfl ?_
      refine rJ_iload_n X dX11_fire_91 rfl rfl ?_
      refine rJ_iload_n X dX11_fire_92 rfl rfl ?_
      refine rJ_Vv3 X gX11_166 (cM_workOut hw _ _ (by omega) (fun h => mKind_ne hs h40 (by clear X hZ; grind))) (hw.1 _ _ rfl) dX11_fire_93 (by decide) (Nat.le_of_ble_eq_true rfl) ⟨Nat.le_refl _, Nat.le_refl _⟩ ?_
      first
        | exact rJ_lv _ rfl (K96 U ⟨hk, hc32⟩ (by rw [← he, mF2, if_neg a1]))
        | exact rJ_lv _ rfl (K96 _ ⟨mKp_work hk _ _, by rw [mWork_0]; exact hc32⟩ (by rw [← he, mF2, if_pos a1]))
  refine rJ_aload_n X dX11_fire_0 rfl rfl ?_
  refine rJ_getR X fX11_44 (hw.1 _ _ rfl) (hw.2 _ _ rfl) dX11_fire_1 ?_
  refine rJ_iload_n X dX11_fire_4 rfl rfl ?_
  refine rJ_ialdK (k := s0) X rfl ⟨by omega, by omega⟩ (hw.1 _ _ rfl) dX11_fire_5 ?_
  refine rJ_istore_n X dX11_fire_6 rfl (by decide) ?_
  refine rJ_aload_n X dX11_fire_7 rfl rfl ?_
  refine rJ_iload_n X dX11_fire_8 rfl rfl ?_
  refine rJ_Vi1 X gX11_129 (cM_kindOf hw _ hs h40) (hw.1 _ _ rfl) dX11_fire_9 (by decide) (Nat.le_of_ble_eq_true rfl) ⟨Nat.le_refl _, Nat.le_refl _⟩ ?_
  refine rJ_istore_n X dX11_fire_12 rfl (by decide) ?_
  refine rJ_iload_n X dX11_fire_13 rfl rfl ?_
  refine rJ_aload_n X dX11_fire_14 rfl rfl ?_
  refine rJ_getR X fX11_17 (hw.1 _ _ rfl) (hw.2 _ _ rfl) dX11_fire_15 ?_
  refine rJ_iconst (v := 1) X dX11_fire_18 (by decide) ?_
  refine rJ_ialdK (k := 1) X (by decide) ⟨by decide, by decide⟩ (hw.1 _ _ rfl) dX11_fire_19 ?_
  refine rJ_icmp_ne (tgt := 79) X dX11_fire_20 (by decide) (fun c1 => ?_) (fun c1 => ?_)
  · first
      | exact rJ_lv _ rfl (K79 S ⟨⟨hB, rfl, fun _ => rfl, h32⟩, rfl⟩ (by rw [mFire, mF1, if_neg c1]))
      | exact rJ_lv _ rfl (K79 _ (by subst hS78; subst hS50; exact ⟨mKp_mu (mKp_mu ⟨hB, rfl, fun _ => rfl, h32⟩ _ _ (by decide)) _ _ (by decide), by rw [mu_na _ _ _ (by decide), mu_na _ _ _ (by decide)]⟩) (by rw [mFire, mF1, if_pos c1]; subst hS78; subst hS50; first | rw [if_pos c2, if_pos c3, mRead_m16, mu_na _ _ _ (by decide)] | rw [if_pos c2, if_neg c3] | rw [if_pos c2, if_pos c4, mRead_m16, mu_na _ _ _ (by decide)] | rw [if_pos c2, if_neg c4] | rw [if_neg c2, if_pos c3, mRead_m16, mu_na _ _ _ (by decide)] | rw [if_neg c2, if_neg c3] | rw [if_neg c2, if_pos c4, mRead_m16, mu_na _ _ _ (by decide)] | rw [if_neg c2, if_neg c4]))
  · refine rJ_aload_n X dX11_fire_23 rfl rfl ?_
    refine rJ_getR X fX11_51 (hw.1 _ _ rfl) (hw.2 _ _ rfl) dX11_fire_24 ?_
    refine rJ_iload_n X dX11_fire_27 rfl rfl ?_
    refine rJ_iload_n X dX11_fire_28 rfl rfl ?_
    refine rJ_Si1 X gX11_143 (cM_readsOne _) dX11_fire_29 (by decide) (Nat.le_of_ble_eq_true rfl) ⟨Nat.le_refl _, Nat.le_refl _⟩ ?_
    refine rJ_if_eq (tgt := 49) X dX11_fire_32 (by decide) (fun c2 => ?_) (fun c2 => ?_)
    · try replace c2 := z_f c2
      refine rJ_iconst (v := 0) X dX11_fire_49 (by decide) ?_
      refine rJ_iastK (k := s0) X rfl ⟨by omega, by omega⟩ (hw.1 _ _ rfl) dX11_fire_50 (fun S50 hS50 => ?_)
      refine rJ_aload_n X dX11_fire_51 rfl rfl ?_
      refine rJ_getR X fX11_54 (hw.1 _ _ rfl) (hw.2 _ _ rfl) dX11_fire_52 ?_
      refine rJ_iload_n X dX11_fire_55 rfl rfl ?_
      refine rJ_iload_n X dX11_fire_56 rfl rfl ?_
      refine rJ_Si1 X gX11_150 (cM_readsTwo _) dX11_fire_57 (by decide) (Nat.le_of_ble_eq_true rfl) ⟨Nat.le_refl _, Nat.le_refl _⟩ ?_
      refine rJ_if_eq (tgt := 77) X dX11_fire_60 (by decide) (fun c3 => ?_) (fun c3 => ?_)
      · try replace c3 := z_f c3
        refine rJ_iconst (v := 0) X dX11_fire_77 (by decide) ?_
        refine rJ_iastK (k := s0) X rfl ⟨by omega, by omega⟩ (hw.1 _ _ rfl) dX11_fire_78 (fun S78 hS78 => ?_)
        first
          | exact rJ_lv _ rfl (K79 S ⟨⟨hB, rfl, fun _ => rfl, h32⟩, rfl⟩ (by rw [mFire, mF1, if_neg c1]))
          | exact rJ_lv _ rfl (K79 _ (by subst hS78; subst hS50; exact ⟨mKp_mu (mKp_mu ⟨hB, rfl, fun _ => rfl, h32⟩ _ _ (by decide)) _ _ (by decide), by rw [mu_na _ _ _ (by decide), mu_na _ _ _ (by decide)]⟩) (by rw [mFire, mF1, if_pos c1]; subst hS78; subst hS50; first | rw [if_pos c2, if_pos c3, mRead_m16, mu_na _ _ _ (by decide)] | rw [if_pos c2, if_neg c3] | rw [if_pos c2, if_pos c4, mRead_m16, mu_na _ _ _ (by decide)] | rw [if_pos c2, if_neg c4] | rw [if_neg c2, if_pos c3, mRead_m16, mu_na _ _ _ (by decide)] | rw [if_neg c2, if_neg c3] | rw [if_neg c2, if_pos c4, mRead_m16, mu_na _ _ _ (by decide)] | rw [if_neg c2, if_neg c4]))
      · try replace c3 := z_t c3
        refine rJ_aload_n X dX11_fire_63 rfl rfl ?_
        refine rJ_iload_n X dX11_fire_64 rfl rfl ?_
        refine rJ_aload_n X dX11_fire_65 rfl rfl ?_
        refine rJ_getR X fX11_32 (hw.1 _ _ rfl) (hw.2 _ _ rfl) dX11_fire_66 ?_
        refine rJ_iload_n X dX11_fire_69 rfl rfl ?_
        refine rJ_iald X (hw.1 _ _ rfl) (mKind_ne hs h40 (by clear X hZ; grind)) dX11_fire_70 ?_
        refine rJ_Vi2 X gX11_163 (cM_read hw _ (by rw [hS50, mu_na _ _ _ (by decide)]; exact hs) h40 (by rw [hS50, mu_na _ _ _ (by decide)]; exact h2) h8 hlt (by rw [hS50, mu_na _ _ _ (by decide)]; exact (hV _ (by clear X hZ; grind)).2.2)) (hw.1 _ _ rfl) dX11_fire_71 (by decide) (Nat.le_of_ble_eq_true rfl) ⟨Nat.le_refl _, Nat.le_refl _⟩ ?_
        refine rJ_goto (tgt := 78) X dX11_fire_74 (by decide) ?_
        refine rJ_iastK (k := s0) X rfl ⟨by omega, by omega⟩ (hw.1 _ _ rfl) dX11_fire_78 (fun S78 hS78 => ?_)
        first
          | exact rJ_lv _ rfl (K79 S ⟨⟨hB, rfl, fun _ => rfl, h32⟩, rfl⟩ (by rw [mFire, mF1, if_neg c1]))
          | exact rJ_lv _ rfl (K79 _ (by subst hS78; subst hS50; exact ⟨mKp_mu (mKp_mu ⟨hB, rfl, fun _ => rfl, h32⟩ _ _ (by decide)) _ _ (by decide), by rw [mu_na _ _ _ (by decide), mu_na _ _ _ (by decide)]⟩) (by rw [mFire, mF1, if_pos c1]; subst hS78; subst hS50; first | rw [if_pos c2, if_pos c3, mRead_m16, mu_na _ _ _ (by decide)] | rw [if_pos c2, if_neg c3] | rw [if_pos c2, if_pos c4, mRead_m16, mu_na _ _ _ (by decide)] | rw [if_pos c2, if_neg c4] | rw [if_neg c2, if_pos c3, mRead_m16, mu_na _ _ _ (by decide)] | rw [if_neg c2, if_neg c3] | rw [if_neg c2, if_pos c4, mRead_m16, mu_na _ _ _ (by decide)] | rw [if_neg c2, if_neg c4]))
    · try replace c2 := z_t c2
      refine rJ_aload_n X dX11_fire_35 rfl rfl ?_
      refine rJ_iload_n X dX11_fire_36 rfl rfl ?_
      refine rJ_aload_n X dX11_fire_37 rfl rfl ?_
      refine rJ_getR X fX11_29 (hw.1 _ _ rfl) (hw.2 _ _ rfl) dX11_fire_38 ?_
      refine rJ_iload_n X dX11_fire_41 rfl rfl ?_
      refine rJ_iald X (hw.1 _ _ rfl) (mKind_ne hs h40 (by clear X hZ; grind)) dX11_fire_42 ?_
      refine rJ_Vi2 X gX11_163 (cM_read hw _ hs h40 h2 h8 hlt (hV _ (by clear X hZ; grind)).2.1) (hw.1 _ _ rfl) dX11_fire_43 (by decide) (Nat.le_of_ble_eq_true rfl) ⟨Nat.le_refl _, Nat.le_refl _⟩ ?_
      refine rJ_goto (tgt := 50) X dX11_fire_46 (by decide) ?_
      refine rJ_iastK (k := s0) X rfl ⟨by omega, by omega⟩ (hw.1 _ _ rfl) dX11_fire_50 (fun S50 hS50 => ?_)
      refine rJ_aload_n X dX11_fire_51 rfl rfl ?_
      refine rJ_getR X fX11_54 (hw.1 _ _ rfl) (hw.2 _ _ rfl) dX11_fire_52 ?_
      refine rJ_iload_n X dX11_fire_55 rfl rfl ?_
      refine rJ_iload_n X dX11_fire_56 rfl rfl ?_
      refine rJ_Si1 X gX11_150 (cM_readsTwo _) dX11_fire_57 (by decide) (Nat.le_of_ble_eq_true rfl) ⟨Nat.le_refl _, Nat.le_refl _⟩ ?_
      refine rJ_if_eq (tgt := 77) X dX11_fire_60 (by decide) (fun c4 => ?_) (fun c4 => ?_)
      · try replace c4 := z_f c4
        refine rJ_iconst (v := 0) X dX11_fire_77 (by decide) ?_
        refine rJ_iastK (k := s0) X rfl ⟨by omega, by omega⟩ (hw.1 _ _ rfl) dX11_fire_78 (fun S78 hS78 => ?_)
        first
          | exact rJ_lv _ rfl (K79 S ⟨⟨hB, rfl, fun _ => rfl, h32⟩, rfl⟩ (by rw [mFire, mF1, if_neg c1]))
          | exact rJ_lv _ rfl (K79 _ (by subst hS78; subst hS50; exact ⟨mKp_mu (mKp_mu ⟨hB, rfl, fun _ => rfl, h32⟩ _ _ (by decide)) _ _ (by decide), by rw [mu_na _ _ _ (by decide), mu_na _ _ _ (by decide)]⟩) (by rw [mFire, mF1, if_pos c1]; subst hS78; subst hS50; first | rw [if_pos c2, if_pos c3, mRead_m16, mu_na _ _ _ (by decide)] | rw [if_pos c2, if_neg c3] | rw [if_pos c2, if_pos c4, mRead_m16, mu_na _ _ _ (by decide)] | rw [if_pos c2, if_neg c4] | rw [if_neg c2, if_pos c3, mRead_m16, mu_na _ _ _ (by decide)] | rw [if_neg c2, if_neg c3] | rw [if_neg c2, if_pos c4, mRead_m16, mu_na _ _ _ (by decide)] | rw [if_neg c2, if_neg c4]))
      · try replace c4 := z_t c4
        refine rJ_aload_n X dX11_fire_63 rfl rfl ?_
        refine rJ_iload_n X dX11_fire_64 rfl rfl ?_
        refine rJ_aload_n X dX11_fire_65 rfl rfl ?_
        refine rJ_getR X fX11_32 (hw.1 _ _ rfl) (hw.2 _ _ rfl) dX11_fire_66 ?_
        refine rJ_iload_n X dX11_fire_69 rfl rfl ?_
        refine rJ_iald X (hw.1 _ _ rfl) (mKind_ne hs h40 (by clear X hZ; grind)) dX11_fire_70 ?_
        refine rJ_Vi2 X gX11_163 (cM_read hw _ (by rw [hS50, mu_na _ _ _ (by decide)]; exact hs) h40 (by rw [hS50, mu_na _ _ _ (by decide)]; exact h2) h8 hlt (by rw [hS50, mu_na _ _ _ (by decide)]; exact (hV _ (by clear X hZ; grind)).2.2)) (hw.1 _ _ rfl) dX11_fire_71 (by decide) (Nat.le_of_ble_eq_true rfl) ⟨Nat.le_refl _, Nat.le_refl _⟩ ?_
        refine rJ_goto (tgt := 78) X dX11_fire_74 (by decide) ?_
        refine rJ_iastK (k := s0) X rfl ⟨by omega, by omega⟩ (hw.1 _ _ rfl) dX11_fire_78 (fun S78 hS78 => ?_)
        first
          | exact rJ_lv _ rfl (K79 S ⟨⟨hB, rfl, fun _ => rfl, h32⟩, rfl⟩ (by rw [mFire, mF1, if_neg c1]))
          | exact rJ_lv _ rfl (K79 _ (by subst hS78; subst hS50; exact ⟨mKp_mu (mKp_mu ⟨hB, rfl, fun _ => rfl, h32⟩ _ _ (by decide)) _ _ (by decide), by rw [mu_na _ _ _ (by decide), mu_na _ _ _ (by decide)]⟩) (by rw [mFire, mF1, if_pos c1]; subst hS78; subst hS50; first | rw [if_pos c2, if_pos c3, mRead_m16, mu_na _ _ _ (by decide)] | rw [if_pos c2, if_neg c3] | rw [if_pos c2, if_pos c4, mRead_m16, mu_na _ _ _ (by decide)] | rw [if_pos c2, if_neg c4] | rw [if_neg c2, if_pos c3, mRead_m16, mu_na _ _ _ (by decide)] | rw [if_neg c2, if_neg c3] | rw [if_neg c2, if_pos c4, mRead_m16, mu_na _ _ _ (by decide)] | rw [if_neg c2, if_neg c4]))
