def mAct (u : Int32) : Int32 := if u = 102 then 0 else if u = 114 then 1 else if u = 120 then 2 else if u = 118 then 3 else if u = 113 then 4 else if u = 97 then 5 else if u = 119 then 6 else -1
theorem mAct_no {u : Int32} (h : u.toInt < 97 ∨ 120 < u.toInt) : mAct u = -1 := by
  have hn : ∀ v : Int32, (97 ≤ v.toInt ∧ v.toInt ≤ 120) → ¬ u = v := fun v hv e => by subst e; omega
  unfold mAct
  rw [if_neg (hn _ (by decide)), if_neg (hn _ (by decide)), if_neg (hn _ (by decide)), if_neg (hn _ (by decide)), if_neg (hn _ (by decide)), if_neg (hn _ (by decide)), if_neg (hn _ (by decide))]
set_option maxHeartbeats 4000000 in
set_option maxRecDepth 100000 in
theorem cM_actionOf {l : Launch} {D : va_G} {b : Nat} {A : Nat → Nat} {Sh : mS} {S : mI} {G : mP} (u : Int32) : rMet l D b yX11_actionOf cX11_actionOf 1 (some .int) (mR 0) A Sh S G [.int u] (rPi A Sh (mAct u) S G) := by
  refine rMet_oz RX11 rfl (by decide) (Nat.le_of_ble_eq_true rfl) ?_
  intro p e s m args below meth c Z hZ X hnm
  refine rJ_iload_n X dX11_actionOf_0 rfl rfl ?_
  by_cases hr : u.toInt < 97 ∨ 120 < u.toInt
  · refine rJ_tabOut (tgt := 127) X dX11_actionOf_1 hr (by decide) ?_
    refine rJ_iconst (v := (-1)) X dX11_actionOf_127 (by decide) ?_
    exact rJ_iretZ hZ X dX11_actionOf_128 ⟨by rw [mAct_no hr], rfl, rfl, rfl, rfl⟩
  · have hu : u = 97 ∨ u = 98 ∨ u = 99 ∨ u = 100 ∨ u = 101 ∨ u = 102 ∨ u = 103 ∨ u = 104 ∨ u = 105 ∨ u = 106 ∨ u = 107 ∨ u = 108 ∨ u = 109 ∨ u = 110 ∨ u = 111 ∨ u = 112 ∨ u = 113 ∨ u = 114 ∨ u = 115 ∨ u = 116 ∨ u = 117 ∨ u = 118 ∨ u = 119 ∨ u = 120 := by
      simp only [i_eq, Int32.reduceToInt]
      omega
    rcases hu with rfl | rfl | rfl | rfl | rfl | rfl | rfl | rfl | rfl | rfl | rfl | rfl | rfl | rfl | rfl | rfl | rfl | rfl | rfl | rfl | rfl | rfl | rfl | rfl
    · refine rJ_tabIn (off := 121) (tgt := 122) X dX11_actionOf_1 (by decide) (by decide) rfl (by decide) ?_
      refine rJ_iconst (v := 5) X dX11_actionOf_122 (by decide) ?_
      exact rJ_iretZ hZ X dX11_actionOf_123 ⟨by decide, rfl, rfl, rfl, rfl⟩
    · refine rJ_tabIn (off := 126) (tgt := 127) X dX11_actionOf_1 (by decide) (by decide) rfl (by decide) ?_
      refine rJ_iconst (v := (-1)) X dX11_actionOf_127 (by decide) ?_
      exact rJ_iretZ hZ X dX11_actionOf_128 ⟨by decide, rfl, rfl, rfl, rfl⟩
    · refine rJ_tabIn (off := 126) (tgt := 127) X dX11_actionOf_1 (by decide) (by decide) rfl (by decide) ?_
      refine rJ_iconst (v := (-1)) X dX11_actionOf_127 (by decide) ?_
      exact rJ_iretZ hZ X dX11_actionOf_128 ⟨by decide, rfl, rfl, rfl, rfl⟩
    · refine rJ_tabIn (off := 126) (tgt := 127) X dX11_actionOf_1 (by decide) (by decide) rfl (by decide) ?_
      refine rJ_iconst (v := (-1)) X dX11_actionOf_127 (by decide) ?_
      exact rJ_iretZ hZ X dX11_actionOf_128 ⟨by decide, rfl, rfl, rfl, rfl⟩
    · refine rJ_tabIn (off := 126) (tgt := 127) X dX11_actionOf_1 (by decide) (by decide) rfl (by decide) ?_
      refine rJ_iconst (v := (-1)) X dX11_actionOf_127 (by decide) ?_
      exact rJ_iretZ hZ X dX11_actionOf_128 ⟨by decide, rfl, rfl, rfl, rfl⟩
    · refine rJ_tabIn (off := 111) (tgt := 112) X dX11_actionOf_1 (by decide) (by decide) rfl (by decide) ?_
      refine rJ_iconst (v := 0) X dX11_actionOf_112 (by decide) ?_
      exact rJ_iretZ hZ X dX11_actionOf_113 ⟨by decide, rfl, rfl, rfl, rfl⟩
    · refine rJ_tabIn (off := 126) (tgt := 127) X dX11_actionOf_1 (by decide) (by decide) rfl (by decide) ?_
      refine rJ_iconst (v := (-1)) X dX11_actionOf_127 (by decide) ?_
      exact rJ_iretZ hZ X dX11_actionOf_128 ⟨by decide, rfl, rfl, rfl, rfl⟩
    · refine rJ_tabIn (off := 126) (tgt := 127) X dX11_actionOf_1 (by decide) (by decide) rfl (by decide) ?_
      refine rJ_iconst (v := (-1)) X dX11_actionOf_127 (by decide) ?_
      exact rJ_iretZ hZ X dX11_actionOf_128 ⟨by decide, rfl, rfl, rfl, rfl⟩
    · refine rJ_tabIn (off := 126) (tgt := 127) X dX11_actionOf_1 (by decide) (by decide) rfl (by decide) ?_
      refine rJ_iconst (v := (-1)) X dX11_actionOf_127 (by decide) ?_
      exact rJ_iretZ hZ X dX11_actionOf_128 ⟨by decide, rfl, rfl, rfl, rfl⟩
    · refine rJ_tabIn (off := 126) (tgt := 127) X dX11_actionOf_1 (by decide) (by decide) rfl (by decide) ?_
      refine rJ_iconst (v := (-1)) X dX11_actionOf_127 (by decide) ?_
      exact rJ_iretZ hZ X dX11_actionOf_128 ⟨by decide, rfl, rfl, rfl, rfl⟩
    · refine rJ_tabIn (off := 126) (tgt := 127) X dX11_actionOf_1 (by decide) (by decide) rfl (by decide) ?_
      refine rJ_iconst (v := (-1)) X dX11_actionOf_127 (by decide) ?_
      exact rJ_iretZ hZ X dX11_actionOf_128 ⟨by decide, rfl, rfl, rfl, rfl⟩
    · refine rJ_tabIn (off := 126) (tgt := 127) X dX11_actionOf_1 (by decide) (by decide) rfl (by decide) ?_
      refine rJ_iconst (v := (-1)) X dX11_actionOf_127 (by decide) ?_
      exact rJ_iretZ hZ X dX11_actionOf_128 ⟨by decide, rfl, rfl, rfl, rfl⟩
    · refine rJ_tabIn (off := 126) (tgt := 127) X dX11_actionOf_1 (by decide) (by decide) rfl (by decide) ?_
      refine rJ_iconst (v := (-1)) X dX11_actionOf_127 (by decide) ?_
      exact rJ_iretZ hZ X dX11_actionOf_128 ⟨by decide, rfl, rfl, rfl, rfl⟩
    · refine rJ_tabIn (off := 126) (tgt := 127) X dX11_actionOf_1 (by decide) (by decide) rfl (by decide) ?_
      refine rJ_iconst (v := (-1)) X dX11_actionOf_127 (by decide) ?_
      exact rJ_iretZ hZ X dX11_actionOf_128 ⟨by decide, rfl, rfl, rfl, rfl⟩
    · refine rJ_tabIn (off := 126) (tgt := 127) X dX11_actionOf_1 (by decide) (by decide) rfl (by decide) ?_
      refine rJ_iconst (v := (-1)) X dX11_actionOf_127 (by decide) ?_
      exact rJ_iretZ hZ X dX11_actionOf_128 ⟨by decide, rfl, rfl, rfl, rfl⟩
    · refine rJ_tabIn (off := 126) (tgt := 127) X dX11_actionOf_1 (by decide) (by decide) rfl (by decide) ?_
      refine rJ_iconst (v := (-1)) X dX11_actionOf_127 (by decide) ?_
      exact rJ_iretZ hZ X dX11_actionOf_128 ⟨by decide, rfl, rfl, rfl, rfl⟩
    · refine rJ_tabIn (off := 119) (tgt := 120) X dX11_actionOf_1 (by decide) (by decide) rfl (by decide) ?_
      refine rJ_iconst (v := 4) X dX11_actionOf_120 (by decide) ?_
      exact rJ_iretZ hZ X dX11_actionOf_121 ⟨by decide, rfl, rfl, rfl, rfl⟩
    · refine rJ_tabIn (off := 113) (tgt := 114) X dX11_actionOf_1 (by decide) (by decide) rfl (by decide) ?_
      refine rJ_iconst (v := 1) X dX11_actionOf_114 (by decide) ?_
      exact rJ_iretZ hZ X dX11_actionOf_115 ⟨by decide, rfl, rfl, rfl, rfl⟩
    · refine rJ_tabIn (off := 126) (tgt := 127) X dX11_actionOf_1 (by decide) (by decide) rfl (by decide) ?_
      refine rJ_iconst (v := (-1)) X dX11_actionOf_127 (by decide) ?_
      exact rJ_iretZ hZ X dX11_actionOf_128 ⟨by decide, rfl, rfl, rfl, rfl⟩
    · refine rJ_tabIn (off := 126) (tgt := 127) X dX11_actionOf_1 (by decide) (by decide) rfl (by decide) ?_
      refine rJ_iconst (v := (-1)) X dX11_actionOf_127 (by decide) ?_
      exact rJ_iretZ hZ X dX11_actionOf_128 ⟨by decide, rfl, rfl, rfl, rfl⟩
    · refine rJ_tabIn (off := 126) (tgt := 127) X dX11_actionOf_1 (by decide) (by decide) rfl (by decide) ?_
      refine rJ_iconst (v := (-1)) X dX11_actionOf_127 (by decide) ?_
      exact rJ_iretZ hZ X dX11_actionOf_128 ⟨by decide, rfl, rfl, rfl, rfl⟩
    · refine rJ_tabIn (off := 117) (tgt := 118) X dX11_actionOf_1 (by decide) (by decide) rfl (by decide) ?_
      refine rJ_iconst (v := 3) X dX11_actionOf_118 (by decide) ?_
      exact rJ_iretZ hZ X dX11_actionOf_119 ⟨by decide, rfl, rfl, rfl, rfl⟩
    · refine rJ_tabIn (off := 123) (tgt := 124) X dX11_actionOf_1 (by decide) (by decide) rfl (by decide) ?_
      refine rJ_bipush (v := 6) X dX11_actionOf_124 (by decide) ?_
      exact rJ_iretZ hZ X dX11_actionOf_126 ⟨by decide, rfl, rfl, rfl, rfl⟩
    · refine rJ_tabIn (off := 115) (tgt := 116) X dX11_actionOf_1 (by decide) (by decide) rfl (by decide) ?_
      refine rJ_iconst (v := 2) X dX11_actionOf_116 (by decide) ?_
      exact rJ_iretZ hZ X dX11_actionOf_117 ⟨by decide, rfl, rfl, rfl, rfl⟩
theorem mAct_in {u : Int32} (h : 0 ≤ mAct u) : vp_in (mAct u) 7 := by
  unfold mAct at h ⊢
  repeat' split
  all_goals first | exact in_rng (hi := 6) (by decide) (by decide) | (simp_all)
/-- the reference's reading of a text: stage, next action, actions in the stage, y's stage, where each action was found -/
abbrev mLT : Type := Int32 × Int32 × Int32 × Int32 × (Nat → Int32)
def mLs (x : mLT) (u : Int32) : Option mLT :=
  if u = 47 ∧ 0 < x.2.2.1 ∧ x.1 < 7 then some (x.1 + 1, x.2.1, 0, x.2.2.2.1, x.2.2.2.2)
  else if u = 121 ∧ x.2.2.2.1 = -1 ∧ 2 < x.2.1 ∧ x.2.1 < 7 then some (x.1, x.2.1, x.2.2.1 + 1, x.1, x.2.2.2.2)
  else if 0 ≤ mAct u ∧ mAct u = x.2.1 ∧ (¬ mAct u = 5 ∨ x.2.2.2.2 4 < x.1) then some (x.1, x.2.1 + 1, x.2.2.1 + 1, x.2.2.2.1, upd x.2.2.2.2 (mAct u).toNatClampNeg x.1)
  else none
def mLr (t : Nat → Int32) : Nat → Nat → mLT → Option Nat × mLT
  | 0, _, x => (none, x)
  | f + 1, k, x => match mLs x (t k) with
    | some y => mLr t f (k + 1) y
    | none => (some k, x)
theorem mLr_some {t : Nat → Int32} {sg k : Nat} {x : mLT} (y : mLT) (h : k < sg) (e : mLs x (t k) = some y) : mLr t (sg - k) k x = mLr t (sg - (k + 1)) (k + 1) y := by
  rw [show sg - k = (sg - (k + 1)) + 1 by omega, mLr, e]
theorem mLr_none {t : Nat → Int32} {sg k : Nat} {x : mLT} (h : k < sg) (e : mLs x (t k) = none) : mLr t (sg - k) k x = (some k, x) := by
  rw [show sg - k = (sg - (k + 1)) + 1 by omega, mLr, e]
theorem mLr_end {t : Nat → Int32} {sg k : Nat} {x : mLT} (h : sg ≤ k) : mLr t (sg - k) k x = (none, x) := by
  rw [show sg - k = 0 by omega]; rfl
def mRow (S : mI) (r : Nat) (f : Nat → Int32) : mI := fun x => if x = r then f else S x
theorem mRow_n (S : mI) {r x : Nat} (f : Nat → Int32) (h : x ≠ r) : mRow S r f x = S x := by simp [mRow, h]
theorem mRow_e (S : mI) (r : Nat) (f : Nat → Int32) : mRow S r f r = f := by simp [mRow]
theorem mRow_u (S : mI) (r : Nat) (f : Nat → Int32) (k : Nat) (v : Int32) : mu (mRow S r f) r k v = mRow S r (upd f k v) := by
  funext x y
  by_cases hx : x = r
  · subst hx; by_cases hy : y = k <;> simp [mu, mRow, upd, hy]
  · simp [mu, mRow, hx]
theorem mRow_s (S : mI) (r : Nat) : mRow S r (S r) = S := by funext x; by_cases hx : x = r <;> simp [mRow, hx]
/-- the sign that is wrong: none if the text is a line -/
def mLw (S : mI) (sg : Nat) : Option Nat × mLT := match mLr (S 101) sg 0 (0, 0, 0, -1, S 134) with
  | (some k, x) => (some k, x)
  | (none, x) => (if x.2.1 < 7 ∨ x.2.2.1 = 0 then some sg else none, x)
def mCp (S : mI) (i : Nat) : mI := fun r k => if r = 104 ∧ k < i then S 134 k else S r k
theorem mCp_0 (S : mI) : mCp S 0 = S := by funext r k; simp [mCp]
theorem mCp_s (S : mI) (i : Nat) : mu (mCp S i) 104 i (mCp S i 134 i) = mCp S (i + 1) := by
  funext r k
  simp only [mu, mCp]
  grind
theorem mCp_n (S : mI) (i : Nat) {r : Nat} (h : r ≠ 104) : mCp S i r = S r := by funext k; simp [mCp, h]
def mLineR (S : mI) (sg : Nat) : Int32 := match mLw S sg with
  | (some k, _) => -1 - nI k
  | (none, x) => x.1 + 1
def mLineS (S : mI) (sg : Nat) : mI := match mLw S sg with
  | (some _, x) => mu (mRow S 134 x.2.2.2.2) 100 1 0
  | (none, x) => mAnew (mu (mu (mCp (mu (mRow S 134 x.2.2.2.2) 100 1 0) 7) 100 4 x.2.2.2.1) 100 2 (x.1 + 1))
set_option maxHeartbeats 4000000 in
set_option maxRecDepth 100000 in
theorem cM_line {l : Launch} {D : va_G} {b : Nat} {A : Nat → Nat} {Sh : mS} {S : mI} {G : mP} (hw : okM Sh G) {sg : Nat} (hsg : S 100 1 = nI sg) (h30 : sg ≤ 30) : rMet l D b yX11_line cX11_line 8 (some .int) (mR 1) A Sh S G [.ref (A 100)] (rPi A Sh (mLineR S sg) (mLineS S sg) G) := by
  refine rMet_oz RX11 rfl (by decide) (Nat.le_of_ble_eq_true rfl) ?_
  intro p e s m args below meth c Z hZ X hnm
  have K189S : ∀ (x : mLT) (j : Nat), j ≤ sg → mLw S sg = (some j, x) → rJ p l e (mR 1) s m args below meth c D vwCl mty b 8 Z 0 0 A Sh (mRow S 134 x.2.2.2.2) G [(0, .ref (A 100)), (1, .int x.1), (2, .int x.2.1), (3, .int x.2.2.1), (4, .int x.2.2.2.1), (5, .int (nI j))] 189 [] := by
    intro x j hj hq
    refine rJ_aload_n X dX11_line_189 rfl rfl ?_
    refine rJ_iconst (v := 0) X dX11_line_190 (by decide) ?_
    refine rJ_setI X fX11_119 (Or.inl fwX11_119) (hw.1 _ _ rfl) ⟨rfl, rfl⟩ dX11_line_191 (fun S191 hS191 => ?_)
    refine rJ_iload X dX11_line_194 rfl ?_
    refine rJ_if_lt (tgt := 204) X dX11_line_196 (by decide) (fun a1 => ?_) (fun a1 => ?_)
    · exact absurd a1 (nI_pos (by omega))
    · refine rJ_iconst (v := (-1)) X dX11_line_199 (by decide) ?_
      refine rJ_iload X dX11_line_200 rfl ?_
      refine rJ_isub X dX11_line_202 ?_
      exact rJ_iretZ hZ X dX11_line_203 ⟨by simp only [mLineR, hq], rfl, rfl, by simp only [mLineS, hq]; exact hS191, rfl⟩
  have loopc : ∀ (x : mLT), mLw S sg = (none, x) → ∀ (f i : Nat) (U : mI), U = mCp (mu (mRow S 134 x.2.2.2.2) 100 1 0) i → i ≤ 7 → 7 - i < f → rJ p l e (mR 1) s m args below meth c D vwCl mty b 8 Z 0 0 A Sh U G [(0, .ref (A 100)), (1, .int x.1), (4, .int x.2.2.2.1), (6, .int (nI i))] 207 [] := by
    intro x hq f
    induction f with
    | zero => intro i U hU h1 h3; exact absurd h3 (by omega)
    | succ f ih =>
      intro i U hU h1 h3
      refine rJ_iload X dX11_line_207 rfl ?_
      refine rJ_bipush (v := 7) X dX11_line_209 (by decide) ?_
      refine rJ_icmp_ge (tgt := 234) X dX11_line_211 (by decide) (fun a1 => ?_) (fun a1 => ?_)
      · rw [show (7 : Int32) = nI 7 from rfl, nI_leI (by omega) (by omega)] at a1
        refine rJ_aload_n X dX11_line_234 rfl rfl ?_
        refine rJ_iload X dX11_line_235 rfl ?_
        refine rJ_setI X fX11_20 (Or.inl fwX11_20) (hw.1 _ _ rfl) ⟨rfl, rfl⟩ dX11_line_237 (fun S237 hS237 => ?_)
        refine rJ_aload_n X dX11_line_240 rfl rfl ?_
        refine rJ_iload_n X dX11_line_241 rfl rfl ?_
        refine rJ_iconst (v := 1) X dX11_line_242 (by decide) ?_
        refine rJ_iadd X dX11_line_243 ?_
        refine rJ_setI X fX11_13 (Or.inl fwX11_13) (hw.1 _ _ rfl) ⟨rfl, rfl⟩ dX11_line_244 (fun S244 hS244 => ?_)
        refine rJ_aload_n X dX11_line_247 rfl rfl ?_
        refine rJ_Vv0 X gX11_96 (cM_anew hw) (hw.1 _ _ rfl) dX11_line_248 (by decide) (Nat.le_of_ble_eq_true rfl) ⟨Nat.le_refl _, Nat.le_refl _⟩ ?_
        refine rJ_aload_n X dX11_line_251 rfl rfl ?_
        refine rJ_getI X fX11_13 (hw.1 _ _ rfl) dX11_line_252 ?_
        exact rJ_iretZ hZ X dX11_line_255 ⟨by rw [mAnew_0 _ (by decide)]; simp only [mLineR, hq]; rw [hS244, mu_eq], rfl, rfl, by simp only [mLineS, hq]; rw [hS244, hS237, hU, show i = 7 by omega], rfl⟩
      · rw [show (7 : Int32) = nI 7 from rfl, nI_leI (by omega) (by omega)] at a1
        refine rJ_aload_n X dX11_line_214 rfl rfl ?_
        refine rJ_getR X fX11_17 (hw.1 _ _ rfl) (hw.2 _ _ rfl) dX11_line_215 ?_
        refine rJ_iload X dX11_line_218 rfl ?_
        refine rJ_aload_n X dX11_line_220 rfl rfl ?_
        refine rJ_getR X fX11_87 (hw.1 _ _ rfl) (hw.2 _ _ rfl) dX11_line_221 ?_
        refine rJ_iload X dX11_line_224 rfl ?_
        refine rJ_ialdK (k := i) X rfl ⟨by omega, by omega⟩ (hw.1 _ _ rfl) dX11_line_226 ?_
        refine rJ_iastK (k := i) X rfl ⟨by omega, by omega⟩ (hw.1 _ _ rfl) dX11_line_227 (fun S227 hS227 => ?_)
        refine rJ_inc (n := 1) (w := 1) X dX11_line_228 rfl (by decide) (by decide) ?_
        rw [nI_1 i]
        refine rJ_goto (tgt := 207) X dX11_line_231 (by decide) ?_
        exact rJ_lv _ rfl (ih (i + 1) _ (by rw [hS227, hU, mCp_s]) (by omega) (by omega))
  have K189N : ∀ (x : mLT), mLw S sg = (none, x) → rJ p l e (mR 1) s m args below meth c D vwCl mty b 8 Z 0 0 A Sh (mRow S 134 x.2.2.2.2) G [(0, .ref (A 100)), (1, .int x.1), (2, .int x.2.1), (3, .int x.2.2.1), (4, .int x.2.2.2.1), (5, .int (-1))] 189 [] := by
    intro x hq
    have loopc := loopc x hq
    refine rJ_aload_n X dX11_line_189 rfl rfl ?_
    refine rJ_iconst (v := 0) X dX11_line_190 (by decide) ?_
    refine rJ_setI X fX11_119 (Or.inl fwX11_119) (hw.1 _ _ rfl) ⟨rfl, rfl⟩ dX11_line_191 (fun S191 hS191 => ?_)
    refine rJ_iload X dX11_line_194 rfl ?_
    refine rJ_if_lt (tgt := 204) X dX11_line_196 (by decide) (fun a1 => ?_) (fun a1 => ?_)
    · refine rJ_iconst (v := 0) X dX11_line_204 (by decide) ?_
      refine rJ_istore X dX11_line_205 (by decide) ?_
      exact rJ_lv _ rfl (loopc 8 0 _ (by rw [hS191, mCp_0]) (by omega) (by omega))
    · exact absurd (by decide) a1
  have KS : ∀ (x : mLT) (j : Nat), j < sg → mLr (S 101) sg 0 (0, 0, 0, -1, S 134) = (some j, x) → rJ p l e (mR 1) s m args below meth c D vwCl mty b 8 Z 0 0 A Sh (mRow S 134 x.2.2.2.2) G [(0, .ref (A 100)), (1, .int x.1), (2, .int x.2.1), (3, .int x.2.2.1), (4, .int x.2.2.2.1), (5, .int (nI j))] 163 [] := by
    intro x j hj hq
    have K189S := fun x j (h : j < sg) => K189S x j (Nat.le_of_lt h)
    refine rJ_iload X dX11_line_163 rfl ?_
    refine rJ_if_ge (tgt := 185) X dX11_line_165 (by decide) (fun a1 => ?_) (fun a1 => ?_)
    · refine rJ_iload X dX11_line_185 rfl ?_
      refine rJ_istore X dX11_line_187 (by decide) ?_
      exact rJ_lv _ rfl (K189S x j hj (by rw [mLw, hq]))
    · exact absurd (nI_pos' (by omega)) a1
  have KN : ∀ (x : mLT), mLr (S 101) sg 0 (0, 0, 0, -1, S 134) = (none, x) → rJ p l e (mR 1) s m args below meth c D vwCl mty b 8 Z 0 0 A Sh (mRow S 134 x.2.2.2.2) G [(0, .ref (A 100)), (1, .int x.1), (2, .int x.2.1), (3, .int x.2.2.1), (4, .int x.2.2.2.1), (5, .int (-1))] 163 [] := by
    intro x hq
    refine rJ_iload X dX11_line_163 rfl ?_
    refine rJ_if_ge (tgt := 185) X dX11_line_165 (by decide) (fun a1 => ?_) (fun a1 => ?_)
    · exact absurd a1 (by decide)
    · refine rJ_iload_n X dX11_line_168 rfl rfl ?_
      refine rJ_bipush (v := 7) X dX11_line_169 (by decide) ?_
      refine rJ_icmp_lt (tgt := 178) X dX11_line_171 (by decide) (fun a2 => ?_) (fun a2 => ?_)
      · refine rJ_aload_n X dX11_line_178 rfl rfl ?_
        refine rJ_getI X fX11_119 (hw.1 _ _ rfl) dX11_line_179 ?_
        refine rJ_goto (tgt := 187) X dX11_line_182 (by decide) ?_
        refine rJ_istore X dX11_line_187 (by decide) ?_
        rw [mRow_n S _ (by decide), hsg]
        exact rJ_lv _ rfl (K189S x sg (by omega) (by rw [mLw, hq]; simp only [if_pos (show x.2.1 < 7 ∨ x.2.2.1 = 0 by clear X hZ; grind)]))
      · refine rJ_iload_n X dX11_line_174 rfl rfl ?_
        refine rJ_if_ne (tgt := 185) X dX11_line_175 (by decide) (fun a3 => ?_) (fun a3 => ?_)
        · refine rJ_iload X dX11_line_185 rfl ?_
          refine rJ_istore X dX11_line_187 (by decide) ?_
          exact rJ_lv _ rfl (K189N x (by rw [mLw, hq]; simp only [if_neg (show ¬ (x.2.1 < 7 ∨ x.2.2.1 = 0) by clear X hZ; grind)]))
        · refine rJ_aload_n X dX11_line_178 rfl rfl ?_
          refine rJ_getI X fX11_119 (hw.1 _ _ rfl) dX11_line_179 ?_
          refine rJ_goto (tgt := 187) X dX11_line_182 (by decide) ?_
          refine rJ_istore X dX11_line_187 (by decide) ?_
          rw [mRow_n S _ (by decide), hsg]
          exact rJ_lv _ rfl (K189S x sg (by omega) (by rw [mLw, hq]; simp only [if_pos (show x.2.1 < 7 ∨ x.2.2.1 = 0 by clear X hZ; grind)]))
  have Kw : ∀ (x : mLT) (j : Nat), j < sg → mLr (S 101) sg 0 (0, 0, 0, -1, S 134) = (some j, x) → rJ p l e (mR 1) s m args below meth c D vwCl mty b 8 Z 0 0 A Sh (mRow S 134 x.2.2.2.2) G [(0, .ref (A 100)), (1, .int x.1), (2, .int x.2.1), (3, .int x.2.2.1), (4, .int x.2.2.2.1), (5, .int (nI j)), (6, .int (nI j))] 157 [] := by
    intro x j hj hq
    refine rJ_inc (n := 1) (w := 1) X dX11_line_157 rfl (by decide) (by decide) ?_
    rw [nI_1 j]
    refine rJ_goto (tgt := 15) X dX11_line_160 (by decide) ?_
    refine rJ_iload X dX11_line_15 rfl ?_
    refine rJ_aload_n X dX11_line_17 rfl rfl ?_
    refine rJ_getI X fX11_119 (hw.1 _ _ rfl) dX11_line_18 ?_
    refine rJ_icmp_ge (tgt := 163) X dX11_line_21 (by decide) (fun a1 => ?_) (fun a1 => ?_)
    · rw [mRow_n S _ (by decide), hsg, nI_leI (by omega) (by omega)] at a1
      exact rJ_lv _ rfl (KS x j hj hq)
    · rw [mRow_n S _ (by decide), hsg, nI_leI (by omega) (by omega)] at a1
      refine rJ_iload X dX11_line_24 rfl ?_
      refine rJ_if_ge (tgt := 163) X dX11_line_26 (by decide) (fun a2 => ?_) (fun a2 => ?_)
      · exact rJ_lv _ rfl (KS x j hj hq)
      · exact absurd (nI_pos' (by omega)) a2
  have loop : ∀ (f k : Nat) (stg com act giv : Int32) (fnd : Nat → Int32), k ≤ sg → sg - k < f → mLr (S 101) (sg - k) k (stg, com, act, giv, fnd) = mLr (S 101) sg 0 (0, 0, 0, -1, S 134) → rJ p l e (mR 1) s m args below meth c D vwCl mty b 8 Z 0 0 A Sh (mRow S 134 fnd) G [(0, .ref (A 100)), (1, .int stg), (2, .int com), (3, .int act), (4, .int giv), (5, .int (-1)), (6, .int (nI k))] 15 [] := by
    intro f
    induction f with
    | zero => intro k stg com act giv fnd h1 h3; exact absurd h3 (by omega)
    | succ f ih =>
      intro k stg com act giv fnd h1 h3 he
      by_cases hks : k < sg
      · have K157 : ∀ y : mLT, mLs (stg, com, act, giv, fnd) (S 101 k) = some y → rJ p l e (mR 1) s m args below meth c D vwCl mty b 8 Z 0 0 A Sh (mRow S 134 y.2.2.2.2) G [(0, .ref (A 100)), (1, .int y.1), (2, .int y.2.1), (3, .int y.2.2.1), (4, .int y.2.2.2.1), (5, .int (-1)), (6, .int (nI k))] 157 [] := by
          intro y hy
          refine rJ_inc (n := 1) (w := 1) X dX11_line_157 rfl (by decide) (by decide) ?_
          rw [nI_1 k]
          refine rJ_goto (tgt := 15) X dX11_line_160 (by decide) ?_
          exact rJ_lv _ rfl (ih (k + 1) y.1 y.2.1 y.2.2.1 y.2.2.2.1 y.2.2.2.2 (by omega) (by omega) (by rw [← he, mLr_some y (by omega) hy]))
        refine rJ_iload X dX11_line_15 rfl ?_
        refine rJ_aload_n X dX11_line_17 rfl rfl ?_
        refine rJ_getI X fX11_119 (hw.1 _ _ rfl) dX11_line_18 ?_
        refine rJ_icmp_ge (tgt := 163) X dX11_line_21 (by decide) (fun a1 => ?_) (fun a1 => ?_)
        · rw [mRow_n S fnd (by decide), hsg, nI_leI (by omega) (by omega)] at a1
          exact rJ_lv _ rfl (KN (stg, com, act, giv, fnd) (by rw [← he, mLr_end a1]))
        · rw [mRow_n S fnd (by decide), hsg, nI_leI (by omega) (by omega)] at a1
          refine rJ_iload X dX11_line_24 rfl ?_
          refine rJ_if_ge (tgt := 163) X dX11_line_26 (by decide) (fun a2 => ?_) (fun a2 => ?_)
          · exact absurd a2 (by decide)
          · refine rJ_aload_n X dX11_line_29 rfl rfl ?_
            refine rJ_getR X fX11_7 (hw.1 _ _ rfl) (hw.2 _ _ rfl) dX11_line_30 ?_
            refine rJ_iload X dX11_line_33 rfl ?_
            refine rJ_ialdK (k := k) X rfl ⟨by omega, by omega⟩ (hw.1 _ _ rfl) dX11_line_35 ?_
            rw [mRow_n S fnd (x := 101) (by decide)]
            refine rJ_Si1 X gX11_122 (cM_actionOf _) dX11_line_36 (by decide) (Nat.le_of_ble_eq_true rfl) ⟨Nat.le_refl _, Nat.le_refl _⟩ ?_
            refine rJ_istore X dX11_line_39 (by decide) ?_
            refine rJ_aload_n X dX11_line_41 rfl rfl ?_
            refine rJ_getR X fX11_7 (hw.1 _ _ rfl) (hw.2 _ _ rfl) dX11_line_42 ?_
            refine rJ_iload X dX11_line_45 rfl ?_
            refine rJ_ialdK (k := k) X rfl ⟨by omega, by omega⟩ (hw.1 _ _ rfl) dX11_line_47 ?_
            rw [mRow_n S fnd (x := 101) (by decide)]
            refine rJ_bipush (v := 47) X dX11_line_48 (by decide) ?_
            refine rJ_icmp_ne (tgt := 71) X dX11_line_50 (by decide) (fun a3 => ?_) (fun a3 => ?_)
            · refine rJ_aload_n X dX11_line_71 rfl rfl ?_
              refine rJ_getR X fX11_7 (hw.1 _ _ rfl) (hw.2 _ _ rfl) dX11_line_72 ?_
              refine rJ_iload X dX11_line_75 rfl ?_
              refine rJ_ialdK (k := k) X rfl ⟨by omega, by omega⟩ (hw.1 _ _ rfl) dX11_line_77 ?_
              rw [mRow_n S fnd (x := 101) (by decide)]
              refine rJ_bipush (v := 121) X dX11_line_78 (by decide) ?_
              refine rJ_icmp_ne (tgt := 109) X dX11_line_80 (by decide) (fun a4 => ?_) (fun a4 => ?_)
              · refine rJ_iload X dX11_line_109 rfl ?_
                refine rJ_if_lt (tgt := 153) X dX11_line_111 (by decide) (fun a5 => ?_) (fun a5 => ?_)
                · refine rJ_iload X dX11_line_153 rfl ?_
                  refine rJ_istore X dX11_line_155 (by decide) ?_
                  exact rJ_lv _ rfl (Kw (stg, com, act, giv, fnd) k (by omega) (by rw [← he]; exact mLr_none (by omega) (by clear X hZ K189S loopc K189N KS KN Kw ih K157; simp only [mLs]; grind)))
                · refine rJ_iload X dX11_line_114 rfl ?_
                  refine rJ_iload_n X dX11_line_116 rfl rfl ?_
                  refine rJ_icmp_ne (tgt := 153) X dX11_line_117 (by decide) (fun a6 => ?_) (fun a6 => ?_)
                  · refine rJ_iload X dX11_line_153 rfl ?_
                    refine rJ_istore X dX11_line_155 (by decide) ?_
                    exact rJ_lv _ rfl (Kw (stg, com, act, giv, fnd) k (by omega) (by rw [← he]; exact mLr_none (by omega) (by clear X hZ K189S loopc K189N KS KN Kw ih K157; simp only [mLs]; grind)))
                  · refine rJ_iload X dX11_line_120 rfl ?_
                    refine rJ_iconst (v := 5) X dX11_line_122 (by decide) ?_
                    refine rJ_icmp_ne (tgt := 136) X dX11_line_123 (by decide) (fun a7 => ?_) (fun a7 => ?_)
                    · refine rJ_aload_n X dX11_line_136 rfl rfl ?_
                      refine rJ_getR X fX11_87 (hw.1 _ _ rfl) (hw.2 _ _ rfl) dX11_line_137 ?_
                      refine rJ_iload X dX11_line_140 rfl ?_
                      refine rJ_iload_n X dX11_line_142 rfl rfl ?_
                      refine rJ_iast X (hw.1 _ _ rfl) (mAct_in (by clear X hZ K189S loopc K189N KS KN Kw ih K157; grind)) dX11_line_143 (fun S143 hS143 => ?_)
                      refine rJ_inc (n := 1) (w := 1) X dX11_line_144 rfl (by decide) (by decide) ?_
                      refine rJ_inc (n := 1) (w := 1) X dX11_line_147 rfl (by decide) (by decide) ?_
                      refine rJ_goto (tgt := 157) X dX11_line_150 (by decide) ?_
                      exact rJ_eqS (by rw [hS143, mRow_u]) (rJ_lv _ rfl (K157 (stg, com + 1, act + 1, giv, upd fnd (mAct (S 101 k)).toNatClampNeg stg) (by clear X hZ K189S loopc K189N KS KN Kw ih K157; simp only [mLs]; grind)))
                    · refine rJ_iload_n X dX11_line_126 rfl rfl ?_
                      refine rJ_aload_n X dX11_line_127 rfl rfl ?_
                      refine rJ_getR X fX11_87 (hw.1 _ _ rfl) (hw.2 _ _ rfl) dX11_line_128 ?_
                      refine rJ_iconst (v := 4) X dX11_line_131 (by decide) ?_
                      refine rJ_ialdK (k := 4) X (by decide) ⟨by decide, by decide⟩ (hw.1 _ _ rfl) dX11_line_132 ?_
                      rw [mRow_e]
                      refine rJ_icmp_le (tgt := 153) X dX11_line_133 (by decide) (fun a8 => ?_) (fun a8 => ?_)
                      · refine rJ_iload X dX11_line_153 rfl ?_
                        refine rJ_istore X dX11_line_155 (by decide) ?_
                        exact rJ_lv _ rfl (Kw (stg, com, act, giv, fnd) k (by omega) (by rw [← he]; exact mLr_none (by omega) (by clear X hZ K189S loopc K189N KS KN Kw ih K157; simp only [mLs]; grind)))
                      · refine rJ_aload_n X dX11_line_136 rfl rfl ?_
                        refine rJ_getR X fX11_87 (hw.1 _ _ rfl) (hw.2 _ _ rfl) dX11_line_137 ?_
                        refine rJ_iload X dX11_line_140 rfl ?_
                        refine rJ_iload_n X dX11_line_142 rfl rfl ?_
                        refine rJ_iast X (hw.1 _ _ rfl) (mAct_in (by clear X hZ K189S loopc K189N KS KN Kw ih K157; grind)) dX11_line_143 (fun S143 hS143 => ?_)
                        refine rJ_inc (n := 1) (w := 1) X dX11_line_144 rfl (by decide) (by decide) ?_
                        refine rJ_inc (n := 1) (w := 1) X dX11_line_147 rfl (by decide) (by decide) ?_
                        refine rJ_goto (tgt := 157) X dX11_line_150 (by decide) ?_
                        exact rJ_eqS (by rw [hS143, mRow_u]) (rJ_lv _ rfl (K157 (stg, com + 1, act + 1, giv, upd fnd (mAct (S 101 k)).toNatClampNeg stg) (by clear X hZ K189S loopc K189N KS KN Kw ih K157; simp only [mLs]; grind)))
              · refine rJ_iload X dX11_line_83 rfl ?_
                refine rJ_iconst (v := (-1)) X dX11_line_85 (by decide) ?_
                refine rJ_icmp_ne (tgt := 109) X dX11_line_86 (by decide) (fun a9 => ?_) (fun a9 => ?_)
                · refine rJ_iload X dX11_line_109 rfl ?_
                  refine rJ_if_lt (tgt := 153) X dX11_line_111 (by decide) (fun a10 => ?_) (fun a10 => ?_)
                  · refine rJ_iload X dX11_line_153 rfl ?_
                    refine rJ_istore X dX11_line_155 (by decide) ?_
                    exact rJ_lv _ rfl (Kw (stg, com, act, giv, fnd) k (by omega) (by rw [← he]; exact mLr_none (by omega) (by clear X hZ K189S loopc K189N KS KN Kw ih K157; simp only [mLs]; grind)))
                  · refine rJ_iload X dX11_line_114 rfl ?_
                    refine rJ_iload_n X dX11_line_116 rfl rfl ?_
                    refine rJ_icmp_ne (tgt := 153) X dX11_line_117 (by decide) (fun a11 => ?_) (fun a11 => ?_)
                    · refine rJ_iload X dX11_line_153 rfl ?_
                      refine rJ_istore X dX11_line_155 (by decide) ?_
                      exact rJ_lv _ rfl (Kw (stg, com, act, giv, fnd) k (by omega) (by rw [← he]; exact mLr_none (by omega) (by clear X hZ K189S loopc K189N KS KN Kw ih K157; simp only [mLs]; grind)))
                    · refine rJ_iload X dX11_line_120 rfl ?_
                      refine rJ_iconst (v := 5) X dX11_line_122 (by decide) ?_
                      refine rJ_icmp_ne (tgt := 136) X dX11_line_123 (by decide) (fun a12 => ?_) (fun a12 => ?_)
                      · refine rJ_aload_n X dX11_line_136 rfl rfl ?_
                        refine rJ_getR X fX11_87 (hw.1 _ _ rfl) (hw.2 _ _ rfl) dX11_line_137 ?_
                        refine rJ_iload X dX11_line_140 rfl ?_
                        refine rJ_iload_n X dX11_line_142 rfl rfl ?_
                        refine rJ_iast X (hw.1 _ _ rfl) (mAct_in (by clear X hZ K189S loopc K189N KS KN Kw ih K157; grind)) dX11_line_143 (fun S143 hS143 => ?_)
                        refine rJ_inc (n := 1) (w := 1) X dX11_line_144 rfl (by decide) (by decide) ?_
                        refine rJ_inc (n := 1) (w := 1) X dX11_line_147 rfl (by decide) (by decide) ?_
                        refine rJ_goto (tgt := 157) X dX11_line_150 (by decide) ?_
                        exact rJ_eqS (by rw [hS143, mRow_u]) (rJ_lv _ rfl (K157 (stg, com + 1, act + 1, giv, upd fnd (mAct (S 101 k)).toNatClampNeg stg) (by clear X hZ K189S loopc K189N KS KN Kw ih K157; simp only [mLs]; grind)))
                      · refine rJ_iload_n X dX11_line_126 rfl rfl ?_
                        refine rJ_aload_n X dX11_line_127 rfl rfl ?_
                        refine rJ_getR X fX11_87 (hw.1 _ _ rfl) (hw.2 _ _ rfl) dX11_line_128 ?_
                        refine rJ_iconst (v := 4) X dX11_line_131 (by decide) ?_
                        refine rJ_ialdK (k := 4) X (by decide) ⟨by decide, by decide⟩ (hw.1 _ _ rfl) dX11_line_132 ?_
                        rw [mRow_e]
                        refine rJ_icmp_le (tgt := 153) X dX11_line_133 (by decide) (fun a13 => ?_) (fun a13 => ?_)
                        · refine rJ_iload X dX11_line_153 rfl ?_
                          refine rJ_istore X dX11_line_155 (by decide) ?_
                          exact rJ_lv _ rfl (Kw (stg, com, act, giv, fnd) k (by omega) (by rw [← he]; exact mLr_none (by omega) (by clear X hZ K189S loopc K189N KS KN Kw ih K157; simp only [mLs]; grind)))
                        · refine rJ_aload_n X dX11_line_136 rfl rfl ?_
                          refine rJ_getR X fX11_87 (hw.1 _ _ rfl) (hw.2 _ _ rfl) dX11_line_137 ?_
                          refine rJ_iload X dX11_line_140 rfl ?_
                          refine rJ_iload_n X dX11_line_142 rfl rfl ?_
                          refine rJ_iast X (hw.1 _ _ rfl) (mAct_in (by clear X hZ K189S loopc K189N KS KN Kw ih K157; grind)) dX11_line_143 (fun S143 hS143 => ?_)
                          refine rJ_inc (n := 1) (w := 1) X dX11_line_144 rfl (by decide) (by decide) ?_
                          refine rJ_inc (n := 1) (w := 1) X dX11_line_147 rfl (by decide) (by decide) ?_
                          refine rJ_goto (tgt := 157) X dX11_line_150 (by decide) ?_
                          exact rJ_eqS (by rw [hS143, mRow_u]) (rJ_lv _ rfl (K157 (stg, com + 1, act + 1, giv, upd fnd (mAct (S 101 k)).toNatClampNeg stg) (by clear X hZ K189S loopc K189N KS KN Kw ih K157; simp only [mLs]; grind)))
                · refine rJ_iload_n X dX11_line_89 rfl rfl ?_
                  refine rJ_iconst (v := 2) X dX11_line_90 (by decide) ?_
                  refine rJ_icmp_le (tgt := 109) X dX11_line_91 (by decide) (fun a14 => ?_) (fun a14 => ?_)
                  · refine rJ_iload X dX11_line_109 rfl ?_
                    refine rJ_if_lt (tgt := 153) X dX11_line_111 (by decide) (fun a15 => ?_) (fun a15 => ?_)
                    · refine rJ_iload X dX11_line_153 rfl ?_
                      refine rJ_istore X dX11_line_155 (by decide) ?_
                      exact rJ_lv _ rfl (Kw (stg, com, act, giv, fnd) k (by omega) (by rw [← he]; exact mLr_none (by omega) (by clear X hZ K189S loopc K189N KS KN Kw ih K157; simp only [mLs]; grind)))
                    · refine rJ_iload X dX11_line_114 rfl ?_
                      refine rJ_iload_n X dX11_line_116 rfl rfl ?_
                      refine rJ_icmp_ne (tgt := 153) X dX11_line_117 (by decide) (fun a16 => ?_) (fun a16 => ?_)
                      · refine rJ_iload X dX11_line_153 rfl ?_
                        refine rJ_istore X dX11_line_155 (by decide) ?_
                        exact rJ_lv _ rfl (Kw (stg, com, act, giv, fnd) k (by omega) (by rw [← he]; exact mLr_none (by omega) (by clear X hZ K189S loopc K189N KS KN Kw ih K157; simp only [mLs]; grind)))
                      · refine rJ_iload X dX11_line_120 rfl ?_
                        refine rJ_iconst (v := 5) X dX11_line_122 (by decide) ?_
                        refine rJ_icmp_ne (tgt := 136) X dX11_line_123 (by decide) (fun a17 => ?_) (fun a17 => ?_)
                        · refine rJ_aload_n X dX11_line_136 rfl rfl ?_
                          refine rJ_getR X fX11_87 (hw.1 _ _ rfl) (hw.2 _ _ rfl) dX11_line_137 ?_
                          refine rJ_iload X dX11_line_140 rfl ?_
                          refine rJ_iload_n X dX11_line_142 rfl rfl ?_
                          refine rJ_iast X (hw.1 _ _ rfl) (mAct_in (by clear X hZ K189S loopc K189N KS KN Kw ih K157; grind)) dX11_line_143 (fun S143 hS143 => ?_)
                          refine rJ_inc (n := 1) (w := 1) X dX11_line_144 rfl (by decide) (by decide) ?_
                          refine rJ_inc (n := 1) (w := 1) X dX11_line_147 rfl (by decide) (by decide) ?_
                          refine rJ_goto (tgt := 157) X dX11_line_150 (by decide) ?_
                          exact rJ_eqS (by rw [hS143, mRow_u]) (rJ_lv _ rfl (K157 (stg, com + 1, act + 1, giv, upd fnd (mAct (S 101 k)).toNatClampNeg stg) (by clear X hZ K189S loopc K189N KS KN Kw ih K157; simp only [mLs]; grind)))
                        · refine rJ_iload_n X dX11_line_126 rfl rfl ?_
                          refine rJ_aload_n X dX11_line_127 rfl rfl ?_
                          refine rJ_getR X fX11_87 (hw.1 _ _ rfl) (hw.2 _ _ rfl) dX11_line_128 ?_
                          refine rJ_iconst (v := 4) X dX11_line_131 (by decide) ?_
                          refine rJ_ialdK (k := 4) X (by decide) ⟨by decide, by decide⟩ (hw.1 _ _ rfl) dX11_line_132 ?_
                          rw [mRow_e]
                          refine rJ_icmp_le (tgt := 153) X dX11_line_133 (by decide) (fun a18 => ?_) (fun a18 => ?_)
                          · refine rJ_iload X dX11_line_153 rfl ?_
                            refine rJ_istore X dX11_line_155 (by decide) ?_
                            exact rJ_lv _ rfl (Kw (stg, com, act, giv, fnd) k (by omega) (by rw [← he]; exact mLr_none (by omega) (by clear X hZ K189S loopc K189N KS KN Kw ih K157; simp only [mLs]; grind)))
                          · refine rJ_aload_n X dX11_line_136 rfl rfl ?_
                            refine rJ_getR X fX11_87 (hw.1 _ _ rfl) (hw.2 _ _ rfl) dX11_line_137 ?_
                            refine rJ_iload X dX11_line_140 rfl ?_
                            refine rJ_iload_n X dX11_line_142 rfl rfl ?_
                            refine rJ_iast X (hw.1 _ _ rfl) (mAct_in (by clear X hZ K189S loopc K189N KS KN Kw ih K157; grind)) dX11_line_143 (fun S143 hS143 => ?_)
                            refine rJ_inc (n := 1) (w := 1) X dX11_line_144 rfl (by decide) (by decide) ?_
                            refine rJ_inc (n := 1) (w := 1) X dX11_line_147 rfl (by decide) (by decide) ?_
                            refine rJ_goto (tgt := 157) X dX11_line_150 (by decide) ?_
                            exact rJ_eqS (by rw [hS143, mRow_u]) (rJ_lv _ rfl (K157 (stg, com + 1, act + 1, giv, upd fnd (mAct (S 101 k)).toNatClampNeg stg) (by clear X hZ K189S loopc K189N KS KN Kw ih K157; simp only [mLs]; grind)))
                  · refine rJ_iload_n X dX11_line_94 rfl rfl ?_
                    refine rJ_bipush (v := 7) X dX11_line_95 (by decide) ?_
                    refine rJ_icmp_ge (tgt := 109) X dX11_line_97 (by decide) (fun a19 => ?_) (fun a19 => ?_)
                    · refine rJ_iload X dX11_line_109 rfl ?_
                      refine rJ_if_lt (tgt := 153) X dX11_line_111 (by decide) (fun a20 => ?_) (fun a20 => ?_)
                      · refine rJ_iload X dX11_line_153 rfl ?_
                        refine rJ_istore X dX11_line_155 (by decide) ?_
                        exact rJ_lv _ rfl (Kw (stg, com, act, giv, fnd) k (by omega) (by rw [← he]; exact mLr_none (by omega) (by clear X hZ K189S loopc K189N KS KN Kw ih K157; simp only [mLs]; grind)))
                      · refine rJ_iload X dX11_line_114 rfl ?_
                        refine rJ_iload_n X dX11_line_116 rfl rfl ?_
                        refine rJ_icmp_ne (tgt := 153) X dX11_line_117 (by decide) (fun a21 => ?_) (fun a21 => ?_)
                        · refine rJ_iload X dX11_line_153 rfl ?_
                          refine rJ_istore X dX11_line_155 (by decide) ?_
                          exact rJ_lv _ rfl (Kw (stg, com, act, giv, fnd) k (by omega) (by rw [← he]; exact mLr_none (by omega) (by clear X hZ K189S loopc K189N KS KN Kw ih K157; simp only [mLs]; grind)))
                        · refine rJ_iload X dX11_line_120 rfl ?_
                          refine rJ_iconst (v := 5) X dX11_line_122 (by decide) ?_
                          refine rJ_icmp_ne (tgt := 136) X dX11_line_123 (by decide) (fun a22 => ?_) (fun a22 => ?_)
                          · refine rJ_aload_n X dX11_line_136 rfl rfl ?_
                            refine rJ_getR X fX11_87 (hw.1 _ _ rfl) (hw.2 _ _ rfl) dX11_line_137 ?_
                            refine rJ_iload X dX11_line_140 rfl ?_
                            refine rJ_iload_n X dX11_line_142 rfl rfl ?_
                            refine rJ_iast X (hw.1 _ _ rfl) (mAct_in (by clear X hZ K189S loopc K189N KS KN Kw ih K157; grind)) dX11_line_143 (fun S143 hS143 => ?_)
                            refine rJ_inc (n := 1) (w := 1) X dX11_line_144 rfl (by decide) (by decide) ?_
                            refine rJ_inc (n := 1) (w := 1) X dX11_line_147 rfl (by decide) (by decide) ?_
                            refine rJ_goto (tgt := 157) X dX11_line_150 (by decide) ?_
                            exact rJ_eqS (by rw [hS143, mRow_u]) (rJ_lv _ rfl (K157 (stg, com + 1, act + 1, giv, upd fnd (mAct (S 101 k)).toNatClampNeg stg) (by clear X hZ K189S loopc K189N KS KN Kw ih K157; simp only [mLs]; grind)))
                          · refine rJ_iload_n X dX11_line_126 rfl rfl ?_
                            refine rJ_aload_n X dX11_line_127 rfl rfl ?_
                            refine rJ_getR X fX11_87 (hw.1 _ _ rfl) (hw.2 _ _ rfl) dX11_line_128 ?_
                            refine rJ_iconst (v := 4) X dX11_line_131 (by decide) ?_
                            refine rJ_ialdK (k := 4) X (by decide) ⟨by decide, by decide⟩ (hw.1 _ _ rfl) dX11_line_132 ?_
                            rw [mRow_e]
                            refine rJ_icmp_le (tgt := 153) X dX11_line_133 (by decide) (fun a23 => ?_) (fun a23 => ?_)
                            · refine rJ_iload X dX11_line_153 rfl ?_
                              refine rJ_istore X dX11_line_155 (by decide) ?_
                              exact rJ_lv _ rfl (Kw (stg, com, act, giv, fnd) k (by omega) (by rw [← he]; exact mLr_none (by omega) (by clear X hZ K189S loopc K189N KS KN Kw ih K157; simp only [mLs]; grind)))
                            · refine rJ_aload_n X dX11_line_136 rfl rfl ?_
                              refine rJ_getR X fX11_87 (hw.1 _ _ rfl) (hw.2 _ _ rfl) dX11_line_137 ?_
                              refine rJ_iload X dX11_line_140 rfl ?_
                              refine rJ_iload_n X dX11_line_142 rfl rfl ?_
                              refine rJ_iast X (hw.1 _ _ rfl) (mAct_in (by clear X hZ K189S loopc K189N KS KN Kw ih K157; grind)) dX11_line_143 (fun S143 hS143 => ?_)
                              refine rJ_inc (n := 1) (w := 1) X dX11_line_144 rfl (by decide) (by decide) ?_
                              refine rJ_inc (n := 1) (w := 1) X dX11_line_147 rfl (by decide) (by decide) ?_
                              refine rJ_goto (tgt := 157) X dX11_line_150 (by decide) ?_
                              exact rJ_eqS (by rw [hS143, mRow_u]) (rJ_lv _ rfl (K157 (stg, com + 1, act + 1, giv, upd fnd (mAct (S 101 k)).toNatClampNeg stg) (by clear X hZ K189S loopc K189N KS KN Kw ih K157; simp only [mLs]; grind)))
                    · refine rJ_iload_n X dX11_line_100 rfl rfl ?_
                      refine rJ_istore X dX11_line_101 (by decide) ?_
                      refine rJ_inc (n := 1) (w := 1) X dX11_line_103 rfl (by decide) (by decide) ?_
                      refine rJ_goto (tgt := 157) X dX11_line_106 (by decide) ?_
                      exact rJ_lv _ rfl (K157 (stg, com, act + 1, stg, fnd) (by clear X hZ K189S loopc K189N KS KN Kw ih K157; simp only [mLs]; grind))
            · refine rJ_iload_n X dX11_line_53 rfl rfl ?_
              refine rJ_if_le (tgt := 71) X dX11_line_54 (by decide) (fun a24 => ?_) (fun a24 => ?_)
              · refine rJ_aload_n X dX11_line_71 rfl rfl ?_
                refine rJ_getR X fX11_7 (hw.1 _ _ rfl) (hw.2 _ _ rfl) dX11_line_72 ?_
                refine rJ_iload X dX11_line_75 rfl ?_
                refine rJ_ialdK (k := k) X rfl ⟨by omega, by omega⟩ (hw.1 _ _ rfl) dX11_line_77 ?_
                rw [mRow_n S fnd (x := 101) (by decide)]
                refine rJ_bipush (v := 121) X dX11_line_78 (by decide) ?_
                refine rJ_icmp_ne (tgt := 109) X dX11_line_80 (by decide) (fun a25 => ?_) (fun a25 => ?_)
                · refine rJ_iload X dX11_line_109 rfl ?_
                  refine rJ_if_lt (tgt := 153) X dX11_line_111 (by decide) (fun a26 => ?_) (fun a26 => ?_)
                  · refine rJ_iload X dX11_line_153 rfl ?_
                    refine rJ_istore X dX11_line_155 (by decide) ?_
                    exact rJ_lv _ rfl (Kw (stg, com, act, giv, fnd) k (by omega) (by rw [← he]; exact mLr_none (by omega) (by clear X hZ K189S loopc K189N KS KN Kw ih K157; simp only [mLs]; grind)))
                  · refine rJ_iload X dX11_line_114 rfl ?_
                    refine rJ_iload_n X dX11_line_116 rfl rfl ?_
                    refine rJ_icmp_ne (tgt := 153) X dX11_line_117 (by decide) (fun a27 => ?_) (fun a27 => ?_)
                    · refine rJ_iload X dX11_line_153 rfl ?_
                      refine rJ_istore X dX11_line_155 (by decide) ?_
                      exact rJ_lv _ rfl (Kw (stg, com, act, giv, fnd) k (by omega) (by rw [← he]; exact mLr_none (by omega) (by clear X hZ K189S loopc K189N KS KN Kw ih K157; simp only [mLs]; grind)))
                    · refine rJ_iload X dX11_line_120 rfl ?_
                      refine rJ_iconst (v := 5) X dX11_line_122 (by decide) ?_
                      refine rJ_icmp_ne (tgt := 136) X dX11_line_123 (by decide) (fun a28 => ?_) (fun a28 => ?_)
                      · refine rJ_aload_n X dX11_line_136 rfl rfl ?_
                        refine rJ_getR X fX11_87 (hw.1 _ _ rfl) (hw.2 _ _ rfl) dX11_line_137 ?_
                        refine rJ_iload X dX11_line_140 rfl ?_
                        refine rJ_iload_n X dX11_line_142 rfl rfl ?_
                        refine rJ_iast X (hw.1 _ _ rfl) (mAct_in (by clear X hZ K189S loopc K189N KS KN Kw ih K157; grind)) dX11_line_143 (fun S143 hS143 => ?_)
                        refine rJ_inc (n := 1) (w := 1) X dX11_line_144 rfl (by decide) (by decide) ?_
                        refine rJ_inc (n := 1) (w := 1) X dX11_line_147 rfl (by decide) (by decide) ?_
                        refine rJ_goto (tgt := 157) X dX11_line_150 (by decide) ?_
                        exact rJ_eqS (by rw [hS143, mRow_u]) (rJ_lv _ rfl (K157 (stg, com + 1, act + 1, giv, upd fnd (mAct (S 101 k)).toNatClampNeg stg) (by clear X hZ K189S loopc K189N KS KN Kw ih K157; simp only [mLs]; grind)))
                      · refine rJ_iload_n X dX11_line_126 rfl rfl ?_
                        refine rJ_aload_n X dX11_line_127 rfl rfl ?_
                        refine rJ_getR X fX11_87 (hw.1 _ _ rfl) (hw.2 _ _ rfl) dX11_line_128 ?_
                        refine rJ_iconst (v := 4) X dX11_line_131 (by decide) ?_
                        refine rJ_ialdK (k := 4) X (by decide) ⟨by decide, by decide⟩ (hw.1 _ _ rfl) dX11_line_132 ?_
                        rw [mRow_e]
                        refine rJ_icmp_le (tgt := 153) X dX11_line_133 (by decide) (fun a29 => ?_) (fun a29 => ?_)
                        · refine rJ_iload X dX11_line_153 rfl ?_
                          refine rJ_istore X dX11_line_155 (by decide) ?_
                          exact rJ_lv _ rfl (Kw (stg, com, act, giv, fnd) k (by omega) (by rw [← he]; exact mLr_none (by omega) (by clear X hZ K189S loopc K189N KS KN Kw ih K157; simp only [mLs]; grind)))
                        · refine rJ_aload_n X dX11_line_136 rfl rfl ?_
                          refine rJ_getR X fX11_87 (hw.1 _ _ rfl) (hw.2 _ _ rfl) dX11_line_137 ?_
                          refine rJ_iload X dX11_line_140 rfl ?_
                          refine rJ_iload_n X dX11_line_142 rfl rfl ?_
                          refine rJ_iast X (hw.1 _ _ rfl) (mAct_in (by clear X hZ K189S loopc K189N KS KN Kw ih K157; grind)) dX11_line_143 (fun S143 hS143 => ?_)
                          refine rJ_inc (n := 1) (w := 1) X dX11_line_144 rfl (by decide) (by decide) ?_
                          refine rJ_inc (n := 1) (w := 1) X dX11_line_147 rfl (by decide) (by decide) ?_
                          refine rJ_goto (tgt := 157) X dX11_line_150 (by decide) ?_
                          exact rJ_eqS (by rw [hS143, mRow_u]) (rJ_lv _ rfl (K157 (stg, com + 1, act + 1, giv, upd fnd (mAct (S 101 k)).toNatClampNeg stg) (by clear X hZ K189S loopc K189N KS KN Kw ih K157; simp only [mLs]; grind)))
                · refine rJ_iload X dX11_line_83 rfl ?_
                  refine rJ_iconst (v := (-1)) X dX11_line_85 (by decide) ?_
                  refine rJ_icmp_ne (tgt := 109) X dX11_line_86 (by decide) (fun a30 => ?_) (fun a30 => ?_)
                  · refine rJ_iload X dX11_line_109 rfl ?_
                    refine rJ_if_lt (tgt := 153) X dX11_line_111 (by decide) (fun a31 => ?_) (fun a31 => ?_)
                    · refine rJ_iload X dX11_line_153 rfl ?_
                      refine rJ_istore X dX11_line_155 (by decide) ?_
                      exact rJ_lv _ rfl (Kw (stg, com, act, giv, fnd) k (by omega) (by rw [← he]; exact mLr_none (by omega) (by clear X hZ K189S loopc K189N KS KN Kw ih K157; simp only [mLs]; grind)))
                    · refine rJ_iload X dX11_line_114 rfl ?_
                      refine rJ_iload_n X dX11_line_116 rfl rfl ?_
                      refine rJ_icmp_ne (tgt := 153) X dX11_line_117 (by decide) (fun a32 => ?_) (fun a32 => ?_)
                      · refine rJ_iload X dX11_line_153 rfl ?_
                        refine rJ_istore X dX11_line_155 (by decide) ?_
                        exact rJ_lv _ rfl (Kw (stg, com, act, giv, fnd) k (by omega) (by rw [← he]; exact mLr_none (by omega) (by clear X hZ K189S loopc K189N KS KN Kw ih K157; simp only [mLs]; grind)))
                      · refine rJ_iload X dX11_line_120 rfl ?_
                        refine rJ_iconst (v := 5) X dX11_line_122 (by decide) ?_
                        refine rJ_icmp_ne (tgt := 136) X dX11_line_123 (by decide) (fun a33 => ?_) (fun a33 => ?_)
                        · refine rJ_aload_n X dX11_line_136 rfl rfl ?_
                          refine rJ_getR X fX11_87 (hw.1 _ _ rfl) (hw.2 _ _ rfl) dX11_line_137 ?_
                          refine rJ_iload X dX11_line_140 rfl ?_
                          refine rJ_iload_n X dX11_line_142 rfl rfl ?_
                          refine rJ_iast X (hw.1 _ _ rfl) (mAct_in (by clear X hZ K189S loopc K189N KS KN Kw ih K157; grind)) dX11_line_143 (fun S143 hS143 => ?_)
                          refine rJ_inc (n := 1) (w := 1) X dX11_line_144 rfl (by decide) (by decide) ?_
                          refine rJ_inc (n := 1) (w := 1) X dX11_line_147 rfl (by decide) (by decide) ?_
                          refine rJ_goto (tgt := 157) X dX11_line_150 (by decide) ?_
                          exact rJ_eqS (by rw [hS143, mRow_u]) (rJ_lv _ rfl (K157 (stg, com + 1, act + 1, giv, upd fnd (mAct (S 101 k)).toNatClampNeg stg) (by clear X hZ K189S loopc K189N KS KN Kw ih K157; simp only [mLs]; grind)))
                        · refine rJ_iload_n X dX11_line_126 rfl rfl ?_
                          refine rJ_aload_n X dX11_line_127 rfl rfl ?_
                          refine rJ_getR X fX11_87 (hw.1 _ _ rfl) (hw.2 _ _ rfl) dX11_line_128 ?_
                          refine rJ_iconst (v := 4) X dX11_line_131 (by decide) ?_
                          refine rJ_ialdK (k := 4) X (by decide) ⟨by decide, by decide⟩ (hw.1 _ _ rfl) dX11_line_132 ?_
                          rw [mRow_e]
                          refine rJ_icmp_le (tgt := 153) X dX11_line_133 (by decide) (fun a34 => ?_) (fun a34 => ?_)
                          · refine rJ_iload X dX11_line_153 rfl ?_
                            refine rJ_istore X dX11_line_155 (by decide) ?_
                            exact rJ_lv _ rfl (Kw (stg, com, act, giv, fnd) k (by omega) (by rw [← he]; exact mLr_none (by omega) (by clear X hZ K189S loopc K189N KS KN Kw ih K157; simp only [mLs]; grind)))
                          · refine rJ_aload_n X dX11_line_136 rfl rfl ?_
                            refine rJ_getR X fX11_87 (hw.1 _ _ rfl) (hw.2 _ _ rfl) dX11_line_137 ?_
                            refine rJ_iload X dX11_line_140 rfl ?_
                            refine rJ_iload_n X dX11_line_142 rfl rfl ?_
                            refine rJ_iast X (hw.1 _ _ rfl) (mAct_in (by clear X hZ K189S loopc K189N KS KN Kw ih K157; grind)) dX11_line_143 (fun S143 hS143 => ?_)
                            refine rJ_inc (n := 1) (w := 1) X dX11_line_144 rfl (by decide) (by decide) ?_
                            refine rJ_inc (n := 1) (w := 1) X dX11_line_147 rfl (by decide) (by decide) ?_
                            refine rJ_goto (tgt := 157) X dX11_line_150 (by decide) ?_
                            exact rJ_eqS (by rw [hS143, mRow_u]) (rJ_lv _ rfl (K157 (stg, com + 1, act + 1, giv, upd fnd (mAct (S 101 k)).toNatClampNeg stg) (by clear X hZ K189S loopc K189N KS KN Kw ih K157; simp only [mLs]; grind)))
                  · refine rJ_iload_n X dX11_line_89 rfl rfl ?_
                    refine rJ_iconst (v := 2) X dX11_line_90 (by decide) ?_
                    refine rJ_icmp_le (tgt := 109) X dX11_line_91 (by decide) (fun a35 => ?_) (fun a35 => ?_)
                    · refine rJ_iload X dX11_line_109 rfl ?_
                      refine rJ_if_lt (tgt := 153) X dX11_line_111 (by decide) (fun a36 => ?_) (fun a36 => ?_)
                      · refine rJ_iload X dX11_line_153 rfl ?_
                        refine rJ_istore X dX11_line_155 (by decide) ?_
                        exact rJ_lv _ rfl (Kw (stg, com, act, giv, fnd) k (by omega) (by rw [← he]; exact mLr_none (by omega) (by clear X hZ K189S loopc K189N KS KN Kw ih K157; simp only [mLs]; grind)))
                      · refine rJ_iload X dX11_line_114 rfl ?_
                        refine rJ_iload_n X dX11_line_116 rfl rfl ?_
                        refine rJ_icmp_ne (tgt := 153) X dX11_line_117 (by decide) (fun a37 => ?_) (fun a37 => ?_)
                        · refine rJ_iload X dX11_line_153 rfl ?_
                          refine rJ_istore X dX11_line_155 (by decide) ?_
                          exact rJ_lv _ rfl (Kw (stg, com, act, giv, fnd) k (by omega) (by rw [← he]; exact mLr_none (by omega) (by clear X hZ K189S loopc K189N KS KN Kw ih K157; simp only [mLs]; grind)))
                        · refine rJ_iload X dX11_line_120 rfl ?_
                          refine rJ_iconst (v := 5) X dX11_line_122 (by decide) ?_
                          refine rJ_icmp_ne (tgt := 136) X dX11_line_123 (by decide) (fun a38 => ?_) (fun a38 => ?_)
                          · refine rJ_aload_n X dX11_line_136 rfl rfl ?_
                            refine rJ_getR X fX11_87 (hw.1 _ _ rfl) (hw.2 _ _ rfl) dX11_line_137 ?_
                            refine rJ_iload X dX11_line_140 rfl ?_
                            refine rJ_iload_n X dX11_line_142 rfl rfl ?_
                            refine rJ_iast X (hw.1 _ _ rfl) (mAct_in (by clear X hZ K189S loopc K189N KS KN Kw ih K157; grind)) dX11_line_143 (fun S143 hS143 => ?_)
                            refine rJ_inc (n := 1) (w := 1) X dX11_line_144 rfl (by decide) (by decide) ?_
                            refine rJ_inc (n := 1) (w := 1) X dX11_line_147 rfl (by decide) (by decide) ?_
                            refine rJ_goto (tgt := 157) X dX11_line_150 (by decide) ?_
                            exact rJ_eqS (by rw [hS143, mRow_u]) (rJ_lv _ rfl (K157 (stg, com + 1, act + 1, giv, upd fnd (mAct (S 101 k)).toNatClampNeg stg) (by clear X hZ K189S loopc K189N KS KN Kw ih K157; simp only [mLs]; grind)))
                          · refine rJ_iload_n X dX11_line_126 rfl rfl ?_
                            refine rJ_aload_n X dX11_line_127 rfl rfl ?_
                            refine rJ_getR X fX11_87 (hw.1 _ _ rfl) (hw.2 _ _ rfl) dX11_line_128 ?_
                            refine rJ_iconst (v := 4) X dX11_line_131 (by decide) ?_
                            refine rJ_ialdK (k := 4) X (by decide) ⟨by decide, by decide⟩ (hw.1 _ _ rfl) dX11_line_132 ?_
                            rw [mRow_e]
                            refine rJ_icmp_le (tgt := 153) X dX11_line_133 (by decide) (fun a39 => ?_) (fun a39 => ?_)
                            · refine rJ_iload X dX11_line_153 rfl ?_
                              refine rJ_istore X dX11_line_155 (by decide) ?_
                              exact rJ_lv _ rfl (Kw (stg, com, act, giv, fnd) k (by omega) (by rw [← he]; exact mLr_none (by omega) (by clear X hZ K189S loopc K189N KS KN Kw ih K157; simp only [mLs]; grind)))
                            · refine rJ_aload_n X dX11_line_136 rfl rfl ?_
                              refine rJ_getR X fX11_87 (hw.1 _ _ rfl) (hw.2 _ _ rfl) dX11_line_137 ?_
                              refine rJ_iload X dX11_line_140 rfl ?_
                              refine rJ_iload_n X dX11_line_142 rfl rfl ?_
                              refine rJ_iast X (hw.1 _ _ rfl) (mAct_in (by clear X hZ K189S loopc K189N KS KN Kw ih K157; grind)) dX11_line_143 (fun S143 hS143 => ?_)
                              refine rJ_inc (n := 1) (w := 1) X dX11_line_144 rfl (by decide) (by decide) ?_
                              refine rJ_inc (n := 1) (w := 1) X dX11_line_147 rfl (by decide) (by decide) ?_
                              refine rJ_goto (tgt := 157) X dX11_line_150 (by decide) ?_
                              exact rJ_eqS (by rw [hS143, mRow_u]) (rJ_lv _ rfl (K157 (stg, com + 1, act + 1, giv, upd fnd (mAct (S 101 k)).toNatClampNeg stg) (by clear X hZ K189S loopc K189N KS KN Kw ih K157; simp only [mLs]; grind)))
                    · refine rJ_iload_n X dX11_line_94 rfl rfl ?_
                      refine rJ_bipush (v := 7) X dX11_line_95 (by decide) ?_
                      refine rJ_icmp_ge (tgt := 109) X dX11_line_97 (by decide) (fun a40 => ?_) (fun a40 => ?_)
                      · refine rJ_iload X dX11_line_109 rfl ?_
                        refine rJ_if_lt (tgt := 153) X dX11_line_111 (by decide) (fun a41 => ?_) (fun a41 => ?_)
                        · refine rJ_iload X dX11_line_153 rfl ?_
                          refine rJ_istore X dX11_line_155 (by decide) ?_
                          exact rJ_lv _ rfl (Kw (stg, com, act, giv, fnd) k (by omega) (by rw [← he]; exact mLr_none (by omega) (by clear X hZ K189S loopc K189N KS KN Kw ih K157; simp only [mLs]; grind)))
                        · refine rJ_iload X dX11_line_114 rfl ?_
                          refine rJ_iload_n X dX11_line_116 rfl rfl ?_
                          refine rJ_icmp_ne (tgt := 153) X dX11_line_117 (by decide) (fun a42 => ?_) (fun a42 => ?_)
                          · refine rJ_iload X dX11_line_153 rfl ?_
                            refine rJ_istore X dX11_line_155 (by decide) ?_
                            exact rJ_lv _ rfl (Kw (stg, com, act, giv, fnd) k (by omega) (by rw [← he]; exact mLr_none (by omega) (by clear X hZ K189S loopc K189N KS KN Kw ih K157; simp only [mLs]; grind)))
                          · refine rJ_iload X dX11_line_120 rfl ?_
                            refine rJ_iconst (v := 5) X dX11_line_122 (by decide) ?_
                            refine rJ_icmp_ne (tgt := 136) X dX11_line_123 (by decide) (fun a43 => ?_) (fun a43 => ?_)
                            · refine rJ_aload_n X dX11_line_136 rfl rfl ?_
                              refine rJ_getR X fX11_87 (hw.1 _ _ rfl) (hw.2 _ _ rfl) dX11_line_137 ?_
                              refine rJ_iload X dX11_line_140 rfl ?_
                              refine rJ_iload_n X dX11_line_142 rfl rfl ?_
                              refine rJ_iast X (hw.1 _ _ rfl) (mAct_in (by clear X hZ K189S loopc K189N KS KN Kw ih K157; grind)) dX11_line_143 (fun S143 hS143 => ?_)
                              refine rJ_inc (n := 1) (w := 1) X dX11_line_144 rfl (by decide) (by decide) ?_
                              refine rJ_inc (n := 1) (w := 1) X dX11_line_147 rfl (by decide) (by decide) ?_
                              refine rJ_goto (tgt := 157) X dX11_line_150 (by decide) ?_
                              exact rJ_eqS (by rw [hS143, mRow_u]) (rJ_lv _ rfl (K157 (stg, com + 1, act + 1, giv, upd fnd (mAct (S 101 k)).toNatClampNeg stg) (by clear X hZ K189S loopc K189N KS KN Kw ih K157; simp only [mLs]; grind)))
                            · refine rJ_iload_n X dX11_line_126 rfl rfl ?_
                              refine rJ_aload_n X dX11_line_127 rfl rfl ?_
                              refine rJ_getR X fX11_87 (hw.1 _ _ rfl) (hw.2 _ _ rfl) dX11_line_128 ?_
                              refine rJ_iconst (v := 4) X dX11_line_131 (by decide) ?_
                              refine rJ_ialdK (k := 4) X (by decide) ⟨by decide, by decide⟩ (hw.1 _ _ rfl) dX11_line_132 ?_
                              rw [mRow_e]
                              refine rJ_icmp_le (tgt := 153) X dX11_line_133 (by decide) (fun a44 => ?_) (fun a44 => ?_)
                              · refine rJ_iload X dX11_line_153 rfl ?_
                                refine rJ_istore X dX11_line_155 (by decide) ?_
                                exact rJ_lv _ rfl (Kw (stg, com, act, giv, fnd) k (by omega) (by rw [← he]; exact mLr_none (by omega) (by clear X hZ K189S loopc K189N KS KN Kw ih K157; simp only [mLs]; grind)))
                              · refine rJ_aload_n X dX11_line_136 rfl rfl ?_
                                refine rJ_getR X fX11_87 (hw.1 _ _ rfl) (hw.2 _ _ rfl) dX11_line_137 ?_
                                refine rJ_iload X dX11_line_140 rfl ?_
                                refine rJ_iload_n X dX11_line_142 rfl rfl ?_
                                refine rJ_iast X (hw.1 _ _ rfl) (mAct_in (by clear X hZ K189S loopc K189N KS KN Kw ih K157; grind)) dX11_line_143 (fun S143 hS143 => ?_)
                                refine rJ_inc (n := 1) (w := 1) X dX11_line_144 rfl (by decide) (by decide) ?_
                                refine rJ_inc (n := 1) (w := 1) X dX11_line_147 rfl (by decide) (by decide) ?_
                                refine rJ_goto (tgt := 157) X dX11_line_150 (by decide) ?_
                                exact rJ_eqS (by rw [hS143, mRow_u]) (rJ_lv _ rfl (K157 (stg, com + 1, act + 1, giv, upd fnd (mAct (S 101 k)).toNatClampNeg stg) (by clear X hZ K189S loopc K189N KS KN Kw ih K157; simp only [mLs]; grind)))
                      · refine rJ_iload_n X dX11_line_100 rfl rfl ?_
                        refine rJ_istore X dX11_line_101 (by decide) ?_
                        refine rJ_inc (n := 1) (w := 1) X dX11_line_103 rfl (by decide) (by decide) ?_
                        refine rJ_goto (tgt := 157) X dX11_line_106 (by decide) ?_
                        exact rJ_lv _ rfl (K157 (stg, com, act + 1, stg, fnd) (by clear X hZ K189S loopc K189N KS KN Kw ih K157; simp only [mLs]; grind))
              · refine rJ_iload_n X dX11_line_57 rfl rfl ?_
                refine rJ_bipush (v := 7) X dX11_line_58 (by decide) ?_
                refine rJ_icmp_ge (tgt := 71) X dX11_line_60 (by decide) (fun a45 => ?_) (fun a45 => ?_)
                · refine rJ_aload_n X dX11_line_71 rfl rfl ?_
                  refine rJ_getR X fX11_7 (hw.1 _ _ rfl) (hw.2 _ _ rfl) dX11_line_72 ?_
                  refine rJ_iload X dX11_line_75 rfl ?_
                  refine rJ_ialdK (k := k) X rfl ⟨by omega, by omega⟩ (hw.1 _ _ rfl) dX11_line_77 ?_
                  rw [mRow_n S fnd (x := 101) (by decide)]
                  refine rJ_bipush (v := 121) X dX11_line_78 (by decide) ?_
                  refine rJ_icmp_ne (tgt := 109) X dX11_line_80 (by decide) (fun a46 => ?_) (fun a46 => ?_)
                  · refine rJ_iload X dX11_line_109 rfl ?_
                    refine rJ_if_lt (tgt := 153) X dX11_line_111 (by decide) (fun a47 => ?_) (fun a47 => ?_)
                    · refine rJ_iload X dX11_line_153 rfl ?_
                      refine rJ_istore X dX11_line_155 (by decide) ?_
                      exact rJ_lv _ rfl (Kw (stg, com, act, giv, fnd) k (by omega) (by rw [← he]; exact mLr_none (by omega) (by clear X hZ K189S loopc K189N KS KN Kw ih K157; simp only [mLs]; grind)))
                    · refine rJ_iload X dX11_line_114 rfl ?_
                      refine rJ_iload_n X dX11_line_116 rfl rfl ?_
                      refine rJ_icmp_ne (tgt := 153) X dX11_line_117 (by decide) (fun a48 => ?_) (fun a48 => ?_)
                      · refine rJ_iload X dX11_line_153 rfl ?_
                        refine rJ_istore X dX11_line_155 (by decide) ?_
                        exact rJ_lv _ rfl (Kw (stg, com, act, giv, fnd) k (by omega) (by rw [← he]; exact mLr_none (by omega) (by clear X hZ K189S loopc K189N KS KN Kw ih K157; simp only [mLs]; grind)))
                      · refine rJ_iload X dX11_line_120 rfl ?_
                        refine rJ_iconst (v := 5) X dX11_line_122 (by decide) ?_
                        refine rJ_icmp_ne (tgt := 136) X dX11_line_123 (by decide) (fun a49 => ?_) (fun a49 => ?_)
                        · refine rJ_aload_n X dX11_line_136 rfl rfl ?_
                          refine rJ_getR X fX11_87 (hw.1 _ _ rfl) (hw.2 _ _ rfl) dX11_line_137 ?_
                          refine rJ_iload X dX11_line_140 rfl ?_
                          refine rJ_iload_n X dX11_line_142 rfl rfl ?_
                          refine rJ_iast X (hw.1 _ _ rfl) (mAct_in (by clear X hZ K189S loopc K189N KS KN Kw ih K157; grind)) dX11_line_143 (fun S143 hS143 => ?_)
                          refine rJ_inc (n := 1) (w := 1) X dX11_line_144 rfl (by decide) (by decide) ?_
                          refine rJ_inc (n := 1) (w := 1) X dX11_line_147 rfl (by decide) (by decide) ?_
                          refine rJ_goto (tgt := 157) X dX11_line_150 (by decide) ?_
                          exact rJ_eqS (by rw [hS143, mRow_u]) (rJ_lv _ rfl (K157 (stg, com + 1, act + 1, giv, upd fnd (mAct (S 101 k)).toNatClampNeg stg) (by clear X hZ K189S loopc K189N KS KN Kw ih K157; simp only [mLs]; grind)))
                        · refine rJ_iload_n X dX11_line_126 rfl rfl ?_
                          refine rJ_aload_n X dX11_line_127 rfl rfl ?_
                          refine rJ_getR X fX11_87 (hw.1 _ _ rfl) (hw.2 _ _ rfl) dX11_line_128 ?_
                          refine rJ_iconst (v := 4) X dX11_line_131 (by decide) ?_
                          refine rJ_ialdK (k := 4) X (by decide) ⟨by decide, by decide⟩ (hw.1 _ _ rfl) dX11_line_132 ?_
                          rw [mRow_e]
                          refine rJ_icmp_le (tgt := 153) X dX11_line_133 (by decide) (fun a50 => ?_) (fun a50 => ?_)
                          · refine rJ_iload X dX11_line_153 rfl ?_
                            refine rJ_istore X dX11_line_155 (by decide) ?_
                            exact rJ_lv _ rfl (Kw (stg, com, act, giv, fnd) k (by omega) (by rw [← he]; exact mLr_none (by omega) (by clear X hZ K189S loopc K189N KS KN Kw ih K157; simp only [mLs]; grind)))
                          · refine rJ_aload_n X dX11_line_136 rfl rfl ?_
                            refine rJ_getR X fX11_87 (hw.1 _ _ rfl) (hw.2 _ _ rfl) dX11_line_137 ?_
                            refine rJ_iload X dX11_line_140 rfl ?_
                            refine rJ_iload_n X dX11_line_142 rfl rfl ?_
                            refine rJ_iast X (hw.1 _ _ rfl) (mAct_in (by clear X hZ K189S loopc K189N KS KN Kw ih K157; grind)) dX11_line_143 (fun S143 hS143 => ?_)
                            refine rJ_inc (n := 1) (w := 1) X dX11_line_144 rfl (by decide) (by decide) ?_
                            refine rJ_inc (n := 1) (w := 1) X dX11_line_147 rfl (by decide) (by decide) ?_
                            refine rJ_goto (tgt := 157) X dX11_line_150 (by decide) ?_
                            exact rJ_eqS (by rw [hS143, mRow_u]) (rJ_lv _ rfl (K157 (stg, com + 1, act + 1, giv, upd fnd (mAct (S 101 k)).toNatClampNeg stg) (by clear X hZ K189S loopc K189N KS KN Kw ih K157; simp only [mLs]; grind)))
                  · refine rJ_iload X dX11_line_83 rfl ?_
                    refine rJ_iconst (v := (-1)) X dX11_line_85 (by decide) ?_
                    refine rJ_icmp_ne (tgt := 109) X dX11_line_86 (by decide) (fun a51 => ?_) (fun a51 => ?_)
                    · refine rJ_iload X dX11_line_109 rfl ?_
                      refine rJ_if_lt (tgt := 153) X dX11_line_111 (by decide) (fun a52 => ?_) (fun a52 => ?_)
                      · refine rJ_iload X dX11_line_153 rfl ?_
                        refine rJ_istore X dX11_line_155 (by decide) ?_
                        exact rJ_lv _ rfl (Kw (stg, com, act, giv, fnd) k (by omega) (by rw [← he]; exact mLr_none (by omega) (by clear X hZ K189S loopc K189N KS KN Kw ih K157; simp only [mLs]; grind)))
                      · refine rJ_iload X dX11_line_114 rfl ?_
                        refine rJ_iload_n X dX11_line_116 rfl rfl ?_
                        refine rJ_icmp_ne (tgt := 153) X dX11_line_117 (by decide) (fun a53 => ?_) (fun a53 => ?_)
                        · refine rJ_iload X dX11_line_153 rfl ?_
                          refine rJ_istore X dX11_line_155 (by decide) ?_
                          exact rJ_lv _ rfl (Kw (stg, com, act, giv, fnd) k (by omega) (by rw [← he]; exact mLr_none (by omega) (by clear X hZ K189S loopc K189N KS KN Kw ih K157; simp only [mLs]; grind)))
                        · refine rJ_iload X dX11_line_120 rfl ?_
                          refine rJ_iconst (v := 5) X dX11_line_122 (by decide) ?_
                          refine rJ_icmp_ne (tgt := 136) X dX11_line_123 (by decide) (fun a54 => ?_) (fun a54 => ?_)
                          · refine rJ_aload_n X dX11_line_136 rfl rfl ?_
                            refine rJ_getR X fX11_87 (hw.1 _ _ rfl) (hw.2 _ _ rfl) dX11_line_137 ?_
                            refine rJ_iload X dX11_line_140 rfl ?_
                            refine rJ_iload_n X dX11_line_142 rfl rfl ?_
                            refine rJ_iast X (hw.1 _ _ rfl) (mAct_in (by clear X hZ K189S loopc K189N KS KN Kw ih K157; grind)) dX11_line_143 (fun S143 hS143 => ?_)
                            refine rJ_inc (n := 1) (w := 1) X dX11_line_144 rfl (by decide) (by decide) ?_
                            refine rJ_inc (n := 1) (w := 1) X dX11_line_147 rfl (by decide) (by decide) ?_
                            refine rJ_goto (tgt := 157) X dX11_line_150 (by decide) ?_
                            exact rJ_eqS (by rw [hS143, mRow_u]) (rJ_lv _ rfl (K157 (stg, com + 1, act + 1, giv, upd fnd (mAct (S 101 k)).toNatClampNeg stg) (by clear X hZ K189S loopc K189N KS KN Kw ih K157; simp only [mLs]; grind)))
                          · refine rJ_iload_n X dX11_line_126 rfl rfl ?_
                            refine rJ_aload_n X dX11_line_127 rfl rfl ?_
                            refine rJ_getR X fX11_87 (hw.1 _ _ rfl) (hw.2 _ _ rfl) dX11_line_128 ?_
                            refine rJ_iconst (v := 4) X dX11_line_131 (by decide) ?_
                            refine rJ_ialdK (k := 4) X (by decide) ⟨by decide, by decide⟩ (hw.1 _ _ rfl) dX11_line_132 ?_
                            rw [mRow_e]
                            refine rJ_icmp_le (tgt := 153) X dX11_line_133 (by decide) (fun a55 => ?_) (fun a55 => ?_)
                            · refine rJ_iload X dX11_line_153 rfl ?_
                              refine rJ_istore X dX11_line_155 (by decide) ?_
                              exact rJ_lv _ rfl (Kw (stg, com, act, giv, fnd) k (by omega) (by rw [← he]; exact mLr_none (by omega) (by clear X hZ K189S loopc K189N KS KN Kw ih K157; simp only [mLs]; grind)))
                            · refine rJ_aload_n X dX11_line_136 rfl rfl ?_
                              refine rJ_getR X fX11_87 (hw.1 _ _ rfl) (hw.2 _ _ rfl) dX11_line_137 ?_
                              refine rJ_iload X dX11_line_140 rfl ?_
                              refine rJ_iload_n X dX11_line_142 rfl rfl ?_
                              refine rJ_iast X (hw.1 _ _ rfl) (mAct_in (by clear X hZ K189S loopc K189N KS KN Kw ih K157; grind)) dX11_line_143 (fun S143 hS143 => ?_)
                              refine rJ_inc (n := 1) (w := 1) X dX11_line_144 rfl (by decide) (by decide) ?_
                              refine rJ_inc (n := 1) (w := 1) X dX11_line_147 rfl (by decide) (by decide) ?_
                              refine rJ_goto (tgt := 157) X dX11_line_150 (by decide) ?_
                              exact rJ_eqS (by rw [hS143, mRow_u]) (rJ_lv _ rfl (K157 (stg, com + 1, act + 1, giv, upd fnd (mAct (S 101 k)).toNatClampNeg stg) (by clear X hZ K189S loopc K189N KS KN Kw ih K157; simp only [mLs]; grind)))
                    · refine rJ_iload_n X dX11_line_89 rfl rfl ?_
                      refine rJ_iconst (v := 2) X dX11_line_90 (by decide) ?_
                      refine rJ_icmp_le (tgt := 109) X dX11_line_91 (by decide) (fun a56 => ?_) (fun a56 => ?_)
                      · refine rJ_iload X dX11_line_109 rfl ?_
                        refine rJ_if_lt (tgt := 153) X dX11_line_111 (by decide) (fun a57 => ?_) (fun a57 => ?_)
                        · refine rJ_iload X dX11_line_153 rfl ?_
                          refine rJ_istore X dX11_line_155 (by decide) ?_
                          exact rJ_lv _ rfl (Kw (stg, com, act, giv, fnd) k (by omega) (by rw [← he]; exact mLr_none (by omega) (by clear X hZ K189S loopc K189N KS KN Kw ih K157; simp only [mLs]; grind)))
                        · refine rJ_iload X dX11_line_114 rfl ?_
                          refine rJ_iload_n X dX11_line_116 rfl rfl ?_
                          refine rJ_icmp_ne (tgt := 153) X dX11_line_117 (by decide) (fun a58 => ?_) (fun a58 => ?_)
                          · refine rJ_iload X dX11_line_153 rfl ?_
                            refine rJ_istore X dX11_line_155 (by decide) ?_
                            exact rJ_lv _ rfl (Kw (stg, com, act, giv, fnd) k (by omega) (by rw [← he]; exact mLr_none (by omega) (by clear X hZ K189S loopc K189N KS KN Kw ih K157; simp only [mLs]; grind)))
                          · refine rJ_iload X dX11_line_120 rfl ?_
                            refine rJ_iconst (v := 5) X dX11_line_122 (by decide) ?_
                            refine rJ_icmp_ne (tgt := 136) X dX11_line_123 (by decide) (fun a59 => ?_) (fun a59 => ?_)
                            · refine rJ_aload_n X dX11_line_136 rfl rfl ?_
                              refine rJ_getR X fX11_87 (hw.1 _ _ rfl) (hw.2 _ _ rfl) dX11_line_137 ?_
                              refine rJ_iload X dX11_line_140 rfl ?_
                              refine rJ_iload_n X dX11_line_142 rfl rfl ?_
                              refine rJ_iast X (hw.1 _ _ rfl) (mAct_in (by clear X hZ K189S loopc K189N KS KN Kw ih K157; grind)) dX11_line_143 (fun S143 hS143 => ?_)
                              refine rJ_inc (n := 1) (w := 1) X dX11_line_144 rfl (by decide) (by decide) ?_
                              refine rJ_inc (n := 1) (w := 1) X dX11_line_147 rfl (by decide) (by decide) ?_
                              refine rJ_goto (tgt := 157) X dX11_line_150 (by decide) ?_
                              exact rJ_eqS (by rw [hS143, mRow_u]) (rJ_lv _ rfl (K157 (stg, com + 1, act + 1, giv, upd fnd (mAct (S 101 k)).toNatClampNeg stg) (by clear X hZ K189S loopc K189N KS KN Kw ih K157; simp only [mLs]; grind)))
                            · refine rJ_iload_n X dX11_line_126 rfl rfl ?_
                              refine rJ_aload_n X dX11_line_127 rfl rfl ?_
                              refine rJ_getR X fX11_87 (hw.1 _ _ rfl) (hw.2 _ _ rfl) dX11_line_128 ?_
                              refine rJ_iconst (v := 4) X dX11_line_131 (by decide) ?_
                              refine rJ_ialdK (k := 4) X (by decide) ⟨by decide, by decide⟩ (hw.1 _ _ rfl) dX11_line_132 ?_
                              rw [mRow_e]
                              refine rJ_icmp_le (tgt := 153) X dX11_line_133 (by decide) (fun a60 => ?_) (fun a60 => ?_)
                              · refine rJ_iload X dX11_line_153 rfl ?_
                                refine rJ_istore X dX11_line_155 (by decide) ?_
                                exact rJ_lv _ rfl (Kw (stg, com, act, giv, fnd) k (by omega) (by rw [← he]; exact mLr_none (by omega) (by clear X hZ K189S loopc K189N KS KN Kw ih K157; simp only [mLs]; grind)))
                              · refine rJ_aload_n X dX11_line_136 rfl rfl ?_
                                refine rJ_getR X fX11_87 (hw.1 _ _ rfl) (hw.2 _ _ rfl) dX11_line_137 ?_
                                refine rJ_iload X dX11_line_140 rfl ?_
                                refine rJ_iload_n X dX11_line_142 rfl rfl ?_
                                refine rJ_iast X (hw.1 _ _ rfl) (mAct_in (by clear X hZ K189S loopc K189N KS KN Kw ih K157; grind)) dX11_line_143 (fun S143 hS143 => ?_)
                                refine rJ_inc (n := 1) (w := 1) X dX11_line_144 rfl (by decide) (by decide) ?_
                                refine rJ_inc (n := 1) (w := 1) X dX11_line_147 rfl (by decide) (by decide) ?_
                                refine rJ_goto (tgt := 157) X dX11_line_150 (by decide) ?_
                                exact rJ_eqS (by rw [hS143, mRow_u]) (rJ_lv _ rfl (K157 (stg, com + 1, act + 1, giv, upd fnd (mAct (S 101 k)).toNatClampNeg stg) (by clear X hZ K189S loopc K189N KS KN Kw ih K157; simp only [mLs]; grind)))
                      · refine rJ_iload_n X dX11_line_94 rfl rfl ?_
                        refine rJ_bipush (v := 7) X dX11_line_95 (by decide) ?_
                        refine rJ_icmp_ge (tgt := 109) X dX11_line_97 (by decide) (fun a61 => ?_) (fun a61 => ?_)
                        · refine rJ_iload X dX11_line_109 rfl ?_
                          refine rJ_if_lt (tgt := 153) X dX11_line_111 (by decide) (fun a62 => ?_) (fun a62 => ?_)
                          · refine rJ_iload X dX11_line_153 rfl ?_
                            refine rJ_istore X dX11_line_155 (by decide) ?_
                            exact rJ_lv _ rfl (Kw (stg, com, act, giv, fnd) k (by omega) (by rw [← he]; exact mLr_none (by omega) (by clear X hZ K189S loopc K189N KS KN Kw ih K157; simp only [mLs]; grind)))
                          · refine rJ_iload X dX11_line_114 rfl ?_
                            refine rJ_iload_n X dX11_line_116 rfl rfl ?_
                            refine rJ_icmp_ne (tgt := 153) X dX11_line_117 (by decide) (fun a63 => ?_) (fun a63 => ?_)
                            · refine rJ_iload X dX11_line_153 rfl ?_
                              refine rJ_istore X dX11_line_155 (by decide) ?_
                              exact rJ_lv _ rfl (Kw (stg, com, act, giv, fnd) k (by omega) (by rw [← he]; exact mLr_none (by omega) (by clear X hZ K189S loopc K189N KS KN Kw ih K157; simp only [mLs]; grind)))
                            · refine rJ_iload X dX11_line_120 rfl ?_
                              refine rJ_iconst (v := 5) X dX11_line_122 (by decide) ?_
                              refine rJ_icmp_ne (tgt := 136) X dX11_line_123 (by decide) (fun a64 => ?_) (fun a64 => ?_)
                              · refine rJ_aload_n X dX11_line_136 rfl rfl ?_
                                refine rJ_getR X fX11_87 (hw.1 _ _ rfl) (hw.2 _ _ rfl) dX11_line_137 ?_
                                refine rJ_iload X dX11_line_140 rfl ?_
                                refine rJ_iload_n X dX11_line_142 rfl rfl ?_
                                refine rJ_iast X (hw.1 _ _ rfl) (mAct_in (by clear X hZ K189S loopc K189N KS KN Kw ih K157; grind)) dX11_line_143 (fun S143 hS143 => ?_)
                                refine rJ_inc (n := 1) (w := 1) X dX11_line_144 rfl (by decide) (by decide) ?_
                                refine rJ_inc (n := 1) (w := 1) X dX11_line_147 rfl (by decide) (by decide) ?_
                                refine rJ_goto (tgt := 157) X dX11_line_150 (by decide) ?_
                                exact rJ_eqS (by rw [hS143, mRow_u]) (rJ_lv _ rfl (K157 (stg, com + 1, act + 1, giv, upd fnd (mAct (S 101 k)).toNatClampNeg stg) (by clear X hZ K189S loopc K189N KS KN Kw ih K157; simp only [mLs]; grind)))
                              · refine rJ_iload_n X dX11_line_126 rfl rfl ?_
                                refine rJ_aload_n X dX11_line_127 rfl rfl ?_
                                refine rJ_getR X fX11_87 (hw.1 _ _ rfl) (hw.2 _ _ rfl) dX11_line_128 ?_
                                refine rJ_iconst (v := 4) X dX11_line_131 (by decide) ?_
                                refine rJ_ialdK (k := 4) X (by decide) ⟨by decide, by decide⟩ (hw.1 _ _ rfl) dX11_line_132 ?_
                                rw [mRow_e]
                                refine rJ_icmp_le (tgt := 153) X dX11_line_133 (by decide) (fun a65 => ?_) (fun a65 => ?_)
                                · refine rJ_iload X dX11_line_153 rfl ?_
                                  refine rJ_istore X dX11_line_155 (by decide) ?_
                                  exact rJ_lv _ rfl (Kw (stg, com, act, giv, fnd) k (by omega) (by rw [← he]; exact mLr_none (by omega) (by clear X hZ K189S loopc K189N KS KN Kw ih K157; simp only [mLs]; grind)))
                                · refine rJ_aload_n X dX11_line_136 rfl rfl ?_
                                  refine rJ_getR X fX11_87 (hw.1 _ _ rfl) (hw.2 _ _ rfl) dX11_line_137 ?_
                                  refine rJ_iload X dX11_line_140 rfl ?_
                                  refine rJ_iload_n X dX11_line_142 rfl rfl ?_
                                  refine rJ_iast X (hw.1 _ _ rfl) (mAct_in (by clear X hZ K189S loopc K189N KS KN Kw ih K157; grind)) dX11_line_143 (fun S143 hS143 => ?_)
                                  refine rJ_inc (n := 1) (w := 1) X dX11_line_144 rfl (by decide) (by decide) ?_
                                  refine rJ_inc (n := 1) (w := 1) X dX11_line_147 rfl (by decide) (by decide) ?_
                                  refine rJ_goto (tgt := 157) X dX11_line_150 (by decide) ?_
                                  exact rJ_eqS (by rw [hS143, mRow_u]) (rJ_lv _ rfl (K157 (stg, com + 1, act + 1, giv, upd fnd (mAct (S 101 k)).toNatClampNeg stg) (by clear X hZ K189S loopc K189N KS KN Kw ih K157; simp only [mLs]; grind)))
                        · refine rJ_iload_n X dX11_line_100 rfl rfl ?_
                          refine rJ_istore X dX11_line_101 (by decide) ?_
                          refine rJ_inc (n := 1) (w := 1) X dX11_line_103 rfl (by decide) (by decide) ?_
                          refine rJ_goto (tgt := 157) X dX11_line_106 (by decide) ?_
                          exact rJ_lv _ rfl (K157 (stg, com, act + 1, stg, fnd) (by clear X hZ K189S loopc K189N KS KN Kw ih K157; simp only [mLs]; grind))
                · refine rJ_inc (n := 1) (w := 1) X dX11_line_63 rfl (by decide) (by decide) ?_
                  refine rJ_iconst (v := 0) X dX11_line_66 (by decide) ?_
                  refine rJ_istore_n X dX11_line_67 rfl (by decide) ?_
                  refine rJ_goto (tgt := 157) X dX11_line_68 (by decide) ?_
                  exact rJ_lv _ rfl (K157 (stg + 1, com, 0, giv, fnd) (by clear X hZ K189S loopc K189N KS KN Kw ih K157; simp only [mLs]; grind))
      · refine rJ_iload X dX11_line_15 rfl ?_
        refine rJ_aload_n X dX11_line_17 rfl rfl ?_
        refine rJ_getI X fX11_119 (hw.1 _ _ rfl) dX11_line_18 ?_
        refine rJ_icmp_ge (tgt := 163) X dX11_line_21 (by decide) (fun a1 => ?_) (fun a1 => ?_)
        · rw [mRow_n S fnd (by decide), hsg, nI_leI (by omega) (by omega)] at a1
          exact rJ_lv _ rfl (KN (stg, com, act, giv, fnd) (by rw [← he, mLr_end a1]))
        · rw [mRow_n S fnd (by decide), hsg, nI_leI (by omega) (by omega)] at a1
          exact absurd (by omega) a1
  refine rJ_iconst (v := 0) X dX11_line_0 (by decide) ?_
  refine rJ_istore_n X dX11_line_1 rfl (by decide) ?_
  refine rJ_iconst (v := 0) X dX11_line_2 (by decide) ?_
  refine rJ_istore_n X dX11_line_3 rfl (by decide) ?_
  refine rJ_iconst (v := 0) X dX11_line_4 (by decide) ?_
  refine rJ_istore_n X dX11_line_5 rfl (by decide) ?_
  refine rJ_iconst (v := (-1)) X dX11_line_6 (by decide) ?_
  refine rJ_istore X dX11_line_7 (by decide) ?_
  refine rJ_iconst (v := (-1)) X dX11_line_9 (by decide) ?_
  refine rJ_istore X dX11_line_10 (by decide) ?_
  refine rJ_iconst (v := 0) X dX11_line_12 (by decide) ?_
  refine rJ_istore X dX11_line_13 (by decide) ?_
  exact rJ_eqS (mRow_s S 134) (rJ_lv _ rfl (loop (sg + 1) 0 0 0 0 (-1) (S 134) (by omega) (by omega) rfl))
