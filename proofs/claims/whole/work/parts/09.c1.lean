/-! the class's cells by labels -/
def shC (r : Nat) : Option (Nat × Nat × Nat) := [some (0, 10, 0), some (1, 0, 30), some (0, 4, 0), some (1, 0, 8), some (0, 3, 0), some (1, 0, 8), some (0, 8, 0), some (5, 0, 40), some (0, 2, 0), some (0, 9, 0), some (1, 0, 64), some (1, 0, 8), some (0, 0, 0), some (1, 0, 4000), some (0, 7, 0), some (0, 1, 0), some (1, 0, 8), some (1, 0, 64), some (8, 0, 8), some (1, 0, 8), some (0, 6, 0), some (0, 1, 0), some (1, 0, 8), some (1, 0, 64), some (0, 5, 0), some (0, 5, 0), some (0, 5, 0), some (0, 5, 0), some (0, 5, 0), some (0, 5, 0), some (0, 5, 0), some (0, 5, 0)].getD r none
def gC (r k : Nat) : Option Nat := (([[some 1, none, some 2, some 4, some 6, some 9, some 12, some 14, some 20], [none, none, none, none, none, none, none, none, none], [some 3, none, none, none, none, none, none, none, none], [none, none, none, none, none, none, none, none, none], [some 5, none, none, none, none, none, none, none, none], [none, none, none, none, none, none, none, none, none], [some 7, some 8, none, none, none, none, none, none, none], [none, none, none, none, none, none, none, none, none], [none, none, none, none, none, none, none, none, none], [some 10, some 11, none, none, none, none, none, none, none], [none, none, none, none, none, none, none, none, none], [none, none, none, none, none, none, none, none, none], [some 13, none, none, none, none, none, none, none, none], [none, none, none, none, none, none, none, none, none], [some 4, some 6, some 9, some 12, some 15, some 18, some 19, none, none], [some 16, some 17, none, none, none, none, none, none, none], [none, none, none, none, none, none, none, none, none], [none, none, none, none, none, none, none, none, none], [none, none, none, none, none, none, none, none, none], [none, none, none, none, none, none, none, none, none], [some 6, some 9, some 21, none, none, none, none, none, none], [some 22, some 23, none, none, none, none, none, none, none], [none, none, none, none, none, none, none, none, none], [none, none, none, none, none, none, none, none, none]] : List (List (Option Nat))).getD r []).getD k none
def okC (Sh : mS) (G : mP) : Prop := (∀ r sh, shC r = some sh → Sh r = some sh) ∧ ∀ r k q, gC r k = some q → G r k = some q
set_option maxHeartbeats 4000000 in
set_option maxRecDepth 100000 in
theorem cJ_max {l : Launch} {D : va_G} {b : Nat} {A : Nat → Nat} {Sh : mS} {S : mI} {G : mP} (x y : Int32) : rMet l D b yJ9_max_7cf53 cJ9_max_7cf53 2 (some .int) (mR 0) A Sh S G [.int x, .int y] (rPi A Sh (if x < y then y else x) S G) := by
  refine rMet_ozF RJ9 rfl (by decide +kernel) (Nat.le_of_ble_eq_true rfl) ?_
  intro p e s m args below meth c Z hZ X hnm
  refine rJ_iload_n X dJ9_max_7cf53_0 rfl rfl ?_
  refine rJ_iload_n X dJ9_max_7cf53_1 rfl rfl ?_
  refine rJ_icmp_lt (tgt := 9) X dJ9_max_7cf53_2 (by decide) (fun c1 => ?_) (fun c1 => ?_)
  · refine rJ_iload_n X dJ9_max_7cf53_9 rfl rfl ?_
    exact rJ_iretZ hZ X dJ9_max_7cf53_10 ⟨by first | rw [if_pos c1] | rw [if_neg c1], rfl, rfl, rfl, rfl⟩
  · refine rJ_iload_n X dJ9_max_7cf53_5 rfl rfl ?_
    refine rJ_goto (tgt := 10) X dJ9_max_7cf53_6 (by decide) ?_
    exact rJ_iretZ hZ X dJ9_max_7cf53_10 ⟨by first | rw [if_pos c1] | rw [if_neg c1], rfl, rfl, rfl, rfl⟩
abbrev fMod (x y : Int32) : Int32 := if ¬ 0 ≤ x ^^^ y ∧ ¬ x - x / y * y = 0 then x - x / y * y + y else x - x / y * y
set_option maxHeartbeats 4000000 in
set_option maxRecDepth 100000 in
theorem cJ_floorMod {l : Launch} {D : va_G} {b : Nat} {A : Nat → Nat} {Sh : mS} {S : mI} {G : mP} (x y : Int32) (hy : ¬ y = 0) : rMet l D b yJ9_floorMod_7cf53 cJ9_floorMod_7cf53 3 (some .int) (mR 0) A Sh S G [.int x, .int y] (rPi A Sh (fMod x y) S G) := by
  refine rMet_ozF RJ9 rfl (by decide +kernel) (Nat.le_of_ble_eq_true rfl) ?_
  intro p e s m args below meth c Z hZ X hnm
  refine rJ_iload_n X dJ9_floorMod_7cf53_0 rfl rfl ?_
  refine rJ_iload_n X dJ9_floorMod_7cf53_1 rfl rfl ?_
  refine rJ_irem X dJ9_floorMod_7cf53_2 hy ?_
  refine rJ_istore_n X dJ9_floorMod_7cf53_3 rfl (by decide) ?_
  refine rJ_iload_n X dJ9_floorMod_7cf53_4 rfl rfl ?_
  refine rJ_iload_n X dJ9_floorMod_7cf53_5 rfl rfl ?_
  refine rJ_ixor X dJ9_floorMod_7cf53_6 ?_
  refine rJ_if_ge (tgt := 18) X dJ9_floorMod_7cf53_7 (by decide) (fun c1 => ?_) (fun c1 => ?_)
  · refine rJ_iload_n X dJ9_floorMod_7cf53_18 rfl rfl ?_
    exact rJ_iretZ hZ X dJ9_floorMod_7cf53_19 ⟨by clear X hZ; grind, rfl, rfl, rfl, rfl⟩
  · refine rJ_iload_n X dJ9_floorMod_7cf53_10 rfl rfl ?_
    refine rJ_if_eq (tgt := 18) X dJ9_floorMod_7cf53_11 (by decide) (fun c2 => ?_) (fun c2 => ?_)
    · refine rJ_iload_n X dJ9_floorMod_7cf53_18 rfl rfl ?_
      exact rJ_iretZ hZ X dJ9_floorMod_7cf53_19 ⟨by clear X hZ; grind, rfl, rfl, rfl, rfl⟩
    · refine rJ_iload_n X dJ9_floorMod_7cf53_14 rfl rfl ?_
      refine rJ_iload_n X dJ9_floorMod_7cf53_15 rfl rfl ?_
      refine rJ_iadd X dJ9_floorMod_7cf53_16 ?_
      exact rJ_iretZ hZ X dJ9_floorMod_7cf53_17 ⟨by clear X hZ; grind, rfl, rfl, rfl, rfl⟩
/-- a row filled up to n -/
def mFl (S : mI) (r n : Nat) (v : Int32) : mI := fun x k => if x = r ∧ k < n then v else S x k
theorem mFl_0 (S : mI) (r : Nat) (v : Int32) : mFl S r 0 v = S := by funext x k; simp [mFl]
theorem mFl_s (S : mI) (r n : Nat) (v : Int32) : mu (mFl S r n v) r n v = mFl S r (n + 1) v := by
  funext x k
  simp only [mu, mFl]
  grind
set_option maxHeartbeats 4000000 in
set_option maxRecDepth 100000 in
theorem cJ_fill {l : Launch} {D : va_G} {b : Nat} {A : Nat → Nat} {Sh : mS} {S : mI} {G : mP} {r n : Nat} (hr : Sh r = some (1, 0, n)) (hn : n < 2147483648) (v : Int32) : rMet l D b yJ7_fill_53178 cJ7_fill_53178 4 none (mR 0) A Sh S G [.ref (A r), .int v] (rPv A Sh (mFl S r n v) G) := by
  refine rMet_oz RJ7 rfl (by decide) (Nat.le_of_ble_eq_true rfl) ?_
  intro p e s m args below meth c Z hZ X hnm
  have loop : ∀ (f k : Nat) (U : mI), U = mFl S r k v → k ≤ n → n - k < f → rJ p l e (mR 0) s m args below meth c D vwCl mty b 4 Z 0 0 A Sh U G [(0, .ref (A r)), (1, .int v), (2, .int (nI k)), (3, .int (nI n))] 5 [] := by
    intro f
    induction f with
    | zero => intro k U hU h1 h3; exact absurd h3 (by omega)
    | succ f ih =>
      intro k U hU h1 h3
      refine rJ_iload_n X dJ7_fill_53178_5 rfl rfl ?_
      refine rJ_iload_n X dJ7_fill_53178_6 rfl rfl ?_
      refine rJ_icmp_ge (tgt := 20) X dJ7_fill_53178_7 (by decide) (fun a1 => ?_) (fun a1 => ?_)
      · rw [nI_leI (by omega) (by omega)] at a1
        exact rJ_vretZ hZ X dJ7_fill_53178_20 ⟨rfl, rfl, rfl, by rw [hU, show k = n by omega], rfl⟩
      · rw [nI_leI (by omega) (by omega)] at a1
        refine rJ_aload_n X dJ7_fill_53178_10 rfl rfl ?_
        refine rJ_iload_n X dJ7_fill_53178_11 rfl rfl ?_
        refine rJ_iload_n X dJ7_fill_53178_12 rfl rfl ?_
        refine rJ_iastK (k := k) X rfl (n := n) ⟨by omega, by omega⟩ (by first | exact hw.1 _ _ rfl | assumption) dJ7_fill_53178_13 (fun S13 hS13 => ?_)
        refine rJ_inc (n := 1) (w := 1) X dJ7_fill_53178_14 rfl (by decide) (by decide) ?_
        rw [nI_1 k]
        refine rJ_goto (tgt := 5) X dJ7_fill_53178_17 (by decide) ?_
        exact rJ_lv _ rfl (ih (k + 1) _ (by rw [hS13, hU, mFl_s]) (by omega) (by omega))
  refine rJ_iconst (v := 0) X dJ7_fill_53178_0 (by decide) ?_
  refine rJ_istore_n X dJ7_fill_53178_1 rfl (by decide) ?_
  refine rJ_aload_n X dJ7_fill_53178_2 rfl rfl ?_
  refine rJ_alen (v := (nI n)) X (by first | exact hw.1 _ _ rfl | assumption) rfl dJ7_fill_53178_3 ?_
  refine rJ_istore_n X dJ7_fill_53178_4 rfl (by decide) ?_
  exact rJ_lv _ rfl (loop (n + 1) 0 S (mFl_0 S r v).symm (by omega) (by omega))
set_option maxHeartbeats 4000000 in
set_option maxRecDepth 100000 in
theorem cC_isRegister {l : Launch} {D : va_G} {b : Nat} {A : Nat → Nat} {Sh : mS} {S : mI} {G : mP} (k : Int32) : rMet l D b yX10_isRegister cX10_isRegister 1 (some .boolean) (mR 0) A Sh S G [.int k] (rPi A Sh (if 0 ≤ k ∧ k < 8 then 1 else 0) S G) := by
  refine rMet_oz RX10 rfl (by decide) (Nat.le_of_ble_eq_true rfl) ?_
  intro p e s m args below meth c Z hZ X hnm
  refine rJ_iload_n X dX10_isRegister_0 rfl rfl ?_
  refine rJ_if_lt (tgt := 14) X dX10_isRegister_1 (by decide) (fun c1 => ?_) (fun c1 => ?_)
  · refine rJ_iconst (v := 0) X dX10_isRegister_14 (by decide) ?_
    exact rJ_zretZ hZ X dX10_isRegister_15 rfl ⟨by clear X hZ; grind, rfl, rfl, rfl, rfl⟩
  · refine rJ_iload_n X dX10_isRegister_4 rfl rfl ?_
    refine rJ_bipush (v := 8) X dX10_isRegister_5 (by decide) ?_
    refine rJ_icmp_ge (tgt := 14) X dX10_isRegister_7 (by decide) (fun c2 => ?_) (fun c2 => ?_)
    · refine rJ_iconst (v := 0) X dX10_isRegister_14 (by decide) ?_
      exact rJ_zretZ hZ X dX10_isRegister_15 rfl ⟨by clear X hZ; grind, rfl, rfl, rfl, rfl⟩
    · refine rJ_iconst (v := 1) X dX10_isRegister_10 (by decide) ?_
      refine rJ_goto (tgt := 15) X dX10_isRegister_11 (by decide) ?_
      exact rJ_zretZ hZ X dX10_isRegister_15 rfl ⟨by clear X hZ; grind, rfl, rfl, rfl, rfl⟩
set_option maxHeartbeats 4000000 in
set_option maxRecDepth 100000 in
theorem cC_isPlace {l : Launch} {D : va_G} {b : Nat} {A : Nat → Nat} {Sh : mS} {S : mI} {G : mP} (k : Int32) : rMet l D b yX10_isPlace cX10_isPlace 1 (some .boolean) (mR 0) A Sh S G [.int k] (rPi A Sh (if 0 ≤ k ∧ k < 64 then 1 else 0) S G) := by
  refine rMet_oz RX10 rfl (by decide) (Nat.le_of_ble_eq_true rfl) ?_
  intro p e s m args below meth c Z hZ X hnm
  refine rJ_iload_n X dX10_isPlace_0 rfl rfl ?_
  refine rJ_if_lt (tgt := 14) X dX10_isPlace_1 (by decide) (fun c1 => ?_) (fun c1 => ?_)
  · refine rJ_iconst (v := 0) X dX10_isPlace_14 (by decide) ?_
    exact rJ_zretZ hZ X dX10_isPlace_15 rfl ⟨by clear X hZ; grind, rfl, rfl, rfl, rfl⟩
  · refine rJ_iload_n X dX10_isPlace_4 rfl rfl ?_
    refine rJ_bipush (v := 64) X dX10_isPlace_5 (by decide) ?_
    refine rJ_icmp_ge (tgt := 14) X dX10_isPlace_7 (by decide) (fun c2 => ?_) (fun c2 => ?_)
    · refine rJ_iconst (v := 0) X dX10_isPlace_14 (by decide) ?_
      exact rJ_zretZ hZ X dX10_isPlace_15 rfl ⟨by clear X hZ; grind, rfl, rfl, rfl, rfl⟩
    · refine rJ_iconst (v := 1) X dX10_isPlace_10 (by decide) ?_
      refine rJ_goto (tgt := 15) X dX10_isPlace_11 (by decide) ?_
      exact rJ_zretZ hZ X dX10_isPlace_15 rfl ⟨by clear X hZ; grind, rfl, rfl, rfl, rfl⟩
set_option maxHeartbeats 4000000 in
set_option maxRecDepth 100000 in
theorem cI_kind {l : Launch} {D : va_G} {b : Nat} {A : Nat → Nat} {Sh : mS} {S : mI} {G : mP} {q : Nat} (hq : Sh q = some (0, 2, 0)) : rMet l D b yX2_kind cX2_kind 1 (some .int) (mR 0) A Sh S G [.ref (A q)] (rPi A Sh (S q 0) S G) := by
  refine rMet_oz RX2 rfl (by decide) (Nat.le_of_ble_eq_true rfl) ?_
  intro p e s m args below meth c Z hZ X hnm
  refine rJ_aload_n X dX2_kind_0 rfl rfl ?_
  refine rJ_getI X fX2_9 hq dX2_kind_1 ?_
  exact rJ_iretZ hZ X dX2_kind_4 ⟨rfl, rfl, rfl, rfl, rfl⟩
set_option maxHeartbeats 4000000 in
set_option maxRecDepth 100000 in
theorem cI_left {l : Launch} {D : va_G} {b : Nat} {A : Nat → Nat} {Sh : mS} {S : mI} {G : mP} {q : Nat} (hq : Sh q = some (0, 2, 0)) : rMet l D b yX2_left cX2_left 1 (some .int) (mR 0) A Sh S G [.ref (A q)] (rPi A Sh (S q 2) S G) := by
  refine rMet_oz RX2 rfl (by decide) (Nat.le_of_ble_eq_true rfl) ?_
  intro p e s m args below meth c Z hZ X hnm
  refine rJ_aload_n X dX2_left_0 rfl rfl ?_
  refine rJ_getI X fX2_18 hq dX2_left_1 ?_
  exact rJ_iretZ hZ X dX2_left_4 ⟨rfl, rfl, rfl, rfl, rfl⟩
set_option maxHeartbeats 4000000 in
set_option maxRecDepth 100000 in
theorem cI_right {l : Launch} {D : va_G} {b : Nat} {A : Nat → Nat} {Sh : mS} {S : mI} {G : mP} {q : Nat} (hq : Sh q = some (0, 2, 0)) : rMet l D b yX2_right cX2_right 1 (some .int) (mR 0) A Sh S G [.ref (A q)] (rPi A Sh (S q 3) S G) := by
  refine rMet_oz RX2 rfl (by decide) (Nat.le_of_ble_eq_true rfl) ?_
  intro p e s m args below meth c Z hZ X hnm
  refine rJ_aload_n X dX2_right_0 rfl rfl ?_
  refine rJ_getI X fX2_21 hq dX2_right_1 ?_
  exact rJ_iretZ hZ X dX2_right_4 ⟨rfl, rfl, rfl, rfl, rfl⟩
set_option maxHeartbeats 4000000 in
set_option maxRecDepth 100000 in
theorem cI_goal {l : Launch} {D : va_G} {b : Nat} {A : Nat → Nat} {Sh : mS} {S : mI} {G : mP} {q : Nat} (hq : Sh q = some (0, 2, 0)) : rMet l D b yX2_goal cX2_goal 1 (some .int) (mR 0) A Sh S G [.ref (A q)] (rPi A Sh (S q 4) S G) := by
  refine rMet_oz RX2 rfl (by decide) (Nat.le_of_ble_eq_true rfl) ?_
  intro p e s m args below meth c Z hZ X hnm
  refine rJ_aload_n X dX2_goal_0 rfl rfl ?_
  refine rJ_getI X fX2_24 hq dX2_goal_1 ?_
  exact rJ_iretZ hZ X dX2_goal_4 ⟨rfl, rfl, rfl, rfl, rfl⟩
set_option maxHeartbeats 4000000 in
set_option maxRecDepth 100000 in
theorem cI_readsLeft {l : Launch} {D : va_G} {b : Nat} {A : Nat → Nat} {Sh : mS} {S : mI} {G : mP} {q : Nat} (hq : Sh q = some (0, 2, 0)) : rMet l D b yX2_readsLeft cX2_readsLeft 1 (some .boolean) (mR 0) A Sh S G [.ref (A q)] (rPi A Sh (if mR1 (S q 0) then 1 else 0) S G) := by
  refine rMet_oz RX2 rfl (by decide) (Nat.le_of_ble_eq_true rfl) ?_
  intro p e s m args below meth c Z hZ X hnm
  refine rJ_aload_n X dX2_readsLeft_0 rfl rfl ?_
  refine rJ_getI X fX2_9 hq dX2_readsLeft_1 ?_
  refine rJ_iconst (v := 2) X dX2_readsLeft_4 (by decide) ?_
  refine rJ_icmp_lt (tgt := 21) X dX2_readsLeft_5 (by decide) (fun c1 => ?_) (fun c1 => ?_)
  · refine rJ_iconst (v := 0) X dX2_readsLeft_21 (by decide) ?_
    exact rJ_zretZ hZ X dX2_readsLeft_22 rfl ⟨by clear X hZ; grind, rfl, rfl, rfl, rfl⟩
  · refine rJ_aload_n X dX2_readsLeft_8 rfl rfl ?_
    refine rJ_getI X fX2_9 hq dX2_readsLeft_9 ?_
    refine rJ_bipush (v := 8) X dX2_readsLeft_12 (by decide) ?_
    refine rJ_icmp_gt (tgt := 21) X dX2_readsLeft_14 (by decide) (fun c2 => ?_) (fun c2 => ?_)
    · refine rJ_iconst (v := 0) X dX2_readsLeft_21 (by decide) ?_
      exact rJ_zretZ hZ X dX2_readsLeft_22 rfl ⟨by clear X hZ; grind, rfl, rfl, rfl, rfl⟩
    · refine rJ_iconst (v := 1) X dX2_readsLeft_17 (by decide) ?_
      refine rJ_goto (tgt := 22) X dX2_readsLeft_18 (by decide) ?_
      exact rJ_zretZ hZ X dX2_readsLeft_22 rfl ⟨by clear X hZ; grind, rfl, rfl, rfl, rfl⟩
set_option maxHeartbeats 4000000 in
set_option maxRecDepth 100000 in
theorem cI_readsRight {l : Launch} {D : va_G} {b : Nat} {A : Nat → Nat} {Sh : mS} {S : mI} {G : mP} {q : Nat} (hq : Sh q = some (0, 2, 0)) : rMet l D b yX2_readsRight cX2_readsRight 1 (some .boolean) (mR 1) A Sh S G [.ref (A q)] (rPi A Sh (if mR1 (S q 0) ∧ ¬ S q 0 = 5 ∧ ¬ S q 0 = 8 then 1 else 0) S G) := by
  refine rMet_oz RX2 rfl (by decide) (Nat.le_of_ble_eq_true rfl) ?_
  intro p e s m args below meth c Z hZ X hnm
  refine rJ_aload_n X dX2_readsRight_0 rfl rfl ?_
  refine rJ_Vi0 X gX2_27 (cI_readsLeft hq) hq dX2_readsRight_1 (by decide) (Nat.le_of_ble_eq_true rfl) ⟨Nat.le_refl _, Nat.le_refl _⟩ ?_
  refine rJ_if_eq (tgt := 28) X dX2_readsRight_4 (by decide) (fun c1 => ?_) (fun c1 => ?_)
  · try replace c1 := z_f c1
    refine rJ_iconst (v := 0) X dX2_readsRight_28 (by decide) ?_
    exact rJ_zretZ hZ X dX2_readsRight_29 rfl ⟨by clear X hZ; grind, rfl, rfl, rfl, rfl⟩
  · try replace c1 := z_t c1
    refine rJ_aload_n X dX2_readsRight_7 rfl rfl ?_
    refine rJ_getI X fX2_9 hq dX2_readsRight_8 ?_
    refine rJ_iconst (v := 5) X dX2_readsRight_11 (by decide) ?_
    refine rJ_icmp_eq (tgt := 28) X dX2_readsRight_12 (by decide) (fun c2 => ?_) (fun c2 => ?_)
    · refine rJ_iconst (v := 0) X dX2_readsRight_28 (by decide) ?_
      exact rJ_zretZ hZ X dX2_readsRight_29 rfl ⟨by clear X hZ; grind, rfl, rfl, rfl, rfl⟩
    · refine rJ_aload_n X dX2_readsRight_15 rfl rfl ?_
      refine rJ_getI X fX2_9 hq dX2_readsRight_16 ?_
      refine rJ_bipush (v := 8) X dX2_readsRight_19 (by decide) ?_
      refine rJ_icmp_eq (tgt := 28) X dX2_readsRight_21 (by decide) (fun c3 => ?_) (fun c3 => ?_)
      · refine rJ_iconst (v := 0) X dX2_readsRight_28 (by decide) ?_
        exact rJ_zretZ hZ X dX2_readsRight_29 rfl ⟨by clear X hZ; grind, rfl, rfl, rfl, rfl⟩
      · refine rJ_iconst (v := 1) X dX2_readsRight_24 (by decide) ?_
        refine rJ_goto (tgt := 29) X dX2_readsRight_25 (by decide) ?_
        exact rJ_zretZ hZ X dX2_readsRight_29 rfl ⟨by clear X hZ; grind, rfl, rfl, rfl, rfl⟩
/-- the target that an instruction keeps -/
def tg (k d : Int32) : Int32 := if 1 ≤ k ∧ k ≤ 5 then d else -1
def iD (k d : Int32) : Prop := (1 ≤ k → k ≤ 5 → 0 ≤ d ∧ d < 8) ∧ (¬ (1 ≤ k ∧ k ≤ 5) → d = -1)
theorem iD.iff {k d : Int32} (h : iD k d) : (1 ≤ k ∧ k ≤ 5) ↔ ¬ d = -1 := by
  constructor
  · intro a e
    have := (h.1 a.1 a.2).1
    rw [e] at this
    exact absurd this (by decide)
  · intro e
    exact Classical.byContradiction (fun q => e (h.2 q))
theorem tg_0 (d : Int32) : tg 0 d = -1 := if_neg (by decide)
theorem iD_tg {k d : Int32} (h : 0 ≤ d ∧ d < 8) : iD k (tg k d) := by
  unfold tg
  by_cases hk : 1 ≤ k ∧ k ≤ 5
  · rw [if_pos hk]; exact ⟨fun _ _ => h, fun q => absurd hk q⟩
  · rw [if_neg hk]; exact ⟨fun a b => absurd ⟨a, b⟩ hk, fun _ => rfl⟩
set_option maxHeartbeats 4000000 in
set_option maxRecDepth 100000 in
theorem cI_commitsRegister {l : Launch} {D : va_G} {b : Nat} {A : Nat → Nat} {Sh : mS} {S : mI} {G : mP} {q : Nat} (hq : Sh q = some (0, 2, 0)) (hI : iD (S q 0) (S q 1)) : rMet l D b yX2_commitsRegister cX2_commitsRegister 1 (some .boolean) (mR 0) A Sh S G [.ref (A q)] (rPi A Sh (if 1 ≤ S q 0 ∧ S q 0 ≤ 5 then 1 else 0) S G) := by
  refine rMet_oz RX2 rfl (by decide) (Nat.le_of_ble_eq_true rfl) ?_
  intro p e s m args below meth c Z hZ X hnm
  refine rJ_aload_n X dX2_commitsRegister_0 rfl rfl ?_
  refine rJ_getI X fX2_15 hq dX2_commitsRegister_1 ?_
  refine rJ_iconst (v := (-1)) X dX2_commitsRegister_4 (by decide) ?_
  refine rJ_icmp_eq (tgt := 12) X dX2_commitsRegister_5 (by decide) (fun c1 => ?_) (fun c1 => ?_)
  · refine rJ_iconst (v := 0) X dX2_commitsRegister_12 (by decide) ?_
    exact rJ_zretZ hZ X dX2_commitsRegister_13 rfl ⟨by clear X hZ; have := hI.iff; grind, rfl, rfl, rfl, rfl⟩
  · refine rJ_iconst (v := 1) X dX2_commitsRegister_8 (by decide) ?_
    refine rJ_goto (tgt := 13) X dX2_commitsRegister_9 (by decide) ?_
    exact rJ_zretZ hZ X dX2_commitsRegister_13 rfl ⟨by clear X hZ; have := hI.iff; grind, rfl, rfl, rfl, rfl⟩
set_option maxHeartbeats 4000000 in
set_option maxRecDepth 100000 in
theorem cI_commitsTo {l : Launch} {D : va_G} {b : Nat} {A : Nat → Nat} {Sh : mS} {S : mI} {G : mP} {q : Nat} (hq : Sh q = some (0, 2, 0)) (k : Int32) : rMet l D b yX2_commitsTo cX2_commitsTo 2 (some .boolean) (mR 1) A Sh S G [.ref (A q), .int k] (rPi A Sh (if S q 1 = k then 1 else 0) S G) := by
  refine rMet_oz RX2 rfl (by decide) (Nat.le_of_ble_eq_true rfl) ?_
  intro p e s m args below meth c Z hZ X hnm
  refine rJ_aload_n X dX2_commitsTo_0 rfl rfl ?_
  refine rJ_getI X fX2_15 hq dX2_commitsTo_1 ?_
  refine rJ_iload_n X dX2_commitsTo_4 rfl rfl ?_
  refine rJ_icmp_ne (tgt := 12) X dX2_commitsTo_5 (by decide) (fun c1 => ?_) (fun c1 => ?_)
  · refine rJ_iconst (v := 0) X dX2_commitsTo_12 (by decide) ?_
    exact rJ_zretZ hZ X dX2_commitsTo_13 rfl ⟨by clear X hZ; grind, rfl, rfl, rfl, rfl⟩
  · refine rJ_iconst (v := 1) X dX2_commitsTo_8 (by decide) ?_
    refine rJ_goto (tgt := 13) X dX2_commitsTo_9 (by decide) ?_
    exact rJ_zretZ hZ X dX2_commitsTo_13 rfl ⟨by clear X hZ; grind, rfl, rfl, rfl, rfl⟩
set_option maxHeartbeats 4000000 in
set_option maxRecDepth 100000 in
theorem cI_commitsAnything {l : Launch} {D : va_G} {b : Nat} {A : Nat → Nat} {Sh : mS} {S : mI} {G : mP} {q : Nat} (hq : Sh q = some (0, 2, 0)) (hI : iD (S q 0) (S q 1)) : rMet l D b yX2_commitsAnything cX2_commitsAnything 1 (some .boolean) (mR 1) A Sh S G [.ref (A q)] (rPi A Sh (if (1 ≤ S q 0 ∧ S q 0 ≤ 5) ∨ S q 0 = 6 ∨ S q 0 = 8 then 1 else 0) S G) := by
  refine rMet_oz RX2 rfl (by decide) (Nat.le_of_ble_eq_true rfl) ?_
  intro p e s m args below meth c Z hZ X hnm
  refine rJ_aload_n X dX2_commitsAnything_0 rfl rfl ?_
  refine rJ_Vi0 X gX2_31 (cI_commitsRegister hq hI) hq dX2_commitsAnything_1 (by decide) (Nat.le_of_ble_eq_true rfl) ⟨Nat.le_refl _, Nat.le_refl _⟩ ?_
  refine rJ_if_ne (tgt := 25) X dX2_commitsAnything_4 (by decide) (fun c1 => ?_) (fun c1 => ?_)
  · try replace c1 := z_t c1
    refine rJ_iconst (v := 1) X dX2_commitsAnything_25 (by decide) ?_
    refine rJ_goto (tgt := 30) X dX2_commitsAnything_26 (by decide) ?_
    exact rJ_zretZ hZ X dX2_commitsAnything_30 rfl ⟨by clear X hZ; grind, rfl, rfl, rfl, rfl⟩
  · try replace c1 := z_f c1
    refine rJ_aload_n X dX2_commitsAnything_7 rfl rfl ?_
    refine rJ_getI X fX2_9 hq dX2_commitsAnything_8 ?_
    refine rJ_bipush (v := 6) X dX2_commitsAnything_11 (by decide) ?_
    refine rJ_icmp_eq (tgt := 25) X dX2_commitsAnything_13 (by decide) (fun c2 => ?_) (fun c2 => ?_)
    · refine rJ_iconst (v := 1) X dX2_commitsAnything_25 (by decide) ?_
      refine rJ_goto (tgt := 30) X dX2_commitsAnything_26 (by decide) ?_
      exact rJ_zretZ hZ X dX2_commitsAnything_30 rfl ⟨by clear X hZ; grind, rfl, rfl, rfl, rfl⟩
    · refine rJ_aload_n X dX2_commitsAnything_16 rfl rfl ?_
      refine rJ_getI X fX2_9 hq dX2_commitsAnything_17 ?_
      refine rJ_bipush (v := 8) X dX2_commitsAnything_20 (by decide) ?_
      refine rJ_icmp_ne (tgt := 29) X dX2_commitsAnything_22 (by decide) (fun c3 => ?_) (fun c3 => ?_)
      · refine rJ_iconst (v := 0) X dX2_commitsAnything_29 (by decide) ?_
        exact rJ_zretZ hZ X dX2_commitsAnything_30 rfl ⟨by clear X hZ; grind, rfl, rfl, rfl, rfl⟩
      · refine rJ_iconst (v := 1) X dX2_commitsAnything_25 (by decide) ?_
        refine rJ_goto (tgt := 30) X dX2_commitsAnything_26 (by decide) ?_
        exact rJ_zretZ hZ X dX2_commitsAnything_30 rfl ⟨by clear X hZ; grind, rfl, rfl, rfl, rfl⟩
set_option maxHeartbeats 4000000 in
set_option maxRecDepth 100000 in
theorem cI_commitKind {l : Launch} {D : va_G} {b : Nat} {A : Nat → Nat} {Sh : mS} {S : mI} {G : mP} {q : Nat} (hq : Sh q = some (0, 2, 0)) : rMet l D b yX2_commitKind cX2_commitKind 1 (some .int) (mR 0) A Sh S G [.ref (A q)] (rPi A Sh (if S q 0 = 6 then 1 else if S q 0 = 8 then 2 else 0) S G) := by
  refine rMet_oz RX2 rfl (by decide) (Nat.le_of_ble_eq_true rfl) ?_
  intro p e s m args below meth c Z hZ X hnm
  refine rJ_aload_n X dX2_commitKind_0 rfl rfl ?_
  refine rJ_getI X fX2_9 hq dX2_commitKind_1 ?_
  refine rJ_bipush (v := 6) X dX2_commitKind_4 (by decide) ?_
  refine rJ_icmp_ne (tgt := 11) X dX2_commitKind_6 (by decide) (fun c1 => ?_) (fun c1 => ?_)
  · refine rJ_aload_n X dX2_commitKind_11 rfl rfl ?_
    refine rJ_getI X fX2_9 hq dX2_commitKind_12 ?_
    refine rJ_bipush (v := 8) X dX2_commitKind_15 (by decide) ?_
    refine rJ_icmp_ne (tgt := 24) X dX2_commitKind_17 (by decide) (fun c2 => ?_) (fun c2 => ?_)
    · refine rJ_iconst (v := 0) X dX2_commitKind_24 (by decide) ?_
      exact rJ_iretZ hZ X dX2_commitKind_25 ⟨by clear X hZ; grind, rfl, rfl, rfl, rfl⟩
    · refine rJ_iconst (v := 2) X dX2_commitKind_20 (by decide) ?_
      refine rJ_goto (tgt := 25) X dX2_commitKind_21 (by decide) ?_
      exact rJ_iretZ hZ X dX2_commitKind_25 ⟨by clear X hZ; grind, rfl, rfl, rfl, rfl⟩
  · refine rJ_iconst (v := 1) X dX2_commitKind_9 (by decide) ?_
    exact rJ_iretZ hZ X dX2_commitKind_10 ⟨by clear X hZ; grind, rfl, rfl, rfl, rfl⟩
theorem fMod64 (x : Int32) : fMod x 64 = x &&& 63 := by
  have e64 : (64 : Int32).toInt = 64 := rfl
  have hd : (x / 64).toInt = x.toInt.tdiv 64 := by
    rw [Int32.toInt_div, e64]
    have h1 := i_lo x
    have h2 := i_hi x
    have h3 := Int.mul_tdiv_add_tmod x.toInt 64
    have h4 := Int.tmod_lt_of_pos x.toInt (show (0 : Int) < 64 by decide)
    have h5 := Int.lt_tmod_of_pos x.toInt (show (0 : Int) < 64 by decide)
    exact Int.bmod_eq_of_le (by omega) (by omega)
  have h1 := i_lo x
  have h2 := i_hi x
  have h3 := Int.mul_tdiv_add_tmod x.toInt 64
  have h4 := Int.tmod_lt_of_pos x.toInt (show (0 : Int) < 64 by decide)
  have h5 := Int.lt_tmod_of_pos x.toInt (show (0 : Int) < 64 by decide)
  have hs : 0 ≤ x.toInt → 0 ≤ x.toInt.tmod 64 := fun h => Int.tmod_nonneg 64 h
  have hs2 : x.toInt ≤ 0 → x.toInt.tmod 64 ≤ 0 := fun h => by
    have h7 : 0 ≤ (-x.toInt).tmod 64 := Int.tmod_nonneg 64 (by omega)
    rw [Int.neg_tmod] at h7
    omega
  have hm : (x / 64 * 64).toInt = x.toInt.tdiv 64 * 64 := by
    rw [Int32.toInt_mul, hd, e64]
    exact Int.bmod_eq_of_le (by omega) (by omega)
  have hr : (x - x / 64 * 64).toInt = x.toInt.tmod 64 := by
    rw [i_sub (by rw [hm]; omega) (by rw [hm]; omega), hm]
    omega
  have hn : x &&& 63 = nI (x.toBitVec.toNat % 64) := pk_and x 6 rfl
  have hb : x.toInt = if 2 * x.toBitVec.toNat < 2 ^ 32 then (x.toBitVec.toNat : Int) else (x.toBitVec.toNat : Int) - (2 ^ 32 : Nat) := BitVec.toInt_eq_toNat_cond x.toBitVec
  have hlt := x.toBitVec.isLt
  have hx : (0 ≤ x ^^^ 64) ↔ 0 ≤ x.toInt := by
    have e : (x ^^^ 64).toBitVec.toNat = x.toBitVec.toNat ^^^ 64 := by simp [Int32.toBitVec_xor, BitVec.toNat_xor]
    have hb2 : (x ^^^ 64).toInt = if 2 * (x ^^^ 64).toBitVec.toNat < 2 ^ 32 then ((x ^^^ 64).toBitVec.toNat : Int) else ((x ^^^ 64).toBitVec.toNat : Int) - (2 ^ 32 : Nat) := BitVec.toInt_eq_toNat_cond (x ^^^ 64).toBitVec
    rw [i_le]
    show 0 ≤ (x ^^^ 64).toInt ↔ _
    rw [hb2, e, hb]
    have h31 : (x.toBitVec.toNat ^^^ 64).testBit 31 = x.toBitVec.toNat.testBit 31 := by
      rw [Nat.testBit_xor, show Nat.testBit 64 31 = false by decide, Bool.xor_false]
    have l1 : (x.toBitVec.toNat ^^^ 64) < 2 ^ 32 := Nat.xor_lt_two_pow hlt (by decide)
    have t1 : (x.toBitVec.toNat ^^^ 64).testBit 31 = decide (2 ^ 31 ≤ x.toBitVec.toNat ^^^ 64) := by
      rw [Nat.testBit_eq_decide_div_mod_eq]
      rw [decide_eq_decide]
      omega
    have t2 : x.toBitVec.toNat.testBit 31 = decide (2 ^ 31 ≤ x.toBitVec.toNat) := by
      rw [Nat.testBit_eq_decide_div_mod_eq]
      rw [decide_eq_decide]
      omega
    rw [t1, t2] at h31
    have h31 : (2 ^ 31 ≤ x.toBitVec.toNat ^^^ 64) ↔ 2 ^ 31 ≤ x.toBitVec.toNat := by simpa using h31
    generalize x.toBitVec.toNat ^^^ 64 = z at l1 h31 ⊢
    split <;> split <;> omega
  rw [i_eq, hn, i_nI (by omega)]
  unfold fMod
  have hz : (x - x / 64 * 64 = 0) ↔ x.toInt.tmod 64 = 0 := by rw [i_eq, hr]; rfl
  by_cases h : ¬ 0 ≤ x ^^^ 64 ∧ ¬ x - x / 64 * 64 = 0
  · rw [if_pos h]
    rw [hx, hz] at h
    rw [i_add (by rw [hr, e64]; omega) (by rw [hr, e64]; omega), hr, e64]
    split at hb <;> omega
  · rw [if_neg h]
    rw [hx, hz] at h
    rw [hr]
    split at hb <;> omega
set_option maxHeartbeats 4000000 in
set_option maxRecDepth 100000 in
theorem cI_placeFrom {l : Launch} {D : va_G} {b : Nat} {A : Nat → Nat} {Sh : mS} {S : mI} {G : mP} {q : Nat} (hq : Sh q = some (0, 2, 0)) (x : Int32) : rMet l D b yX2_placeFrom cX2_placeFrom 2 (some .int) (mR 1) A Sh S G [.ref (A q), .int x] (rPi A Sh ((x + S q 4) &&& 63) S G) := by
  refine rMet_oz RX2 rfl (by decide) (Nat.le_of_ble_eq_true rfl) ?_
  intro p e s m args below meth c Z hZ X hnm
  refine rJ_iload_n X dX2_placeFrom_0 rfl rfl ?_
  refine rJ_aload_n X dX2_placeFrom_1 rfl rfl ?_
  refine rJ_getI X fX2_24 hq dX2_placeFrom_2 ?_
  refine rJ_iadd X dX2_placeFrom_5 ?_
  refine rJ_bipush (v := 64) X dX2_placeFrom_6 (by decide) ?_
  refine rJ_Si2 X gX2_38 (cJ_floorMod _ _ (by decide)) dX2_placeFrom_8 (by decide) (Nat.le_of_ble_eq_true rfl) ⟨Nat.le_refl _, Nat.le_refl _⟩ ?_
  exact rJ_iretZ hZ X dX2_placeFrom_11 ⟨by rw [fMod64], rfl, rfl, rfl, rfl⟩
set_option maxHeartbeats 4000000 in
set_option maxRecDepth 100000 in
theorem cI_commitsWhere {l : Launch} {D : va_G} {b : Nat} {A : Nat → Nat} {Sh : mS} {S : mI} {G : mP} {q : Nat} (hq : Sh q = some (0, 2, 0)) (x : Int32) : rMet l D b yX2_commitsWhere cX2_commitsWhere 2 (some .int) (mR 2) A Sh S G [.ref (A q), .int x] (rPi A Sh (if S q 0 = 6 then (x + S q 4) &&& 63 else if S q 0 = 8 then 0 else S q 1) S G) := by
  refine rMet_oz RX2 rfl (by decide) (Nat.le_of_ble_eq_true rfl) ?_
  intro p e s m args below meth c Z hZ X hnm
  refine rJ_aload_n X dX2_commitsWhere_0 rfl rfl ?_
  refine rJ_getI X fX2_9 hq dX2_commitsWhere_1 ?_
  refine rJ_bipush (v := 6) X dX2_commitsWhere_4 (by decide) ?_
  refine rJ_icmp_ne (tgt := 15) X dX2_commitsWhere_6 (by decide) (fun c1 => ?_) (fun c1 => ?_)
  · refine rJ_aload_n X dX2_commitsWhere_15 rfl rfl ?_
    refine rJ_getI X fX2_9 hq dX2_commitsWhere_16 ?_
    refine rJ_bipush (v := 8) X dX2_commitsWhere_19 (by decide) ?_
    refine rJ_icmp_ne (tgt := 28) X dX2_commitsWhere_21 (by decide) (fun c2 => ?_) (fun c2 => ?_)
    · refine rJ_aload_n X dX2_commitsWhere_28 rfl rfl ?_
      refine rJ_getI X fX2_15 hq dX2_commitsWhere_29 ?_
      exact rJ_iretZ hZ X dX2_commitsWhere_32 ⟨by clear X hZ; grind, rfl, rfl, rfl, rfl⟩
    · refine rJ_iconst (v := 0) X dX2_commitsWhere_24 (by decide) ?_
      refine rJ_goto (tgt := 32) X dX2_commitsWhere_25 (by decide) ?_
      exact rJ_iretZ hZ X dX2_commitsWhere_32 ⟨by clear X hZ; grind, rfl, rfl, rfl, rfl⟩
  · refine rJ_aload_n X dX2_commitsWhere_9 rfl rfl ?_
    refine rJ_iload_n X dX2_commitsWhere_10 rfl rfl ?_
    refine rJ_Vi1 X gX2_34 (cI_placeFrom hq _) hq dX2_commitsWhere_11 (by decide) (Nat.le_of_ble_eq_true rfl) ⟨Nat.le_refl _, Nat.le_refl _⟩ ?_
    exact rJ_iretZ hZ X dX2_commitsWhere_14 ⟨by clear X hZ; grind, rfl, rfl, rfl, rfl⟩
set_option maxHeartbeats 4000000 in
set_option maxRecDepth 100000 in
theorem cI_goesOn {l : Launch} {D : va_G} {b : Nat} {A : Nat → Nat} {Sh : mS} {S : mI} {G : mP} {q : Nat} (hq : Sh q = some (0, 2, 0)) (x y : Int32) : rMet l D b yX2_goesOn cX2_goesOn 3 (some .boolean) (mR 0) A Sh S G [.ref (A q), .int x, .int y] (rPi A Sh (if S q 0 = 9 ∨ (S q 0 = 7 ∧ x = y) then 1 else 0) S G) := by
  refine rMet_oz RX2 rfl (by decide) (Nat.le_of_ble_eq_true rfl) ?_
  intro p e s m args below meth c Z hZ X hnm
  refine rJ_aload_n X dX2_goesOn_0 rfl rfl ?_
  refine rJ_getI X fX2_9 hq dX2_goesOn_1 ?_
  refine rJ_bipush (v := 9) X dX2_goesOn_4 (by decide) ?_
  refine rJ_icmp_eq (tgt := 23) X dX2_goesOn_6 (by decide) (fun c1 => ?_) (fun c1 => ?_)
  · refine rJ_iconst (v := 1) X dX2_goesOn_23 (by decide) ?_
    refine rJ_goto (tgt := 28) X dX2_goesOn_24 (by decide) ?_
    exact rJ_zretZ hZ X dX2_goesOn_28 rfl ⟨by clear X hZ; grind, rfl, rfl, rfl, rfl⟩
  · refine rJ_aload_n X dX2_goesOn_9 rfl rfl ?_
    refine rJ_getI X fX2_9 hq dX2_goesOn_10 ?_
    refine rJ_bipush (v := 7) X dX2_goesOn_13 (by decide) ?_
    refine rJ_icmp_ne (tgt := 27) X dX2_goesOn_15 (by decide) (fun c2 => ?_) (fun c2 => ?_)
    · refine rJ_iconst (v := 0) X dX2_goesOn_27 (by decide) ?_
      exact rJ_zretZ hZ X dX2_goesOn_28 rfl ⟨by clear X hZ; grind, rfl, rfl, rfl, rfl⟩
    · refine rJ_iload_n X dX2_goesOn_18 rfl rfl ?_
      refine rJ_iload_n X dX2_goesOn_19 rfl rfl ?_
      refine rJ_icmp_ne (tgt := 27) X dX2_goesOn_20 (by decide) (fun c3 => ?_) (fun c3 => ?_)
      · refine rJ_iconst (v := 0) X dX2_goesOn_27 (by decide) ?_
        exact rJ_zretZ hZ X dX2_goesOn_28 rfl ⟨by clear X hZ; grind, rfl, rfl, rfl, rfl⟩
      · refine rJ_iconst (v := 1) X dX2_goesOn_23 (by decide) ?_
        refine rJ_goto (tgt := 28) X dX2_goesOn_24 (by decide) ?_
        exact rJ_zretZ hZ X dX2_goesOn_28 rfl ⟨by clear X hZ; grind, rfl, rfl, rfl, rfl⟩
def cWork (k i x y : Int32) : Int32 := if k = 1 then i else if k = 2 then x + y else if k = 3 then x - y else if k = 4 then x * y else if k = 6 then y else if k = 8 then x else 0
theorem cWork_no {k i x y : Int32} (h : k.toInt < 1 ∨ 8 < k.toInt) : cWork k i x y = 0 := by
  have hn : ∀ v : Int32, (1 ≤ v.toInt ∧ v.toInt ≤ 8) → ¬ k = v := fun v hv e => by subst e; omega
  unfold cWork
  rw [if_neg (hn _ (by decide)), if_neg (hn _ (by decide)), if_neg (hn _ (by decide)), if_neg (hn _ (by decide)), if_neg (hn _ (by decide)), if_neg (hn _ (by decide))]
set_option maxHeartbeats 4000000 in
set_option maxRecDepth 100000 in
theorem cI_workedOut {l : Launch} {D : va_G} {b : Nat} {A : Nat → Nat} {Sh : mS} {S : mI} {G : mP} {q : Nat} (hq : Sh q = some (0, 2, 0)) (x y : Int32) : rMet l D b yX2_workedOut cX2_workedOut 3 (some .int) (mR 0) A Sh S G [.ref (A q), .int x, .int y] (rPi A Sh (cWork (S q 0) (S q 4) x y) S G) := by
  refine rMet_oz RX2 rfl (by decide) (Nat.le_of_ble_eq_true rfl) ?_
  intro p e s m args below meth c Z hZ X hnm
  refine rJ_aload_n X dX2_workedOut_0 rfl rfl ?_
  refine rJ_getI X fX2_9 hq dX2_workedOut_1 ?_
  by_cases hr : (S q 0).toInt < 1 ∨ 8 < (S q 0).toInt
  · refine rJ_tabOut (tgt := 73) X dX2_workedOut_4 hr (by decide) ?_
    refine rJ_iconst (v := 0) X dX2_workedOut_73 (by decide) ?_
    exact rJ_iretZ hZ X dX2_workedOut_74 ⟨by rw [cWork_no hr], rfl, rfl, rfl, rfl⟩
  · have hu : S q 0 = 1 ∨ S q 0 = 2 ∨ S q 0 = 3 ∨ S q 0 = 4 ∨ S q 0 = 5 ∨ S q 0 = 6 ∨ S q 0 = 7 ∨ S q 0 = 8 := by
      simp only [i_eq, Int32.reduceToInt]
      omega
    rcases hu with hk | hk | hk | hk | hk | hk | hk | hk
    · refine rJ_as 1 hk ?_
      refine rJ_tabIn (off := 48) (tgt := 52) X dX2_workedOut_4 (by decide) (by decide) rfl (by decide) ?_
      refine rJ_aload_n X dX2_workedOut_52 rfl rfl ?_
      refine rJ_getI X fX2_24 hq dX2_workedOut_53 ?_
      exact rJ_iretZ hZ X dX2_workedOut_56 ⟨by rw [hk]; rfl, rfl, rfl, rfl, rfl⟩
    · refine rJ_as 2 hk ?_
      refine rJ_tabIn (off := 53) (tgt := 57) X dX2_workedOut_4 (by decide) (by decide) rfl (by decide) ?_
      refine rJ_iload_n X dX2_workedOut_57 rfl rfl ?_
      refine rJ_iload_n X dX2_workedOut_58 rfl rfl ?_
      refine rJ_iadd X dX2_workedOut_59 ?_
      exact rJ_iretZ hZ X dX2_workedOut_60 ⟨by rw [hk]; rfl, rfl, rfl, rfl, rfl⟩
    · refine rJ_as 3 hk ?_
      refine rJ_tabIn (off := 57) (tgt := 61) X dX2_workedOut_4 (by decide) (by decide) rfl (by decide) ?_
      refine rJ_iload_n X dX2_workedOut_61 rfl rfl ?_
      refine rJ_iload_n X dX2_workedOut_62 rfl rfl ?_
      refine rJ_isub X dX2_workedOut_63 ?_
      exact rJ_iretZ hZ X dX2_workedOut_64 ⟨by rw [hk]; rfl, rfl, rfl, rfl, rfl⟩
    · refine rJ_as 4 hk ?_
      refine rJ_tabIn (off := 61) (tgt := 65) X dX2_workedOut_4 (by decide) (by decide) rfl (by decide) ?_
      refine rJ_iload_n X dX2_workedOut_65 rfl rfl ?_
      refine rJ_iload_n X dX2_workedOut_66 rfl rfl ?_
      refine rJ_imul X dX2_workedOut_67 ?_
      exact rJ_iretZ hZ X dX2_workedOut_68 ⟨by rw [hk]; rfl, rfl, rfl, rfl, rfl⟩
    · refine rJ_as 5 hk ?_
      refine rJ_tabIn (off := 69) (tgt := 73) X dX2_workedOut_4 (by decide) (by decide) rfl (by decide) ?_
      refine rJ_iconst (v := 0) X dX2_workedOut_73 (by decide) ?_
      exact rJ_iretZ hZ X dX2_workedOut_74 ⟨by rw [hk]; rfl, rfl, rfl, rfl, rfl⟩
    · refine rJ_as 6 hk ?_
      refine rJ_tabIn (off := 65) (tgt := 69) X dX2_workedOut_4 (by decide) (by decide) rfl (by decide) ?_
      refine rJ_iload_n X dX2_workedOut_69 rfl rfl ?_
      exact rJ_iretZ hZ X dX2_workedOut_70 ⟨by rw [hk]; rfl, rfl, rfl, rfl, rfl⟩
    · refine rJ_as 7 hk ?_
      refine rJ_tabIn (off := 69) (tgt := 73) X dX2_workedOut_4 (by decide) (by decide) rfl (by decide) ?_
      refine rJ_iconst (v := 0) X dX2_workedOut_73 (by decide) ?_
      exact rJ_iretZ hZ X dX2_workedOut_74 ⟨by rw [hk]; rfl, rfl, rfl, rfl, rfl⟩
    · refine rJ_as 8 hk ?_
      refine rJ_tabIn (off := 67) (tgt := 71) X dX2_workedOut_4 (by decide) (by decide) rfl (by decide) ?_
      refine rJ_iload_n X dX2_workedOut_71 rfl rfl ?_
      exact rJ_iretZ hZ X dX2_workedOut_72 ⟨by rw [hk]; rfl, rfl, rfl, rfl, rfl⟩
