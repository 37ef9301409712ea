def yS9 : mS := mTn (mTn zS110 100 (0, 11, 0)) 101 (1, 0, 30)
def yG9 : mP := mu (mPn (mPn zG110 100) 101) 100 0 (some 101)
theorem yc9 : gcl yS9 yG9 := (((zc110.new 100 (0, 11, 0)).new 101 (1, 0, 30))).put 100 0 (by exact Option.some_ne_none _)
def yI9 : mI := mIn (mIn zI110 100) 101
def yS14 : mS := yS9
def yG14 : mP := yG9
theorem yc14 : gcl yS14 yG14 := yc9
def yI14 : mI := mu yI9 100 2 4
def yS51 : mS := mTn yS14 104 (1, 0, 7)
def yG51 : mP := mu (mPn yG14 104) 100 3 (some 104)
theorem yc51 : gcl yS51 yG51 := ((yc14.new 104 (1, 0, 7))).put 100 3 (by exact Option.some_ne_none _)
def yI51 : mI := mu (mu (mu (mu (mu (mu (mu (mIn yI14 104) 104 0 0) 104 1 0) 104 2 1) 104 3 1) 104 4 1) 104 5 2) 104 6 3
def yS56 : mS := yS51
def yG56 : mP := yG51
theorem yc56 : gcl yS56 yG56 := yc51
def yI56 : mI := mu yI51 100 4 (-1)
def yS64 : mS := mTn yS56 106 (1, 0, 40)
def yG64 : mP := mu (mPn yG56 106) 100 5 (some 106)
theorem yc64 : gcl yS64 yG64 := ((yc56.new 106 (1, 0, 40))).put 100 5 (by exact Option.some_ne_none _)
def yI64 : mI := mIn yI56 106
def yS72 : mS := mTn yS64 107 (1, 0, 40)
def yG72 : mP := mu (mPn yG64 107) 100 6 (some 107)
theorem yc72 : gcl yS72 yG72 := ((yc64.new 107 (1, 0, 40))).put 100 6 (by exact Option.some_ne_none _)
def yI72 : mI := mIn yI64 107
def yS80 : mS := mTn yS72 108 (1, 0, 40)
def yG80 : mP := mu (mPn yG72 108) 100 7 (some 108)
theorem yc80 : gcl yS80 yG80 := ((yc72.new 108 (1, 0, 40))).put 100 7 (by exact Option.some_ne_none _)
def yI80 : mI := mIn yI72 108
def yS88 : mS := mTn yS80 109 (1, 0, 40)
def yG88 : mP := mu (mPn yG80 109) 100 8 (some 109)
theorem yc88 : gcl yS88 yG88 := ((yc80.new 109 (1, 0, 40))).put 100 8 (by exact Option.some_ne_none _)
def yI88 : mI := mIn yI80 109
def yS96 : mS := mTn yS88 110 (1, 0, 40)
def yG96 : mP := mu (mPn yG88 110) 100 9 (some 110)
theorem yc96 : gcl yS96 yG96 := ((yc88.new 110 (1, 0, 40))).put 100 9 (by exact Option.some_ne_none _)
def yI96 : mI := mIn yI88 110
def yS104 : mS := mTn yS96 112 (1, 0, 64)
def yG104 : mP := mu (mPn yG96 112) 100 11 (some 112)
theorem yc104 : gcl yS104 yG104 := ((yc96.new 112 (1, 0, 64))).put 100 11 (by exact Option.some_ne_none _)
def yI104 : mI := mIn yI96 112
def yS146 : mS := mTn yS104 113 (1, 0, 8)
def yG146 : mP := mu (mPn yG104 113) 100 12 (some 113)
theorem yc146 : gcl yS146 yG146 := ((yc104.new 113 (1, 0, 8))).put 100 12 (by exact Option.some_ne_none _)
def yI146 : mI := mu (mu (mu (mu (mu (mu (mu (mu (mIn yI104 113) 113 0 1) 113 1 1) 113 2 1) 113 3 1) 113 4 1) 113 5 1) 113 6 1) 113 7 1
def yS154 : mS := mTn yS146 114 (1, 0, 8)
def yG154 : mP := mu (mPn yG146 114) 100 13 (some 114)
theorem yc154 : gcl yS154 yG154 := ((yc146.new 114 (1, 0, 8))).put 100 13 (by exact Option.some_ne_none _)
def yI154 : mI := mIn yI146 114
def yS162 : mS := mTn yS154 115 (2, 0, 8)
def yG162 : mP := mu (mPn yG154 115) 100 14 (some 115)
theorem yc162 : gcl yS162 yG162 := ((yc154.new 115 (2, 0, 8))).put 100 14 (by exact Option.some_ne_none _)
def yI162 : mI := mIn yI154 115
def yS170 : mS := mTn yS162 116 (1, 0, 8)
def yG170 : mP := mu (mPn yG162 116) 100 15 (some 116)
theorem yc170 : gcl yS170 yG170 := ((yc162.new 116 (1, 0, 8))).put 100 15 (by exact Option.some_ne_none _)
def yI170 : mI := mIn yI162 116
def yS178 : mS := mTn yS170 117 (1, 0, 8)
def yG178 : mP := mu (mPn yG170 117) 100 16 (some 117)
theorem yc178 : gcl yS178 yG178 := ((yc170.new 117 (1, 0, 8))).put 100 16 (by exact Option.some_ne_none _)
def yI178 : mI := mIn yI170 117
def yS186 : mS := mTn yS178 118 (1, 0, 8)
def yG186 : mP := mu (mPn yG178 118) 100 17 (some 118)
theorem yc186 : gcl yS186 yG186 := ((yc178.new 118 (1, 0, 8))).put 100 17 (by exact Option.some_ne_none _)
def yI186 : mI := mIn yI178 118
def yS194 : mS := mTn yS186 119 (1, 0, 8)
def yG194 : mP := mu (mPn yG186 119) 100 18 (some 119)
theorem yc194 : gcl yS194 yG194 := ((yc186.new 119 (1, 0, 8))).put 100 18 (by exact Option.some_ne_none _)
def yI194 : mI := mIn yI186 119
def yS202 : mS := mTn yS194 120 (1, 0, 8)
def yG202 : mP := mu (mPn yG194 120) 100 19 (some 120)
theorem yc202 : gcl yS202 yG202 := ((yc194.new 120 (1, 0, 8))).put 100 19 (by exact Option.some_ne_none _)
def yI202 : mI := mIn yI194 120
def yS210 : mS := mTn yS202 125 (1, 0, 8)
def yG210 : mP := mu (mPn yG202 125) 100 24 (some 125)
theorem yc210 : gcl yS210 yG210 := ((yc202.new 125 (1, 0, 8))).put 100 24 (by exact Option.some_ne_none _)
def yI210 : mI := mIn yI202 125
def yS218 : mS := mTn yS210 126 (1, 0, 8)
def yG218 : mP := mu (mPn yG210 126) 100 25 (some 126)
theorem yc218 : gcl yS218 yG218 := ((yc210.new 126 (1, 0, 8))).put 100 25 (by exact Option.some_ne_none _)
def yI218 : mI := mIn yI210 126
def yS226 : mS := mTn yS218 127 (1, 0, 64)
def yG226 : mP := mu (mPn yG218 127) 100 26 (some 127)
theorem yc226 : gcl yS226 yG226 := ((yc218.new 127 (1, 0, 64))).put 100 26 (by exact Option.some_ne_none _)
def yI226 : mI := mIn yI218 127
def yS235 : mS := mTn yS226 129 (1, 0, 1000)
def yG235 : mP := mu (mPn yG226 129) 100 28 (some 129)
theorem yc235 : gcl yS235 yG235 := ((yc226.new 129 (1, 0, 1000))).put 100 28 (by exact Option.some_ne_none _)
def yI235 : mI := mIn yI226 129
def yS244 : mS := mTn yS235 130 (1, 0, 1000)
def yG244 : mP := mu (mPn yG235 130) 100 29 (some 130)
theorem yc244 : gcl yS244 yG244 := ((yc235.new 130 (1, 0, 1000))).put 100 29 (by exact Option.some_ne_none _)
def yI244 : mI := mIn yI235 130
def yS253 : mS := mTn yS244 131 (1, 0, 1000)
def yG253 : mP := mu (mPn yG244 131) 100 30 (some 131)
theorem yc253 : gcl yS253 yG253 := ((yc244.new 131 (1, 0, 1000))).put 100 30 (by exact Option.some_ne_none _)
def yI253 : mI := mIn yI244 131
def yS262 : mS := mTn yS253 132 (1, 0, 1000)
def yG262 : mP := mu (mPn yG253 132) 100 31 (some 132)
theorem yc262 : gcl yS262 yG262 := ((yc253.new 132 (1, 0, 1000))).put 100 31 (by exact Option.some_ne_none _)
def yI262 : mI := mIn yI253 132
def yS270 : mS := mTn yS262 134 (1, 0, 7)
def yG270 : mP := mu (mPn yG262 134) 100 33 (some 134)
theorem yc270 : gcl yS270 yG270 := ((yc262.new 134 (1, 0, 7))).put 100 33 (by exact Option.some_ne_none _)
def yI270 : mI := mIn yI262 134
def yS278 : mS := mTn yS270 135 (1, 0, 8)
def yG278 : mP := mu (mPn yG270 135) 100 34 (some 135)
theorem yc278 : gcl yS278 yG278 := ((yc270.new 135 (1, 0, 8))).put 100 34 (by exact Option.some_ne_none _)
def yI278 : mI := mIn yI270 135
def yS286 : mS := mTn yS278 136 (1, 0, 64)
def yG286 : mP := mu (mPn yG278 136) 100 35 (some 136)
theorem yc286 : gcl yS286 yG286 := ((yc278.new 136 (1, 0, 64))).put 100 35 (by exact Option.some_ne_none _)
def yI286 : mI := mIn yI278 136
theorem shM_lt {r : Nat} {sh : Nat × Nat × Nat} (h : shM r = some sh) : r < 137 := by
  rcases Nat.lt_or_ge r 137 with h1 | h1
  · exact h1
  · exfalso
    unfold shM at h
    have : Nat.blt r 100 = false := by rw [← Bool.not_eq_true, Nat.blt_eq]; omega
    rw [this] at h
    simp only [cond_false] at h
    rw [List.getD_eq_getElem?_getD, List.getElem?_eq_none (by show 37 ≤ r - 100; omega)] at h
    cases h
theorem gM_lt {k q : Nat} (h : gM k = some q) : k < 36 := by
  rcases Nat.lt_or_ge k 36 with h1 | h1
  · exact h1
  · exfalso
    unfold gM at h
    rw [List.getD_eq_getElem?_getD, List.getElem?_eq_none (by show 36 ≤ k; omega)] at h
    cases h
theorem y_okM : okM yS286 yG286 := by
  refine ⟨fun r sh h => ?_, fun k q h => ?_⟩
  · have hd : ∀ r, r < 137 → shM r = none ∨ yS286 r = shM r := by decide +kernel
    rcases hd r (shM_lt h) with e | e
    · rw [e] at h; cases h
    · rw [e]; exact h
  · have hd : ∀ k, k < 36 → gM k = none ∨ yG286 100 k = gM k := by decide +kernel
    rcases hd k (gM_lt h) with e | e
    · rw [e] at h; cases h
    · rw [e]; exact h
set_option maxHeartbeats 4000000 in
set_option maxRecDepth 100000 in
theorem cM_init {l : Launch} {D : va_G} {b : Nat} {A : Nat → Nat}  : rMet l D b yX11_init cX11_init 1 none (mRA 1 26 4524) A (mTn zS110 100 (0, 11, 0)) (mIn zI110 100) (mPn zG110 100) [.ref (A 100)] (fun v A' Sh' S' G' => v = none ∧ A' 100 = A 100 ∧ A' 0 = A 0 ∧ Sh' = yS286 ∧ S' = mAnew yI286 ∧ G' = yG286) := by
  refine rMet_oz RX11 rfl (by decide) (Nat.le_of_ble_eq_true rfl) ?_
  intro p e s m args below meth c Z hZ X hnm
  refine rJ_aload_n X dX11_init_0 rfl rfl ?_
  refine rJ_objInit X koX11_1 koI koC dX11_init_1 (Nat.le_of_ble_eq_true rfl) (Nat.le_of_ble_eq_true rfl) ?_
  refine rJ_aload_n X dX11_init_4 rfl rfl ?_
  refine rJ_bipush (v := 30) X dX11_init_5 (by decide) ?_
  refine rJ_newa (N := 30) X 101 (by decide) (by decide) (by decide) (Nat.le_of_ble_eq_true rfl) (Nat.le_of_ble_eq_true rfl) dX11_init_7 rfl ((zc110.new 100 (0, 11, 0)).no rfl) (fun a7 A7 hA7 _ => ?_)
  rw [show A 100 = A7 100 from by rw [hA7]; exact (if_neg (by omega)).symm]
  refine rJ_setR X fX11_7 (Or.inr hnm) (by rfl) dX11_init_9 (fun G9 hG9 => ?_)
  refine rJ_nm (Sh' := yS9) (S' := yI9) (G' := yG9) rfl (rfl) (by rw [hG9]; rfl) ?_
  refine rJ_aload_n X dX11_init_12 rfl rfl ?_
  refine rJ_iconst (v := 4) X dX11_init_13 (by decide) ?_
  refine rJ_setI X fX11_13 (Or.inr hnm) (by rfl) ⟨rfl, rfl⟩ dX11_init_14 (fun S14 hS14 => ?_)
  refine rJ_nm (Sh' := yS14) (S' := yI14) (G' := yG14) rfl (by rw [hS14]; rfl) rfl ?_
  refine rJ_aload_n X dX11_init_17 rfl rfl ?_
  refine rJ_bipush (v := 7) X dX11_init_18 (by decide) ?_
  refine rJ_newa (N := 7) X 104 (by decide) (by decide) (by decide) (Nat.le_of_ble_eq_true rfl) (Nat.le_of_ble_eq_true rfl) dX11_init_20 rfl (yc14.no rfl) (fun a20 A20 hA20 _ => ?_)
  rw [show A7 100 = A20 100 from by rw [hA20]; exact (if_neg (by omega)).symm]
  refine rJ_dup X dX11_init_22 rfl ?_
  refine rJ_iconst (v := 0) X dX11_init_23 (by decide) ?_
  refine rJ_iconst (v := 0) X dX11_init_24 (by decide) ?_
  refine rJ_iastK (k := 0) X (by decide) (n := 7) ⟨by decide, by decide⟩ (by rfl) dX11_init_25 (fun S25 hS25 => ?_)
  refine rJ_dup X dX11_init_26 rfl ?_
  refine rJ_iconst (v := 1) X dX11_init_27 (by decide) ?_
  refine rJ_iconst (v := 0) X dX11_init_28 (by decide) ?_
  refine rJ_iastK (k := 1) X (by decide) (n := 7) ⟨by decide, by decide⟩ (by rfl) dX11_init_29 (fun S29 hS29 => ?_)
  refine rJ_dup X dX11_init_30 rfl ?_
  refine rJ_iconst (v := 2) X dX11_init_31 (by decide) ?_
  refine rJ_iconst (v := 1) X dX11_init_32 (by decide) ?_
  refine rJ_iastK (k := 2) X (by decide) (n := 7) ⟨by decide, by decide⟩ (by rfl) dX11_init_33 (fun S33 hS33 => ?_)
  refine rJ_dup X dX11_init_34 rfl ?_
  refine rJ_iconst (v := 3) X dX11_init_35 (by decide) ?_
  refine rJ_iconst (v := 1) X dX11_init_36 (by decide) ?_
  refine rJ_iastK (k := 3) X (by decide) (n := 7) ⟨by decide, by decide⟩ (by rfl) dX11_init_37 (fun S37 hS37 => ?_)
  refine rJ_dup X dX11_init_38 rfl ?_
  refine rJ_iconst (v := 4) X dX11_init_39 (by decide) ?_
  refine rJ_iconst (v := 1) X dX11_init_40 (by decide) ?_
  refine rJ_iastK (k := 4) X (by decide) (n := 7) ⟨by decide, by decide⟩ (by rfl) dX11_init_41 (fun S41 hS41 => ?_)
  refine rJ_dup X dX11_init_42 rfl ?_
  refine rJ_iconst (v := 5) X dX11_init_43 (by decide) ?_
  refine rJ_iconst (v := 2) X dX11_init_44 (by decide) ?_
  refine rJ_iastK (k := 5) X (by decide) (n := 7) ⟨by decide, by decide⟩ (by rfl) dX11_init_45 (fun S45 hS45 => ?_)
  refine rJ_dup X dX11_init_46 rfl ?_
  refine rJ_bipush (v := 6) X dX11_init_47 (by decide) ?_
  refine rJ_iconst (v := 3) X dX11_init_49 (by decide) ?_
  refine rJ_iastK (k := 6) X (by decide) (n := 7) ⟨by decide, by decide⟩ (by rfl) dX11_init_50 (fun S50 hS50 => ?_)
  refine rJ_setR X fX11_17 (Or.inr hnm) (by rfl) dX11_init_51 (fun G51 hG51 => ?_)
  refine rJ_nm (Sh' := yS51) (S' := yI51) (G' := yG51) rfl (by rw [hS50, hS45, hS41, hS37, hS33, hS29, hS25]; rfl) (by rw [hG51]; rfl) ?_
  refine rJ_aload_n X dX11_init_54 rfl rfl ?_
  refine rJ_iconst (v := (-1)) X dX11_init_55 (by decide) ?_
  refine rJ_setI X fX11_20 (Or.inr hnm) (by rfl) ⟨rfl, rfl⟩ dX11_init_56 (fun S56 hS56 => ?_)
  refine rJ_nm (Sh' := yS56) (S' := yI56) (G' := yG56) rfl (by rw [hS56]; rfl) rfl ?_
  refine rJ_aload_n X dX11_init_59 rfl rfl ?_
  refine rJ_bipush (v := 40) X dX11_init_60 (by decide) ?_
  refine rJ_newa (N := 40) X 106 (by decide) (by decide) (by decide) (Nat.le_of_ble_eq_true rfl) (Nat.le_of_ble_eq_true rfl) dX11_init_62 rfl (yc56.no rfl) (fun a62 A62 hA62 _ => ?_)
  rw [show A20 100 = A62 100 from by rw [hA62]; exact (if_neg (by omega)).symm]
  refine rJ_setR X fX11_23 (Or.inr hnm) (by rfl) dX11_init_64 (fun G64 hG64 => ?_)
  refine rJ_nm (Sh' := yS64) (S' := yI64) (G' := yG64) rfl (rfl) (by rw [hG64]; rfl) ?_
  refine rJ_aload_n X dX11_init_67 rfl rfl ?_
  refine rJ_bipush (v := 40) X dX11_init_68 (by decide) ?_
  refine rJ_newa (N := 40) X 107 (by decide) (by decide) (by decide) (Nat.le_of_ble_eq_true rfl) (Nat.le_of_ble_eq_true rfl) dX11_init_70 rfl (yc64.no rfl) (fun a70 A70 hA70 _ => ?_)
  rw [show A62 100 = A70 100 from by rw [hA70]; exact (if_neg (by omega)).symm]
  refine rJ_setR X fX11_26 (Or.inr hnm) (by rfl) dX11_init_72 (fun G72 hG72 => ?_)
  refine rJ_nm (Sh' := yS72) (S' := yI72) (G' := yG72) rfl (rfl) (by rw [hG72]; rfl) ?_
  refine rJ_aload_n X dX11_init_75 rfl rfl ?_
  refine rJ_bipush (v := 40) X dX11_init_76 (by decide) ?_
  refine rJ_newa (N := 40) X 108 (by decide) (by decide) (by decide) (Nat.le_of_ble_eq_true rfl) (Nat.le_of_ble_eq_true rfl) dX11_init_78 rfl (yc72.no rfl) (fun a78 A78 hA78 _ => ?_)
  rw [show A70 100 = A78 100 from by rw [hA78]; exact (if_neg (by omega)).symm]
  refine rJ_setR X fX11_29 (Or.inr hnm) (by rfl) dX11_init_80 (fun G80 hG80 => ?_)
  refine rJ_nm (Sh' := yS80) (S' := yI80) (G' := yG80) rfl (rfl) (by rw [hG80]; rfl) ?_
  refine rJ_aload_n X dX11_init_83 rfl rfl ?_
  refine rJ_bipush (v := 40) X dX11_init_84 (by decide) ?_
  refine rJ_newa (N := 40) X 109 (by decide) (by decide) (by decide) (Nat.le_of_ble_eq_true rfl) (Nat.le_of_ble_eq_true rfl) dX11_init_86 rfl (yc80.no rfl) (fun a86 A86 hA86 _ => ?_)
  rw [show A78 100 = A86 100 from by rw [hA86]; exact (if_neg (by omega)).symm]
  refine rJ_setR X fX11_32 (Or.inr hnm) (by rfl) dX11_init_88 (fun G88 hG88 => ?_)
  refine rJ_nm (Sh' := yS88) (S' := yI88) (G' := yG88) rfl (rfl) (by rw [hG88]; rfl) ?_
  refine rJ_aload_n X dX11_init_91 rfl rfl ?_
  refine rJ_bipush (v := 40) X dX11_init_92 (by decide) ?_
  refine rJ_newa (N := 40) X 110 (by decide) (by decide) (by decide) (Nat.le_of_ble_eq_true rfl) (Nat.le_of_ble_eq_true rfl) dX11_init_94 rfl (yc88.no rfl) (fun a94 A94 hA94 _ => ?_)
  rw [show A86 100 = A94 100 from by rw [hA94]; exact (if_neg (by omega)).symm]
  refine rJ_setR X fX11_35 (Or.inr hnm) (by rfl) dX11_init_96 (fun G96 hG96 => ?_)
  refine rJ_nm (Sh' := yS96) (S' := yI96) (G' := yG96) rfl (rfl) (by rw [hG96]; rfl) ?_
  refine rJ_aload_n X dX11_init_99 rfl rfl ?_
  refine rJ_bipush (v := 64) X dX11_init_100 (by decide) ?_
  refine rJ_newa (N := 64) X 112 (by decide) (by decide) (by decide) (Nat.le_of_ble_eq_true rfl) (Nat.le_of_ble_eq_true rfl) dX11_init_102 rfl (yc96.no rfl) (fun a102 A102 hA102 _ => ?_)
  rw [show A94 100 = A102 100 from by rw [hA102]; exact (if_neg (by omega)).symm]
  refine rJ_setR X fX11_38 (Or.inr hnm) (by rfl) dX11_init_104 (fun G104 hG104 => ?_)
  refine rJ_nm (Sh' := yS104) (S' := yI104) (G' := yG104) rfl (rfl) (by rw [hG104]; rfl) ?_
  refine rJ_aload_n X dX11_init_107 rfl rfl ?_
  refine rJ_bipush (v := 8) X dX11_init_108 (by decide) ?_
  refine rJ_newa (N := 8) X 113 (by decide) (by decide) (by decide) (Nat.le_of_ble_eq_true rfl) (Nat.le_of_ble_eq_true rfl) dX11_init_110 rfl (yc104.no rfl) (fun a110 A110 hA110 _ => ?_)
  rw [show A102 100 = A110 100 from by rw [hA110]; exact (if_neg (by omega)).symm]
  refine rJ_dup X dX11_init_112 rfl ?_
  refine rJ_iconst (v := 0) X dX11_init_113 (by decide) ?_
  refine rJ_iconst (v := 1) X dX11_init_114 (by decide) ?_
  refine rJ_iastK (k := 0) X (by decide) (n := 8) ⟨by decide, by decide⟩ (by rfl) dX11_init_115 (fun S115 hS115 => ?_)
  refine rJ_dup X dX11_init_116 rfl ?_
  refine rJ_iconst (v := 1) X dX11_init_117 (by decide) ?_
  refine rJ_iconst (v := 1) X dX11_init_118 (by decide) ?_
  refine rJ_iastK (k := 1) X (by decide) (n := 8) ⟨by decide, by decide⟩ (by rfl) dX11_init_119 (fun S119 hS119 => ?_)
  refine rJ_dup X dX11_init_120 rfl ?_
  refine rJ_iconst (v := 2) X dX11_init_121 (by decide) ?_
  refine rJ_iconst (v := 1) X dX11_init_122 (by decide) ?_
  refine rJ_iastK (k := 2) X (by decide) (n := 8) ⟨by decide, by decide⟩ (by rfl) dX11_init_123 (fun S123 hS123 => ?_)
  refine rJ_dup X dX11_init_124 rfl ?_
  refine rJ_iconst (v := 3) X dX11_init_125 (by decide) ?_
  refine rJ_iconst (v := 1) X dX11_init_126 (by decide) ?_
  refine rJ_iastK (k := 3) X (by decide) (n := 8) ⟨by decide, by decide⟩ (by rfl) dX11_init_127 (fun S127 hS127 => ?_)
  refine rJ_dup X dX11_init_128 rfl ?_
  refine rJ_iconst (v := 4) X dX11_init_129 (by decide) ?_
  refine rJ_iconst (v := 1) X dX11_init_130 (by decide) ?_
  refine rJ_iastK (k := 4) X (by decide) (n := 8) ⟨by decide, by decide⟩ (by rfl) dX11_init_131 (fun S131 hS131 => ?_)
  refine rJ_dup X dX11_init_132 rfl ?_
  refine rJ_iconst (v := 5) X dX11_init_133 (by decide) ?_
  refine rJ_iconst (v := 1) X dX11_init_134 (by decide) ?_
  refine rJ_iastK (k := 5) X (by decide) (n := 8) ⟨by decide, by decide⟩ (by rfl) dX11_init_135 (fun S135 hS135 => ?_)
  refine rJ_dup X dX11_init_136 rfl ?_
  refine rJ_bipush (v := 6) X dX11_init_137 (by decide) ?_
  refine rJ_iconst (v := 1) X dX11_init_139 (by decide) ?_
  refine rJ_iastK (k := 6) X (by decide) (n := 8) ⟨by decide, by decide⟩ (by rfl) dX11_init_140 (fun S140 hS140 => ?_)
  refine rJ_dup X dX11_init_141 rfl ?_
  refine rJ_bipush (v := 7) X dX11_init_142 (by decide) ?_
  refine rJ_iconst (v := 1) X dX11_init_144 (by decide) ?_
  refine rJ_iastK (k := 7) X (by decide) (n := 8) ⟨by decide, by decide⟩ (by rfl) dX11_init_145 (fun S145 hS145 => ?_)
  refine rJ_setR X fX11_41 (Or.inr hnm) (by rfl) dX11_init_146 (fun G146 hG146 => ?_)
  refine rJ_nm (Sh' := yS146) (S' := yI146) (G' := yG146) rfl (by rw [hS145, hS140, hS135, hS131, hS127, hS123, hS119, hS115]; rfl) (by rw [hG146]; rfl) ?_
  refine rJ_aload_n X dX11_init_149 rfl rfl ?_
  refine rJ_bipush (v := 8) X dX11_init_150 (by decide) ?_
  refine rJ_newa (N := 8) X 114 (by decide) (by decide) (by decide) (Nat.le_of_ble_eq_true rfl) (Nat.le_of_ble_eq_true rfl) dX11_init_152 rfl (yc146.no rfl) (fun a152 A152 hA152 _ => ?_)
  rw [show A110 100 = A152 100 from by rw [hA152]; exact (if_neg (by omega)).symm]
  refine rJ_setR X fX11_44 (Or.inr hnm) (by rfl) dX11_init_154 (fun G154 hG154 => ?_)
  refine rJ_nm (Sh' := yS154) (S' := yI154) (G' := yG154) rfl (rfl) (by rw [hG154]; rfl) ?_
  refine rJ_aload_n X dX11_init_157 rfl rfl ?_
  refine rJ_bipush (v := 8) X dX11_init_158 (by decide) ?_
  refine rJ_newz (N := 8) X 115 (by decide) (by decide) (by decide) (Nat.le_of_ble_eq_true rfl) (Nat.le_of_ble_eq_true rfl) dX11_init_160 rfl (yc154.no rfl) (fun a160 A160 hA160 _ => ?_)
  rw [show A152 100 = A160 100 from by rw [hA160]; exact (if_neg (by omega)).symm]
  refine rJ_setR X fX11_47 (Or.inr hnm) (by rfl) dX11_init_162 (fun G162 hG162 => ?_)
  refine rJ_nm (Sh' := yS162) (S' := yI162) (G' := yG162) rfl (rfl) (by rw [hG162]; rfl) ?_
  refine rJ_aload_n X dX11_init_165 rfl rfl ?_
  refine rJ_bipush (v := 8) X dX11_init_166 (by decide) ?_
  refine rJ_newa (N := 8) X 116 (by decide) (by decide) (by decide) (Nat.le_of_ble_eq_true rfl) (Nat.le_of_ble_eq_true rfl) dX11_init_168 rfl (yc162.no rfl) (fun a168 A168 hA168 _ => ?_)
  rw [show A160 100 = A168 100 from by rw [hA168]; exact (if_neg (by omega)).symm]
  refine rJ_setR X fX11_51 (Or.inr hnm) (by rfl) dX11_init_170 (fun G170 hG170 => ?_)
  refine rJ_nm (Sh' := yS170) (S' := yI170) (G' := yG170) rfl (rfl) (by rw [hG170]; rfl) ?_
  refine rJ_aload_n X dX11_init_173 rfl rfl ?_
  refine rJ_bipush (v := 8) X dX11_init_174 (by decide) ?_
  refine rJ_newa (N := 8) X 117 (by decide) (by decide) (by decide) (Nat.le_of_ble_eq_true rfl) (Nat.le_of_ble_eq_true rfl) dX11_init_176 rfl (yc170.no rfl) (fun a176 A176 hA176 _ => ?_)
  rw [show A168 100 = A176 100 from by rw [hA176]; exact (if_neg (by omega)).symm]
  refine rJ_setR X fX11_54 (Or.inr hnm) (by rfl) dX11_init_178 (fun G178 hG178 => ?_)
  refine rJ_nm (Sh' := yS178) (S' := yI178) (G' := yG178) rfl (rfl) (by rw [hG178]; rfl) ?_
  refine rJ_aload_n X dX11_init_181 rfl rfl ?_
  refine rJ_bipush (v := 8) X dX11_init_182 (by decide) ?_
  refine rJ_newa (N := 8) X 118 (by decide) (by decide) (by decide) (Nat.le_of_ble_eq_true rfl) (Nat.le_of_ble_eq_true rfl) dX11_init_184 rfl (yc178.no rfl) (fun a184 A184 hA184 _ => ?_)
  rw [show A176 100 = A184 100 from by rw [hA184]; exact (if_neg (by omega)).symm]
  refine rJ_setR X fX11_57 (Or.inr hnm) (by rfl) dX11_init_186 (fun G186 hG186 => ?_)
  refine rJ_nm (Sh' := yS186) (S' := yI186) (G' := yG186) rfl (rfl) (by rw [hG186]; rfl) ?_
  refine rJ_aload_n X dX11_init_189 rfl rfl ?_
  refine rJ_bipush (v := 8) X dX11_init_190 (by decide) ?_
  refine rJ_newa (N := 8) X 119 (by decide) (by decide) (by decide) (Nat.le_of_ble_eq_true rfl) (Nat.le_of_ble_eq_true rfl) dX11_init_192 rfl (yc186.no rfl) (fun a192 A192 hA192 _ => ?_)
  rw [show A184 100 = A192 100 from by rw [hA192]; exact (if_neg (by omega)).symm]
  refine rJ_setR X fX11_60 (Or.inr hnm) (by rfl) dX11_init_194 (fun G194 hG194 => ?_)
  refine rJ_nm (Sh' := yS194) (S' := yI194) (G' := yG194) rfl (rfl) (by rw [hG194]; rfl) ?_
  refine rJ_aload_n X dX11_init_197 rfl rfl ?_
  refine rJ_bipush (v := 8) X dX11_init_198 (by decide) ?_
  refine rJ_newa (N := 8) X 120 (by decide) (by decide) (by decide) (Nat.le_of_ble_eq_true rfl) (Nat.le_of_ble_eq_true rfl) dX11_init_200 rfl (yc194.no rfl) (fun a200 A200 hA200 _ => ?_)
  rw [show A192 100 = A200 100 from by rw [hA200]; exact (if_neg (by omega)).symm]
  refine rJ_setR X fX11_63 (Or.inr hnm) (by rfl) dX11_init_202 (fun G202 hG202 => ?_)
  refine rJ_nm (Sh' := yS202) (S' := yI202) (G' := yG202) rfl (rfl) (by rw [hG202]; rfl) ?_
  refine rJ_aload_n X dX11_init_205 rfl rfl ?_
  refine rJ_bipush (v := 8) X dX11_init_206 (by decide) ?_
  refine rJ_newa (N := 8) X 125 (by decide) (by decide) (by decide) (Nat.le_of_ble_eq_true rfl) (Nat.le_of_ble_eq_true rfl) dX11_init_208 rfl (yc202.no rfl) (fun a208 A208 hA208 _ => ?_)
  rw [show A200 100 = A208 100 from by rw [hA208]; exact (if_neg (by omega)).symm]
  refine rJ_setR X fX11_66 (Or.inr hnm) (by rfl) dX11_init_210 (fun G210 hG210 => ?_)
  refine rJ_nm (Sh' := yS210) (S' := yI210) (G' := yG210) rfl (rfl) (by rw [hG210]; rfl) ?_
  refine rJ_aload_n X dX11_init_213 rfl rfl ?_
  refine rJ_bipush (v := 8) X dX11_init_214 (by decide) ?_
  refine rJ_newa (N := 8) X 126 (by decide) (by decide) (by decide) (Nat.le_of_ble_eq_true rfl) (Nat.le_of_ble_eq_true rfl) dX11_init_216 rfl (yc210.no rfl) (fun a216 A216 hA216 _ => ?_)
  rw [show A208 100 = A216 100 from by rw [hA216]; exact (if_neg (by omega)).symm]
  refine rJ_setR X fX11_69 (Or.inr hnm) (by rfl) dX11_init_218 (fun G218 hG218 => ?_)
  refine rJ_nm (Sh' := yS218) (S' := yI218) (G' := yG218) rfl (rfl) (by rw [hG218]; rfl) ?_
  refine rJ_aload_n X dX11_init_221 rfl rfl ?_
  refine rJ_bipush (v := 64) X dX11_init_222 (by decide) ?_
  refine rJ_newa (N := 64) X 127 (by decide) (by decide) (by decide) (Nat.le_of_ble_eq_true rfl) (Nat.le_of_ble_eq_true rfl) dX11_init_224 rfl (yc218.no rfl) (fun a224 A224 hA224 _ => ?_)
  rw [show A216 100 = A224 100 from by rw [hA224]; exact (if_neg (by omega)).symm]
  refine rJ_setR X fX11_72 (Or.inr hnm) (by rfl) dX11_init_226 (fun G226 hG226 => ?_)
  refine rJ_nm (Sh' := yS226) (S' := yI226) (G' := yG226) rfl (rfl) (by rw [hG226]; rfl) ?_
  refine rJ_aload_n X dX11_init_229 rfl rfl ?_
  refine rJ_sipush (v := 1000) X dX11_init_230 (by decide) ?_
  refine rJ_newa (N := 1000) X 129 (by decide) (by decide) (by decide) (Nat.le_of_ble_eq_true rfl) (Nat.le_of_ble_eq_true rfl) dX11_init_233 rfl (yc226.no rfl) (fun a233 A233 hA233 _ => ?_)
  rw [show A224 100 = A233 100 from by rw [hA233]; exact (if_neg (by omega)).symm]
  refine rJ_setR X fX11_75 (Or.inr hnm) (by rfl) dX11_init_235 (fun G235 hG235 => ?_)
  refine rJ_nm (Sh' := yS235) (S' := yI235) (G' := yG235) rfl (rfl) (by rw [hG235]; rfl) ?_
  refine rJ_aload_n X dX11_init_238 rfl rfl ?_
  refine rJ_sipush (v := 1000) X dX11_init_239 (by decide) ?_
  refine rJ_newa (N := 1000) X 130 (by decide) (by decide) (by decide) (Nat.le_of_ble_eq_true rfl) (Nat.le_of_ble_eq_true rfl) dX11_init_242 rfl (yc235.no rfl) (fun a242 A242 hA242 _ => ?_)
  rw [show A233 100 = A242 100 from by rw [hA242]; exact (if_neg (by omega)).symm]
  refine rJ_setR X fX11_78 (Or.inr hnm) (by rfl) dX11_init_244 (fun G244 hG244 => ?_)
  refine rJ_nm (Sh' := yS244) (S' := yI244) (G' := yG244) rfl (rfl) (by rw [hG244]; rfl) ?_
  refine rJ_aload_n X dX11_init_247 rfl rfl ?_
  refine rJ_sipush (v := 1000) X dX11_init_248 (by decide) ?_
  refine rJ_newa (N := 1000) X 131 (by decide) (by decide) (by decide) (Nat.le_of_ble_eq_true rfl) (Nat.le_of_ble_eq_true rfl) dX11_init_251 rfl (yc244.no rfl) (fun a251 A251 hA251 _ => ?_)
  rw [show A242 100 = A251 100 from by rw [hA251]; exact (if_neg (by omega)).symm]
  refine rJ_setR X fX11_81 (Or.inr hnm) (by rfl) dX11_init_253 (fun G253 hG253 => ?_)
  refine rJ_nm (Sh' := yS253) (S' := yI253) (G' := yG253) rfl (rfl) (by rw [hG253]; rfl) ?_
  refine rJ_aload_n X dX11_init_256 rfl rfl ?_
  refine rJ_sipush (v := 1000) X dX11_init_257 (by decide) ?_
  refine rJ_newa (N := 1000) X 132 (by decide) (by decide) (by decide) (Nat.le_of_ble_eq_true rfl) (Nat.le_of_ble_eq_true rfl) dX11_init_260 rfl (yc253.no rfl) (fun a260 A260 hA260 _ => ?_)
  rw [show A251 100 = A260 100 from by rw [hA260]; exact (if_neg (by omega)).symm]
  refine rJ_setR X fX11_84 (Or.inr hnm) (by rfl) dX11_init_262 (fun G262 hG262 => ?_)
  refine rJ_nm (Sh' := yS262) (S' := yI262) (G' := yG262) rfl (rfl) (by rw [hG262]; rfl) ?_
  refine rJ_aload_n X dX11_init_265 rfl rfl ?_
  refine rJ_bipush (v := 7) X dX11_init_266 (by decide) ?_
  refine rJ_newa (N := 7) X 134 (by decide) (by decide) (by decide) (Nat.le_of_ble_eq_true rfl) (Nat.le_of_ble_eq_true rfl) dX11_init_268 rfl (yc262.no rfl) (fun a268 A268 hA268 _ => ?_)
  rw [show A260 100 = A268 100 from by rw [hA268]; exact (if_neg (by omega)).symm]
  refine rJ_setR X fX11_87 (Or.inr hnm) (by rfl) dX11_init_270 (fun G270 hG270 => ?_)
  refine rJ_nm (Sh' := yS270) (S' := yI270) (G' := yG270) rfl (rfl) (by rw [hG270]; rfl) ?_
  refine rJ_aload_n X dX11_init_273 rfl rfl ?_
  refine rJ_bipush (v := 8) X dX11_init_274 (by decide) ?_
  refine rJ_newa (N := 8) X 135 (by decide) (by decide) (by decide) (Nat.le_of_ble_eq_true rfl) (Nat.le_of_ble_eq_true rfl) dX11_init_276 rfl (yc270.no rfl) (fun a276 A276 hA276 _ => ?_)
  rw [show A268 100 = A276 100 from by rw [hA276]; exact (if_neg (by omega)).symm]
  refine rJ_setR X fX11_90 (Or.inr hnm) (by rfl) dX11_init_278 (fun G278 hG278 => ?_)
  refine rJ_nm (Sh' := yS278) (S' := yI278) (G' := yG278) rfl (rfl) (by rw [hG278]; rfl) ?_
  refine rJ_aload_n X dX11_init_281 rfl rfl ?_
  refine rJ_bipush (v := 64) X dX11_init_282 (by decide) ?_
  refine rJ_newa (N := 64) X 136 (by decide) (by decide) (by decide) (Nat.le_of_ble_eq_true rfl) (Nat.le_of_ble_eq_true rfl) dX11_init_284 rfl (yc278.no rfl) (fun a284 A284 hA284 _ => ?_)
  rw [show A276 100 = A284 100 from by rw [hA284]; exact (if_neg (by omega)).symm]
  refine rJ_setR X fX11_93 (Or.inr hnm) (by rfl) dX11_init_286 (fun G286 hG286 => ?_)
  refine rJ_nm (Sh' := yS286) (S' := yI286) (G' := yG286) rfl (rfl) (by rw [hG286]; rfl) ?_
  refine rJ_aload_n X dX11_init_289 rfl rfl ?_
  refine rJ_callV (As := []) (rm := mR 0) X gX11_96 (cM_anew y_okM) (y_okM.1 _ _ rfl) rfl rfl (Nat.le_of_ble_eq_true rfl) ⟨(Nat.le_of_ble_eq_true rfl), (Nat.le_of_ble_eq_true rfl)⟩ ⟨(Nat.le_of_ble_eq_true rfl), (Nat.le_of_ble_eq_true rfl)⟩ dX11_init_290 ?_
  intro v290 A290 Sh290 S290 G290 hp290
  obtain ⟨rfl, rfl, rfl, rfl, rfl⟩ := hp290
  exact rJ_vretZ hZ X dX11_init_293 ⟨rfl, ((show A290 100 = A276 100 by rw [hA284]; rfl).trans ((show A276 100 = A268 100 by rw [hA276]; rfl).trans ((show A268 100 = A260 100 by rw [hA268]; rfl).trans ((show A260 100 = A251 100 by rw [hA260]; rfl).trans ((show A251 100 = A242 100 by rw [hA251]; rfl).trans ((show A242 100 = A233 100 by rw [hA242]; rfl).trans ((show A233 100 = A224 100 by rw [hA233]; rfl).trans ((show A224 100 = A216 100 by rw [hA224]; rfl).trans ((show A216 100 = A208 100 by rw [hA216]; rfl).trans ((show A208 100 = A200 100 by rw [hA208]; rfl).trans ((show A200 100 = A192 100 by rw [hA200]; rfl).trans ((show A192 100 = A184 100 by rw [hA192]; rfl).trans ((show A184 100 = A176 100 by rw [hA184]; rfl).trans ((show A176 100 = A168 100 by rw [hA176]; rfl).trans ((show A168 100 = A160 100 by rw [hA168]; rfl).trans ((show A160 100 = A152 100 by rw [hA160]; rfl).trans ((show A152 100 = A110 100 by rw [hA152]; rfl).trans ((show A110 100 = A102 100 by rw [hA110]; rfl).trans ((show A102 100 = A94 100 by rw [hA102]; rfl).trans ((show A94 100 = A86 100 by rw [hA94]; rfl).trans ((show A86 100 = A78 100 by rw [hA86]; rfl).trans ((show A78 100 = A70 100 by rw [hA78]; rfl).trans ((show A70 100 = A62 100 by rw [hA70]; rfl).trans ((show A62 100 = A20 100 by rw [hA62]; rfl).trans ((show A20 100 = A7 100 by rw [hA20]; rfl).trans (show A7 100 = A 100 by rw [hA7]; rfl)))))))))))))))))))))))))), ((show A290 0 = A276 0 by rw [hA284]; rfl).trans ((show A276 0 = A268 0 by rw [hA276]; rfl).trans ((show A268 0 = A260 0 by rw [hA268]; rfl).trans ((show A260 0 = A251 0 by rw [hA260]; rfl).trans ((show A251 0 = A242 0 by rw [hA251]; rfl).trans ((show A242 0 = A233 0 by rw [hA242]; rfl).trans ((show A233 0 = A224 0 by rw [hA233]; rfl).trans ((show A224 0 = A216 0 by rw [hA224]; rfl).trans ((show A216 0 = A208 0 by rw [hA216]; rfl).trans ((show A208 0 = A200 0 by rw [hA208]; rfl).trans ((show A200 0 = A192 0 by rw [hA200]; rfl).trans ((show A192 0 = A184 0 by rw [hA192]; rfl).trans ((show A184 0 = A176 0 by rw [hA184]; rfl).trans ((show A176 0 = A168 0 by rw [hA176]; rfl).trans ((show A168 0 = A160 0 by rw [hA168]; rfl).trans ((show A160 0 = A152 0 by rw [hA160]; rfl).trans ((show A152 0 = A110 0 by rw [hA152]; rfl).trans ((show A110 0 = A102 0 by rw [hA110]; rfl).trans ((show A102 0 = A94 0 by rw [hA102]; rfl).trans ((show A94 0 = A86 0 by rw [hA94]; rfl).trans ((show A86 0 = A78 0 by rw [hA86]; rfl).trans ((show A78 0 = A70 0 by rw [hA78]; rfl).trans ((show A70 0 = A62 0 by rw [hA70]; rfl).trans ((show A62 0 = A20 0 by rw [hA62]; rfl).trans ((show A20 0 = A7 0 by rw [hA20]; rfl).trans (show A7 0 = A 0 by rw [hA7]; rfl)))))))))))))))))))))))))), rfl, rfl, rfl⟩
