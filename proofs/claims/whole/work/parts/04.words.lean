/-! the words: TT the good ones of lw_tbl, NN what else of the tables is carried; bundles by field and by call (printed by a program) -/
def TT : List Cond := lw_tbl.filter goodWord
theorem TT_good : GoodIn TT TT := fun w hw => ⟨hw, good_of_word (List.mem_filter.mp hw).2⟩
theorem TT_in {w : Cond} (i : Nat) (h : lw_tbl[i]? = some w) (hg : goodWord w = true) : w ∈ TT := List.mem_filter.mpr ⟨List.mem_of_getElem? h, hg⟩
theorem TT_t {w : Cond} (i : Nat) (h : tables_1[i]? = some w) (hg : goodWord w = true) : w ∈ TT := List.mem_filter.mpr ⟨List.mem_append_right _ (List.mem_of_getElem? h), hg⟩
theorem TT_1 {w : Cond} (i : Nat) (h : tables_1_1[i]? = some w) (hg : goodWord w = true) : w ∈ TT := List.mem_filter.mpr ⟨List.mem_append_right _ (List.mem_append_left _ (List.mem_of_getElem? h)), hg⟩
theorem TT_2 {w : Cond} (i : Nat) (h : tables_1_2[i]? = some w) (hg : goodWord w = true) : w ∈ TT := List.mem_filter.mpr ⟨List.mem_append_right _ (List.mem_append_right _ (List.mem_append_left _ (List.mem_of_getElem? h))), hg⟩
theorem TT_3 {w : Cond} (i : Nat) (h : tables_1_3[i]? = some w) (hg : goodWord w = true) : w ∈ TT := List.mem_filter.mpr ⟨List.mem_append_right _ (List.mem_append_right _ (List.mem_append_right _ (List.mem_append_left _ (List.mem_of_getElem? h)))), hg⟩
theorem TT_4 {w : Cond} (i : Nat) (h : tables_1_4[i]? = some w) (hg : goodWord w = true) : w ∈ TT := List.mem_filter.mpr ⟨List.mem_append_right _ (List.mem_append_right _ (List.mem_append_right _ (List.mem_append_right _ (List.mem_append_left _ (List.mem_of_getElem? h))))), hg⟩
theorem TT_5 {w : Cond} (i : Nat) (h : tables_1_5[i]? = some w) (hg : goodWord w = true) : w ∈ TT := List.mem_filter.mpr ⟨List.mem_append_right _ (List.mem_append_right _ (List.mem_append_right _ (List.mem_append_right _ (List.mem_append_right _ (List.mem_of_getElem? h))))), hg⟩
theorem TT_p {q : MethodName × Nat} (i : Nat) (h : lw_privs[i]? = some q) (hg : goodWord (Cond.selects q.1.cls q.1 q.1) = true) : Cond.selects q.1.cls q.1 q.1 ∈ TT := List.mem_filter.mpr ⟨List.mem_append_left _ (List.mem_map.mpr ⟨q, List.mem_of_getElem? h, rfl⟩), hg⟩
def mty (ci : Nat) : Nat → FieldType := match ci with
  | 0 => tyX0
  | 1 => tyX1
  | 2 => tyX2
  | 3 => tyX3
  | 4 => tyX4
  | 5 => tyX5
  | 6 => tyX6
  | 7 => tyX7
  | 8 => tyX8
  | 9 => tyX9
  | 10 => tyX10
  | _ => tyX11
theorem wiX0 : ∀ w ∈ u_ws RX0 TX0 3, w ∈ TT := by
  have h : u_ws RX0 TX0 3 = [122, 124, 126].filterMap (fun i => tables_1[i]?) := by decide +kernel
  have hg : (u_ws RX0 TX0 3).all goodWord = true := by decide +kernel
  intro w hw
  have h1 := List.all_eq_true.mp hg w hw
  rw [h] at hw
  obtain ⟨i, -, hi⟩ := List.mem_filterMap.mp hw
  exact TT_t i hi h1
theorem clX0 : mCl vwCl mty TT 0 RX0 TX0 3 := ⟨rfl, wiX0, tyX0_ok, nmX0⟩
theorem dfX0 : ∀ j, j < 3 → defaultValue (mty 0 j) = mv (mty 0 j) 0 none := by decide +kernel
theorem wiX1 : ∀ w ∈ u_ws RX1 TX1 2, w ∈ TT := by
  have h : u_ws RX1 TX1 2 = [143, 145].filterMap (fun i => tables_1[i]?) := by decide +kernel
  have hg : (u_ws RX1 TX1 2).all goodWord = true := by decide +kernel
  intro w hw
  have h1 := List.all_eq_true.mp hg w hw
  rw [h] at hw
  obtain ⟨i, -, hi⟩ := List.mem_filterMap.mp hw
  exact TT_t i hi h1
theorem clX1 : mCl vwCl mty TT 1 RX1 TX1 2 := ⟨rfl, wiX1, tyX1_ok, nmX1⟩
theorem dfX1 : ∀ j, j < 2 → defaultValue (mty 1 j) = mv (mty 1 j) 0 none := by decide +kernel
theorem wiX2 : ∀ w ∈ u_ws RX2 TX2 5, w ∈ TT := by
  have h : u_ws RX2 TX2 5 = [79, 81, 83, 85, 87].filterMap (fun i => tables_1[i]?) := by decide +kernel
  have hg : (u_ws RX2 TX2 5).all goodWord = true := by decide +kernel
  intro w hw
  have h1 := List.all_eq_true.mp hg w hw
  rw [h] at hw
  obtain ⟨i, -, hi⟩ := List.mem_filterMap.mp hw
  exact TT_t i hi h1
theorem clX2 : mCl vwCl mty TT 2 RX2 TX2 5 := ⟨rfl, wiX2, tyX2_ok, nmX2⟩
theorem dfX2 : ∀ j, j < 5 → defaultValue (mty 2 j) = mv (mty 2 j) 0 none := by decide +kernel
theorem wiX3 : ∀ w ∈ u_ws RX3 TX3 2, w ∈ TT := by
  have h : u_ws RX3 TX3 2 = [56, 58].filterMap (fun i => tables_1[i]?) := by decide +kernel
  have hg : (u_ws RX3 TX3 2).all goodWord = true := by decide +kernel
  intro w hw
  have h1 := List.all_eq_true.mp hg w hw
  rw [h] at hw
  obtain ⟨i, -, hi⟩ := List.mem_filterMap.mp hw
  exact TT_t i hi h1
theorem clX3 : mCl vwCl mty TT 3 RX3 TX3 2 := ⟨rfl, wiX3, tyX3_ok, nmX3⟩
theorem dfX3 : ∀ j, j < 2 → defaultValue (mty 3 j) = mv (mty 3 j) 0 none := by decide +kernel
theorem wiX4 : ∀ w ∈ u_ws RX4 TX4 4, w ∈ TT := by
  have h : u_ws RX4 TX4 4 = [38, 40, 42, 44].filterMap (fun i => tables_1[i]?) := by decide +kernel
  have hg : (u_ws RX4 TX4 4).all goodWord = true := by decide +kernel
  intro w hw
  have h1 := List.all_eq_true.mp hg w hw
  rw [h] at hw
  obtain ⟨i, -, hi⟩ := List.mem_filterMap.mp hw
  exact TT_t i hi h1
theorem clX4 : mCl vwCl mty TT 4 RX4 TX4 4 := ⟨rfl, wiX4, tyX4_ok, nmX4⟩
theorem dfX4 : ∀ j, j < 4 → defaultValue (mty 4 j) = mv (mty 4 j) 0 none := by decide +kernel
theorem wiX5 : ∀ w ∈ u_ws RX5 TX5 7, w ∈ TT := by
  have h : u_ws RX5 TX5 7 = [166, 168, 170, 172, 174, 176, 178].filterMap (fun i => tables_1[i]?) := by decide +kernel
  have hg : (u_ws RX5 TX5 7).all goodWord = true := by decide +kernel
  intro w hw
  have h1 := List.all_eq_true.mp hg w hw
  rw [h] at hw
  obtain ⟨i, -, hi⟩ := List.mem_filterMap.mp hw
  exact TT_t i hi h1
theorem clX5 : mCl vwCl mty TT 5 RX5 TX5 7 := ⟨rfl, wiX5, tyX5_ok, nmX5⟩
theorem dfX5 : ∀ j, j < 7 → defaultValue (mty 5 j) = mv (mty 5 j) 0 none := by decide +kernel
theorem wiX6 : ∀ w ∈ u_ws RX6 TX6 3, w ∈ TT := by
  have h : u_ws RX6 TX6 3 = [229, 231, 233].filterMap (fun i => tables_1[i]?) := by decide +kernel
  have hg : (u_ws RX6 TX6 3).all goodWord = true := by decide +kernel
  intro w hw
  have h1 := List.all_eq_true.mp hg w hw
  rw [h] at hw
  obtain ⟨i, -, hi⟩ := List.mem_filterMap.mp hw
  exact TT_t i hi h1
theorem clX6 : mCl vwCl mty TT 6 RX6 TX6 3 := ⟨rfl, wiX6, tyX6_ok, nmX6⟩
theorem dfX6 : ∀ j, j < 3 → defaultValue (mty 6 j) = mv (mty 6 j) 0 none := by decide +kernel
theorem wiX7 : ∀ w ∈ u_ws RX7 TX7 12, w ∈ TT := by
  have h : u_ws RX7 TX7 12 = [193, 195, 197, 199, 201, 203, 205, 207, 209, 211, 213, 215].filterMap (fun i => tables_1[i]?) := by decide +kernel
  have hg : (u_ws RX7 TX7 12).all goodWord = true := by decide +kernel
  intro w hw
  have h1 := List.all_eq_true.mp hg w hw
  rw [h] at hw
  obtain ⟨i, -, hi⟩ := List.mem_filterMap.mp hw
  exact TT_t i hi h1
theorem clX7 : mCl vwCl mty TT 7 RX7 TX7 12 := ⟨rfl, wiX7, tyX7_ok, nmX7⟩
theorem dfX7 : ∀ j, j < 12 → defaultValue (mty 7 j) = mv (mty 7 j) 0 none := by decide +kernel
theorem wiX8 : ∀ w ∈ u_ws RX8 TX8 3, w ∈ TT := by
  have h : u_ws RX8 TX8 3 = [93, 95, 97].filterMap (fun i => tables_1[i]?) := by decide +kernel
  have hg : (u_ws RX8 TX8 3).all goodWord = true := by decide +kernel
  intro w hw
  have h1 := List.all_eq_true.mp hg w hw
  rw [h] at hw
  obtain ⟨i, -, hi⟩ := List.mem_filterMap.mp hw
  exact TT_t i hi h1
theorem clX8 : mCl vwCl mty TT 8 RX8 TX8 3 := ⟨rfl, wiX8, tyX8_ok, nmX8⟩
theorem dfX8 : ∀ j, j < 3 → defaultValue (mty 8 j) = mv (mty 8 j) 0 none := by decide +kernel
theorem wiX9 : ∀ w ∈ u_ws RX9 TX9 2, w ∈ TT := by
  have h : u_ws RX9 TX9 2 = [108, 110].filterMap (fun i => tables_1[i]?) := by decide +kernel
  have hg : (u_ws RX9 TX9 2).all goodWord = true := by decide +kernel
  intro w hw
  have h1 := List.all_eq_true.mp hg w hw
  rw [h] at hw
  obtain ⟨i, -, hi⟩ := List.mem_filterMap.mp hw
  exact TT_t i hi h1
theorem clX9 : mCl vwCl mty TT 9 RX9 TX9 2 := ⟨rfl, wiX9, tyX9_ok, nmX9⟩
theorem dfX9 : ∀ j, j < 2 → defaultValue (mty 9 j) = mv (mty 9 j) 0 none := by decide +kernel
theorem wiX10 : ∀ w ∈ u_ws RX10 TX10 9, w ∈ TT := by
  have h : u_ws RX10 TX10 9 = [245, 247, 249, 251, 253, 255, 257, 259, 261].filterMap (fun i => tables_1[i]?) := by decide +kernel
  have hg : (u_ws RX10 TX10 9).all goodWord = true := by decide +kernel
  intro w hw
  have h1 := List.all_eq_true.mp hg w hw
  rw [h] at hw
  obtain ⟨i, -, hi⟩ := List.mem_filterMap.mp hw
  exact TT_t i hi h1
theorem clX10 : mCl vwCl mty TT 10 RX10 TX10 9 := ⟨rfl, wiX10, tyX10_ok, nmX10⟩
theorem dfX10 : ∀ j, j < 9 → defaultValue (mty 10 j) = mv (mty 10 j) 0 none := by decide +kernel
theorem wiX11 : ∀ w ∈ u_ws RX11 TX11 36, w ∈ TT := by
  have h : u_ws RX11 TX11 36 = [782, 784, 786, 788, 790, 792, 794, 796, 798, 800, 802, 804, 806, 808, 810, 812, 814, 816, 818, 820, 822, 824, 826, 828, 830, 832, 834, 836, 838, 840, 842, 844, 846, 848, 850, 852].filterMap (fun i => tables_1[i]?) := by decide +kernel
  have hg : (u_ws RX11 TX11 36).all goodWord = true := by decide +kernel
  intro w hw
  have h1 := List.all_eq_true.mp hg w hw
  rw [h] at hw
  obtain ⟨i, -, hi⟩ := List.mem_filterMap.mp hw
  exact TT_t i hi h1
theorem clX11 : mCl vwCl mty TT 11 RX11 TX11 36 := ⟨rfl, wiX11, tyX11_ok, nmX11⟩
theorem dfX11 : ∀ j, j < 36 → defaultValue (mty 11 j) = mv (mty 11 j) 0 none := by decide +kernel
theorem fX4_9 : mF vwCl mty TT RX4 9 4 0 1 := ⟨RX4, TX4, 4, clX4, by decide, TT_1 34 rfl rfl, Or.inr ⟨rfl, rfl⟩, (fun h => absurd h (by decide)), (fun _ => ⟨fun _ _ => rfl, fun _ => ⟨rfl, rfl⟩⟩)⟩
theorem fX4_21 : mF vwCl mty TT RX4 21 4 1 0 := ⟨RX4, TX4, 4, clX4, by decide, TT_1 35 rfl rfl, Or.inl rfl, (fun _ _ _ => rfl), (fun h => absurd h (by decide))⟩
theorem fwX4_21 : mFw vwCl RX4 4 1 := ⟨RX4, TX4, 4, rfl, rfl⟩
theorem fX4_25 : mF vwCl mty TT RX4 25 4 2 0 := ⟨RX4, TX4, 4, clX4, by decide, TT_1 36 rfl rfl, Or.inl rfl, (fun _ _ _ => rfl), (fun h => absurd h (by decide))⟩
theorem fwX4_25 : mFw vwCl RX4 4 2 := ⟨RX4, TX4, 4, rfl, rfl⟩
theorem fX4_28 : mF vwCl mty TT RX4 28 4 3 0 := ⟨RX4, TX4, 4, clX4, by decide, TT_1 37 rfl rfl, Or.inl rfl, (fun _ _ _ => rfl), (fun h => absurd h (by decide))⟩
theorem fwX4_28 : mFw vwCl RX4 4 3 := ⟨RX4, TX4, 4, rfl, rfl⟩
theorem fX3_9 : mF vwCl mty TT RX3 9 3 0 1 := ⟨RX3, TX3, 2, clX3, by decide, TT_1 54 rfl rfl, Or.inr ⟨rfl, rfl⟩, (fun h => absurd h (by decide)), (fun _ => ⟨fun _ _ => rfl, fun _ => ⟨rfl, rfl⟩⟩)⟩
theorem fX3_15 : mF vwCl mty TT RX3 15 3 1 0 := ⟨RX3, TX3, 2, clX3, by decide, TT_1 55 rfl rfl, Or.inl rfl, (fun _ _ _ => rfl), (fun h => absurd h (by decide))⟩
theorem fwX3_15 : mFw vwCl RX3 3 1 := ⟨RX3, TX3, 2, rfl, rfl⟩
theorem fX2_9 : mF vwCl mty TT RX2 9 2 0 0 := ⟨RX2, TX2, 5, clX2, by decide, TT_1 74 rfl rfl, Or.inr ⟨rfl, rfl⟩, (fun _ _ _ => rfl), (fun h => absurd h (by decide))⟩
theorem fX2_15 : mF vwCl mty TT RX2 15 2 1 0 := ⟨RX2, TX2, 5, clX2, by decide, TT_1 75 rfl rfl, Or.inr ⟨rfl, rfl⟩, (fun _ _ _ => rfl), (fun h => absurd h (by decide))⟩
theorem fX2_18 : mF vwCl mty TT RX2 18 2 2 0 := ⟨RX2, TX2, 5, clX2, by decide, TT_1 76 rfl rfl, Or.inr ⟨rfl, rfl⟩, (fun _ _ _ => rfl), (fun h => absurd h (by decide))⟩
theorem fX2_21 : mF vwCl mty TT RX2 21 2 3 0 := ⟨RX2, TX2, 5, clX2, by decide, TT_1 77 rfl rfl, Or.inr ⟨rfl, rfl⟩, (fun _ _ _ => rfl), (fun h => absurd h (by decide))⟩
theorem fX2_24 : mF vwCl mty TT RX2 24 2 4 0 := ⟨RX2, TX2, 5, clX2, by decide, TT_1 78 rfl rfl, Or.inr ⟨rfl, rfl⟩, (fun _ _ _ => rfl), (fun h => absurd h (by decide))⟩
theorem fX8_11 : mF vwCl mty TT RX8 11 8 0 1 := ⟨RX8, TX8, 3, clX8, by decide, TT_1 90 rfl rfl, Or.inr ⟨rfl, rfl⟩, (fun h => absurd h (by decide)), (fun _ => ⟨fun _ _ => rfl, fun _ => ⟨rfl, rfl⟩⟩)⟩
theorem fX8_20 : mF vwCl mty TT RX8 20 8 1 1 := ⟨RX8, TX8, 3, clX8, by decide, TT_1 91 rfl rfl, Or.inr ⟨rfl, rfl⟩, (fun h => absurd h (by decide)), (fun _ => ⟨fun _ _ => rfl, fun _ => ⟨rfl, rfl⟩⟩)⟩
theorem fX8_24 : mF vwCl mty TT RX8 24 8 2 0 := ⟨RX8, TX8, 3, clX8, by decide, TT_1 92 rfl rfl, Or.inl rfl, (fun _ _ _ => rfl), (fun h => absurd h (by decide))⟩
theorem fwX8_24 : mFw vwCl RX8 8 2 := ⟨RX8, TX8, 3, rfl, rfl⟩
theorem fX9_9 : mF vwCl mty TT RX9 9 9 0 1 := ⟨RX9, TX9, 2, clX9, by decide, TT_1 106 rfl rfl, Or.inr ⟨rfl, rfl⟩, (fun h => absurd h (by decide)), (fun _ => ⟨fun _ _ => rfl, fun _ => ⟨rfl, rfl⟩⟩)⟩
theorem fX9_15 : mF vwCl mty TT RX9 15 9 1 1 := ⟨RX9, TX9, 2, clX9, by decide, TT_1 107 rfl rfl, Or.inr ⟨rfl, rfl⟩, (fun h => absurd h (by decide)), (fun _ => ⟨fun _ _ => rfl, fun _ => ⟨rfl, rfl⟩⟩)⟩
theorem fX0_11 : mF vwCl mty TT RX0 11 0 0 1 := ⟨RX0, TX0, 3, clX0, by decide, TT_1 119 rfl rfl, Or.inr ⟨rfl, rfl⟩, (fun h => absurd h (by decide)), (fun _ => ⟨fun _ _ => rfl, fun _ => ⟨rfl, rfl⟩⟩)⟩
theorem fX0_15 : mF vwCl mty TT RX0 15 0 1 0 := ⟨RX0, TX0, 3, clX0, by decide, TT_1 120 rfl rfl, Or.inl rfl, (fun _ _ _ => rfl), (fun h => absurd h (by decide))⟩
theorem fwX0_15 : mFw vwCl RX0 0 1 := ⟨RX0, TX0, 3, rfl, rfl⟩
theorem fX0_19 : mF vwCl mty TT RX0 19 0 2 0 := ⟨RX0, TX0, 3, clX0, by decide, TT_1 121 rfl rfl, Or.inl rfl, (fun _ _ _ => rfl), (fun h => absurd h (by decide))⟩
theorem fwX0_19 : mFw vwCl RX0 0 2 := ⟨RX0, TX0, 3, rfl, rfl⟩
theorem fX1_9 : mF vwCl mty TT RX1 9 1 0 1 := ⟨RX1, TX1, 2, clX1, by decide, TT_1 141 rfl rfl, Or.inr ⟨rfl, rfl⟩, (fun h => absurd h (by decide)), (fun _ => ⟨fun _ _ => rfl, fun _ => ⟨rfl, rfl⟩⟩)⟩
theorem fX1_15 : mF vwCl mty TT RX1 15 1 1 1 := ⟨RX1, TX1, 2, clX1, by decide, TT_1 142 rfl rfl, Or.inr ⟨rfl, rfl⟩, (fun h => absurd h (by decide)), (fun _ => ⟨fun _ _ => rfl, fun _ => ⟨rfl, rfl⟩⟩)⟩
theorem fX5_13 : mF vwCl mty TT RX5 13 5 0 0 := ⟨RX5, TX5, 7, clX5, by decide, TT_1 159 rfl rfl, Or.inl rfl, (fun _ _ _ => rfl), (fun h => absurd h (by decide))⟩
theorem fwX5_13 : mFw vwCl RX5 5 0 := ⟨RX5, TX5, 7, rfl, rfl⟩
theorem fX5_7 : mF vwCl mty TT RX5 7 5 1 1 := ⟨RX5, TX5, 7, clX5, by decide, TT_1 160 rfl rfl, Or.inl rfl, (fun h => absurd h (by decide)), (fun _ => ⟨fun _ _ => rfl, fun _ => ⟨rfl, rfl⟩⟩)⟩
theorem fwX5_7 : mFw vwCl RX5 5 1 := ⟨RX5, TX5, 7, rfl, rfl⟩
theorem fX5_17 : mF vwCl mty TT RX5 17 5 2 0 := ⟨RX5, TX5, 7, clX5, by decide, TT_1 161 rfl rfl, Or.inl rfl, (fun _ _ _ => rfl), (fun h => absurd h (by decide))⟩
theorem fwX5_17 : mFw vwCl RX5 5 2 := ⟨RX5, TX5, 7, rfl, rfl⟩
theorem fX5_21 : mF vwCl mty TT RX5 21 5 3 0 := ⟨RX5, TX5, 7, clX5, by decide, TT_1 162 rfl rfl, Or.inl rfl, (fun _ _ _ => rfl), (fun h => absurd h (by decide))⟩
theorem fwX5_21 : mFw vwCl RX5 5 3 := ⟨RX5, TX5, 7, rfl, rfl⟩
theorem fX5_24 : mF vwCl mty TT RX5 24 5 4 0 := ⟨RX5, TX5, 7, clX5, by decide, TT_1 163 rfl rfl, Or.inl rfl, (fun _ _ _ => rfl), (fun h => absurd h (by decide))⟩
theorem fwX5_24 : mFw vwCl RX5 5 4 := ⟨RX5, TX5, 7, rfl, rfl⟩
theorem fX5_27 : mF vwCl mty TT RX5 27 5 5 0 := ⟨RX5, TX5, 7, clX5, by decide, TT_1 164 rfl rfl, Or.inl rfl, (fun _ _ _ => rfl), (fun h => absurd h (by decide))⟩
theorem fwX5_27 : mFw vwCl RX5 5 5 := ⟨RX5, TX5, 7, rfl, rfl⟩
theorem fX5_30 : mF vwCl mty TT RX5 30 5 6 0 := ⟨RX5, TX5, 7, clX5, by decide, TT_1 165 rfl rfl, Or.inl rfl, (fun _ _ _ => rfl), (fun h => absurd h (by decide))⟩
theorem fwX5_30 : mFw vwCl RX5 5 6 := ⟨RX5, TX5, 7, rfl, rfl⟩
theorem fX7_28 : mF vwCl mty TT RX7 28 7 0 1 := ⟨RX7, TX7, 12, clX7, by decide, TT_1 181 rfl rfl, Or.inr ⟨rfl, rfl⟩, (fun h => absurd h (by decide)), (fun _ => ⟨fun _ _ => rfl, fun _ => ⟨rfl, rfl⟩⟩)⟩
theorem fX7_32 : mF vwCl mty TT RX7 32 7 1 1 := ⟨RX7, TX7, 12, clX7, by decide, TT_1 182 rfl rfl, Or.inr ⟨rfl, rfl⟩, (fun h => absurd h (by decide)), (fun _ => ⟨fun _ _ => rfl, fun _ => ⟨rfl, rfl⟩⟩)⟩
theorem fX7_36 : mF vwCl mty TT RX7 36 7 2 1 := ⟨RX7, TX7, 12, clX7, by decide, TT_1 183 rfl rfl, Or.inr ⟨rfl, rfl⟩, (fun h => absurd h (by decide)), (fun _ => ⟨fun _ _ => rfl, fun _ => ⟨rfl, rfl⟩⟩)⟩
theorem fX7_40 : mF vwCl mty TT RX7 40 7 3 1 := ⟨RX7, TX7, 12, clX7, by decide, TT_1 184 rfl rfl, Or.inr ⟨rfl, rfl⟩, (fun h => absurd h (by decide)), (fun _ => ⟨fun _ _ => rfl, fun _ => ⟨rfl, rfl⟩⟩)⟩
theorem fX7_12 : mF vwCl mty TT RX7 12 7 4 1 := ⟨RX7, TX7, 12, clX7, by decide, TT_1 185 rfl rfl, Or.inr ⟨rfl, rfl⟩, (fun h => absurd h (by decide)), (fun _ => ⟨fun _ _ => rfl, fun _ => ⟨rfl, rfl⟩⟩)⟩
theorem fX7_20 : mF vwCl mty TT RX7 20 7 5 1 := ⟨RX7, TX7, 12, clX7, by decide, TT_1 186 rfl rfl, Or.inr ⟨rfl, rfl⟩, (fun h => absurd h (by decide)), (fun _ => ⟨fun _ _ => rfl, fun _ => ⟨rfl, rfl⟩⟩)⟩
theorem fX7_24 : mF vwCl mty TT RX7 24 7 6 1 := ⟨RX7, TX7, 12, clX7, by decide, TT_1 187 rfl rfl, Or.inr ⟨rfl, rfl⟩, (fun h => absurd h (by decide)), (fun _ => ⟨fun _ _ => rfl, fun _ => ⟨rfl, rfl⟩⟩)⟩
theorem fX7_72 : mF vwCl mty TT RX7 72 7 7 0 := ⟨RX7, TX7, 12, clX7, by decide, TT_1 188 rfl rfl, Or.inl rfl, (fun _ _ _ => rfl), (fun h => absurd h (by decide))⟩
theorem fwX7_72 : mFw vwCl RX7 7 7 := ⟨RX7, TX7, 12, rfl, rfl⟩
theorem fX7_76 : mF vwCl mty TT RX7 76 7 8 0 := ⟨RX7, TX7, 12, clX7, by decide, TT_1 189 rfl rfl, Or.inl rfl, (fun _ _ _ => rfl), (fun h => absurd h (by decide))⟩
theorem fwX7_76 : mFw vwCl RX7 7 8 := ⟨RX7, TX7, 12, rfl, rfl⟩
theorem fX7_79 : mF vwCl mty TT RX7 79 7 9 0 := ⟨RX7, TX7, 12, clX7, by decide, TT_1 190 rfl rfl, Or.inl rfl, (fun _ _ _ => rfl), (fun h => absurd h (by decide))⟩
theorem fwX7_79 : mFw vwCl RX7 7 9 := ⟨RX7, TX7, 12, rfl, rfl⟩
theorem fX7_82 : mF vwCl mty TT RX7 82 7 10 0 := ⟨RX7, TX7, 12, clX7, by decide, TT_1 191 rfl rfl, Or.inl rfl, (fun _ _ _ => rfl), (fun h => absurd h (by decide))⟩
theorem fwX7_82 : mFw vwCl RX7 7 10 := ⟨RX7, TX7, 12, rfl, rfl⟩
theorem fX7_85 : mF vwCl mty TT RX7 85 7 11 0 := ⟨RX7, TX7, 12, clX7, by decide, TT_1 192 rfl rfl, Or.inl rfl, (fun _ _ _ => rfl), (fun h => absurd h (by decide))⟩
theorem fwX7_85 : mFw vwCl RX7 7 11 := ⟨RX7, TX7, 12, rfl, rfl⟩
theorem fX6_18 : mF vwCl mty TT RX6 18 6 0 1 := ⟨RX6, TX6, 3, clX6, by decide, TT_1 226 rfl rfl, Or.inr ⟨rfl, rfl⟩, (fun h => absurd h (by decide)), (fun _ => ⟨fun _ _ => rfl, fun _ => ⟨rfl, rfl⟩⟩)⟩
theorem fX6_22 : mF vwCl mty TT RX6 22 6 1 1 := ⟨RX6, TX6, 3, clX6, by decide, TT_1 227 rfl rfl, Or.inr ⟨rfl, rfl⟩, (fun h => absurd h (by decide)), (fun _ => ⟨fun _ _ => rfl, fun _ => ⟨rfl, rfl⟩⟩)⟩
theorem fX6_12 : mF vwCl mty TT RX6 12 6 2 1 := ⟨RX6, TX6, 3, clX6, by decide, TT_1 228 rfl rfl, Or.inr ⟨rfl, rfl⟩, (fun h => absurd h (by decide)), (fun _ => ⟨fun _ _ => rfl, fun _ => ⟨rfl, rfl⟩⟩)⟩
theorem fX10_9 : mF vwCl mty TT RX10 9 10 0 1 := ⟨RX10, TX10, 9, clX10, by decide, TT_1 236 rfl rfl, Or.inr ⟨rfl, rfl⟩, (fun h => absurd h (by decide)), (fun _ => ⟨fun _ _ => rfl, fun _ => ⟨rfl, rfl⟩⟩)⟩
theorem fX10_66 : mF vwCl mty TT RX10 66 10 1 0 := ⟨RX10, TX10, 9, clX10, by decide, TT_1 237 rfl rfl, Or.inl rfl, (fun _ _ _ => rfl), (fun h => absurd h (by decide))⟩
theorem fwX10_66 : mFw vwCl RX10 10 1 := ⟨RX10, TX10, 9, rfl, rfl⟩
theorem fX10_16 : mF vwCl mty TT RX10 16 10 2 1 := ⟨RX10, TX10, 9, clX10, by decide, TT_1 238 rfl rfl, Or.inr ⟨rfl, rfl⟩, (fun h => absurd h (by decide)), (fun _ => ⟨fun _ _ => rfl, fun _ => ⟨rfl, rfl⟩⟩)⟩
theorem fX10_23 : mF vwCl mty TT RX10 23 10 3 1 := ⟨RX10, TX10, 9, clX10, by decide, TT_1 239 rfl rfl, Or.inr ⟨rfl, rfl⟩, (fun h => absurd h (by decide)), (fun _ => ⟨fun _ _ => rfl, fun _ => ⟨rfl, rfl⟩⟩)⟩
theorem fX10_30 : mF vwCl mty TT RX10 30 10 4 1 := ⟨RX10, TX10, 9, clX10, by decide, TT_2 0 rfl rfl, Or.inr ⟨rfl, rfl⟩, (fun h => absurd h (by decide)), (fun _ => ⟨fun _ _ => rfl, fun _ => ⟨rfl, rfl⟩⟩)⟩
theorem fX10_37 : mF vwCl mty TT RX10 37 10 5 1 := ⟨RX10, TX10, 9, clX10, by decide, TT_2 1 rfl rfl, Or.inr ⟨rfl, rfl⟩, (fun h => absurd h (by decide)), (fun _ => ⟨fun _ _ => rfl, fun _ => ⟨rfl, rfl⟩⟩)⟩
theorem fX10_44 : mF vwCl mty TT RX10 44 10 6 1 := ⟨RX10, TX10, 9, clX10, by decide, TT_2 2 rfl rfl, Or.inr ⟨rfl, rfl⟩, (fun h => absurd h (by decide)), (fun _ => ⟨fun _ _ => rfl, fun _ => ⟨rfl, rfl⟩⟩)⟩
theorem fX10_53 : mF vwCl mty TT RX10 53 10 7 1 := ⟨RX10, TX10, 9, clX10, by decide, TT_2 3 rfl rfl, Or.inr ⟨rfl, rfl⟩, (fun h => absurd h (by decide)), (fun _ => ⟨fun _ _ => rfl, fun _ => ⟨rfl, rfl⟩⟩)⟩
theorem fX10_62 : mF vwCl mty TT RX10 62 10 8 1 := ⟨RX10, TX10, 9, clX10, by decide, TT_2 4 rfl rfl, Or.inr ⟨rfl, rfl⟩, (fun h => absurd h (by decide)), (fun _ => ⟨fun _ _ => rfl, fun _ => ⟨rfl, rfl⟩⟩)⟩
theorem fX11_7 : mF vwCl mty TT RX11 7 11 0 1 := ⟨RX11, TX11, 36, clX11, by decide, TT_4 26 rfl rfl, Or.inr ⟨rfl, rfl⟩, (fun h => absurd h (by decide)), (fun _ => ⟨fun _ _ => rfl, fun _ => ⟨rfl, rfl⟩⟩)⟩
theorem fX11_119 : mF vwCl mty TT RX11 119 11 1 0 := ⟨RX11, TX11, 36, clX11, by decide, TT_4 27 rfl rfl, Or.inl rfl, (fun _ _ _ => rfl), (fun h => absurd h (by decide))⟩
theorem fwX11_119 : mFw vwCl RX11 11 1 := ⟨RX11, TX11, 36, rfl, rfl⟩
theorem fX11_13 : mF vwCl mty TT RX11 13 11 2 0 := ⟨RX11, TX11, 36, clX11, by decide, TT_4 28 rfl rfl, Or.inl rfl, (fun _ _ _ => rfl), (fun h => absurd h (by decide))⟩
theorem fwX11_13 : mFw vwCl RX11 11 2 := ⟨RX11, TX11, 36, rfl, rfl⟩
theorem fX11_17 : mF vwCl mty TT RX11 17 11 3 1 := ⟨RX11, TX11, 36, clX11, by decide, TT_4 29 rfl rfl, Or.inr ⟨rfl, rfl⟩, (fun h => absurd h (by decide)), (fun _ => ⟨fun _ _ => rfl, fun _ => ⟨rfl, rfl⟩⟩)⟩
theorem fX11_20 : mF vwCl mty TT RX11 20 11 4 0 := ⟨RX11, TX11, 36, clX11, by decide, TT_4 30 rfl rfl, Or.inl rfl, (fun _ _ _ => rfl), (fun h => absurd h (by decide))⟩
theorem fwX11_20 : mFw vwCl RX11 11 4 := ⟨RX11, TX11, 36, rfl, rfl⟩
theorem fX11_23 : mF vwCl mty TT RX11 23 11 5 1 := ⟨RX11, TX11, 36, clX11, by decide, TT_4 31 rfl rfl, Or.inr ⟨rfl, rfl⟩, (fun h => absurd h (by decide)), (fun _ => ⟨fun _ _ => rfl, fun _ => ⟨rfl, rfl⟩⟩)⟩
theorem fX11_26 : mF vwCl mty TT RX11 26 11 6 1 := ⟨RX11, TX11, 36, clX11, by decide, TT_4 32 rfl rfl, Or.inr ⟨rfl, rfl⟩, (fun h => absurd h (by decide)), (fun _ => ⟨fun _ _ => rfl, fun _ => ⟨rfl, rfl⟩⟩)⟩
theorem fX11_29 : mF vwCl mty TT RX11 29 11 7 1 := ⟨RX11, TX11, 36, clX11, by decide, TT_4 33 rfl rfl, Or.inr ⟨rfl, rfl⟩, (fun h => absurd h (by decide)), (fun _ => ⟨fun _ _ => rfl, fun _ => ⟨rfl, rfl⟩⟩)⟩
theorem fX11_32 : mF vwCl mty TT RX11 32 11 8 1 := ⟨RX11, TX11, 36, clX11, by decide, TT_4 34 rfl rfl, Or.inr ⟨rfl, rfl⟩, (fun h => absurd h (by decide)), (fun _ => ⟨fun _ _ => rfl, fun _ => ⟨rfl, rfl⟩⟩)⟩
theorem fX11_35 : mF vwCl mty TT RX11 35 11 9 1 := ⟨RX11, TX11, 36, clX11, by decide, TT_4 35 rfl rfl, Or.inr ⟨rfl, rfl⟩, (fun h => absurd h (by decide)), (fun _ => ⟨fun _ _ => rfl, fun _ => ⟨rfl, rfl⟩⟩)⟩
theorem fX11_126 : mF vwCl mty TT RX11 126 11 10 0 := ⟨RX11, TX11, 36, clX11, by decide, TT_4 36 rfl rfl, Or.inl rfl, (fun _ _ _ => rfl), (fun h => absurd h (by decide))⟩
theorem fwX11_126 : mFw vwCl RX11 11 10 := ⟨RX11, TX11, 36, rfl, rfl⟩
theorem fX11_38 : mF vwCl mty TT RX11 38 11 11 1 := ⟨RX11, TX11, 36, clX11, by decide, TT_4 37 rfl rfl, Or.inr ⟨rfl, rfl⟩, (fun h => absurd h (by decide)), (fun _ => ⟨fun _ _ => rfl, fun _ => ⟨rfl, rfl⟩⟩)⟩
theorem fX11_41 : mF vwCl mty TT RX11 41 11 12 1 := ⟨RX11, TX11, 36, clX11, by decide, TT_4 38 rfl rfl, Or.inr ⟨rfl, rfl⟩, (fun h => absurd h (by decide)), (fun _ => ⟨fun _ _ => rfl, fun _ => ⟨rfl, rfl⟩⟩)⟩
theorem fX11_44 : mF vwCl mty TT RX11 44 11 13 1 := ⟨RX11, TX11, 36, clX11, by decide, TT_4 39 rfl rfl, Or.inr ⟨rfl, rfl⟩, (fun h => absurd h (by decide)), (fun _ => ⟨fun _ _ => rfl, fun _ => ⟨rfl, rfl⟩⟩)⟩
theorem fX11_47 : mF vwCl mty TT RX11 47 11 14 1 := ⟨RX11, TX11, 36, clX11, by decide, TT_4 40 rfl rfl, Or.inr ⟨rfl, rfl⟩, (fun h => absurd h (by decide)), (fun _ => ⟨fun _ _ => rfl, fun _ => ⟨rfl, rfl⟩⟩)⟩
theorem fX11_51 : mF vwCl mty TT RX11 51 11 15 1 := ⟨RX11, TX11, 36, clX11, by decide, TT_4 41 rfl rfl, Or.inr ⟨rfl, rfl⟩, (fun h => absurd h (by decide)), (fun _ => ⟨fun _ _ => rfl, fun _ => ⟨rfl, rfl⟩⟩)⟩
theorem fX11_54 : mF vwCl mty TT RX11 54 11 16 1 := ⟨RX11, TX11, 36, clX11, by decide, TT_4 42 rfl rfl, Or.inr ⟨rfl, rfl⟩, (fun h => absurd h (by decide)), (fun _ => ⟨fun _ _ => rfl, fun _ => ⟨rfl, rfl⟩⟩)⟩
theorem fX11_57 : mF vwCl mty TT RX11 57 11 17 1 := ⟨RX11, TX11, 36, clX11, by decide, TT_4 43 rfl rfl, Or.inr ⟨rfl, rfl⟩, (fun h => absurd h (by decide)), (fun _ => ⟨fun _ _ => rfl, fun _ => ⟨rfl, rfl⟩⟩)⟩
theorem fX11_60 : mF vwCl mty TT RX11 60 11 18 1 := ⟨RX11, TX11, 36, clX11, by decide, TT_4 44 rfl rfl, Or.inr ⟨rfl, rfl⟩, (fun h => absurd h (by decide)), (fun _ => ⟨fun _ _ => rfl, fun _ => ⟨rfl, rfl⟩⟩)⟩
theorem fX11_63 : mF vwCl mty TT RX11 63 11 19 1 := ⟨RX11, TX11, 36, clX11, by decide, TT_4 45 rfl rfl, Or.inr ⟨rfl, rfl⟩, (fun h => absurd h (by decide)), (fun _ => ⟨fun _ _ => rfl, fun _ => ⟨rfl, rfl⟩⟩)⟩
theorem fX11_99 : mF vwCl mty TT RX11 99 11 20 0 := ⟨RX11, TX11, 36, clX11, by decide, TT_4 46 rfl rfl, Or.inl rfl, (fun _ _ _ => rfl), (fun h => absurd h (by decide))⟩
theorem fwX11_99 : mFw vwCl RX11 11 20 := ⟨RX11, TX11, 36, rfl, rfl⟩
theorem fX11_102 : mF vwCl mty TT RX11 102 11 21 0 := ⟨RX11, TX11, 36, clX11, by decide, TT_4 47 rfl rfl, Or.inl rfl, (fun _ _ _ => rfl), (fun h => absurd h (by decide))⟩
theorem fwX11_102 : mFw vwCl RX11 11 21 := ⟨RX11, TX11, 36, rfl, rfl⟩
theorem fX11_106 : mF vwCl mty TT RX11 106 11 22 0 := ⟨RX11, TX11, 36, clX11, by decide, TT_4 48 rfl rfl, Or.inl rfl, (fun _ _ _ => rfl), (fun h => absurd h (by decide))⟩
theorem fwX11_106 : mFw vwCl RX11 11 22 := ⟨RX11, TX11, 36, rfl, rfl⟩
theorem fX11_109 : mF vwCl mty TT RX11 109 11 23 0 := ⟨RX11, TX11, 36, clX11, by decide, TT_4 49 rfl rfl, Or.inl rfl, (fun _ _ _ => rfl), (fun h => absurd h (by decide))⟩
theorem fwX11_109 : mFw vwCl RX11 11 23 := ⟨RX11, TX11, 36, rfl, rfl⟩
theorem fX11_66 : mF vwCl mty TT RX11 66 11 24 1 := ⟨RX11, TX11, 36, clX11, by decide, TT_4 50 rfl rfl, Or.inr ⟨rfl, rfl⟩, (fun h => absurd h (by decide)), (fun _ => ⟨fun _ _ => rfl, fun _ => ⟨rfl, rfl⟩⟩)⟩
theorem fX11_69 : mF vwCl mty TT RX11 69 11 25 1 := ⟨RX11, TX11, 36, clX11, by decide, TT_4 51 rfl rfl, Or.inr ⟨rfl, rfl⟩, (fun h => absurd h (by decide)), (fun _ => ⟨fun _ _ => rfl, fun _ => ⟨rfl, rfl⟩⟩)⟩
theorem fX11_72 : mF vwCl mty TT RX11 72 11 26 1 := ⟨RX11, TX11, 36, clX11, by decide, TT_4 52 rfl rfl, Or.inr ⟨rfl, rfl⟩, (fun h => absurd h (by decide)), (fun _ => ⟨fun _ _ => rfl, fun _ => ⟨rfl, rfl⟩⟩)⟩
theorem fX11_140 : mF vwCl mty TT RX11 140 11 27 0 := ⟨RX11, TX11, 36, clX11, by decide, TT_4 53 rfl rfl, Or.inl rfl, (fun _ _ _ => rfl), (fun h => absurd h (by decide))⟩
theorem fwX11_140 : mFw vwCl RX11 11 27 := ⟨RX11, TX11, 36, rfl, rfl⟩
theorem fX11_75 : mF vwCl mty TT RX11 75 11 28 1 := ⟨RX11, TX11, 36, clX11, by decide, TT_4 54 rfl rfl, Or.inr ⟨rfl, rfl⟩, (fun h => absurd h (by decide)), (fun _ => ⟨fun _ _ => rfl, fun _ => ⟨rfl, rfl⟩⟩)⟩
theorem fX11_78 : mF vwCl mty TT RX11 78 11 29 1 := ⟨RX11, TX11, 36, clX11, by decide, TT_4 55 rfl rfl, Or.inr ⟨rfl, rfl⟩, (fun h => absurd h (by decide)), (fun _ => ⟨fun _ _ => rfl, fun _ => ⟨rfl, rfl⟩⟩)⟩
theorem fX11_81 : mF vwCl mty TT RX11 81 11 30 1 := ⟨RX11, TX11, 36, clX11, by decide, TT_4 56 rfl rfl, Or.inr ⟨rfl, rfl⟩, (fun h => absurd h (by decide)), (fun _ => ⟨fun _ _ => rfl, fun _ => ⟨rfl, rfl⟩⟩)⟩
theorem fX11_84 : mF vwCl mty TT RX11 84 11 31 1 := ⟨RX11, TX11, 36, clX11, by decide, TT_4 57 rfl rfl, Or.inr ⟨rfl, rfl⟩, (fun h => absurd h (by decide)), (fun _ => ⟨fun _ _ => rfl, fun _ => ⟨rfl, rfl⟩⟩)⟩
theorem fX11_112 : mF vwCl mty TT RX11 112 11 32 0 := ⟨RX11, TX11, 36, clX11, by decide, TT_4 58 rfl rfl, Or.inl rfl, (fun _ _ _ => rfl), (fun h => absurd h (by decide))⟩
theorem fwX11_112 : mFw vwCl RX11 11 32 := ⟨RX11, TX11, 36, rfl, rfl⟩
theorem fX11_87 : mF vwCl mty TT RX11 87 11 33 1 := ⟨RX11, TX11, 36, clX11, by decide, TT_4 59 rfl rfl, Or.inr ⟨rfl, rfl⟩, (fun h => absurd h (by decide)), (fun _ => ⟨fun _ _ => rfl, fun _ => ⟨rfl, rfl⟩⟩)⟩
theorem fX11_90 : mF vwCl mty TT RX11 90 11 34 1 := ⟨RX11, TX11, 36, clX11, by decide, TT_4 60 rfl rfl, Or.inr ⟨rfl, rfl⟩, (fun h => absurd h (by decide)), (fun _ => ⟨fun _ _ => rfl, fun _ => ⟨rfl, rfl⟩⟩)⟩
theorem fX11_93 : mF vwCl mty TT RX11 93 11 35 1 := ⟨RX11, TX11, 36, clX11, by decide, TT_4 61 rfl rfl, Or.inr ⟨rfl, rfl⟩, (fun h => absurd h (by decide)), (fun _ => ⟨fun _ _ => rfl, fun _ => ⟨rfl, rfl⟩⟩)⟩
theorem mX0_init : mMe TT yX0_init cX0_init 1 none 0 := ⟨TT_1 117 rfl rfl, TT_1 7 rfl rfl, by decide +kernel, by decide +kernel⟩
theorem mX0_clear : mMe TT yX0_clear cX0_clear 1 none 0 := ⟨TT_2 136 rfl rfl, TT_1 7 rfl rfl, by decide +kernel, by decide +kernel⟩
theorem mX0_add : mMe TT yX0_add cX0_add 6 none 4 := ⟨TT_3 151 rfl rfl, TT_1 7 rfl rfl, by decide +kernel, by decide +kernel⟩
theorem mX0_total : mMe TT yX0_total cX0_total 1 (some .int) 0 := ⟨TT_3 180 rfl rfl, TT_1 7 rfl rfl, by decide +kernel, by decide +kernel⟩
theorem mX0_size : mMe TT yX0_size cX0_size 1 (some .int) 0 := ⟨TT_3 224 rfl rfl, TT_1 7 rfl rfl, by decide +kernel, by decide +kernel⟩
theorem mX0_part : mMe TT yX0_part cX0_part 3 (some .int) 2 := ⟨TT_3 188 rfl rfl, TT_1 7 rfl rfl, by decide +kernel, by decide +kernel⟩
theorem mX0_holds : mMe TT yX0_holds cX0_holds 6 (some .boolean) 4 := ⟨TT_4 4 rfl rfl, TT_1 7 rfl rfl, by decide +kernel, by decide +kernel⟩
theorem mX1_init : mMe TT yX1_init cX1_init 1 none 0 := ⟨TT_1 139 rfl rfl, TT_1 9 rfl rfl, by decide +kernel, by decide +kernel⟩
theorem mX1_reset : mMe TT yX1_reset cX1_reset 2 none 1 := ⟨TT_2 126 rfl rfl, TT_1 9 rfl rfl, by decide +kernel, by decide +kernel⟩
theorem mX1_inRegister : mMe TT yX1_inRegister cX1_inRegister 2 (some .int) 1 := ⟨TT_3 63 rfl rfl, TT_1 9 rfl rfl, by decide +kernel, by decide +kernel⟩
theorem mX1_atPlace : mMe TT yX1_atPlace cX1_atPlace 2 (some .int) 1 := ⟨TT_3 100 rfl rfl, TT_1 9 rfl rfl, by decide +kernel, by decide +kernel⟩
theorem mX1_take : mMe TT yX1_take cX1_take 4 none 3 := ⟨TT_3 141 rfl rfl, TT_1 9 rfl rfl, by decide +kernel, by decide +kernel⟩
theorem mX2_init : mMe TT yX2_init cX2_init 6 none 5 := ⟨TT_1 72 rfl rfl, TT_1 5 rfl rfl, by decide +kernel, by decide +kernel⟩
theorem mX2_kind : mMe TT yX2_kind cX2_kind 1 (some .int) 0 := ⟨TT_3 23 rfl rfl, TT_1 5 rfl rfl, by decide +kernel, by decide +kernel⟩
theorem mX2_left : mMe TT yX2_left cX2_left 1 (some .int) 0 := ⟨TT_2 233 rfl rfl, TT_1 5 rfl rfl, by decide +kernel, by decide +kernel⟩
theorem mX2_right : mMe TT yX2_right cX2_right 1 (some .int) 0 := ⟨TT_3 19 rfl rfl, TT_1 5 rfl rfl, by decide +kernel, by decide +kernel⟩
theorem mX2_goal : mMe TT yX2_goal cX2_goal 1 (some .int) 0 := ⟨TT_3 96 rfl rfl, TT_1 5 rfl rfl, by decide +kernel, by decide +kernel⟩
theorem mX2_readsLeft : mMe TT yX2_readsLeft cX2_readsLeft 1 (some .boolean) 0 := ⟨TT_2 229 rfl rfl, TT_1 5 rfl rfl, by decide +kernel, by decide +kernel⟩
theorem mX2_readsRight : mMe TT yX2_readsRight cX2_readsRight 1 (some .boolean) 0 := ⟨TT_3 14 rfl rfl, TT_1 5 rfl rfl, by decide +kernel, by decide +kernel⟩
theorem mX2_commitsRegister : mMe TT yX2_commitsRegister cX2_commitsRegister 1 (some .boolean) 0 := ⟨TT_3 128 rfl rfl, TT_1 5 rfl rfl, by decide +kernel, by decide +kernel⟩
theorem mX2_commitsTo : mMe TT yX2_commitsTo cX2_commitsTo 2 (some .boolean) 1 := ⟨TT_3 5 rfl rfl, TT_1 5 rfl rfl, by decide +kernel, by decide +kernel⟩
theorem mX2_commitsAnything : mMe TT yX2_commitsAnything cX2_commitsAnything 1 (some .boolean) 0 := ⟨TT_3 124 rfl rfl, TT_1 5 rfl rfl, by decide +kernel, by decide +kernel⟩
theorem mX2_commitKind : mMe TT yX2_commitKind cX2_commitKind 1 (some .int) 0 := ⟨TT_3 147 rfl rfl, TT_1 5 rfl rfl, by decide +kernel, by decide +kernel⟩
theorem mX2_commitsWhere : mMe TT yX2_commitsWhere cX2_commitsWhere 2 (some .int) 1 := ⟨TT_3 136 rfl rfl, TT_1 5 rfl rfl, by decide +kernel, by decide +kernel⟩
theorem mX2_placeFrom : mMe TT yX2_placeFrom cX2_placeFrom 2 (some .int) 1 := ⟨TT_3 35 rfl rfl, TT_1 5 rfl rfl, by decide +kernel, by decide +kernel⟩
theorem mX2_workedOut : mMe TT yX2_workedOut cX2_workedOut 3 (some .int) 2 := ⟨TT_3 84 rfl rfl, TT_1 5 rfl rfl, by decide +kernel, by decide +kernel⟩
theorem mX2_goesOn : mMe TT yX2_goesOn cX2_goesOn 3 (some .boolean) 2 := ⟨TT_3 92 rfl rfl, TT_1 5 rfl rfl, by decide +kernel, by decide +kernel⟩
theorem mX3_init : mMe TT yX3_init cX3_init 1 none 0 := ⟨TT_1 52 rfl rfl, TT_1 3 rfl rfl, by decide +kernel, by decide +kernel⟩
theorem mX3_become : mMe TT yX3_become cX3_become 3 none 2 := ⟨TT_2 107 rfl rfl, TT_1 3 rfl rfl, by decide +kernel, by decide +kernel⟩
theorem mX3_stageCount : mMe TT yX3_stageCount cX3_stageCount 1 (some .int) 0 := ⟨TT_2 141 rfl rfl, TT_1 3 rfl rfl, by decide +kernel, by decide +kernel⟩
theorem mX3_stageOf : mMe TT yX3_stageOf cX3_stageOf 2 (some .int) 1 := ⟨TT_2 217 rfl rfl, TT_1 3 rfl rfl, by decide +kernel, by decide +kernel⟩
theorem mX3_has : mMe TT yX3_has cX3_has 3 (some .boolean) 2 := ⟨TT_2 213 rfl rfl, TT_1 3 rfl rfl, by decide +kernel, by decide +kernel⟩
theorem mX3_givingStage : mMe TT yX3_givingStage cX3_givingStage 3 (some .int) 1 := ⟨TT_3 109 rfl rfl, TT_1 3 rfl rfl, by decide +kernel, by decide +kernel⟩
theorem mX4_init : mMe TT yX4_init cX4_init 1 none 0 := ⟨TT_1 32 rfl rfl, TT_1 2 rfl rfl, by decide +kernel, by decide +kernel⟩
theorem mX4_firstWrong : mMe TT yX4_firstWrong cX4_firstWrong 4 (some .int) 2 := ⟨TT_2 35 rfl rfl, TT_1 2 rfl rfl, by decide +kernel, by decide +kernel⟩
theorem mX4_writeTo : mMe TT yX4_writeTo cX4_writeTo 2 none 1 := ⟨TT_2 103 rfl rfl, TT_1 2 rfl rfl, by decide +kernel, by decide +kernel⟩
theorem mX4_takes : mMe TT yX4_takes cX4_takes 2 (some .boolean) 1 := ⟨TT_2 42 rfl rfl, TT_1 2 rfl rfl, by decide +kernel, by decide +kernel⟩
theorem mX4_puts : mMe TT yX4_puts cX4_puts 2 (some .boolean) 1 := ⟨TT_2 50 rfl rfl, TT_1 2 rfl rfl, by decide +kernel, by decide +kernel⟩
theorem mX4_takesBreak : mMe TT yX4_takesBreak cX4_takesBreak 1 (some .boolean) 0 := ⟨TT_2 46 rfl rfl, TT_1 2 rfl rfl, by decide +kernel, by decide +kernel⟩
theorem mX5_init : mMe TT yX5_init cX5_init 2 none 1 := ⟨TT_1 157 rfl rfl, TT_1 10 rfl rfl, by decide +kernel, by decide +kernel⟩
theorem mX5_come : mMe TT yX5_come cX5_come 2 none 1 := ⟨TT_2 200 rfl rfl, TT_1 10 rfl rfl, by decide +kernel, by decide +kernel⟩
theorem mX5_leave : mMe TT yX5_leave cX5_leave 1 none 0 := ⟨TT_2 122 rfl rfl, TT_1 10 rfl rfl, by decide +kernel, by decide +kernel⟩
theorem mX5_isPresent : mMe TT yX5_isPresent cX5_isPresent 1 (some .boolean) 0 := ⟨TT_2 196 rfl rfl, TT_1 10 rfl rfl, by decide +kernel, by decide +kernel⟩
theorem mX5_instruction : mMe TT yX5_instruction cX5_instruction 1 (some (.object "PipeForge$Instruction")) 0 := ⟨TT_2 221 rfl rfl, TT_1 10 rfl rfl, by decide +kernel, by decide +kernel⟩
theorem mX5_readLeft : mMe TT yX5_readLeft cX5_readLeft 2 none 1 := ⟨TT_3 72 rfl rfl, TT_1 10 rfl rfl, by decide +kernel, by decide +kernel⟩
theorem mX5_readRight : mMe TT yX5_readRight cX5_readRight 2 none 1 := ⟨TT_3 76 rfl rfl, TT_1 10 rfl rfl, by decide +kernel, by decide +kernel⟩
theorem mX5_workOut : mMe TT yX5_workOut cX5_workOut 1 none 0 := ⟨TT_3 80 rfl rfl, TT_1 10 rfl rfl, by decide +kernel, by decide +kernel⟩
theorem mX5_goesOn : mMe TT yX5_goesOn cX5_goesOn 1 (some .boolean) 0 := ⟨TT_3 88 rfl rfl, TT_1 10 rfl rfl, by decide +kernel, by decide +kernel⟩
theorem mX5_asksPlace : mMe TT yX5_asksPlace cX5_asksPlace 1 (some .int) 0 := ⟨TT_3 31 rfl rfl, TT_1 10 rfl rfl, by decide +kernel, by decide +kernel⟩
theorem mX5_ask : mMe TT yX5_ask cX5_ask 3 none 2 := ⟨TT_3 105 rfl rfl, TT_1 10 rfl rfl, by decide +kernel, by decide +kernel⟩
theorem mX5_isAnswered : mMe TT yX5_isAnswered cX5_isAnswered 3 (some .boolean) 2 := ⟨TT_3 47 rfl rfl, TT_1 10 rfl rfl, by decide +kernel, by decide +kernel⟩
theorem mX5_give : mMe TT yX5_give cX5_give 2 none 1 := ⟨TT_3 116 rfl rfl, TT_1 10 rfl rfl, by decide +kernel, by decide +kernel⟩
theorem mX5_gaveBefore : mMe TT yX5_gaveBefore cX5_gaveBefore 2 (some .boolean) 1 := ⟨TT_3 9 rfl rfl, TT_1 10 rfl rfl, by decide +kernel, by decide +kernel⟩
theorem mX5_worth : mMe TT yX5_worth cX5_worth 1 (some .int) 0 := ⟨TT_3 68 rfl rfl, TT_1 10 rfl rfl, by decide +kernel, by decide +kernel⟩
theorem mX5_commitsWhere : mMe TT yX5_commitsWhere cX5_commitsWhere 1 (some .int) 0 := ⟨TT_3 132 rfl rfl, TT_1 10 rfl rfl, by decide +kernel, by decide +kernel⟩
theorem mX6_init : mMe TT yX6_init cX6_init 3 none 2 := ⟨TT_1 222 rfl rfl, TT_1 11 rfl rfl, by decide +kernel, by decide +kernel⟩
theorem mX6_agreesWith : mMe TT yX6_agreesWith cX6_agreesWith 8 (some .boolean) 1 := ⟨TT_3 218 rfl rfl, TT_1 11 rfl rfl, by decide +kernel, by decide +kernel⟩
theorem mX6_commitsAs : mMe TT yX6_commitsAs cX6_commitsAs 8 (some .boolean) 5 := ⟨TT_3 234 rfl rfl, TT_1 11 rfl rfl, by decide +kernel, by decide +kernel⟩
theorem mX7_init : mMe TT yX7_init cX7_init 6 none 4 := ⟨TT_1 133 rfl rfl, TT_1 8 rfl rfl, by decide +kernel, by decide +kernel⟩
theorem mX7_beginAnew : mMe TT yX7_beginAnew cX7_beginAnew 1 none 0 := ⟨TT_2 114 rfl rfl, TT_1 8 rfl rfl, by decide +kernel, by decide +kernel⟩
theorem mX7_advance : mMe TT yX7_advance cX7_advance 3 none 1 := ⟨TT_2 188 rfl rfl, TT_1 8 rfl rfl, by decide +kernel, by decide +kernel⟩
theorem mX7_reached : mMe TT yX7_reached cX7_reached 1 (some .int) 0 := ⟨TT_3 160 rfl rfl, TT_1 8 rfl rfl, by decide +kernel, by decide +kernel⟩
theorem mX7_isEnded : mMe TT yX7_isEnded cX7_isEnded 1 (some .boolean) 0 := ⟨TT_3 172 rfl rfl, TT_1 8 rfl rfl, by decide +kernel, by decide +kernel⟩
theorem mX7_gone : mMe TT yX7_gone cX7_gone 1 (some .int) 0 := ⟨TT_3 210 rfl rfl, TT_1 8 rfl rfl, by decide +kernel, by decide +kernel⟩
theorem mX7_holdings : mMe TT yX7_holdings cX7_holdings 1 (some (.object "PipeForge$Holdings")) 0 := ⟨TT_3 196 rfl rfl, TT_1 8 rfl rfl, by decide +kernel, by decide +kernel⟩
theorem mX7_step : mMe TT yX7_step cX7_step 2 none 0 := ⟨TT_2 192 rfl rfl, TT_1 8 rfl rfl, by decide +kernel, by decide +kernel⟩
theorem mX7_isLast : mMe TT yX7_isLast cX7_isLast 2 (some .boolean) 1 := ⟨TT_2 209 rfl rfl, TT_1 8 rfl rfl, by decide +kernel, by decide +kernel⟩
theorem mX7_mayFire : mMe TT yX7_mayFire cX7_mayFire 3 (some .boolean) 1 := ⟨TT_2 205 rfl rfl, TT_1 8 rfl rfl, by decide +kernel, by decide +kernel⟩
theorem mX7_mayRead : mMe TT yX7_mayRead cX7_mayRead 3 (some .boolean) 2 := ⟨TT_2 225 rfl rfl, TT_1 8 rfl rfl, by decide +kernel, by decide +kernel⟩
theorem mX7_isReady : mMe TT yX7_isReady cX7_isReady 4 (some .boolean) 2 := ⟨TT_2 237 rfl rfl, TT_1 8 rfl rfl, by decide +kernel, by decide +kernel⟩
theorem mX7_writerAhead : mMe TT yX7_writerAhead cX7_writerAhead 4 (some .int) 2 := ⟨TT_3 1 rfl rfl, TT_1 8 rfl rfl, by decide +kernel, by decide +kernel⟩
theorem mX7_isStoreAhead : mMe TT yX7_isStoreAhead cX7_isStoreAhead 3 (some .boolean) 1 := ⟨TT_3 27 rfl rfl, TT_1 8 rfl rfl, by decide +kernel, by decide +kernel⟩
theorem mX7_fire : mMe TT yX7_fire cX7_fire 4 none 1 := ⟨TT_3 51 rfl rfl, TT_1 8 rfl rfl, by decide +kernel, by decide +kernel⟩
theorem mX7_read : mMe TT yX7_read cX7_read 4 none 2 := ⟨TT_3 55 rfl rfl, TT_1 8 rfl rfl, by decide +kernel, by decide +kernel⟩
theorem mX7_valueFor : mMe TT yX7_valueFor cX7_valueFor 4 (some .int) 2 := ⟨TT_3 59 rfl rfl, TT_1 8 rfl rfl, by decide +kernel, by decide +kernel⟩
theorem mX7_throwOutBehind : mMe TT yX7_throwOutBehind cX7_throwOutBehind 3 none 1 := ⟨TT_2 118 rfl rfl, TT_1 8 rfl rfl, by decide +kernel, by decide +kernel⟩
theorem mX7_finish : mMe TT yX7_finish cX7_finish 4 none 1 := ⟨TT_3 120 rfl rfl, TT_1 8 rfl rfl, by decide +kernel, by decide +kernel⟩
theorem mX7_moveOn : mMe TT yX7_moveOn cX7_moveOn 3 none 1 := ⟨TT_3 156 rfl rfl, TT_1 8 rfl rfl, by decide +kernel, by decide +kernel⟩
theorem mX8_init : mMe TT yX8_init cX8_init 2 none 0 := ⟨TT_1 65 rfl rfl, TT_1 4 rfl rfl, by decide +kernel, by decide +kernel⟩
theorem mX8_isFull : mMe TT yX8_isFull cX8_isFull 1 (some .boolean) 0 := ⟨TT_2 150 rfl rfl, TT_1 4 rfl rfl, by decide +kernel, by decide +kernel⟩
theorem mX8_add : mMe TT yX8_add cX8_add 2 (some .int) 1 := ⟨TT_2 159 rfl rfl, TT_1 4 rfl rfl, by decide +kernel, by decide +kernel⟩
theorem mX8_size : mMe TT yX8_size cX8_size 1 (some .int) 0 := ⟨TT_4 14 rfl rfl, TT_1 4 rfl rfl, by decide +kernel, by decide +kernel⟩
theorem mX8_at : mMe TT yX8_at cX8_at 2 (some (.object "PipeForge$Instruction")) 1 := ⟨TT_1 154 rfl rfl, TT_1 4 rfl rfl, by decide +kernel, by decide +kernel⟩
theorem mX9_init : mMe TT yX9_init cX9_init 1 none 0 := ⟨TT_1 104 rfl rfl, TT_1 6 rfl rfl, by decide +kernel, by decide +kernel⟩
theorem mX9_tell : mMe TT yX9_tell cX9_tell 3 none 2 := ⟨TT_2 171 rfl rfl, TT_1 6 rfl rfl, by decide +kernel, by decide +kernel⟩
theorem mX9_delay : mMe TT yX9_delay cX9_delay 3 none 2 := ⟨TT_2 180 rfl rfl, TT_1 6 rfl rfl, by decide +kernel, by decide +kernel⟩
theorem mX9_delayOf : mMe TT yX9_delayOf cX9_delayOf 2 (some .int) 1 := ⟨TT_3 42 rfl rfl, TT_1 6 rfl rfl, by decide +kernel, by decide +kernel⟩
theorem mX9_fill : mMe TT yX9_fill cX9_fill 2 none 1 := ⟨TT_2 131 rfl rfl, TT_1 6 rfl rfl, by decide +kernel, by decide +kernel⟩
theorem mX10_init : mMe TT yX10_init cX10_init 1 none 0 := ⟨TT_1 24 rfl rfl, TT_1 1 rfl rfl, by decide +kernel, by decide +kernel⟩
theorem mX10_unit : mMe TT yX10_unit cX10_unit 2 (some .boolean) 1 := ⟨TT_2 27 rfl rfl, TT_1 1 rfl rfl, by decide +kernel, by decide +kernel⟩
theorem mX10_line : mMe TT yX10_line cX10_line 2 (some .int) 0 := ⟨TT_2 31 rfl rfl, TT_1 1 rfl rfl, by decide +kernel, by decide +kernel⟩
theorem mX10_code : mMe TT yX10_code cX10_code 7 (some .int) 5 := ⟨TT_2 146 rfl rfl, TT_1 1 rfl rfl, by decide +kernel, by decide +kernel⟩
theorem mX10_memory : mMe TT yX10_memory cX10_memory 3 (some .boolean) 2 := ⟨TT_2 164 rfl rfl, TT_1 1 rfl rfl, by decide +kernel, by decide +kernel⟩
theorem mX10_latency : mMe TT yX10_latency cX10_latency 3 (some .boolean) 2 := ⟨TT_2 176 rfl rfl, TT_1 1 rfl rfl, by decide +kernel, by decide +kernel⟩
theorem mX10_run : mMe TT yX10_run cX10_run 2 (some .int) 1 := ⟨TT_2 184 rfl rfl, TT_1 1 rfl rfl, by decide +kernel, by decide +kernel⟩
theorem mX10_cycle : mMe TT yX10_cycle cX10_cycle 1 (some .int) 0 := ⟨TT_3 164 rfl rfl, TT_1 1 rfl rfl, by decide +kernel, by decide +kernel⟩
theorem mX10_ended : mMe TT yX10_ended cX10_ended 1 (some .boolean) 0 := ⟨TT_3 168 rfl rfl, TT_1 1 rfl rfl, by decide +kernel, by decide +kernel⟩
theorem mX10_commits : mMe TT yX10_commits cX10_commits 1 (some .int) 0 := ⟨TT_3 176 rfl rfl, TT_1 1 rfl rfl, by decide +kernel, by decide +kernel⟩
theorem mX10_commit : mMe TT yX10_commit cX10_commit 3 (some .int) 2 := ⟨TT_3 184 rfl rfl, TT_1 1 rfl rfl, by decide +kernel, by decide +kernel⟩
theorem mX10_register : mMe TT yX10_register cX10_register 2 (some .int) 1 := ⟨TT_3 192 rfl rfl, TT_1 1 rfl rfl, by decide +kernel, by decide +kernel⟩
theorem mX10_place : mMe TT yX10_place cX10_place 2 (some .int) 1 := ⟨TT_3 201 rfl rfl, TT_1 1 rfl rfl, by decide +kernel, by decide +kernel⟩
theorem mX10_retired : mMe TT yX10_retired cX10_retired 1 (some .int) 0 := ⟨TT_3 206 rfl rfl, TT_1 1 rfl rfl, by decide +kernel, by decide +kernel⟩
theorem mX10_faithful : mMe TT yX10_faithful cX10_faithful 1 (some .boolean) 0 := ⟨TT_3 214 rfl rfl, TT_1 1 rfl rfl, by decide +kernel, by decide +kernel⟩
theorem mX10_told : mMe TT yX10_told cX10_told 2 (some .int) 1 := ⟨TT_4 10 rfl rfl, TT_1 1 rfl rfl, by decide +kernel, by decide +kernel⟩
theorem mX10_isRegister : mMe TT yX10_isRegister cX10_isRegister 1 (some .boolean) 1 := ⟨TT_2 153 rfl rfl, TT_1 1 rfl rfl, by decide +kernel, by decide +kernel⟩
theorem mX10_isPlace : mMe TT yX10_isPlace cX10_isPlace 1 (some .boolean) 1 := ⟨TT_2 167 rfl rfl, TT_1 1 rfl rfl, by decide +kernel, by decide +kernel⟩
theorem mX11_init : mMe TT yX11_init cX11_init 1 none 0 := ⟨TT_4 20 rfl rfl, TT_1 12 rfl rfl, by decide +kernel, by decide +kernel⟩
theorem mX11_anew : mMe TT yX11_anew cX11_anew 2 none 0 := ⟨TT_4 25 rfl rfl, TT_1 12 rfl rfl, by decide +kernel, by decide +kernel⟩
theorem mX11_isIn : mMe TT yX11_isIn cX11_isIn 3 (some .boolean) 3 := ⟨TT_4 142 rfl rfl, TT_1 12 rfl rfl, by decide +kernel, by decide +kernel⟩
theorem mX11_unit : mMe TT yX11_unit cX11_unit 2 (some .boolean) 1 := ⟨TT_4 139 rfl rfl, TT_1 12 rfl rfl, by decide +kernel, by decide +kernel⟩
theorem mX11_actionOf : mMe TT yX11_actionOf cX11_actionOf 1 (some .int) 1 := ⟨TT_4 149 rfl rfl, TT_1 12 rfl rfl, by decide +kernel, by decide +kernel⟩
theorem mX11_line : mMe TT yX11_line cX11_line 8 (some .int) 0 := ⟨TT_4 146 rfl rfl, TT_1 12 rfl rfl, by decide +kernel, by decide +kernel⟩
theorem mX11_code : mMe TT yX11_code cX11_code 6 (some .int) 5 := ⟨TT_4 153 rfl rfl, TT_1 12 rfl rfl, by decide +kernel, by decide +kernel⟩
theorem mX11_memory : mMe TT yX11_memory cX11_memory 3 (some .boolean) 2 := ⟨TT_4 157 rfl rfl, TT_1 12 rfl rfl, by decide +kernel, by decide +kernel⟩
theorem mX11_latency : mMe TT yX11_latency cX11_latency 3 (some .boolean) 2 := ⟨TT_4 161 rfl rfl, TT_1 12 rfl rfl, by decide +kernel, by decide +kernel⟩
theorem mX11_kindOf : mMe TT yX11_kindOf cX11_kindOf 2 (some .int) 1 := ⟨TT_4 177 rfl rfl, TT_1 12 rfl rfl, by decide +kernel, by decide +kernel⟩
theorem mX11_commitsRegister : mMe TT yX11_commitsRegister cX11_commitsRegister 3 (some .boolean) 2 := ⟨TT_4 192 rfl rfl, TT_1 12 rfl rfl, by decide +kernel, by decide +kernel⟩
theorem mX11_giver : mMe TT yX11_giver cX11_giver 4 (some .int) 2 := ⟨TT_4 188 rfl rfl, TT_1 12 rfl rfl, by decide +kernel, by decide +kernel⟩
theorem mX11_isReady : mMe TT yX11_isReady cX11_isReady 5 (some .boolean) 2 := ⟨TT_4 184 rfl rfl, TT_1 12 rfl rfl, by decide +kernel, by decide +kernel⟩
theorem mX11_read : mMe TT yX11_read cX11_read 4 (some .int) 2 := ⟨TT_4 211 rfl rfl, TT_1 12 rfl rfl, by decide +kernel, by decide +kernel⟩
theorem mX11_readsOne : mMe TT yX11_readsOne cX11_readsOne 1 (some .boolean) 1 := ⟨TT_4 180 rfl rfl, TT_1 12 rfl rfl, by decide +kernel, by decide +kernel⟩
theorem mX11_readsTwo : mMe TT yX11_readsTwo cX11_readsTwo 1 (some .boolean) 1 := ⟨TT_4 195 rfl rfl, TT_1 12 rfl rfl, by decide +kernel, by decide +kernel⟩
theorem mX11_hasOlderStore : mMe TT yX11_hasOlderStore cX11_hasOlderStore 4 (some .boolean) 1 := ⟨TT_4 199 rfl rfl, TT_1 12 rfl rfl, by decide +kernel, by decide +kernel⟩
theorem mX11_placeOf : mMe TT yX11_placeOf cX11_placeOf 2 (some .int) 1 := ⟨TT_4 203 rfl rfl, TT_1 12 rfl rfl, by decide +kernel, by decide +kernel⟩
theorem mX11_fires : mMe TT yX11_fires cX11_fires 4 (some .boolean) 1 := ⟨TT_4 173 rfl rfl, TT_1 12 rfl rfl, by decide +kernel, by decide +kernel⟩
theorem mX11_workOut : mMe TT yX11_workOut cX11_workOut 6 none 3 := ⟨TT_4 215 rfl rfl, TT_1 12 rfl rfl, by decide +kernel, by decide +kernel⟩
theorem mX11_commitOne : mMe TT yX11_commitOne cX11_commitOne 4 none 3 := ⟨TT_4 223 rfl rfl, TT_1 12 rfl rfl, by decide +kernel, by decide +kernel⟩
theorem mX11_commitAll : mMe TT yX11_commitAll cX11_commitAll 4 none 3 := ⟨TT_4 219 rfl rfl, TT_1 12 rfl rfl, by decide +kernel, by decide +kernel⟩
theorem mX11_fire : mMe TT yX11_fire cX11_fire 5 none 1 := ⟨TT_4 207 rfl rfl, TT_1 12 rfl rfl, by decide +kernel, by decide +kernel⟩
theorem mX11_oneCycle : mMe TT yX11_oneCycle cX11_oneCycle 2 none 0 := ⟨TT_4 169 rfl rfl, TT_1 12 rfl rfl, by decide +kernel, by decide +kernel⟩
theorem mX11_run : mMe TT yX11_run cX11_run 3 (some .int) 1 := ⟨TT_4 165 rfl rfl, TT_1 12 rfl rfl, by decide +kernel, by decide +kernel⟩
theorem mX11_cycle : mMe TT yX11_cycle cX11_cycle 1 (some .int) 0 := ⟨TT_4 227 rfl rfl, TT_1 12 rfl rfl, by decide +kernel, by decide +kernel⟩
theorem mX11_ended : mMe TT yX11_ended cX11_ended 1 (some .boolean) 0 := ⟨TT_4 231 rfl rfl, TT_1 12 rfl rfl, by decide +kernel, by decide +kernel⟩
theorem mX11_commits : mMe TT yX11_commits cX11_commits 1 (some .int) 0 := ⟨TT_4 235 rfl rfl, TT_1 12 rfl rfl, by decide +kernel, by decide +kernel⟩
theorem mX11_commit : mMe TT yX11_commit cX11_commit 3 (some .int) 2 := ⟨TT_4 239 rfl rfl, TT_1 12 rfl rfl, by decide +kernel, by decide +kernel⟩
theorem mX11_register : mMe TT yX11_register cX11_register 2 (some .int) 1 := ⟨TT_5 3 rfl rfl, TT_1 12 rfl rfl, by decide +kernel, by decide +kernel⟩
theorem mX11_place : mMe TT yX11_place cX11_place 2 (some .int) 1 := ⟨TT_5 7 rfl rfl, TT_1 12 rfl rfl, by decide +kernel, by decide +kernel⟩
theorem mX11_retired : mMe TT yX11_retired cX11_retired 1 (some .int) 0 := ⟨TT_5 11 rfl rfl, TT_1 12 rfl rfl, by decide +kernel, by decide +kernel⟩
theorem mX11_faithful : mMe TT yX11_faithful cX11_faithful 12 (some .boolean) 0 := ⟨TT_5 15 rfl rfl, TT_1 12 rfl rfl, by decide +kernel, by decide +kernel⟩
theorem mX11_told : mMe TT yX11_told cX11_told 2 (some .int) 1 := ⟨TT_5 19 rfl rfl, TT_1 12 rfl rfl, by decide +kernel, by decide +kernel⟩
theorem mJ9_floorMod_7cf53 : mMe TT yJ9_floorMod_7cf53 cJ9_floorMod_7cf53 3 (some .int) 2 := ⟨TT_3 38 rfl rfl, TT_1 19 rfl rfl, by decide +kernel, by decide +kernel⟩
theorem mJ9_max_7cf53 : mMe TT yJ9_max_7cf53 cJ9_max_7cf53 2 (some .int) 2 := ⟨TT_3 112 rfl rfl, TT_1 19 rfl rfl, by decide +kernel, by decide +kernel⟩
theorem mJ0_length_8abf5 : mMe TT yJ0_length_8abf5 cJ0_length_8abf5 1 (some .int) 0 := ⟨TT_2 55 rfl rfl, TT_1 14 rfl rfl, by decide +kernel, by decide +kernel⟩
theorem mJ0_charAt_5068e : mMe TT yJ0_charAt_5068e cJ0_charAt_5068e 2 (some .char) 1 := ⟨TT_2 65 rfl rfl, TT_1 14 rfl rfl, by decide +kernel, by decide +kernel⟩
theorem mJ0_coder_7d493 : mMe TT yJ0_coder_7d493 cJ0_coder_7d493 1 (some .byte) 0 := ⟨TT_2 59 rfl rfl, TT_1 14 rfl rfl, by decide +kernel, by decide +kernel⟩
theorem mJ0_isLatin1_aae02 : mMe TT yJ0_isLatin1_aae02 cJ0_isLatin1_aae02 1 (some .boolean) 0 := ⟨TT_2 69 rfl rfl, TT_1 14 rfl rfl, by decide +kernel, by decide +kernel⟩
theorem mJ0_checkIndex_df160 : mMe TT yJ0_checkIndex_df160 cJ0_checkIndex_df160 2 none 2 := ⟨TT_2 75 rfl rfl, TT_1 14 rfl rfl, by decide +kernel, by decide +kernel⟩
theorem mJ1_charAt_3b067 : mMe TT yJ1_charAt_3b067 cJ1_charAt_3b067 2 (some .char) 2 := ⟨TT_2 72 rfl rfl, TT_1 15 rfl rfl, by decide +kernel, by decide +kernel⟩
theorem mJ2_getChar_3b067 : mMe TT yJ2_getChar_3b067 cJ2_getChar_3b067 2 (some .char) 2 := ⟨TT_2 93 rfl rfl, TT_1 17 rfl rfl, by decide +kernel, by decide +kernel⟩
theorem mJ2_length_9d52b : mMe TT yJ2_length_9d52b cJ2_length_9d52b 1 (some .int) 1 := ⟨TT_2 89 rfl rfl, TT_1 17 rfl rfl, by decide +kernel, by decide +kernel⟩
theorem mJ2_charAt_3b067 : mMe TT yJ2_charAt_3b067 cJ2_charAt_3b067 2 (some .char) 2 := ⟨TT_2 83 rfl rfl, TT_1 17 rfl rfl, by decide +kernel, by decide +kernel⟩
theorem mJ2_checkIndex_2214a : mMe TT yJ2_checkIndex_2214a cJ2_checkIndex_2214a 2 none 2 := ⟨TT_2 86 rfl rfl, TT_1 17 rfl rfl, by decide +kernel, by decide +kernel⟩
theorem mJ7_fill_53178 : mMe TT yJ7_fill_53178 cJ7_fill_53178 4 none 2 := ⟨TT_2 38 rfl rfl, TT_1 13 rfl rfl, by decide +kernel, by decide +kernel⟩
theorem mJ3_checkIndex_8e157 : mMe TT yJ3_checkIndex_8e157 cJ3_checkIndex_8e157 3 (some .int) 3 := ⟨TT_2 80 rfl rfl, TT_1 16 rfl rfl, by decide +kernel, by decide +kernel⟩
theorem kL_9 : Cond.methodLink RL 9 yX10_init ∈ TT := TT_1 22 rfl rfl
theorem koX10_1 : Cond.methodLink RX10 1 Lib.objectInit ∈ TT := TT_1 25 rfl rfl
theorem koX4_3 : Cond.methodLink RX4 3 Lib.objectInit ∈ TT := TT_1 33 rfl rfl
theorem koX3_3 : Cond.methodLink RX3 3 Lib.objectInit ∈ TT := TT_1 53 rfl rfl
theorem kX10_29 : Cond.methodLink RX10 29 yX8_init ∈ TT := TT_1 63 rfl rfl
theorem koX8_3 : Cond.methodLink RX8 3 Lib.objectInit ∈ TT := TT_1 66 rfl rfl
theorem kX8_17 : Cond.methodLink RX8 17 yX2_init ∈ TT := TT_1 70 rfl rfl
theorem koX2_3 : Cond.methodLink RX2 3 Lib.objectInit ∈ TT := TT_1 73 rfl rfl
theorem koX9_3 : Cond.methodLink RX9 3 Lib.objectInit ∈ TT := TT_1 105 rfl rfl
theorem koX0_3 : Cond.methodLink RX0 3 Lib.objectInit ∈ TT := TT_1 118 rfl rfl
theorem kX10_50 : Cond.methodLink RX10 50 yX7_init ∈ TT := TT_1 131 rfl rfl
theorem koX7_3 : Cond.methodLink RX7 3 Lib.objectInit ∈ TT := TT_1 134 rfl rfl
theorem koX1_3 : Cond.methodLink RX1 3 Lib.objectInit ∈ TT := TT_1 140 rfl rfl
theorem gX7_44 : mG vwCl TT RX7 44 yX8_at cX8_at 2 (some (.object "PipeForge$Instruction")) 1 8 := ⟨mX8_at, ⟨TX8, 3, rfl⟩, TT_1 151 rfl rfl, TT_1 152 rfl rfl, TT_1 153 rfl rfl⟩
theorem kX7_50 : Cond.methodLink RX7 50 yX5_init ∈ TT := TT_1 155 rfl rfl
theorem koX5_1 : Cond.methodLink RX5 1 Lib.objectInit ∈ TT := TT_1 158 rfl rfl
theorem kX10_59 : Cond.methodLink RX10 59 yX6_init ∈ TT := TT_1 220 rfl rfl
theorem koX6_3 : Cond.methodLink RX6 3 Lib.objectInit ∈ TT := TT_1 223 rfl rfl
theorem gL_13 : mG vwCl TT RL 13 yX10_unit cX10_unit 2 (some .boolean) 1 10 := ⟨mX10_unit, ⟨TX10, 9, rfl⟩, TT_2 24 rfl rfl, TT_2 25 rfl rfl, TT_2 26 rfl rfl⟩
theorem gL_18 : mG vwCl TT RL 18 yX10_line cX10_line 2 (some .int) 0 10 := ⟨mX10_line, ⟨TX10, 9, rfl⟩, TT_2 28 rfl rfl, TT_2 29 rfl rfl, TT_2 30 rfl rfl⟩
theorem gX10_70 : mG vwCl TT RX10 70 yX4_firstWrong cX4_firstWrong 4 (some .int) 2 4 := ⟨mX4_firstWrong, ⟨TX4, 4, rfl⟩, TT_2 32 rfl rfl, TT_2 33 rfl rfl, TT_2 34 rfl rfl⟩
theorem gX4_15 : mGS TT RX4 15 yJ7_fill_53178 cJ7_fill_53178 4 none 2 := ⟨mJ7_fill_53178, TT_2 36 rfl rfl, TT_2 37 rfl rfl⟩
theorem gX4_32 : mG vwCl TT RX4 32 yX4_takes cX4_takes 2 (some .boolean) 1 4 := ⟨mX4_takes, ⟨TX4, 4, rfl⟩, TT_2 39 rfl rfl, TT_2 41 rfl rfl, TT_p (q := (yX4_takes, 4)) 0 rfl rfl⟩
theorem gX4_49 : mG vwCl TT RX4 49 yX4_takesBreak cX4_takesBreak 1 (some .boolean) 0 4 := ⟨mX4_takesBreak, ⟨TX4, 4, rfl⟩, TT_2 43 rfl rfl, TT_2 45 rfl rfl, TT_p (q := (yX4_takesBreak, 4)) 1 rfl rfl⟩
theorem gX4_53 : mG vwCl TT RX4 53 yX4_puts cX4_puts 2 (some .boolean) 1 4 := ⟨mX4_puts, ⟨TX4, 4, rfl⟩, TT_2 47 rfl rfl, TT_2 49 rfl rfl, TT_p (q := (yX4_puts, 4)) 2 rfl rfl⟩
theorem gJ0_495 : mGS TT RJ0 495 yJ1_charAt_3b067 cJ1_charAt_3b067 2 (some .char) 2 := ⟨mJ1_charAt_3b067, TT_2 70 rfl rfl, TT_2 71 rfl rfl⟩
theorem gJ1_9 : mGS TT RJ1 9 yJ0_checkIndex_df160 cJ0_checkIndex_df160 2 none 2 := ⟨mJ0_checkIndex_df160, TT_2 73 rfl rfl, TT_2 74 rfl rfl⟩
theorem gJ0_1059 : mGS TT RJ0 1059 yJ3_checkIndex_8e157 cJ3_checkIndex_8e157 3 (some .int) 3 := ⟨mJ3_checkIndex_8e157, TT_2 78 rfl rfl, TT_2 79 rfl rfl⟩
theorem gJ0_498 : mGS TT RJ0 498 yJ2_charAt_3b067 cJ2_charAt_3b067 2 (some .char) 2 := ⟨mJ2_charAt_3b067, TT_2 81 rfl rfl, TT_2 82 rfl rfl⟩
theorem gJ2_67 : mGS TT RJ2 67 yJ2_checkIndex_2214a cJ2_checkIndex_2214a 2 none 2 := ⟨mJ2_checkIndex_2214a, TT_2 84 rfl rfl, TT_2 85 rfl rfl⟩
theorem gJ2_48 : mGS TT RJ2 48 yJ2_length_9d52b cJ2_length_9d52b 1 (some .int) 1 := ⟨mJ2_length_9d52b, TT_2 87 rfl rfl, TT_2 88 rfl rfl⟩
theorem gJ2_414 : mGS TT RJ2 414 yJ0_checkIndex_df160 cJ0_checkIndex_df160 2 none 2 := ⟨mJ0_checkIndex_df160, TT_2 90 rfl rfl, TT_2 74 rfl rfl⟩
theorem gJ2_71 : mGS TT RJ2 71 yJ2_getChar_3b067 cJ2_getChar_3b067 2 (some .char) 2 := ⟨mJ2_getChar_3b067, TT_2 91 rfl rfl, TT_2 92 rfl rfl⟩
theorem gX10_74 : mG vwCl TT RX10 74 yX4_writeTo cX4_writeTo 2 none 1 4 := ⟨mX4_writeTo, ⟨TX4, 4, rfl⟩, TT_2 100 rfl rfl, TT_2 101 rfl rfl, TT_2 102 rfl rfl⟩
theorem gX4_44 : mG vwCl TT RX4 44 yX3_become cX3_become 3 none 2 3 := ⟨mX3_become, ⟨TX3, 2, rfl⟩, TT_2 104 rfl rfl, TT_2 105 rfl rfl, TT_2 106 rfl rfl⟩
theorem kaX3_19 : Cond.methodLink RX3 19 arraycopyName ∈ TT := TT_2 108 rfl rfl
theorem gX10_78 : mG vwCl TT RX10 78 yX7_beginAnew cX7_beginAnew 1 none 0 7 := ⟨mX7_beginAnew, ⟨TX7, 12, rfl⟩, TT_2 111 rfl rfl, TT_2 112 rfl rfl, TT_2 113 rfl rfl⟩
theorem gX7_53 : mG vwCl TT RX7 53 yX7_throwOutBehind cX7_throwOutBehind 3 none 1 7 := ⟨mX7_throwOutBehind, ⟨TX7, 12, rfl⟩, TT_2 115 rfl rfl, TT_2 117 rfl rfl, TT_p (q := (yX7_throwOutBehind, 12)) 3 rfl rfl⟩
theorem gX7_223 : mG vwCl TT RX7 223 yX5_leave cX5_leave 1 none 0 5 := ⟨mX5_leave, ⟨TX5, 7, rfl⟩, TT_2 119 rfl rfl, TT_2 120 rfl rfl, TT_2 121 rfl rfl⟩
theorem gX7_57 : mG vwCl TT RX7 57 yX1_reset cX1_reset 2 none 1 1 := ⟨mX1_reset, ⟨TX1, 2, rfl⟩, TT_2 123 rfl rfl, TT_2 124 rfl rfl, TT_2 125 rfl rfl⟩
theorem gX1_18 : mGS TT RX1 18 yJ7_fill_53178 cJ7_fill_53178 4 none 2 := ⟨mJ7_fill_53178, TT_2 127 rfl rfl, TT_2 37 rfl rfl⟩
theorem gX1_24 : mG vwCl TT RX1 24 yX9_fill cX9_fill 2 none 1 9 := ⟨mX9_fill, ⟨TX9, 2, rfl⟩, TT_2 128 rfl rfl, TT_2 129 rfl rfl, TT_2 130 rfl rfl⟩
theorem kaX9_28 : Cond.methodLink RX9 28 arraycopyName ∈ TT := TT_2 132 rfl rfl
theorem gX7_61 : mG vwCl TT RX7 61 yX0_clear cX0_clear 1 none 0 0 := ⟨mX0_clear, ⟨TX0, 3, rfl⟩, TT_2 133 rfl rfl, TT_2 134 rfl rfl, TT_2 135 rfl rfl⟩
theorem gX7_66 : mGS TT RX7 66 yJ7_fill_53178 cJ7_fill_53178 4 none 2 := ⟨mJ7_fill_53178, TT_2 137 rfl rfl, TT_2 37 rfl rfl⟩
theorem gX10_81 : mG vwCl TT RX10 81 yX3_stageCount cX3_stageCount 1 (some .int) 0 3 := ⟨mX3_stageCount, ⟨TX3, 2, rfl⟩, TT_2 138 rfl rfl, TT_2 139 rfl rfl, TT_2 140 rfl rfl⟩
theorem gL_23 : mG vwCl TT RL 23 yX10_code cX10_code 7 (some .int) 5 10 := ⟨mX10_code, ⟨TX10, 9, rfl⟩, TT_2 143 rfl rfl, TT_2 144 rfl rfl, TT_2 145 rfl rfl⟩
theorem gX10_85 : mG vwCl TT RX10 85 yX8_isFull cX8_isFull 1 (some .boolean) 0 8 := ⟨mX8_isFull, ⟨TX8, 3, rfl⟩, TT_2 147 rfl rfl, TT_2 148 rfl rfl, TT_2 149 rfl rfl⟩
theorem gX10_89 : mGS TT RX10 89 yX10_isRegister cX10_isRegister 1 (some .boolean) 1 := ⟨mX10_isRegister, TT_2 151 rfl rfl, TT_2 152 rfl rfl⟩
theorem kX10_95 : Cond.methodLink RX10 95 yX2_init ∈ TT := TT_2 155 rfl rfl
theorem gX10_98 : mG vwCl TT RX10 98 yX8_add cX8_add 2 (some .int) 1 8 := ⟨mX8_add, ⟨TX8, 3, rfl⟩, TT_2 156 rfl rfl, TT_2 157 rfl rfl, TT_2 158 rfl rfl⟩
theorem gX8_28 : mG vwCl TT RX8 28 yX8_isFull cX8_isFull 1 (some .boolean) 0 8 := ⟨mX8_isFull, ⟨TX8, 3, rfl⟩, TT_2 160 rfl rfl, TT_2 148 rfl rfl, TT_2 149 rfl rfl⟩
theorem gL_28 : mG vwCl TT RL 28 yX10_memory cX10_memory 3 (some .boolean) 2 10 := ⟨mX10_memory, ⟨TX10, 9, rfl⟩, TT_2 161 rfl rfl, TT_2 162 rfl rfl, TT_2 163 rfl rfl⟩
theorem gX10_102 : mGS TT RX10 102 yX10_isPlace cX10_isPlace 1 (some .boolean) 1 := ⟨mX10_isPlace, TT_2 165 rfl rfl, TT_2 166 rfl rfl⟩
theorem gX10_105 : mG vwCl TT RX10 105 yX9_tell cX9_tell 3 none 2 9 := ⟨mX9_tell, ⟨TX9, 2, rfl⟩, TT_2 168 rfl rfl, TT_2 169 rfl rfl, TT_2 170 rfl rfl⟩
theorem gL_33 : mG vwCl TT RL 33 yX10_latency cX10_latency 3 (some .boolean) 2 10 := ⟨mX10_latency, ⟨TX10, 9, rfl⟩, TT_2 173 rfl rfl, TT_2 174 rfl rfl, TT_2 175 rfl rfl⟩
theorem gX10_109 : mG vwCl TT RX10 109 yX9_delay cX9_delay 3 none 2 9 := ⟨mX9_delay, ⟨TX9, 2, rfl⟩, TT_2 177 rfl rfl, TT_2 178 rfl rfl, TT_2 179 rfl rfl⟩
theorem gL_37 : mG vwCl TT RL 37 yX10_run cX10_run 2 (some .int) 1 10 := ⟨mX10_run, ⟨TX10, 9, rfl⟩, TT_2 181 rfl rfl, TT_2 182 rfl rfl, TT_2 183 rfl rfl⟩
theorem gX10_112 : mG vwCl TT RX10 112 yX7_advance cX7_advance 3 none 1 7 := ⟨mX7_advance, ⟨TX7, 12, rfl⟩, TT_2 185 rfl rfl, TT_2 186 rfl rfl, TT_2 187 rfl rfl⟩
theorem gX7_89 : mG vwCl TT RX7 89 yX7_step cX7_step 2 none 0 7 := ⟨mX7_step, ⟨TX7, 12, rfl⟩, TT_2 189 rfl rfl, TT_2 191 rfl rfl, TT_p (q := (yX7_step, 12)) 4 rfl rfl⟩
theorem gX7_92 : mG vwCl TT RX7 92 yX5_isPresent cX5_isPresent 1 (some .boolean) 0 5 := ⟨mX5_isPresent, ⟨TX5, 7, rfl⟩, TT_2 193 rfl rfl, TT_2 194 rfl rfl, TT_2 195 rfl rfl⟩
theorem gX7_96 : mG vwCl TT RX7 96 yX5_come cX5_come 2 none 1 5 := ⟨mX5_come, ⟨TX5, 7, rfl⟩, TT_2 197 rfl rfl, TT_2 198 rfl rfl, TT_2 199 rfl rfl⟩
theorem gX7_99 : mG vwCl TT RX7 99 yX3_stageCount cX3_stageCount 1 (some .int) 0 3 := ⟨mX3_stageCount, ⟨TX3, 2, rfl⟩, TT_2 201 rfl rfl, TT_2 139 rfl rfl, TT_2 140 rfl rfl⟩
theorem gX7_105 : mG vwCl TT RX7 105 yX7_mayFire cX7_mayFire 3 (some .boolean) 1 7 := ⟨mX7_mayFire, ⟨TX7, 12, rfl⟩, TT_2 202 rfl rfl, TT_2 204 rfl rfl, TT_p (q := (yX7_mayFire, 12)) 5 rfl rfl⟩
theorem gX7_112 : mG vwCl TT RX7 112 yX7_isLast cX7_isLast 2 (some .boolean) 1 7 := ⟨mX7_isLast, ⟨TX7, 12, rfl⟩, TT_2 206 rfl rfl, TT_2 208 rfl rfl, TT_p (q := (yX7_isLast, 12)) 6 rfl rfl⟩
theorem gX7_115 : mG vwCl TT RX7 115 yX3_has cX3_has 3 (some .boolean) 2 3 := ⟨mX3_has, ⟨TX3, 2, rfl⟩, TT_2 210 rfl rfl, TT_2 211 rfl rfl, TT_2 212 rfl rfl⟩
theorem gX3_25 : mG vwCl TT RX3 25 yX3_stageOf cX3_stageOf 2 (some .int) 1 3 := ⟨mX3_stageOf, ⟨TX3, 2, rfl⟩, TT_2 214 rfl rfl, TT_2 215 rfl rfl, TT_2 216 rfl rfl⟩
theorem gX7_119 : mG vwCl TT RX7 119 yX5_instruction cX5_instruction 1 (some (.object "PipeForge$Instruction")) 0 5 := ⟨mX5_instruction, ⟨TX5, 7, rfl⟩, TT_2 218 rfl rfl, TT_2 219 rfl rfl, TT_2 220 rfl rfl⟩
theorem gX7_123 : mG vwCl TT RX7 123 yX7_mayRead cX7_mayRead 3 (some .boolean) 2 7 := ⟨mX7_mayRead, ⟨TX7, 12, rfl⟩, TT_2 222 rfl rfl, TT_2 224 rfl rfl, TT_p (q := (yX7_mayRead, 12)) 7 rfl rfl⟩
theorem gX7_147 : mG vwCl TT RX7 147 yX2_readsLeft cX2_readsLeft 1 (some .boolean) 0 2 := ⟨mX2_readsLeft, ⟨TX2, 5, rfl⟩, TT_2 226 rfl rfl, TT_2 227 rfl rfl, TT_2 228 rfl rfl⟩
theorem gX7_150 : mG vwCl TT RX7 150 yX2_left cX2_left 1 (some .int) 0 2 := ⟨mX2_left, ⟨TX2, 5, rfl⟩, TT_2 230 rfl rfl, TT_2 231 rfl rfl, TT_2 232 rfl rfl⟩
theorem gX7_153 : mG vwCl TT RX7 153 yX7_isReady cX7_isReady 4 (some .boolean) 2 7 := ⟨mX7_isReady, ⟨TX7, 12, rfl⟩, TT_2 234 rfl rfl, TT_2 236 rfl rfl, TT_p (q := (yX7_isReady, 12)) 8 rfl rfl⟩
theorem gX7_162 : mG vwCl TT RX7 162 yX7_writerAhead cX7_writerAhead 4 (some .int) 2 7 := ⟨mX7_writerAhead, ⟨TX7, 12, rfl⟩, TT_2 238 rfl rfl, TT_3 0 rfl rfl, TT_p (q := (yX7_writerAhead, 12)) 9 rfl rfl⟩
theorem gX7_172 : mG vwCl TT RX7 172 yX2_commitsTo cX2_commitsTo 2 (some .boolean) 1 2 := ⟨mX2_commitsTo, ⟨TX2, 5, rfl⟩, TT_3 2 rfl rfl, TT_3 3 rfl rfl, TT_3 4 rfl rfl⟩
theorem gX7_166 : mG vwCl TT RX7 166 yX5_gaveBefore cX5_gaveBefore 2 (some .boolean) 1 5 := ⟨mX5_gaveBefore, ⟨TX5, 7, rfl⟩, TT_3 6 rfl rfl, TT_3 7 rfl rfl, TT_3 8 rfl rfl⟩
theorem gX7_156 : mG vwCl TT RX7 156 yX2_readsRight cX2_readsRight 1 (some .boolean) 0 2 := ⟨mX2_readsRight, ⟨TX2, 5, rfl⟩, TT_3 11 rfl rfl, TT_3 12 rfl rfl, TT_3 13 rfl rfl⟩
theorem gX2_27 : mG vwCl TT RX2 27 yX2_readsLeft cX2_readsLeft 1 (some .boolean) 0 2 := ⟨mX2_readsLeft, ⟨TX2, 5, rfl⟩, TT_3 15 rfl rfl, TT_2 227 rfl rfl, TT_2 228 rfl rfl⟩
theorem gX7_159 : mG vwCl TT RX7 159 yX2_right cX2_right 1 (some .int) 0 2 := ⟨mX2_right, ⟨TX2, 5, rfl⟩, TT_3 16 rfl rfl, TT_3 17 rfl rfl, TT_3 18 rfl rfl⟩
theorem gX7_127 : mG vwCl TT RX7 127 yX2_kind cX2_kind 1 (some .int) 0 2 := ⟨mX2_kind, ⟨TX2, 5, rfl⟩, TT_3 20 rfl rfl, TT_3 21 rfl rfl, TT_3 22 rfl rfl⟩
theorem gX7_132 : mG vwCl TT RX7 132 yX7_isStoreAhead cX7_isStoreAhead 3 (some .boolean) 1 7 := ⟨mX7_isStoreAhead, ⟨TX7, 12, rfl⟩, TT_3 24 rfl rfl, TT_3 26 rfl rfl, TT_p (q := (yX7_isStoreAhead, 12)) 10 rfl rfl⟩
theorem gX7_135 : mG vwCl TT RX7 135 yX5_asksPlace cX5_asksPlace 1 (some .int) 0 5 := ⟨mX5_asksPlace, ⟨TX5, 7, rfl⟩, TT_3 28 rfl rfl, TT_3 29 rfl rfl, TT_3 30 rfl rfl⟩
theorem gX5_43 : mG vwCl TT RX5 43 yX2_placeFrom cX2_placeFrom 2 (some .int) 1 2 := ⟨mX2_placeFrom, ⟨TX2, 5, rfl⟩, TT_3 32 rfl rfl, TT_3 33 rfl rfl, TT_3 34 rfl rfl⟩
theorem gX2_38 : mGS TT RX2 38 yJ9_floorMod_7cf53 cJ9_floorMod_7cf53 3 (some .int) 2 := ⟨mJ9_floorMod_7cf53, TT_3 36 rfl rfl, TT_3 37 rfl rfl⟩
theorem gX7_138 : mG vwCl TT RX7 138 yX9_delayOf cX9_delayOf 2 (some .int) 1 9 := ⟨mX9_delayOf, ⟨TX9, 2, rfl⟩, TT_3 39 rfl rfl, TT_3 40 rfl rfl, TT_3 41 rfl rfl⟩
theorem gX9_22 : mGS TT RX9 22 yJ9_floorMod_7cf53 cJ9_floorMod_7cf53 3 (some .int) 2 := ⟨mJ9_floorMod_7cf53, TT_3 43 rfl rfl, TT_3 37 rfl rfl⟩
theorem gX7_144 : mG vwCl TT RX7 144 yX5_isAnswered cX5_isAnswered 3 (some .boolean) 2 5 := ⟨mX5_isAnswered, ⟨TX5, 7, rfl⟩, TT_3 44 rfl rfl, TT_3 45 rfl rfl, TT_3 46 rfl rfl⟩
theorem gX7_109 : mG vwCl TT RX7 109 yX7_fire cX7_fire 4 none 1 7 := ⟨mX7_fire, ⟨TX7, 12, rfl⟩, TT_3 48 rfl rfl, TT_3 50 rfl rfl, TT_p (q := (yX7_fire, 12)) 11 rfl rfl⟩
theorem gX7_175 : mG vwCl TT RX7 175 yX7_read cX7_read 4 none 2 7 := ⟨mX7_read, ⟨TX7, 12, rfl⟩, TT_3 52 rfl rfl, TT_3 54 rfl rfl, TT_p (q := (yX7_read, 12)) 12 rfl rfl⟩
theorem gX7_208 : mG vwCl TT RX7 208 yX7_valueFor cX7_valueFor 4 (some .int) 2 7 := ⟨mX7_valueFor, ⟨TX7, 12, rfl⟩, TT_3 56 rfl rfl, TT_3 58 rfl rfl, TT_p (q := (yX7_valueFor, 12)) 13 rfl rfl⟩
theorem gX7_217 : mG vwCl TT RX7 217 yX1_inRegister cX1_inRegister 2 (some .int) 1 1 := ⟨mX1_inRegister, ⟨TX1, 2, rfl⟩, TT_3 60 rfl rfl, TT_3 61 rfl rfl, TT_3 62 rfl rfl⟩
theorem gX7_220 : mG vwCl TT RX7 220 yX5_worth cX5_worth 1 (some .int) 0 5 := ⟨mX5_worth, ⟨TX5, 7, rfl⟩, TT_3 65 rfl rfl, TT_3 66 rfl rfl, TT_3 67 rfl rfl⟩
theorem gX7_211 : mG vwCl TT RX7 211 yX5_readLeft cX5_readLeft 2 none 1 5 := ⟨mX5_readLeft, ⟨TX5, 7, rfl⟩, TT_3 69 rfl rfl, TT_3 70 rfl rfl, TT_3 71 rfl rfl⟩
theorem gX7_214 : mG vwCl TT RX7 214 yX5_readRight cX5_readRight 2 none 1 5 := ⟨mX5_readRight, ⟨TX5, 7, rfl⟩, TT_3 73 rfl rfl, TT_3 74 rfl rfl, TT_3 75 rfl rfl⟩
theorem gX7_179 : mG vwCl TT RX7 179 yX5_workOut cX5_workOut 1 none 0 5 := ⟨mX5_workOut, ⟨TX5, 7, rfl⟩, TT_3 77 rfl rfl, TT_3 78 rfl rfl, TT_3 79 rfl rfl⟩
theorem gX5_33 : mG vwCl TT RX5 33 yX2_workedOut cX2_workedOut 3 (some .int) 2 2 := ⟨mX2_workedOut, ⟨TX2, 5, rfl⟩, TT_3 81 rfl rfl, TT_3 82 rfl rfl, TT_3 83 rfl rfl⟩
theorem gX7_182 : mG vwCl TT RX7 182 yX5_goesOn cX5_goesOn 1 (some .boolean) 0 5 := ⟨mX5_goesOn, ⟨TX5, 7, rfl⟩, TT_3 85 rfl rfl, TT_3 86 rfl rfl, TT_3 87 rfl rfl⟩
theorem gX5_39 : mG vwCl TT RX5 39 yX2_goesOn cX2_goesOn 3 (some .boolean) 2 2 := ⟨mX2_goesOn, ⟨TX2, 5, rfl⟩, TT_3 89 rfl rfl, TT_3 90 rfl rfl, TT_3 91 rfl rfl⟩
theorem gX7_185 : mG vwCl TT RX7 185 yX2_goal cX2_goal 1 (some .int) 0 2 := ⟨mX2_goal, ⟨TX2, 5, rfl⟩, TT_3 93 rfl rfl, TT_3 94 rfl rfl, TT_3 95 rfl rfl⟩
theorem gX7_188 : mG vwCl TT RX7 188 yX1_atPlace cX1_atPlace 2 (some .int) 1 1 := ⟨mX1_atPlace, ⟨TX1, 2, rfl⟩, TT_3 97 rfl rfl, TT_3 98 rfl rfl, TT_3 99 rfl rfl⟩
theorem gX7_191 : mG vwCl TT RX7 191 yX5_ask cX5_ask 3 none 2 5 := ⟨mX5_ask, ⟨TX5, 7, rfl⟩, TT_3 102 rfl rfl, TT_3 103 rfl rfl, TT_3 104 rfl rfl⟩
theorem gX7_195 : mG vwCl TT RX7 195 yX3_givingStage cX3_givingStage 3 (some .int) 1 3 := ⟨mX3_givingStage, ⟨TX3, 2, rfl⟩, TT_3 106 rfl rfl, TT_3 107 rfl rfl, TT_3 108 rfl rfl⟩
theorem gX3_29 : mGS TT RX3 29 yJ9_max_7cf53 cJ9_max_7cf53 2 (some .int) 2 := ⟨mJ9_max_7cf53, TT_3 110 rfl rfl, TT_3 111 rfl rfl⟩
theorem gX7_198 : mG vwCl TT RX7 198 yX5_give cX5_give 2 none 1 5 := ⟨mX5_give, ⟨TX5, 7, rfl⟩, TT_3 113 rfl rfl, TT_3 114 rfl rfl, TT_3 115 rfl rfl⟩
theorem gX7_201 : mG vwCl TT RX7 201 yX7_finish cX7_finish 4 none 1 7 := ⟨mX7_finish, ⟨TX7, 12, rfl⟩, TT_3 117 rfl rfl, TT_3 119 rfl rfl, TT_p (q := (yX7_finish, 12)) 14 rfl rfl⟩
theorem gX7_226 : mG vwCl TT RX7 226 yX2_commitsAnything cX2_commitsAnything 1 (some .boolean) 0 2 := ⟨mX2_commitsAnything, ⟨TX2, 5, rfl⟩, TT_3 121 rfl rfl, TT_3 122 rfl rfl, TT_3 123 rfl rfl⟩
theorem gX2_31 : mG vwCl TT RX2 31 yX2_commitsRegister cX2_commitsRegister 1 (some .boolean) 0 2 := ⟨mX2_commitsRegister, ⟨TX2, 5, rfl⟩, TT_3 125 rfl rfl, TT_3 126 rfl rfl, TT_3 127 rfl rfl⟩
theorem gX7_229 : mG vwCl TT RX7 229 yX5_commitsWhere cX5_commitsWhere 1 (some .int) 0 5 := ⟨mX5_commitsWhere, ⟨TX5, 7, rfl⟩, TT_3 129 rfl rfl, TT_3 130 rfl rfl, TT_3 131 rfl rfl⟩
theorem gX5_47 : mG vwCl TT RX5 47 yX2_commitsWhere cX2_commitsWhere 2 (some .int) 1 2 := ⟨mX2_commitsWhere, ⟨TX2, 5, rfl⟩, TT_3 133 rfl rfl, TT_3 134 rfl rfl, TT_3 135 rfl rfl⟩
theorem gX2_34 : mG vwCl TT RX2 34 yX2_placeFrom cX2_placeFrom 2 (some .int) 1 2 := ⟨mX2_placeFrom, ⟨TX2, 5, rfl⟩, TT_3 137 rfl rfl, TT_3 33 rfl rfl, TT_3 34 rfl rfl⟩
theorem gX7_232 : mG vwCl TT RX7 232 yX1_take cX1_take 4 none 3 1 := ⟨mX1_take, ⟨TX1, 2, rfl⟩, TT_3 138 rfl rfl, TT_3 139 rfl rfl, TT_3 140 rfl rfl⟩
theorem gX1_36 : mG vwCl TT RX1 36 yX2_commitsRegister cX2_commitsRegister 1 (some .boolean) 0 2 := ⟨mX2_commitsRegister, ⟨TX2, 5, rfl⟩, TT_3 142 rfl rfl, TT_3 126 rfl rfl, TT_3 127 rfl rfl⟩
theorem gX1_42 : mG vwCl TT RX1 42 yX2_kind cX2_kind 1 (some .int) 0 2 := ⟨mX2_kind, ⟨TX2, 5, rfl⟩, TT_3 143 rfl rfl, TT_3 21 rfl rfl, TT_3 22 rfl rfl⟩
theorem gX7_236 : mG vwCl TT RX7 236 yX2_commitKind cX2_commitKind 1 (some .int) 0 2 := ⟨mX2_commitKind, ⟨TX2, 5, rfl⟩, TT_3 144 rfl rfl, TT_3 145 rfl rfl, TT_3 146 rfl rfl⟩
theorem gX7_239 : mG vwCl TT RX7 239 yX0_add cX0_add 6 none 4 0 := ⟨mX0_add, ⟨TX0, 3, rfl⟩, TT_3 148 rfl rfl, TT_3 149 rfl rfl, TT_3 150 rfl rfl⟩
theorem gX7_243 : mG vwCl TT RX7 243 yX2_commitsRegister cX2_commitsRegister 1 (some .boolean) 0 2 := ⟨mX2_commitsRegister, ⟨TX2, 5, rfl⟩, TT_3 152 rfl rfl, TT_3 126 rfl rfl, TT_3 127 rfl rfl⟩
theorem gX7_205 : mG vwCl TT RX7 205 yX7_moveOn cX7_moveOn 3 none 1 7 := ⟨mX7_moveOn, ⟨TX7, 12, rfl⟩, TT_3 153 rfl rfl, TT_3 155 rfl rfl, TT_p (q := (yX7_moveOn, 12)) 15 rfl rfl⟩
theorem gX10_116 : mG vwCl TT RX10 116 yX7_reached cX7_reached 1 (some .int) 0 7 := ⟨mX7_reached, ⟨TX7, 12, rfl⟩, TT_3 157 rfl rfl, TT_3 158 rfl rfl, TT_3 159 rfl rfl⟩
theorem gL_42 : mG vwCl TT RL 42 yX10_cycle cX10_cycle 1 (some .int) 0 10 := ⟨mX10_cycle, ⟨TX10, 9, rfl⟩, TT_3 161 rfl rfl, TT_3 162 rfl rfl, TT_3 163 rfl rfl⟩
theorem gL_46 : mG vwCl TT RL 46 yX10_ended cX10_ended 1 (some .boolean) 0 10 := ⟨mX10_ended, ⟨TX10, 9, rfl⟩, TT_3 165 rfl rfl, TT_3 166 rfl rfl, TT_3 167 rfl rfl⟩
theorem gX10_119 : mG vwCl TT RX10 119 yX7_isEnded cX7_isEnded 1 (some .boolean) 0 7 := ⟨mX7_isEnded, ⟨TX7, 12, rfl⟩, TT_3 169 rfl rfl, TT_3 170 rfl rfl, TT_3 171 rfl rfl⟩
theorem gL_51 : mG vwCl TT RL 51 yX10_commits cX10_commits 1 (some .int) 0 10 := ⟨mX10_commits, ⟨TX10, 9, rfl⟩, TT_3 173 rfl rfl, TT_3 174 rfl rfl, TT_3 175 rfl rfl⟩
theorem gX10_122 : mG vwCl TT RX10 122 yX0_total cX0_total 1 (some .int) 0 0 := ⟨mX0_total, ⟨TX0, 3, rfl⟩, TT_3 177 rfl rfl, TT_3 178 rfl rfl, TT_3 179 rfl rfl⟩
theorem gL_55 : mG vwCl TT RL 55 yX10_commit cX10_commit 3 (some .int) 2 10 := ⟨mX10_commit, ⟨TX10, 9, rfl⟩, TT_3 181 rfl rfl, TT_3 182 rfl rfl, TT_3 183 rfl rfl⟩
theorem gX10_125 : mG vwCl TT RX10 125 yX0_part cX0_part 3 (some .int) 2 0 := ⟨mX0_part, ⟨TX0, 3, rfl⟩, TT_3 185 rfl rfl, TT_3 186 rfl rfl, TT_3 187 rfl rfl⟩
theorem gL_60 : mG vwCl TT RL 60 yX10_register cX10_register 2 (some .int) 1 10 := ⟨mX10_register, ⟨TX10, 9, rfl⟩, TT_3 189 rfl rfl, TT_3 190 rfl rfl, TT_3 191 rfl rfl⟩
theorem gX10_129 : mG vwCl TT RX10 129 yX7_holdings cX7_holdings 1 (some (.object "PipeForge$Holdings")) 0 7 := ⟨mX7_holdings, ⟨TX7, 12, rfl⟩, TT_3 193 rfl rfl, TT_3 194 rfl rfl, TT_3 195 rfl rfl⟩
theorem gX10_133 : mG vwCl TT RX10 133 yX1_inRegister cX1_inRegister 2 (some .int) 1 1 := ⟨mX1_inRegister, ⟨TX1, 2, rfl⟩, TT_3 197 rfl rfl, TT_3 61 rfl rfl, TT_3 62 rfl rfl⟩
theorem gL_64 : mG vwCl TT RL 64 yX10_place cX10_place 2 (some .int) 1 10 := ⟨mX10_place, ⟨TX10, 9, rfl⟩, TT_3 198 rfl rfl, TT_3 199 rfl rfl, TT_3 200 rfl rfl⟩
theorem gX10_139 : mG vwCl TT RX10 139 yX1_atPlace cX1_atPlace 2 (some .int) 1 1 := ⟨mX1_atPlace, ⟨TX1, 2, rfl⟩, TT_3 202 rfl rfl, TT_3 98 rfl rfl, TT_3 99 rfl rfl⟩
theorem gL_68 : mG vwCl TT RL 68 yX10_retired cX10_retired 1 (some .int) 0 10 := ⟨mX10_retired, ⟨TX10, 9, rfl⟩, TT_3 203 rfl rfl, TT_3 204 rfl rfl, TT_3 205 rfl rfl⟩
theorem gX10_142 : mG vwCl TT RX10 142 yX7_gone cX7_gone 1 (some .int) 0 7 := ⟨mX7_gone, ⟨TX7, 12, rfl⟩, TT_3 207 rfl rfl, TT_3 208 rfl rfl, TT_3 209 rfl rfl⟩
theorem gL_72 : mG vwCl TT RL 72 yX10_faithful cX10_faithful 1 (some .boolean) 0 10 := ⟨mX10_faithful, ⟨TX10, 9, rfl⟩, TT_3 211 rfl rfl, TT_3 212 rfl rfl, TT_3 213 rfl rfl⟩
theorem gX10_145 : mG vwCl TT RX10 145 yX6_agreesWith cX6_agreesWith 8 (some .boolean) 1 6 := ⟨mX6_agreesWith, ⟨TX6, 3, rfl⟩, TT_3 215 rfl rfl, TT_3 216 rfl rfl, TT_3 217 rfl rfl⟩
theorem gX6_26 : mG vwCl TT RX6 26 yX1_reset cX1_reset 2 none 1 1 := ⟨mX1_reset, ⟨TX1, 2, rfl⟩, TT_3 219 rfl rfl, TT_2 124 rfl rfl, TT_2 125 rfl rfl⟩
theorem gX6_31 : mG vwCl TT RX6 31 yX0_size cX0_size 1 (some .int) 0 0 := ⟨mX0_size, ⟨TX0, 3, rfl⟩, TT_3 221 rfl rfl, TT_3 222 rfl rfl, TT_3 223 rfl rfl⟩
theorem gX6_37 : mG vwCl TT RX6 37 yX8_at cX8_at 2 (some (.object "PipeForge$Instruction")) 1 8 := ⟨mX8_at, ⟨TX8, 3, rfl⟩, TT_3 225 rfl rfl, TT_1 152 rfl rfl, TT_1 153 rfl rfl⟩
theorem gX6_43 : mG vwCl TT RX6 43 yX2_kind cX2_kind 1 (some .int) 0 2 := ⟨mX2_kind, ⟨TX2, 5, rfl⟩, TT_3 226 rfl rfl, TT_3 21 rfl rfl, TT_3 22 rfl rfl⟩
theorem gX6_48 : mG vwCl TT RX6 48 yX2_left cX2_left 1 (some .int) 0 2 := ⟨mX2_left, ⟨TX2, 5, rfl⟩, TT_3 227 rfl rfl, TT_2 231 rfl rfl, TT_2 232 rfl rfl⟩
theorem gX6_51 : mG vwCl TT RX6 51 yX1_inRegister cX1_inRegister 2 (some .int) 1 1 := ⟨mX1_inRegister, ⟨TX1, 2, rfl⟩, TT_3 228 rfl rfl, TT_3 61 rfl rfl, TT_3 62 rfl rfl⟩
theorem gX6_55 : mG vwCl TT RX6 55 yX2_right cX2_right 1 (some .int) 0 2 := ⟨mX2_right, ⟨TX2, 5, rfl⟩, TT_3 229 rfl rfl, TT_3 17 rfl rfl, TT_3 18 rfl rfl⟩
theorem gX6_58 : mG vwCl TT RX6 58 yX2_commitsAnything cX2_commitsAnything 1 (some .boolean) 0 2 := ⟨mX2_commitsAnything, ⟨TX2, 5, rfl⟩, TT_3 230 rfl rfl, TT_3 122 rfl rfl, TT_3 123 rfl rfl⟩
theorem gX6_62 : mG vwCl TT RX6 62 yX6_commitsAs cX6_commitsAs 8 (some .boolean) 5 6 := ⟨mX6_commitsAs, ⟨TX6, 3, rfl⟩, TT_3 231 rfl rfl, TT_3 233 rfl rfl, TT_p (q := (yX6_commitsAs, 3)) 16 rfl rfl⟩
theorem gX6_73 : mG vwCl TT RX6 73 yX2_commitsWhere cX2_commitsWhere 2 (some .int) 1 2 := ⟨mX2_commitsWhere, ⟨TX2, 5, rfl⟩, TT_3 235 rfl rfl, TT_3 134 rfl rfl, TT_3 135 rfl rfl⟩
theorem gX6_76 : mG vwCl TT RX6 76 yX2_placeFrom cX2_placeFrom 2 (some .int) 1 2 := ⟨mX2_placeFrom, ⟨TX2, 5, rfl⟩, TT_3 236 rfl rfl, TT_3 33 rfl rfl, TT_3 34 rfl rfl⟩
theorem gX6_79 : mG vwCl TT RX6 79 yX1_atPlace cX1_atPlace 2 (some .int) 1 1 := ⟨mX1_atPlace, ⟨TX1, 2, rfl⟩, TT_3 237 rfl rfl, TT_3 98 rfl rfl, TT_3 99 rfl rfl⟩
theorem gX6_82 : mG vwCl TT RX6 82 yX2_workedOut cX2_workedOut 3 (some .int) 2 2 := ⟨mX2_workedOut, ⟨TX2, 5, rfl⟩, TT_3 238 rfl rfl, TT_3 82 rfl rfl, TT_3 83 rfl rfl⟩
theorem gX6_86 : mG vwCl TT RX6 86 yX1_take cX1_take 4 none 3 1 := ⟨mX1_take, ⟨TX1, 2, rfl⟩, TT_3 239 rfl rfl, TT_3 139 rfl rfl, TT_3 140 rfl rfl⟩
theorem gX6_90 : mG vwCl TT RX6 90 yX2_commitKind cX2_commitKind 1 (some .int) 0 2 := ⟨mX2_commitKind, ⟨TX2, 5, rfl⟩, TT_4 0 rfl rfl, TT_3 145 rfl rfl, TT_3 146 rfl rfl⟩
theorem gX6_93 : mG vwCl TT RX6 93 yX0_holds cX0_holds 6 (some .boolean) 4 0 := ⟨mX0_holds, ⟨TX0, 3, rfl⟩, TT_4 1 rfl rfl, TT_4 2 rfl rfl, TT_4 3 rfl rfl⟩
theorem gX6_66 : mG vwCl TT RX6 66 yX2_goesOn cX2_goesOn 3 (some .boolean) 2 2 := ⟨mX2_goesOn, ⟨TX2, 5, rfl⟩, TT_4 5 rfl rfl, TT_3 90 rfl rfl, TT_3 91 rfl rfl⟩
theorem gX6_70 : mG vwCl TT RX6 70 yX2_goal cX2_goal 1 (some .int) 0 2 := ⟨mX2_goal, ⟨TX2, 5, rfl⟩, TT_4 6 rfl rfl, TT_3 94 rfl rfl, TT_3 95 rfl rfl⟩
theorem gL_76 : mG vwCl TT RL 76 yX10_told cX10_told 2 (some .int) 1 10 := ⟨mX10_told, ⟨TX10, 9, rfl⟩, TT_4 7 rfl rfl, TT_4 8 rfl rfl, TT_4 9 rfl rfl⟩
theorem gX10_149 : mG vwCl TT RX10 149 yX8_size cX8_size 1 (some .int) 0 8 := ⟨mX8_size, ⟨TX8, 3, rfl⟩, TT_4 11 rfl rfl, TT_4 12 rfl rfl, TT_4 13 rfl rfl⟩
theorem gX10_152 : mG vwCl TT RX10 152 yX3_stageOf cX3_stageOf 2 (some .int) 1 3 := ⟨mX3_stageOf, ⟨TX3, 2, rfl⟩, TT_4 15 rfl rfl, TT_2 215 rfl rfl, TT_2 216 rfl rfl⟩
theorem kL_12 : Cond.methodLink RL 12 yX11_init ∈ TT := TT_4 18 rfl rfl
theorem koX11_1 : Cond.methodLink RX11 1 Lib.objectInit ∈ TT := TT_4 21 rfl rfl
theorem gX11_96 : mG vwCl TT RX11 96 yX11_anew cX11_anew 2 none 0 11 := ⟨mX11_anew, ⟨TX11, 36, rfl⟩, TT_4 22 rfl rfl, TT_4 24 rfl rfl, TT_p (q := (yX11_anew, 36)) 17 rfl rfl⟩
theorem gL_17 : mG vwCl TT RL 17 yX11_unit cX11_unit 2 (some .boolean) 1 11 := ⟨mX11_unit, ⟨TX11, 36, rfl⟩, TT_4 136 rfl rfl, TT_4 137 rfl rfl, TT_4 138 rfl rfl⟩
theorem gX11_115 : mGS TT RX11 115 yX11_isIn cX11_isIn 3 (some .boolean) 3 := ⟨mX11_isIn, TT_4 140 rfl rfl, TT_4 141 rfl rfl⟩
theorem gL_22 : mG vwCl TT RL 22 yX11_line cX11_line 8 (some .int) 0 11 := ⟨mX11_line, ⟨TX11, 36, rfl⟩, TT_4 143 rfl rfl, TT_4 144 rfl rfl, TT_4 145 rfl rfl⟩
theorem gX11_122 : mGS TT RX11 122 yX11_actionOf cX11_actionOf 1 (some .int) 1 := ⟨mX11_actionOf, TT_4 147 rfl rfl, TT_4 148 rfl rfl⟩
theorem gL_27 : mG vwCl TT RL 27 yX11_code cX11_code 6 (some .int) 5 11 := ⟨mX11_code, ⟨TX11, 36, rfl⟩, TT_4 150 rfl rfl, TT_4 151 rfl rfl, TT_4 152 rfl rfl⟩
theorem gL_32 : mG vwCl TT RL 32 yX11_memory cX11_memory 3 (some .boolean) 2 11 := ⟨mX11_memory, ⟨TX11, 36, rfl⟩, TT_4 154 rfl rfl, TT_4 155 rfl rfl, TT_4 156 rfl rfl⟩
theorem gL_36 : mG vwCl TT RL 36 yX11_latency cX11_latency 3 (some .boolean) 2 11 := ⟨mX11_latency, ⟨TX11, 36, rfl⟩, TT_4 158 rfl rfl, TT_4 159 rfl rfl, TT_4 160 rfl rfl⟩
theorem gL_41 : mG vwCl TT RL 41 yX11_run cX11_run 3 (some .int) 1 11 := ⟨mX11_run, ⟨TX11, 36, rfl⟩, TT_4 162 rfl rfl, TT_4 163 rfl rfl, TT_4 164 rfl rfl⟩
theorem gX11_179 : mG vwCl TT RX11 179 yX11_oneCycle cX11_oneCycle 2 none 0 11 := ⟨mX11_oneCycle, ⟨TX11, 36, rfl⟩, TT_4 166 rfl rfl, TT_4 168 rfl rfl, TT_p (q := (yX11_oneCycle, 36)) 18 rfl rfl⟩
theorem gX11_172 : mG vwCl TT RX11 172 yX11_fires cX11_fires 4 (some .boolean) 1 11 := ⟨mX11_fires, ⟨TX11, 36, rfl⟩, TT_4 170 rfl rfl, TT_4 172 rfl rfl, TT_p (q := (yX11_fires, 36)) 19 rfl rfl⟩
theorem gX11_129 : mG vwCl TT RX11 129 yX11_kindOf cX11_kindOf 2 (some .int) 1 11 := ⟨mX11_kindOf, ⟨TX11, 36, rfl⟩, TT_4 174 rfl rfl, TT_4 176 rfl rfl, TT_p (q := (yX11_kindOf, 36)) 20 rfl rfl⟩
theorem gX11_143 : mGS TT RX11 143 yX11_readsOne cX11_readsOne 1 (some .boolean) 1 := ⟨mX11_readsOne, TT_4 178 rfl rfl, TT_4 179 rfl rfl⟩
theorem gX11_147 : mG vwCl TT RX11 147 yX11_isReady cX11_isReady 5 (some .boolean) 2 11 := ⟨mX11_isReady, ⟨TX11, 36, rfl⟩, TT_4 181 rfl rfl, TT_4 183 rfl rfl, TT_p (q := (yX11_isReady, 36)) 21 rfl rfl⟩
theorem gX11_136 : mG vwCl TT RX11 136 yX11_giver cX11_giver 4 (some .int) 2 11 := ⟨mX11_giver, ⟨TX11, 36, rfl⟩, TT_4 185 rfl rfl, TT_4 187 rfl rfl, TT_p (q := (yX11_giver, 36)) 22 rfl rfl⟩
theorem gX11_132 : mG vwCl TT RX11 132 yX11_commitsRegister cX11_commitsRegister 3 (some .boolean) 2 11 := ⟨mX11_commitsRegister, ⟨TX11, 36, rfl⟩, TT_4 189 rfl rfl, TT_4 191 rfl rfl, TT_p (q := (yX11_commitsRegister, 36)) 23 rfl rfl⟩
theorem gX11_150 : mGS TT RX11 150 yX11_readsTwo cX11_readsTwo 1 (some .boolean) 1 := ⟨mX11_readsTwo, TT_4 193 rfl rfl, TT_4 194 rfl rfl⟩
theorem gX11_153 : mG vwCl TT RX11 153 yX11_hasOlderStore cX11_hasOlderStore 4 (some .boolean) 1 11 := ⟨mX11_hasOlderStore, ⟨TX11, 36, rfl⟩, TT_4 196 rfl rfl, TT_4 198 rfl rfl, TT_p (q := (yX11_hasOlderStore, 36)) 24 rfl rfl⟩
theorem gX11_156 : mG vwCl TT RX11 156 yX11_placeOf cX11_placeOf 2 (some .int) 1 11 := ⟨mX11_placeOf, ⟨TX11, 36, rfl⟩, TT_4 200 rfl rfl, TT_4 202 rfl rfl, TT_p (q := (yX11_placeOf, 36)) 25 rfl rfl⟩
theorem gX11_175 : mG vwCl TT RX11 175 yX11_fire cX11_fire 5 none 1 11 := ⟨mX11_fire, ⟨TX11, 36, rfl⟩, TT_4 204 rfl rfl, TT_4 206 rfl rfl, TT_p (q := (yX11_fire, 36)) 26 rfl rfl⟩
theorem gX11_163 : mG vwCl TT RX11 163 yX11_read cX11_read 4 (some .int) 2 11 := ⟨mX11_read, ⟨TX11, 36, rfl⟩, TT_4 208 rfl rfl, TT_4 210 rfl rfl, TT_p (q := (yX11_read, 36)) 27 rfl rfl⟩
theorem gX11_166 : mG vwCl TT RX11 166 yX11_workOut cX11_workOut 6 none 3 11 := ⟨mX11_workOut, ⟨TX11, 36, rfl⟩, TT_4 212 rfl rfl, TT_4 214 rfl rfl, TT_p (q := (yX11_workOut, 36)) 28 rfl rfl⟩
theorem gX11_169 : mG vwCl TT RX11 169 yX11_commitAll cX11_commitAll 4 none 3 11 := ⟨mX11_commitAll, ⟨TX11, 36, rfl⟩, TT_4 216 rfl rfl, TT_4 218 rfl rfl, TT_p (q := (yX11_commitAll, 36)) 29 rfl rfl⟩
theorem gX11_159 : mG vwCl TT RX11 159 yX11_commitOne cX11_commitOne 4 none 3 11 := ⟨mX11_commitOne, ⟨TX11, 36, rfl⟩, TT_4 220 rfl rfl, TT_4 222 rfl rfl, TT_p (q := (yX11_commitOne, 36)) 30 rfl rfl⟩
theorem gL_45 : mG vwCl TT RL 45 yX11_cycle cX11_cycle 1 (some .int) 0 11 := ⟨mX11_cycle, ⟨TX11, 36, rfl⟩, TT_4 224 rfl rfl, TT_4 225 rfl rfl, TT_4 226 rfl rfl⟩
theorem gL_50 : mG vwCl TT RL 50 yX11_ended cX11_ended 1 (some .boolean) 0 11 := ⟨mX11_ended, ⟨TX11, 36, rfl⟩, TT_4 228 rfl rfl, TT_4 229 rfl rfl, TT_4 230 rfl rfl⟩
theorem gL_54 : mG vwCl TT RL 54 yX11_commits cX11_commits 1 (some .int) 0 11 := ⟨mX11_commits, ⟨TX11, 36, rfl⟩, TT_4 232 rfl rfl, TT_4 233 rfl rfl, TT_4 234 rfl rfl⟩
theorem gL_59 : mG vwCl TT RL 59 yX11_commit cX11_commit 3 (some .int) 2 11 := ⟨mX11_commit, ⟨TX11, 36, rfl⟩, TT_4 236 rfl rfl, TT_4 237 rfl rfl, TT_4 238 rfl rfl⟩
theorem gL_63 : mG vwCl TT RL 63 yX11_register cX11_register 2 (some .int) 1 11 := ⟨mX11_register, ⟨TX11, 36, rfl⟩, TT_5 0 rfl rfl, TT_5 1 rfl rfl, TT_5 2 rfl rfl⟩
theorem gL_67 : mG vwCl TT RL 67 yX11_place cX11_place 2 (some .int) 1 11 := ⟨mX11_place, ⟨TX11, 36, rfl⟩, TT_5 4 rfl rfl, TT_5 5 rfl rfl, TT_5 6 rfl rfl⟩
theorem gL_71 : mG vwCl TT RL 71 yX11_retired cX11_retired 1 (some .int) 0 11 := ⟨mX11_retired, ⟨TX11, 36, rfl⟩, TT_5 8 rfl rfl, TT_5 9 rfl rfl, TT_5 10 rfl rfl⟩
theorem gL_75 : mG vwCl TT RL 75 yX11_faithful cX11_faithful 12 (some .boolean) 0 11 := ⟨mX11_faithful, ⟨TX11, 36, rfl⟩, TT_5 12 rfl rfl, TT_5 13 rfl rfl, TT_5 14 rfl rfl⟩
theorem gL_79 : mG vwCl TT RL 79 yX11_told cX11_told 2 (some .int) 1 11 := ⟨mX11_told, ⟨TX11, 36, rfl⟩, TT_5 16 rfl rfl, TT_5 17 rfl rfl, TT_5 18 rfl rfl⟩
theorem kiX0_init : Cond.instanceMethod yX0_init ∈ TT := TT_1 116 rfl rfl
theorem kiX1_init : Cond.instanceMethod yX1_init ∈ TT := TT_1 138 rfl rfl
theorem kiX2_init : Cond.instanceMethod yX2_init ∈ TT := TT_1 71 rfl rfl
theorem kiX3_init : Cond.instanceMethod yX3_init ∈ TT := TT_1 51 rfl rfl
theorem kiX4_init : Cond.instanceMethod yX4_init ∈ TT := TT_1 31 rfl rfl
theorem kiX5_init : Cond.instanceMethod yX5_init ∈ TT := TT_1 156 rfl rfl
theorem kiX6_init : Cond.instanceMethod yX6_init ∈ TT := TT_1 221 rfl rfl
theorem kiX7_init : Cond.instanceMethod yX7_init ∈ TT := TT_1 132 rfl rfl
theorem kiX8_init : Cond.instanceMethod yX8_init ∈ TT := TT_1 64 rfl rfl
theorem kiX9_init : Cond.instanceMethod yX9_init ∈ TT := TT_1 103 rfl rfl
theorem kiX10_init : Cond.instanceMethod yX10_init ∈ TT := TT_1 23 rfl rfl
theorem kiX11_init : Cond.instanceMethod yX11_init ∈ TT := TT_4 19 rfl rfl
theorem koC : Cond.code Lib.objectInit ⟨#[0xb1]⟩ 1 none ∈ TT := TT_1 27 rfl rfl
theorem koI : Cond.instanceMethod Lib.objectInit ∈ TT := TT_1 26 rfl rfl
theorem kaN : Cond.native arraycopyName ∈ TT := TT_2 110 rfl rfl
theorem kaS : Cond.static arraycopyName ∈ TT := TT_2 109 rfl rfl
theorem kaI : Cond.initialized "java/lang/System" ∈ TT := TT_1 18 rfl rfl
theorem kAI : Cond.arrayClass .int ∈ TT := TT_1 47 rfl rfl
theorem kAZ : Cond.arrayClass .boolean ∈ TT := TT_4 135 rfl rfl
theorem klL_7 : Cond.classLink RL 7 RX10 ∈ TT := TT_1 20 rfl rfl
theorem klX10_13 : Cond.classLink RX10 13 RX4 ∈ TT := TT_1 28 rfl rfl
theorem klX10_20 : Cond.classLink RX10 20 RX3 ∈ TT := TT_1 48 rfl rfl
theorem klX10_27 : Cond.classLink RX10 27 RX8 ∈ TT := TT_1 61 rfl rfl
theorem klX8_9 : Cond.classLink RX8 9 RX2 ∈ TT := TT_1 67 rfl rfl
theorem klX10_34 : Cond.classLink RX10 34 RX9 ∈ TT := TT_1 100 rfl rfl
theorem klX10_41 : Cond.classLink RX10 41 RX0 ∈ TT := TT_1 113 rfl rfl
theorem klX10_48 : Cond.classLink RX10 48 RX7 ∈ TT := TT_1 129 rfl rfl
theorem klX7_9 : Cond.classLink RX7 9 RX1 ∈ TT := TT_1 135 rfl rfl
theorem klX7_18 : Cond.classLink RX7 18 RX5 ∈ TT := TT_1 148 rfl rfl
theorem klX10_57 : Cond.classLink RX10 57 RX6 ∈ TT := TT_1 218 rfl rfl
theorem klX6_9 : Cond.classLink RX6 9 RX1 ∈ TT := TT_1 224 rfl rfl
theorem klX10_93 : Cond.classLink RX10 93 RX2 ∈ TT := TT_2 154 rfl rfl
theorem klL_10 : Cond.classLink RL 10 RX11 ∈ TT := TT_4 16 rfl rfl
theorem knX10 : Cond.instantiable RX10 9 ∈ TT := TT_1 21 rfl rfl
theorem knX4 : Cond.instantiable RX4 4 ∈ TT := TT_1 29 rfl rfl
theorem knX3 : Cond.instantiable RX3 2 ∈ TT := TT_1 49 rfl rfl
theorem knX8 : Cond.instantiable RX8 3 ∈ TT := TT_1 62 rfl rfl
theorem knX2 : Cond.instantiable RX2 5 ∈ TT := TT_1 69 rfl rfl
theorem knX9 : Cond.instantiable RX9 2 ∈ TT := TT_1 101 rfl rfl
theorem knX0 : Cond.instantiable RX0 3 ∈ TT := TT_1 114 rfl rfl
theorem knX7 : Cond.instantiable RX7 12 ∈ TT := TT_1 130 rfl rfl
theorem knX1 : Cond.instantiable RX1 2 ∈ TT := TT_1 136 rfl rfl
theorem knX5 : Cond.instantiable RX5 7 ∈ TT := TT_1 150 rfl rfl
theorem knX6 : Cond.instantiable RX6 3 ∈ TT := TT_1 219 rfl rfl
theorem knX11 : Cond.instantiable RX11 36 ∈ TT := TT_4 17 rfl rfl
theorem kzX0 : Cond.initialized RX0 ∈ TT := TT_1 7 rfl rfl
theorem kzX1 : Cond.initialized RX1 ∈ TT := TT_1 9 rfl rfl
theorem kzX2 : Cond.initialized RX2 ∈ TT := TT_1 5 rfl rfl
theorem kzX3 : Cond.initialized RX3 ∈ TT := TT_1 3 rfl rfl
theorem kzX4 : Cond.initialized RX4 ∈ TT := TT_1 2 rfl rfl
theorem kzX5 : Cond.initialized RX5 ∈ TT := TT_1 10 rfl rfl
theorem kzX6 : Cond.initialized RX6 ∈ TT := TT_1 11 rfl rfl
theorem kzX7 : Cond.initialized RX7 ∈ TT := TT_1 8 rfl rfl
theorem kzX8 : Cond.initialized RX8 ∈ TT := TT_1 4 rfl rfl
theorem kzX9 : Cond.initialized RX9 ∈ TT := TT_1 6 rfl rfl
theorem kzX10 : Cond.initialized RX10 ∈ TT := TT_1 1 rfl rfl
theorem kzX11 : Cond.initialized RX11 ∈ TT := TT_1 12 rfl rfl
theorem kzJ9 : Cond.initialized RJ9 ∈ TT := TT_1 19 rfl rfl
theorem kzJ0 : Cond.initialized RJ0 ∈ TT := TT_1 14 rfl rfl
theorem kzJ1 : Cond.initialized RJ1 ∈ TT := TT_1 15 rfl rfl
theorem kzJ2 : Cond.initialized RJ2 ∈ TT := TT_1 17 rfl rfl
theorem kzJ10 : Cond.initialized RJ10 ∈ TT := TT_1 18 rfl rfl
theorem kzJ7 : Cond.initialized RJ7 ∈ TT := TT_1 13 rfl rfl
theorem kzJ3 : Cond.initialized RJ3 ∈ TT := TT_1 16 rfl rfl
theorem kfJ0_38 : Cond.fieldLink RJ0 38 RJ0 "COMPACT_STRINGS" "Z" ∈ TT := TT_2 60 rfl rfl
theorem kfJ0_1053 : Cond.fieldLink RJ0 1053 RJ3 "SIOOBE_FORMATTER" "Ljava/util/function/BiFunction;" ∈ TT := TT_2 76 rfl rfl
theorem kfJ2_44 : Cond.fieldLink RJ2 44 RJ2 "$assertionsDisabled" "Z" ∈ TT := TT_2 94 rfl rfl
theorem kfJ2_59 : Cond.fieldLink RJ2 59 RJ2 "HI_BYTE_SHIFT" "I" ∈ TT := TT_2 96 rfl rfl
theorem kfJ2_63 : Cond.fieldLink RJ2 63 RJ2 "LO_BYTE_SHIFT" "I" ∈ TT := TT_2 98 rfl rfl
theorem kfJ0_9 : Cond.fieldLink RJ0 9 RJ0 "value" "[B" ∈ TT := TT_5 20 rfl rfl
theorem kfJ0_15 : Cond.fieldLink RJ0 15 RJ0 "coder" "B" ∈ TT := TT_5 21 rfl rfl
theorem kvX4_38 : Cond.methodLink RX4 38 yJ0_length_8abf5 ∈ TT := TT_2 52 rfl rfl
theorem ksJ0_length_8abf5 : Cond.selects RJ0 yJ0_length_8abf5 yJ0_length_8abf5 ∈ TT := TT_2 54 rfl rfl
theorem kjJ0_length_8abf5 : Cond.instanceMethod yJ0_length_8abf5 ∈ TT := TT_2 53 rfl rfl
theorem kvJ0_335 : Cond.methodLink RJ0 335 yJ0_coder_7d493 ∈ TT := TT_2 56 rfl rfl
theorem ksJ0_coder_7d493 : Cond.selects RJ0 yJ0_coder_7d493 yJ0_coder_7d493 ∈ TT := TT_2 58 rfl rfl
theorem kjJ0_coder_7d493 : Cond.instanceMethod yJ0_coder_7d493 ∈ TT := TT_2 57 rfl rfl
theorem kvX4_56 : Cond.methodLink RX4 56 yJ0_charAt_5068e ∈ TT := TT_2 62 rfl rfl
theorem ksJ0_charAt_5068e : Cond.selects RJ0 yJ0_charAt_5068e yJ0_charAt_5068e ∈ TT := TT_2 64 rfl rfl
theorem kjJ0_charAt_5068e : Cond.instanceMethod yJ0_charAt_5068e ∈ TT := TT_2 63 rfl rfl
theorem kvJ0_492 : Cond.methodLink RJ0 492 yJ0_isLatin1_aae02 ∈ TT := TT_2 66 rfl rfl
theorem ksJ0_isLatin1_aae02 : Cond.selects RJ0 yJ0_isLatin1_aae02 yJ0_isLatin1_aae02 ∈ TT := TT_2 68 rfl rfl
theorem kjJ0_isLatin1_aae02 : Cond.instanceMethod yJ0_isLatin1_aae02 ∈ TT := TT_2 67 rfl rfl
def nests : List (String × Nat × MethodName × String) := [(RX10, 15, yX4_init, "PipeForge"), (RX10, 22, yX3_init, "PipeForge"), (RX10, 36, yX9_init, "PipeForge"), (RX10, 43, yX0_init, "PipeForge"), (RX7, 11, yX1_init, "PipeForge"), (RX6, 11, yX1_init, "PipeForge"), (RX9, 18, yX10_isPlace, "PipeForge"), (RX7, 169, yX10_isRegister, "PipeForge"), (RX1, 29, yX10_isRegister, "PipeForge"), (RX1, 33, yX10_isPlace, "PipeForge")]
abbrev ssB : Nat → Int32 := fun j => ([102, 114, 120, 118, 113, 97, 119] : List Int32).getD j 0
/-- the constant text of LineReader at D.2 900 0, its bytes at D.2 900 1: cells below b -/
def SS (b : Nat) (D : va_G) (U : State) : Prop := vk_R RX4 36 "frxvqaw" (D.2 900 0) U ∧ va_O RJ0 (D.2 900 0) (fun q => b ≤ q) U U.heap ∧ va_OF RJ0 "coder" "B" (.int 0) (D.2 900 0) (fun q => b ≤ q) U U.heap ∧ va_OF RJ0 "value" "[B" (.ref (D.2 900 1)) (D.2 900 0) (fun q => b ≤ q) U U.heap ∧ va_T .byte (D.2 900 1) 7 (fun j => .int (ssB j)) (fun q => b ≤ q) U U.heap ∧ va_Z RJ0 "COMPACT_STRINGS" "Z" (.int 1) (fun q => b ≤ q) U U.heap ∧ va_Zq RJ3 "SIOOBE_FORMATTER" "Ljava/util/function/BiFunction;" (fun q => b ≤ q) U U.heap
def NN (b : Nat) (D : va_G) (U : State) : Prop := (∀ q ∈ nests, va_Nw (.methodLinkNest q.1 q.2.1 q.2.2.1 q.2.2.2) U) ∧ va_AO RX2 U ∧ va_AO RX5 U ∧ SS b D U
theorem NN_w (b : Nat) (D : va_G) (u U : State) (hW : u.WarmedH U.vm) (hq : ∀ q : Nat, q < b → U.heap[q]? = u.heap[q]?) (h : NN b D u) : NN b D U := by
  refine ⟨fun q hq => va_Nw.warmM hW (h.1 q hq), h.2.1.moved hW.alike, h.2.2.1.moved hW.alike, ?_⟩
  obtain ⟨h1, h2, h3, h4, h5, h6, h7⟩ := h.2.2.2
  have hk : ∀ a : Nat, a < u.heap.size → ¬ (fun q => b ≤ q) a → U.heap[a]? = u.heap[a]? := fun a _ h => hq a (Nat.not_le.mp h)
  exact ⟨h1.warm hW, (h2.moved hW.alike).kept hk, (h3.moved hW.alike).kept hk, (h4.moved hW.alike).kept hk, (h5.moved hW.alike).kept hk, (h6.moved hW.alike).kept hk, (h7.moved hW.alike).kept hk⟩
theorem kNX10_15 {b : Nat} {D : va_G} (U : State) (h : NN b D U) : va_Nw (.methodLinkNest RX10 15 yX4_init "PipeForge") U := h.1 (RX10, 15, yX4_init, "PipeForge") (List.mem_of_getElem? (i := 0) rfl)
theorem kNX10_22 {b : Nat} {D : va_G} (U : State) (h : NN b D U) : va_Nw (.methodLinkNest RX10 22 yX3_init "PipeForge") U := h.1 (RX10, 22, yX3_init, "PipeForge") (List.mem_of_getElem? (i := 1) rfl)
theorem kNX10_36 {b : Nat} {D : va_G} (U : State) (h : NN b D U) : va_Nw (.methodLinkNest RX10 36 yX9_init "PipeForge") U := h.1 (RX10, 36, yX9_init, "PipeForge") (List.mem_of_getElem? (i := 2) rfl)
theorem kNX10_43 {b : Nat} {D : va_G} (U : State) (h : NN b D U) : va_Nw (.methodLinkNest RX10 43 yX0_init "PipeForge") U := h.1 (RX10, 43, yX0_init, "PipeForge") (List.mem_of_getElem? (i := 3) rfl)
theorem kNX7_11 {b : Nat} {D : va_G} (U : State) (h : NN b D U) : va_Nw (.methodLinkNest RX7 11 yX1_init "PipeForge") U := h.1 (RX7, 11, yX1_init, "PipeForge") (List.mem_of_getElem? (i := 4) rfl)
theorem kNX6_11 {b : Nat} {D : va_G} (U : State) (h : NN b D U) : va_Nw (.methodLinkNest RX6 11 yX1_init "PipeForge") U := h.1 (RX6, 11, yX1_init, "PipeForge") (List.mem_of_getElem? (i := 5) rfl)
theorem gX9_18 {b : Nat} {D : va_G} : mGN TT (NN b D) RX9 18 yX10_isPlace "PipeForge" cX10_isPlace 1 (some .boolean) 1 := ⟨mX10_isPlace, fun U h => h.1 (RX9, 18, yX10_isPlace, "PipeForge") (List.mem_of_getElem? (i := 6) rfl), TT_2 166 rfl rfl⟩
theorem gX7_169 {b : Nat} {D : va_G} : mGN TT (NN b D) RX7 169 yX10_isRegister "PipeForge" cX10_isRegister 1 (some .boolean) 1 := ⟨mX10_isRegister, fun U h => h.1 (RX7, 169, yX10_isRegister, "PipeForge") (List.mem_of_getElem? (i := 7) rfl), TT_2 152 rfl rfl⟩
theorem gX1_29 {b : Nat} {D : va_G} : mGN TT (NN b D) RX1 29 yX10_isRegister "PipeForge" cX10_isRegister 1 (some .boolean) 1 := ⟨mX10_isRegister, fun U h => h.1 (RX1, 29, yX10_isRegister, "PipeForge") (List.mem_of_getElem? (i := 8) rfl), TT_2 152 rfl rfl⟩
theorem gX1_33 {b : Nat} {D : va_G} : mGN TT (NN b D) RX1 33 yX10_isPlace "PipeForge" cX10_isPlace 1 (some .boolean) 1 := ⟨mX10_isPlace, fun U h => h.1 (RX1, 33, yX10_isPlace, "PipeForge") (List.mem_of_getElem? (i := 9) rfl), TT_2 166 rfl rfl⟩
