theorem y_hi {r : Nat} (h : 137 ≤ r) : yS286 r = none := by
  simp only [yS286, yS278, yS270, yS262, yS253, yS244, yS235, yS226, yS218, yS210, yS202, yS194, yS186, yS178, yS170, yS162, yS154, yS146, yS104, yS96, yS88, yS80, yS72, yS64, yS56, yS51, yS14, yS9, zS110, zS91, zS64, zS53, zS42, zS31, zS20, zS9, mTn, cThS, Z0]
  repeat rw [if_neg (by omega)]
theorem y_ins {r : Nat} (h : yS286 r = some (0, 2, 0)) : r = 8 := by
  rcases Nat.lt_or_ge r 137 with h1 | h1
  · have hd : ∀ r, r < 137 → yS286 r = some (0, 2, 0) → r = 8 := by decide +kernel
    exact hd r h1 h
  · rw [y_hi h1] at h; cases h
theorem shC_lt {r : Nat} {sh : Nat × Nat × Nat} (h : shC r = some sh) : r < 32 := by
  rcases Nat.lt_or_ge r 32 with h1 | h1
  · exact h1
  · exfalso
    unfold shC at h
    rw [List.getD_eq_getElem?_getD, List.getElem?_eq_none (by show 32 ≤ r; omega)] at h
    cases h
theorem gC_lt {r k q : Nat} (h : gC r k = some q) : r < 24 ∧ k < 9 := by
  have h1 : r < 24 := by
    rcases Nat.lt_or_ge r 24 with h1 | h1
    · exact h1
    · rw [gC_hi h1] at h; cases h
  refine ⟨h1, ?_⟩
  rcases Nat.lt_or_ge k 9 with h2 | h2
  · exact h2
  · exfalso
    have hl : ∀ r, r < 24 → ((([[some 1, none, some 2, some 4, some 6, some 9, some 12, some 14, some 20], [none, none, none, none, none, none, none, none, none], [some 3, none, none, none, none, none, none, none, none], [none, none, none, none, none, none, none, none, none], [some 5, none, none, none, none, none, none, none, none], [none, none, none, none, none, none, none, none, none], [some 7, some 8, none, none, none, none, none, none, none], [none, none, none, none, none, none, none, none, none], [none, none, none, none, none, none, none, none, none], [some 10, some 11, none, none, none, none, none, none, none], [none, none, none, none, none, none, none, none, none], [none, none, none, none, none, none, none, none, none], [some 13, none, none, none, none, none, none, none, none], [none, none, none, none, none, none, none, none, none], [some 4, some 6, some 9, some 12, some 15, some 18, some 19, none, none], [some 16, some 17, none, none, none, none, none, none, none], [none, none, none, none, none, none, none, none, none], [none, none, none, none, none, none, none, none, none], [none, none, none, none, none, none, none, none, none], [none, none, none, none, none, none, none, none, none], [some 6, some 9, some 21, none, none, none, none, none, none], [some 22, some 23, none, none, none, none, none, none, none], [none, none, none, none, none, none, none, none, none], [none, none, none, none, none, none, none, none, none]] : List (List (Option Nat)))).getD r []).length ≤ 9 := by decide
    have h3 := hl r h1
    unfold gC at h
    rw [List.getD_eq_getElem?_getD, List.getElem?_eq_none (by omega)] at h
    cases h
theorem y_okC : okC yS286 yG286 := by
  refine ⟨fun r sh h => ?_, fun r k q h => ?_⟩
  · have hd : ∀ r, r < 32 → yS286 r = shC r := by decide +kernel
    rw [hd r (shC_lt h)]; exact h
  · have hd : ∀ r, r < 24 → ∀ k, k < 9 → gC r k = none ∨ yG286 r k = gC r k := by decide +kernel
    obtain ⟨h1, h2⟩ := gC_lt h
    rcases hd r h1 k h2 with e | e
    · rw [e] at h; cases h
    · rw [e]; exact h
def y0S : mI := mAnew yI286
theorem y_okT : okT yS286 y0S yG286 := by
  refine ⟨?_, ?_⟩
  · have a1 : ∀ k, k < 8 → yG286 18 k = some (thG yG286 k) := by decide +kernel
    have a2 : ∀ k, k < 8 → yS286 (thG yG286 k) = some (0, 5, 0) := by decide +kernel
    have a3 : ∀ k, k < 8 → 24 ≤ thG yG286 k ∧ thG yG286 k < 32 := by decide +kernel
    have a4 : ∀ k, k < 8 → yG286 (thG yG286 k) 1 = some (roG yG286 (thG yG286 k)) := by decide +kernel
    have a5 : ∀ k, k < 8 → yS286 (roG yG286 (thG yG286 k)) = some (0, 2, 0) := by decide +kernel
    have a6 : ∀ k, k < 8 → roG yG286 (thG yG286 k) = 8 := by decide +kernel
    have a7 : ∀ k, k < 8 → y0S (thG yG286 k) 0 = 0 := by decide +kernel
    exact fun k hk => ⟨a1 k hk, a2 k hk, a3 k hk, a4 k hk, a5 k hk, Or.inl (a6 k hk), Or.inl (a7 k hk)⟩
  · have hd : ∀ i, i < 8 → ∀ j, j < 8 → thG yG286 i = thG yG286 j → i = j := by decide +kernel
    exact fun i j hi hj e => hd i hi j hj e
theorem mu_same {S : mI} {r k : Nat} {v : Int32} (h : S r k = v) : mu S r k v = S := by rw [← h, mu_id]
theorem mFl_same {S : mI} {r n : Nat} {v : Int32} (h : ∀ k, k < n → S r k = v) : mFl S r n v = S := by
  funext x k
  show (if x = r ∧ k < n then v else S x k) = _
  by_cases e : x = r ∧ k < n
  · rw [if_pos e, e.1, h k e.2]
  · rw [if_neg e]
theorem mCpy_same {S : mI} {a r n : Nat} (h : ∀ k, k < n → S r k = S a k) : mCpy S a r n = S := by
  funext x k
  show (if x = r ∧ k < n then S a k else S x k) = _
  by_cases e : x = r ∧ k < n
  · rw [if_pos e, e.1, h k e.2]
  · rw [if_neg e]
theorem cOut_same {S : mI} {G : mP} : ∀ n, (∀ k, k < n → S (thG G k) 0 = 0) → cOut S G n = S := by
  intro n
  induction n with
  | zero => intro _; rfl
  | succ n ih => intro h; rw [cOut, ih (fun k hk => h k (by omega)), mu_same (h n (by omega))]
theorem y_anew : cAnew y0S yG286 = y0S := by
  have a7 : ∀ k, k < 8 → y0S (thG yG286 k) 0 = 0 := by decide +kernel
  have b16 : ∀ k, k < 8 → y0S 16 k = 0 := by decide +kernel
  have b17 : ∀ k, k < 64 → y0S 17 k = y0S 10 k := by decide +kernel
  have b19 : ∀ k, k < 8 → y0S 19 k = 0 := by decide +kernel
  have c1 : y0S 12 1 = 0 ∧ y0S 12 2 = 0 ∧ y0S 14 7 = 0 ∧ y0S 14 8 = 0 ∧ y0S 14 9 = 0 ∧ y0S 14 10 = 0 ∧ y0S 14 11 = 0 := by decide +kernel
  obtain ⟨c1, c2, c3, c4, c5, c6, c7⟩ := c1
  unfold cAnew
  rw [cOut_same 8 a7, mFl_same b16, mCpy_same b17, mu_same c1, mu_same c2, mFl_same b19, mu_same c3, mu_same c4, mu_same c5, mu_same c6, mu_same c7]
theorem y_kind (n : Int32) : mKind yI286 n = 0 := by
  have h : yI286 100 10 = nI 0 := by decide +kernel
  rcases nI_or n with h1 | ⟨j, h1, rfl⟩
  · exact mKind_neg h1
  · rw [mKind_nat h (by decide) h1, if_neg (by omega)]
theorem y_at (n : Int32) : cAt 0 n = 8 := by
  rcases nI_or n with h1 | ⟨j, h1, rfl⟩
  · exact cAt_neg h1
  · rw [cAt_nat (by decide) h1, if_neg (by omega)]
theorem y_rSt : rSt y0S yI286 4 0 := by
  have a1 : y0S 4 1 = nI 4 ∧ yI286 100 2 = nI 4 ∧ y0S 5 7 = yI286 100 4 ∧ y0S 6 2 = nI 0 ∧ yI286 100 10 = nI 0 ∧ y0S 8 0 = 0 ∧ y0S 8 1 = -1 := by decide +kernel
  obtain ⟨a1, a2, a3, a4, a5, a6, a7⟩ := a1
  have b1 : ∀ k, k < 7 → y0S 5 k = yI286 104 k := by decide +kernel
  have b2 : ∀ k, k < 64 → y0S 10 k = yI286 112 k := by decide +kernel
  have b3 : ∀ k, k < 8 → y0S 11 k = yI286 113 k := by decide +kernel
  refine ⟨a1, a2, b1, a3, a4, a5, by decide, fun n => ?_, fun n => by rw [y_kind]; decide, fun n e => absurd (y_kind n) e, b2, b3⟩
  rw [y_kind, y_at]
  exact ⟨a6, a7.trans (tg_0 _).symm, fun e => absurd rfl e⟩
theorem y_lay : lay yI286 4 0 1 1 1 2 none := by
  have a1 : yI286 104 1 = nI 0 ∧ yI286 104 2 = nI 1 ∧ yI286 104 3 = nI 1 ∧ yI286 104 4 = nI 1 ∧ yI286 104 5 = nI 2 ∧ yI286 104 6 = nI 3 ∧ yI286 100 4 = -1 := by decide +kernel
  obtain ⟨a1, a2, a3, a4, a5, a6, a7⟩ := a1
  exact ⟨a1, a2, a3, a4, a5, a6, by decide, fun _ => a7, fun z e => by cases e⟩
theorem y_jE : jE yS286 y0S yG286 0 := by
  have h27 : yI286 100 27 = 0 := by decide +kernel
  have t1 : y0S 0 1 = nI 0 ∧ yI286 100 1 = nI 0 := by decide +kernel
  have t2 : ∀ k, k < 30 → y0S 1 k = yI286 101 k := by decide +kernel
  have fr : ∀ j, j < 41 → yS286 (32 + j) = none := by decide +kernel
  have i8 : y0S 8 0 = 0 ∧ y0S 8 1 = -1 := by decide +kernel
  have h := jJ_anew (B := 0) y_okC y_okT y_okM yc286 (fun j _ h2 => fr j h2) (fun r e => by rw [y_ins e]; decide) (fun j hj => absurd hj (by omega)) (fun r e => by rw [y_ins e, i8.1, i8.2]; exact ⟨fun h1 => absurd h1 (by decide), fun _ => rfl⟩) (fun r e => Or.inl (y_ins e)) y_rSt y_lay (Or.inl h27) ⟨0, by decide, t1.1, t1.2, t2⟩
  rw [y_anew] at h
  exact ⟨4, 0, 0, 1, 1, 1, 2, none, 0, 0, h⟩
