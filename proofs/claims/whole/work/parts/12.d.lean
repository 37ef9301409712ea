/-- the class's phases before the commit -/
def cV5 (X : mI) (G : mP) (st s : Nat) : mI := cF5 (cF4 (cF3 (cF2 (cF1 X G st s (thG G s) (roG G (thG G s))) s (thG G s) (roG G (thG G s))) G s (thG G s) (roG G (thG G s))) s (thG G s) (roG G (thG G s))) s (thG G s) (roG G (thG G s))
section CV
variable {Sh : mS} {X : mI} {G : mP} {st s : Nat}
theorem cv1_n {r : Nat} (h : r ≠ thG G s) : cF1 X G st s (thG G s) (roG G (thG G s)) r = X r := by
  funext f; rw [cF1_at, if_neg (fun q => h q.2.1), if_neg (fun q => h q.2.1)]
theorem cv2_n {r : Nat} (h : r ≠ thG G s) : cF2 (cF1 X G st s (thG G s) (roG G (thG G s))) s (thG G s) (roG G (thG G s)) r = X r := by
  funext f; rw [cF2_at, if_neg (fun q => h q.2.1), cv1_n h]
abbrev cBr (X : mI) (G : mP) (st s : Nat) : Prop := X 5 3 = nI s ∧ (X (roG G (thG G s)) 0 = 9 ∨ (X (roG G (thG G s)) 0 = 7 ∧ cF1 X G st s (thG G s) (roG G (thG G s)) (thG G s) 2 = cF1 X G st s (thG G s) (roG G (thG G s)) (thG G s) 3))
theorem cv2_br (ht : okT Sh X G) (hs : s < 8) : (cF2 (cF1 X G st s (thG G s) (roG G (thG G s))) s (thG G s) (roG G (thG G s)) 5 3 = nI s ∧ (cF2 (cF1 X G st s (thG G s) (roG G (thG G s))) s (thG G s) (roG G (thG G s)) (roG G (thG G s)) 0 = 9 ∨ (cF2 (cF1 X G st s (thG G s) (roG G (thG G s))) s (thG G s) (roG G (thG G s)) (roG G (thG G s)) 0 = 7 ∧ cF2 (cF1 X G st s (thG G s) (roG G (thG G s))) s (thG G s) (roG G (thG G s)) (thG G s) 2 = cF2 (cF1 X G st s (thG G s) (roG G (thG G s))) s (thG G s) (roG G (thG G s)) (thG G s) 3))) ↔ cBr X G st s := by
  obtain ⟨-, -, hr, -, -, hq, -⟩ := ht.1 s hs
  rw [cv2_n (r := 5) (by omega), cv2_n (r := roG G (thG G s)) (by omega), cF2_at (f := 2), if_neg (fun q => absurd q.2.2 (by decide)), cF2_at (f := 3), if_neg (fun q => absurd q.2.2 (by decide))]
theorem cv3_n (ht : okT Sh X G) (hs : s < 8) {r : Nat} (h : r < 24 ∨ 32 ≤ r) (h14 : r ≠ 14) : cF3 (cF2 (cF1 X G st s (thG G s) (roG G (thG G s))) s (thG G s) (roG G (thG G s))) G s (thG G s) (roG G (thG G s)) r = X r := by
  have hr := ht.r hs
  funext f; rw [cF3_at ht _ _ _ _ hs _ _ h, if_neg (fun q => h14 q.2.1), cv2_n (by omega)]
theorem cv3_14 (ht : okT Sh X G) (hs : s < 8) (f : Nat) : cF3 (cF2 (cF1 X G st s (thG G s) (roG G (thG G s))) s (thG G s) (roG G (thG G s))) G s (thG G s) (roG G (thG G s)) 14 f = if cBr X G st s ∧ f = 8 then X (roG G (thG G s)) 4 else X 14 f := by
  obtain ⟨-, -, hr, -, -, hq, -⟩ := ht.1 s hs
  rw [cF3_at ht _ _ _ _ hs _ _ (by omega), cv2_n (r := 14) (by omega)]
  have e := cv2_br (st := st) ht hs
  by_cases hb : cBr X G st s
  · by_cases hf : f = 8
    · rw [if_pos ⟨e.mpr hb, rfl, hf⟩, if_pos ⟨hb, hf⟩, cv2_n (by omega)]
    · rw [if_neg (fun q => hf q.2.2), if_neg (fun q => hf q.2)]
  · rw [if_neg (fun q => hb (e.mp q.1)), if_neg (fun q => hb q.1)]
theorem cv3_th (ht : okT Sh X G) (hs : s < 8) {j : Nat} (hj : j < 8) (hjs : j ≠ s) (f : Nat) : cF3 (cF2 (cF1 X G st s (thG G s) (roG G (thG G s))) s (thG G s) (roG G (thG G s))) G s (thG G s) (roG G (thG G s)) (thG G j) f = if cBr X G st s ∧ f = 0 ∧ j < s then 0 else X (thG G j) f := by
  have e := cv2_br (st := st) ht hs
  have hne : thG G j ≠ thG G s := fun q => hjs (ht.2 j s hj hs q)
  rw [cF3_th ht _ _ _ _ hs hj, cv2_n hne]
  by_cases hb : cBr X G st s
  · by_cases hf : f = 0 ∧ j < s
    · rw [if_pos ⟨e.mpr hb, hf⟩, if_pos ⟨hb, hf⟩]
    · rw [if_neg (fun q => hf q.2), if_neg (fun q => hf q.2)]
  · rw [if_neg (fun q => hb (e.mp q.1)), if_neg (fun q => hb q.1)]
theorem cv3_T (ht : okT Sh X G) (hs : s < 8) (f : Nat) : cF3 (cF2 (cF1 X G st s (thG G s) (roG G (thG G s))) s (thG G s) (roG G (thG G s))) G s (thG G s) (roG G (thG G s)) (thG G s) f = cF2 (cF1 X G st s (thG G s) (roG G (thG G s))) s (thG G s) (roG G (thG G s)) (thG G s) f := by
  rw [cF3_th ht _ _ _ _ hs hs, if_neg (fun q => absurd q.2.2 (Nat.lt_irrefl _))]
theorem cv5_n (ht : okT Sh X G) (hs : s < 8) {r : Nat} (h : r < 24 ∨ 32 ≤ r) (h14 : r ≠ 14) : cV5 X G st s r = X r := by
  have hr := ht.r hs
  funext f
  unfold cV5
  rw [cF5_at, if_neg (fun q => by omega), cF4_at, if_neg (fun q => by omega), if_neg (fun q => by omega), cv3_n ht hs h h14]
theorem cv5_14 (ht : okT Sh X G) (hs : s < 8) (f : Nat) : cV5 X G st s 14 f = if cBr X G st s ∧ f = 8 then X (roG G (thG G s)) 4 else X 14 f := by
  have hr := ht.r hs
  unfold cV5
  rw [cF5_at, if_neg (fun q => by omega), cF4_at, if_neg (fun q => by omega), if_neg (fun q => by omega), cv3_14 ht hs]
theorem cv5_th (ht : okT Sh X G) (hs : s < 8) {j : Nat} (hj : j < 8) (hjs : j ≠ s) (f : Nat) : cV5 X G st s (thG G j) f = if cBr X G st s ∧ f = 0 ∧ j < s then 0 else X (thG G j) f := by
  have hne : thG G j ≠ thG G s := fun q => hjs (ht.2 j s hj hs q)
  unfold cV5
  rw [cF5_at, if_neg (fun q => hne q.2.1), cF4_at, if_neg (fun q => hne q.2.1), if_neg (fun q => hne q.2.1), cv3_th ht hs hj hjs]
theorem cv5_T (ht : okT Sh X G) (hs : s < 8) : cV5 X G st s (thG G s) 0 = X (thG G s) 0 ∧ cV5 X G st s (thG G s) 2 = (if X 5 1 = nI s ∧ mR1 (X (roG G (thG G s)) 0) then cVal X G st s (X (roG G (thG G s)) 2) else X (thG G s) 2) ∧ cV5 X G st s (thG G s) 3 = (if X 5 1 = nI s ∧ cR2 (X (roG G (thG G s)) 0) then cVal X G st s (X (roG G (thG G s)) 3) else X (thG G s) 3) ∧ cV5 X G st s (thG G s) 4 = (if X 5 4 = nI s ∧ X (roG G (thG G s)) 0 = 5 then X 17 ((cV5 X G st s (thG G s) 2 + X (roG G (thG G s)) 4) &&& 63).toNatClampNeg else if X 5 2 = nI s then cWork (X (roG G (thG G s)) 0) (X (roG G (thG G s)) 4) (cV5 X G st s (thG G s) 2) (cV5 X G st s (thG G s) 3) else X (thG G s) 4) ∧ cV5 X G st s (thG G s) 5 = (if X 5 4 = nI s ∧ X (roG G (thG G s)) 0 = 5 then X 14 9 else X (thG G s) 5) ∧ cV5 X G st s (thG G s) 6 = (if cGiv X (X (roG G (thG G s)) 0) = nI s then X 14 9 else X (thG G s) 6) := by
  obtain ⟨-, -, hr, -, -, hq, -⟩ := ht.1 s hs
  have e2 : cV5 X G st s (thG G s) 2 = cF1 X G st s (thG G s) (roG G (thG G s)) (thG G s) 2 := by
    unfold cV5
    rw [cF5_at, if_neg (by omega), cF4_at, if_neg (by omega), if_neg (by omega), cv3_T ht hs, cF2_at, if_neg (by omega)]
  have e3 : cV5 X G st s (thG G s) 3 = cF1 X G st s (thG G s) (roG G (thG G s)) (thG G s) 3 := by
    unfold cV5
    rw [cF5_at, if_neg (by omega), cF4_at, if_neg (by omega), if_neg (by omega), cv3_T ht hs, cF2_at, if_neg (by omega)]
  refine ⟨?_, ?_, ?_, ?_, ?_, ?_⟩
  · unfold cV5
    rw [cF5_at, if_neg (by omega), cF4_at, if_neg (by omega), if_neg (by omega), cv3_T ht hs, cF2_at, if_neg (by omega), cF1_at, if_neg (by omega), if_neg (by omega)]
  · rw [e2, cF1_at]
    simp
  · rw [e3, cF1_at]
    simp
  · rw [e2, e3]
    unfold cV5
    rw [cF5_at, if_neg (by omega), cF4_at]
    have a2 := cv3_T (st := st) ht hs 2
    have a4 := cv3_T (st := st) ht hs 4
    have b4 : cF1 X G st s (thG G s) (roG G (thG G s)) (thG G s) 4 = X (thG G s) 4 := by rw [cF1_at, if_neg (fun q => absurd q.2.2 (by decide)), if_neg (fun q => absurd q.2.2 (by decide))]
    rw [cF2_at, if_neg (by omega)] at a2
    rw [cF2_at, cv1_n (r := 5) (by omega), cv1_n (r := roG G (thG G s)) (by omega), b4] at a4
    simp only [a2, a4, cv3_n ht hs (r := 5) (by omega) (by decide), cv3_n ht hs (r := roG G (thG G s)) (by omega) (by omega), cv3_n ht hs (r := 17) (by omega) (by decide)]
    simp
  · unfold cV5
    rw [cF5_at, if_neg (by omega), cF4_at]
    have a5 := cv3_T (st := st) ht hs 5
    rw [cF2_at, if_neg (by omega), cF1_at, if_neg (fun q => absurd q.2.2 (by decide)), if_neg (fun q => absurd q.2.2 (by decide))] at a5
    have a9 := cv3_14 (st := st) ht hs 9
    rw [if_neg (fun q => absurd q.2 (by decide))] at a9
    simp only [a5, a9, cv3_n ht hs (r := 5) (by omega) (by decide), cv3_n ht hs (r := roG G (thG G s)) (by omega) (by omega)]
    simp
  · unfold cV5
    have h4 : ∀ r, r < 24 ∨ 32 ≤ r → r ≠ 14 → cF4 (cF3 (cF2 (cF1 X G st s (thG G s) (roG G (thG G s))) s (thG G s) (roG G (thG G s))) G s (thG G s) (roG G (thG G s))) s (thG G s) (roG G (thG G s)) r = X r := fun r h1 h2 => by
      funext f; rw [cF4_at, if_neg (by omega), if_neg (by omega), cv3_n ht hs h1 h2]
    have h49 : cF4 (cF3 (cF2 (cF1 X G st s (thG G s) (roG G (thG G s))) s (thG G s) (roG G (thG G s))) G s (thG G s) (roG G (thG G s))) s (thG G s) (roG G (thG G s)) 14 9 = X 14 9 := by
      rw [cF4_at, if_neg (by omega), if_neg (by omega), cv3_14 ht hs, if_neg (by omega)]
    have h46 : cF4 (cF3 (cF2 (cF1 X G st s (thG G s) (roG G (thG G s))) s (thG G s) (roG G (thG G s))) G s (thG G s) (roG G (thG G s))) s (thG G s) (roG G (thG G s)) (thG G s) 6 = X (thG G s) 6 := by
      rw [cF4_at, if_neg (by omega), if_neg (by omega), cv3_T ht hs, cF2_at, if_neg (by omega), cF1_at, if_neg (by omega), if_neg (by omega)]
    rw [cF5_at, h49, h46, h4 (roG G (thG G s)) (by omega) (by omega)]
    have hg : cGiv (cF4 (cF3 (cF2 (cF1 X G st s (thG G s) (roG G (thG G s))) s (thG G s) (roG G (thG G s))) G s (thG G s) (roG G (thG G s))) s (thG G s) (roG G (thG G s))) (X (roG G (thG G s)) 0) = cGiv X (X (roG G (thG G s)) 0) := by
      unfold cGiv; rw [h4 5 (by omega) (by decide)]
    rw [hg]
    simp
theorem cBr_v (ht : okT Sh X G) (hs : s < 8) : cBr X G st s ↔ (X 5 3 = nI s ∧ (X (roG G (thG G s)) 0 = 9 ∨ (X (roG G (thG G s)) 0 = 7 ∧ cV5 X G st s (thG G s) 2 = cV5 X G st s (thG G s) 3))) := by
  obtain ⟨-, -, hr, -, -, hq, -⟩ := ht.1 s hs
  have e2 : cV5 X G st s (thG G s) 2 = cF1 X G st s (thG G s) (roG G (thG G s)) (thG G s) 2 := by
    unfold cV5
    rw [cF5_at, if_neg (by omega), cF4_at, if_neg (by omega), if_neg (by omega), cv3_T ht hs, cF2_at, if_neg (by omega)]
  have e3 : cV5 X G st s (thG G s) 3 = cF1 X G st s (thG G s) (roG G (thG G s)) (thG G s) 3 := by
    unfold cV5
    rw [cF5_at, if_neg (by omega), cF4_at, if_neg (by omega), if_neg (by omega), cv3_T ht hs, cF2_at, if_neg (by omega)]
  rw [e2, e3]
end CV
