section RB
variable {p : Program} {l : Launch} {e : Env} {R : Room} {s : State} {m : MethodId} {args : Array Value} {below : List Frame} {meth : Method} {c : Code}
variable {D : va_G} {cl : List vw_C} {ty : Nat → Nat → FieldType} {b nL : Nat} {Z : State → Prop} {cells slots : Nat} {A : Nat → Nat} {Sh : mS} {S : mI} {G : mP} {lv : List (Nat × Value)} {pc : Nat} {rest : List Value}
variable {cc : ByteArray} {own : String} {ret : Option FieldType} {TT : List Cond} {NN : State → Prop}
theorem rJ_inc (X : mX p s m meth c args cc nL own ret TT NN D cl b) {i : Nat} {n : Int} {x w : Int32} (hd : decode cc pc = .ok (.iinc i n, 3)) (hl : lvg lv i = some (.int x)) (hw : Int32.ofInt n = w) (hn : i < nL) (k : rJ p l e R s m args below meth c D cl ty b nL Z cells slots A Sh S G (lvs lv i (.int (x + w))) (pc + 3) rest) : rJ p l e R s m args below meth c D cl ty b nL Z cells slots A Sh S G lv pc rest := rJ_iinc X hd hl (by rw [hw]) hn k
end RB
section RZ
variable {p : Program} {l : Launch} {e : Env} {R : Room} {s : State} {m : MethodId} {args : Array Value} {below : List Frame} {meth : Method} {c : Code}
variable {D : va_G} {b nL : Nat} {Z : State → Prop} {cells slots : Nat} {A : Nat → Nat} {Sh : mS} {S : mI} {G : mP} {lv : List (Nat × Value)} {pc : Nat} {rest : List Value}
variable {cc : ByteArray} {own : String} {ret : Option FieldType}
theorem rMet_oz {y : MethodName} {bytes : ByteArray} {maxL : Nat} {ret : Option FieldType} {rm : Room} {av : List Value} {post : rP} (own : String) (hown : y.cls = own) (hy : plainName y.cls = true) (hav : (lg_sl av).length ≤ maxL)
    (body : ∀ p e s m args below meth c Z, Z = MQ below (mPost D vwCl mty b (rPost post)) args s rm.cells rm.slots (fun q => b ≤ q) → mX p s m meth c args bytes maxL own ret TT (NN b D) D vwCl b → meth.name = y.name → rJ p l e rm s m args below meth c D vwCl mty b maxL Z 0 0 A Sh S G (lv_args 0 av) 0 []) : rMet l D b y bytes maxL ret rm A Sh S G av post :=
  rMet_of own hown hy hav (fun p e s m args below meth c X hn => body p e s m args below meth c _ rfl X hn)
theorem rJ_iretZ {post : rP} (hZ : Z = MQ below (mPost D vwCl mty b (rPost post)) args s cells slots (fun q => b ≤ q)) (X : mX p s m meth c args cc nL own (some .int) TT (NN b D) D vwCl b) {v : Int32} (hd : decode cc pc = .ok (.ireturn, 1)) (hp : post (some (.int v)) A Sh S G) : rJ p l e R s m args below meth c D vwCl mty b nL Z cells slots A Sh S G lv pc [.int v] := by rw [hZ]; exact rJ_iret X hd hp
theorem rJ_zretZ {post : rP} (hZ : Z = MQ below (mPost D vwCl mty b (rPost post)) args s cells slots (fun q => b ≤ q)) (X : mX p s m meth c args cc nL own (some .boolean) TT (NN b D) D vwCl b) {v : Int32} (hd : decode cc pc = .ok (.ireturn, 1)) (hn : narrow .boolean (.int v) = .int v) (hp : post (some (.int v)) A Sh S G) : rJ p l e R s m args below meth c D vwCl mty b nL Z cells slots A Sh S G lv pc [.int v] := by rw [hZ]; exact rJ_zret X hd hn hp
theorem rJ_cretZ {post : rP} (hZ : Z = MQ below (mPost D vwCl mty b (rPost post)) args s cells slots (fun q => b ≤ q)) (X : mX p s m meth c args cc nL own (some .char) TT (NN b D) D vwCl b) {v : Int32} (hd : decode cc pc = .ok (.ireturn, 1)) (hn : narrow .char (.int v) = .int v) (hp : post (some (.int v)) A Sh S G) : rJ p l e R s m args below meth c D vwCl mty b nL Z cells slots A Sh S G lv pc [.int v] := by rw [hZ]; exact rJ_cret X hd hn hp
theorem rJ_vretZ {post : rP} (hZ : Z = MQ below (mPost D vwCl mty b (rPost post)) args s cells slots (fun q => b ≤ q)) (X : mX p s m meth c args cc nL own none TT (NN b D) D vwCl b) (hd : decode cc pc = .ok (.return_, 1)) (hp : post none A Sh S G) : rJ p l e R s m args below meth c D vwCl mty b nL Z cells slots A Sh S G lv pc [] := by rw [hZ]; exact rJ_vret X hd hp
theorem rJ_aretZ {post : rP} {rt : FieldType} (hZ : Z = MQ below (mPost D vwCl mty b (rPost post)) args s cells slots (fun q => b ≤ q)) (X : mX p s m meth c args cc nL own (some rt) TT (NN b D) D vwCl b) (hrt : (∃ n, rt = .object n) ∨ ∃ t, rt = .array t) {r : Nat} (hd : decode cc pc = .ok (.areturn, 1)) (hp : post (some (.ref (A r))) A Sh S G) : rJ p l e R s m args below meth c D vwCl mty b nL Z cells slots A Sh S G lv pc [.ref (A r)] := by rw [hZ]; exact rJ_aret X hrt hd hp
end RZ
/-! numbers of 32 bits -/
theorem i_le {x y : Int32} : x ≤ y ↔ x.toInt ≤ y.toInt := Int32.le_iff_toInt_le
theorem i_lt {x y : Int32} : x < y ↔ x.toInt < y.toInt := Int32.lt_iff_toInt_lt
theorem i_eq {x y : Int32} : x = y ↔ x.toInt = y.toInt := Int32.toInt_inj.symm
theorem i_lo (x : Int32) : -2147483648 ≤ x.toInt := Int32.le_toInt x
theorem i_hi (x : Int32) : x.toInt < 2147483648 := Int32.toInt_lt x
theorem i_add {x y : Int32} (h1 : -2147483648 ≤ x.toInt + y.toInt) (h2 : x.toInt + y.toInt < 2147483648) : (x + y).toInt = x.toInt + y.toInt := by
  rw [Int32.toInt_add]
  exact Int.bmod_eq_of_le (by omega) (by omega)
theorem i_sub {x y : Int32} (h1 : -2147483648 ≤ x.toInt - y.toInt) (h2 : x.toInt - y.toInt < 2147483648) : (x - y).toInt = x.toInt - y.toInt := by
  rw [Int32.toInt_sub]
  exact Int.bmod_eq_of_le (by omega) (by omega)
theorem i_cl {x : Int32} (h : 0 ≤ x.toInt) : ((x.toNatClampNeg : Nat) : Int) = x.toInt := by
  show ((x.toInt.toNat : Nat) : Int) = x.toInt
  omega
theorem in_i {x : Int32} {n : Nat} (h0 : 0 ≤ x.toInt) (h1 : x.toInt < n) : vp_in x n := vp_in_iff.mpr ⟨h0, h1⟩
theorem i_nI {n : Nat} (h : n < 2147483648) : (nI n).toInt = n := nI_toInt h
theorem z_t {P : Prop} [Decidable P] (h : ¬ (if P then (1 : Int32) else 0) = 0) : P := by
  by_cases hp : P
  · exact hp
  · simp [hp] at h
theorem z_f {P : Prop} [Decidable P] (h : (if P then (1 : Int32) else 0) = 0) : ¬ P := fun hp => by simp [hp] at h
theorem z_n {P : Prop} [Decidable P] : narrow .boolean (.int (if P then (1 : Int32) else 0)) = .int (if P then (1 : Int32) else 0) := by
  by_cases hp : P <;> simp [hp] <;> rfl
theorem z_b {P : Prop} [Decidable P] : fits .boolean (.int (if P then (1 : Int32) else 0)) = true := by
  by_cases hp : P <;> simp [hp] <;> rfl
section RQ
variable {p : Program} {l : Launch} {e : Env} {R : Room} {s : State} {m : MethodId} {args : Array Value} {below : List Frame} {meth : Method} {c : Code}
variable {D : va_G} {cl : List vw_C} {ty : Nat → Nat → FieldType} {b nL : Nat} {Z : State → Prop} {cells slots : Nat} {A : Nat → Nat} {Sh : mS} {S : mI} {G : mP} {lv : List (Nat × Value)} {pc : Nat} {rest : List Value}
variable {cc : ByteArray} {own : String} {ret : Option FieldType} {TT : List Cond} {NN : State → Prop}
theorem rJ_ialdK (X : mX p s m meth c args cc nL own ret TT NN D cl b) {r n : Nat} {k : Nat} {i : Int32} (hi : i = nI k) (hk : k < n ∧ n < 2147483648) (hr : Sh r = some (1, 0, n)) (hd : decode cc pc = .ok (.iaload, 1)) (kk : rJ p l e R s m args below meth c D cl ty b nL Z cells slots A Sh S G lv (pc + 1) (.int (S r k) :: rest)) : rJ p l e R s m args below meth c D cl ty b nL Z cells slots A Sh S G lv pc (.int i :: .ref (A r) :: rest) := by
  obtain rfl := hi; have hc : (nI k).toNatClampNeg = k := nI_clamp (by omega)
  exact rJ_iald X hr (vp_in_nI hk.1 hk.2) hd (by rw [hc]; exact kk)
theorem rJ_zaldK (X : mX p s m meth c args cc nL own ret TT NN D cl b) {r n : Nat} {k : Nat} {i : Int32} (hi : i = nI k) (hk : k < n ∧ n < 2147483648) (hr : Sh r = some (2, 0, n)) (hd : decode cc pc = .ok (.baload, 1)) (kk : rJ p l e R s m args below meth c D cl ty b nL Z cells slots A Sh S G lv (pc + 1) (.int (S r k) :: rest)) : rJ p l e R s m args below meth c D cl ty b nL Z cells slots A Sh S G lv pc (.int i :: .ref (A r) :: rest) := by
  obtain rfl := hi; have hc : (nI k).toNatClampNeg = k := nI_clamp (by omega)
  exact rJ_zald X hr (vp_in_nI hk.1 hk.2) hd (by rw [hc]; exact kk)
theorem rJ_iastK (X : mX p s m meth c args cc nL own ret TT NN D cl b) {r n : Nat} {x : Int32} {k : Nat} {i : Int32} (hi : i = nI k) (hk : k < n ∧ n < 2147483648) (hr : Sh r = some (1, 0, n)) (hd : decode cc pc = .ok (.iastore, 1)) (kk : ∀ S' : mI, S' = mu S r k x → rJ p l e R s m args below meth c D cl ty b nL Z cells slots A Sh S' G lv (pc + 1) rest) : rJ p l e R s m args below meth c D cl ty b nL Z cells slots A Sh S G lv pc (.int x :: .int i :: .ref (A r) :: rest) := by
  obtain rfl := hi; have hc : (nI k).toNatClampNeg = k := nI_clamp (by omega)
  exact rJ_iast X hr (vp_in_nI hk.1 hk.2) hd (fun S' e => kk S' (by rw [e, hc]))
theorem rJ_zastK (X : mX p s m meth c args cc nL own ret TT NN D cl b) {r n : Nat} {x : Int32} {k : Nat} {i : Int32} (hi : i = nI k) (hk : k < n ∧ n < 2147483648) (hr : Sh r = some (2, 0, n)) (hx : vp_nar .boolean x = x) (hd : decode cc pc = .ok (.bastore, 1)) (kk : ∀ S' : mI, S' = mu S r k x → rJ p l e R s m args below meth c D cl ty b nL Z cells slots A Sh S' G lv (pc + 1) rest) : rJ p l e R s m args below meth c D cl ty b nL Z cells slots A Sh S G lv pc (.int x :: .int i :: .ref (A r) :: rest) := by
  obtain rfl := hi; have hc : (nI k).toNatClampNeg = k := nI_clamp (by omega)
  exact rJ_zast X hr (vp_in_nI hk.1 hk.2) hx hd (fun S' e => kk S' (by rw [e, hc]))
theorem rJ_aaldK (X : mX p s m meth c args cc nL own ret TT NN D cl b) {r j n q : Nat} {k : Nat} {i : Int32} (hi : i = nI k) (hk : k < n ∧ n < 2147483648) (hr : Sh r = some (j + 3, 0, n)) (hg : G r k = some q) (hd : decode cc pc = .ok (.aaload, 1)) (kk : rJ p l e R s m args below meth c D cl ty b nL Z cells slots A Sh S G lv (pc + 1) (.ref (A q) :: rest)) : rJ p l e R s m args below meth c D cl ty b nL Z cells slots A Sh S G lv pc (.int i :: .ref (A r) :: rest) := by
  obtain rfl := hi; have hc : (nI k).toNatClampNeg = k := nI_clamp (by omega)
  exact rJ_aald X hr (vp_in_nI hk.1 hk.2) (by rw [hc]; exact hg) hd kk
theorem rJ_aastK (X : mX p s m meth c args cc nL own ret TT NN D cl b) {r j n q : Nat} {k : Nat} {i : Int32} (hi : i = nI k) (hk : k < n ∧ n < 2147483648) (hr : Sh r = some (j + 3, 0, n)) (hq : Sh q = some (0, j, 0)) (hd : decode cc pc = .ok (.aastore, 1)) (kk : ∀ G' : mP, G' = mu G r k (some q) → rJ p l e R s m args below meth c D cl ty b nL Z cells slots A Sh S G' lv (pc + 1) rest) : rJ p l e R s m args below meth c D cl ty b nL Z cells slots A Sh S G lv pc (.ref (A q) :: .int i :: .ref (A r) :: rest) := by
  obtain rfl := hi; have hc : (nI k).toNatClampNeg = k := nI_clamp (by omega)
  exact rJ_aast X hr hq (vp_in_nI hk.1 hk.2) hd (fun G' e => kk G' (by rw [e, hc]))
end RQ
/-! the reference's cells: its object 100, the row of its field k at 101 + k -/
def shM (r : Nat) : Option (Nat × Nat × Nat) := bif Nat.blt r 100 then none else [some (0, 11, 0), some (1, 0, 30), none, none, some (1, 0, 7), none, some (1, 0, 40), some (1, 0, 40), some (1, 0, 40), some (1, 0, 40), some (1, 0, 40), none, some (1, 0, 64), some (1, 0, 8), some (1, 0, 8), some (2, 0, 8), some (1, 0, 8), some (1, 0, 8), some (1, 0, 8), some (1, 0, 8), some (1, 0, 8), none, none, none, none, some (1, 0, 8), some (1, 0, 8), some (1, 0, 64), none, some (1, 0, 1000), some (1, 0, 1000), some (1, 0, 1000), some (1, 0, 1000), none, some (1, 0, 7), some (1, 0, 8), some (1, 0, 64)].getD (r - 100) none
def gM (k : Nat) : Option Nat := [some 101, none, none, some 104, none, some 106, some 107, some 108, some 109, some 110, none, some 112, some 113, some 114, some 115, some 116, some 117, some 118, some 119, some 120, none, none, none, none, some 125, some 126, some 127, none, some 129, some 130, some 131, some 132, none, some 134, some 135, some 136].getD k none
def okM (Sh : mS) (G : mP) : Prop := (∀ r sh, shM r = some sh → Sh r = some sh) ∧ ∀ k q, gM k = some q → G 100 k = some q
