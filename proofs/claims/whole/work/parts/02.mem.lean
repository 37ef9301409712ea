/-! THE MEMORY: shapes T, numbers I, references P over the addresses from b on; a walk over it (mJ), a contract over it (mMet) -/
abbrev mT : Type := Nat → Option (Nat × Nat × Nat)
abbrev mI : Type := Nat → Nat → Int32
abbrev mP : Type := Nat → Nat → Option Nat
def mu {α : Type} (f : Nat → Nat → α) (a k : Nat) (v : α) : Nat → Nat → α := fun x y => if x = a ∧ y = k then v else f x y
theorem mu_eq {α : Type} (f : Nat → Nat → α) (a k : Nat) (v : α) : mu f a k v a k = v := by simp [mu]
theorem mu_na {α : Type} (f : Nat → Nat → α) {a x : Nat} (k : Nat) (v : α) (h : x ≠ a) (y : Nat) : mu f a k v x y = f x y := by simp [mu, h]
theorem mu_ns {α : Type} (f : Nat → Nat → α) (a : Nat) {k y : Nat} (v : α) (h : y ≠ k) (x : Nat) : mu f a k v x y = f x y := by simp [mu, h]
theorem mu_row {α : Type} (f : Nat → Nat → α) {a x : Nat} (k : Nat) (v : α) (h : x ≠ a) : mu f a k v x = f x := by funext y; exact mu_na f k v h y
def mv (ty : FieldType) (x : Int32) (r : Option Nat) : Value := match ty with
  | .object _ => va_rf r
  | .array _ => va_rf r
  | _ => .int x
/-- a cell of a shape: 0 an object of class number sh.2.1; 1 a row of ints; 2 a row of booleans; j + 3 a row of references to objects of class number j -/
def mC (D : va_G) (cl : List vw_C) (ty : Nat → Nat → FieldType) (s : State) (sh : Nat × Nat × Nat) (f : Nat → Int32) (r : Nat → Option Nat) (a : Nat) (H : Heap) : Prop :=
  match sh.1 with
  | 0 => ∃ q : vw_C, cl[sh.2.1]? = some q ∧ t_OB a (D.1 sh.2.1) q.2.2 (D.2 sh.2.1) H (fun k => mv (ty sh.2.1 k) (f k) (r k))
  | 1 => ∃ cA : ClassId, (ArrOfT s cA .int ∧ va_RA s cA .int) ∧ H[a]? = some (arrV cA sh.2.2 (fun j => .int (f j)))
  | 2 => ∃ cA : ClassId, (ArrOfT s cA .boolean ∧ va_RA s cA .boolean) ∧ H[a]? = some (arrV cA sh.2.2 (fun j => .int (f j)))
  | j + 3 => ∃ cA : ClassId, (∃ q : vw_C, cl[j]? = some q ∧ ArrOfT s cA (.object q.1) ∧ va_RA s cA (.object q.1)) ∧ H[a]? = some (arrV cA sh.2.2 (fun j => va_rf (r j)))
theorem mC.kept {D : va_G} {cl : List vw_C} {ty : Nat → Nat → FieldType} {s : State} {sh : Nat × Nat × Nat} {f : Nat → Int32} {r : Nat → Option Nat} {a : Nat} {H H1 : Heap} (h : mC D cl ty s sh f r a H) (hq : H1[a]? = H[a]?) : mC D cl ty s sh f r a H1 := by
  obtain ⟨k, c, n⟩ := sh
  match k, h with
  | 0, h => obtain ⟨q, h1, h2⟩ := h; exact ⟨q, h1, h2.kept hq⟩
  | 1, h => obtain ⟨cA, h1, h2⟩ := h; exact ⟨cA, h1, hq.trans h2⟩
  | 2, h => obtain ⟨cA, h1, h2⟩ := h; exact ⟨cA, h1, hq.trans h2⟩
  | k + 3, h => obtain ⟨cA, h1, h2⟩ := h; exact ⟨cA, h1, hq.trans h2⟩
theorem mC.lt {D : va_G} {cl : List vw_C} {ty : Nat → Nat → FieldType} {s : State} {sh : Nat × Nat × Nat} {f : Nat → Int32} {r : Nat → Option Nat} {a : Nat} {H : Heap} (h : mC D cl ty s sh f r a H) : a < H.size := by
  obtain ⟨k, c, n⟩ := sh
  match k, h with
  | 0, h => obtain ⟨q, h1, cell, h2, -⟩ := h; exact (Array.getElem?_eq_some_iff.mp h2).1
  | 1, h => obtain ⟨cA, h1, h2⟩ := h; exact (Array.getElem?_eq_some_iff.mp h2).1
  | 2, h => obtain ⟨cA, h1, h2⟩ := h; exact (Array.getElem?_eq_some_iff.mp h2).1
  | k + 3, h => obtain ⟨cA, h1, h2⟩ := h; exact (Array.getElem?_eq_some_iff.mp h2).1
theorem mC.moved {D : va_G} {cl : List vw_C} {ty : Nat → Nat → FieldType} {s U : State} {sh : Nat × Nat × Nat} {f : Nat → Int32} {r : Nat → Option Nat} {a : Nat} {H : Heap} (hvm : s.vm.Alike U.vm) (h : mC D cl ty s sh f r a H) : mC D cl ty U sh f r a H := by
  obtain ⟨k, c, n⟩ := sh
  match k, h with
  | 0, h => exact h
  | 1, h => obtain ⟨cA, h1, h2⟩ := h; exact ⟨cA, ⟨arrOfT_moved hvm h1.1, h1.2.moved hvm⟩, h2⟩
  | 2, h => obtain ⟨cA, h1, h2⟩ := h; exact ⟨cA, ⟨arrOfT_moved hvm h1.1, h1.2.moved hvm⟩, h2⟩
  | k + 3, h => obtain ⟨cA, ⟨q, g1, g2, g3⟩, h2⟩ := h; exact ⟨cA, ⟨q, g1, arrOfT_moved hvm g2, g3.moved hvm⟩, h2⟩
/-- the memory (T, I, P) is what the heap holds from b on -/
def mW (D : va_G) (cl : List vw_C) (ty : Nat → Nat → FieldType) (b : Nat) (T : mT) (I : mI) (P : mP) (s : State) (H : Heap) : Prop := ∀ (a : Nat) (sh : Nat × Nat × Nat), T a = some sh → b ≤ a ∧ mC D cl ty s sh (I a) (P a) a H
theorem mW.moved {D : va_G} {cl : List vw_C} {ty : Nat → Nat → FieldType} {b : Nat} {T : mT} {I : mI} {P : mP} {s U : State} {H : Heap} (hvm : s.vm.Alike U.vm) (h : mW D cl ty b T I P s H) : mW D cl ty b T I P U H := fun a sh ha => ⟨(h a sh ha).1, (h a sh ha).2.moved hvm⟩
/-- one cell has changed -/
theorem mW.put {D : va_G} {cl : List vw_C} {ty : Nat → Nat → FieldType} {b : Nat} {T : mT} {I I' : mI} {P P' : mP} {s : State} {H H1 : Heap} {a : Nat} {sh : Nat × Nat × Nat} (h : mW D cl ty b T I P s H) (ha : T a = some sh) (hI : ∀ x, x ≠ a → I' x = I x) (hP : ∀ x, x ≠ a → P' x = P x) (ho : ∀ q : Nat, q ≠ a → H1[q]? = H[q]?) (hc : mC D cl ty s sh (I' a) (P' a) a H1) : mW D cl ty b T I' P' s H1 := by
  intro x sx hx
  by_cases he : x = a
  · subst he
    obtain rfl : sh = sx := Option.some.inj (ha.symm.trans hx)
    exact ⟨(h x sh hx).1, hc⟩
  · rw [hI x he, hP x he]
    exact ⟨(h x sx hx).1, (h x sx hx).2.kept (ho x he)⟩
/-- one cell has come -/
theorem mW.new {D : va_G} {cl : List vw_C} {ty : Nat → Nat → FieldType} {b : Nat} {T : mT} {I I' : mI} {P P' : mP} {s : State} {H H1 : Heap} {sh : Nat × Nat × Nat} (h : mW D cl ty b T I P s H) (hb : b ≤ H.size) (hI : ∀ x, x ≠ H.size → I' x = I x) (hP : ∀ x, x ≠ H.size → P' x = P x) (ho : ∀ q : Nat, q < H.size → H1[q]? = H[q]?) (hc : mC D cl ty s sh (I' H.size) (P' H.size) H.size H1) : mW D cl ty b (fun x => if x = H.size then some sh else T x) I' P' s H1 := by
  intro x sx hx
  by_cases he : x = H.size
  · subst he
    simp at hx
    subst hx
    exact ⟨hb, hc⟩
  · simp [he] at hx
    rw [hI x he, hP x he]
    exact ⟨(h x sx hx).1, (h x sx hx).2.kept (ho x (h x sx hx).2.lt)⟩
def lvg : List (Nat × Value) → Nat → Option Value
  | [], _ => none
  | (j, v) :: r, i => bif Nat.beq j i then some v else lvg r i
theorem lvg_mem : ∀ {lv : List (Nat × Value)} {i : Nat} {v : Value}, lvg lv i = some v → (i, v) ∈ lv
  | [], _, _, h => by cases h
  | (j, w) :: r, i, v, h => by
    unfold lvg at h
    cases hb : Nat.beq j i with
    | true =>
      rw [hb] at h
      obtain rfl : j = i := Nat.eq_of_beq_eq_true hb
      obtain rfl : w = v := Option.some.inj h
      exact List.mem_cons_self
    | false =>
      rw [hb] at h
      exact List.mem_cons_of_mem _ (lvg_mem h)
theorem lvg_has {ls : Array Slot} {nL : Nat} {lv : List (Nat × Value)} (h : lv_has ls nL lv) {i : Nat} {v : Value} (hg : lvg lv i = some v) : ls[i]? = some (.val v) := h.2.2 (i, v) (lvg_mem hg)
abbrev lvs (lv : List (Nat × Value)) (i : Nat) (v : Value) : List (Nat × Value) := (i, v) :: lv.filter (fun q => !(q.1 == i) && !(q.1 + 1 == i && q.2.category == 2))
theorem lvg_sub {ls : Array Slot} {nL : Nat} {lv lv' : List (Nat × Value)} (h : lv_has ls nL lv) (hs : lv'.map (fun q => lvg lv q.1) = lv'.map (fun q => some q.2)) : lv_has ls nL lv' := by
  refine ⟨h.1, h.2.1, fun q hq => ?_⟩
  have h1 : lvg lv q.1 = some q.2 := by
    obtain ⟨i, hi⟩ := List.getElem?_of_mem hq
    have e := congrArg (fun l => l[i]?) hs
    simp only [List.getElem?_map, hi, Option.map_some] at e
    exact Option.some.inj e
  exact lvg_has h h1
/-- what is fixed in a method's walk -/
def mX (p : Program) (s : State) (m : MethodId) (meth : Method) (c : Code) (args : Array Value) (cc : ByteArray) (nL : Nat) (own : String) (ret : Option FieldType) (TT : List Cond) (NN : State → Prop) (D : va_G) (cl : List vw_C) (b : Nat) : Prop :=
  p.tables.exec = Jvm.exec ∧ c.code = cc ∧ c.maxLocals = nL ∧ s.vm.findClass own = some m.cls ∧ (∀ w ∈ TT, w.before args s = true) ∧ va_K D cl [] s ∧ b ≤ s.heap.size ∧ meth.sig.returnType = ret ∧ meth.locks = false ∧ NN s ∧ GoodIn TT TT ∧ (∀ u U : State, u.WarmedH U.vm → (∀ q : Nat, q < b → U.heap[q]? = u.heap[q]?) → NN u → NN U)
/-- a class by its number: its fields, their types, its words -/
def mCl (cl : List vw_C) (ty : Nat → Nat → FieldType) (TT : List Cond) (ci : Nat) (C : String) (F : u_T) (N : Nat) : Prop :=
  cl[ci]? = some (C, F, N) ∧ (∀ w ∈ u_ws C F N, w ∈ TT) ∧ (∀ k, k < N → parseFieldDescriptor (F k).2.2.1 = some (ty ci k)) ∧ (∀ a, a < N → ∀ b, b < N → a ≠ b → (F a).2.1 ≠ (F b).2.1)
section MJ
variable {p : Program} {l : Launch} {e : Env} {R : Room} {s : State} {m : MethodId} {args : Array Value} {below : List Frame} {meth : Method} {c : Code}
variable {D : va_G} {cl : List vw_C} {ty : Nat → Nat → FieldType} {b nL : Nat} {Q : State → Prop} {cells slots : Nat} {T : mT} {I : mI} {P : mP} {lv : List (Nat × Value)} {pc : Nat} {rest : List Value}
variable {cc : ByteArray} {own : String} {ret : Option FieldType} {TT : List Cond} {NN : State → Prop}
/-- THE WALK: at pc, with these locals and this stack, over any heap that holds the memory, the machine comes to Q -/
def mJ (p : Program) (l : Launch) (e : Env) (R : Room) (s : State) (m : MethodId) (args : Array Value) (below : List Frame) (meth : Method) (c : Code) (D : va_G) (cl : List vw_C) (ty : Nat → Nat → FieldType) (b nL : Nat) (Q : State → Prop) (cells slots : Nat) (T : mT) (I : mI) (P : mP) (lv : List (Nat × Value)) (pc : Nat) (st : List Value) : Prop :=
  ∀ (H : Heap) (locs : List Loc) (ls : Array Slot), mW D cl ty b T I P s H → va_S (fun q => b ≤ q) s.heap H locs → lv_has ls nL lv → W p l e R s m args below meth c H locs cells slots Q (F0 m pc ls st)
theorem mJ_lv {st : List Value} (lv' : List (Nat × Value)) (hs : lv'.map (fun q => lvg lv q.1) = lv'.map (fun q => some q.2)) (k : mJ p l e R s m args below meth c D cl ty b nL Q cells slots T I P lv' pc st) : mJ p l e R s m args below meth c D cl ty b nL Q cells slots T I P lv pc st :=
  fun H locs ls h1 h2 h3 => k H locs ls h1 h2 (lvg_sub h3 hs)
theorem mJ_wide {st : List Value} {k n : Nat} (h1 : cells ≤ k) (h2 : slots ≤ n) (kk : mJ p l e R s m args below meth c D cl ty b nL Q k n T I P lv pc st) : mJ p l e R s m args below meth c D cl ty b nL Q cells slots T I P lv pc st :=
  fun H locs ls g1 g2 g3 => W.widen h1 h2 (kk H locs ls g1 g2 g3)
theorem mJ_iconst (X : mX p s m meth c args cc nL own ret TT NN D cl b) {n : Int} {v : Int32} (hd : decode cc pc = .ok (.iconst n, 1)) (hv : Int32.ofInt n = v) (k : mJ p l e R s m args below meth c D cl ty b nL Q cells slots T I P lv (pc + 1) (.int v :: rest)) : mJ p l e R s m args below meth c D cl ty b nL Q cells slots T I P lv pc (rest) := fun H locs ls h1 h2 h3 => lv_iconst X.1 X.2.1 hd hv (k H locs ls h1 h2 h3)
theorem mJ_bipush (X : mX p s m meth c args cc nL own ret TT NN D cl b) {n : Int} {v : Int32} (hd : decode cc pc = .ok (.bipush n, 2)) (hv : (Int8.ofInt n).toInt32 = v) (k : mJ p l e R s m args below meth c D cl ty b nL Q cells slots T I P lv (pc + 2) (.int v :: rest)) : mJ p l e R s m args below meth c D cl ty b nL Q cells slots T I P lv pc (rest) := fun H locs ls h1 h2 h3 => lv_bipush X.1 X.2.1 hd hv (k H locs ls h1 h2 h3)
theorem mJ_sipush (X : mX p s m meth c args cc nL own ret TT NN D cl b) {n : Int} {v : Int32} (hd : decode cc pc = .ok (.sipush n, 3)) (hv : (Int16.ofInt n).toInt32 = v) (k : mJ p l e R s m args below meth c D cl ty b nL Q cells slots T I P lv (pc + 3) (.int v :: rest)) : mJ p l e R s m args below meth c D cl ty b nL Q cells slots T I P lv pc (rest) := fun H locs ls h1 h2 h3 => lv_sipush X.1 X.2.1 hd hv (k H locs ls h1 h2 h3)
theorem mJ_iload_n (X : mX p s m meth c args cc nL own ret TT NN D cl b) {k : Fin 4} {i : Nat} {x : Int32} (hd : decode cc pc = .ok (.iload_n k, 1)) (hi : (k : Nat) = i) (hl : lvg lv i = some (.int x)) (k : mJ p l e R s m args below meth c D cl ty b nL Q cells slots T I P lv (pc + 1) (.int x :: rest)) : mJ p l e R s m args below meth c D cl ty b nL Q cells slots T I P lv pc (rest) := fun H locs ls h1 h2 h3 => lv_iload_n X.1 X.2.1 hd hi (lvg_has h3 hl) (k H locs ls h1 h2 h3)
theorem mJ_iload (X : mX p s m meth c args cc nL own ret TT NN D cl b) {i : Nat} {x : Int32} (hd : decode cc pc = .ok (.iload i, 2)) (hl : lvg lv i = some (.int x)) (k : mJ p l e R s m args below meth c D cl ty b nL Q cells slots T I P lv (pc + 2) (.int x :: rest)) : mJ p l e R s m args below meth c D cl ty b nL Q cells slots T I P lv pc (rest) := fun H locs ls h1 h2 h3 => lv_iload X.1 X.2.1 hd (lvg_has h3 hl) (k H locs ls h1 h2 h3)
theorem mJ_aload_n (X : mX p s m meth c args cc nL own ret TT NN D cl b) {k : Fin 4} {i : Nat} {x : Nat} (hd : decode cc pc = .ok (.aload_n k, 1)) (hi : (k : Nat) = i) (hl : lvg lv i = some (.ref x)) (k : mJ p l e R s m args below meth c D cl ty b nL Q cells slots T I P lv (pc + 1) (.ref x :: rest)) : mJ p l e R s m args below meth c D cl ty b nL Q cells slots T I P lv pc (rest) := fun H locs ls h1 h2 h3 => lv_aload_n X.1 X.2.1 hd hi (lvg_has h3 hl) (k H locs ls h1 h2 h3)
theorem mJ_aload (X : mX p s m meth c args cc nL own ret TT NN D cl b) {i : Nat} {x : Nat} (hd : decode cc pc = .ok (.aload i, 2)) (hl : lvg lv i = some (.ref x)) (k : mJ p l e R s m args below meth c D cl ty b nL Q cells slots T I P lv (pc + 2) (.ref x :: rest)) : mJ p l e R s m args below meth c D cl ty b nL Q cells slots T I P lv pc (rest) := fun H locs ls h1 h2 h3 => lv_aload X.1 X.2.1 hd (lvg_has h3 hl) (k H locs ls h1 h2 h3)
theorem mJ_iadd (X : mX p s m meth c args cc nL own ret TT NN D cl b) {x y : Int32} (hd : decode cc pc = .ok (.iadd, 1))  (k : mJ p l e R s m args below meth c D cl ty b nL Q cells slots T I P lv (pc + 1) (.int (x + y) :: rest)) : mJ p l e R s m args below meth c D cl ty b nL Q cells slots T I P lv pc (.int y :: .int x :: rest) := fun H locs ls h1 h2 h3 => lv_iadd X.1 X.2.1 hd (k H locs ls h1 h2 h3)
theorem mJ_isub (X : mX p s m meth c args cc nL own ret TT NN D cl b) {x y : Int32} (hd : decode cc pc = .ok (.isub, 1))  (k : mJ p l e R s m args below meth c D cl ty b nL Q cells slots T I P lv (pc + 1) (.int (x - y) :: rest)) : mJ p l e R s m args below meth c D cl ty b nL Q cells slots T I P lv pc (.int y :: .int x :: rest) := fun H locs ls h1 h2 h3 => lv_isub X.1 X.2.1 hd (k H locs ls h1 h2 h3)
theorem mJ_imul (X : mX p s m meth c args cc nL own ret TT NN D cl b) {x y : Int32} (hd : decode cc pc = .ok (.imul, 1))  (k : mJ p l e R s m args below meth c D cl ty b nL Q cells slots T I P lv (pc + 1) (.int (x * y) :: rest)) : mJ p l e R s m args below meth c D cl ty b nL Q cells slots T I P lv pc (.int y :: .int x :: rest) := fun H locs ls h1 h2 h3 => lv_imul X.1 X.2.1 hd (k H locs ls h1 h2 h3)
theorem mJ_iand (X : mX p s m meth c args cc nL own ret TT NN D cl b) {x y : Int32} (hd : decode cc pc = .ok (.iand, 1))  (k : mJ p l e R s m args below meth c D cl ty b nL Q cells slots T I P lv (pc + 1) (.int (x &&& y) :: rest)) : mJ p l e R s m args below meth c D cl ty b nL Q cells slots T I P lv pc (.int y :: .int x :: rest) := fun H locs ls h1 h2 h3 => lv_iand X.1 X.2.1 hd (k H locs ls h1 h2 h3)
theorem mJ_ior (X : mX p s m meth c args cc nL own ret TT NN D cl b) {x y : Int32} (hd : decode cc pc = .ok (.ior, 1))  (k : mJ p l e R s m args below meth c D cl ty b nL Q cells slots T I P lv (pc + 1) (.int (x ||| y) :: rest)) : mJ p l e R s m args below meth c D cl ty b nL Q cells slots T I P lv pc (.int y :: .int x :: rest) := fun H locs ls h1 h2 h3 => lv_ior X.1 X.2.1 hd (k H locs ls h1 h2 h3)
theorem mJ_ixor (X : mX p s m meth c args cc nL own ret TT NN D cl b) {x y : Int32} (hd : decode cc pc = .ok (.ixor, 1))  (k : mJ p l e R s m args below meth c D cl ty b nL Q cells slots T I P lv (pc + 1) (.int (x ^^^ y) :: rest)) : mJ p l e R s m args below meth c D cl ty b nL Q cells slots T I P lv pc (.int y :: .int x :: rest) := fun H locs ls h1 h2 h3 => lv_ixor X.1 X.2.1 hd (k H locs ls h1 h2 h3)
theorem mJ_idiv (X : mX p s m meth c args cc nL own ret TT NN D cl b) {x y : Int32} (hd : decode cc pc = .ok (.idiv, 1)) (hne : ¬ y = 0) (k : mJ p l e R s m args below meth c D cl ty b nL Q cells slots T I P lv (pc + 1) (.int (x / y) :: rest)) : mJ p l e R s m args below meth c D cl ty b nL Q cells slots T I P lv pc (.int y :: .int x :: rest) := fun H locs ls h1 h2 h3 => lv_idiv X.1 X.2.1 hd hne (k H locs ls h1 h2 h3)
theorem mJ_irem (X : mX p s m meth c args cc nL own ret TT NN D cl b) {x y : Int32} (hd : decode cc pc = .ok (.irem, 1)) (hne : ¬ y = 0) (k : mJ p l e R s m args below meth c D cl ty b nL Q cells slots T I P lv (pc + 1) (.int (x - x / y * y) :: rest)) : mJ p l e R s m args below meth c D cl ty b nL Q cells slots T I P lv pc (.int y :: .int x :: rest) := fun H locs ls h1 h2 h3 => lv_irem X.1 X.2.1 hd hne (k H locs ls h1 h2 h3)
theorem mJ_ineg (X : mX p s m meth c args cc nL own ret TT NN D cl b) {x : Int32} (hd : decode cc pc = .ok (.ineg, 1))  (k : mJ p l e R s m args below meth c D cl ty b nL Q cells slots T I P lv (pc + 1) (.int (-x) :: rest)) : mJ p l e R s m args below meth c D cl ty b nL Q cells slots T I P lv pc (.int x :: rest) := fun H locs ls h1 h2 h3 => lv_ineg X.1 X.2.1 hd (k H locs ls h1 h2 h3)
theorem mJ_dup (X : mX p s m meth c args cc nL own ret TT NN D cl b) {va : Value} (hd : decode cc pc = .ok (.dup, 1)) (hva : va.category = 1) (k : mJ p l e R s m args below meth c D cl ty b nL Q cells slots T I P lv (pc + 1) (va :: va :: rest)) : mJ p l e R s m args below meth c D cl ty b nL Q cells slots T I P lv pc (va :: rest) := fun H locs ls h1 h2 h3 => lv_dup X.1 X.2.1 hd hva (k H locs ls h1 h2 h3)
theorem mJ_pop (X : mX p s m meth c args cc nL own ret TT NN D cl b) {va : Value} (hd : decode cc pc = .ok (.pop, 1)) (hva : va.category = 1) (k : mJ p l e R s m args below meth c D cl ty b nL Q cells slots T I P lv (pc + 1) (rest)) : mJ p l e R s m args below meth c D cl ty b nL Q cells slots T I P lv pc (va :: rest) := fun H locs ls h1 h2 h3 => lv_pop X.1 X.2.1 hd hva (k H locs ls h1 h2 h3)
theorem mJ_dup_x1 (X : mX p s m meth c args cc nL own ret TT NN D cl b) {va vb : Value} (hd : decode cc pc = .ok (.dup_x1, 1)) (hva : va.category = 1) (hvb : vb.category = 1) (k : mJ p l e R s m args below meth c D cl ty b nL Q cells slots T I P lv (pc + 1) (va :: vb :: va :: rest)) : mJ p l e R s m args below meth c D cl ty b nL Q cells slots T I P lv pc (va :: vb :: rest) := fun H locs ls h1 h2 h3 => lv_dup_x1 X.1 X.2.1 hd hva hvb (k H locs ls h1 h2 h3)
theorem mJ_dup2 (X : mX p s m meth c args cc nL own ret TT NN D cl b) {va vb : Value} (hd : decode cc pc = .ok (.dup2, 1)) (hva : va.category = 1) (hvb : vb.category = 1) (k : mJ p l e R s m args below meth c D cl ty b nL Q cells slots T I P lv (pc + 1) (va :: vb :: va :: vb :: rest)) : mJ p l e R s m args below meth c D cl ty b nL Q cells slots T I P lv pc (va :: vb :: rest) := fun H locs ls h1 h2 h3 => lv_dup2_11 X.1 X.2.1 hd hva hvb (k H locs ls h1 h2 h3)
theorem mJ_ldc (X : mX p s m meth c args cc nL own ret TT NN D cl b) {index : Nat} {v : Int32} (hd : decode cc pc = .ok (.ldc index, 2)) (hc : Jvm.Cond.constant own index v ∈ TT) (k : mJ p l e R s m args below meth c D cl ty b nL Q cells slots T I P lv (pc + 2) (.int v :: rest)) : mJ p l e R s m args below meth c D cl ty b nL Q cells slots T I P lv pc (rest) := fun H locs ls h1 h2 h3 => lv_ldc X.1 X.2.1 X.2.2.2.1 (X.2.2.2.2.1 _ hc) hd (k H locs ls h1 h2 h3)
theorem mJ_istore_n (X : mX p s m meth c args cc nL own ret TT NN D cl b) {k : Fin 4} {i : Nat} {x : Int32} (hd : decode cc pc = .ok (.istore_n k, 1)) (hi : (k : Nat) = i) (hn : i < nL) (k : mJ p l e R s m args below meth c D cl ty b nL Q cells slots T I P (lvs lv i (.int x)) (pc + 1) rest) : mJ p l e R s m args below meth c D cl ty b nL Q cells slots T I P lv pc (.int x :: rest) := fun H locs ls h1 h2 h3 => lv_istore_n X.1 X.2.1 hd hi h3 hn rfl (fun ls' h4 => k H locs ls' h1 h2 h4)
theorem mJ_istore (X : mX p s m meth c args cc nL own ret TT NN D cl b) {i : Nat} {x : Int32} (hd : decode cc pc = .ok (.istore i, 2)) (hn : i < nL) (k : mJ p l e R s m args below meth c D cl ty b nL Q cells slots T I P (lvs lv i (.int x)) (pc + 2) rest) : mJ p l e R s m args below meth c D cl ty b nL Q cells slots T I P lv pc (.int x :: rest) := fun H locs ls h1 h2 h3 => lv_istore X.1 X.2.1 hd h3 hn rfl (fun ls' h4 => k H locs ls' h1 h2 h4)
theorem mJ_astore_n (X : mX p s m meth c args cc nL own ret TT NN D cl b) {k : Fin 4} {i : Nat} {x : Nat} (hd : decode cc pc = .ok (.astore_n k, 1)) (hi : (k : Nat) = i) (hn : i < nL) (k : mJ p l e R s m args below meth c D cl ty b nL Q cells slots T I P (lvs lv i (.ref x)) (pc + 1) rest) : mJ p l e R s m args below meth c D cl ty b nL Q cells slots T I P lv pc (.ref x :: rest) := fun H locs ls h1 h2 h3 => lv_astore_n X.1 X.2.1 hd hi h3 hn rfl (fun ls' h4 => k H locs ls' h1 h2 h4)
theorem mJ_astore (X : mX p s m meth c args cc nL own ret TT NN D cl b) {i : Nat} {x : Nat} (hd : decode cc pc = .ok (.astore i, 2)) (hn : i < nL) (k : mJ p l e R s m args below meth c D cl ty b nL Q cells slots T I P (lvs lv i (.ref x)) (pc + 2) rest) : mJ p l e R s m args below meth c D cl ty b nL Q cells slots T I P lv pc (.ref x :: rest) := fun H locs ls h1 h2 h3 => lv_astore X.1 X.2.1 hd h3 hn rfl (fun ls' h4 => k H locs ls' h1 h2 h4)
theorem lvg_at : ∀ {lv : List (Nat × Value)} {i : Nat} {v : Value}, lvg lv i = some v → ∃ k : Nat, lv[k]? = some (i, v) := fun h => List.getElem?_of_mem (lvg_mem h)
theorem mJ_iinc (X : mX p s m meth c args cc nL own ret TT NN D cl b) {i : Nat} {n : Int} {x v : Int32} (hd : decode cc pc = .ok (.iinc i n, 3)) (hl : lvg lv i = some (.int x)) (hv : x + Int32.ofInt n = v) (hn : i < nL) (k : mJ p l e R s m args below meth c D cl ty b nL Q cells slots T I P (lvs lv i (.int v)) (pc + 3) rest) : mJ p l e R s m args below meth c D cl ty b nL Q cells slots T I P lv pc rest := fun H locs ls h1 h2 h3 => by
  obtain ⟨q, hq⟩ := lvg_at hl
  exact lv_iinc X.1 X.2.1 hd h3 hq hv hn rfl (fun ls' h4 => k H locs ls' h1 h2 h4)
theorem mJ_icmp_eq (X : mX p s m meth c args cc nL own ret TT NN D cl b) {x y : Int32} {off : Int} {tgt : Nat} (hd : decode cc pc = .ok (.if_icmp .eq off, 3)) (ht : (pc : Int) + off = (tgt : Int)) (kt : x = y → mJ p l e R s m args below meth c D cl ty b nL Q cells slots T I P lv tgt rest) (kf : ¬ x = y → mJ p l e R s m args below meth c D cl ty b nL Q cells slots T I P lv (pc + 3) rest) : mJ p l e R s m args below meth c D cl ty b nL Q cells slots T I P lv pc (.int y :: .int x :: rest) := fun H locs ls h1 h2 h3 => lv_icmp_eq X.1 X.2.1 hd ht (fun q => kt q H locs ls h1 h2 h3) (fun q => kf q H locs ls h1 h2 h3)
theorem mJ_if_eq (X : mX p s m meth c args cc nL own ret TT NN D cl b) {x : Int32} {off : Int} {tgt : Nat} (hd : decode cc pc = .ok (.ifCond .eq off, 3)) (ht : (pc : Int) + off = (tgt : Int)) (kt : x = 0 → mJ p l e R s m args below meth c D cl ty b nL Q cells slots T I P lv tgt rest) (kf : ¬ x = 0 → mJ p l e R s m args below meth c D cl ty b nL Q cells slots T I P lv (pc + 3) rest) : mJ p l e R s m args below meth c D cl ty b nL Q cells slots T I P lv pc (.int x :: rest) := fun H locs ls h1 h2 h3 => lv_if_eq X.1 X.2.1 hd ht (fun q => kt q H locs ls h1 h2 h3) (fun q => kf q H locs ls h1 h2 h3)
theorem mJ_icmp_ne (X : mX p s m meth c args cc nL own ret TT NN D cl b) {x y : Int32} {off : Int} {tgt : Nat} (hd : decode cc pc = .ok (.if_icmp .ne off, 3)) (ht : (pc : Int) + off = (tgt : Int)) (kt : ¬ x = y → mJ p l e R s m args below meth c D cl ty b nL Q cells slots T I P lv tgt rest) (kf : x = y → mJ p l e R s m args below meth c D cl ty b nL Q cells slots T I P lv (pc + 3) rest) : mJ p l e R s m args below meth c D cl ty b nL Q cells slots T I P lv pc (.int y :: .int x :: rest) := fun H locs ls h1 h2 h3 => lv_icmp_ne X.1 X.2.1 hd ht (fun q => kt q H locs ls h1 h2 h3) (fun q => kf q H locs ls h1 h2 h3)
theorem mJ_if_ne (X : mX p s m meth c args cc nL own ret TT NN D cl b) {x : Int32} {off : Int} {tgt : Nat} (hd : decode cc pc = .ok (.ifCond .ne off, 3)) (ht : (pc : Int) + off = (tgt : Int)) (kt : ¬ x = 0 → mJ p l e R s m args below meth c D cl ty b nL Q cells slots T I P lv tgt rest) (kf : x = 0 → mJ p l e R s m args below meth c D cl ty b nL Q cells slots T I P lv (pc + 3) rest) : mJ p l e R s m args below meth c D cl ty b nL Q cells slots T I P lv pc (.int x :: rest) := fun H locs ls h1 h2 h3 => lv_if_ne X.1 X.2.1 hd ht (fun q => kt q H locs ls h1 h2 h3) (fun q => kf q H locs ls h1 h2 h3)
theorem mJ_icmp_lt (X : mX p s m meth c args cc nL own ret TT NN D cl b) {x y : Int32} {off : Int} {tgt : Nat} (hd : decode cc pc = .ok (.if_icmp .lt off, 3)) (ht : (pc : Int) + off = (tgt : Int)) (kt : x < y → mJ p l e R s m args below meth c D cl ty b nL Q cells slots T I P lv tgt rest) (kf : ¬ x < y → mJ p l e R s m args below meth c D cl ty b nL Q cells slots T I P lv (pc + 3) rest) : mJ p l e R s m args below meth c D cl ty b nL Q cells slots T I P lv pc (.int y :: .int x :: rest) := fun H locs ls h1 h2 h3 => lv_icmp_lt X.1 X.2.1 hd ht (fun q => kt q H locs ls h1 h2 h3) (fun q => kf q H locs ls h1 h2 h3)
theorem mJ_if_lt (X : mX p s m meth c args cc nL own ret TT NN D cl b) {x : Int32} {off : Int} {tgt : Nat} (hd : decode cc pc = .ok (.ifCond .lt off, 3)) (ht : (pc : Int) + off = (tgt : Int)) (kt : x < 0 → mJ p l e R s m args below meth c D cl ty b nL Q cells slots T I P lv tgt rest) (kf : ¬ x < 0 → mJ p l e R s m args below meth c D cl ty b nL Q cells slots T I P lv (pc + 3) rest) : mJ p l e R s m args below meth c D cl ty b nL Q cells slots T I P lv pc (.int x :: rest) := fun H locs ls h1 h2 h3 => lv_if_lt X.1 X.2.1 hd ht (fun q => kt q H locs ls h1 h2 h3) (fun q => kf q H locs ls h1 h2 h3)
theorem mJ_icmp_ge (X : mX p s m meth c args cc nL own ret TT NN D cl b) {x y : Int32} {off : Int} {tgt : Nat} (hd : decode cc pc = .ok (.if_icmp .ge off, 3)) (ht : (pc : Int) + off = (tgt : Int)) (kt : y ≤ x → mJ p l e R s m args below meth c D cl ty b nL Q cells slots T I P lv tgt rest) (kf : ¬ y ≤ x → mJ p l e R s m args below meth c D cl ty b nL Q cells slots T I P lv (pc + 3) rest) : mJ p l e R s m args below meth c D cl ty b nL Q cells slots T I P lv pc (.int y :: .int x :: rest) := fun H locs ls h1 h2 h3 => lv_icmp_ge X.1 X.2.1 hd ht (fun q => kt q H locs ls h1 h2 h3) (fun q => kf q H locs ls h1 h2 h3)
theorem mJ_if_ge (X : mX p s m meth c args cc nL own ret TT NN D cl b) {x : Int32} {off : Int} {tgt : Nat} (hd : decode cc pc = .ok (.ifCond .ge off, 3)) (ht : (pc : Int) + off = (tgt : Int)) (kt : 0 ≤ x → mJ p l e R s m args below meth c D cl ty b nL Q cells slots T I P lv tgt rest) (kf : ¬ 0 ≤ x → mJ p l e R s m args below meth c D cl ty b nL Q cells slots T I P lv (pc + 3) rest) : mJ p l e R s m args below meth c D cl ty b nL Q cells slots T I P lv pc (.int x :: rest) := fun H locs ls h1 h2 h3 => lv_if_ge X.1 X.2.1 hd ht (fun q => kt q H locs ls h1 h2 h3) (fun q => kf q H locs ls h1 h2 h3)
theorem mJ_icmp_gt (X : mX p s m meth c args cc nL own ret TT NN D cl b) {x y : Int32} {off : Int} {tgt : Nat} (hd : decode cc pc = .ok (.if_icmp .gt off, 3)) (ht : (pc : Int) + off = (tgt : Int)) (kt : y < x → mJ p l e R s m args below meth c D cl ty b nL Q cells slots T I P lv tgt rest) (kf : ¬ y < x → mJ p l e R s m args below meth c D cl ty b nL Q cells slots T I P lv (pc + 3) rest) : mJ p l e R s m args below meth c D cl ty b nL Q cells slots T I P lv pc (.int y :: .int x :: rest) := fun H locs ls h1 h2 h3 => lv_icmp_gt X.1 X.2.1 hd ht (fun q => kt q H locs ls h1 h2 h3) (fun q => kf q H locs ls h1 h2 h3)
theorem mJ_if_gt (X : mX p s m meth c args cc nL own ret TT NN D cl b) {x : Int32} {off : Int} {tgt : Nat} (hd : decode cc pc = .ok (.ifCond .gt off, 3)) (ht : (pc : Int) + off = (tgt : Int)) (kt : 0 < x → mJ p l e R s m args below meth c D cl ty b nL Q cells slots T I P lv tgt rest) (kf : ¬ 0 < x → mJ p l e R s m args below meth c D cl ty b nL Q cells slots T I P lv (pc + 3) rest) : mJ p l e R s m args below meth c D cl ty b nL Q cells slots T I P lv pc (.int x :: rest) := fun H locs ls h1 h2 h3 => lv_if_gt X.1 X.2.1 hd ht (fun q => kt q H locs ls h1 h2 h3) (fun q => kf q H locs ls h1 h2 h3)
theorem mJ_icmp_le (X : mX p s m meth c args cc nL own ret TT NN D cl b) {x y : Int32} {off : Int} {tgt : Nat} (hd : decode cc pc = .ok (.if_icmp .le off, 3)) (ht : (pc : Int) + off = (tgt : Int)) (kt : x ≤ y → mJ p l e R s m args below meth c D cl ty b nL Q cells slots T I P lv tgt rest) (kf : ¬ x ≤ y → mJ p l e R s m args below meth c D cl ty b nL Q cells slots T I P lv (pc + 3) rest) : mJ p l e R s m args below meth c D cl ty b nL Q cells slots T I P lv pc (.int y :: .int x :: rest) := fun H locs ls h1 h2 h3 => lv_icmp_le X.1 X.2.1 hd ht (fun q => kt q H locs ls h1 h2 h3) (fun q => kf q H locs ls h1 h2 h3)
theorem mJ_if_le (X : mX p s m meth c args cc nL own ret TT NN D cl b) {x : Int32} {off : Int} {tgt : Nat} (hd : decode cc pc = .ok (.ifCond .le off, 3)) (ht : (pc : Int) + off = (tgt : Int)) (kt : x ≤ 0 → mJ p l e R s m args below meth c D cl ty b nL Q cells slots T I P lv tgt rest) (kf : ¬ x ≤ 0 → mJ p l e R s m args below meth c D cl ty b nL Q cells slots T I P lv (pc + 3) rest) : mJ p l e R s m args below meth c D cl ty b nL Q cells slots T I P lv pc (.int x :: rest) := fun H locs ls h1 h2 h3 => lv_if_le X.1 X.2.1 hd ht (fun q => kt q H locs ls h1 h2 h3) (fun q => kf q H locs ls h1 h2 h3)
theorem mJ_goto (X : mX p s m meth c args cc nL own ret TT NN D cl b) {off : Int} {tgt : Nat} (hd : decode cc pc = .ok (.goto off, 3)) (ht : (pc : Int) + off = (tgt : Int)) (k : mJ p l e R s m args below meth c D cl ty b nL Q cells slots T I P lv tgt rest) : mJ p l e R s m args below meth c D cl ty b nL Q cells slots T I P lv pc rest := fun H locs ls h1 h2 h3 => lv_goto X.1 X.2.1 hd ht (k H locs ls h1 h2 h3)
theorem mJ_tabOut (X : mX p s m meth c args cc nL own ret TT NN D cl b) {dflt lo hi : Int} {offs : Array Int} {len : Nat} {x : Int32} {tgt : Nat} (hd : decode cc pc = .ok (.tableswitch dflt lo hi offs, len)) (h : x.toInt < lo ∨ hi < x.toInt) (ht : (pc : Int) + dflt = (tgt : Int)) (k : mJ p l e R s m args below meth c D cl ty b nL Q cells slots T I P lv tgt rest) : mJ p l e R s m args below meth c D cl ty b nL Q cells slots T I P lv pc (.int x :: rest) := fun H locs ls h1 h2 h3 => lv_tableOut X.1 X.2.1 hd h ht (k H locs ls h1 h2 h3)
theorem mJ_tabIn (X : mX p s m meth c args cc nL own ret TT NN D cl b) {dflt lo hi : Int} {offs : Array Int} {len : Nat} {x : Int32} {off : Int} {tgt : Nat} (hd : decode cc pc = .ok (.tableswitch dflt lo hi offs, len)) (g1 : ¬ x.toInt < lo) (g2 : ¬ hi < x.toInt) (ho : offs[(x.toInt - lo).toNat]? = some off) (ht : (pc : Int) + off = (tgt : Int)) (k : mJ p l e R s m args below meth c D cl ty b nL Q cells slots T I P lv tgt rest) : mJ p l e R s m args below meth c D cl ty b nL Q cells slots T I P lv pc (.int x :: rest) := fun H locs ls h1 h2 h3 => lv_tableIn X.1 X.2.1 hd g1 g2 ho ht (k H locs ls h1 h2 h3)
theorem mJ_lookup (X : mX p s m meth c args cc nL own ret TT NN D cl b) {dflt : Int} {ps : Array (Int × Int)} {len : Nat} {x : Int32} {off : Int} {tgt : Nat} (hd : decode cc pc = .ok (.lookupswitch dflt ps, len)) (hp : (ps.toList.zip (ps.toList.drop 1)).all (fun (a, next) => a.1 < next.1) = true) (ho : Op.lookupswitch.offset ps.toList dflt x.toInt = off) (ht : (pc : Int) + off = (tgt : Int)) (k : mJ p l e R s m args below meth c D cl ty b nL Q cells slots T I P lv tgt rest) : mJ p l e R s m args below meth c D cl ty b nL Q cells slots T I P lv pc (.int x :: rest) := fun H locs ls h1 h2 h3 => lv_lookup X.1 X.2.1 hd hp ho ht (k H locs ls h1 h2 h3)
theorem mJ_get (X : mX p s m meth c args cc nL own ret TT NN D cl b) {a ci k idx : Nat} {C : String} {F : u_T} {N : Nat} (hC : mCl cl ty TT ci C F N) (hT : T a = some (0, ci, 0)) (hk : k < N) (hlink : Cond.fieldLink own idx (F k).1 (F k).2.1 (F k).2.2.1 ∈ TT) {v : Value} (hv : mv (ty ci k) (I a k) (P a k) = v) (hd : decode cc pc = .ok (.getfield idx, 3))
    (kk : mJ p l e R s m args below meth c D cl ty b nL Q cells slots T I P lv (pc + 3) (v :: rest)) : mJ p l e R s m args below meth c D cl ty b nL Q cells slots T I P lv pc (.ref a :: rest) := by
  intro H locs ls h1 h2 h3
  obtain ⟨hx, hb, hml, hown, hts, hK, hbs, hret, hlk, hNs, hG, hNw⟩ := X
  obtain ⟨hba, q, hq, cell, q1, q2, q3, q4⟩ := h1 a _ hT
  obtain rfl : q = (C, F, N) := Option.some.inj (hq.symm.trans hC.1)
  obtain ⟨hS, hfc, kC, hkC, hkind⟩ := hK.1 ci _ hC.1
  obtain ⟨cf, kf, fi, f, hi, hsl⟩ := hS k hk
  refine W.getf hx hb hown (hts _ hlink) hi (u_facts hfc hkC (u_lays hts hC.2.1 hk) hi).1 q1 (by rw [q3]; exact fun h => by cases h) (v := v) ?_ rfl rfl hd (kk H locs ls h1 h2 h3)
  rw [hsl]
  exact (q4 k hk).trans (congrArg some hv)
theorem mJ_putA (X : mX p s m meth c args cc nL own ret TT NN D cl b) {a ci k idx : Nat} {C : String} {F : u_T} {N : Nat} (hC : mCl cl ty TT ci C F N) (hT : T a = some (0, ci, 0)) (hk : k < N) (hlink : Cond.fieldLink own idx (F k).1 (F k).2.1 (F k).2.2.1 ∈ TT) {v : Value} {I' : mI} {P' : mP} (hfin : (F k).2.2.2 = false ∨ ((F k).2.2.2 = true ∧ meth.name = "<init>" ∧ (F k).1 = own)) (hn : narrow (ty ci k) v = v) (hfit : fits (ty ci k) v = true)
    (hIo : ∀ x, x ≠ a → I' x = I x) (hPo : ∀ x, x ≠ a → P' x = P x) (hv : ∀ j, updV (fun j => mv (ty ci j) (I a j) (P a j)) k v j = mv (ty ci j) (I' a j) (P' a j)) (hd : decode cc pc = .ok (.putfield idx, 3))
    (kk : mJ p l e R s m args below meth c D cl ty b nL Q cells slots T I' P' lv (pc + 3) rest) : mJ p l e R s m args below meth c D cl ty b nL Q cells slots T I P lv pc (v :: .ref a :: rest) := by
  intro H locs ls h1 h2 h3
  obtain ⟨hx, hb, hml, hown, hts, hK, hbs, hret, hlk, hNs, hG, hNw⟩ := X
  have hap := va_apart (own := own) hts hC.2.1 (ty ci) hC.2.2.1 hC.2.2.2 hK hC.1
  obtain ⟨hba, q, hq, cell, q1, q2, q3, q4⟩ := h1 a _ hT
  obtain rfl : q = (C, F, N) := Option.some.inj (hq.symm.trans hC.1)
  obtain ⟨hS, hfc, kC, hkC, hkind⟩ := hK.1 ci _ hC.1
  obtain ⟨cf, kf, fi, f, hi, hsl⟩ := hS k hk
  have hlay := hts _ (hC.2.1 _ (u_in_lay hk))
  have hst := (u_facts hfc hkC (u_lays hts hC.2.1 hk) hi).1
  unfold u_lay at hlay
  have fin : ∀ H1 : Heap, H1[a]? = some (cell.setSlot f.slot v) → H1.size = H.size → (∀ q : Nat, q ≠ a → H1[q]? = H[q]?) → W p l e R s m args below meth c H1 (locs ++ [⟨a, f.slot⟩]) cells slots Q (F0 m (pc + 3) ls rest) := by
    intro H1 e1 e2 e3
    refine kk H1 _ ls (h1.put hT hIo hPo e3 ⟨_, hC.1, ?_⟩) (h2.put e2 e3 hba) h3
    rw [hsl] at e1
    exact t_OB.to ⟨_, e1, q2, q3, t_set q4 hap hk v⟩ (fun j _ => hv j)
  rcases hfin with hfin | ⟨hfin, hin2, hdecl⟩
  · rw [if_neg (by rw [hfin]; decide)] at hlay
    have h6 := u_store hfc hkC hkind hlay hi (hC.2.2.1 k hk) hn hfit
    exact W.putK hx hb (f := f) ⟨hown, hts _ hlink, ⟨_, _, _, hi⟩, hst⟩ (by rw [q2]; exact h6) q1 q3 (by rw [hsl]; exact k2_hasslot (q4 k hk)) rfl rfl hd fin
  · rw [if_pos hfin] at hlay
    have hcf : m.cls = cf := by
      obtain ⟨_, _, c', _, _, _, -, -, hf', -, -, -, hown2, -⟩ := Cond.laysFinal_spec hlay
      have e1 : c' = cf := by have := hi.symm.trans hf'; simp at this; exact this.1.symm
      rw [hdecl] at hown2
      rw [← e1]; exact Option.some.inj (hown.symm.trans hown2)
    have h6 := u_fits hfc hkC hkind (Or.inr hlay) hi (hC.2.2.1 k hk) hn hfit
    exact W.putFinK hx hb hown (hts _ hlink) hi hst hcf hin2 (by rw [q2]; exact h6) q1 q3 (by rw [hsl]; exact k2_hasslot (q4 k hk)) rfl rfl hd fin
/-- a number into a field -/
theorem mJ_putI (X : mX p s m meth c args cc nL own ret TT NN D cl b) {a ci k idx : Nat} {C : String} {F : u_T} {N : Nat} (hC : mCl cl ty TT ci C F N) (hT : T a = some (0, ci, 0)) (hk : k < N) (hlink : Cond.fieldLink own idx (F k).1 (F k).2.1 (F k).2.2.1 ∈ TT) {v : Int32} (hfin : (F k).2.2.2 = false ∨ ((F k).2.2.2 = true ∧ meth.name = "<init>" ∧ (F k).1 = own)) (hn : narrow (ty ci k) (.int v) = .int v) (hfit : fits (ty ci k) (.int v) = true) (hty : ∀ x r, mv (ty ci k) x r = .int x) (hd : decode cc pc = .ok (.putfield idx, 3))
    (kk : ∀ I' : mI, I' = mu I a k v → mJ p l e R s m args below meth c D cl ty b nL Q cells slots T I' P lv (pc + 3) rest) : mJ p l e R s m args below meth c D cl ty b nL Q cells slots T I P lv pc (.int v :: .ref a :: rest) := by
  refine mJ_putA X hC hT hk hlink hfin hn hfit (I' := mu I a k v) (P' := P) (fun x hx => mu_row I k v hx) (fun _ _ => rfl) (fun j => ?_) hd (kk _ rfl)
  by_cases hj : j = k
  · subst hj
    simp [updV, mu_eq, hty]
  · simp [updV, hj, mu_ns I a v hj]
/-- a reference into a field -/
theorem mJ_putR (X : mX p s m meth c args cc nL own ret TT NN D cl b) {a ci k idx : Nat} {C : String} {F : u_T} {N : Nat} (hC : mCl cl ty TT ci C F N) (hT : T a = some (0, ci, 0)) (hk : k < N) (hlink : Cond.fieldLink own idx (F k).1 (F k).2.1 (F k).2.2.1 ∈ TT) {v : Nat} (hfin : (F k).2.2.2 = false ∨ ((F k).2.2.2 = true ∧ meth.name = "<init>" ∧ (F k).1 = own)) (hn : narrow (ty ci k) (.ref v) = .ref v) (hfit : fits (ty ci k) (.ref v) = true) (hty : ∀ x r, mv (ty ci k) x r = va_rf r) (hd : decode cc pc = .ok (.putfield idx, 3))
    (kk : ∀ P' : mP, P' = mu P a k (some v) → mJ p l e R s m args below meth c D cl ty b nL Q cells slots T I P' lv (pc + 3) rest) : mJ p l e R s m args below meth c D cl ty b nL Q cells slots T I P lv pc (.ref v :: .ref a :: rest) := by
  refine mJ_putA X hC hT hk hlink hfin hn hfit (I' := I) (P' := mu P a k (some v)) (fun _ _ => rfl) (fun x hx => mu_row P k (some v) hx) (fun j => ?_) hd (kk _ rfl)
  by_cases hj : j = k
  · subst hj
    simp [updV, mu_eq, hty, va_rf]
  · simp [updV, hj, mu_ns P a (some v) hj]
theorem mJ_iald (X : mX p s m meth c args cc nL own ret TT NN D cl b) {a n : Nat} {i : Int32} (hT : T a = some (1, 0, n)) (hin : vp_in i n) (hd : decode cc pc = .ok (.iaload, 1))
    (kk : mJ p l e R s m args below meth c D cl ty b nL Q cells slots T I P lv (pc + 1) (.int (I a i.toNatClampNeg) :: rest)) : mJ p l e R s m args below meth c D cl ty b nL Q cells slots T I P lv pc (.int i :: .ref a :: rest) := by
  intro H locs ls h1 h2 h3
  obtain ⟨hba, cA, ⟨g1, g2⟩, g3⟩ := h1 a _ hT
  have hlt : i.toNatClampNeg < n := Nat.not_le.mp fun q => hin (Or.inr q)
  exact W.iald (v := .int (I a i.toNatClampNeg)) X.1 X.2.1 g3 (g1 n (fun j => .int (I a j))) (fun q => by cases q) (by show ¬ (i < 0 ∨ (arrV _ _ _).slots.size ≤ _); rw [arrV_size]; exact hin) (by show (arrV _ _ _).slots[_]? = _; rw [arrV_read _ _ hlt]) rfl rfl hd (kk H locs ls h1 h2 h3)
theorem mJ_iast (X : mX p s m meth c args cc nL own ret TT NN D cl b) {a n : Nat} {i x : Int32} (hT : T a = some (1, 0, n)) (hin : vp_in i n) (hd : decode cc pc = .ok (.iastore, 1))
    (kk : ∀ I' : mI, I' = mu I a i.toNatClampNeg x → mJ p l e R s m args below meth c D cl ty b nL Q cells slots T I' P lv (pc + 1) rest) : mJ p l e R s m args below meth c D cl ty b nL Q cells slots T I P lv pc (.int x :: .int i :: .ref a :: rest) := by
  intro H locs ls h1 h2 h3
  obtain ⟨hba, cA, ⟨g1, g2⟩, g3⟩ := h1 a _ hT
  refine W.iast X.1 X.2.1 g3 (g1 n (fun j => .int (I a j))) (fun q => by cases q) (by show ¬ (i < 0 ∨ (arrV _ _ _).slots.size ≤ _); rw [arrV_size]; exact hin) rfl rfl hd fun H1 e z oq => ?_
  refine kk _ rfl H1 _ ls (h1.put hT (fun y hy => mu_row I _ x hy) (fun _ _ => rfl) oq ⟨cA, ⟨g1, g2⟩, ?_⟩) (h2.put z oq hba) h3
  show H1[a]? = some (arrV cA n _)
  rw [e, arrV_store]
  congr 2
  funext q
  by_cases hq : q = i.toNatClampNeg
  · subst hq
    simp [updV, mu_eq]
  · simp [updV, hq, mu_ns I a x hq]
theorem mJ_zald (X : mX p s m meth c args cc nL own ret TT NN D cl b) {a n : Nat} {i : Int32} (hT : T a = some (2, 0, n)) (hin : vp_in i n) (hd : decode cc pc = .ok (.baload, 1))
    (kk : mJ p l e R s m args below meth c D cl ty b nL Q cells slots T I P lv (pc + 1) (.int (I a i.toNatClampNeg) :: rest)) : mJ p l e R s m args below meth c D cl ty b nL Q cells slots T I P lv pc (.int i :: .ref a :: rest) := by
  intro H locs ls h1 h2 h3
  obtain ⟨hba, cA, ⟨g1, g2⟩, g3⟩ := h1 a _ hT
  have hlt : i.toNatClampNeg < n := Nat.not_le.mp fun q => hin (Or.inr q)
  exact W.zald (v := .int (I a i.toNatClampNeg)) X.1 X.2.1 g3 (g1 n (fun j => .int (I a j))) (fun q => by cases q) (by show ¬ (i < 0 ∨ (arrV _ _ _).slots.size ≤ _); rw [arrV_size]; exact hin) (by show (arrV _ _ _).slots[_]? = _; rw [arrV_read _ _ hlt]) rfl rfl hd (kk H locs ls h1 h2 h3)
theorem mJ_zast (X : mX p s m meth c args cc nL own ret TT NN D cl b) {a n : Nat} {i x : Int32} (hT : T a = some (2, 0, n)) (hin : vp_in i n) (hx : vp_nar .boolean x = x) (hd : decode cc pc = .ok (.bastore, 1))
    (kk : ∀ I' : mI, I' = mu I a i.toNatClampNeg x → mJ p l e R s m args below meth c D cl ty b nL Q cells slots T I' P lv (pc + 1) rest) : mJ p l e R s m args below meth c D cl ty b nL Q cells slots T I P lv pc (.int x :: .int i :: .ref a :: rest) := by
  intro H locs ls h1 h2 h3
  obtain ⟨hba, cA, ⟨g1, g2⟩, g3⟩ := h1 a _ hT
  refine W.zast X.1 X.2.1 g3 (g1 n (fun j => .int (I a j))) (fun q => by cases q) (by show ¬ (i < 0 ∨ (arrV _ _ _).slots.size ≤ _); rw [arrV_size]; exact hin) rfl rfl hd fun H1 e z oq => ?_
  refine kk _ rfl H1 _ ls (h1.put hT (fun y hy => mu_row I _ x hy) (fun _ _ => rfl) oq ⟨cA, ⟨g1, g2⟩, ?_⟩) (h2.put z oq hba) h3
  show H1[a]? = some (arrV cA n _)
  rw [e, arrV_store]
  congr 2
  funext q
  by_cases hq : q = i.toNatClampNeg
  · subst hq
    have hx' : narrow .boolean (.int x) = .int x := by
      have h9 : narrow .boolean (.int x) = .int (vp_nar .boolean x) := rfl
      rw [h9, hx]
    simp [updV, mu_eq, hx']
  · simp [updV, hq, mu_ns I a x hq]
theorem mJ_aald (X : mX p s m meth c args cc nL own ret TT NN D cl b) {a j n y : Nat} {i : Int32} (hT : T a = some (j + 3, 0, n)) (hin : vp_in i n) (hr : P a i.toNatClampNeg = some y) (hd : decode cc pc = .ok (.aaload, 1))
    (kk : mJ p l e R s m args below meth c D cl ty b nL Q cells slots T I P lv (pc + 1) (.ref y :: rest)) : mJ p l e R s m args below meth c D cl ty b nL Q cells slots T I P lv pc (.int i :: .ref a :: rest) := by
  intro H locs ls h1 h2 h3
  obtain ⟨hba, cA, ⟨q0, g0, g1, g2⟩, g3⟩ := h1 a _ hT
  have hlt : i.toNatClampNeg < n := Nat.not_le.mp fun q => hin (Or.inr q)
  exact W.aald (v := .ref y) (ty := .object q0.1) X.1 X.2.1 g3 (g1 n (fun j => va_rf (P a j))) rfl (fun q => by cases q) (by show ¬ (i < 0 ∨ (arrV _ _ _).slots.size ≤ _); rw [arrV_size]; exact hin) (by show (arrV _ _ _).slots[_]? = _; rw [arrV_read _ _ hlt, hr]; rfl) rfl rfl hd (kk H locs ls h1 h2 h3)
theorem mJ_aast (X : mX p s m meth c args cc nL own ret TT NN D cl b) {a j n v : Nat} {i : Int32} (hT : T a = some (j + 3, 0, n)) (hv : T v = some (0, j, 0)) (hin : vp_in i n) (hd : decode cc pc = .ok (.aastore, 1))
    (kk : ∀ P' : mP, P' = mu P a i.toNatClampNeg (some v) → mJ p l e R s m args below meth c D cl ty b nL Q cells slots T I P' lv (pc + 1) rest) : mJ p l e R s m args below meth c D cl ty b nL Q cells slots T I P lv pc (.ref v :: .int i :: .ref a :: rest) := by
  intro H locs ls h1 h2 h3
  obtain ⟨hba, cA, ⟨q0, g0, g1, kA, comp, k1, k2, k3, k4⟩, g3⟩ := h1 a _ hT
  obtain ⟨hbv, q', hq', cellV, w1, w2, w3, -⟩ := h1 v _ hv
  have hlt : i.toNatClampNeg < n := Nat.not_le.mp fun q => hin (Or.inr q)
  have h0 : ¬ i < 0 := fun q => hin (Or.inl q)
  have hcls := (X.2.2.2.2.2.1.1 j q0 g0).2
  obtain rfl : comp = D.1 j := Option.some.inj (k3.symm.trans hcls.1)
  obtain ⟨kC, hkC, -⟩ := hcls.2
  refine W.aast X.1 X.2.1 g3 (fun q h => by cases h) (fun h => by cases h) k1 k2 rfl hkC ⟨h0, by show _ < (arrV _ _ _).slots.size; rw [arrV_size]; exact hlt⟩ w1 (fun q h => by rw [w3] at h; cases h) (by rw [w2]; exact hkC) (by rw [w2]; exact va_assign hcls) rfl rfl hd fun H1 e z oq => ?_
  refine kk _ rfl H1 _ ls (h1.put hT (fun _ _ => rfl) (fun y hy => mu_row P _ (some v) hy) oq ⟨cA, ⟨q0, g0, g1, kA, _, k1, k2, k3, k4⟩, ?_⟩) (h2.put z oq hba) h3
  show H1[a]? = some (arrV cA n _)
  rw [e, arrV_store]
  congr 2
  funext q
  by_cases hq : q = i.toNatClampNeg
  · subst hq
    simp [updV, mu_eq, va_rf]
  · simp [updV, hq, mu_ns P a (some v) hq]
theorem mJ_alen (X : mX p s m meth c args cc nL own ret TT NN D cl b) {a n : Nat} {v : Int32} (hT : T a = some (1, 0, n)) (hv : Int32.ofNat n = v) (hd : decode cc pc = .ok (.arraylength, 1))
    (kk : mJ p l e R s m args below meth c D cl ty b nL Q cells slots T I P lv (pc + 1) (.int v :: rest)) : mJ p l e R s m args below meth c D cl ty b nL Q cells slots T I P lv pc (.ref a :: rest) := by
  intro H locs ls h1 h2 h3
  subst hv
  obtain ⟨hba, cA, ⟨g1, g2⟩, g3⟩ := h1 a _ hT
  exact W.alen (n := Int32.ofNat n) X.1 X.2.1 g3 (g1 n (fun j => .int (I a j))) (by rw [arrV_size] <;> rfl) rfl rfl hd (kk H locs ls h1 h2 h3)
theorem mJ_alenR (X : mX p s m meth c args cc nL own ret TT NN D cl b) {a j n : Nat} {v : Int32} (hT : T a = some (j + 3, 0, n)) (hv : Int32.ofNat n = v) (hd : decode cc pc = .ok (.arraylength, 1))
    (kk : mJ p l e R s m args below meth c D cl ty b nL Q cells slots T I P lv (pc + 1) (.int v :: rest)) : mJ p l e R s m args below meth c D cl ty b nL Q cells slots T I P lv pc (.ref a :: rest) := by
  intro H locs ls h1 h2 h3
  subst hv
  obtain ⟨hba, cA, ⟨q0, g0, g1, g2⟩, g3⟩ := h1 a _ hT
  exact W.alen (n := Int32.ofNat n) X.1 X.2.1 g3 (g1 n (fun j => va_rf (P a j))) (by rw [arrV_size] <;> rfl) rfl rfl hd (kk H locs ls h1 h2 h3)
/-- the memory with one more cell of zeros -/
abbrev mTn (T : mT) (q : Nat) (sh : Nat × Nat × Nat) : mT := fun x => if x = q then some sh else T x
abbrev mIn (I : mI) (q : Nat) : mI := fun x y => if x = q then 0 else I x y
abbrev mPn (P : mP) (q : Nat) : mP := fun x y => if x = q then none else P x y
theorem mJ_new (X : mX p s m meth c args cc nL own ret TT NN D cl b) {ci idx : Nat} {C : String} {F : u_T} {N : Nat} (hC : mCl cl ty TT ci C F N) (hcl : Cond.classLink own idx C ∈ TT) (hinst : Cond.instantiable C N ∈ TT) (hini : Cond.initialized C ∈ TT) (hdef : ∀ j, j < N → defaultValue (ty ci j) = mv (ty ci j) 0 none) (hcells : cells + 1 ≤ R.cells) (hslots : slots + N ≤ R.slots) (hd : decode cc pc = .ok (.new idx, 3))
    (kk : ∀ q : Nat, T q = none → b ≤ q → mJ p l e R s m args below meth c D cl ty b nL Q (cells + 1) (slots + N) (mTn T q (0, ci, 0)) (mIn I q) (mPn P q) lv (pc + 3) (.ref q :: rest)) : mJ p l e R s m args below meth c D cl ty b nL Q cells slots T I P lv pc rest := by
  intro H locs ls h1 h2 h3
  obtain ⟨hx, hb, hml, hown, hts, hK, hbs, hret, hlk, hNs, hG, hNw⟩ := X
  have hKn := hK.1 ci _ hC.1
  have hbH : b ≤ H.size := Nat.le_trans hbs h2.1
  refine W.newcK hx hb hown (hts _ hcl) (hts _ hinst) (hts _ hini) rfl hd hcells hslots hKn.2.1 rfl fun H1 kC hkC e1 z1 o1 => ?_
  refine kk H.size ?_ hbH H1 _ ls (h1.new hbH (fun x hx => by funext y; simp [hx]) (fun x hx => by funext y; simp [hx]) o1 ⟨_, hC.1, ?_⟩) ⟨Nat.le_trans h2.1 (by omega), fun x g1 g2 => (o1 x (Nat.lt_of_lt_of_le g1 h2.1)).trans (h2.2.1 x g1 g2), h2.2.2⟩ h3
  · cases hq : T H.size with
    | none => rfl
    | some sh => exact absurd (h1 _ _ hq).2.lt (Nat.lt_irrefl _)
  · refine (u_born (ty ci) hts hC.2.1 hKn hkC e1 hC.2.2.1).to (fun j hj => ?_)
    simp [hdef j hj, mIn, mPn]
theorem mJ_newa (X : mX p s m meth c args cc nL own ret TT NN D cl b) {n : Int32} {N : Nat} {atype : ArrayType} (hat : newarray.typeOf atype = .int) (harr : Cond.arrayClass .int ∈ TT) (hn : ¬ n < 0) (hN : n.toNatClampNeg = N) (hbytes : N * componentBytes .int ≤ 536870912) (hcells : cells + 1 ≤ R.cells) (hslots : slots + N ≤ R.slots) (hd : decode cc pc = .ok (.newarray atype, 2))
    (kk : ∀ q : Nat, T q = none → b ≤ q → mJ p l e R s m args below meth c D cl ty b nL Q (cells + 1) (slots + N) (mTn T q (1, 0, N)) (mIn I q) (mPn P q) lv (pc + 2) (.ref q :: rest)) : mJ p l e R s m args below meth c D cl ty b nL Q cells slots T I P lv pc (.int n :: rest) := by
  intro H locs ls h1 h2 h3
  obtain ⟨hx, hb, hml, hown, hts, hK, hbs, hret, hlk, hNs, hG, hNw⟩ := X
  have hbH : b ≤ H.size := Nat.le_trans hbs h2.1
  refine va_newaK hx hb (by rw [hat]; exact hts _ harr) rfl hd rfl hn hN (by rw [hat]; exact hbytes) hcells hslots rfl fun H1 cA e1 z1 o1 hAr hNm => ?_
  rw [hat] at e1 hAr hNm
  refine kk H.size ?_ hbH H1 _ ls (h1.new hbH (fun x hx => by funext y; simp [hx]) (fun x hx => by funext y; simp [hx]) o1 ⟨cA, ⟨hAr, hNm⟩, ?_⟩) ⟨Nat.le_trans h2.1 (by omega), fun x g1 g2 => (o1 x (Nat.lt_of_lt_of_le g1 h2.1)).trans (h2.2.1 x g1 g2), h2.2.2⟩ h3
  · cases hq : T H.size with
    | none => rfl
    | some sh => exact absurd (h1 _ _ hq).2.lt (Nat.lt_irrefl _)
  · simpa [defaultValue, mIn] using e1
theorem mJ_newz (X : mX p s m meth c args cc nL own ret TT NN D cl b) {n : Int32} {N : Nat} {atype : ArrayType} (hat : newarray.typeOf atype = .boolean) (harr : Cond.arrayClass .boolean ∈ TT) (hn : ¬ n < 0) (hN : n.toNatClampNeg = N) (hbytes : N * componentBytes .boolean ≤ 536870912) (hcells : cells + 1 ≤ R.cells) (hslots : slots + N ≤ R.slots) (hd : decode cc pc = .ok (.newarray atype, 2))
    (kk : ∀ q : Nat, T q = none → b ≤ q → mJ p l e R s m args below meth c D cl ty b nL Q (cells + 1) (slots + N) (mTn T q (2, 0, N)) (mIn I q) (mPn P q) lv (pc + 2) (.ref q :: rest)) : mJ p l e R s m args below meth c D cl ty b nL Q cells slots T I P lv pc (.int n :: rest) := by
  intro H locs ls h1 h2 h3
  obtain ⟨hx, hb, hml, hown, hts, hK, hbs, hret, hlk, hNs, hG, hNw⟩ := X
  have hbH : b ≤ H.size := Nat.le_trans hbs h2.1
  refine va_newaK hx hb (by rw [hat]; exact hts _ harr) rfl hd rfl hn hN (by rw [hat]; exact hbytes) hcells hslots rfl fun H1 cA e1 z1 o1 hAr hNm => ?_
  rw [hat] at e1 hAr hNm
  refine kk H.size ?_ hbH H1 _ ls (h1.new hbH (fun x hx => by funext y; simp [hx]) (fun x hx => by funext y; simp [hx]) o1 ⟨cA, ⟨hAr, hNm⟩, ?_⟩) ⟨Nat.le_trans h2.1 (by omega), fun x g1 g2 => (o1 x (Nat.lt_of_lt_of_le g1 h2.1)).trans (h2.2.1 x g1 g2), h2.2.2⟩ h3
  · cases hq : T H.size with
    | none => rfl
    | some sh => exact absurd (h1 _ _ hq).2.lt (Nat.lt_irrefl _)
  · simpa [defaultValue, mIn] using e1
theorem mJ_newq (X : mX p s m meth c args cc nL own ret TT NN D cl b) {n : Int32} {N j idx : Nat} {q0 : vw_C} (hc : cl[j]? = some q0) (hcl : Cond.classLink own idx q0.1 ∈ TT) (hov : (Cond.arrayOver (.object q0.1)).before args s = true) (hn : ¬ n < 0) (hN : n.toNatClampNeg = N) (hbytes : N * 4 ≤ 536870912) (hcells : cells + 1 ≤ R.cells) (hslots : slots + N ≤ R.slots) (hd : decode cc pc = .ok (.anewarray idx, 3))
    (kk : ∀ q : Nat, T q = none → b ≤ q → mJ p l e R s m args below meth c D cl ty b nL Q (cells + 1) (slots + N) (mTn T q (j + 3, 0, N)) (mIn I q) (mPn P q) lv (pc + 3) (.ref q :: rest)) : mJ p l e R s m args below meth c D cl ty b nL Q cells slots T I P lv pc (.int n :: rest) := by
  intro H locs ls h1 h2 h3
  obtain ⟨hx, hb, hml, hown, hts, hK, hbs, hret, hlk, hNs, hG, hNw⟩ := X
  have hbH : b ≤ H.size := Nat.le_trans hbs h2.1
  subst hN
  refine W.anew hx hb hown (hts _ hcl) hov rfl hd rfl hn hbytes hcells hslots fun cA kA comp f1 f2 f3 f4 => ?_
  generalize hH1 : H.push ({ cls := cA, slots := Array.replicate n.toNatClampNeg .null, vm := .none } : Cell) = H1
  have z1 : H1.size = H.size + 1 := by rw [← hH1, Array.size_push]
  have e1 : H1[H.size]? = some (arrV cA n.toNatClampNeg (fun _ => .null)) := by rw [← hH1, Array.getElem?_push_size, ← arrV_new]
  have o1 : ∀ q : Nat, q < H.size → H1[q]? = H[q]? := fun q hq => by rw [← hH1, Array.getElem?_push, if_neg (Nat.ne_of_lt hq)]
  have hAr : ArrOfT s cA (.object q0.1) := fun N z => ⟨(fun k h => by cases h), kA, f2, comp, f3⟩
  refine kk H.size ?_ hbH H1 _ ls (h1.new hbH (fun x hx => by funext y; simp [hx]) (fun x hx => by funext y; simp [hx]) o1 ⟨cA, ⟨q0, hc, hAr, kA, comp, f2, f3, f4, f1⟩, ?_⟩) ⟨Nat.le_trans h2.1 (by omega), fun x g1 g2 => (o1 x (Nat.lt_of_lt_of_le g1 h2.1)).trans (h2.2.1 x g1 g2), h2.2.2⟩ h3
  · cases hq : T H.size with
    | none => rfl
    | some sh => exact absurd (h1 _ _ hq).2.lt (Nat.lt_irrefl _)
  · simpa [va_rf, mPn] using e1
end MJ
/-- a contract's start and end over the memory -/
def mPre (D : va_G) (cl : List vw_C) (ty : Nat → Nat → FieldType) (b : Nat) (NN : State → Prop) (T : mT) (I : mI) (P : mP) (av : List Value) : Array Value → State → Prop := fun v U => v = av.toArray ∧ b ≤ U.heap.size ∧ va_K D cl [] U ∧ mW D cl ty b T I P U U.heap ∧ NN U
def mPost (D : va_G) (cl : List vw_C) (ty : Nat → Nat → FieldType) (b : Nat) (post : Option Value → mT → mI → mP → Prop) : Array Value → State → Outcome → State → Prop := fun _ st o t => (∃ (v : Option Value) (T' : mT) (I' : mI) (P' : mP), o = .returned v ∧ post v T' I' P' ∧ mW D cl ty b T' I' P' t t.heap) ∧ va_F (fun q => b ≤ q) st t
def mMet (l : Launch) (D : va_G) (cl : List vw_C) (ty : Nat → Nat → FieldType) (b : Nat) (TT : List Cond) (NN : State → Prop) (y : MethodName) (bytes : ByteArray) (maxL : Nat) (ret : Option FieldType) (rm : Room) (T : mT) (I : mI) (P : mP) (av : List Value) (post : Option Value → mT → mI → mP → Prop) : Prop :=
  Met l y (.code y bytes maxL ret :: TT) rm (mPre D cl ty b NN T I P av) (mPost D cl ty b post) rm.cells rm.slots (fun q => b ≤ q)
/-- a method by its name: its code and words -/
def mMe (TT : List Cond) (y : MethodName) (bytes : ByteArray) (maxL : Nat) (ret : Option FieldType) (n : Nat) : Prop :=
  Cond.code y bytes maxL ret ∈ TT ∧ Cond.initialized y.cls ∈ TT ∧ (y.cls ≠ "java/lang/invoke/MethodHandle" ∧ y.cls ≠ "java/lang/invoke/VarHandle") ∧ (parseMethodDescriptor y.desc).map (fun d => d.parameters.length) = some n
section MK
variable {p : Program} {l : Launch} {e : Env} {R : Room} {s : State} {m : MethodId} {args : Array Value} {below : List Frame} {meth : Method} {c : Code}
variable {D : va_G} {cl : List vw_C} {ty : Nat → Nat → FieldType} {b nL : Nat} {Q : State → Prop} {cells slots : Nat} {T : mT} {I : mI} {P : mP} {lv : List (Nat × Value)} {pc : Nat} {rest : List Value}
variable {cc : ByteArray} {own : String} {ret : Option FieldType} {TT : List Cond} {NN : State → Prop}
theorem mMet_of {y : MethodName} {bytes : ByteArray} {maxL : Nat} {ret : Option FieldType} {rm : Room} {av : List Value} {post : Option Value → mT → mI → mP → Prop} (own : String) (hown : y.cls = own) (hy : plainName y.cls = true) (hG : GoodIn TT TT) (hN : ∀ u U : State, u.WarmedH U.vm → (∀ q : Nat, q < b → U.heap[q]? = u.heap[q]?) → NN u → NN U) (hav : (lg_sl av).length ≤ maxL)
    (body : ∀ p e s m args below meth c, mX p s m meth c args bytes maxL own ret TT NN D cl b → meth.name = y.name → mJ p l e rm s m args below meth c D cl ty b maxL (MQ below (mPost D cl ty b post) args s rm.cells rm.slots (fun q => b ≤ q)) 0 0 T I P (lv_args 0 av) 0 []) : mMet l D cl ty b TT NN y bytes maxL ret rm T I P av post := by
  refine Met.ofW (cc := bytes) (maxL := maxL) (ret := ret) hy rfl ?_
  intro p e s m args below meth c s₁ B hml hv
  obtain ⟨rfl, hb, hK, hW, hNs⟩ := hv
  have hts := atoms_spec (ws := .code y bytes maxL ret :: TT) B.pre
  have ho : s.vm.findClass own = some m.cls := by rw [← hown]; exact findClass_of_methodNamed B.named
  rw [lg_entry_eq]
  exact body p e s m _ below meth c ⟨B.exec, B.bytes, hml, ho, fun w hw => hts w (List.mem_cons_of_mem _ hw), hK, hb, B.returns, B.notSynchronized, hNs, hG, hN⟩ (name_of_methodNamed B.named B.method).1 s.heap [] _ hW va_S.rf (lv_entry av hav)
theorem mJ_iret (X : mX p s m meth c args cc nL own (some .int) TT NN D cl b) {post : Option Value → mT → mI → mP → Prop} {v : Int32} (hd : decode cc pc = .ok (.ireturn, 1)) (hp : post (some (.int v)) T I P) : mJ p l e R s m args below meth c D cl ty b nL (MQ below (mPost D cl ty b post) args s cells slots (fun q => b ≤ q)) cells slots T I P lv pc [.int v] :=
  fun H locs ls h1 h2 h3 => W.iret X.1 X.2.1 X.2.2.2.2.2.2.2.1 (fun t ht hW => ⟨⟨_, T, I, P, rfl, hp, by rw [ht]; exact h1.moved hW.alike⟩, h2.F ht⟩) h2.2.2 hd X.2.2.2.2.2.2.2.2.1
theorem mJ_zret (X : mX p s m meth c args cc nL own (some .boolean) TT NN D cl b) {post : Option Value → mT → mI → mP → Prop} {v : Int32} (hd : decode cc pc = .ok (.ireturn, 1)) (hn : narrow .boolean (.int v) = .int v) (hp : post (some (.int v)) T I P) : mJ p l e R s m args below meth c D cl ty b nL (MQ below (mPost D cl ty b post) args s cells slots (fun q => b ≤ q)) cells slots T I P lv pc [.int v] :=
  fun H locs ls h1 h2 h3 => W.zret X.1 X.2.1 X.2.2.2.2.2.2.2.1 hn (fun t ht hW => ⟨⟨_, T, I, P, rfl, hp, by rw [ht]; exact h1.moved hW.alike⟩, h2.F ht⟩) h2.2.2 hd X.2.2.2.2.2.2.2.2.1
theorem mJ_cret (X : mX p s m meth c args cc nL own (some .char) TT NN D cl b) {post : Option Value → mT → mI → mP → Prop} {v : Int32} (hd : decode cc pc = .ok (.ireturn, 1)) (hn : narrow .char (.int v) = .int v) (hp : post (some (.int v)) T I P) : mJ p l e R s m args below meth c D cl ty b nL (MQ below (mPost D cl ty b post) args s cells slots (fun q => b ≤ q)) cells slots T I P lv pc [.int v] :=
  fun H locs ls h1 h2 h3 => W.zret X.1 X.2.1 X.2.2.2.2.2.2.2.1 hn (fun t ht hW => ⟨⟨_, T, I, P, rfl, hp, by rw [ht]; exact h1.moved hW.alike⟩, h2.F ht⟩) h2.2.2 hd X.2.2.2.2.2.2.2.2.1
theorem mJ_vret (X : mX p s m meth c args cc nL own none TT NN D cl b) {post : Option Value → mT → mI → mP → Prop} (hd : decode cc pc = .ok (.return_, 1)) (hp : post none T I P) : mJ p l e R s m args below meth c D cl ty b nL (MQ below (mPost D cl ty b post) args s cells slots (fun q => b ≤ q)) cells slots T I P lv pc [] :=
  fun H locs ls h1 h2 h3 => W.vret X.1 X.2.1 X.2.2.2.2.2.2.2.1 (fun t ht hW => ⟨⟨_, T, I, P, rfl, hp, by rw [ht]; exact h1.moved hW.alike⟩, h2.F ht⟩) h2.2.2 hd X.2.2.2.2.2.2.2.2.1
theorem mJ_aret {rt : FieldType} (X : mX p s m meth c args cc nL own (some rt) TT NN D cl b) (hrt : (∃ n, rt = .object n) ∨ ∃ t, rt = .array t) {post : Option Value → mT → mI → mP → Prop} {v : Nat} (hd : decode cc pc = .ok (.areturn, 1)) (hp : post (some (.ref v)) T I P) : mJ p l e R s m args below meth c D cl ty b nL (MQ below (mPost D cl ty b post) args s cells slots (fun q => b ≤ q)) cells slots T I P lv pc [.ref v] :=
  fun H locs ls h1 h2 h3 => W.aret X.1 X.2.1 X.2.2.2.2.2.2.2.1 hrt (Or.inr ⟨_, rfl⟩) (fun t ht hW => ⟨⟨_, T, I, P, rfl, hp, by rw [ht]; exact h1.moved hW.alike⟩, h2.F ht⟩) h2.2.2 hd X.2.2.2.2.2.2.2.2.1
theorem mPre_blind (hN : ∀ u U : State, u.WarmedH U.vm → (∀ q : Nat, q < b → U.heap[q]? = u.heap[q]?) → NN u → NN U) {av : List Value} : FrameBlind (mPre D cl ty b NN T I P av) := by
  intro a U g mk h
  obtain ⟨h0, h1, h2, h3, h4⟩ := h
  exact ⟨h0, h1, va_K.moved (u := U) (U := U.calling g mk a) (Vm.Alike.refl U.vm) h2, h3.moved (Vm.Alike.refl U.vm), hN U _ (State.WarmedH.refl U) (fun _ _ => rfl) h4⟩
theorem mPre_at (X : mX p s m meth c args cc nL own ret TT NN D cl b) {H : Heap} {locs : List Loc} (h1 : mW D cl ty b T I P s H) (h2 : va_S (fun q => b ≤ q) s.heap H locs) (av : List Value) : ∀ U : State, U.heap = H → s.WarmedH U.vm → mPre D cl ty b NN T I P av av.toArray U := by
  intro U hU hW
  obtain ⟨hx, hb, hml, hown, hts, hK, hbs, hret, hlk, hNs, hG, hNw⟩ := X
  exact ⟨rfl, by rw [hU]; exact Nat.le_trans hbs h2.1, va_K.moved hW.alike hK, by rw [hU]; exact h1.moved hW.alike, hNw s U hW (fun q hq => by rw [hU]; exact h2.2.1 q (Nat.lt_of_lt_of_le hq hbs) (Nat.not_le.mpr hq)) hNs⟩
theorem mJ_run {st0 : List Value} {post : Option Value → mT → mI → mP → Prop} {a : Array Value} {mc ms : Nat} (hr : ∀ (H : Heap) (locs : List Loc) (ls : Array Slot), mW D cl ty b T I P s H → va_S (fun q => b ≤ q) s.heap H locs → lv_has ls nL lv → va_Run p l e R s m args below meth c H locs cells slots mc ms (F0 m pc ls st0) rest (mPost D cl ty b post a) (fun q => b ≤ q))
    (kk : ∀ (v : Option Value) (T' : mT) (I' : mI) (P' : mP), post v T' I' P' → mJ p l e R s m args below meth c D cl ty b nL Q (cells + mc) (slots + ms) T' I' P' lv (pc + 3) (v.toList ++ rest)) : mJ p l e R s m args below meth c D cl ty b nL Q cells slots T I P lv pc st0 := by
  intro H locs ls h1 h2 h3 Tt hT Xs
  obtain ⟨v, st₀, t, T', L, h0, X', hL, e1, e2, ⟨⟨v', T2, I2, P2, hv, hp, hw⟩, hz, hk⟩, st⟩ := hr H locs ls h1 h2 h3 Tt hT Xs
  cases hv
  rw [h0] at hz hk
  have hal : t.vm.Alike s.vm := by rw [← e2]; exact X'.warmed.alike.symm
  obtain ⟨t2, a1, b1⟩ := kk v T2 I2 P2 hp T'.heap (locs ++ L) ls (by rw [e1]; exact hw.moved hal) ⟨Nat.le_trans h2.1 (by rw [e1]; exact hz), fun q g1 g2 => by rw [e1, hk q (Nat.lt_of_lt_of_le g1 h2.1) g2]; exact h2.2.1 q g1 g2, fun q hq => by
      rcases List.mem_append.mp hq with h | h
      · exact h2.2.2 q h
      · exact hL q h⟩ h3 T' rfl X'
  exact ⟨t2, st t2 a1, b1⟩
theorem mCallB (X : mX p s m meth c args cc nL own ret TT NN D cl b) {y : MethodName} {bytes : ByteArray} {maxL n idx : Nat} {ry : Option FieldType} {rm : Room} (hy : mMe TT y bytes maxL ry n) (hR : rm.frames + 1 ≤ R.frames ∧ 8 + (maxL + 11) + rm.locals ≤ R.locals) (hl : Cond.methodLink own idx y ∈ TT) : CallB R s args own idx y bytes maxL ry (.code y bytes maxL ry :: TT) rm rm.cells rm.slots n := by
  obtain ⟨hx, hb, hml, hown, hts, hK, hbs, hret, hlk, hNs, hG, hNw⟩ := X
  have hG2 : GoodIn TT (.code y bytes maxL ry :: TT) := fun w hw => by
    rcases List.mem_cons.mp hw with h | h
    · rw [h]; exact hG _ hy.1
    · exact hG w h
  refine ⟨rfl, rfl, hR.1, hR.2, pay_in hts hG2, List.mem_cons_self, hts _ hy.1, hts _ hy.2.1, hy.2.2.1, fun sig h => ?_, hts _ hl⟩
  have h2 := hy.2.2.2
  rw [h] at h2
  exact (Option.some.inj h2).symm
/-- a call of a method of an object -/
theorem mJ_callV (X : mX p s m meth c args cc nL own ret TT NN D cl b) {y : MethodName} {bytes : ByteArray} {maxL n idx a ci : Nat} {ry : Option FieldType} {rm : Room} {F : u_T} {N : Nat} {As : List Value} {post : Option Value → mT → mI → mP → Prop} (hM : mMet l D cl ty b TT NN y bytes maxL ry rm T I P (.ref a :: As) post) (hy : mMe TT y bytes maxL ry n) (hc : cl[ci]? = some (y.cls, F, N)) (hT : T a = some (0, ci, 0)) (hl : Cond.methodLink own idx y ∈ TT) (hin : Cond.instanceMethod y ∈ TT) (hsel : Cond.selects y.cls y y ∈ TT)
    (hn : As.length = n) {st0 : List Value} (hst : st0 = As.reverse ++ .ref a :: rest) (hW : (rest.map fun v => v.category).sum ≤ 8) (hR : rm.frames + 1 ≤ R.frames ∧ 8 + (maxL + 11) + rm.locals ≤ R.locals) (hf : cells + rm.cells ≤ R.cells ∧ slots + rm.slots ≤ R.slots) (hd : decode cc pc = .ok (.invokevirtual idx, 3))
    (kk : ∀ (v : Option Value) (T' : mT) (I' : mI) (P' : mP), post v T' I' P' → mJ p l e R s m args below meth c D cl ty b nL Q (cells + rm.cells) (slots + rm.slots) T' I' P' lv (pc + 3) (v.toList ++ rest)) : mJ p l e R s m args below meth c D cl ty b nL Q cells slots T I P lv pc st0 := by
  refine mJ_run (a := (Value.ref a :: As).toArray) (fun H locs ls h1 h2 h3 => ?_) kk
  obtain ⟨hba, q, hq, cell, q1, q2, q3, q4⟩ := h1 a _ hT
  have hK := X.2.2.2.2.2.1
  refine va_runV (C := y.cls) (b := a) (As := As) ⟨X.1, X.2.1, X.2.2.1, X.2.2.2.1, X.2.2.2.2.1⟩ hM ⟨mCallB X hy hR hl, X.2.2.2.2.1 _ hin, X.2.2.2.2.1 _ hsel⟩ ⟨mPre_blind X.2.2.2.2.2.2.2.2.2.2.2, ⟨cell, q1, by rw [q3]; rfl, by rw [q2]; exact (hK.1 ci _ hc).2.1⟩, mPre_at X h1 h2 _⟩ rfl hn h3.1 hst (lv_room hW) hd hf
theorem mJ_callS (X : mX p s m meth c args cc nL own ret TT NN D cl b) {y : MethodName} {bytes : ByteArray} {maxL n idx : Nat} {ry : Option FieldType} {rm : Room} {As : List Value} {post : Option Value → mT → mI → mP → Prop} (hM : mMet l D cl ty b TT NN y bytes maxL ry rm T I P As post) (hy : mMe TT y bytes maxL ry n) (hl : Cond.methodLink own idx y ∈ TT) (hss : Cond.static y ∈ TT)
    (hn : As.length = n) {st0 : List Value} (hst : st0 = As.reverse ++ rest) (hW : (rest.map fun v => v.category).sum ≤ 8) (hR : rm.frames + 1 ≤ R.frames ∧ 8 + (maxL + 11) + rm.locals ≤ R.locals) (hf : cells + rm.cells ≤ R.cells ∧ slots + rm.slots ≤ R.slots) (hd : decode cc pc = .ok (.invokestatic idx, 3))
    (kk : ∀ (v : Option Value) (T' : mT) (I' : mI) (P' : mP), post v T' I' P' → mJ p l e R s m args below meth c D cl ty b nL Q (cells + rm.cells) (slots + rm.slots) T' I' P' lv (pc + 3) (v.toList ++ rest)) : mJ p l e R s m args below meth c D cl ty b nL Q cells slots T I P lv pc st0 := by
  refine mJ_run (a := As.toArray) (fun H locs ls h1 h2 h3 => ?_) kk
  exact va_runS (As := As) ⟨X.1, X.2.1, X.2.2.1, X.2.2.2.1, X.2.2.2.2.1⟩ hM ⟨mCallB X hy hR hl, X.2.2.2.2.1 _ hss⟩ ⟨mPre_blind X.2.2.2.2.2.2.2.2.2.2.2, mPre_at X h1 h2 _⟩ rfl hn h3.1 hst (lv_room hW) hd hf
theorem mJ_callI (X : mX p s m meth c args cc nL own ret TT NN D cl b) {y : MethodName} {bytes : ByteArray} {maxL n idx a : Nat} {rm : Room} {As : List Value} {post : Option Value → mT → mI → mP → Prop} (hM : mMet l D cl ty b TT NN y bytes maxL none rm T I P (.ref a :: As) post) (hy : mMe TT y bytes maxL none n) (hl : Cond.methodLink own idx y ∈ TT) (hin : Cond.instanceMethod y ∈ TT) (hnm : y.name = "<init>")
    (hn : As.length = n) {st0 : List Value} (hst : st0 = As.reverse ++ .ref a :: rest) (hW : (rest.map fun v => v.category).sum ≤ 8) (hR : rm.frames + 1 ≤ R.frames ∧ 8 + (maxL + 11) + rm.locals ≤ R.locals) (hf : cells + rm.cells ≤ R.cells ∧ slots + rm.slots ≤ R.slots) (hd : decode cc pc = .ok (.invokespecial idx, 3))
    (kk : ∀ (v : Option Value) (T' : mT) (I' : mI) (P' : mP), post v T' I' P' → mJ p l e R s m args below meth c D cl ty b nL Q (cells + rm.cells) (slots + rm.slots) T' I' P' lv (pc + 3) (v.toList ++ rest)) : mJ p l e R s m args below meth c D cl ty b nL Q cells slots T I P lv pc st0 := by
  refine mJ_run (a := (Value.ref a :: As).toArray) (fun H locs ls h1 h2 h3 => ?_) kk
  exact va_runI (b := a) (As := As) ⟨X.1, X.2.1, X.2.2.1, X.2.2.2.1, X.2.2.2.2.1⟩ hM ⟨mCallB X hy hR hl, hnm, X.2.2.2.2.1 _ hin⟩ ⟨mPre_blind X.2.2.2.2.2.2.2.2.2.2.2, mPre_at X h1 h2 _⟩ rfl hn h3.1 hst (lv_room hW) hd hf
theorem mCallN (X : mX p s m meth c args cc nL own ret TT NN D cl b) {y : MethodName} {bytes : ByteArray} {maxL n idx : Nat} {host : String} {ry : Option FieldType} {rm : Room} (hy : mMe TT y bytes maxL ry n) (hR : rm.frames + 1 ≤ R.frames ∧ 8 + (maxL + 11) + rm.locals ≤ R.locals) (hl : va_Nw (.methodLinkNest own idx y host) s) : va_CN R s args own idx y host bytes maxL ry (.code y bytes maxL ry :: TT) rm rm.cells rm.slots n := by
  obtain ⟨hx, hb, hml, hown, hts, hK, hbs, hret, hlk, hNs, hG, hNw⟩ := X
  have hG2 : GoodIn TT (.code y bytes maxL ry :: TT) := fun w hw => by
    rcases List.mem_cons.mp hw with h | h
    · rw [h]; exact hG _ hy.1
    · exact hG w h
  exact va_cnB n hts hG2 rfl rfl rfl hl (hts _ hy.2.1) ⟨hy.2.2.1.1, hy.2.2.1.2, hy.2.2.2⟩ hR
/-- calls of nest mates' private methods -/
theorem mJ_callSN (X : mX p s m meth c args cc nL own ret TT NN D cl b) {y : MethodName} {bytes : ByteArray} {maxL n idx : Nat} {host : String} {ry : Option FieldType} {rm : Room} {As : List Value} {post : Option Value → mT → mI → mP → Prop} (hM : mMet l D cl ty b TT NN y bytes maxL ry rm T I P As post) (hy : mMe TT y bytes maxL ry n) (hl : va_Nw (.methodLinkNest own idx y host) s) (hss : Cond.static y ∈ TT)
    (hn : As.length = n) {st0 : List Value} (hst : st0 = As.reverse ++ rest) (hW : (rest.map fun v => v.category).sum ≤ 8) (hR : rm.frames + 1 ≤ R.frames ∧ 8 + (maxL + 11) + rm.locals ≤ R.locals) (hf : cells + rm.cells ≤ R.cells ∧ slots + rm.slots ≤ R.slots) (hd : decode cc pc = .ok (.invokestatic idx, 3))
    (kk : ∀ (v : Option Value) (T' : mT) (I' : mI) (P' : mP), post v T' I' P' → mJ p l e R s m args below meth c D cl ty b nL Q (cells + rm.cells) (slots + rm.slots) T' I' P' lv (pc + 3) (v.toList ++ rest)) : mJ p l e R s m args below meth c D cl ty b nL Q cells slots T I P lv pc st0 := by
  refine mJ_run (a := As.toArray) (fun H locs ls h1 h2 h3 => ?_) kk
  exact va_runSN (As := As) ⟨X.1, X.2.1, X.2.2.1, X.2.2.2.1, X.2.2.2.2.1⟩ hM ⟨mCallN X hy hR hl, X.2.2.2.2.1 _ hss, trivial⟩ ⟨mPre_blind X.2.2.2.2.2.2.2.2.2.2.2, mPre_at X h1 h2 _⟩ rfl hn h3.1 hst (lv_room hW) hd hf
theorem mJ_callIN (X : mX p s m meth c args cc nL own ret TT NN D cl b) {y : MethodName} {bytes : ByteArray} {maxL n idx a : Nat} {host : String} {rm : Room} {As : List Value} {post : Option Value → mT → mI → mP → Prop} (hM : mMet l D cl ty b TT NN y bytes maxL none rm T I P (.ref a :: As) post) (hy : mMe TT y bytes maxL none n) (hl : va_Nw (.methodLinkNest own idx y host) s) (hin : Cond.instanceMethod y ∈ TT) (hnm : y.name = "<init>")
    (hn : As.length = n) {st0 : List Value} (hst : st0 = As.reverse ++ .ref a :: rest) (hW : (rest.map fun v => v.category).sum ≤ 8) (hR : rm.frames + 1 ≤ R.frames ∧ 8 + (maxL + 11) + rm.locals ≤ R.locals) (hf : cells + rm.cells ≤ R.cells ∧ slots + rm.slots ≤ R.slots) (hd : decode cc pc = .ok (.invokespecial idx, 3))
    (kk : ∀ (v : Option Value) (T' : mT) (I' : mI) (P' : mP), post v T' I' P' → mJ p l e R s m args below meth c D cl ty b nL Q (cells + rm.cells) (slots + rm.slots) T' I' P' lv (pc + 3) (v.toList ++ rest)) : mJ p l e R s m args below meth c D cl ty b nL Q cells slots T I P lv pc st0 := by
  refine mJ_run (a := (Value.ref a :: As).toArray) (fun H locs ls h1 h2 h3 => ?_) kk
  exact va_runIN (b := a) (As := As) ⟨X.1, X.2.1, X.2.2.1, X.2.2.2.1, X.2.2.2.2.1⟩ hM ⟨mCallN X hy hR hl, hnm, X.2.2.2.2.1 _ hin⟩ ⟨mPre_blind X.2.2.2.2.2.2.2.2.2.2.2, mPre_at X h1 h2 _⟩ rfl hn h3.1 hst (lv_room hW) hd hf
theorem mJ_objInit (X : mX p s m meth c args cc nL own ret TT NN D cl b) {idx a : Nat} (hl : Cond.methodLink own idx Lib.objectInit ∈ TT) (hin : Cond.instanceMethod Lib.objectInit ∈ TT) (hco : Cond.code Lib.objectInit ⟨#[0xb1]⟩ 1 none ∈ TT) (hd : decode cc pc = .ok (.invokespecial idx, 3)) (hfr : 1 ≤ R.frames) (hlo : (rest.map fun v => v.category).sum + 12 ≤ R.locals)
    (k : mJ p l e R s m args below meth c D cl ty b nL Q cells slots T I P lv (pc + 3) rest) : mJ p l e R s m args below meth c D cl ty b nL Q cells slots T I P lv pc (.ref a :: rest) := by
  intro H locs ls h1 h2 h3
  refine W.objInit X.1 X.2.1 X.2.2.2.1 (X.2.2.2.2.1 _ hl) (X.2.2.2.2.1 _ hin) (X.2.2.2.2.1 _ hco) rfl (by rw [X.2.2.1]; exact h3.1) rfl hd hfr ?_ (k H locs ls h1 h2 h3)
  show 2 * 0 + _ + 12 ≤ _
  omega
end MK
section MCP
variable {p : Program} {l : Launch} {e : Env} {R : Room} {s : State} {m : MethodId} {args : Array Value} {below : List Frame} {meth : Method} {c : Code}
variable {D : va_G} {cl : List vw_C} {ty : Nat → Nat → FieldType} {b nL : Nat} {Q : State → Prop} {cells slots : Nat} {T : mT} {I : mI} {P : mP} {lv : List (Nat × Value)} {pc : Nat} {rest : List Value}
variable {cc : ByteArray} {own : String} {ret : Option FieldType} {TT : List Cond} {NN : State → Prop}
/-- System.arraycopy between rows of ints -/
theorem mJ_copy (X : mX p s m meth c args cc nL own ret TT NN D cl b) {idx a0 a n0 n1 : Nat} (hl : Cond.methodLink own idx arraycopyName ∈ TT) (hnat : Cond.native arraycopyName ∈ TT) (hstat : Cond.static arraycopyName ∈ TT) (hini : Cond.initialized "java/lang/System" ∈ TT) (hT0 : T a0 = some (1, 0, n0)) (hT1 : T a = some (1, 0, n1))
    {sp dp n : Int32} (h1 : ¬ sp < 0) (h2 : ¬ dp < 0) (h3 : ¬ n < 0) (h4 : sp.toNatClampNeg + n.toNatClampNeg ≤ n0) (h5 : dp.toNatClampNeg + n.toNatClampNeg ≤ n1) (hframes : 1 ≤ R.frames) (hlocals : (rest.map fun v => v.category).sum + (nativeFrameWords "java/lang/System" "arraycopy" 5 + 11) ≤ R.locals) (hd : decode cc pc = .ok (.invokestatic idx, 3))
    (kk : ∀ I' : mI, I' = (fun x => if x = a then va_cpy (I a0) (I a) sp.toNatClampNeg dp.toNatClampNeg n.toNatClampNeg else I x) → mJ p l e R s m args below meth c D cl ty b nL Q cells slots T I' P lv (pc + 3) rest) : mJ p l e R s m args below meth c D cl ty b nL Q cells slots T I P lv pc (.int n :: .int dp :: .ref a :: .int sp :: .ref a0 :: rest) := by
  have nn : ∀ z : Int32, ¬ z < 0 → z.toInt = (z.toNatClampNeg : Int) := by
    intro z hz
    have hz0 : (0 : Int) ≤ z.toInt := by
      have := Int32.not_lt.mp hz
      simpa using Int32.le_iff_toInt_le.mp this
    show z.toInt = ((z.toInt.toNat : Nat) : Int)
    omega
  intro H locs ls w1 w2 w3 Ts hT X9
  obtain ⟨hx, hb, hml, hown, hts, hK, hbs, hret, hlk, hNs, hG, hNw⟩ := X
  obtain ⟨hba0, c0, ⟨r0, r0'⟩, hc0⟩ := w1 a0 _ hT0
  obtain ⟨hba, c1, ⟨r1, r1'⟩, hc1⟩ := w1 a _ hT1
  obtain ⟨-, k0, hk0, cm0, hkk0⟩ := r0 n0 (fun j => .int (I a0 j))
  obtain ⟨-, k1, hk1, cm1, hkk1⟩ := r1 n1 (fun j => .int (I a j))
  obtain ⟨vm', X', step⟩ := X9.arraycopy hx hown (hts _ hl) (hts _ hnat) (hts _ hstat) (hts _ hini) (src := a0) (dst := a) (cs := vp_cell c0 (n0, .inl (I a0))) (cd := vp_cell c1 (n1, .inl (I a))) (srcPos := sp) (destPos := dp) (n := n) (by rw [hT]; exact hc0) (by rw [hT]; exact hc1)
    (fun _ h => by cases h) (fun _ h => by cases h) (fun h => by cases h) (fun h => by cases h) hk0 hk1 hkk0 hkk1 (by simp [refKind]) h1 h2 h3
    (by rw [nn sp h1, nn n h3]; show ¬ _ > ((arrV c0 n0 (fun j => .int (I a0 j))).slots.size : Int); rw [arrV_size]; omega)
    (by rw [nn dp h2, nn n h3]; show ¬ _ > ((arrV c1 n1 (fun j => .int (I a j))).slots.size : Int); rw [arrV_size]; omega)
    (fun vm₁ _ i hi => by
      have e : (vp_cell c0 (n0, .inl (I a0))).slots.getD (sp.toNatClampNeg + i) .null = .int (I a0 (sp.toNatClampNeg + i)) := by
        show (arrV c0 n0 (fun j => .int (I a0 j))).slots.getD _ _ = _
        rw [Array.getD_eq_getD_getElem?, arrV_read _ _ (by omega)]
        rfl
      refine ⟨?_, ?_⟩
      · rw [e]
        rfl
      · rw [e]
        exact trivial)
    (g := F0 m pc ls (.int n :: .int dp :: .ref a :: .int sp :: .ref a0 :: rest)) rfl (by rw [hml]; exact w3.1) (rest := rest) rfl (by rw [hb]; exact hd) hframes (by show 2 * 0 + _ + _ ≤ _; omega)
  have e1 : copied (vp_cell c0 (n0, .inl (I a0))) (vp_cell c1 (n1, .inl (I a))) sp dp n = vp_cell c1 (n1, .inl (va_cpy (I a0) (I a) sp.toNatClampNeg dp.toNatClampNeg n.toNatClampNeg)) := va_copied (fun z => .int z) c0 c1 (I a0) (I a) h4
  rw [e1] at X' step
  have hl9 : a < H.size := (Array.getElem?_eq_some_iff.mp hc1).1
  have hheap : ((Ts.setVm vm').setCell a (vp_cell c1 (n1, .inl (va_cpy (I a0) (I a) sp.toNatClampNeg dp.toNatClampNeg n.toNatClampNeg)))).heap = H.setIfInBounds a (vp_cell c1 (n1, .inl (va_cpy (I a0) (I a) sp.toNatClampNeg dp.toNatClampNeg n.toNatClampNeg))) := by rw [← hT]; rfl
  have oq : ∀ q : Nat, q ≠ a → (H.setIfInBounds a (vp_cell c1 (n1, .inl (va_cpy (I a0) (I a) sp.toNatClampNeg dp.toNatClampNeg n.toNatClampNeg))))[q]? = H[q]? := fun q hq => by simp [Array.getElem?_setIfInBounds, Ne.symm hq]
  obtain ⟨t, a1, b1⟩ := kk _ rfl _ _ ls (w1.put hT1 (I' := fun x => if x = a then va_cpy (I a0) (I a) sp.toNatClampNeg dp.toNatClampNeg n.toNatClampNeg else I x) (P' := P) (fun x hx => by simp [hx]) (fun _ _ => rfl) oq ⟨c1, ⟨r1, r1'⟩, (show (H.setIfInBounds a _)[a]? = some _ by simp [Array.getElem?_setIfInBounds, hl9, vp_cell])⟩) ⟨by simp; exact w2.1, fun q g1 g2 => by
      rw [oq q (fun e => g2 (by rw [e]; exact hba))]
      exact w2.2.1 q g1 g2, fun q hq => by
      rcases List.mem_append.mp hq with h | h
      · exact w2.2.2 q h
      · obtain ⟨z, -, hz⟩ := List.mem_map.mp h
        rw [← hz]
        exact hba⟩ w3 _ hheap X'
  exact ⟨t, step t a1, b1⟩
end MCP
