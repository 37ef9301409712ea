/-! THE CLAIM OUT OF ONE WALK OF THE LAW'S BODY. Your part is whole_start (and what it stands on); all else here is the same for every law, but numbers. -/
def R_law : String := "PipeForgeLaw"
def lw_P (b : Addr) (xs : List Int32) (args : Array Value) (s : State) : Prop := args = #[.ref b] ∧ s.IntsAt b xs ∧ xs.length ≤ 3072 ∧ (Jvm.Cond.and given_1 narrow_1).before args s = true
def lw_Q (_ : Array Value) (s : State) (o : Outcome) (t : State) : Prop := o = .returned (some (.int 1)) ∧ Framed s o t [] 600000 7302250
def lw_Z (below : List Frame) (a : Array Value) (s : State) : State → Prop := fun t => ∃ o, t.status = .running ∧ Ended t below o ∧ lw_Q a s o t
/-- the law's own end, with 1 on the stack, nothing written that was there before, its room as the claim has it -/
theorem lw_ret {p : Program} {l : Launch} {e : Env} {s : State} {m : MethodId} {below : List Frame} {meth : Method} {c : Code} {b : Nat} (hx : p.tables.exec = Jvm.exec) (hb : c.code = code) (hr : meth.sig.returnType = ret) (hlocks : meth.locks = false) {pc : Nat} {H : Heap} {ls : Array Slot} (hdg : decode code pc = .ok (.ireturn, 1)) : W p l e room_1 s m #[Value.ref b] below meth c H [] 600000 7302250 (lw_Z below #[Value.ref b] s) (F0 m pc ls [.int 1]) := by
  intro T hT X
  obtain ⟨fs, hret, hrun, hended, hW, hframe⟩ := X.leave (v := some (.int 1)) (hlocks := hlocks) (fun h => by rw [hr] at h; cases h)
  have hmeth' : T.vm.method? m = some meth := X.method'
  refine ⟨T.setFrames fs, ?_, .returned (some (.int 1)), hrun, hended, rfl, ⟨_, rfl⟩, hW, hframe⟩
  jvm_step X.here [X.here.top, hx, hb, hdg, hmeth', hr, ret, narrow_b1]
  (try refine ⟨rfl, ?_⟩); (try refine ⟨rfl, ?_⟩)
  first | (intro acts; rw [hret _ acts rfl rfl rfl]) | rw [hret _ _ rfl rfl rfl]
  exact Steps.refl _
/-- what holds at the law's entry: the machine, the code, the tables' words (any of lw_tbl by 'hts w (by decide +kernel)'), the script of L ints xs at the cell b, what the Statement gives of the start (any of its parts by flat_of_before) -/
def lw_At (p : Program) (s : State) (m : MethodId) (meth : Method) (c : Code) (b L : Nat) (xs : Nat → Int32) : Prop :=
  p.tables.exec = Jvm.exec ∧ c.code = code ∧ meth.sig.returnType = ret ∧ c.maxLocals = 4 ∧ s.vm.findClass R_law = some m.cls ∧ (∀ w ∈ lw_tbl, w.before #[Value.ref b] s = true) ∧ va_X b L xs s s.heap ∧ b < s.heap.size ∧ meth.locks = false ∧ (Jvm.Cond.and given_1 narrow_1).before #[Value.ref b] s = true

section RS9
variable {p : Program} {l : Launch} {e : Env} {R : Room} {s : State} {m : MethodId} {args : Array Value} {below : List Frame} {meth : Method} {c : Code}
variable {D : va_G} {cl : List vw_C} {ty : Nat → Nat → FieldType} {b nL : Nat} {Z : State → Prop} {cells slots : Nat} {A : Nat → Nat} {Sh : mS} {S : mI} {G : mP} {lv : List (Nat × Value)} {pc : Nat} {rest : List Value}
variable {cc : ByteArray} {own : String} {ret : Option FieldType} {TT : List Cond} {NN : State → Prop}
theorem rJ_sldK (X : mX p s m meth c args cc nL own ret TT NN D cl b) {b0 L k : Nat} {xs : Nat → Int32} {i : Int32} (hX : va_X b0 L xs s s.heap) (hbl : b0 < s.heap.size ∧ b0 < b) (hi : i = nI k) (hk : k < L ∧ L < 2147483648) (hd : decode cc pc = .ok (.iaload, 1)) (kk : rJ p l e R s m args below meth c D cl ty b nL Z cells slots A Sh S G lv (pc + 1) (.int (xs k) :: rest)) : rJ p l e R s m args below meth c D cl ty b nL Z cells slots A Sh S G lv pc (.int i :: .ref b0 :: rest) := fun T I P h H locs ls h1 h2 h3 => by
  subst hi
  have hc : (nI k).toNatClampNeg = k := nI_clamp (by omega)
  exact va_sld X.1 X.2.1 hX hbl.1 (Nat.not_le.mpr hbl.2) h2 (vp_in_nI hk.1 hk.2) hd (by rw [hc]; exact kk T I P h H locs ls h1 h2 h3)
theorem rJ_xlen (X : mX p s m meth c args cc nL own ret TT NN D cl b) {b0 L : Nat} {xs : Nat → Int32} (hX : va_X b0 L xs s s.heap) (hbl : b0 < s.heap.size ∧ b0 < b) (hd : decode cc pc = .ok (.arraylength, 1)) (kk : rJ p l e R s m args below meth c D cl ty b nL Z cells slots A Sh S G lv (pc + 1) (.int (nI L) :: rest)) : rJ p l e R s m args below meth c D cl ty b nL Z cells slots A Sh S G lv pc (.ref b0 :: rest) := fun T I P h H locs ls h1 h2 h3 =>
  va_slen X.1 X.2.1 hX hbl.1 (Nat.not_le.mpr hbl.2) h2 hd (kk T I P h H locs ls h1 h2 h3)
end RS9
theorem and15 (x : Int32) : ∃ d : Nat, d < 16 ∧ x &&& 15 = nI d := pk_andE _ 4 rfl
def jE (Sh : mS) (S : mI) (G : mP) (B : Nat) : Prop := ∃ st2 cnt2 r2 x2 v2 q2 a2 y2 t2 n2, jJ Sh S G S B st2 cnt2 r2 x2 v2 q2 a2 y2 t2 n2
theorem jE_B {Sh : mS} {S : mI} {G : mP} {B B' : Nat} (h : jE Sh S G B) (hb : B ≤ B') : jE Sh S G B' := by
  obtain ⟨st, cnt, r, x, v, q, a, y, t, n, h⟩ := h
  exact ⟨st, cnt, r, x, v, q, a, y, t, n, jJ_B h hb⟩

set_option maxHeartbeats 4000000 in
set_option maxRecDepth 100000 in
theorem law_loop {p : Program} {l : Launch} {e : Env} {s : State} {m : MethodId} {below : List Frame} {meth : Method} {c : Code} {D : va_G} {b b0 L : Nat} {xs : Nat → Int32} (X : mX p s m meth c #[Value.ref b0] cL_law 4 RL (some .boolean) TT (NN b D) D vwCl b) (hX : va_X b0 L xs s s.heap) (hbl : b0 < s.heap.size ∧ b0 < b) (hL : L ≤ 3072) (hbs : s.heap.size ≤ b) : ∀ (f j : Nat) (A : Nat → Nat) (Sh : mS) (S : mI) (G : mP), jE Sh S G (3000 * j) → 6 * j ≤ L + 5 → 600 - j < f → rJ p l e room_1 s m #[Value.ref b0] below meth c D vwCl mty b 4 (lw_Z below #[Value.ref b0] s) (60 + j) (9000 + 5 * j) A Sh S G [(0, .ref b0), (1, .ref (A 0)), (2, .ref (A 100)), (3, .int (nI (6 * j)))] 18 [] := by
  intro f
  induction f with
  | zero => intro j A Sh S G _ _ h; exact absurd h (by omega)
  | succ f ih =>
    intro j A Sh S G hE hj hf
    obtain ⟨st, cnt, r, x, v, q, a, y, t, n, h⟩ := hE
    obtain ⟨hw, ht, -, -, hcc, h40, -⟩ := id h.ci
    have K463 : ∀ (A : Nat → Nat) (Sh : mS) (S : mI) (G : mP) (ce sl : Nat), jE Sh S G (3000 * (j + 1)) → ce ≤ 60 + (j + 1) → sl ≤ 9000 + 5 * (j + 1) → 6 * j + 6 ≤ L → rJ p l e room_1 s m #[Value.ref b0] below meth c D vwCl mty b 4 (lw_Z below #[Value.ref b0] s) ce sl A Sh S G [(0, .ref b0), (1, .ref (A 0)), (2, .ref (A 100)), (3, .int (nI (6 * j)))] 463 [] := by
      intro A Sh S G ce sl hE h1 h2 h3
      refine rJ_inc (n := 6) (w := 6) X dL_law_463 rfl (by decide) (by decide) ?_
      rw [show nI (6 * j) + 6 = nI (6 * (j + 1)) from (nI_add (6 * j) 6).trans (by rw [Nat.mul_add])]
      refine rJ_goto (tgt := 18) X dL_law_466 (by decide) ?_
      refine rJ_wide (k := 60 + (j + 1)) (n := 9000 + 5 * (j + 1)) h1 h2 ?_
      exact rJ_lv _ rfl (ih (j + 1) A Sh S G hE (by omega) (by omega))
    refine rJ_iload_n X dL_law_18 rfl rfl ?_
    refine rJ_aload_n X dL_law_19 rfl rfl ?_
    refine rJ_xlen X hX hbl dL_law_20 ?_
    refine rJ_bipush (v := 6) X dL_law_21 (by decide) ?_
    refine rJ_isub X dL_law_23 ?_
    have hsub : (nI L - 6).toInt = (L : Int) - 6 := by
      rw [i_sub, i_nI (by omega)]
      · rfl
      · rw [i_nI (by omega)]; show _ ≤ _ - (6 : Int); omega
      · rw [i_nI (by omega)]; show _ - (6 : Int) < _; omega
    refine rJ_icmp_gt (tgt := 469) X dL_law_24 (by decide) (fun _ => ?_) (fun c1 => ?_)
    · refine rJ_iconst (v := 1) X dL_law_469 (by decide) ?_
      intro T I P hrl H locs ls m1 m2 m3
      refine va_forget (fun z hz => Nat.le_trans hbs (m2.2.2 z hz)) ?_
      refine W.widen (k := 600000) (n := 7302250) (by omega) (by omega) ?_
      exact lw_ret X.1 X.2.1 X.2.2.2.2.2.2.2.1 X.2.2.2.2.2.2.2.2.1 dL_law_470
    rw [i_lt, hsub, i_nI (by omega)] at c1
    have h6 : 6 * j + 6 ≤ L := by omega
    have K463 := fun A Sh S G ce sl e1 e2 e3 => K463 A Sh S G ce sl e1 e2 e3 h6
    have hB : 3000 * j + 3000 < 100000000 := by omega
    refine rJ_aload_n X dL_law_27 rfl rfl ?_
    refine rJ_iload_n X dL_law_28 rfl rfl ?_
    refine rJ_sldK (k := 6 * j) X hX hbl rfl ⟨by omega, by omega⟩ dL_law_29 ?_
    refine rJ_bipush (v := 15) X dL_law_30 (by decide) ?_
    refine rJ_iand X dL_law_32 ?_
    obtain ⟨d, hd16, hu⟩ := and15 (xs (6 * j))
    have hdd : d = 0 ∨ d = 1 ∨ d = 2 ∨ d = 3 ∨ d = 4 ∨ d = 5 ∨ d = 6 ∨ d = 7 ∨ d = 8 ∨ d = 9 ∨ d = 10 ∨ d = 11 ∨ d = 12 ∨ d = 13 ∨ d = 14 ∨ d = 15 := by omega
    rcases hdd with hd | hd | hd | hd | hd | hd | hd | hd | hd | hd | hd | hd | hd | hd | hd | hd
    · subst hd
      refine rJ_as 0 hu ?_
      refine rJ_tabIn (off := 75) (tgt := 108) X dL_law_33 (by decide) (by decide) rfl (by decide) ?_
      obtain ⟨sg, h30, h1, h2, htx⟩ := h.tx
      refine rJ_aload_n X dL_law_108 rfl rfl ?_
      refine rJ_aload_n X dL_law_109 rfl rfl ?_
      refine rJ_iload_n X dL_law_110 rfl rfl ?_
      refine rJ_iconst (v := 1) X dL_law_111 (by decide) ?_
      refine rJ_iadd X dL_law_112 ?_
      refine rJ_sldK (k := 6 * j + 1) X hX hbl (nI_add (6 * j) 1) ⟨by omega, by omega⟩ dL_law_113 ?_
      refine rJ_Vi1 X gL_13 (cF_unit hw (xs (6 * j + 1)) h1 h30) (hw.1 _ _ rfl) dL_law_114 (by decide) (Nat.le_of_ble_eq_true rfl) ⟨show 60 + j ≤ 600000 by omega, show 9000 + 5 * j ≤ 7302250 by omega⟩ ?_
      refine rJ_nS (fun S1 e1 => ?_)
      obtain ⟨p1, p2, hj⟩ := lw_unit h h30 h1 h2 (xs (6 * j + 1)) e1 rfl
      refine rJ_aload_n X dL_law_117 rfl rfl ?_
      refine rJ_aload_n X dL_law_118 rfl rfl ?_
      refine rJ_iload_n X dL_law_119 rfl rfl ?_
      refine rJ_iconst (v := 1) X dL_law_120 (by decide) ?_
      refine rJ_iadd X dL_law_121 ?_
      refine rJ_sldK (k := 6 * j + 1) X hX hbl (nI_add (6 * j) 1) ⟨by omega, by omega⟩ dL_law_122 ?_
      refine rJ_Vi1 X gL_17 (cM_unit h.om (xs (6 * j + 1)) (by rw [p1, i_nI (by omega)]; omega)) (h.om.1 _ _ rfl) dL_law_123 (by decide) (Nat.le_of_ble_eq_true rfl) ⟨show 60 + j ≤ 600000 by omega, show 9000 + 5 * j ≤ 7302250 by omega⟩ ?_
      refine rJ_icmp_eq (tgt := 463) X dL_law_126 (by decide) (fun _ => ?_) (fun e => absurd p2 e)
      exact K463 A Sh _ G _ _ (jE_B hj (by omega)) (by omega) (by omega)
    · subst hd
      refine rJ_as 1 hu ?_
      refine rJ_tabIn (off := 98) (tgt := 131) X dL_law_33 (by decide) (by decide) rfl (by decide) ?_
      obtain ⟨sg, h30, h1, h2, htx⟩ := h.tx
      refine rJ_aload_n X dL_law_131 rfl rfl ?_
      refine rJ_Vi0 X gL_18 (cF_line hw ht h1 h30) (hw.1 _ _ rfl) dL_law_132 (by decide) (Nat.le_of_ble_eq_true rfl) ⟨show 60 + j ≤ 600000 by omega, show 9000 + 5 * j ≤ 7302250 by omega⟩ ?_
      refine rJ_nS (fun S1 e1 => ?_)
      obtain ⟨p1, p2, hj⟩ := lw_line h h30 h2 e1
      refine rJ_aload_n X dL_law_135 rfl rfl ?_
      refine rJ_Vi0 X gL_22 (cM_line h.om p1 h30) (h.om.1 _ _ rfl) dL_law_136 (by decide) (Nat.le_of_ble_eq_true rfl) ⟨show 60 + j ≤ 600000 by omega, show 9000 + 5 * j ≤ 7302250 by omega⟩ ?_
      refine rJ_icmp_eq (tgt := 463) X dL_law_139 (by decide) (fun _ => ?_) (fun e => absurd p2 e)
      exact K463 A Sh _ G _ _ (jE_B hj (by omega)) (by omega) (by omega)
    · subst hd
      refine rJ_as 2 hu ?_
      refine rJ_tabIn (off := 111) (tgt := 144) X dL_law_33 (by decide) (by decide) rfl (by decide) ?_
      refine rJ_aload_n X dL_law_144 rfl rfl ?_
      refine rJ_aload_n X dL_law_145 rfl rfl ?_
      refine rJ_iload_n X dL_law_146 rfl rfl ?_
      refine rJ_iconst (v := 1) X dL_law_147 (by decide) ?_
      refine rJ_iadd X dL_law_148 ?_
      refine rJ_sldK (k := 6 * j + 1) X hX hbl (nI_add (6 * j) 1) ⟨by omega, by omega⟩ dL_law_149 ?_
      refine rJ_aload_n X dL_law_150 rfl rfl ?_
      refine rJ_iload_n X dL_law_151 rfl rfl ?_
      refine rJ_iconst (v := 2) X dL_law_152 (by decide) ?_
      refine rJ_iadd X dL_law_153 ?_
      refine rJ_sldK (k := 6 * j + 2) X hX hbl (nI_add (6 * j) 2) ⟨by omega, by omega⟩ dL_law_154 ?_
      refine rJ_aload_n X dL_law_155 rfl rfl ?_
      refine rJ_iload_n X dL_law_156 rfl rfl ?_
      refine rJ_iconst (v := 3) X dL_law_157 (by decide) ?_
      refine rJ_iadd X dL_law_158 ?_
      refine rJ_sldK (k := 6 * j + 3) X hX hbl (nI_add (6 * j) 3) ⟨by omega, by omega⟩ dL_law_159 ?_
      refine rJ_aload_n X dL_law_160 rfl rfl ?_
      refine rJ_iload_n X dL_law_161 rfl rfl ?_
      refine rJ_iconst (v := 4) X dL_law_162 (by decide) ?_
      refine rJ_iadd X dL_law_163 ?_
      refine rJ_sldK (k := 6 * j + 4) X hX hbl (nI_add (6 * j) 4) ⟨by omega, by omega⟩ dL_law_164 ?_
      refine rJ_aload_n X dL_law_165 rfl rfl ?_
      refine rJ_iload_n X dL_law_166 rfl rfl ?_
      refine rJ_iconst (v := 5) X dL_law_167 (by decide) ?_
      refine rJ_iadd X dL_law_168 ?_
      refine rJ_sldK (k := 6 * j + 5) X hX hbl (nI_add (6 * j) 5) ⟨by omega, by omega⟩ dL_law_169 ?_
      refine rJ_callV (As := [.int (xs (6 * j + 1)), .int (xs (6 * j + 2)), .int (xs (6 * j + 3)), .int (xs (6 * j + 4)), .int (xs (6 * j + 5))]) (rm := mRA 4 1 5) X gL_23 (cF_code hw ht h.gc hcc h40 (h.fr cnt (Nat.le_refl _) (by omega)) (xs (6 * j + 1)) (xs (6 * j + 2)) (xs (6 * j + 3)) (xs (6 * j + 4)) (xs (6 * j + 5))) (hw.1 _ _ rfl) rfl rfl (Nat.le_of_ble_eq_true rfl) ⟨(Nat.le_of_ble_eq_true rfl), (Nat.le_of_ble_eq_true rfl)⟩ ⟨show 60 + j + 1 ≤ 600000 by omega, show 9000 + 5 * j + 5 ≤ 7302250 by omega⟩ dL_law_170 ?_
      intro v0 A1 Sh1 S1 G1 hp
      obtain ⟨w, rfl, hA, hd⟩ : ∃ w, v0 = some (.int w) ∧ (∀ x, x ≠ 32 + cnt → A1 x = A x) ∧ (((¬ cCodeOk S (xs (6 * j + 1)) (xs (6 * j + 2)) (xs (6 * j + 3)) (xs (6 * j + 4))) ∧ w = -1 ∧ Sh1 = Sh ∧ S1 = S ∧ G1 = G) ∨ (cCodeOk S (xs (6 * j + 1)) (xs (6 * j + 2)) (xs (6 * j + 3)) (xs (6 * j + 4)) ∧ w = nI cnt ∧ Sh1 = mTn Sh (32 + cnt) (0, 2, 0) ∧ S1 = cCodS S G cnt (xs (6 * j + 1)) (xs (6 * j + 2)) (xs (6 * j + 3)) (xs (6 * j + 4)) (xs (6 * j + 5)) ∧ G1 = cCodG G cnt)) := by
        rcases hp with ⟨c0, c1, c2, c3, c4, c5⟩ | ⟨c0, c1, c2, c3, c4, c5⟩
        · exact ⟨-1, c1, fun x _ => by rw [c2], Or.inl ⟨c0, rfl, c3, c4, c5⟩⟩
        · exact ⟨nI cnt, c1, c2, Or.inr ⟨c0, rfl, c3, c4, c5⟩⟩
      obtain ⟨p1, p2, hj⟩ := lw_code h (xs (6 * j + 1)) (xs (6 * j + 2)) (xs (6 * j + 3)) (xs (6 * j + 4)) (xs (6 * j + 5)) hd
      have hom : okM Sh1 G1 := by obtain ⟨_, _, _, _, _, _, _, _, _, _, hk⟩ := hj; exact hk.om
      rw [show A 0 = A1 0 from (hA 0 (by omega)).symm, show A 100 = A1 100 from (hA 100 (by omega)).symm]
      refine rJ_aload_n X dL_law_173 rfl rfl ?_
      refine rJ_aload_n X dL_law_174 rfl rfl ?_
      refine rJ_iload_n X dL_law_175 rfl rfl ?_
      refine rJ_iconst (v := 1) X dL_law_176 (by decide) ?_
      refine rJ_iadd X dL_law_177 ?_
      refine rJ_sldK (k := 6 * j + 1) X hX hbl (nI_add (6 * j) 1) ⟨by omega, by omega⟩ dL_law_178 ?_
      refine rJ_aload_n X dL_law_179 rfl rfl ?_
      refine rJ_iload_n X dL_law_180 rfl rfl ?_
      refine rJ_iconst (v := 2) X dL_law_181 (by decide) ?_
      refine rJ_iadd X dL_law_182 ?_
      refine rJ_sldK (k := 6 * j + 2) X hX hbl (nI_add (6 * j) 2) ⟨by omega, by omega⟩ dL_law_183 ?_
      refine rJ_aload_n X dL_law_184 rfl rfl ?_
      refine rJ_iload_n X dL_law_185 rfl rfl ?_
      refine rJ_iconst (v := 3) X dL_law_186 (by decide) ?_
      refine rJ_iadd X dL_law_187 ?_
      refine rJ_sldK (k := 6 * j + 3) X hX hbl (nI_add (6 * j) 3) ⟨by omega, by omega⟩ dL_law_188 ?_
      refine rJ_aload_n X dL_law_189 rfl rfl ?_
      refine rJ_iload_n X dL_law_190 rfl rfl ?_
      refine rJ_iconst (v := 4) X dL_law_191 (by decide) ?_
      refine rJ_iadd X dL_law_192 ?_
      refine rJ_sldK (k := 6 * j + 4) X hX hbl (nI_add (6 * j) 4) ⟨by omega, by omega⟩ dL_law_193 ?_
      refine rJ_aload_n X dL_law_194 rfl rfl ?_
      refine rJ_iload_n X dL_law_195 rfl rfl ?_
      refine rJ_iconst (v := 5) X dL_law_196 (by decide) ?_
      refine rJ_iadd X dL_law_197 ?_
      refine rJ_sldK (k := 6 * j + 5) X hX hbl (nI_add (6 * j) 5) ⟨by omega, by omega⟩ dL_law_198 ?_
      refine rJ_Vi5 X gL_27 (cM_code hom (xs (6 * j + 1)) (xs (6 * j + 2)) (xs (6 * j + 3)) (xs (6 * j + 4)) (xs (6 * j + 5)) p1) (hom.1 _ _ rfl) dL_law_199 (by decide) (Nat.le_of_ble_eq_true rfl) ⟨show 60 + j + 1 ≤ 600000 by omega, show 9000 + 5 * j + 5 ≤ 7302250 by omega⟩ ?_
      refine rJ_icmp_eq (tgt := 463) X dL_law_202 (by decide) (fun _ => ?_) (fun e => absurd p2 e)
      exact K463 A1 Sh1 _ G1 _ _ (jE_B hj (by omega)) (show 60 + j + 1 ≤ 60 + (j + 1) by omega) (show 9000 + 5 * j + 5 ≤ 9000 + 5 * (j + 1) by omega)
    · subst hd
      refine rJ_as 3 hu ?_
      refine rJ_tabIn (off := 174) (tgt := 207) X dL_law_33 (by decide) (by decide) rfl (by decide) ?_
      refine rJ_aload_n X dL_law_207 rfl rfl ?_
      refine rJ_aload_n X dL_law_208 rfl rfl ?_
      refine rJ_iload_n X dL_law_209 rfl rfl ?_
      refine rJ_iconst (v := 1) X dL_law_210 (by decide) ?_
      refine rJ_iadd X dL_law_211 ?_
      refine rJ_sldK (k := 6 * j + 1) X hX hbl (nI_add (6 * j) 1) ⟨by omega, by omega⟩ dL_law_212 ?_
      refine rJ_aload_n X dL_law_213 rfl rfl ?_
      refine rJ_iload_n X dL_law_214 rfl rfl ?_
      refine rJ_iconst (v := 2) X dL_law_215 (by decide) ?_
      refine rJ_iadd X dL_law_216 ?_
      refine rJ_sldK (k := 6 * j + 2) X hX hbl (nI_add (6 * j) 2) ⟨by omega, by omega⟩ dL_law_217 ?_
      refine rJ_Vi2 X gL_28 (cF_memory hw ht (xs (6 * j + 1)) (xs (6 * j + 2))) (hw.1 _ _ rfl) dL_law_218 (by decide) (Nat.le_of_ble_eq_true rfl) ⟨show 60 + j ≤ 600000 by omega, show 9000 + 5 * j ≤ 7302250 by omega⟩ ?_
      refine rJ_nS (fun S1 e1 => ?_)
      obtain ⟨p2, hj⟩ := lw_mem h (xs (6 * j + 1)) (xs (6 * j + 2)) e1 rfl
      refine rJ_aload_n X dL_law_221 rfl rfl ?_
      refine rJ_aload_n X dL_law_222 rfl rfl ?_
      refine rJ_iload_n X dL_law_223 rfl rfl ?_
      refine rJ_iconst (v := 1) X dL_law_224 (by decide) ?_
      refine rJ_iadd X dL_law_225 ?_
      refine rJ_sldK (k := 6 * j + 1) X hX hbl (nI_add (6 * j) 1) ⟨by omega, by omega⟩ dL_law_226 ?_
      refine rJ_aload_n X dL_law_227 rfl rfl ?_
      refine rJ_iload_n X dL_law_228 rfl rfl ?_
      refine rJ_iconst (v := 2) X dL_law_229 (by decide) ?_
      refine rJ_iadd X dL_law_230 ?_
      refine rJ_sldK (k := 6 * j + 2) X hX hbl (nI_add (6 * j) 2) ⟨by omega, by omega⟩ dL_law_231 ?_
      refine rJ_Vi2 X gL_32 (cM_memory h.om (xs (6 * j + 1)) (xs (6 * j + 2))) (h.om.1 _ _ rfl) dL_law_232 (by decide) (Nat.le_of_ble_eq_true rfl) ⟨show 60 + j ≤ 600000 by omega, show 9000 + 5 * j ≤ 7302250 by omega⟩ ?_
      refine rJ_icmp_eq (tgt := 463) X dL_law_235 (by decide) (fun _ => ?_) (fun e => absurd p2 e)
      exact K463 A Sh _ G _ _ (jE_B hj (by omega)) (by omega) (by omega)
    · subst hd
      refine rJ_as 4 hu ?_
      refine rJ_tabIn (off := 207) (tgt := 240) X dL_law_33 (by decide) (by decide) rfl (by decide) ?_
      refine rJ_aload_n X dL_law_240 rfl rfl ?_
      refine rJ_aload_n X dL_law_241 rfl rfl ?_
      refine rJ_iload_n X dL_law_242 rfl rfl ?_
      refine rJ_iconst (v := 1) X dL_law_243 (by decide) ?_
      refine rJ_iadd X dL_law_244 ?_
      refine rJ_sldK (k := 6 * j + 1) X hX hbl (nI_add (6 * j) 1) ⟨by omega, by omega⟩ dL_law_245 ?_
      refine rJ_aload_n X dL_law_246 rfl rfl ?_
      refine rJ_iload_n X dL_law_247 rfl rfl ?_
      refine rJ_iconst (v := 2) X dL_law_248 (by decide) ?_
      refine rJ_iadd X dL_law_249 ?_
      refine rJ_sldK (k := 6 * j + 2) X hX hbl (nI_add (6 * j) 2) ⟨by omega, by omega⟩ dL_law_250 ?_
      refine rJ_Vi2 X gL_33 (cF_latency hw ht (xs (6 * j + 1)) (xs (6 * j + 2))) (hw.1 _ _ rfl) dL_law_251 (by decide) (Nat.le_of_ble_eq_true rfl) ⟨show 60 + j ≤ 600000 by omega, show 9000 + 5 * j ≤ 7302250 by omega⟩ ?_
      refine rJ_nS (fun S1 e1 => ?_)
      obtain ⟨p2, hj⟩ := lw_lat h (xs (6 * j + 1)) (xs (6 * j + 2)) e1 rfl
      refine rJ_aload_n X dL_law_254 rfl rfl ?_
      refine rJ_aload_n X dL_law_255 rfl rfl ?_
      refine rJ_iload_n X dL_law_256 rfl rfl ?_
      refine rJ_iconst (v := 1) X dL_law_257 (by decide) ?_
      refine rJ_iadd X dL_law_258 ?_
      refine rJ_sldK (k := 6 * j + 1) X hX hbl (nI_add (6 * j) 1) ⟨by omega, by omega⟩ dL_law_259 ?_
      refine rJ_aload_n X dL_law_260 rfl rfl ?_
      refine rJ_iload_n X dL_law_261 rfl rfl ?_
      refine rJ_iconst (v := 2) X dL_law_262 (by decide) ?_
      refine rJ_iadd X dL_law_263 ?_
      refine rJ_sldK (k := 6 * j + 2) X hX hbl (nI_add (6 * j) 2) ⟨by omega, by omega⟩ dL_law_264 ?_
      refine rJ_Vi2 X gL_36 (cM_latency h.om (xs (6 * j + 1)) (xs (6 * j + 2))) (h.om.1 _ _ rfl) dL_law_265 (by decide) (Nat.le_of_ble_eq_true rfl) ⟨show 60 + j ≤ 600000 by omega, show 9000 + 5 * j ≤ 7302250 by omega⟩ ?_
      refine rJ_icmp_eq (tgt := 463) X dL_law_268 (by decide) (fun _ => ?_) (fun e => absurd p2 e)
      exact K463 A Sh _ G _ _ (jE_B hj (by omega)) (by omega) (by omega)
    · subst hd
      refine rJ_as 5 hu ?_
      refine rJ_tabIn (off := 240) (tgt := 273) X dL_law_33 (by decide) (by decide) rfl (by decide) ?_
      refine rJ_aload_n X dL_law_273 rfl rfl ?_
      refine rJ_aload_n X dL_law_274 rfl rfl ?_
      refine rJ_iload_n X dL_law_275 rfl rfl ?_
      refine rJ_iconst (v := 1) X dL_law_276 (by decide) ?_
      refine rJ_iadd X dL_law_277 ?_
      refine rJ_sldK (k := 6 * j + 1) X hX hbl (nI_add (6 * j) 1) ⟨by omega, by omega⟩ dL_law_278 ?_
      refine rJ_Vi1 X gL_37 (cF_run h.ci (xs (6 * j + 1))) (hw.1 _ _ rfl) dL_law_279 (by decide) (Nat.le_of_ble_eq_true rfl) ⟨show 60 + j ≤ 600000 by omega, show 9000 + 5 * j ≤ 7302250 by omega⟩ ?_
      refine rJ_nS (fun S1 e1 => ?_)
      refine rJ_nG (fun G1 e3 => ?_)
      obtain ⟨⟨p3, p4, p5⟩, p2, hj⟩ := lw_run h (by omega) (xs (6 * j + 1)) e1 e3 rfl
      have hom : okM Sh G1 := by obtain ⟨_, _, _, _, _, _, _, _, _, _, hk⟩ := hj; exact hk.om
      refine rJ_aload_n X dL_law_282 rfl rfl ?_
      refine rJ_aload_n X dL_law_283 rfl rfl ?_
      refine rJ_iload_n X dL_law_284 rfl rfl ?_
      refine rJ_iconst (v := 1) X dL_law_285 (by decide) ?_
      refine rJ_iadd X dL_law_286 ?_
      refine rJ_sldK (k := 6 * j + 1) X hX hbl (nI_add (6 * j) 1) ⟨by omega, by omega⟩ dL_law_287 ?_
      refine rJ_Vi1 X gL_41 (cM_run hom (xs (6 * j + 1)) p3 p4 p5) (hom.1 _ _ rfl) dL_law_288 (by decide) (Nat.le_of_ble_eq_true rfl) ⟨show 60 + j ≤ 600000 by omega, show 9000 + 5 * j ≤ 7302250 by omega⟩ ?_
      refine rJ_icmp_eq (tgt := 463) X dL_law_291 (by decide) (fun _ => ?_) (fun e => absurd p2 e)
      exact K463 A Sh _ G1 _ _ (jE_B hj (by omega)) (by omega) (by omega)
    · subst hd
      refine rJ_as 6 hu ?_
      refine rJ_tabIn (off := 263) (tgt := 296) X dL_law_33 (by decide) (by decide) rfl (by decide) ?_
      refine rJ_aload_n X dL_law_296 rfl rfl ?_
      refine rJ_Vi0 X gL_42 (cF_cycle hw) (hw.1 _ _ rfl) dL_law_297 (by decide) (Nat.le_of_ble_eq_true rfl) ⟨show 60 + j ≤ 600000 by omega, show 9000 + 5 * j ≤ 7302250 by omega⟩ ?_
      refine rJ_aload_n X dL_law_300 rfl rfl ?_
      refine rJ_Vi0 X gL_45 (cM_cycle h.om) (h.om.1 _ _ rfl) dL_law_301 (by decide) (Nat.le_of_ble_eq_true rfl) ⟨show 60 + j ≤ 600000 by omega, show 9000 + 5 * j ≤ 7302250 by omega⟩ ?_
      refine rJ_icmp_eq (tgt := 463) X dL_law_304 (by decide) (fun _ => ?_) (fun e => absurd (h.re.nw.1.trans h.re.nw.2.symm) e)
      exact K463 A Sh S G _ _ (jE_B ⟨_, _, _, _, _, _, _, _, _, _, h⟩ (by omega)) (by omega) (by omega)
    · subst hd
      refine rJ_as 7 hu ?_
      refine rJ_tabIn (off := 276) (tgt := 309) X dL_law_33 (by decide) (by decide) rfl (by decide) ?_
      refine rJ_aload_n X dL_law_309 rfl rfl ?_
      refine rJ_Vi0 X gL_46 (cF_ended hw (by rw [h.re.ov]; exact h.ov)) (hw.1 _ _ rfl) dL_law_310 (by decide) (Nat.le_of_ble_eq_true rfl) ⟨show 60 + j ≤ 600000 by omega, show 9000 + 5 * j ≤ 7302250 by omega⟩ ?_
      refine rJ_aload_n X dL_law_313 rfl rfl ?_
      refine rJ_Vi0 X gL_50 (cM_ended h.om h.ov) (h.om.1 _ _ rfl) dL_law_314 (by decide) (Nat.le_of_ble_eq_true rfl) ⟨show 60 + j ≤ 600000 by omega, show 9000 + 5 * j ≤ 7302250 by omega⟩ ?_
      refine rJ_icmp_eq (tgt := 463) X dL_law_317 (by decide) (fun _ => ?_) (fun e => absurd h.re.ov e)
      exact K463 A Sh S G _ _ (jE_B ⟨_, _, _, _, _, _, _, _, _, _, h⟩ (by omega)) (by omega) (by omega)
    · subst hd
      refine rJ_as 8 hu ?_
      refine rJ_tabIn (off := 289) (tgt := 322) X dL_law_33 (by decide) (by decide) rfl (by decide) ?_
      refine rJ_aload_n X dL_law_322 rfl rfl ?_
      refine rJ_Vi0 X gL_51 (cF_commits hw) (hw.1 _ _ rfl) dL_law_323 (by decide) (Nat.le_of_ble_eq_true rfl) ⟨show 60 + j ≤ 600000 by omega, show 9000 + 5 * j ≤ 7302250 by omega⟩ ?_
      refine rJ_aload_n X dL_law_326 rfl rfl ?_
      refine rJ_Vi0 X gL_54 (cM_commits h.om) (h.om.1 _ _ rfl) dL_law_327 (by decide) (Nat.le_of_ble_eq_true rfl) ⟨show 60 + j ≤ 600000 by omega, show 9000 + 5 * j ≤ 7302250 by omega⟩ ?_
      refine rJ_icmp_eq (tgt := 463) X dL_law_330 (by decide) (fun _ => ?_) (fun e => absurd (h.re.lg.1.trans h.re.lg.2.1.symm) e)
      exact K463 A Sh S G _ _ (jE_B ⟨_, _, _, _, _, _, _, _, _, _, h⟩ (by omega)) (by omega) (by omega)
    · subst hd
      refine rJ_as 9 hu ?_
      refine rJ_tabIn (off := 302) (tgt := 335) X dL_law_33 (by decide) (by decide) rfl (by decide) ?_
      refine rJ_aload_n X dL_law_335 rfl rfl ?_
      refine rJ_aload_n X dL_law_336 rfl rfl ?_
      refine rJ_iload_n X dL_law_337 rfl rfl ?_
      refine rJ_iconst (v := 1) X dL_law_338 (by decide) ?_
      refine rJ_iadd X dL_law_339 ?_
      refine rJ_sldK (k := 6 * j + 1) X hX hbl (nI_add (6 * j) 1) ⟨by omega, by omega⟩ dL_law_340 ?_
      refine rJ_aload_n X dL_law_341 rfl rfl ?_
      refine rJ_iload_n X dL_law_342 rfl rfl ?_
      refine rJ_iconst (v := 2) X dL_law_343 (by decide) ?_
      refine rJ_iadd X dL_law_344 ?_
      refine rJ_sldK (k := 6 * j + 2) X hX hbl (nI_add (6 * j) 2) ⟨by omega, by omega⟩ dL_law_345 ?_
      refine rJ_Vi2 X gL_55 (cF_commit hw h.re.lg.2.2.1 (by omega) (xs (6 * j + 1)) (xs (6 * j + 2))) (hw.1 _ _ rfl) dL_law_346 (by decide) (Nat.le_of_ble_eq_true rfl) ⟨show 60 + j ≤ 600000 by omega, show 9000 + 5 * j ≤ 7302250 by omega⟩ ?_
      refine rJ_aload_n X dL_law_349 rfl rfl ?_
      refine rJ_aload_n X dL_law_350 rfl rfl ?_
      refine rJ_iload_n X dL_law_351 rfl rfl ?_
      refine rJ_iconst (v := 1) X dL_law_352 (by decide) ?_
      refine rJ_iadd X dL_law_353 ?_
      refine rJ_sldK (k := 6 * j + 1) X hX hbl (nI_add (6 * j) 1) ⟨by omega, by omega⟩ dL_law_354 ?_
      refine rJ_aload_n X dL_law_355 rfl rfl ?_
      refine rJ_iload_n X dL_law_356 rfl rfl ?_
      refine rJ_iconst (v := 2) X dL_law_357 (by decide) ?_
      refine rJ_iadd X dL_law_358 ?_
      refine rJ_sldK (k := 6 * j + 2) X hX hbl (nI_add (6 * j) 2) ⟨by omega, by omega⟩ dL_law_359 ?_
      refine rJ_Vi2 X gL_59 (cM_commit h.om (xs (6 * j + 1)) (xs (6 * j + 2))) (h.om.1 _ _ rfl) dL_law_360 (by decide) (Nat.le_of_ble_eq_true rfl) ⟨show 60 + j ≤ 600000 by omega, show 9000 + 5 * j ≤ 7302250 by omega⟩ ?_
      refine rJ_icmp_eq (tgt := 463) X dL_law_363 (by decide) (fun _ => ?_) (fun e => absurd (op_commit h (by omega) (xs (6 * j + 1)) (xs (6 * j + 2))) e)
      exact K463 A Sh S G _ _ (jE_B ⟨_, _, _, _, _, _, _, _, _, _, h⟩ (by omega)) (by omega) (by omega)
    · subst hd
      refine rJ_as 10 hu ?_
      refine rJ_tabIn (off := 335) (tgt := 368) X dL_law_33 (by decide) (by decide) rfl (by decide) ?_
      refine rJ_aload_n X dL_law_368 rfl rfl ?_
      refine rJ_aload_n X dL_law_369 rfl rfl ?_
      refine rJ_iload_n X dL_law_370 rfl rfl ?_
      refine rJ_iconst (v := 1) X dL_law_371 (by decide) ?_
      refine rJ_iadd X dL_law_372 ?_
      refine rJ_sldK (k := 6 * j + 1) X hX hbl (nI_add (6 * j) 1) ⟨by omega, by omega⟩ dL_law_373 ?_
      refine rJ_Vi1 X gL_60 (cF_register hw (xs (6 * j + 1))) (hw.1 _ _ rfl) dL_law_374 (by decide) (Nat.le_of_ble_eq_true rfl) ⟨show 60 + j ≤ 600000 by omega, show 9000 + 5 * j ≤ 7302250 by omega⟩ ?_
      refine rJ_aload_n X dL_law_377 rfl rfl ?_
      refine rJ_aload_n X dL_law_378 rfl rfl ?_
      refine rJ_iload_n X dL_law_379 rfl rfl ?_
      refine rJ_iconst (v := 1) X dL_law_380 (by decide) ?_
      refine rJ_iadd X dL_law_381 ?_
      refine rJ_sldK (k := 6 * j + 1) X hX hbl (nI_add (6 * j) 1) ⟨by omega, by omega⟩ dL_law_382 ?_
      refine rJ_Vi1 X gL_63 (cM_register h.om (xs (6 * j + 1))) (h.om.1 _ _ rfl) dL_law_383 (by decide) (Nat.le_of_ble_eq_true rfl) ⟨show 60 + j ≤ 600000 by omega, show 9000 + 5 * j ≤ 7302250 by omega⟩ ?_
      refine rJ_icmp_eq (tgt := 463) X dL_law_386 (by decide) (fun _ => ?_) (fun e => absurd (lw_reg h (xs (6 * j + 1))) e)
      exact K463 A Sh S G _ _ (jE_B ⟨_, _, _, _, _, _, _, _, _, _, h⟩ (by omega)) (by omega) (by omega)
    · subst hd
      refine rJ_as 11 hu ?_
      refine rJ_tabIn (off := 358) (tgt := 391) X dL_law_33 (by decide) (by decide) rfl (by decide) ?_
      refine rJ_aload_n X dL_law_391 rfl rfl ?_
      refine rJ_aload_n X dL_law_392 rfl rfl ?_
      refine rJ_iload_n X dL_law_393 rfl rfl ?_
      refine rJ_iconst (v := 1) X dL_law_394 (by decide) ?_
      refine rJ_iadd X dL_law_395 ?_
      refine rJ_sldK (k := 6 * j + 1) X hX hbl (nI_add (6 * j) 1) ⟨by omega, by omega⟩ dL_law_396 ?_
      refine rJ_Vi1 X gL_64 (cF_place hw (xs (6 * j + 1))) (hw.1 _ _ rfl) dL_law_397 (by decide) (Nat.le_of_ble_eq_true rfl) ⟨show 60 + j ≤ 600000 by omega, show 9000 + 5 * j ≤ 7302250 by omega⟩ ?_
      refine rJ_aload_n X dL_law_400 rfl rfl ?_
      refine rJ_aload_n X dL_law_401 rfl rfl ?_
      refine rJ_iload_n X dL_law_402 rfl rfl ?_
      refine rJ_iconst (v := 1) X dL_law_403 (by decide) ?_
      refine rJ_iadd X dL_law_404 ?_
      refine rJ_sldK (k := 6 * j + 1) X hX hbl (nI_add (6 * j) 1) ⟨by omega, by omega⟩ dL_law_405 ?_
      refine rJ_Vi1 X gL_67 (cM_place h.om (xs (6 * j + 1))) (h.om.1 _ _ rfl) dL_law_406 (by decide) (Nat.le_of_ble_eq_true rfl) ⟨show 60 + j ≤ 600000 by omega, show 9000 + 5 * j ≤ 7302250 by omega⟩ ?_
      refine rJ_icmp_eq (tgt := 463) X dL_law_409 (by decide) (fun _ => ?_) (fun e => absurd (lw_pl h (xs (6 * j + 1))) e)
      exact K463 A Sh S G _ _ (jE_B ⟨_, _, _, _, _, _, _, _, _, _, h⟩ (by omega)) (by omega) (by omega)
    · subst hd
      refine rJ_as 12 hu ?_
      refine rJ_tabIn (off := 381) (tgt := 414) X dL_law_33 (by decide) (by decide) rfl (by decide) ?_
      refine rJ_aload_n X dL_law_414 rfl rfl ?_
      refine rJ_Vi0 X gL_68 (cF_retired hw) (hw.1 _ _ rfl) dL_law_415 (by decide) (Nat.le_of_ble_eq_true rfl) ⟨show 60 + j ≤ 600000 by omega, show 9000 + 5 * j ≤ 7302250 by omega⟩ ?_
      refine rJ_aload_n X dL_law_418 rfl rfl ?_
      refine rJ_Vi0 X gL_71 (cM_retired h.om) (h.om.1 _ _ rfl) dL_law_419 (by decide) (Nat.le_of_ble_eq_true rfl) ⟨show 60 + j ≤ 600000 by omega, show 9000 + 5 * j ≤ 7302250 by omega⟩ ?_
      refine rJ_icmp_eq (tgt := 463) X dL_law_422 (by decide) (fun _ => ?_) (fun e => absurd h.re.go e)
      exact K463 A Sh S G _ _ (jE_B ⟨_, _, _, _, _, _, _, _, _, _, h⟩ (by omega)) (by omega) (by omega)
    · subst hd
      refine rJ_as 13 hu ?_
      refine rJ_tabIn (off := 394) (tgt := 427) X dL_law_33 (by decide) (by decide) rfl (by decide) ?_
      obtain ⟨g, mm, hO, hrest⟩ := lw_faith h (by omega)
      refine rJ_aload_n X dL_law_427 rfl rfl ?_
      refine rJ_callV (As := []) (rm := mR 5) X gL_72 (cF_faithful h.ci hO) (hw.1 _ _ rfl) rfl rfl (Nat.le_of_ble_eq_true rfl) ⟨(Nat.le_of_ble_eq_true rfl), (Nat.le_of_ble_eq_true rfl)⟩ ⟨show 60 + j ≤ 600000 by omega, show 9000 + 5 * j ≤ 7302250 by omega⟩ dL_law_428 ?_
      intro v0 A1 Sh1 S1 G1 hp
      obtain ⟨rfl, rfl, rfl, rfl, hx1⟩ := hp
      obtain ⟨p3, p4, hj⟩ := hrest S1 hx1
      refine rJ_aload_n X dL_law_431 rfl rfl ?_
      refine rJ_callV (As := []) (rm := mR 2) X gL_75 (cM_faithful h.om p3 p4) (h.om.1 _ _ rfl) rfl rfl (Nat.le_of_ble_eq_true rfl) ⟨(Nat.le_of_ble_eq_true rfl), (Nat.le_of_ble_eq_true rfl)⟩ ⟨show 60 + j ≤ 600000 by omega, show 9000 + 5 * j ≤ 7302250 by omega⟩ dL_law_432 ?_
      intro v1 A2 Sh2 S2 G2 hp
      obtain ⟨rfl, rfl, rfl, rfl, hx2⟩ := hp
      refine rJ_icmp_eq (tgt := 463) X dL_law_435 (by decide) (fun _ => ?_) (fun e => absurd rfl e)
      exact K463 A2 Sh2 _ G2 _ _ (jE_B (hj S2 hx2) (by omega)) (show 60 + j + 0 + 0 ≤ 60 + (j + 1) by omega) (show 9000 + 5 * j + 0 + 0 ≤ 9000 + 5 * (j + 1) by omega)
    · subst hd
      refine rJ_as 14 hu ?_
      refine rJ_tabIn (off := 407) (tgt := 440) X dL_law_33 (by decide) (by decide) rfl (by decide) ?_
      refine rJ_aload_n X dL_law_440 rfl rfl ?_
      refine rJ_aload_n X dL_law_441 rfl rfl ?_
      refine rJ_iload_n X dL_law_442 rfl rfl ?_
      refine rJ_iconst (v := 1) X dL_law_443 (by decide) ?_
      refine rJ_iadd X dL_law_444 ?_
      refine rJ_sldK (k := 6 * j + 1) X hX hbl (nI_add (6 * j) 1) ⟨by omega, by omega⟩ dL_law_445 ?_
      refine rJ_Vi1 X gL_76 (cF_told hw (xs (6 * j + 1))) (hw.1 _ _ rfl) dL_law_446 (by decide) (Nat.le_of_ble_eq_true rfl) ⟨show 60 + j ≤ 600000 by omega, show 9000 + 5 * j ≤ 7302250 by omega⟩ ?_
      refine rJ_aload_n X dL_law_449 rfl rfl ?_
      refine rJ_aload_n X dL_law_450 rfl rfl ?_
      refine rJ_iload_n X dL_law_451 rfl rfl ?_
      refine rJ_iconst (v := 1) X dL_law_452 (by decide) ?_
      refine rJ_iadd X dL_law_453 ?_
      refine rJ_sldK (k := 6 * j + 1) X hX hbl (nI_add (6 * j) 1) ⟨by omega, by omega⟩ dL_law_454 ?_
      refine rJ_Vi1 X gL_79 (cM_told h.om (xs (6 * j + 1))) (h.om.1 _ _ rfl) dL_law_455 (by decide) (Nat.le_of_ble_eq_true rfl) ⟨show 60 + j ≤ 600000 by omega, show 9000 + 5 * j ≤ 7302250 by omega⟩ ?_
      refine rJ_icmp_eq (tgt := 463) X dL_law_458 (by decide) (fun _ => ?_) (fun e => absurd (op_told h (xs (6 * j + 1))) e)
      exact K463 A Sh S G _ _ (jE_B ⟨_, _, _, _, _, _, _, _, _, _, h⟩ (by omega)) (by omega) (by omega)
    · subst hd
      refine rJ_as 15 hu ?_
      refine rJ_tabOut (tgt := 463) X dL_law_33 (Or.inr (by decide)) (by decide) ?_
      exact K463 A Sh S G _ _ (jE_B ⟨_, _, _, _, _, _, _, _, _, _, h⟩ (by omega)) (by omega) (by omega)
