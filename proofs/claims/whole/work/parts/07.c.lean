/-! methods of classes some of whose methods are run by entries (java/lang/Math): by the method's name -/
theorem Met_ofWF {l : Launch} {y : MethodName} {ws ws' : List Cond} {rm : Room} {Pc : Array Value → State → Prop} {Qc : Array Value → State → Outcome → State → Prop} {mc ms : Nat} {free : Addr → Prop} {cc : ByteArray} {maxL : Nat} {ret : Option FieldType}
    (hy : plainFor y = true) (hw : ws = Cond.code y cc maxL ret :: ws')
    (body : ∀ p e s m args below meth c s₁, BodyLoose p l y (headSpec ws rm) cc maxL ret e s m args below meth c s₁ → c.maxLocals = maxL → Pc args s →
      W p l e (headSpec ws rm).room s m args below meth c s.heap [] 0 0 (MQ below Qc args s mc ms free) (entryFrame m args maxL)) : Met l y ws rm Pc Qc mc ms free := by
  refine MetFree.of_bodySF (code := cc) (maxLocals := maxL) (ret := ret) hy ?_ ?_
  · intro args s m h hn
    obtain ⟨meth, c, h1, h2, h3, h4, h5, h6, -, -⟩ := Cond.code_spec hn (atoms_spec (ws := ws) h _ (by rw [hw]; exact List.mem_cons_self))
    exact ⟨meth, c, h1, h2, h3, h4, h5, h6⟩
  · intro p e s m args below meth c s₁ B hml hP _
    have hh0 : s₁.heap = s.heap := by rw [B.state]; rfl
    obtain ⟨t, a1, o, b1, b2, b3⟩ := body p e s m args below meth c s₁ B hml hP s₁ hh0 (Stand.of_body B)
    exact ⟨t, o, a1, b1, b2, ⟨b3.1, b3.2⟩⟩
theorem rMet_ozF {l : Launch} {D : va_G} {b : Nat} {A : Nat → Nat} {Sh : mS} {S : mI} {G : mP} {y : MethodName} {bytes : ByteArray} {maxL : Nat} {ret : Option FieldType} {rm : Room} {av : List Value} {post : rP} (own : String) (hown : y.cls = own) (hy : plainFor y = true) (hav : (lg_sl av).length ≤ maxL)
    (body : ∀ p e s m args below meth c Z, Z = MQ below (mPost D vwCl mty b (rPost post)) args s rm.cells rm.slots (fun q => b ≤ q) → mX p s m meth c args bytes maxL own ret TT (NN b D) D vwCl b → meth.name = y.name → rJ p l e rm s m args below meth c D vwCl mty b maxL Z 0 0 A Sh S G (lv_args 0 av) 0 []) : rMet l D b y bytes maxL ret rm A Sh S G av post := by
  intro T I P h
  refine Met_ofWF (cc := bytes) (maxL := maxL) (ret := ret) hy rfl ?_
  intro p e s m args below meth c s₁ B hml hv
  obtain ⟨rfl, hb, hK, hW, hNs⟩ := hv
  have hts := atoms_spec (ws := .code y bytes maxL ret :: TT) B.pre
  have ho : s.vm.findClass own = some m.cls := by rw [← hown]; exact findClass_of_methodNamed B.named
  rw [lg_entry_eq]
  exact body p e s m _ below meth c _ rfl ⟨B.exec, B.bytes, hml, ho, fun w hw => hts w (List.mem_cons_of_mem _ hw), hK, hb, B.returns, B.notSynchronized, hNs, TT_good, NN_w b D⟩ (name_of_methodNamed B.named B.method).1 T I P h s.heap [] _ hW va_S.rf (lv_entry av hav)
