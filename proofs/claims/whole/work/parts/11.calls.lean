/-! CALLS: a contract whose end may be an answer or an exception -/
def am_Met (l : Launch) (y : MethodName) (ws : List Cond) (rm : Room) (Pc : Array Value → State → Prop) (Qc : Array Value → State → Outcome → State → Prop) (mc ms : Nat) (free : Addr → Prop) : Prop :=
  MetFree l y (headSpec ws rm) Pc (fun _ _ _ _ _ => True) (fun a st o t => Qc a st o t ∧ ∃ L, st.WarmedH t.vm ∧ st.sameButNew ({ t with vm := st.vm } : State) L mc ms ∧ ∀ q ∈ L, free q.base)
def am_MQ (below : List Frame) (Qc : Array Value → State → Outcome → State → Prop) (a : Array Value) (s : State) (mc ms : Nat) (free : Addr → Prop) : State → Prop := fun t =>
  ∃ o, t.status = .running ∧ Ended t below o ∧ Qc a s o t ∧ ∃ L, s.WarmedH t.vm ∧ s.sameButNew ({ t with vm := s.vm } : State) L mc ms ∧ ∀ q ∈ L, free q.base
theorem am_MQ.of {below : List Frame} {Qc : Array Value → State → Outcome → State → Prop} {a : Array Value} {s : State} {mc ms : Nat} {free : Addr → Prop} {t : State} (h : MQ below Qc a s mc ms free t) : am_MQ below Qc a s mc ms free t := by
  obtain ⟨o, h1, h2, h3, L, ⟨-, h4, h5⟩, h6⟩ := h
  exact ⟨o, h1, h2, h3, L, h4, h5, h6⟩
theorem am_Wmono {p : Program} {l : Launch} {e : Env} {R : Room} {s : State} {m : MethodId} {args : Array Value} {below : List Frame} {meth : Method} {c : Code} {H : Heap} {locs : List Loc} {cells slots : Nat} {Q Q' : State → Prop} {g : JFrame} (h : ∀ t, Q t → Q' t) (k : W p l e R s m args below meth c H locs cells slots Q g) : W p l e R s m args below meth c H locs cells slots Q' g := by
  intro T hT X
  obtain ⟨t, a, b⟩ := k T hT X
  exact ⟨t, a, h t b⟩
/-- a method's code word, with or without handlers -/
def am_cw (y : MethodName) (cc : ByteArray) (maxL : Nat) (ret : Option FieldType) (hh : List (Nat × Nat × Nat × Nat)) : Cond := if hh = [] then .code y cc maxL ret else .codeWith y cc maxL ret hh
theorem am_cw_spec {y : MethodName} {cc : ByteArray} {maxL : Nat} {ret : Option FieldType} {hh : List (Nat × Nat × Nat × Nat)} {args : Array Value} {s : State} (h : (am_cw y cc maxL ret hh).before args s = true) :
    ∃ m meth c, s.methodNamed? y = some m ∧ s.vm.method? m = some meth ∧ meth.code = some c ∧ c.code = cc ∧ c.maxLocals = maxL ∧ c.exceptionTable.toList.map (fun h => (h.startPc, h.endPc, h.handlerPc, h.catchType)) = hh ∧ meth.sig.returnType = ret ∧ meth.locks = false ∧ parseMethodDescriptor y.desc = some meth.sig := by
  unfold am_cw at h
  split at h
  · rename_i e; subst e
    have h2 : (Cond.codeWith y cc maxL ret []).before args s = true := by
      have := Cond.code_iff_codeWith_nil (x := y) (bytes := cc) (maxLocals := maxL) (ret := ret) (args := args) (first := s) (o := none) (s := s) (idx := [])
      unfold Cond.before Cond.holds at h ⊢
      rw [← this]; exact h
    exact Cond.codeWith_spec h2
  · exact Cond.codeWith_spec h
theorem am_ofW {l : Launch} {y : MethodName} {ws ws' : List Cond} {rm : Room} {Pc : Array Value → State → Prop} {Qc : Array Value → State → Outcome → State → Prop} {mc ms : Nat} {free : Addr → Prop} {cc : ByteArray} {maxL : Nat} {ret : Option FieldType} {hh : List (Nat × Nat × Nat × Nat)}
    (hy : plainFor y = true) (hw : am_cw y cc maxL ret hh ∈ ws)
    (body : ∀ p e s m args below meth c s₁, BodyLoose p l y (headSpec ws rm) cc maxL ret e s m args below meth c s₁ → c.maxLocals = maxL → c.exceptionTable.toList.map (fun h => (h.startPc, h.endPc, h.handlerPc, h.catchType)) = hh → Pc args s →
      W p l e (headSpec ws rm).room s m args below meth c s.heap [] 0 0 (am_MQ below Qc args s mc ms free) (entryFrame m args maxL)) : am_Met l y ws rm Pc Qc mc ms free := by
  refine MetFree.of_bodySF (code := cc) (maxLocals := maxL) (ret := ret) hy ?_ ?_
  · intro args s m h hn
    obtain ⟨m9, meth, c, hn9, h1, h2, h3, h4, -, h5, h6, -⟩ := am_cw_spec (atoms_spec (ws := ws) h _ hw)
    cases hn.symm.trans hn9
    exact ⟨meth, c, h1, h2, h3, h4, h5, h6⟩
  · intro p e s m args below meth c s₁ B hml hP _
    have hh0 : s₁.heap = s.heap := by rw [B.state]; rfl
    obtain ⟨m9, meth9, c9, hn9, h1, h2, h3, h4, h7, -⟩ := am_cw_spec (atoms_spec (ws := ws) B.pre _ hw)
    cases hn9.symm.trans B.named
    cases h1.symm.trans B.method
    cases h2.symm.trans (Stand.of_body B).code
    obtain ⟨t, a1, o, b1, b2, b3⟩ := body p e s m args below meth c s₁ B hml h7 hP s₁ hh0 (Stand.of_body B)
    exact ⟨t, o, a1, b1, b2, b3.1, b3.2⟩
/-- how the walk goes on behind a call -/
def am_then (p : Program) (e : Env) (below : List Frame) (V : State) (g : JFrame) (len : Nat) (from_ : State) : Outcome → Prop
  | .returned v => Steps p.tables e below from_ (V.setTop { g with pc := g.pc + len, stack := v.toList ++ g.stack })
  | .threw x => Steps p.tables e below from_ ((V.setTop g).pushFrame (.throwing x))
theorem am_callB {l : Launch} {R : Room} {p : Program} {e : Env} {below : List Frame} {s : State} {sargs : Array Value} {y : MethodName} {len : Nat} {ws : List Cond} {rm : Room} {Pc : Array Value → State → Prop} {Qc : Array Value → State → Outcome → State → Prop} {mc ms : Nat} {free : Addr → Prop} {cc : ByteArray} {maxL : Nat} {ret : Option FieldType} {hh : List (Nat × Nat × Nat × Nat)}
    {m : MethodId} {meth : Method} {c : Code} {U : State} {Ls : List Loc} {k0 n0 : Nat} {g : JFrame} {ig : Instr} {mk : MethodId} {a : Array Value}
    (hM : am_Met l y ws rm Pc Qc mc ms free) (X : Stand p l e R s m sargs below meth c U Ls k0 n0) (hg : g.method = m) (hsize : g.locals.size = c.maxLocals) (hdg : decode c.code g.pc = .ok (ig, len)) (hWt : 2 * g.monitorRoom + (g.stack.map fun v => v.category).sum ≤ 8) (hn : U.methodNamed? y = some mk)
    (hws : ∀ w ∈ ws, w.before a U = true) (hcode : am_cw y cc maxL ret hh ∈ ws) (hini : (Cond.initialized y.cls).before a U = true) (hfr : rm.frames + 1 ≤ R.frames) (hlo : 8 + (maxL + 11) + rm.locals ≤ R.locals) (hcl : k0 + rm.cells ≤ R.cells) (hsl : n0 + rm.slots ≤ R.slots) (hP : Pc a (U.calling g mk a)) :
    ∃ (o : Outcome) (t V : State) (L : List Loc), Qc a (U.calling g mk a) o t ∧ (∀ q ∈ L, free q.base) ∧ V.heap = t.heap ∧ V.vm = t.vm ∧ Stand p l e R s m sargs below meth c V (Ls ++ L) (k0 + mc) (n0 + ms) ∧ am_then p e below V g len (doInvoke e (U.setTop g) [] mk a).1 o := by
  obtain ⟨m9, methY, cY, hn9, hmY, hcY, -, hlY, -⟩ := am_cw_spec (hws _ hcode)
  cases hn9.symm.trans hn
  obtain ⟨kY, hkY, -⟩ := className_of_methodNamed hn
  have hAt : At U g.method c below := hg ▸ X.here
  have happ : (headSpec ws rm).appliesLoose y e.platform (U.calling g mk a) = true :=
    Spec.appliesLoose_calling hAt hdg hn hkY (Cond.initialized_spec (findClass_of_methodNamed hn) hkY hini) (X.room_calling (R' := rm) hsize hmY hcY hfr (by rw [hlY]; omega) hcl hsl) (atoms_intro hws)
  have hfs : (U.setTop g).frames = .java g :: below := by rw [State.frames_setTop' g hAt.top, X.tail]
  obtain ⟨o, t, hsteps, -, hend, hq, L, hW, hsame, hL⟩ := Steps.callFree hM p X.admits X.cas X.clock (acts := []) (mid := [.java g]) hfs happ hP trivial
  rw [hfs] at hend
  cases o with
  | returned v =>
    obtain ⟨V, XV, -, -, rfl⟩ := X.outOf hg hdg hend hW hsame
    exact ⟨_, _, V, L, hq, hL, rfl, rfl, XV, hsteps⟩
  | threw x =>
    obtain ⟨V, XV, -, -, rfl⟩ := X.outOfThrown hg hend hW hsame
    exact ⟨_, _, V, L, hq, hL, (Stand.throwing_heap V g x).symm, (Stand.throwing_vm V g x).symm, XV, hsteps⟩
