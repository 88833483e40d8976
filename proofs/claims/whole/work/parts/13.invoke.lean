/-! THE INVOKING INSTRUCTIONS -/
section AMV
variable {p : Program} {l : Launch} {e : Env} {R : Room} {s : State} {m : MethodId} {args : Array Value} {below : List Frame} {meth : Method} {c : Code} {Q : State → Prop} {E : am_E} {F : am_F} {c0 s0 pc : Nat} {al : am_L} {st : List Value} {M M2 : am_M} {cc : ByteArray} {Ts : List Cond} {own : String}
/-- the instruction at pc, with stk on the stack, invokes y with aL and leaves rest -/
def am_Inv (p : Program) (l : Launch) (e : Env) (R : Room) (s : State) (m : MethodId) (args : Array Value) (below : List Frame) (meth : Method) (c : Code) (E : am_E) (F : am_F) (M : am_M) (pc : Nat) (y : MethodName) (aL rest stk : List Value) : Prop :=
  (∃ ig, decode c.code pc = .ok (ig, 3)) ∧ ∀ (T : State) (H : Heap) (locs : List Loc) (cells slots : Nat) (ls : Array Slot), T.heap = H → am_rel E F s M H → Stand p l e R s m args below meth c T locs cells slots →
    ∃ (vm₁ : Vm) (mk : MethodId), Stand p l e R s m args below meth c (T.setVm vm₁) locs cells slots ∧ s.methodNamed? y = some mk ∧
      ∀ target, (∀ acts, Steps p.tables e below (doInvoke e ((T.setVm vm₁).setTop (F0 m pc ls rest)) acts mk aL.toArray).1 target) → Steps p.tables e below (T.setTop (F0 m pc ls stk)) target
theorem am_invS (hx : p.tables.exec = Jvm.exec) (hb : c.code = cc) (hown : s.vm.findClass own = some m.cls) (hts : ∀ w ∈ Ts, w.before args s = true) {idx : Nat} {y : MethodName} {As rest : List Value} {ycc : ByteArray} {maxL : Nat} {ret : Option FieldType} {hh : List (Nat × Nat × Nat × Nat)}
    (hlink : Cond.methodLink own idx y ∈ Ts) (hstat : Cond.static y ∈ Ts) (hini : Cond.initialized y.cls ∈ Ts) (hcode : am_cw y ycc maxL ret hh ∈ Ts) (hy : y.cls ≠ "java/lang/invoke/MethodHandle" ∧ y.cls ≠ "java/lang/invoke/VarHandle") (hlen : ∀ sig, parseMethodDescriptor y.desc = some sig → As.length = sig.parameters.length) (hd : decode cc pc = .ok (.invokestatic idx, 3)) :
    am_Inv p l e R s m args below meth c E F M pc y As rest (As.reverse ++ rest) := by
  refine ⟨⟨_, by rw [hb]; exact hd⟩, fun T H locs cells slots ls hT hM X => ?_⟩
  obtain ⟨mk, methM, cM, hnamed, hmethM, -, -, -, -, -, -, hsigM⟩ := am_cw_spec (hts _ hcode)
  have hstatic : methM.isStatic = true := Cond.static_spec hnamed hmethM (hts _ hstat)
  obtain ⟨kP, hkP, -⟩ := className_of_methodNamed hnamed
  have hinitP : kP.init = .initialized := Cond.initialized_spec (findClass_of_methodNamed hnamed) hkP (hts _ hini)
  obtain ⟨vm₁, X₁, hstep₁⟩ := X.invokestatic hx hown (hts _ hlink) hnamed hmethM hstatic hkP hinitP hy (g := F0 m pc ls (As.reverse ++ rest)) rfl (argsL := As) (rest := rest) (hlen _ hsigM) rfl (by rw [hb]; exact hd)
  exact ⟨vm₁, mk, X₁, hnamed, hstep₁⟩
theorem am_invV (hx : p.tables.exec = Jvm.exec) (hb : c.code = cc) (hown : s.vm.findClass own = some m.cls) (hts : ∀ w ∈ Ts, w.before args s = true) {idx b : Nat} {y : MethodName} {C : String} {As rest : List Value} {ycc : ByteArray} {maxL : Nat} {ret : Option FieldType} {hh : List (Nat × Nat × Nat × Nat)}
    (hlink : Cond.methodLink own idx y ∈ Ts) (hinst : Cond.instanceMethod y ∈ Ts) (hsel : Cond.selects C y y ∈ Ts) (hcode : am_cw y ycc maxL ret hh ∈ Ts) (hy : y.cls ≠ "java/lang/invoke/MethodHandle" ∧ y.cls ≠ "java/lang/invoke/VarHandle") (hlen : ∀ sig, parseMethodDescriptor y.desc = some sig → As.length = sig.parameters.length)
    (hrecv : ∀ H, am_rel E F s M H → ∃ ce : Cell, H[b]? = some ce ∧ ce.vm.isStatics = false ∧ s.vm.findClass C = some ce.cls) (hd : decode cc pc = .ok (.invokevirtual idx, 3)) :
    am_Inv p l e R s m args below meth c E F M pc y (.ref b :: As) rest (As.reverse ++ .ref b :: rest) := by
  refine ⟨⟨_, by rw [hb]; exact hd⟩, fun T H locs cells slots ls hT hM X => ?_⟩
  obtain ⟨cellB, hcB, hobj, hcls⟩ := hrecv H hM
  obtain ⟨mk, methM, hnamed, hmethM, hstM, habM⟩ := Cond.instanceMethod_spec (hts _ hinst)
  obtain ⟨mk', methM', cM, hnamed', hmethM', -, -, -, -, -, -, hsigM⟩ := am_cw_spec (hts _ hcode)
  cases hnamed.symm.trans hnamed'
  cases hmethM.symm.trans hmethM'
  obtain ⟨c2, r2, m2, q1, q2, q3, q4, kP, hkP, hkPi⟩ := Cond.selects_spec (hts _ hsel)
  cases hcls.symm.trans q1
  cases (State.methodFound?_of_named hnamed hy).symm.trans q2
  cases hnamed.symm.trans q3
  have hselP : selectMethod e.platform s.vm cellB.cls mk = .method mk := by rw [Launch.admits_selectMethod X.admits]; exact q4
  obtain ⟨vm₁, X₁, hstep₁⟩ := X.invokevirtual hx hown (hts _ hlink) hnamed hmethM hstM hkP hkPi hy (a := b) (cell := cellB) (by rw [hT]; exact hcB)
    (fun z h => by rw [h] at hobj; cases hobj) hselP hmethM habM hkP hkPi (g := F0 m pc ls (As.reverse ++ .ref b :: rest)) rfl (argsL := As) (rest := rest) (hlen _ hsigM) rfl (by rw [hb]; exact hd)
  exact ⟨vm₁, mk, X₁, hnamed, hstep₁⟩
theorem am_invU (hx : p.tables.exec = Jvm.exec) (hb : c.code = cc) (hown : s.vm.findClass own = some m.cls) (hts : ∀ w ∈ Ts, w.before args s = true) {idx b : Nat} {x y : MethodName} {C : String} {As rest : List Value} {ycc : ByteArray} {maxL : Nat} {ret : Option FieldType} {hh : List (Nat × Nat × Nat × Nat)}
    (hxy : x.name = y.name ∧ x.desc = y.desc) (hlink : Cond.methodLink own idx x ∈ Ts) (hsame : Cond.sameMethod x.cls y.cls x.name x.desc ∈ Ts) (hinst : Cond.instanceMethod y ∈ Ts) (hsel : Cond.selects C x y ∈ Ts) (hcode : am_cw y ycc maxL ret hh ∈ Ts) (hy : y.cls ≠ "java/lang/invoke/MethodHandle" ∧ y.cls ≠ "java/lang/invoke/VarHandle") (hlen : ∀ sig, parseMethodDescriptor y.desc = some sig → As.length = sig.parameters.length)
    (hrecv : ∀ H, am_rel E F s M H → ∃ ce : Cell, H[b]? = some ce ∧ ce.vm.isStatics = false ∧ s.vm.findClass C = some ce.cls) (hd : decode cc pc = .ok (.invokevirtual idx, 3)) :
    am_Inv p l e R s m args below meth c E F M pc y (.ref b :: As) rest (As.reverse ++ .ref b :: rest) := by
  refine ⟨⟨_, by rw [hb]; exact hd⟩, fun T H locs cells slots ls hT hM X => ?_⟩
  obtain ⟨xc, xn, xd⟩ := x
  obtain ⟨yc, yn, yd⟩ := y
  obtain ⟨e1, e2⟩ := hxy
  dsimp only at e1 e2
  subst e1; subst e2
  obtain ⟨cellB, hcB, hobj, hcls⟩ := hrecv H hM
  obtain ⟨mk, methM, hnamed, hmethM, hstM, habM⟩ := Cond.instanceMethod_spec (hts _ hinst)
  obtain ⟨mk', methM', cM, hnamed', hmethM', -, -, -, -, -, -, hsigM⟩ := am_cw_spec (hts _ hcode)
  cases hnamed.symm.trans hnamed'
  cases hmethM.symm.trans hmethM'
  obtain ⟨cn, ck, r1, hcn, hck, hni, hf, hn1⟩ := Cond.sameMethod_found (hts _ hsame)
  cases hnamed.symm.trans hn1
  obtain ⟨c2, r2, m2, q1, q2, q3, q4, kP, hkP, hkPi⟩ := Cond.selects_spec (hts _ hsel)
  cases hcls.symm.trans q1
  cases hf.symm.trans q2
  cases hnamed.symm.trans q3
  have hselP : selectMethod e.platform s.vm cellB.cls mk = .method mk := by rw [Launch.admits_selectMethod X.admits]; exact q4
  obtain ⟨vm₁, X₁, hstep₁⟩ := X.invokevirtualUp hx hown (hts _ hlink) (hts _ hsame) hy hnamed hmethM hstM (a := b) (cell := cellB) (by rw [hT]; exact hcB)
    (fun z h => by rw [h] at hobj; cases hobj) hselP hmethM habM hkP hkPi (g := F0 m pc ls (As.reverse ++ .ref b :: rest)) rfl (argsL := As) (rest := rest) (hlen _ hsigM) rfl (by rw [hb]; exact hd)
  exact ⟨vm₁, mk, X₁, hnamed, hstep₁⟩
theorem am_invI (hx : p.tables.exec = Jvm.exec) (hb : c.code = cc) (hown : s.vm.findClass own = some m.cls) (hts : ∀ w ∈ Ts, w.before args s = true) {idx b : Nat} {y : MethodName} {As rest : List Value} {ycc : ByteArray} {maxL : Nat}
    (hlink : Cond.methodLink own idx y ∈ Ts ∨ ∃ host, Cond.methodLinkNest own idx y host ∈ Ts) (hinst : Cond.instanceMethod y ∈ Ts) (hcode : am_cw y ycc maxL none [] ∈ Ts) (hy1 : y.name = "<init>") (hy : y.cls ≠ "java/lang/invoke/MethodHandle" ∧ y.cls ≠ "java/lang/invoke/VarHandle") (hlen : ∀ sig, parseMethodDescriptor y.desc = some sig → As.length = sig.parameters.length)
    (hd : decode cc pc = .ok (.invokespecial idx, 3)) : am_Inv p l e R s m args below meth c E F M pc y (.ref b :: As) rest (As.reverse ++ .ref b :: rest) := by
  subst hb
  refine ⟨⟨_, hd⟩, fun T H locs cells slots ls hT hM X => ?_⟩
  have hpl : e.platform.magicAccessors = ({} : Platform).magicAccessors := by rw [X.admits.platform]
  have hcode' : (Cond.code y ycc maxL none).before args s = true := hts _ hcode
  rcases hlink with hlink | ⟨host, hlink⟩
  · obtain ⟨mk, methM, cM, kP, vm₁, hnamed, hmethM, hcodeM, -, hlocalsM, -, hkP, -, hW₁, hstep₁⟩ := Steps.initColdArgs (e := e) X.here hx X.warmed hpl hown hy1 hy (hts _ hlink) (hts _ hinst) hcode' (f := F0 m pc ls (As.reverse ++ .ref b :: rest)) rfl hlen rfl hd
    exact ⟨vm₁, mk, X.noted hW₁, hnamed, hstep₁⟩
  · obtain ⟨mk, methM, cM, kP, vm₁, hnamed, hmethM, hcodeM, -, hlocalsM, -, hkP, -, hW₁, hstep₁⟩ := Steps.initColdArgsNest (e := e) X.here hx X.warmed hpl hown hy1 hy (hts _ hlink) (hts _ hinst) hcode' (f := F0 m pc ls (As.reverse ++ .ref b :: rest)) rfl hlen rfl hd
    exact ⟨vm₁, mk, X.noted hW₁, hnamed, hstep₁⟩
/-- a call that answers -/
theorem am_s_ret {y : MethodName} {aL rest stk : List Value} {d2 : Nat} {v : Option Value} {ycc : ByteArray} {maxL : Nat} {ret : Option FieldType} {hh : List (Nat × Nat × Nat × Nat)} (hK : am_K E F s) (hXs : am_X F s) (hts : ∀ w ∈ Ts, w.before args s = true) (hgood : am_good Ts)
    (hI : am_Inv p l e R s m args below meth c E F M pc y aL rest stk) (hC : am_S l E F Ts d2 y aL M (.inl v) M2) (hcode : am_cw y ycc maxL ret hh ∈ Ts) (hini : Cond.initialized y.cls ∈ Ts) (hmx : maxL ≤ 23) (hfr : d2 + 1 ≤ R.frames) (hlo : 42 * (d2 + 1) ≤ R.locals) (hm1 : M.1 ≤ M2.1) (hm2 : M.2.1 ≤ M2.2.1) (hrc : M2.1 - c0 ≤ R.cells) (hrs : M2.2.1 - s0 ≤ R.slots) (hw : am_w rest ≤ 8)
    (kk : am_G p l e R s m args below meth c Q E F c0 s0 (pc + 3) al (v.toList ++ rest) M2) : am_G p l e R s m args below meth c Q E F c0 s0 pc al stk M := by
  intro H locs ls hM hS hl hn h1 h2 T hT X
  obtain ⟨⟨ig, hd⟩, hI⟩ := hI
  obtain ⟨vm₁, mk, X₁, hnamed, hstep⟩ := hI T H locs _ _ ls hT hM X
  obtain ⟨o, H1, locs1, V, ho, hV, hM2, hS2, X2, hgo⟩ := am_go hT hM hS hl hn h1 h2 hK hXs hts hgood hC hcode hini hmx hfr hlo hm1 hm2 hrc hrs X₁ hnamed hw hd hstep
  have ho : o = .returned v := ho
  subst ho
  obtain ⟨t, a1, b1⟩ := kk H1 locs1 ls hM2 hS2 hl hn (by omega) (by omega) V hV X2
  exact ⟨t, hgo t a1, b1⟩
/-- a call that throws, and a handler here -/
theorem am_s_thr {y : MethodName} {aL rest stk : List Value} {d2 x hpc : Nat} {ycc : ByteArray} {maxL : Nat} {ret : Option FieldType} {hh : List (Nat × Nat × Nat × Nat)} (hK : am_K E F s) (hXs : am_X F s) (hts : ∀ w ∈ Ts, w.before args s = true) (hgood : am_good Ts)
    (hI : am_Inv p l e R s m args below meth c E F M pc y aL rest stk) (hC : am_S l E F Ts d2 y aL M (.inr x) M2) (hcode : am_cw y ycc maxL ret hh ∈ Ts) (hini : Cond.initialized y.cls ∈ Ts) (hmx : maxL ≤ 23) (hfr : d2 + 1 ≤ R.frames) (hlo : 42 * (d2 + 1) ≤ R.locals) (hm1 : M.1 ≤ M2.1) (hm2 : M.2.1 ≤ M2.2.1) (hrc : M2.1 - c0 ≤ R.cells) (hrs : M2.2.1 - s0 ≤ R.slots) (hw : am_w rest ≤ 8)
    (hcatch : ∀ (V : State) (locs1 : List Loc) (ls : Array Slot), am_rel E F s M2 V.heap → Stand p l e R s m args below meth c V locs1 (M2.1 - c0) (M2.2.1 - s0) → ∃ vm', Stand p l e R s m args below meth c (V.setVm vm') locs1 (M2.1 - c0) (M2.2.1 - s0) ∧ ∀ target, Steps p.tables e below ((V.setVm vm').setTop (F0 m hpc ls [.ref x])) target → Steps p.tables e below ((V.setTop (F0 m pc ls rest)).pushFrame (.throwing x)) target)
    (kk : am_G p l e R s m args below meth c Q E F c0 s0 hpc al [.ref x] M2) : am_G p l e R s m args below meth c Q E F c0 s0 pc al stk M := by
  intro H locs ls hM hS hl hn h1 h2 T hT X
  obtain ⟨⟨ig, hd⟩, hI⟩ := hI
  obtain ⟨vm₁, mk, X₁, hnamed, hstep⟩ := hI T H locs _ _ ls hT hM X
  obtain ⟨o, H1, locs1, V, ho, hV, hM2, hS2, X2, hgo⟩ := am_go hT hM hS hl hn h1 h2 hK hXs hts hgood hC hcode hini hmx hfr hlo hm1 hm2 hrc hrs X₁ hnamed hw hd hstep
  have ho : o = .threw x := ho
  subst ho
  obtain ⟨vm', X3, hst⟩ := hcatch V locs1 ls (by rw [hV]; exact hM2) X2
  obtain ⟨t, a1, b1⟩ := kk H1 locs1 ls hM2 hS2 hl hn (by omega) (by omega) (V.setVm vm') hV X3
  exact ⟨t, hgo t (hst t a1), b1⟩
end AMV
