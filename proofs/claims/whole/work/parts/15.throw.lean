/-! throw new E(): out of the method -/
theorem am_isRef {args : Array Value} {U : State} {C n d : String} {v : Value} {b : Nat} (h : am_Zx C n d v b U U.heap) (hv : v.isRef = true) : (Cond.isRef (.static C n d)).before args U = true := by
  obtain ⟨cf, kf, fi, f, a, ce, -, g1, g2, g3, g4, g5, g6, -, -, -, g7, -⟩ := h
  have e : (Term.static C n d).eval args U none [] U = some v := by
    simp [Term.eval, State.fieldNamed?, g1, g2, g4, g5, g6, g7]
  simp only [Cond.before, Cond.holds, Cond.value, e]
  cases v <;> simp_all [Value.isRef]
theorem am_laysS {args : Array Value} {U : State} {C n d : String} {v : Value} {b : Nat} (h : am_Zx C n d v b U U.heap) : (Cond.laysStatic C n d).before args U = true := by
  obtain ⟨cf, kf, fi, f, a, ce, g0, g1, g2, g3, g4, g5, g6, g7, g8, g9, g10, -⟩ := h
  simp [Cond.before, Cond.holds, Cond.value, g0, g1, g2, g4, g5, g6, g7, g8, g9]
section AMT
variable {p : Program} {l : Launch} {e : Env} {R : Room} {s : State} {m : MethodId} {args : Array Value} {below : List Frame} {meth : Method} {c : Code} {E : am_E} {F : am_F} {c0 s0 pc : Nat} {al : am_L} {st : List Value} {M : am_M} {cc : ByteArray} {Ts : List Cond} {own : String}
/-- from a walk that has made and written nothing yet -/
theorem am_throwW (hx : p.tables.exec = Jvm.exec) (hb : c.code = cc) (hown : s.vm.findClass own = some m.cls) (hts : ∀ w ∈ Ts, w.before args s = true) (htr : e.platform.stackTraces = false) (hlocks : meth.locks = false) {idx ic : Nat} {cls : String} {names : List String} {H : Heap} {ls : Array Slot}
    (hw1 : Cond.classLink own idx cls ∈ Ts) (hw2 : Cond.instantiable cls 6 ∈ Ts) (hw3 : Cond.initialized cls ∈ Ts) (hcls : Bundle.fit cls = true) (hnames : ∀ n ∈ names, Bundle.fit n = true) (hat : ∀ w ∈ Bundle.ownAtoms0 own ic cls names, w.before args s = true)
    (hd0 : decode cc pc = .ok (.new idx, 3)) (hd3 : decode cc (pc + 3) = .ok (.dup, 1)) (hd4 : decode cc (pc + 4) = .ok (.invokespecial ic, 3)) (hd7 : decode cc (pc + 7) = .ok (.athrow, 1)) (hout : c.exceptionTable.toList = [])
    (hsz : s.heap.size = H.size) (hls : ls.size = c.maxLocals) (hrc : 1 ≤ R.cells) (hrs : 6 ≤ R.slots) (hfr : names.length + 3 < R.frames) (hlo : am_w st + 1 + (13 * (names.length + 1) + 41) ≤ R.locals) :
    W p l e R s m args below meth c H [] 0 0 (fun U => U.status = .running ∧ Ended U below (.threw H.size) ∧ s.WarmedH U.vm ∧ s.sameButNew ({ U with vm := s.vm } : State) [] 1 6 ∧ ∃ ce : Cell, U.heap[H.size]? = some ce ∧ ce.vm = .none ∧ s.vm.findClass cls = some ce.cls) (F0 m pc ls st) := by
  refine W.newc hx hb hown (hts _ hw1) (hts _ hw2) (hts _ hw3) rfl hd0 (by omega) (by omega) fun cC kC f1 f2 f3 f4 => ?_
  refine lv_dup hx hb hd3 rfl ?_
  intro T1 hT1 X1
  obtain ⟨U, u1, u2, u3, u4, u5, ce, u6, u7⟩ := X1.ctorThrow0 hx htr (own := own) (cls := cls) (names := names) (ic := ic) hown hcls hnames hat (fun x hx => by cases hx) (a := H.size) (cX := cC) (kX := kC) f1 f2 (by rw [hT1, Array.getElem?_push_size]) (by omega) (g := F0 m (pc + 4) ls (.ref H.size :: .ref H.size :: st)) rfl hls rfl rfl (rest := st) rfl (by rw [hb]; exact hd4) (by rw [hb]; exact hd7) (fun x hx => by rw [hout] at hx; cases hx)
    hfr (by
      show 2 * 0 + ((Value.ref H.size :: st).map fun v => v.category).sum + _ ≤ R.locals
      rw [am_w_cat]
      show 2 * 0 + (1 + am_w st) + _ ≤ _
      omega) hlocks
  exact ⟨U, u1, u2, u3, u4, u5, ce, u6, u7.vm, u7.cls⟩
theorem am_s_throw (hx : p.tables.exec = Jvm.exec) (hb : c.code = cc) (hown : s.vm.findClass own = some m.cls) (hts : ∀ w ∈ Ts, w.before args s = true) (hgood : am_good Ts) (htr : e.platform.stackTraces = false) (hlocks : meth.locks = false) {idx ic ci : Nat} {cls : String} {names : List String} (hcn : F.2.2.1 (ci - 20) = cls) (hci : 20 ≤ ci) (hci2 : ci < 30)
    (hw1 : Cond.classLink own idx cls ∈ Ts) (hw2 : Cond.instantiable cls 6 ∈ Ts) (hw3 : Cond.initialized cls ∈ Ts) (hcls : Bundle.fit cls = true) (hnames : ∀ n ∈ names, Bundle.fit n = true)
    (hat : ∀ w ∈ Bundle.ownAtoms0 own ic cls names, w ∈ Ts ∨ ∃ z ∈ F.2.2.2.2.1, (w = .isRef (.static z.1 z.2.1 z.2.2.1) ∧ z.2.2.2.isRef = true) ∨ w = .laysStatic z.1 z.2.1 z.2.2.1)
    (hd0 : decode cc pc = .ok (.new idx, 3)) (hd3 : decode cc (pc + 3) = .ok (.dup, 1)) (hd4 : decode cc (pc + 4) = .ok (.invokespecial ic, 3)) (hd7 : decode cc (pc + 7) = .ok (.athrow, 1)) (hout : c.exceptionTable.toList = [])
    (hrc : M.1 + 1 - c0 ≤ R.cells) (hrs : M.2.1 + 6 - s0 ≤ R.slots) (hfr : names.length + 3 < R.frames) (hlo : am_w st + 1 + (13 * (names.length + 1) + 41) ≤ R.locals) :
    am_G p l e R s m args below meth c (am_MQ below (am_Qc E F (.inr M.1) (am_push M 6 (.inr (ci + 10, [])))) args s (M.1 + 1 - c0) (M.2.1 + 6 - s0) (fun q : Nat => E.2.2 ≤ q)) E F c0 s0 pc al st M := by
  intro H locs ls hM hS hl hn h1 h2 T hT X
  have X' := am_rebase X (by omega) (by omega)
  have hbw : ∀ w ∈ Ts, w.before args (am_base s T) = true := fun w hw => hgood w hw s (am_base s T) _ _ (State.WarmedH.refl s) (hts w hw)
  have hrelT : am_rel E F s M T.heap := by rw [hT]; exact hM
  have key := am_throwW (R := { R with cells := R.cells - (M.1 - c0), slots := R.slots - (M.2.1 - s0) }) (s := am_base s T) (l := l) (e := e) (below := below) (meth := meth) (Ts := Ts) (own := own) (st := st) (H := T.heap) (ls := ls) hx hb hown hbw htr hlocks hw1 hw2 hw3 hcls hnames
    (fun w hw => by
      rcases hat w hw with h | ⟨z, hz, ⟨rfl, hz2⟩ | rfl⟩
      · exact hbw _ h
      · exact am_isRef (U := am_base s T) (hrelT.2.2.2 z hz) hz2
      · exact am_laysS (U := am_base s T) (hrelT.2.2.2 z hz))
    hd0 hd3 hd4 hd7 hout rfl (by rw [hn]; exact hl.1) (by show 1 ≤ R.cells - (M.1 - c0); omega) (by show 6 ≤ R.slots - (M.2.1 - s0); omega) hfr hlo
  obtain ⟨U, a1, u2, u3, u4, u5, ce, u6, u7, u8⟩ := key T rfl X'
  have hold : ∀ q : Nat, q < T.heap.size → U.heap[q]? = T.heap[q]? := by
    intro q hq
    obtain ⟨c9, hc9⟩ : ∃ c9, T.heap[q]? = some c9 := ⟨_, Array.getElem?_eq_getElem hq⟩
    obtain ⟨c8, g1, g2, g3, g4⟩ := u5.2.2.2.2.2 q c9 hc9
    have g1 : U.heap[q]? = some c8 := g1
    rw [g1, hc9, g2]
    have : c8.slots = c9.slots := by
      apply Array.ext_getElem?
      intro i
      exact g4 i (by simp)
    rw [this]
  have hsz : U.heap.size = T.heap.size + 1 := by
    have w1 := u5.2.2.1
    have w2 : T.heap.size < U.heap.size := (Array.getElem?_eq_some_iff.mp u6).1
    have w1 : U.heap.size ≤ T.heap.size + 1 := w1
    omega
  have hTs : T.heap.size = M.1 := by rw [hT]; exact hM.1
  have hrelU : am_rel E F s (am_push M 6 (.inr (ci + 10, []))) U.heap := by
    refine ⟨by rw [hsz, hTs]; rfl, by show E.2.2 ≤ M.1 + 1; have := hM.2.1; omega, fun q e2 hq => ?_, fun z hz => (hrelT.2.2.2 z hz).kept (fun q hq _ => hold q hq)⟩
    by_cases hqm : q = M.1
    · subst hqm
      have : some (.inr (ci + 10, [])) = some e2 := by simpa [am_push] using hq
      cases this
      refine .inr (.inr (.inl ⟨by omega, by omega, hM.2.1, ce, by rw [← hTs]; exact u6, u7, ?_⟩))
      rw [show ci + 10 - 30 = ci - 20 by omega, hcn]
      exact u8
    · have hq' : M.2.2 q = some e2 := by simpa [am_push, hqm] using hq
      exact (hrelT.2.2.1 q e2 hq').kept (hold q (hrelT.2.2.1 q e2 hq').lt)
  refine ⟨U, a1, .threw T.heap.size, u2, u3, ⟨by show Outcome.threw _ = _; rw [hTs], hrelU.moved u4.alike, ⟨by rw [hsz]; have := hS.1; rw [← hT] at this; omega, fun q w1 w2 => ?_⟩⟩, locs, u4, ?_, hS.2.2⟩
  · have := hS.1
    rw [← hT] at this
    rw [hold q (by omega)]
    have w3 := hS.2.1 q w1 w2
    rw [← hT] at w3
    exact w3
  · have h9 := am_base_same X.cur X.same u5
    have a2 : M.1 - c0 + 1 = M.1 + 1 - c0 := by omega
    have a3 : M.2.1 - s0 + 6 = M.2.1 + 6 - s0 := by omega
    rw [a2, a3] at h9
    exact h9
end AMT
