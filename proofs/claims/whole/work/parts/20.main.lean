section AMR
variable {p : Program} {l : Launch} {e : Env} {R : Room} {s : State} {m : MethodId} {args : Array Value} {below : List Frame} {meth : Method} {c : Code} {E : am_E} {F : am_F} {c0 s0 pc : Nat} {al : am_L} {M : am_M} {cc : ByteArray}
theorem am_s_zret (hx : p.tables.exec = Jvm.exec) (hb : c.code = cc) (hlocks : meth.locks = false) {ty : FieldType} {x : Int32} (hr : meth.sig.returnType = some ty) (hna : narrow ty (.int x) = .int x) (hd : decode cc pc = .ok (.ireturn, 1)) :
    am_G p l e R s m args below meth c (am_MQ below (am_Qc E F (.inl (some (.int x))) M) args s (M.1 - c0) (M.2.1 - s0) (fun q : Nat => E.2.2 ≤ q)) E F c0 s0 pc al [.int x] M :=
  fun H locs ls hM hS hl hn h1 h2 => am_Wmono (fun t h => am_MQ.of h) (W.zret hx hb hr hna (fun t ht hW => ⟨rfl, by rw [ht]; exact hM.moved hW.alike, hS.F ht⟩) hS.2.2 hd hlocks)
theorem am_s_aret (hx : p.tables.exec = Jvm.exec) (hb : c.code = cc) (hlocks : meth.locks = false) {ty : FieldType} {v : Value} (hr : meth.sig.returnType = some ty) (hty : (∃ n, ty = .object n) ∨ ∃ t, ty = .array t) (hv : v = .null ∨ ∃ a, v = .ref a) (hd : decode cc pc = .ok (.areturn, 1)) :
    am_G p l e R s m args below meth c (am_MQ below (am_Qc E F (.inl (some v)) M) args s (M.1 - c0) (M.2.1 - s0) (fun q : Nat => E.2.2 ≤ q)) E F c0 s0 pc al [v] M :=
  fun H locs ls hM hS hl hn h1 h2 => am_Wmono (fun t h => am_MQ.of h) (W.aret hx hb hr hty hv (fun t ht hW => ⟨rfl, by rw [ht]; exact hM.moved hW.alike, hS.F ht⟩) hS.2.2 hd hlocks)
theorem am_s_vret (hx : p.tables.exec = Jvm.exec) (hb : c.code = cc) (hlocks : meth.locks = false) (hr : meth.sig.returnType = none) (hd : decode cc pc = .ok (.return_, 1)) :
    am_G p l e R s m args below meth c (am_MQ below (am_Qc E F (.inl none) M) args s (M.1 - c0) (M.2.1 - s0) (fun q : Nat => E.2.2 ≤ q)) E F c0 s0 pc al [] M :=
  fun H locs ls hM hS hl hn h1 h2 => am_Wmono (fun t h => am_MQ.of h) (W.vret hx hb hr (fun t ht hW => ⟨rfl, by rw [ht]; exact hM.moved hW.alike, hS.F ht⟩) hS.2.2 hd hlocks)
end AMR
/-- what holds while a method of the program runs -/
def am_cx (F : am_F) (E : am_E) (Ts : List Cond) (i : am_I) (p : Program) (e : Env) (s : State) (m : MethodId) (args : Array Value) (meth : Method) (c : Code) : Prop :=
  p.tables.exec = Jvm.exec ∧ c.code = i.2.1 ∧ s.vm.findClass i.1.cls = some m.cls ∧ (∀ w ∈ Ts, w.before args s = true) ∧ am_K E F s ∧ am_X F s ∧ meth.sig.returnType = i.2.2.2.1 ∧ meth.locks = false ∧ meth.name = i.1.name ∧ c.exceptionTable.toList.map (fun h => (h.startPc, h.endPc, h.handlerPc, h.catchType)) = i.2.2.2.2 ∧ e.platform.stackTraces = false
/-- a receiver -/
theorem am_recv {E : am_E} {F : am_F} {s : State} {M : am_M} {a ci : Nat} {C : String} (hK : am_K E F s) (hcn : am_cn F ci C) (h : am_cls M a ci = true) : ∀ H, am_rel E F s M H → ∃ ce : Cell, H[a]? = some ce ∧ ce.vm.isStatics = false ∧ s.vm.findClass C = some ce.cls := by
  intro H hM
  unfold am_cls at h
  split at h
  · rename_i c9 fs hc
    have e9 : c9 = ci := by simpa using h
    subst e9
    rcases hM.2.2.1 a _ hc with ⟨w1, hba, r', hr', hlen, ce, g1, g2, g3, g4⟩ | ⟨w1, w2, -⟩ | ⟨w1, w2, -⟩ | ⟨w1, hba, ⟨ce, g1, g2, g3, -⟩, -⟩
    · rcases hcn with ⟨-, r, hr, rfl⟩ | ⟨w, -⟩
      · cases Option.some.inj (hr'.symm.trans hr)
        exact ⟨ce, g1, by rw [g3]; rfl, by rw [g2]; exact (hK.1 c9 _ hr).2.1⟩
      · omega
    · rcases hcn with ⟨w, -⟩ | ⟨w, -⟩ <;> omega
    · rcases hcn with ⟨w, -⟩ | ⟨w, -⟩ <;> omega
    · rcases hcn with ⟨w, -⟩ | ⟨-, w⟩
      · omega
      · exact ⟨ce, g1, g2, by rw [← w]; exact g3⟩
  · cases h
/-- a run of a method from its first instruction is a contract -/
theorem am_toS {l : Launch} {E : am_E} {F : am_F} {Ts : List Cond} {d : Nat} {i : am_I} {aL : List Value} {M M2 : am_M} {r : Option Value ⊕ Nat} (htr : ∀ e, l.admits e → e.platform.stackTraces = false) (hpl : plainFor i.1 = true) (hcw : am_cw i.1 i.2.1 i.2.2.1 i.2.2.2.1 i.2.2.2.2 ∈ Ts) (hone : am_w aL = aL.length) (hle : aL.length ≤ i.2.2.1)
    (h : ∀ (p : Program) (e : Env) (s : State) (m : MethodId) (below : List Frame) (meth : Method) (c : Code), am_cx F E Ts i p e s m aL.toArray meth c → am_G p l e (am_rm d (M2.1 - M.1) (M2.2.1 - M.2.1)) s m aL.toArray below meth c (am_MQ below (am_Qc E F r M2) aL.toArray s (M2.1 - M.1) (M2.2.1 - M.2.1) (fun q : Nat => E.2.2 ≤ q)) E F M.1 M.2.1 0 (am_ent aL i.2.2.1) [] M) :
    am_S l E F Ts d i.1 aL M r M2 := by
  refine am_ofW (ws' := Ts) hpl hcw fun p e s m args below meth c s₁ B hml hex hP => ?_
  obtain ⟨rfl, hrel, hK, hX⟩ := hP
  have hc1 := am_w_one hone
  have hg := h p e s m below meth c ⟨B.exec, B.bytes, findClass_of_methodNamed B.named, atoms_spec B.pre, hK, hX, B.returns, B.notSynchronized, (name_of_methodNamed B.named B.method).1, hex, htr e B.admits⟩
  rw [lg_entry_eq]
  have hlen := am_ent_length aL i.2.2.1 hle
  have := hg s.heap [] _ hrel va_S.rf (by rw [hlen]; exact am_entry hc1 hle) (by rw [hlen]; exact hml) (Nat.le_refl _) (Nat.le_refl _)
  rw [Nat.sub_self, Nat.sub_self] at this
  exact this
