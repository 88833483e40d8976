/-! TWO DIMENSIONS: wants the whole library (Jvm.Free.Multi) -/
theorem am_outer (c : ClassId) (N h0 : Nat) : ∀ i : Nat, Jvm.Free.Multi.outerC c N h0 i = arrV c N (fun j => va_rf (if j < i then some (h0 + 1 + j) else none))
  | 0 => by
    show ({ cls := c, slots := Array.replicate N .null, vm := .none } : Cell) = _
    rw [arrV_new]
    exact congrArg (arrV c N) (funext fun j => by simp [va_rf])
  | i + 1 => by
    show (Jvm.Free.Multi.outerC c N h0 i).setSlot i (.ref (h0 + 1 + i)) = _
    rw [am_outer c N h0 i, arrV_store]
    refine congrArg (arrV c N) (funext fun j => ?_)
    by_cases e : j = i
    · subst e; simp [updV, va_rf]
    · by_cases h : j < i
      · simp [updV, e, h, Nat.lt_succ_of_lt h]
      · simp [updV, e, h, show ¬ j < i + 1 by omega]
section AMX
variable {p : Program} {l : Launch} {e : Env} {R : Room} {s : State} {m : MethodId} {args : Array Value} {below : List Frame} {meth : Method} {c : Code} {Q : State → Prop} {E : am_E} {F : am_F} {c0 s0 pc : Nat} {al : am_L} {st : List Value} {M : am_M} {cc : ByteArray} {Ts : List Cond} {own : String}
theorem am_s_mna (hx : p.tables.exec = Jvm.exec) (hb : c.code = cc) (hown : s.vm.findClass own = some m.cls) (hts : ∀ w ∈ Ts, w.before args s = true) (hK : am_K E F s) {idx x y : Nat} (hx1 : x < 1000) (hy1 : y < 1000) (hw1 : Cond.classLink own idx "[[I" ∈ Ts) (hw2 : Cond.arrayOver (.array .int) ∈ Ts) (hw3 : Cond.arrayClass .int ∈ Ts) (hd : decode cc pc = .ok (.multianewarray idx 2, 4))
    (hrc : (am_mna M x y).1 - c0 ≤ R.cells) (hrs : (am_mna M x y).2.1 - s0 ≤ R.slots)
    (kk : am_G p l e R s m args below meth c Q E F c0 s0 (pc + 4) al (.ref M.1 :: st) (am_mna M x y)) : am_G p l e R s m args below meth c Q E F c0 s0 pc al (.int (nI y) :: .int (nI x) :: st) M := by
  intro H locs ls hM hS hl hn h1 h2
  have hrc : M.1 + 1 + x - c0 ≤ R.cells := hrc
  have hrs : M.2.1 + x + x * y - s0 ≤ R.slots := hrs
  have ex : (nI x).toNatClampNeg = x := nI_clamp (by omega)
  have ey : (nI y).toNatClampNeg = y := nI_clamp (by omega)
  intro T hT Xs
  obtain ⟨vm₁, cA, comp, -, fA, fC, hO, -, X', step⟩ := Xs.multianewarray2F hx hown (ty := .int) (by exact hts _ hw1) (hts _ hw2) (hts _ hw3) (g := F0 m pc ls (.int (nI y) :: .int (nI x) :: st)) rfl (by rw [hb]; exact hd) rfl (nI_pos (by omega)) (nI_pos (by omega)) (by rw [ex]; omega) (by rw [ey]; show y * 4 ≤ _; omega) (by rw [ey]; omega) (by decide) (by decide) (by rw [ex]; omega) (by rw [ex, ey]; omega)
  rw [ex, ey] at X' step
  have h0 : (am_tys E.2.1)[1]? = some (E.2.1 1, am_ty 1) := by simp [am_tys]
  have h5 : (am_tys E.2.1)[5]? = some (E.2.1 5, am_ty 5) := by simp [am_tys]
  have hc1 : comp = E.2.1 1 := Option.some.inj (fC.symm.trans (hK.2 1 _ h0).2)
  have hc5 : cA = E.2.1 5 := Option.some.inj (fA.symm.trans (hK.2 5 _ h5).2)
  subst hc1; subst hc5
  generalize hF : Jvm.Free.Multi.fill (T.setVm vm₁) (E.2.1 5) (E.2.1 1) x y (defaultValue .int) x = G at X' step
  have hTh : (T.setVm vm₁).heap = H := hT
  obtain ⟨f1, f2, -, -⟩ := Jvm.Free.Multi.fill_facts (T.setVm vm₁) (E.2.1 5) (E.2.1 1) x y (defaultValue .int) x
  rw [hF, hTh] at f1 f2
  have hold : ∀ z : Nat, z < H.size → G.heap[z]? = H[z]? := fun z hz => by
    have := Jvm.Free.Multi.fill_old (T.setVm vm₁) (E.2.1 5) (E.2.1 1) x y (defaultValue .int) (a := z) (by rw [hTh]; exact hz) x
    rw [hF, hTh] at this
    exact this
  have hrow : ∀ j : Nat, j < x → G.heap[H.size + 1 + j]? = some (arrV (E.2.1 1) y (fun _ => .int 0)) := fun j hj => by
    have := Jvm.Free.Multi.fill_inner (T.setVm vm₁) (E.2.1 5) (E.2.1 1) x y (defaultValue .int) x j hj
    rw [hF, hTh] at this
    rw [this]
    exact congrArg some (arrV_new _ _ _)
  rw [am_outer] at f2
  have key : am_rel E F s (am_mna M x y) G.heap := by
    refine ⟨?_, ?_, fun q e2 hq => ?_, fun z hz => (hM.2.2.2 z hz).kept (fun q hq _ => hold q hq)⟩
    · rw [f1, hM.1]; show _ = M.1 + 1 + x; omega
    · show E.2.2 ≤ M.1 + 1 + x; have := hM.2.1; omega
    · have hq' : (if q = M.1 then some (.inl (5, x, .inr (.inr (.inr (.inr (fun i => if i < x then some (M.1 + 1 + i) else none)))))) else if M.1 < q ∧ q ≤ M.1 + x then some (.inl (1, y, .inl (fun _ => 0))) else M.2.2 q : Option va_E) = some e2 := hq
      by_cases hq1 : q = M.1
      · rw [if_pos hq1] at hq'
        cases Option.some.inj hq'
        subst hq1
        refine .inl ⟨by decide, hM.2.1, ?_, .inr rfl⟩
        rw [← hM.1, f2, vp_cell_q]
      · rw [if_neg hq1] at hq'
        by_cases hq2 : M.1 < q ∧ q ≤ M.1 + x
        · rw [if_pos hq2] at hq'
          cases Option.some.inj hq'
          refine .inl ⟨by decide, by have := hM.2.1; omega, ?_, by decide, fun j _ => rfl⟩
          have hh := hrow (q - M.1 - 1) (by omega)
          rw [hM.1, show M.1 + 1 + (q - M.1 - 1) = q by omega] at hh
          rw [hh]; rfl
        · rw [if_neg hq2] at hq'
          have hl2 := (hM.2.2.1 q e2 hq').lt
          exact (hM.2.2.1 q e2 hq').kept (hold q hl2)
  have hS2 : va_S (fun q : Nat => E.2.2 ≤ q) s.heap G.heap locs := ⟨Nat.le_trans hS.1 (by rw [f1]; omega), fun q w1 w2 => (hold q (Nat.lt_of_lt_of_le w1 hS.1)).trans (hS.2.1 q w1 w2), hS.2.2⟩
  have hk := kk G.heap locs ls key hS2 hl hn (by show c0 ≤ M.1 + 1 + x; omega) (by show s0 ≤ M.2.1 + x + x * y; omega)
  have e1 : (am_mna M x y).1 - c0 = M.1 - c0 + 1 + x := by show M.1 + 1 + x - c0 = _; omega
  have e2 : (am_mna M x y).2.1 - s0 = M.2.1 - s0 + x + x * y := by show M.2.1 + x + x * y - s0 = _; omega
  rw [e1, e2] at hk
  obtain ⟨t, a1, b1⟩ := hk G rfl X'
  rw [← hM.1, ← hT] at a1
  exact ⟨t, step t a1, b1⟩
end AMX
