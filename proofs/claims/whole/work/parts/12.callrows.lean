/-! CALLS, AS ROWS -/
def am_rm (d k n : Nat) : Room := { frames := d, cells := k, slots := n, locals := 42 * d }
def am_O (r : Option Value ⊕ Nat) (o : Outcome) : Prop := match r with
  | .inl v => o = .returned v
  | .inr a => o = .threw a
def am_Pc (E : am_E) (F : am_F) (args : List Value) (M : am_M) : Array Value → State → Prop := fun a U => a = args.toArray ∧ am_rel E F U M U.heap ∧ am_K E F U ∧ am_X F U
def am_Qc (E : am_E) (F : am_F) (r : Option Value ⊕ Nat) (M : am_M) : Array Value → State → Outcome → State → Prop := fun _ st o t => am_O r o ∧ am_rel E F t M t.heap ∧ va_F (fun q : Nat => E.2.2 ≤ q) st t
/-- what a call of y, with these arguments and this memory, comes to -/
def am_S (l : Launch) (E : am_E) (F : am_F) (Ts : List Cond) (d : Nat) (y : MethodName) (args : List Value) (M : am_M) (r : Option Value ⊕ Nat) (M2 : am_M) : Prop :=
  am_Met l y Ts (am_rm d (M2.1 - M.1) (M2.2.1 - M.2.1)) (am_Pc E F args M) (am_Qc E F r M2) (M2.1 - M.1) (M2.2.1 - M.2.1) (fun q : Nat => E.2.2 ≤ q)
/-- the tables' words hold at every later state -/
def am_good (Ts : List Cond) : Prop := ∀ w ∈ Ts, ∀ (s U : State) (a a' : Array Value), s.WarmedH U.vm → w.before a s = true → w.before a' U = true
section AMC
variable {p : Program} {l : Launch} {e : Env} {R : Room} {s : State} {m : MethodId} {args : Array Value} {below : List Frame} {meth : Method} {c : Code} {Q : State → Prop} {E : am_E} {F : am_F} {c0 s0 pc : Nat} {al : am_L} {st : List Value} {M M2 : am_M} {cc : ByteArray} {Ts : List Cond} {own : String}
theorem am_w_cat (st : List Value) : (st.map fun v => v.category).sum = am_w st := by
  induction st with
  | nil => rfl
  | cons v t ih =>
    simp only [List.map_cons, List.sum_cons, am_w, ih]
    cases v <;> rfl
/-- behind the invoking instruction: the callee answers -/
theorem am_go {T : State} {H : Heap} {locs : List Loc} {ls : Array Slot} {vm₁ : Vm} {mk : MethodId} {d2 : Nat} {y : MethodName} {aL rest stk : List Value} {r : Option Value ⊕ Nat} {ycc : ByteArray} {maxL : Nat} {ret : Option FieldType} {hh : List (Nat × Nat × Nat × Nat)} {ig : Instr}
    (hT : T.heap = H) (hM : am_rel E F s M H) (hS : va_S (fun q : Nat => E.2.2 ≤ q) s.heap H locs) (hl : lv_has ls al.length (am_lv 0 al)) (hn : c.maxLocals = al.length) (h1 : c0 ≤ M.1) (h2 : s0 ≤ M.2.1) (hK : am_K E F s) (hXs : am_X F s) (hts : ∀ w ∈ Ts, w.before args s = true) (hgood : am_good Ts)
    (hC : am_S l E F Ts d2 y aL M r M2) (hcode : am_cw y ycc maxL ret hh ∈ Ts) (hini : Cond.initialized y.cls ∈ Ts) (hmx : maxL ≤ 23) (hfr : d2 + 1 ≤ R.frames) (hlo : 42 * (d2 + 1) ≤ R.locals) (hm1 : M.1 ≤ M2.1) (hm2 : M.2.1 ≤ M2.2.1) (hrc : M2.1 - c0 ≤ R.cells) (hrs : M2.2.1 - s0 ≤ R.slots)
    (X₁ : Stand p l e R s m args below meth c (T.setVm vm₁) locs (M.1 - c0) (M.2.1 - s0)) (hnamed : s.methodNamed? y = some mk) (hw : am_w rest ≤ 8) (hd : decode c.code pc = .ok (ig, 3))
    (hstep : ∀ target, (∀ acts, Steps p.tables e below (doInvoke e ((T.setVm vm₁).setTop (F0 m pc ls rest)) acts mk aL.toArray).1 target) → Steps p.tables e below (T.setTop (F0 m pc ls stk)) target) :
    ∃ (o : Outcome) (H1 : Heap) (locs1 : List Loc) (V : State), am_O r o ∧ V.heap = H1 ∧ am_rel E F s M2 H1 ∧ va_S (fun q : Nat => E.2.2 ≤ q) s.heap H1 locs1 ∧ Stand p l e R s m args below meth c V locs1 (M2.1 - c0) (M2.2.1 - s0) ∧
      match o with
      | .returned v => ∀ target, Steps p.tables e below (V.setTop (F0 m (pc + 3) ls (v.toList ++ rest))) target → Steps p.tables e below (T.setTop (F0 m pc ls stk)) target
      | .threw x => ∀ target, Steps p.tables e below ((V.setTop (F0 m pc ls rest)).pushFrame (.throwing x)) target → Steps p.tables e below (T.setTop (F0 m pc ls stk)) target := by
  have hal : s.vm.Alike (T.setVm vm₁).vm := X₁.warmed.alike
  have hwords : ∀ w ∈ Ts, w.before aL.toArray (T.setVm vm₁) = true := fun w hw => hgood w hw s _ _ _ X₁.warmed (hts w hw)
  have hXm : am_X F (T.setVm vm₁) := fun z hz => vk_R.warm X₁.warmed (hXs z hz)
  obtain ⟨o, t, V, L, ⟨q1, q2, q3⟩, hL, hVh, hVv, X2, hthen⟩ := am_callB (g := F0 m pc ls rest) (len := 3) (a := aL.toArray) hC X₁ rfl (by rw [hn]; exact hl.1) hd (lv_room (by rw [am_w_cat]; exact hw)) (X₁.named hnamed) hwords hcode (hwords _ hini) hfr (by show 8 + (maxL + 11) + 42 * d2 ≤ _; omega) (by show M.1 - c0 + (M2.1 - M.1) ≤ _; omega) (by show M.2.1 - s0 + (M2.2.1 - M.2.1) ≤ _; omega)
    ⟨rfl, by
      have hr : am_rel E F (T.setVm vm₁) M H := hM.moved hal
      have e1 : ((T.setVm vm₁).calling (F0 m pc ls rest) mk aL.toArray).heap = H := hT
      rw [e1]
      exact hr.moved (Vm.Alike.refl _), va_K.moved (u := T.setVm vm₁) (Vm.Alike.refl _) (va_K.moved hal hK), fun z hz => vk_R.same rfl (hXm z hz)⟩
  have hTh : (T.setVm vm₁).heap = H := hT
  have e1 : ((T.setVm vm₁).calling (F0 m pc ls rest) mk aL.toArray).heap = H := hT
  obtain ⟨q3a, q3b⟩ := q3
  rw [e1] at q3a q3b
  have halt : s.vm.Alike t.vm := by rw [← hVv]; exact X2.warmed.alike
  refine ⟨o, t.heap, locs ++ L, V, q1, hVh, q2.moved halt.symm, ⟨Nat.le_trans hS.1 q3a, fun q w1 w2 => (q3b q (Nat.lt_of_lt_of_le w1 hS.1) w2).trans (hS.2.1 q w1 w2), fun q hq => ?_⟩, ?_, ?_⟩
  · rcases List.mem_append.mp hq with h | h
    · exact hS.2.2 q h
    · exact hL q h
  · have a1 : M.1 - c0 + (M2.1 - M.1) = M2.1 - c0 := by omega
    have a2 : M.2.1 - s0 + (M2.2.1 - M.2.1) = M2.2.1 - s0 := by omega
    rw [a1, a2] at X2
    exact X2
  · cases o with
    | returned v => exact fun target ht => hstep _ fun acts => by rw [doInvoke_state]; exact Steps.trans hthen ht
    | threw x => exact fun target ht => hstep _ fun acts => by rw [doInvoke_state]; exact Steps.trans hthen ht
end AMC
