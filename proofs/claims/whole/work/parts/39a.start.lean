/-! THE START: what the Statement gives of it -/
theorem am_fitsA {s : State} (hf : heapFits s = true) {a j : Nat} {ce : Cell} {v : Value} {t : FieldType} (hc : s.heap[a]? = some ce) (hv : ce.slots[j]? = some v) (ha : s.isArrayOf ce t) : fits t v = true := by
  obtain ⟨hal, rfl⟩ := Array.getElem?_eq_some_iff.mp hc
  have h1 := (Array.all_eq_true_iff_forall_mem.mp hf) _ (Array.getElem_mem hal)
  have hj : j < (s.heap[a]).slots.size := (Array.getElem?_eq_some_iff.mp hv).1
  have h2 := (List.all_eq_true.mp h1) j (List.mem_range.mpr hj)
  simp only [hv] at h2
  obtain ⟨q1, k, q2, comp, q3⟩ := ha
  unfold State.fitsSlot State.slotType? at h2
  simp only [q2, Option.bind_eq_bind, Option.bind_some] at h2
  cases hvm : (s.heap[a]).vm <;> simp_all
theorem am_isRefOf {args : Array Value} {s : State} {t : Term} (h : (Cond.isRef t).before args s = true) : ∃ v : Value, t.eval args s none [] s = some v ∧ v.isRef = true := by
  cases ht : t.eval args s none [] s with
  | none => simp [Cond.before, Cond.holds, Cond.value, ht] at h
  | some w =>
    simp only [Cond.before, Cond.holds, Cond.value, ht] at h
    refine ⟨w, rfl, ?_⟩
    cases w <;> simp_all [Value.isRef]
theorem am_Zof {args : Array Value} {s : State} {C n d : String} {v : Value} (hl : (Cond.laysStatic C n d).before args s = true) (hini : (Cond.initialized C).before args s = true) (hv : (Term.static C n d).eval args s none [] s = some v) : am_Zx C n d v s.heap.size s s.heap := by
  obtain ⟨cf, kf, fi, f, a, ce, g1, g2, g3, g4, g5, g6, g7, -⟩ := va_Zof (A := fun _ => False) hl hini hv (fun _ _ h => h)
  obtain ⟨c, k, i, f2, a2, ce2, hc, hi, hst, ha, hcell, hs, hcls, hlt, hty⟩ := Cond.laysStatic_spec hl
  cases Option.some.inj (g1.symm.trans hi)
  cases Option.some.inj (g4.symm.trans ha)
  cases Option.some.inj (g5.symm.trans hcell)
  exact ⟨cf, kf, fi, f, a, ce, hc, g1, g2, g3, g4, g5, g6, hcls, hlt, hty, g7, (Array.getElem?_eq_some_iff.mp g5).1⟩
theorem am_findName {vm : Vm} {n : String} {c : ClassId} {k : Class} (h : vm.findClass n = some c) (hk : vm.classes[c]? = some k) : k.name = n := by
  unfold Vm.findClass at h
  obtain ⟨h1, h2, -⟩ := Array.findIdx?_eq_some_iff_getElem.mp h
  have e : vm.classes[c] = k := (Array.getElem?_eq_some_iff.mp hk).2
  rw [e] at h2
  simp only [Bool.and_eq_true, beq_iff_eq] at h2
  exact h2.1.1.1
theorem am_findNe {vm : Vm} {n n' : String} {c : ClassId} (h : vm.findClass n = some c) (h' : vm.findClass n' = some c) : n = n' := by
  obtain ⟨k, hk⟩ := Vm.classAt_of_findClass h
  exact (am_findName h hk).symm.trans (am_findName h' hk)
/-- the entries of the ground -/
def am_eT (gk : Nat → Nat) (t : Nat) : va_E := .inr (100, [.ref (gk (am_tln t).2.1), .ref (gk (am_tln t).2.2.1), .ref (gk (am_tln t).2.2.2.1), .int (nI (am_tln t).2.2.2.2.1), .int (nI (am_tln t).2.2.2.2.2), .int (nI t)])
def am_eS (gv : Nat → Nat) (i : Nat) : va_E := .inr (101, [.ref (gv i), .int 0])
def am_eB (i : Nat) : va_E := .inl (100, (am_sb i).length, .inl (fun j => nI ((am_sb i).getD j 0)))
def am_eA (ad : Nat → Nat) : va_E := .inl (102, 13, .inr (.inr (.inr (.inr (fun j => some (ad j))))))
def am_eW : va_E := .inl (101, 13, .inl (fun j => if j < 13 then nI (j + 1) else 0))
def am_eX (L : Nat) (xs : Nat → Int32) : va_E := .inl (101, L, .inl (fun j => if j < L then xs j else 0))
def am_GP (ad gk gv : Nat → Nat) (b L : Nat) (xs : Nat → Int32) (a : Nat) (e : va_E) : Prop :=
  (∃ t, t < 13 ∧ a = ad t ∧ e = am_eT gk t) ∨ (∃ i, i < 32 ∧ a = gk i ∧ e = am_eS gv i) ∨ (∃ i, i < 32 ∧ a = gv i ∧ e = am_eB i) ∨ (a = ad 13 ∧ e = am_eA ad) ∨ (a = ad 14 ∧ e = am_eW) ∨ (a = b ∧ e = am_eX L xs)
/-- what is known of the ground's cells -/
def am_GS (ad gk gv : Nat → Nat) (b L : Nat) (xs : Nat → Int32) (A : Nat → Prop) (s : State) : Prop :=
  (∀ t, t < 13 → va_O "TextTools$Tool" (ad t) A s s.heap ∧ va_OF "TextTools$Tool" "title" "Ljava/lang/String;" (.ref (gk (am_tln t).2.1)) (ad t) A s s.heap ∧ va_OF "TextTools$Tool" "letters" "Ljava/lang/String;" (.ref (gk (am_tln t).2.2.1)) (ad t) A s s.heap ∧ va_OF "TextTools$Tool" "wants" "Ljava/lang/String;" (.ref (gk (am_tln t).2.2.2.1)) (ad t) A s s.heap ∧
    va_OF "TextTools$Tool" "least" "I" (.int (nI (am_tln t).2.2.2.2.1)) (ad t) A s s.heap ∧ va_OF "TextTools$Tool" "most" "I" (.int (nI (am_tln t).2.2.2.2.2)) (ad t) A s s.heap ∧ va_OF "java/lang/Enum" "ordinal" "I" (.int (nI t)) (ad t) A s s.heap) ∧
  (∀ i, i < 32 → va_O "java/lang/String" (gk i) A s s.heap ∧ va_OF "java/lang/String" "value" "[B" (.ref (gv i)) (gk i) A s s.heap ∧ va_OF "java/lang/String" "coder" "B" (.int 0) (gk i) A s s.heap ∧ va_T .byte (gv i) (am_sb i).length (fun j => .int (nI ((am_sb i).getD j 0))) A s s.heap) ∧
  va_T (.object "TextTools$Tool") (ad 13) 13 (fun j => .ref (ad j)) A s s.heap ∧ va_T .int (ad 14) 13 (fun j => .int (nI (j + 1))) A s s.heap ∧ va_X b L xs s s.heap ∧ (∀ t u, t < 13 → u < 13 → ad t = ad u → t = u)
theorem am_objarr {s : State} (hf : heapFits s = true) {a : Nat} {ce : Cell} {t : FieldType} {i j r : Nat} {x : Int32} (hc : s.heap[a]? = some ce) (hi : ce.slots[i]? = some (.ref r)) (hj : ce.slots[j]? = some (.int x)) (ha : s.isArrayOf ce t) (ht : t = .byte ∨ t = .int ∨ t = .object "TextTools$Tool") : False := by
  have h1 := am_fitsA hf hc hi ha
  have h2 := am_fitsA hf hc hj ha
  rcases ht with rfl | rfl | rfl
  · simp [fits] at h1
  · simp [fits] at h1
  · simp [fits] at h2
theorem am_arr2 {s : State} {ce : Cell} {t u : FieldType} (h : s.isArrayOf ce t) (h' : s.isArrayOf ce u) : t = u := by
  obtain ⟨-, k, q2, comp, q3⟩ := h
  obtain ⟨-, k', q2', comp', q3'⟩ := h'
  cases Option.some.inj (q2.symm.trans q2')
  have := q3.symm.trans q3'
  injection this
/-- what tells a tool, a string, an array apart -/
def am_kT (s : State) (a : Nat) : Prop := ∃ (ce : Cell) (i j r : Nat) (x : Int32), s.heap[a]? = some ce ∧ ce.slots[i]? = some (.ref r) ∧ ce.slots[j]? = some (.int x) ∧ s.vm.findClass "TextTools$Tool" = some ce.cls
def am_kS (s : State) (a : Nat) : Prop := ∃ (ce : Cell) (i j r : Nat) (x : Int32), s.heap[a]? = some ce ∧ ce.slots[i]? = some (.ref r) ∧ ce.slots[j]? = some (.int x) ∧ s.vm.findClass "java/lang/String" = some ce.cls
def am_kR (s : State) (a : Nat) (t : FieldType) : Prop := ∃ ce : Cell, s.heap[a]? = some ce ∧ s.isArrayOf ce t
theorem am_kTS {s : State} {a : Nat} (h : am_kT s a) (h' : am_kS s a) : False := by
  obtain ⟨ce, i, j, r, x, h1, -, -, h4⟩ := h
  obtain ⟨ce', i', j', r', x', h1', -, -, h4'⟩ := h'
  cases Option.some.inj (h1.symm.trans h1')
  have := am_findNe h4 h4'
  revert this
  decide
theorem am_kTA {s : State} (hf : heapFits s = true) {a : Nat} {t : FieldType} (ht : t = .byte ∨ t = .int ∨ t = .object "TextTools$Tool") (h : am_kT s a) (h' : am_kR s a t) : False := by
  obtain ⟨ce, i, j, r, x, h1, h2, h3, h4⟩ := h
  obtain ⟨ce', h1', h2'⟩ := h'
  cases Option.some.inj (h1.symm.trans h1')
  exact am_objarr hf h1 h2 h3 h2' ht
theorem am_kSA {s : State} (hf : heapFits s = true) {a : Nat} {t : FieldType} (ht : t = .byte ∨ t = .int ∨ t = .object "TextTools$Tool") (h : am_kS s a) (h' : am_kR s a t) : False := by
  obtain ⟨ce, i, j, r, x, h1, h2, h3, h4⟩ := h
  obtain ⟨ce', h1', h2'⟩ := h'
  cases Option.some.inj (h1.symm.trans h1')
  exact am_objarr hf h1 h2 h3 h2' ht
theorem am_kAA {s : State} {a : Nat} {t u : FieldType} (h : am_kR s a t) (h' : am_kR s a u) : t = u := by
  obtain ⟨ce, h1, h2⟩ := h
  obtain ⟨ce', h1', h2'⟩ := h'
  cases Option.some.inj (h1.symm.trans h1')
  exact am_arr2 h2 h2'
theorem am_TkA {s : State} {ty : FieldType} {t N : Nat} {f : Nat → Value} {A : Nat → Prop} (h : va_T ty t N f A s s.heap) : am_kR s t ty := by
  obtain ⟨ce, h1, h2, -⟩ := h
  exact ⟨ce, h1, h2⟩
theorem am_XkA {s : State} {b L : Nat} {xs : Nat → Int32} (h : va_X b L xs s s.heap) : am_kR s b .int := by
  obtain ⟨ce, h1, h2, -⟩ := h
  exact ⟨ce, h1, h2⟩
theorem am_OFk {s : State} {o n d : String} {v : Value} {t : Nat} {A : Nat → Prop} (h : va_OF o n d v t A s s.heap) : ∃ (ce : Cell) (i : Nat), s.heap[t]? = some ce ∧ ce.slots[i]? = some v := by
  obtain ⟨cf, k, i, f, ce, -, -, h3, -, h5, -⟩ := h
  exact ⟨ce, _, h3, h5⟩
theorem am_kTof {ad gk gv : Nat → Nat} {b L : Nat} {xs : Nat → Int32} {A : Nat → Prop} {s : State} (h : am_GS ad gk gv b L xs A s) {t : Nat} (ht : t < 13) : am_kT s (ad t) := by
  obtain ⟨⟨ce, h1, -, h2, -⟩, h3, -, -, h4, -⟩ := h.1 t ht
  obtain ⟨c1, i1, g1, g2⟩ := am_OFk h3
  obtain ⟨c2, i2, g3, g4⟩ := am_OFk h4
  cases Option.some.inj (h1.symm.trans g1)
  cases Option.some.inj (h1.symm.trans g3)
  exact ⟨ce, i1, i2, _, _, h1, g2, g4, h2⟩
theorem am_kSof {ad gk gv : Nat → Nat} {b L : Nat} {xs : Nat → Int32} {A : Nat → Prop} {s : State} (h : am_GS ad gk gv b L xs A s) {i : Nat} (hi : i < 32) : am_kS s (gk i) := by
  obtain ⟨⟨ce, h1, -, h2, -⟩, h3, h4, -⟩ := h.2.1 i hi
  obtain ⟨c1, i1, g1, g2⟩ := am_OFk h3
  obtain ⟨c2, i2, g3, g4⟩ := am_OFk h4
  cases Option.some.inj (h1.symm.trans g1)
  cases Option.some.inj (h1.symm.trans g3)
  exact ⟨ce, i1, i2, _, _, h1, g2, g4, h2⟩
theorem am_OFeq {s : State} {o n d : String} {v w : Value} {t : Nat} {A : Nat → Prop} (h : va_OF o n d v t A s s.heap) (h' : va_OF o n d w t A s s.heap) : v = w := by
  obtain ⟨cf, k, i, f, ce, h1, -, h3, -, h5, -⟩ := h
  obtain ⟨cf', k', i', f', ce', h1', -, h3', -, h5', -⟩ := h'
  cases Option.some.inj (h1.symm.trans h1')
  cases Option.some.inj (h3.symm.trans h3')
  exact Option.some.inj (h5.symm.trans h5')
theorem am_sb_len : ∀ i, i < 32 → (am_sb i).length < 100 := by
  have h : (List.range 32).all (fun i => decide ((am_sb i).length < 100)) = true := by decide +kernel
  intro i hi
  exact of_decide_eq_true (List.all_eq_true.mp h i (List.mem_range.mpr hi))
theorem am_ofNat_inj {m n : Nat} (hm : m < 4000) (hn : n < 4000) (h : Int32.ofNat m = Int32.ofNat n) : m = n := by
  have h1 : (Int32.ofNat m).toInt = m := Int32.toInt_ofNat_of_lt (by omega)
  have h2 : (Int32.ofNat n).toInt = n := Int32.toInt_ofNat_of_lt (by omega)
  rw [h, h2] at h1
  omega
theorem am_GP_fun {ad gk gv : Nat → Nat} {b L : Nat} {xs : Nat → Int32} {A : Nat → Prop} {s : State} (hf : heapFits s = true) (hL : L ≤ 3072) (h : am_GS ad gk gv b L xs A s) {a : Nat} {e e' : va_E} (h1 : am_GP ad gk gv b L xs a e) (h2 : am_GP ad gk gv b L xs a e') : e = e' := by
  obtain ⟨hA, hW, hX, hinj⟩ := h.2.2
  have kT : ∀ t, t < 13 → am_kT s (ad t) := fun t ht => am_kTof h ht
  have kS : ∀ i, i < 32 → am_kS s (gk i) := fun i hi => am_kSof h hi
  have kB : ∀ i, i < 32 → am_kR s (gv i) .byte := fun i hi => am_TkA (h.2.1 i hi).2.2.2
  have kA := am_TkA hA
  have kW := am_TkA hW
  have kX := am_XkA hX
  have tb : (FieldType.byte = .byte ∨ FieldType.byte = .int ∨ FieldType.byte = .object "TextTools$Tool") := .inl rfl
  have ti : (FieldType.int = .byte ∨ FieldType.int = .int ∨ FieldType.int = .object "TextTools$Tool") := .inr (.inl rfl)
  have to : (FieldType.object "TextTools$Tool" = .byte ∨ FieldType.object "TextTools$Tool" = .int ∨ FieldType.object "TextTools$Tool" = .object "TextTools$Tool") := .inr (.inr rfl)
  have wx : ad 14 = b → am_eW = am_eX L xs := by
    intro q
    obtain ⟨ce, g1, g2, g3, g4, g5, g6, -⟩ := hW
    obtain ⟨ce', g1', g2', g3', g4', g5'⟩ := hX
    rw [← q] at g1'
    cases Option.some.inj (g1.symm.trans g1')
    rw [g4'] at g5
    have hL13 : L = 13 := am_ofNat_inj (by omega) (by omega) g5
    subst hL13
    unfold am_eW am_eX
    congr 4
    funext j
    split
    · rename_i hj
      have := (g6 j hj).symm.trans (g5' j hj)
      simpa using this
    · rfl
  rcases h1 with ⟨t, ht, e1, rfl⟩ | ⟨i, hi, e1, rfl⟩ | ⟨i, hi, e1, rfl⟩ | ⟨e1, rfl⟩ | ⟨e1, rfl⟩ | ⟨e1, rfl⟩ <;> rcases h2 with ⟨t', ht', e2, rfl⟩ | ⟨i', hi', e2, rfl⟩ | ⟨i', hi', e2, rfl⟩ | ⟨e2, rfl⟩ | ⟨e2, rfl⟩ | ⟨e2, rfl⟩
  · rw [hinj t t' ht ht' (e1.symm.trans e2)]
  · exact (am_kTS (kT t ht) (by rw [← e1, e2]; exact kS i' hi')).elim
  · exact (am_kTA hf tb (kT t ht) (by rw [← e1, e2]; exact kB i' hi')).elim
  · exact (am_kTA hf to (kT t ht) (by rw [← e1, e2]; exact kA)).elim
  · exact (am_kTA hf ti (kT t ht) (by rw [← e1, e2]; exact kW)).elim
  · exact (am_kTA hf ti (kT t ht) (by rw [← e1, e2]; exact kX)).elim
  · exact (am_kTS (kT t' ht') (by rw [← e2, e1]; exact kS i hi)).elim
  · have q := (h.2.1 i hi).2.1
    have q' := (h.2.1 i' hi').2.1
    rw [← e1] at q
    rw [← e2] at q'
    have := am_OFeq q q'
    unfold am_eS
    injection this with this
    rw [this]
  · exact (am_kSA hf tb (kS i hi) (by rw [← e1, e2]; exact kB i' hi')).elim
  · exact (am_kSA hf to (kS i hi) (by rw [← e1, e2]; exact kA)).elim
  · exact (am_kSA hf ti (kS i hi) (by rw [← e1, e2]; exact kW)).elim
  · exact (am_kSA hf ti (kS i hi) (by rw [← e1, e2]; exact kX)).elim
  · exact (am_kTA hf tb (kT t' ht') (by rw [← e2, e1]; exact kB i hi)).elim
  · exact (am_kSA hf tb (kS i' hi') (by rw [← e2, e1]; exact kB i hi)).elim
  · obtain ⟨ce, g1, g2, g3, g4, g5, g6, -⟩ := (h.2.1 i hi).2.2.2
    obtain ⟨ce', g1', g2', g3', g4', g5', g6', -⟩ := (h.2.1 i' hi').2.2.2
    rw [← e1] at g1
    rw [← e2] at g1'
    cases Option.some.inj (g1.symm.trans g1')
    have hl1 := am_sb_len i hi
    have hl2 := am_sb_len i' hi'
    have hl : (am_sb i).length = (am_sb i').length := am_ofNat_inj (by omega) (by omega) (g5.symm.trans g5')
    unfold am_eB
    rw [hl]
    congr 4
    funext j
    by_cases hj : j < (am_sb i').length
    · have := (g6 j (by omega)).symm.trans (g6' j hj)
      simpa using this
    · rw [List.getD_eq_getElem?_getD, List.getD_eq_getElem?_getD, List.getElem?_eq_none (by omega), List.getElem?_eq_none (by omega)]
  · have := am_kAA (kB i hi) (by rw [← e1, e2]; exact kA); cases this
  · have := am_kAA (kB i hi) (by rw [← e1, e2]; exact kW); cases this
  · have := am_kAA (kB i hi) (by rw [← e1, e2]; exact kX); cases this
  · exact (am_kTA hf to (kT t' ht') (by rw [← e2, e1]; exact kA)).elim
  · exact (am_kSA hf to (kS i' hi') (by rw [← e2, e1]; exact kA)).elim
  · have := am_kAA (kB i' hi') (by rw [← e2, e1]; exact kA); cases this
  · rfl
  · have := am_kAA kA (by rw [← e1, e2]; exact kW); cases this
  · have := am_kAA kA (by rw [← e1, e2]; exact kX); cases this
  · exact (am_kTA hf ti (kT t' ht') (by rw [← e2, e1]; exact kW)).elim
  · exact (am_kSA hf ti (kS i' hi') (by rw [← e2, e1]; exact kW)).elim
  · have := am_kAA (kB i' hi') (by rw [← e2, e1]; exact kW); cases this
  · have := am_kAA kA (by rw [← e2, e1]; exact kW); cases this
  · rfl
  · exact wx (e1.symm.trans e2)
  · exact (am_kTA hf ti (kT t' ht') (by rw [← e2, e1]; exact kX)).elim
  · exact (am_kSA hf ti (kS i' hi') (by rw [← e2, e1]; exact kX)).elim
  · have := am_kAA (kB i' hi') (by rw [← e2, e1]; exact kX); cases this
  · have := am_kAA kA (by rw [← e2, e1]; exact kX); cases this
  · exact (wx (e2.symm.trans e1)).symm
  · rfl
