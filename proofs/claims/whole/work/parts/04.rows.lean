/-! ONE INSTRUCTION: what the small machine does, the real one does -/
/-- at a point: whatever the heap is that the memory speaks of, the real machine comes to Q -/
def am_G (p : Program) (l : Launch) (e : Env) (R : Room) (s : State) (m : MethodId) (args : Array Value) (below : List Frame) (meth : Method) (c : Code) (Q : State → Prop) (E : am_E) (F : am_F) (c0 s0 : Nat) (pc : Nat) (al : am_L) (st : List Value) (M : am_M) : Prop :=
  ∀ (H : Heap) (locs : List Loc) (ls : Array Slot), am_rel E F s M H → va_S (fun q : Nat => E.2.2 ≤ q) s.heap H locs → lv_has ls al.length (am_lv 0 al) → c.maxLocals = al.length → c0 ≤ M.1 → s0 ≤ M.2.1 → W p l e R s m args below meth c H locs (M.1 - c0) (M.2.1 - s0) Q (F0 m pc ls st)
theorem am_lv_mem {al : am_L} : ∀ {k j : Nat} {v : Value}, (j, v) ∈ am_lv k al ↔ k ≤ j ∧ al[j - k]? = some (some v) := by
  induction al with
  | nil => intro k j v; simp [am_lv]
  | cons o t ih =>
    intro k j v
    cases o with
    | none =>
      simp only [am_lv]
      rw [ih]
      constructor
      · rintro ⟨h1, h2⟩
        refine ⟨by omega, ?_⟩
        rw [show j - k = (j - (k + 1)) + 1 by omega]
        simpa using h2
      · rintro ⟨h1, h2⟩
        by_cases hjk : j = k
        · subst hjk; simp at h2
        · refine ⟨by omega, ?_⟩
          rw [show j - k = (j - (k + 1)) + 1 by omega] at h2
          simpa using h2
    | some w =>
      simp only [am_lv, List.mem_cons]
      rw [ih]
      constructor
      · rintro (h | ⟨h1, h2⟩)
        · cases h; simp
        · refine ⟨by omega, ?_⟩
          rw [show j - k = (j - (k + 1)) + 1 by omega]
          simpa using h2
      · rintro ⟨h1, h2⟩
        by_cases hjk : j = k
        · subst hjk; simp at h2; subst h2; exact Or.inl rfl
        · refine Or.inr ⟨by omega, ?_⟩
          rw [show j - k = (j - (k + 1)) + 1 by omega] at h2
          simpa using h2
theorem am_lv_at {ls : Array Slot} {n : Nat} {al : am_L} (h : lv_has ls n (am_lv 0 al)) {j : Nat} {v : Value} (hv : al[j]? = some (some v)) : ls[j]? = some (.val v) := h.2.2 (j, v) (am_lv_mem.mpr ⟨Nat.zero_le _, by simpa using hv⟩)
theorem am_kill_length (al : am_L) (i : Nat) : (am_kill al i).length = al.length := by
  cases i with
  | zero => rfl
  | succ j =>
    simp only [am_kill]
    split
    · split <;> simp
    · rfl
theorem am_set_length (al : am_L) (i : Nat) (v : Value) : (am_set al i v).length = al.length := by
  unfold am_set
  split <;> simp [am_kill_length]
theorem am_two_cat {v : Value} : am_two v = true ↔ v.category = 2 := by cases v <;> simp [am_two, Value.category]
theorem am_kill_at {al : am_L} {i j : Nat} {v : Value} (h : (am_kill al i)[j]? = some (some v)) : al[j]? = some (some v) ∧ ¬ (j + 1 = i ∧ v.category = 2) := by
  cases i with
  | zero => exact ⟨h, fun q => by omega⟩
  | succ i =>
    simp only [am_kill] at h
    split at h
    · rename_i w hw
      split at h
      · rename_i h2
        by_cases hj : j = i
        · subst hj
          rw [List.getElem?_set] at h
          simp at h
        · rw [List.getElem?_set_ne (fun q => hj q.symm)] at h
          exact ⟨h, fun q => hj (by omega)⟩
      · rename_i h2
        refine ⟨h, fun q => ?_⟩
        have hj : j = i := by omega
        subst hj
        rw [hw] at h; cases h
        exact h2 (am_two_cat.mpr q.2)
    · rename_i hno
      refine ⟨h, fun q => ?_⟩
      have hj : j = i := by omega
      subst hj
      exact hno v h
/-- storing a value of one slot, as the rows of the kit list it -/
theorem am_set1 {ls : Array Slot} {al : am_L} {i n : Nat} {v : Value} (hc : v.category = 1) (h : lv_has ls n ((i, v) :: (am_lv 0 al).filter (fun q => !(q.1 == i) && !(q.1 + 1 == i && q.2.category == 2)))) : lv_has ls n (am_lv 0 (am_set al i v)) := by
  refine ⟨h.1, h.2.1, fun q hq => ?_⟩
  obtain ⟨j, w⟩ := q
  obtain ⟨-, hq⟩ := am_lv_mem.mp hq
  rw [Nat.sub_zero] at hq
  have h2 : ¬ am_two v = true := fun q => by rw [am_two_cat] at q; omega
  unfold am_set at hq
  rw [if_neg h2] at hq
  by_cases hj : j = i
  · subst hj
    rw [List.getElem?_set] at hq
    split at hq
    · split at hq
      · simp only [Option.some.injEq] at hq; subst hq; exact h.2.2 _ List.mem_cons_self
      · cases hq
    · rename_i hh; exact absurd rfl hh
  · rw [List.getElem?_set_ne (fun q => hj q.symm)] at hq
    obtain ⟨h3, h4⟩ := am_kill_at hq
    refine h.2.2 _ (List.mem_cons_of_mem _ (List.mem_filter.mpr ⟨am_lv_mem.mpr ⟨Nat.zero_le _, by simpa using h3⟩, ?_⟩))
    simp only [Bool.and_eq_true, Bool.not_eq_true', beq_eq_false_iff_ne, ne_eq]
    refine ⟨hj, ?_⟩
    simp only [Bool.and_eq_false_iff, beq_eq_false_iff_ne, ne_eq]
    by_cases hji : j + 1 = i
    · exact Or.inr (fun q => h4 ⟨hji, q⟩)
    · exact Or.inl hji
theorem am_set2 {ls : Array Slot} {al : am_L} {i n : Nat} {v : Value} (hc : v.category = 2) (h : lv_has ls n ((i, v) :: (am_lv 0 al).filter (fun q => !(q.1 == i) && (!(q.1 == i + 1) && !(q.1 + 1 == i && q.2.category == 2))))) : lv_has ls n (am_lv 0 (am_set al i v)) := by
  refine ⟨h.1, h.2.1, fun q hq => ?_⟩
  obtain ⟨j, w⟩ := q
  obtain ⟨-, hq⟩ := am_lv_mem.mp hq
  rw [Nat.sub_zero] at hq
  unfold am_set at hq
  rw [if_pos (am_two_cat.mpr hc)] at hq
  by_cases hj1 : j = i + 1
  · subst hj1
    rw [List.getElem?_set] at hq
    simp at hq
  · rw [List.getElem?_set_ne (fun q => hj1 q.symm)] at hq
    by_cases hj : j = i
    · subst hj
      rw [List.getElem?_set] at hq
      split at hq
      · split at hq
        · simp only [Option.some.injEq] at hq; subst hq; exact h.2.2 _ List.mem_cons_self
        · cases hq
      · rename_i hh; exact absurd rfl hh
    · rw [List.getElem?_set_ne (fun q => hj q.symm)] at hq
      obtain ⟨h3, h4⟩ := am_kill_at hq
      refine h.2.2 _ (List.mem_cons_of_mem _ (List.mem_filter.mpr ⟨am_lv_mem.mpr ⟨Nat.zero_le _, by simpa using h3⟩, ?_⟩))
      simp only [Bool.and_eq_true, Bool.not_eq_true', beq_eq_false_iff_ne, ne_eq]
      refine ⟨hj, hj1, ?_⟩
      simp only [Bool.and_eq_false_iff, beq_eq_false_iff_ne, ne_eq]
      by_cases hji : j + 1 = i
      · exact Or.inr (fun q => h4 ⟨hji, q⟩)
      · exact Or.inl hji
