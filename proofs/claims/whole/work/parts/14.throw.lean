/-! THE SAME WALK, COUNTED FROM ITS OWN HEAP: what was made and written so far is old then -/
def am_base (s T : State) : State := { s with heap := T.heap, slotsUsed := T.slotsUsed }
theorem am_rebase {p : Program} {l : Launch} {e : Env} {R : Room} {s : State} {m : MethodId} {args : Array Value} {below : List Frame} {meth : Method} {c : Code} {T : State} {locs : List Loc} {cells slots : Nat} (X : Stand p l e R s m args below meth c T locs cells slots) (hc : cells ≤ R.cells) (hs : slots ≤ R.slots) :
    Stand p l e { R with cells := R.cells - cells, slots := R.slots - slots } (am_base s T) m args below meth c T [] 0 0 := by
  refine ⟨X.admits, X.cas, X.clock, X.frames, ?_, X.hears, X.method, X.code, X.here, X.tail, X.warmed, X.limits, X.bytes, ?_⟩
  · have hr := X.room
    have h1 := X.heapSize
    have h2 := X.used
    have h3 := X.book
    simp only [State.hasRoom, Bool.and_eq_true, decide_eq_true_eq] at hr ⊢
    obtain ⟨⟨⟨⟨r1, r2⟩, r3⟩, r4⟩, r5⟩ := hr
    refine ⟨⟨⟨⟨r1, r2⟩, ?_⟩, ?_⟩, h3⟩
    · show T.heap.size + (R.cells - cells) ≤ _; omega
    · show T.slotsUsed + (R.slots - slots) ≤ _; omega
  · obtain ⟨e1, -⟩ := X.same
    refine ⟨?_, Nat.le_refl _, Nat.le_refl _, ?_, ?_, fun a ce h => ⟨ce, h, rfl, rfl, fun _ _ => rfl⟩⟩
    · show T.setVm s.vm = _
      rw [e1]; rfl
    · show T.slotsUsed = T.slotsUsed + ((T.heap.toList.drop T.heap.size).map (·.slots.size)).sum
      rw [List.drop_eq_nil_of_le (by simp)]; rfl
    · show ((T.heap.toList.drop T.heap.size).map (·.slots.size)).sum ≤ 0
      rw [List.drop_eq_nil_of_le (by simp)]; exact Nat.le_refl _
theorem am_base_same {s T U : State} {locs : List Loc} {cells slots k n : Nat} (hcur : s.cur < s.threads.size) (h1 : s.sameButNew (T.setVm s.vm) locs cells slots) (h2 : (am_base s T).sameButNew U [] k n) : s.sameButNew U locs (cells + k) (slots + n) := by
  have h3 : s.sameButNew (am_base s T) locs cells slots := by
    obtain ⟨e1, q⟩ := h1
    refine ⟨?_, q⟩
    show am_base s T = { s.setFrames s.frames with heap := T.heap, slotsUsed := T.slotsUsed }
    rw [State.setFrames_self (Array.getElem?_eq_getElem hcur)]
    rfl
  have := h3.trans h2
  simpa using this
