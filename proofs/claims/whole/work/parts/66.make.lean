/-! THE CONSTRUCTORS: memory as a list of what was made -/
def k_mk (G : Nat → Option va_E) (base : Nat) (cs : List va_E) (sl : Nat) : am_M := (base + cs.length, sl, fun q => if q < base then G q else cs[q - base]?)
/-- a field of an object in the list, set -/
def k_lpf : List va_E → Nat → Nat → Nat → Nat → Value → Option (List va_E)
  | [], _, _, _, _, _ => none
  | .inl _ :: _, 0, _, _, _, _ => none
  | .inr (c', fs) :: cs, 0, c, f, ty, v => bif Nat.beq c' c && Nat.blt c' 100 && Nat.blt f fs.length && am_fit ty v then some (.inr (c', fs.set f v) :: cs) else none
  | e :: cs, k + 1, c, f, ty, v => (k_lpf cs k c f ty v).map (fun z => e :: z)
theorem k_lpf_eq : ∀ (cs : List va_E) (k c f ty : Nat) (v : Value) (cs' : List va_E), k_lpf cs k c f ty v = some cs' → ∃ fs, cs[k]? = some (.inr (c, fs)) ∧ c < 100 ∧ f < fs.length ∧ am_fit ty v = true ∧ cs' = cs.set k (.inr (c, fs.set f v))
  | [], k, c, f, ty, v, cs', h => by simp [k_lpf] at h
  | .inl a :: cs, 0, c, f, ty, v, cs', h => by simp [k_lpf] at h
  | .inr (c', fs) :: cs, 0, c, f, ty, v, cs', h => by
    unfold k_lpf at h
    rw [cond_eq_ite] at h
    split at h
    · rename_i q
      simp only [Bool.and_eq_true, Nat.blt_eq] at q
      obtain ⟨⟨⟨q1, q2⟩, q3⟩, q4⟩ := q
      have q1 := Nat.eq_of_beq_eq_true q1
      subst q1
      refine ⟨fs, rfl, q2, q3, q4, ?_⟩
      simpa using (Option.some.inj h).symm
    · exact absurd h (by simp)
  | .inl a :: cs, k + 1, c, f, ty, v, cs', h => by
    unfold k_lpf at h
    cases hr : k_lpf cs k c f ty v with
    | none => rw [hr] at h; exact absurd h (by simp)
    | some z =>
      rw [hr] at h
      obtain ⟨fs, h1, h2, h3, h4, h5⟩ := k_lpf_eq cs k c f ty v z hr
      exact ⟨fs, h1, h2, h3, h4, by rw [← Option.some.inj h, h5]; rfl⟩
  | .inr a :: cs, k + 1, c, f, ty, v, cs', h => by
    unfold k_lpf at h
    cases hr : k_lpf cs k c f ty v with
    | none => rw [hr] at h; exact absurd h (by simp)
    | some z =>
      rw [hr] at h
      obtain ⟨fs, h1, h2, h3, h4, h5⟩ := k_lpf_eq cs k c f ty v z hr
      exact ⟨fs, h1, h2, h3, h4, by rw [← Option.some.inj h, h5]; rfl⟩
section KM
variable {G : Nat → Option va_E} {base : Nat} {cs cs' : List va_E} {sl : Nat}
theorem k_1 : (k_mk G base cs sl).1 = base + cs.length := rfl
theorem k_at {k : Nat} : (k_mk G base cs sl).2.2 (base + k) = cs[k]? := by
  show (if base + k < base then _ else cs[base + k - base]?) = _
  rw [if_neg (by omega), Nat.add_sub_cancel_left]
theorem k_push {n : Nat} {e : va_E} : am_push (k_mk G base cs sl) n e = k_mk G base (cs ++ [e]) (sl + n) := by
  unfold am_push k_mk
  rw [List.length_append]
  refine congrArg (fun z => (base + (cs.length + 1), sl + n, z)) (funext fun q => ?_)
  show (if q = base + cs.length then some e else if q < base then G q else cs[q - base]?) = if q < base then G q else (cs ++ [e])[q - base]?
  by_cases h : q < base
  · rw [if_neg (by omega), if_pos h, if_pos h]
  · rw [if_neg h, if_neg h]
    by_cases h2 : q = base + cs.length
    · rw [if_pos h2, List.getElem?_append_right (by omega), show q - base - cs.length = 0 by omega]
      rfl
    · rw [if_neg h2]
      by_cases h3 : q - base < cs.length
      · rw [List.getElem?_append_left h3]
      · rw [List.getElem?_eq_none (by omega), List.getElem?_eq_none (by simp; omega)]
theorem k_upd {k : Nat} {e : va_E} (hk : k < cs.length) : am_upd (k_mk G base cs sl) (base + k) e = k_mk G base (cs.set k e) sl := by
  unfold am_upd k_mk
  rw [List.length_set]
  refine congrArg (fun z => (base + cs.length, sl, z)) (funext fun q => ?_)
  show (if q = base + k then some e else if q < base then G q else cs[q - base]?) = if q < base then G q else (cs.set k e)[q - base]?
  by_cases h : q < base
  · rw [if_neg (by omega), if_pos h, if_pos h]
  · rw [if_neg h, if_neg h, List.getElem?_set]
    by_cases h2 : q = base + k
    · rw [if_pos h2, if_pos (by omega), if_pos hk]
    · rw [if_neg h2, if_neg (by omega)]
theorem k_pf {k c f ty : Nat} {v : Value} (h : k_lpf cs k c f ty v = some cs') : am_pf (k_mk G base cs sl) (base + k) c f ty v = some (k_mk G base cs' sl) := by
  obtain ⟨fs, h1, h2, h3, h4, h5⟩ := k_lpf_eq _ _ _ _ _ _ _ h
  have e := (k_at (G := G) (base := base) (cs := cs) (sl := sl) (k := k)).trans h1
  simp only [am_pf, e]
  rw [if_pos ⟨trivial, h2, h3, h4⟩, k_upd (List.getElem?_eq_some_iff.mp h1).1, h5]
theorem k_na {t n : Nat} (ht : t < 3) (hn : n < 60000000) : am_na (k_mk G base cs sl) t (nI n) = some (k_mk G base (cs ++ [.inl (t, n, .inl (fun _ => 0))]) (sl + n)) := by
  rw [h_nI, j_na ht (by omega) (by omega), k_push]
  rfl
theorem k_na4 {n : Nat} (hn : n < 60000000) : am_na (k_mk G base cs sl) 4 (nI n) = some (k_mk G base (cs ++ [.inl (4, n, .inr (.inr (.inr (.inr (fun _ => none)))))]) (sl + n)) := by
  have hn' : (nI n).toInt = n := by rw [h_nI]; exact h_toInt (by omega) (by omega)
  have hc : (nI n).toNatClampNeg = n := by unfold Int32.toNatClampNeg; rw [hn']; omega
  unfold am_na
  rw [hc, if_neg (by
    rintro (q | q)
    · rw [Int32.lt_iff_toInt_lt, hn'] at q
      have : (0 : Int32).toInt = 0 := rfl
      omega
    · omega), if_neg (by decide), if_neg (by decide), if_pos rfl, k_push]
theorem k_na3 {n : Nat} (hn : n < 60000000) : am_na (k_mk G base cs sl) 3 (nI n) = some (k_mk G base (cs ++ [.inl (3, n, .inr (.inl (fun _ => 0)))]) (sl + n)) := by
  have hn' : (nI n).toInt = n := by rw [h_nI]; exact h_toInt (by omega) (by omega)
  have hc : (nI n).toNatClampNeg = n := by unfold Int32.toNatClampNeg; rw [hn']; omega
  unfold am_na
  rw [hc, if_neg (by
    rintro (q | q)
    · rw [Int32.lt_iff_toInt_lt, hn'] at q
      have : (0 : Int32).toInt = 0 := rfl
      omega
    · omega), if_neg (by decide), if_pos rfl, k_push]
theorem k_mna {x y : Nat} : am_mna (k_mk G base cs sl) x y = k_mk G base (cs ++ (.inl (5, x, .inr (.inr (.inr (.inr (fun i => if i < x then some (base + cs.length + 1 + i) else none))))) :: List.replicate x (.inl (1, y, .inl (fun _ => 0))))) (sl + x + x * y) := by
  unfold am_mna k_mk
  rw [List.length_append, List.length_cons, List.length_replicate]
  show (base + cs.length + 1 + x, sl + x + x * y, _) = (base + (cs.length + (x + 1)), sl + x + x * y, _)
  rw [show base + (cs.length + (x + 1)) = base + cs.length + 1 + x by omega]
  refine congrArg (fun z => (base + cs.length + 1 + x, sl + x + x * y, z)) (funext fun q => ?_)
  show (if q = base + cs.length then _ else if base + cs.length < q ∧ q ≤ base + cs.length + x then _ else if q < base then G q else cs[q - base]?) = if q < base then G q else _
  by_cases h : q < base
  · rw [if_neg (by omega), if_neg (by omega), if_pos h, if_pos h]
  · simp only [if_neg h]
    by_cases h2 : q = base + cs.length
    · rw [if_pos h2, List.getElem?_append_right (by omega), show q - base - cs.length = 0 by omega]
      rfl
    · rw [if_neg h2]
      by_cases h3 : base + cs.length < q ∧ q ≤ base + cs.length + x
      · rw [if_pos h3, List.getElem?_append_right (by omega), show q - base - cs.length = (q - base - cs.length - 1) + 1 by omega, List.getElem?_cons_succ, List.getElem?_replicate, if_pos (by omega)]
      · rw [if_neg h3]
        by_cases h4 : q - base < cs.length
        · rw [List.getElem?_append_left h4]
        · rw [List.getElem?_eq_none (by omega), List.getElem?_eq_none (by simp; omega)]
end KM
