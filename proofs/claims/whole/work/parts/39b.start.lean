/-! THE START: the tables' classes, the ground, the statics -/
theorem am_Tf {ty : FieldType} {t N : Nat} {f g : Nat → Value} {A : Nat → Prop} {U : State} {H : Heap} (h : va_T ty t N f A U H) (hfg : ∀ j, j < N → f j = g j) : va_T ty t N g A U H := by
  obtain ⟨ce, h1, h2, h3, h4, h5, h6, h7⟩ := h
  exact ⟨ce, h1, h2, h3, h4, h5, fun j hj => by rw [h6 j hj, hfg j hj], h7⟩
theorem am_znT : ∀ q, q < 13 → am_zn.getD q ("", "", "") = ("TextTools$Tool", (am_tln q).1, "LTextTools$Tool;") := by
  have h : (List.range 13).all (fun q => decide (am_zn.getD q ("", "", "") = ("TextTools$Tool", (am_tln q).1, "LTextTools$Tool;"))) = true := by decide +kernel
  intro q hq
  exact of_decide_eq_true (List.all_eq_true.mp h q (List.mem_range.mpr hq))
def am_zt (q : Nat) : Term := .static (am_zn.getD q ("", "", "")).1 (am_zn.getD q ("", "", "")).2.1 (am_zn.getD q ("", "", "")).2.2
theorem am_ztT {q : Nat} (h : q < 13) : am_zt q = am_tlt q := by
  unfold am_zt
  rw [am_znT q h]
  rfl
theorem am_GS_of {s : State} {b L : Nat} {xs : Nat → Int32} (u16 u17 : Nat) (inN : ∀ w, am_inN w = true → w.before #[Value.ref b] s = true) (hX : va_X b L xs s s.heap) :
    ∃ ad gk gv : Nat → Nat, am_GS ad gk gv b L xs (fun q => s.heap.size ≤ q) s ∧ (∀ q, q < 15 → (am_zt q).eval #[Value.ref b] s none [] s = some (.ref (ad q))) ∧ ad 15 = gk 31 ∧ (am_stt 31).eval #[Value.ref b] s none [] s = some (.ref (gk 31)) ∧ ad 16 = u16 ∧ ad 17 = u17 := by
  have hA : ∀ a : Nat, a < s.heap.size → ¬ (fun q => s.heap.size ≤ q) a := fun a ha h => absurd h (by show ¬ _ ≤ _; omega)
  have h0 : ∀ i : Nat, ∃ q : Nat × Nat, i < 32 → (am_stt i).eval #[Value.ref b] s none [] s = some (.ref q.1) ∧ va_O "java/lang/String" q.1 (fun q => s.heap.size ≤ q) s s.heap ∧ va_OF "java/lang/String" "value" "[B" (.ref q.2) q.1 (fun q => s.heap.size ≤ q) s s.heap ∧ va_OF "java/lang/String" "coder" "B" (.int 0) q.1 (fun q => s.heap.size ≤ q) s s.heap ∧ va_T .byte q.2 (am_sb i).length (fun j => .int (nI ((am_sb i).getD j 0))) (fun q => s.heap.size ≤ q) s s.heap := by
    intro i
    by_cases hi : i < 32
    · have f := am_n1 i hi
      simp only [Bool.and_eq_true] at f
      obtain ⟨⟨⟨f1, f2⟩, f3⟩, f4⟩ := f
      have g := am_n2 i hi
      obtain ⟨a, c, cA, kA, q1, -⟩ := Cond.exactly_spec (args := #[Value.ref b]) (first := s) (o := none) (s := s) (idx := []) (inN _ f1)
      have hl := am_sb_len i hi
      obtain ⟨t, ht, hT⟩ := va_Tof (f := fun j => .int (nI ((am_sb i).getD j 0))) (A := fun q => s.heap.size ≤ q) (by omega) (inN _ f3) (va_eqt (inN _ f4)) (fun j hj => va_eqt (inN _ (List.all_eq_true.mp g j (List.mem_range.mpr hj)))) hA
      exact ⟨(a, t), fun _ => ⟨q1, va_Oof (inN _ f1) q1 hA, vk_OFof q1 ht hA, vk_OFof q1 (va_eqt (inN _ f2)) hA, hT⟩⟩
    · exact ⟨(0, 0), fun h => absurd h hi⟩
  obtain ⟨gs, hgs⟩ := Classical.axiomOfChoice h0
  have h1 : ∀ t : Nat, ∃ a : Nat, t < 13 → (am_tlt t).eval #[Value.ref b] s none [] s = some (.ref a) := by
    intro t
    by_cases ht : t < 13
    · have f := List.all_eq_true.mp am_n3 t (List.mem_range.mpr ht)
      simp only [Bool.and_eq_true] at f
      obtain ⟨a, c, cA, kA, q1, -⟩ := Cond.exactly_spec (args := #[Value.ref b]) (first := s) (o := none) (s := s) (idx := []) (inN _ f.1.1.1)
      exact ⟨a, fun _ => q1⟩
    · exact ⟨0, fun h => absurd h ht⟩
  obtain ⟨adT, hadT⟩ := Classical.axiomOfChoice h1
  have n6 := am_n6
  simp only [Bool.and_eq_true] at n6
  obtain ⟨⟨⟨⟨⟨⟨⟨m1, m2⟩, m3⟩, m4⟩, -⟩, -⟩, -⟩, -⟩ := n6
  have f4 : ∀ t, t < 13 → _ := fun t ht => List.all_eq_true.mp am_n4 t (List.mem_range.mpr ht)
  simp only [Bool.and_eq_true] at f4
  obtain ⟨tA, htA, hTA⟩ := va_Tof (tm := am_all) (f := fun j => .ref (adT j)) (A := fun q => s.heap.size ≤ q) (N := 13) (by omega) (inN _ m1) (va_eqt (inN _ m2)) (fun j hj => va_eqv (inN _ (f4 j hj).1.2) (hadT j hj)) hA
  obtain ⟨tW, htW, hTW⟩ := va_Tof (tm := am_swm) (f := fun j => .int (nI (j + 1))) (A := fun q => s.heap.size ≤ q) (N := 13) (by omega) (inN _ m3) (va_eqt (inN _ m4)) (fun j hj => va_eqt (inN _ (f4 j hj).2)) hA
  obtain ⟨ad, had, hadA, hadW, hadS, had16, had17⟩ : ∃ ad : Nat → Nat, (∀ t, t < 13 → ad t = adT t) ∧ ad 13 = tA ∧ ad 14 = tW ∧ ad 15 = (gs 31).1 ∧ ad 16 = u16 ∧ ad 17 = u17 :=
    ⟨fun q => if q < 13 then adT q else if q = 13 then tA else if q = 14 then tW else if q = 15 then (gs 31).1 else if q = 16 then u16 else u17, fun t ht => if_pos ht, rfl, rfl, rfl, rfl, rfl⟩
  refine ⟨ad, fun i => (gs i).1, fun i => (gs i).2, ⟨fun t ht => ?_, fun i hi => ?_, ?_, ?_, hX, ?_⟩, fun q hq => ?_, hadS, (hgs 31 (by decide)).1, had16, had17⟩
  · have f := List.all_eq_true.mp am_n3 t (List.mem_range.mpr ht)
    simp only [Bool.and_eq_true] at f
    obtain ⟨⟨⟨f1, f2⟩, f3⟩, f5⟩ := f
    have hlt : (am_tln t).2.1 < 32 ∧ (am_tln t).2.2.1 < 32 ∧ (am_tln t).2.2.2.1 < 32 := by
      have h : (List.range 13).all (fun t => decide ((am_tln t).2.1 < 32 ∧ (am_tln t).2.2.1 < 32 ∧ (am_tln t).2.2.2.1 < 32)) = true := by decide +kernel
      exact of_decide_eq_true (List.all_eq_true.mp h t (List.mem_range.mpr ht))
    obtain ⟨⟨⟨⟨g1, g2⟩, g3⟩, -⟩, -⟩ := f4 t ht
    have e := hadT t ht
    rw [had t ht]
    exact ⟨va_Oof (inN _ f1) e hA, vk_OFof e (va_eqv (inN _ f2) (hgs _ hlt.1).1) hA, vk_OFof e (va_eqv (inN _ f3) (hgs _ hlt.2.1).1) hA, vk_OFof e (va_eqv (inN _ f5) (hgs _ hlt.2.2).1) hA, vk_OFof e (va_eqt (inN _ g1)) hA, vk_OFof e (va_eqt (inN _ g2)) hA, vk_OFof e (va_eqt (inN _ g3)) hA⟩
  · exact (hgs i hi).2
  · rw [hadA]
    exact am_Tf hTA (fun j hj => by rw [had j hj])
  · rw [hadW]
    exact hTW
  · have key : ∀ t u, t < 13 → u < t → ad t ≠ ad u := by
      intro t u ht hu
      have f := List.all_eq_true.mp (am_n5 t ht) u (List.mem_range.mpr hu)
      rw [Bool.or_eq_true] at f
      rw [had t ht, had u (by omega)]
      rcases f with f | f
      · exact va_neR (inN _ f) (hadT t ht) (hadT u (by omega))
      · exact (va_neR (inN _ f) (hadT u (by omega)) (hadT t ht)).symm
    intro t u ht hu e
    rcases Nat.lt_trichotomy t u with q | q | q
    · exact absurd e.symm (key u t hu q)
    · exact q
    · exact absurd e (key t u ht q)
  · rcases Nat.lt_or_ge q 13 with h | h
    · rw [am_ztT h, had q h]
      exact hadT q h
    · have : q = 13 ∨ q = 14 := by omega
      rcases this with rfl | rfl
      · rw [hadA]; exact htA
      · rw [hadW]; exact htW
theorem am_K_of {s : State} {args : Array Value} (hts : ∀ w ∈ lw_tbl, w.before args s = true) (hTs : ∀ w ∈ am_Ts, w.before args s = true) : ∃ E : am_E, E.2.2 = s.heap.size ∧ va_K E.1 am_cl (am_tys E.2.1) s := by
  have n8 := am_n8
  simp only [Bool.and_eq_true, decide_eq_true_eq] at n8
  obtain ⟨⟨⟨⟨⟨⟨⟨m0, m1⟩, m2⟩, m3⟩, m4⟩, m5⟩, m6⟩, -⟩ := n8
  have h0 : ∀ c : Nat, ∃ x : ClassId × (Nat → Nat), ∀ q : vw_C, am_cl[c]? = some q → u_Kn s q.1 q.2.1 q.2.2 x.1 x.2 := by
    intro c
    cases hc : am_cl[c]? with
    | none => exact ⟨(0, fun _ => 0), fun q hq => by cases hq⟩
    | some q =>
      have hm : q ∈ am_cl := List.mem_of_getElem? hc
      obtain ⟨cC, iS, hk⟩ := u_known (T := q.2.1) (N := q.2.2) hTs (am_cokb_ok (am_classes q hm)).1 (hts _ (of_decide_eq_true (List.all_eq_true.mp m0 q hm)))
      exact ⟨(cC, iS), fun q' hq' => by cases hq'; exact hk⟩
  obtain ⟨D, hD⟩ := Classical.axiomOfChoice h0
  have ha : ∀ t : Nat, ∃ cA : ClassId, t < 6 → ArrOfT s cA (am_ty t) ∧ va_RA s cA (am_ty t) := by
    have one : ∀ ty : FieldType, (∀ C, ty ≠ .object C) → (Cond.arrayClass ty).before args s = true → ∃ cA, ArrOfT s cA ty ∧ va_RA s cA ty := by
      intro ty hty h
      obtain ⟨c, k, comp, q1, q2, q3⟩ := Cond.arrayClass_spec (args := args) (first := s) (o := none) (s := s) (idx := []) h
      refine ⟨c, fun N z => ⟨(fun k h => by cases h), k, q2, comp, q3⟩, ?_⟩
      cases ty with
      | object C => exact absurd rfl (hty C)
      | _ => exact q1
    intro t
    match t with
    | 0 => obtain ⟨cA, h⟩ := one .byte (fun C h => by cases h) (hts _ m1); exact ⟨cA, fun _ => h⟩
    | 1 => obtain ⟨cA, h⟩ := one .int (fun C h => by cases h) (hts _ m2); exact ⟨cA, fun _ => h⟩
    | 2 => obtain ⟨cA, h⟩ := one .boolean (fun C h => by cases h) (hts _ m3); exact ⟨cA, fun _ => h⟩
    | 3 => obtain ⟨cA, h⟩ := one .long (fun C h => by cases h) (hts _ m4); exact ⟨cA, fun _ => h⟩
    | 4 =>
      obtain ⟨comp, c, k, q1, q2, q3, q4, q5⟩ := Cond.arrayOver_spec (args := args) (first := s) (o := none) (s := s) (idx := []) (hts _ m5)
      exact ⟨c, fun _ => ⟨fun N z => ⟨(fun k h => by cases h), k, q3, comp, q4⟩, k, comp, q3, q4, q1, q5⟩⟩
    | 5 =>
      obtain ⟨comp, c, k, q1, q2, q3, q4, q5⟩ := arrayOverA_spec (args := args) (first := s) (o := none) (s := s) (idx := []) (hts _ m6)
      exact ⟨c, fun _ => ⟨fun N z => ⟨(fun k h => by cases h), k, q3, comp, q4⟩, q5⟩⟩
    | n + 6 => exact ⟨0, fun h => by omega⟩
  obtain ⟨kA, hkA⟩ := Classical.axiomOfChoice ha
  refine ⟨((fun c => (D c).1, fun c => (D c).2), kA, s.heap.size), rfl, fun c q hq => hD c q hq, fun k q hq => ?_⟩
  have hk : k < 6 := by
    have := (List.getElem?_eq_some_iff.mp hq).1
    simpa [am_tys] using this
  have : q = (kA k, am_ty k) := by
    have h2 : (am_tys kA)[k]? = some (kA k, am_ty k) := by simp [am_tys, hk]
    exact Option.some.inj (hq.symm.trans h2)
  subst this
  exact hkA k hk
