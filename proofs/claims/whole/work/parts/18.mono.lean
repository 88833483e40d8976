/-! THE MEMORY GROWS -/
theorem am_ins_cont {P : am_P} {i : Instr} {len : Nat} {tg : List Nat} {pc : Nat} {al : am_L} {st : List Value} {M : am_M} {k : Nat → am_L → List Value → am_M → Option am_R} {r : am_R} (h : am_ins P i len tg pc al st M k = some r) : ∃ pc2 al2 st2 M2, k pc2 al2 st2 M2 = some r ∧ M.1 ≤ M2.1 ∧ M.2.1 ≤ M2.2.1 := by
  unfold am_ins at h
  split at h
  all_goals (repeat' split at h)
  all_goals first
    | (cases h; done)
    | exact ⟨_, _, _, _, h, Nat.le_refl _, Nat.le_refl _⟩
    | (obtain ⟨x, h1, h2⟩ := Option.bind_eq_some_iff.mp h; exact ⟨_, _, _, _, h2, Nat.le_refl _, Nat.le_refl _⟩)
    | (obtain ⟨x, h1, h2⟩ := Option.bind_eq_some_iff.mp h; exact ⟨_, _, _, _, h2, Nat.le_of_eq (am_pf_mono h1).1.symm, Nat.le_of_eq (am_pf_mono h1).2.symm⟩)
    | (obtain ⟨x, h1, h2⟩ := Option.bind_eq_some_iff.mp h; exact ⟨_, _, _, _, h2, Nat.le_of_eq (am_is_mono h1).1.symm, Nat.le_of_eq (am_is_mono h1).2.symm⟩)
    | (obtain ⟨x, h1, h2⟩ := Option.bind_eq_some_iff.mp h; exact ⟨_, _, _, _, h2, Nat.le_of_eq (am_ls_mono h1).1.symm, Nat.le_of_eq (am_ls_mono h1).2.symm⟩)
    | (obtain ⟨x, h1, h2⟩ := Option.bind_eq_some_iff.mp h; exact ⟨_, _, _, _, h2, Nat.le_of_eq (am_as_mono h1).1.symm, Nat.le_of_eq (am_as_mono h1).2.symm⟩)
    | (obtain ⟨x, h1, h2⟩ := Option.bind_eq_some_iff.mp h; exact ⟨_, _, _, _, h2, by rw [(am_na_mono h1).1]; exact Nat.le_succ _, (am_na_mono h1).2⟩)
    | exact ⟨_, _, _, _, h, by show M.1 ≤ M.1 + 1 + _; omega, by show M.2.1 ≤ M.2.1 + _ + _; omega⟩
theorem am_back_some {rk : Nat} {q : Option am_R} {rest : List Value} {k : List Value → am_M → Option am_R} {r : am_R} (h : am_back rk q rest k = some r) : ∃ v M2, q = some (.inl v, M2) ∧ k (v.toList ++ rest) M2 = some r := by
  unfold am_back at h
  split at h
  · unfold am_ret0 at h
    split at h
    · exact ⟨none, _, rfl, h⟩
    · cases h
  · unfold am_ret1 at h
    split at h
    · exact ⟨some (.int _), _, rfl, h⟩
    · cases h
  · unfold am_ret2 at h
    split at h
    · exact ⟨some (.ref _), _, rfl, h⟩
    · cases h
  · unfold am_ret3 at h
    split at h
    · exact ⟨some (.ref _), _, rfl, h⟩
    · exact ⟨some .null, _, rfl, h⟩
    · cases h
theorem am_ret0_some {q : Option am_R} {k : am_M → Option am_R} {r : am_R} (h : am_ret0 q k = some r) : ∃ M2, q = some (.inl none, M2) ∧ k M2 = some r := by
  unfold am_ret0 at h
  split at h
  · exact ⟨_, rfl, h⟩
  · cases h
theorem am_thr_some {q : Option am_R} {hs : List Nat} {k : Nat → Nat → am_M → Option am_R} {go : Option am_R} {r : am_R} (h : am_thr q hs k go = some r) : (∃ a M2 c fs hp, q = some (.inr a, M2) ∧ M2.2.2 a = some (.inr (c, fs)) ∧ am_hd c hs = some hp ∧ k hp a M2 = some r) ∨ go = some r := by
  unfold am_thr at h
  split at h
  · split at h
    · obtain ⟨hp, h1, h2⟩ := Option.bind_eq_some_iff.mp h
      rename_i c fs hc
      exact .inl ⟨_, _, c, fs, hp, rfl, hc, h1, h2⟩
    · cases h
  · exact .inr h
set_option maxHeartbeats 2000000 in
theorem am_run_mono : ∀ (n : Nat) {P : am_P} {d mi pc : Nat} {al : am_L} {st : List Value} {M : am_M} {r : am_R}, am_run n P d mi pc al st M = some r → M.1 ≤ r.2.1 ∧ M.2.1 ≤ r.2.2.1 := by
  intro n
  induction n with
  | zero => intro P d mi pc al st M r h; cases h
  | succ n ih =>
    intro P d mi pc al st M r h
    unfold am_run at h
    split at h
    · cases h
    · unfold am_exec at h
      split at h
      · -- ireturn
        split at h
        · split at h
          · cases h; exact ⟨Nat.le_refl _, Nat.le_refl _⟩
          · cases h
        · cases h
      · split at h
        · split at h
          · cases h; exact ⟨Nat.le_refl _, Nat.le_refl _⟩
          · cases h
        · split at h
          · cases h; exact ⟨Nat.le_refl _, Nat.le_refl _⟩
          · cases h
        · cases h
      · split at h
        · split at h
          · cases h; exact ⟨Nat.le_refl _, Nat.le_refl _⟩
          · cases h
        · cases h
      · split at h
        · split at h
          · cases h; exact ⟨Nat.le_succ _, Nat.le_add_right _ _⟩
          · cases h
        · obtain ⟨h1, h2⟩ := ih h
          have h1 : _ + 1 ≤ r.2.1 := h1
          have h2 : _ + _ ≤ r.2.2.1 := h2
          exact ⟨by omega, by omega⟩
        · cases h
      · -- invokevirtual
        split at h
        · split at h
          · split at h
            · split at h
              · split at h
                · obtain ⟨v, M2, h1, h2⟩ := am_back_some h
                  have a1 := ih h1
                  have a2 := ih h2
                  exact ⟨Nat.le_trans a1.1 a2.1, Nat.le_trans a1.2 a2.2⟩
                · rcases am_thr_some h with ⟨a, M2, c, fs, hp, h1, -, -, h2⟩ | h
                  · have a1 := ih h1
                    have a2 := ih h2
                    exact ⟨Nat.le_trans a1.1 a2.1, Nat.le_trans a1.2 a2.2⟩
                  · obtain ⟨v, M2, h1, h2⟩ := am_back_some h
                    have a1 := ih h1
                    have a2 := ih h2
                    exact ⟨Nat.le_trans a1.1 a2.1, Nat.le_trans a1.2 a2.2⟩
              · cases h
            · cases h
          · cases h
        · cases h
      · -- invokestatic
        split at h
        · split at h
          · split at h
            · obtain ⟨M2, h1, h2⟩ := Option.bind_eq_some_iff.mp h
              have a2 := ih h2
              obtain ⟨e1, e2⟩ := am_cpy_mono h1
              rw [e1, e2] at a2
              exact a2
            · cases h
          · cases h
        · split at h
          · obtain ⟨v, M2, h1, h2⟩ := am_back_some h
            have a1 := ih h1
            have a2 := ih h2
            exact ⟨Nat.le_trans a1.1 a2.1, Nat.le_trans a1.2 a2.2⟩
          · cases h
        · cases h
      · -- invokespecial
        split at h
        · split at h
          · split at h
            · exact ih h
            · cases h
          · cases h
        · split at h
          · split at h
            · obtain ⟨M2, h1, h2⟩ := am_ret0_some h
              have a1 := ih h1
              have a2 := ih h2
              exact ⟨Nat.le_trans a1.1 a2.1, Nat.le_trans a1.2 a2.2⟩
            · cases h
          · cases h
        · cases h
      · obtain ⟨pc2, al2, st2, M2, h1, h2, h3⟩ := am_ins_cont h
        have a2 := ih h1
        exact ⟨Nat.le_trans h2 a2.1, Nat.le_trans h3 a2.2⟩
