/-! RUNS WITHOUT FUEL -/
theorem am_ins_nat {P : am_P} {i : Instr} {len : Nat} {tg : List Nat} {pc : Nat} {al : am_L} {st : List Value} {M : am_M} {k : Nat → am_L → List Value → am_M → Option am_R} {r : am_R} (h : am_ins P i len tg pc al st M k = some r) : ∃ pc2 al2 st2 M2, k pc2 al2 st2 M2 = some r ∧ ∀ k' : Nat → am_L → List Value → am_M → Option am_R, am_ins P i len tg pc al st M k' = k' pc2 al2 st2 M2 := by
  unfold am_ins at h ⊢
  split at h
  all_goals (repeat' split at h)
  all_goals first
    | (cases h; done)
    | exact ⟨_, _, _, _, h, fun k' => rfl⟩
    | exact ⟨_, _, _, _, h, fun k' => by simp_all⟩
    | (obtain ⟨x, h1, h2⟩ := Option.bind_eq_some_iff.mp h; exact ⟨_, _, _, _, h2, fun k' => by first | (simp [h1]; done) | (simp_all; done) | (simp_all; intro q; omega)⟩)
    | (obtain ⟨x, h1, h2⟩ := Option.bind_eq_some_iff.mp h; exact ⟨_, _, _, _, h2, fun k' => by simp_all⟩)
/-- a question to a run: its place, and the answer -/
abbrev am_Qy : Type := (Nat × Nat × Nat × am_L × List Value × am_M) × am_R
def am_ask (rn : Nat → Nat → Nat → am_L → List Value → am_M → Option am_R) (q : am_Qy) : Prop := rn q.1.1 q.1.2.1 q.1.2.2.1 q.1.2.2.2.1 q.1.2.2.2.2.1 q.1.2.2.2.2.2 = some q.2
theorem am_L1 {rn : Nat → Nat → Nat → am_L → List Value → am_M → Option am_R} {d mi pc : Nat} {al : am_L} {st : List Value} {M : am_M} {r : am_R} {X : (Nat → Nat → Nat → am_L → List Value → am_M → Option am_R) → Prop} (h1 : rn d mi pc al st M = some r) (h : ∀ rn', rn' d mi pc al st M = some r → X rn') : ∃ L : List am_Qy, (∀ q ∈ L, am_ask rn q) ∧ ∀ rn', (∀ q ∈ L, am_ask rn' q) → X rn' :=
  ⟨[((d, mi, pc, al, st, M), r)], fun q hq => by rw [List.mem_singleton.mp hq]; exact h1, fun rn' hq => h rn' (hq _ List.mem_cons_self)⟩
theorem am_L2 {rn : Nat → Nat → Nat → am_L → List Value → am_M → Option am_R} {d mi pc : Nat} {al : am_L} {st : List Value} {M : am_M} {r : am_R} {d' mi' pc' : Nat} {al' : am_L} {st' : List Value} {M' : am_M} {r' : am_R} {X : (Nat → Nat → Nat → am_L → List Value → am_M → Option am_R) → Prop} (h1 : rn d mi pc al st M = some r) (h2 : rn d' mi' pc' al' st' M' = some r') (h : ∀ rn', rn' d mi pc al st M = some r → rn' d' mi' pc' al' st' M' = some r' → X rn') : ∃ L : List am_Qy, (∀ q ∈ L, am_ask rn q) ∧ ∀ rn', (∀ q ∈ L, am_ask rn' q) → X rn' :=
  ⟨[((d, mi, pc, al, st, M), r), ((d', mi', pc', al', st', M'), r')], fun q hq => by
    rcases List.mem_cons.mp hq with rfl | hq
    · exact h1
    · rw [List.mem_singleton.mp hq]; exact h2, fun rn' hq => h rn' (hq _ List.mem_cons_self) (hq _ (List.mem_cons_of_mem _ List.mem_cons_self))⟩
theorem am_back_nat {rk : Nat} {q : Option am_R} {rest : List Value} {k : List Value → am_M → Option am_R} {r : am_R} (h : am_back rk q rest k = some r) : ∃ v M2, q = some (.inl v, M2) ∧ k (v.toList ++ rest) M2 = some r ∧ ∀ k', am_back rk (some (.inl v, M2)) rest k' = k' (v.toList ++ rest) M2 := by
  unfold am_back at h ⊢
  split at h
  · unfold am_ret0 at h
    split at h
    · exact ⟨none, _, rfl, h, fun _ => rfl⟩
    · cases h
  · unfold am_ret1 at h
    split at h
    · exact ⟨some (.int _), _, rfl, h, fun _ => rfl⟩
    · cases h
  · unfold am_ret2 at h
    split at h
    · exact ⟨some (.ref _), _, rfl, h, fun _ => rfl⟩
    · cases h
  · unfold am_ret3 at h
    split at h
    · refine ⟨some (.ref _), _, rfl, h, fun _ => ?_⟩
      simp [am_ret3]
    · refine ⟨some .null, _, rfl, h, fun _ => ?_⟩
      simp [am_ret3]
    · cases h
theorem am_exec_nat {rn : Nat → Nat → Nat → am_L → List Value → am_M → Option am_R} {P : am_P} {d mi pc : Nat} {al : am_L} {st : List Value} {M : am_M} {i : Instr} {len : Nat} {tg : List Nat} {r : am_R} (h : am_exec rn P d mi pc al st M i len tg = some r) :
    ∃ L : List am_Qy, (∀ q ∈ L, am_ask rn q) ∧ ∀ rn', (∀ q ∈ L, am_ask rn' q) → am_exec rn' P d mi pc al st M i len tg = some r := by
  have h0 := h
  unfold am_exec at h
  split at h
  · exact ⟨[], fun q hq => by simp at hq, fun rn' _ => h0⟩
  · exact ⟨[], fun q hq => by simp at hq, fun rn' _ => h0⟩
  · exact ⟨[], fun q hq => by simp at hq, fun rn' _ => h0⟩
  · split at h
    · exact ⟨[], fun q hq => by simp at hq, fun rn' _ => h0⟩
    · exact am_L1 h fun rn' q => q
    · cases h
  · split at h
    · rename_i m2 na rk ci hs d2
      split at h
      · rename_i hc
        split at h
        · rename_i a rest hst
          split at h
          · rename_i hcl
            split at h
            · rename_i hhs
              obtain ⟨v, M2, h1, h2, h3⟩ := am_back_nat h
              refine am_L2 h1 h2 fun rn' q1 q2 => ?_
              simp only [am_exec, if_pos hc, hst, if_pos hcl, if_pos hhs, q1]
              rw [h3]
              exact q2
            · rename_i hhs
              rcases am_thr_some h with ⟨x, M2, c, fs, hp, h1, h4, h5, h2⟩ | h
              · refine am_L2 h1 h2 fun rn' q1 q2 => ?_
                simp only [am_exec, if_pos hc, hst, if_pos hcl, if_neg hhs, q1, am_thr, h4, h5, Option.bind_some]
                exact q2
              · obtain ⟨v, M2, h1, h2, h3⟩ := am_back_nat h
                refine am_L2 h1 h2 fun rn' q1 q2 => ?_
                simp only [am_exec, if_pos hc, hst, if_pos hcl, if_neg hhs, q1, am_thr]
                rw [h3]
                exact q2
          · cases h
        · cases h
      · cases h
    · cases h
  · split at h
    · split at h
      · split at h
        · rename_i hw
          obtain ⟨M2, h1, h2⟩ := Option.bind_eq_some_iff.mp h
          refine am_L1 h2 fun rn' q2 => ?_
          simp only [am_exec, if_pos hw, h1, Option.bind_some]
          exact q2
        · cases h
      · cases h
    · split at h
      · rename_i hc
        obtain ⟨v, M2, h1, h2, h3⟩ := am_back_nat h
        refine am_L2 h1 h2 fun rn' q1 q2 => ?_
        simp only [am_exec, if_pos hc, q1]
        rw [h3]
        exact q2
      · cases h
    · cases h
  · split at h
    · split at h
      · split at h
        · rename_i hw
          refine am_L1 h fun rn' q2 => ?_
          simp only [am_exec, if_pos hw]
          exact q2
        · cases h
      · cases h
    · split at h
      · rename_i hc
        split at h
        · rename_i a rest hst
          obtain ⟨M2, h1, h2⟩ := am_ret0_some h
          refine am_L2 h1 h2 fun rn' q1 q2 => ?_
          simp only [am_exec, if_pos hc, hst, q1, am_ret0]
          exact q2
        · cases h
      · cases h
    · cases h
  · obtain ⟨pc2, al2, st2, M2, h1, h2⟩ := am_ins_nat h
    refine am_L1 h1 fun rn' h3 => ?_
    unfold am_exec
    split
    all_goals first | exact (h2 _).trans h3 | (exfalso; simp_all; done)
theorem am_run_up : ∀ (n : Nat) {P : am_P} {d mi pc : Nat} {al : am_L} {st : List Value} {M : am_M} {r : am_R}, am_run n P d mi pc al st M = some r → am_run (n + 1) P d mi pc al st M = some r
  | 0, _, _, _, _, _, _, _, _, h => by cases h
  | n + 1, P, d, mi, pc, al, st, M, r, h => by
    unfold am_run at h ⊢
    split at h
    · cases h
    · rename_i i len tg hrow
      obtain ⟨L, h1, h2⟩ := am_exec_nat h
      exact h2 _ fun q hq => am_run_up n (h1 q hq)
theorem am_run_le {P : am_P} {d mi pc : Nat} {al : am_L} {st : List Value} {M : am_M} {r : am_R} {n k : Nat} (hk : n ≤ k) (h : am_run n P d mi pc al st M = some r) : am_run k P d mi pc al st M = some r := by
  induction hk with
  | refl => exact h
  | step _ ih => exact am_run_up _ ih
/-- what a run comes to, whatever the fuel -/
noncomputable def am_gg (P : am_P) (d mi pc : Nat) (al : am_L) (st : List Value) (M : am_M) : Option am_R := Classical.epsilon (fun o : Option am_R => (∀ r, o = some r ↔ ∃ n, am_run n P d mi pc al st M = some r))
theorem am_gg_iff {P : am_P} {d mi pc : Nat} {al : am_L} {st : List Value} {M : am_M} {r : am_R} : am_gg P d mi pc al st M = some r ↔ ∃ n, am_run n P d mi pc al st M = some r := by
  have h : ∃ o : Option am_R, ∀ r, o = some r ↔ ∃ n, am_run n P d mi pc al st M = some r := by
    by_cases hn : ∃ r n, am_run n P d mi pc al st M = some r
    · obtain ⟨r, n, hr⟩ := hn
      refine ⟨some r, fun r2 => ⟨fun e => ?_, fun ⟨n2, h2⟩ => ?_⟩⟩
      · cases e; exact ⟨n, hr⟩
      · have a1 := am_run_le (Nat.le_max_left n n2) hr
        have a2 := am_run_le (Nat.le_max_right n n2) h2
        rw [← a1, a2]
    · refine ⟨none, fun r2 => ⟨fun e => (by cases e), fun ⟨n2, h2⟩ => absurd ⟨r2, n2, h2⟩ hn⟩⟩
  exact Classical.epsilon_spec h r
theorem am_gg_eq (P : am_P) (d mi pc : Nat) (al : am_L) (st : List Value) (M : am_M) : am_gg P d mi pc al st M = match P.1 mi pc with
    | none => none
    | some (i, len, tg) => am_exec (am_gg P) P d mi pc al st M i len tg := by
  apply Option.ext
  intro r
  rw [am_gg_iff]
  constructor
  · rintro ⟨n, h⟩
    cases n with
    | zero => cases h
    | succ n =>
      unfold am_run at h
      split at h
      · cases h
      · rename_i i len tg hrow
        obtain ⟨L, h1, h2⟩ := am_exec_nat h
        rw [hrow]
        exact h2 _ fun q hq => am_gg_iff.mpr ⟨n, h1 q hq⟩
  · intro h
    split at h
    · cases h
    · rename_i i len tg hrow
      obtain ⟨L, h1, h2⟩ := am_exec_nat h
      have : ∃ n, ∀ q ∈ L, am_ask (am_run n P) q := by
        clear h2 h
        induction L with
        | nil => exact ⟨0, fun q hq => by simp at hq⟩
        | cons q L ih =>
          obtain ⟨n, hn⟩ := ih (fun q hq => h1 q (List.mem_cons_of_mem _ hq))
          obtain ⟨k, hk⟩ := am_gg_iff.mp (h1 q List.mem_cons_self)
          refine ⟨max n k, fun q2 hq2 => ?_⟩
          rcases List.mem_cons.mp hq2 with rfl | hq2
          · exact am_run_le (Nat.le_max_right n k) hk
          · exact am_run_le (Nat.le_max_left n k) (hn q2 hq2)
      obtain ⟨n, hn⟩ := this
      refine ⟨n + 1, ?_⟩
      unfold am_run
      rw [hrow]
      exact h2 _ hn
