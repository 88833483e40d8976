/-! RUN ANSWERS ALIKE; THE CLAIM -/
section WR
variable {G : Nat → Option va_E} {b s L : Nat} {xs : Nat → Int32} {ad : Nat → Nat} {o : Int64} {μ : m_S} {σ : c_S b} {t : List Int} {F : Nat → List (List Int)} {th : Nat → Bool} {fc fl fs : Int}
/-- run answers alike, over the memory that the class's run left -/
def w_run2 (G : Nat → Option va_E) (ad : Nat → Nat) (b : Nat) : Prop := ∀ (o : Int64) (σ : c_S b) (μ : m_S), w_V σ μ → ∃ (v : Int) (σ' : c_S b) (μ' : m_S), am_gg (am_pr ad) 13 37 0 [some (.ref b), none, none, none, none] [] (c_t (w_R G b o μ) σ) = some (.inl (some (.int (h_ii v))), c_t (w_R G b o μ) σ') ∧ am_gg (am_pr ad) 13 173 0 [some (.ref (b + 81)), none] [] (m_t (c_t (w_R G b o μ) σ') (b + 81) μ) = some (.inl (some (.int (h_ii v))), m_t (c_t (w_R G b o μ) σ') (b + 81) μ') ∧ c_rs 0 σ σ' ∧ w_V σ' μ'
theorem w_runK2 {i : Int} (hr : w_run2 G ad b) (h : w_V σ μ) : w_K G ad b s 359 i o σ μ := by
  intro o5 o6
  obtain ⟨v, σ', μ', e1, e2, r1, v1⟩ := hr o σ μ h
  rw [w_m, w_m] at e2
  refine ⟨o, σ', μ', o5, o6, ?_, r1.mono (by decide), v1⟩
  rw [B0_359, if_pos cl_0, e1]
  simp only [am_ret1, if_pos w_cl9, e2, w_eq, if_true]
end WR
section LP2
variable {G : Nat → Option va_E} {b s L : Nat} {xs : Nat → Int32} {ad : Nat → Nat}
theorem w_op2 (hS : w_S G b s L xs) (hr : w_run2 G ad b) {i : Int} (h0 : 0 ≤ i) (h1 : i + 5 < L) {o : Int64} {σ : c_S b} {μ : m_S} (h : w_V σ μ) (o5 o6 : Option Value) :
    ∃ (o' : Int64) (σ' : c_S b) (μ' : m_S) (o5' o6' : Option Value), am_gg (am_pr ad) 14 0 23 [some (.ref s), some (.ref b), some (.ref (b + 81)), some (.ref (b + 104)), some (.int (h_ii i)), o5, o6] [] (c_t (w_R G b o μ) σ) = am_gg (am_pr ad) 14 0 23 [some (.ref s), some (.ref b), some (.ref (b + 81)), some (.ref (b + 104)), some (.int (h_ii (i + 6))), o5', o6'] [] (c_t (w_R G b o' μ') σ') ∧ c_rs 1 σ σ' ∧ w_V σ' μ' := by
  have hL := hS.2.1
  obtain ⟨z, hz, hb⟩ := v_bd (x := xs i.toNat)
  have hm0 := Int.emod_nonneg z (show (16 : Int) ≠ 0 by decide)
  have hm1 := Int.emod_lt_of_pos z (show (0 : Int) < 16 by decide)
  have hti : (h_ii (z % 16)).toInt = z % 16 := h_toInt (by omega) (by omega)
  have go : ∀ pc, w_K G ad b s pc i o σ μ → am_gg (am_pr ad) 14 0 23 [some (.ref s), some (.ref b), some (.ref (b + 81)), some (.ref (b + 104)), some (.int (h_ii i)), o5, o6] [] (c_t (w_R G b o μ) σ) = am_gg (am_pr ad) 14 0 pc [some (.ref s), some (.ref b), some (.ref (b + 81)), some (.ref (b + 104)), some (.int (h_ii i)), o5, o6] [] (c_t (w_R G b o μ) σ) → ∃ (o' : Int64) (σ' : c_S b) (μ' : m_S) (o5' o6' : Option Value), am_gg (am_pr ad) 14 0 23 [some (.ref s), some (.ref b), some (.ref (b + 81)), some (.ref (b + 104)), some (.int (h_ii i)), o5, o6] [] (c_t (w_R G b o μ) σ) = am_gg (am_pr ad) 14 0 23 [some (.ref s), some (.ref b), some (.ref (b + 81)), some (.ref (b + 104)), some (.int (h_ii (i + 6))), o5', o6'] [] (c_t (w_R G b o' μ') σ') ∧ c_rs 1 σ σ' ∧ w_V σ' μ' := by
    intro pc hK he
    obtain ⟨o', σ', μ', p5, p6, e1, e2, e3⟩ := hK o5 o6
    refine ⟨o', σ', μ', p5, p6, ?_, e2, e3⟩
    rw [he, e1, B0_615, h_nI, h_add]
    rfl
  have hd : am_gg (am_pr ad) 14 0 23 [some (.ref s), some (.ref b), some (.ref (b + 81)), some (.ref (b + 104)), some (.int (h_ii i)), o5, o6] [] (c_t (w_R G b o μ) σ) = if z % 16 < 0 ∨ 10 < z % 16 then am_gg (am_pr ad) 14 0 615 [some (.ref s), some (.ref b), some (.ref (b + 81)), some (.ref (b + 104)), some (.int (h_ii i)), o5, o6] [] (c_t (w_R G b o μ) σ) else ([100, 204, 240, 296, 359, 372, 385, 398, 411, 467, 535][(z % 16 - 0).toNat]?).bind (fun t3 => am_gg (am_pr ad) 14 0 t3 [some (.ref s), some (.ref b), some (.ref (b + 81)), some (.ref (b + 104)), some (.int (h_ii i)), o5, o6] [] (c_t (w_R G b o μ) σ)) := by
    rw [B0_23, w_len hS, Option.bind_some, h_nI 6, h_sub, if_neg (of_eq_false (h_cgtF (by omega) (by omega) (by omega) (by omega) (by omega))), w_x hS h0 (by omega), Option.bind_some, hz, h_nI 15]
    rw [show ((15 : Nat) : Int) = 15 from rfl, h_and15, hti]
  by_cases q : 10 < z % 16
  · refine go 615 ?_ (by rw [hd, if_pos (.inr q)])
    intro o5 o6
    exact ⟨o, σ, μ, o5, o6, rfl, c_rs.refl1 σ, h⟩
  · rw [if_neg (by omega)] at hd
    have hc : z % 16 = 0 ∨ z % 16 = 1 ∨ z % 16 = 2 ∨ z % 16 = 3 ∨ z % 16 = 4 ∨ z % 16 = 5 ∨ z % 16 = 6 ∨ z % 16 = 7 ∨ z % 16 = 8 ∨ z % 16 = 9 ∨ z % 16 = 10 := by omega
    rcases hc with q | q | q | q | q | q | q | q | q | q | q <;> rw [q] at hd
    · exact go 100 (w_feed hS h0 h1 h) hd
    · exact go 204 (w_end hS h0 h1 h) hd
    · exact go 240 (w_store hS h0 h1 h) hd
    · exact go 296 (w_drop hS h0 h1 h) hd
    · exact go 359 (w_runK2 hr h) hd
    · exact go 372 (w_fault h) hd
    · exact go 385 (w_line h) hd
    · exact go 398 (w_side h) hd
    · exact go 411 (w_lines hS h0 h1 h) hd
    · exact go 467 (w_length hS h0 h1 h) hd
    · exact go 535 (w_byteAt hS h0 h1 h) hd
theorem w_loop2 (hS : w_S G b s L xs) (hr : w_run2 G ad b) : ∀ (n : Nat) (i : Nat) {o : Int64} {σ : c_S b} {μ : m_S} (o5 o6 : Option Value), L - i ≤ 6 * n → i ≤ L + 6 → w_V σ μ →
    ∃ (o' : Int64) (σ' : c_S b) (μ' : m_S), am_gg (am_pr ad) 14 0 23 [some (.ref s), some (.ref b), some (.ref (b + 81)), some (.ref (b + 104)), some (.int (h_ii i)), o5, o6] [] (c_t (w_R G b o μ) σ) = some (.inl (some (.int (h_ii 1))), c_t (w_R G b o' μ') σ') ∧ c_rs n σ σ' ∧ w_V σ' μ' := by
  have hL := hS.2.1
  have fin : ∀ (i : Nat) {o : Int64} {σ : c_S b} {μ : m_S} (o5 o6 : Option Value), i ≤ 4000 → L < i + 6 → am_gg (am_pr ad) 14 0 23 [some (.ref s), some (.ref b), some (.ref (b + 81)), some (.ref (b + 104)), some (.int (h_ii i)), o5, o6] [] (c_t (w_R G b o μ) σ) = some (.inl (some (.int (h_ii 1))), c_t (w_R G b o μ) σ) := by
    intro i o σ μ o5 o6 hi hlt
    rw [B0_23, w_len hS, Option.bind_some, h_nI 6, h_sub, if_pos (of_eq_true (h_cgtT (by omega) (by omega) (by omega) (by omega) (by omega)))]
    rfl
  intro n
  induction n with
  | zero =>
    intro i o σ μ o5 o6 hn hi h
    exact ⟨o, σ, μ, fin i o5 o6 (by omega) (by omega), c_rs.of (c_rm.refl σ), h⟩
  | succ n ih =>
    intro i o σ μ o5 o6 hn hi h
    by_cases q : i + 5 < L
    · obtain ⟨o1, s1, m1, p5, p6, e1, r1, v1⟩ := w_op2 hS hr (i := i) (by omega) (by omega) h o5 o6
      obtain ⟨o2, s2, m2, e2, r2, v2⟩ := ih (i + 6) p5 p6 (by omega) (by omega) v1
      refine ⟨o2, s2, m2, ?_, ?_, v2⟩
      · rw [e1]
        exact e2
      · have := r1.trans r2
        rw [Nat.add_comm] at this
        exact this
    · exact ⟨o, σ, μ, fin i o5 o6 (by omega) (by omega), (c_rs.of (c_rm.refl σ)).mono (by omega), h⟩
/-- the law's whole run, if run answers alike -/
theorem w_final2 {base : Nat} (hG : ∀ q, base ≤ q → G q = none) (hS : w_S G base s L xs) (hr : w_run2 G ad base) : ∃ M2 : am_M, am_gg (am_pr ad) 14 0 0 [some (.ref s), none, none, none, none, none, none] [] (base, 0, G) = some (.inl (some (.int 1)), M2) ∧ M2.1 ≤ base + 601024 ∧ M2.2.1 ≤ 7293034 := by
  have hL := hS.2.1
  have h0 : ((base, 0, G) : am_M) = k_mk G base [] 0 := by
    unfold k_mk
    refine congrArg (fun z => (base, 0, z)) (funext fun q => ?_)
    by_cases h : q < base
    · rw [if_pos h]
    · rw [if_neg h, hG q (by omega)]
      rfl
  obtain ⟨o', σ', μ', e1, r1, v1⟩ := w_loop2 hS hr 512 0 (o := 0) (σ := s_σ base ad (0 + 3248 + 1010994 + 1)) (μ := s_μ) none none (by omega) (by omega) ⟨_, _, _, _, _, _, s_cV, s_mV⟩
  refine ⟨c_t (w_R G base o' μ') σ', ?_, ?_, ?_⟩
  · rw [h0, B0_0, K1]
    simp only [am_ret0]
    rw [K10]
    simp only [am_ret0]
    rw [k_na3 (by decide), Option.bind_some]
    simp only [k_1, List.length_append, s_lenX, s_lenM, List.length_nil, Nat.add_zero, Nat.reduceAdd]
    rw [List.append_assoc, s_mem, h_nI]
    exact e1
  · obtain ⟨t, F, th, fc, fl, fs, hC, -⟩ := v1
    have hb := (w_bound hC).2
    have := r1.2
    show σ'.nx ≤ base + 601024
    have hn : (s_σ base ad (0 + 3248 + 1010994 + 1)).nx = base + 105 := rfl
    omega
  · obtain ⟨t, F, th, fc, fl, fs, hC, -⟩ := v1
    have hb := (w_bound hC).1
    have := r1.1
    show σ'.sl ≤ 7293034
    have hn : (s_σ base ad (0 + 3248 + 1010994 + 1)).sl = 0 + 3248 + 1010994 + 1 := rfl
    omega
end LP2
theorem w_gq {G : Nat → Option va_E} {ad gk gv : Nat → Nat} {b L base : Nat} {xs : Nat → Int32} {o : Int64} {μ : m_S} (hg : am_gnd G ad gk gv b L xs base) : c_gq (w_R G base o μ) base ad gk gv := by
  have lw : ∀ a e, G a = some e → a < base ∧ w_R G base o μ a = some e := by
    intro a e h
    have h1 := hg.2.1 a e h
    refine ⟨h1, ?_⟩
    unfold w_R
    rw [if_pos h1]
    exact h
  refine ⟨fun t ht => lw _ _ ((hg.1 _ _).mpr (.inl ⟨t, ht, rfl, rfl⟩)), fun i hi => lw _ _ ((hg.1 _ _).mpr (.inr (.inl ⟨i, hi, rfl, rfl⟩))), fun i hi => lw _ _ ((hg.1 _ _).mpr (.inr (.inr (.inl ⟨i, hi, rfl, rfl⟩)))), lw _ _ ((hg.1 _ _).mpr (.inr (.inr (.inr (.inl ⟨rfl, rfl⟩))))), lw _ _ ((hg.1 _ _).mpr (.inr (.inr (.inr (.inr (.inl ⟨rfl, rfl⟩)))))), hg.2.2.2, hg.2.2.1⟩
theorem w_run_all {G : Nat → Option va_E} {ad gk gv : Nat → Nat} {b L base : Nat} {xs : Nat → Int32} (hg : am_gnd G ad gk gv b L xs base) : w_run2 G ad base := by
  intro o σ μ hw
  obtain ⟨t, F, th, fc, fl, fs, hC, hM⟩ := hw
  obtain ⟨σ', e1, m1, c1⟩ := v_run (R := w_R G base o μ) (ad := ad) (d := 4) (w_gq hg) hC
  obtain ⟨μ', e2, c2⟩ := n_run (M := c_t (w_R G base o μ) σ') (m := base + 81) (ad := ad) (d := 1) hM
  refine ⟨z_an (z_run t F th), σ', μ', e1, e2, .of m1, ?_⟩
  cases hr : z_run t F th with
  | inl x =>
    rw [hr] at c1 c2
    exact ⟨[], F, th, x.1, x.2.2.1, x.2.2.2, c1, c2⟩
  | inr y =>
    rw [hr] at c1 c2
    exact ⟨[], z_Fk F y.1 y.2, z_tk th y.1, 0, 0, 0, c1, c2⟩
theorem am_claim_all : am_claim := by
  intro G ad gk gv b L xs base hL hg
  have hb : G b = some (am_eX L xs) := (hg.1 b (am_eX L xs)).mpr (.inr (.inr (.inr (.inr (.inr ⟨rfl, rfl⟩)))))
  refine w_final2 ?_ ⟨hg.2.1 b _ hb, hL, hb⟩ (w_run_all hg)
  intro q hq
  cases hc : G q with
  | none => rfl
  | some e => exact absurd (hg.2.1 q e hc) (by omega)
