/-! THE MEMORY BEHIND THE CONSTRUCTORS -/
section S1
variable {G : Nat → Option va_E} {base : Nat} {ad : Nat → Nat}
theorem s_lenX : (k_X base ad).length = 81 := rfl
theorem s_lenM {m : Nat} : (k_M m).length = 23 := rfl
theorem s_dyn : ∀ k : Fin 81, c_kd k.val = 0 → k.val = 6 ∨ k.val = 16 ∨ (k.val = 1 ∨ k.val = 7 ∨ (29 ≤ k.val ∧ k.val ≤ 36)) ∨ (1 ≤ k.val ∧ c_lp (k.val - 1)) ∨ (2 ≤ k.val ∧ c_lp (k.val - 2)) := by decide
theorem s_mc {k : Nat} (hk : k < 23) : (k_M (base + 81))[k]? = m_ce (base + 81) s_μ k := by
  match k, hk with
  | 0, _ => rfl
  | 1, _ => rfl
  | 2, _ => rfl
  | 3, _ => rfl
  | 4, _ =>
    show some (.inl (2, 13, .inl (upd (upd (fun _ => 0) 10 (am_nar 2 (nI 1))) 11 (am_nar 2 (nI 1)))) : va_E) = some (.inl (2, 13, .inl (fun i => h_ii (if 4 = 4 ∧ (i = 10 ∨ i = 11) then 1 else if 4 = 12 then m_nm.getD i 0 else 0))))
    refine congrArg (fun f => some (.inl (2, 13, .inl f) : va_E)) (funext fun j => ?_)
    unfold upd
    by_cases h : j = 11
    · rw [if_pos h, if_pos ⟨rfl, .inr h⟩]; rfl
    · rw [if_neg h]
      by_cases h2 : j = 10
      · rw [if_pos h2, if_pos ⟨rfl, .inl h2⟩]; rfl
      · rw [if_neg h2, if_neg (by omega), if_neg (by decide)]; rfl
  | 5, _ => rfl
  | 6, _ => rfl
  | 7, _ => rfl
  | 8, _ => rfl
  | 9, _ => rfl
  | 10, _ => rfl
  | 11, _ => rfl
  | 12, _ =>
    show some (.inl (3, 13, .inr (.inl k_nm)) : va_E) = some (.inl (3, 13, .inr (.inl (fun i => Int64.ofInt (if 12 = 4 ∧ (i = 10 ∨ i = 11) then 1 else if 12 = 12 then m_nm.getD i 0 else 0)))))
    refine congrArg (fun f => some (.inl (3, 13, .inr (.inl f)) : va_E)) (funext fun j => ?_)
    rw [if_neg (by omega), if_pos rfl]
    match j with
    | 0 => rfl
    | 1 => rfl
    | 2 => rfl
    | 3 => rfl
    | 4 => rfl
    | 5 => rfl
    | 6 => rfl
    | 7 => rfl
    | 8 => rfl
    | 9 => rfl
    | 10 => rfl
    | 11 => rfl
    | 12 => rfl
    | n + 13 =>
      have e1 : m_nm.getD (n + 13) 0 = 0 := rfl
      have e2 : k_nm (n + 13) = 0 := by
        unfold k_nm vp_updL
        simp
      rw [e1, e2]
      rfl
  | 13, _ => rfl
  | 14, _ => rfl
  | 15, _ => rfl
  | 16, _ => rfl
  | 17, _ => rfl
  | 18, _ => rfl
  | 19, _ => rfl
  | 20, _ => rfl
  | 21, _ => rfl
  | 22, _ => rfl
  | n + 23, h => exact absurd h (by omega)
theorem s_mem {sl : Nat} : k_mk G base (k_X base ad ++ (k_M (base + 81) ++ [.inl (3, 1, .inr (.inl (fun _ => 0)))])) sl = c_t (w_R G base 0 s_μ) (s_σ base ad sl) := by
  unfold k_mk
  have hlen : (k_X base ad ++ (k_M (base + 81) ++ [(.inl (3, 1, .inr (.inl (fun _ => 0))) : va_E)])).length = 105 := by
    rw [List.length_append, List.length_append, s_lenX, s_lenM]; rfl
  rw [hlen]
  refine congrArg (fun z => (base + 105, sl, z)) (funext fun q => ?_)
  show _ = c_ce (w_R G base 0 s_μ) (s_σ base ad sl) q
  by_cases h1 : q < base
  · rw [if_pos h1]
    unfold c_ce w_R
    rw [if_pos (.inl h1), if_pos h1]
  · rw [if_neg h1]
    obtain ⟨k, rfl⟩ : ∃ k, q = base + k := ⟨q - base, by omega⟩
    rw [Nat.add_sub_cancel_left]
    by_cases h2 : k < 81
    · rw [List.getElem?_append_left (by rw [s_lenX]; exact h2)]
      by_cases h3 : c_kd k = 0
      · have hd := s_dyn ⟨k, h2⟩ h3
        dsimp only at hd
        unfold c_ce
        rw [if_neg (by omega)]
        show _ = (if s_ro base (base + k) = 0 then (if c_kd (base + k - base) = 0 then _ else _) else c_dy (s_σ base ad sl) (s_ro base (base + k)))
        rw [Nat.add_sub_cancel_left]
        by_cases h4 : k = 6 ∨ k = 16
        · have hr : s_ro base (base + k) = 0 := by
            unfold s_ro
            rw [Nat.add_sub_cancel_left, if_neg (by omega), if_neg (by omega), if_neg (by omega), if_neg (by omega)]
          rw [if_pos hr, if_pos h3]
          show _ = (if base + k = base + 6 ∨ base + k = base + 16 then some (k_ba 0) else none)
          rw [if_pos (by omega)]
          rcases h4 with rfl | rfl <;> rfl
        · by_cases h5 : k = 1 ∨ k = 7 ∨ (29 ≤ k ∧ k ≤ 36)
          · have hr : s_ro base (base + k) = k := by
              unfold s_ro
              rw [Nat.add_sub_cancel_left, if_neg (by omega), if_pos h5]
            rw [hr, if_neg (by omega)]
            have h6 : k = 1 ∨ k = 7 ∨ k = 29 ∨ k = 30 ∨ k = 31 ∨ k = 32 ∨ k = 33 ∨ k = 34 ∨ k = 35 ∨ k = 36 := by omega
            rcases h6 with rfl | rfl | rfl | rfl | rfl | rfl | rfl | rfl | rfl | rfl <;> rfl
          · by_cases h6 : 1 ≤ k ∧ c_lp (k - 1)
            · have hr : s_ro base (base + k) = 100 + (k - 1) := by
                unfold s_ro
                rw [Nat.add_sub_cancel_left, if_neg (by omega), if_neg h5, if_pos h6]
              rw [hr, if_neg (by omega)]
              have h7 : k = 23 ∨ k = 26 ∨ k = 49 ∨ k = 52 ∨ k = 55 ∨ k = 58 ∨ k = 61 ∨ k = 64 ∨ k = 67 ∨ k = 70 ∨ k = 73 ∨ k = 76 ∨ k = 79 := by omega
              rcases h7 with rfl | rfl | rfl | rfl | rfl | rfl | rfl | rfl | rfl | rfl | rfl | rfl | rfl <;> rfl
            · have h8 : 2 ≤ k ∧ c_lp (k - 2) := by omega
              have hr : s_ro base (base + k) = 200 + (k - 2) := by
                unfold s_ro
                rw [Nat.add_sub_cancel_left, if_neg (by omega), if_neg h5, if_neg h6, if_pos h8]
              rw [hr, if_neg (by omega)]
              have h7 : k = 24 ∨ k = 27 ∨ k = 50 ∨ k = 53 ∨ k = 56 ∨ k = 59 ∨ k = 62 ∨ k = 65 ∨ k = 68 ∨ k = 71 ∨ k = 74 ∨ k = 77 ∨ k = 80 := by omega
              rcases h7 with rfl | rfl | rfl | rfl | rfl | rfl | rfl | rfl | rfl | rfl | rfl | rfl | rfl <;> rfl
      · rw [s_fx (sl := sl) k h3]
        exact (c_at (R := w_R G base 0 s_μ) (σ := s_σ base ad sl) h3).symm
    · rw [List.getElem?_append_right (by rw [s_lenX]; omega), s_lenX]
      by_cases h3 : k < 105
      · unfold c_ce
        rw [if_pos (by omega)]
        unfold w_R
        rw [if_neg (by omega)]
        by_cases h4 : k = 104
        · subst h4
          rw [if_pos rfl, List.getElem?_append_right (by rw [s_lenM]; omega), s_lenM]
          show some (.inl (3, 1, .inr (.inl (fun _ => 0))) : va_E) = _
          refine congrArg (fun f => some (.inl (3, 1, .inr (.inl f)) : va_E)) (funext fun j => ?_)
          split <;> rfl
        · rw [if_neg (by omega), if_pos (by omega), List.getElem?_append_left (by rw [s_lenM]; omega), s_mc (by omega)]
          rw [show base + k - (base + 81) = k - 81 by omega]
      · rw [List.getElem?_eq_none (by rw [List.length_append, s_lenM]; show 23 + 1 ≤ _; omega)]
        unfold c_ce
        rw [if_neg (by omega)]
        show none = (if s_ro base (base + k) = 0 then (if c_kd (base + k - base) = 0 then _ else _) else _)
        have hr : s_ro base (base + k) = 0 := by
          unfold s_ro
          rw [Nat.add_sub_cancel_left, if_neg (by omega), if_neg (by omega), if_neg (by omega), if_neg (by omega)]
        have hk0 : c_kd k = 0 := Decidable.byContradiction fun w => by have := c_kd_lt w; omega
        rw [if_pos hr, Nat.add_sub_cancel_left, if_pos hk0]
        show none = (if base + k = base + 6 ∨ base + k = base + 16 then some (k_ba 0) else none)
        rw [if_neg (by omega)]
/-- the states behind the constructors -/
theorem s_cV {sl : Nat} : c_V (s_σ base ad sl) [] (fun _ => []) (fun i => decide (i = 10)) 0 0 0 := by
  have hG : ∀ p, c_G (s_σ base ad sl) p := fun p => ⟨⟨Int.le_refl _, by show (0 : Int) ≤ 300; decide⟩, ⟨Int.le_refl _, Int.le_refl _⟩, Int.le_refl _, ⟨by show (0 : Int) - 0 ≤ 240; decide, Int.le_refl _⟩, Int.le_refl _, ⟨⟨Int.le_refl _, by show (0 : Int) ≤ 1; decide⟩, Nat.zero_le _, Nat.zero_le _⟩, .inl rfl, .inl rfl⟩
  refine ⟨⟨rfl, Nat.zero_le _, Nat.zero_le _, fun x hx => absurd hx (by simp), fun i hi => absurd hi (by simp)⟩, ?_, fun i _ => hG _, ?_, ?_, rfl, ⟨rfl, rfl, rfl⟩, ?_⟩
  · intro i j hi hj h
    have h : s_L i = s_L j := h
    unfold s_L at h
    revert h
    split <;> split <;> (try split) <;> (try split) <;> omega
  · intro i hi
    show (if 3 = 3 ∧ i = 10 then (1 : Int) else 0) = _
    by_cases h : i = 10
    · simp [h]
    · simp [h]
  · intro i hi ht
    refine ⟨hG _, ⟨by simp, by simp⟩, fun l hl => absurd hl (by simp), rfl, rfl, rfl, rfl, fun l hl => absurd hl (by simp), fun l i hl => absurd hl (by simp), fun i hi => absurd hi (by simp)⟩
  · refine ⟨.inl rfl, .inl rfl, ⟨Nat.zero_le _, Nat.zero_le _⟩, fun _ _ => rfl, Nat.zero_le _, fun k hk => ?_, .inl ⟨rfl, rfl⟩⟩
    show (if 10 + k = 0 then ad 0 else if 10 + k = 1 then base + 6 else if 10 + k = 2 then base + 16 else base + 19 + (10 + k)) = base + (29 + k)
    rw [if_neg (by omega), if_neg (by omega), if_neg (by omega)]
    omega
theorem s_mV : m_V s_μ [] (fun _ => []) (fun i => decide (i = 10)) 0 0 0 := by
  refine ⟨⟨rfl, Nat.zero_le _, fun x hx => absurd hx (by simp), fun i hi => absurd hi (by simp)⟩, ?_, ?_, rfl, ⟨rfl, rfl, rfl⟩, ?_⟩
  · intro i hi
    show (if 4 = 4 ∧ (i = 10 ∨ i = 11) then (1 : Int) else if 4 = 12 then m_nm.getD i 0 else 0) = _
    by_cases h : i = 10
    · simp [h]
    · have : ¬ i = 11 := by omega
      simp [h, this]
  · intro i hi ht
    exact ⟨⟨by simp, by simp⟩, fun l hl => absurd hl (by simp), rfl, fun l hl => absurd hl (by simp), fun l i hl => absurd hl (by simp)⟩
  · refine ⟨fun k hk => ?_, fun k hk => ?_, rfl, fun i hi => rfl⟩
    · show 0 ≤ (0 : Int) ∧ (0 : Int) ≤ 240; decide
    · show 0 ≤ (0 : Int) ∧ (0 : Int) ≤ 300; decide
end S1
