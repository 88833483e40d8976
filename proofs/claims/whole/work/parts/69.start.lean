/-! WHERE THE LAW BEGINS -/
section S0
variable {G : Nat → Option va_E} {base : Nat} {ad : Nat → Nat}
def s_ro (base q : Nat) : Nat := if q < base then 0 else if q - base = 1 ∨ q - base = 7 ∨ (29 ≤ q - base ∧ q - base ≤ 36) then q - base else if 1 ≤ q - base ∧ c_lp (q - base - 1) then 100 + (q - base - 1) else if 2 ≤ q - base ∧ c_lp (q - base - 2) then 200 + (q - base - 2) else 0
def s_L (k : Nat) : Nat := if k < 11 then 48 + 3 * k else if k = 12 then 25 else 22
theorem s_kd : ∀ k : Fin 81, (k.val = 1 ∨ k.val = 7 ∨ (29 ≤ k.val ∧ k.val ≤ 36) ∨ (1 ≤ k.val ∧ c_lp (k.val - 1)) ∨ (2 ≤ k.val ∧ c_lp (k.val - 2))) → c_kd k.val = 0 := by decide
theorem s_ok (base : Nat) : c_ok base (base + 105) (s_ro base) (fun z => base + z) (fun p => base + p + 1) (fun p => base + p + 2) s_L := by
  refine ⟨?_, ?_, Nat.le_refl _, ?_, ?_⟩
  · intro r hr
    unfold c_da s_ro
    dsimp only
    by_cases h1 : r < 100
    · rw [if_pos h1, if_neg (by omega), if_pos (by omega)]; omega
    · rw [if_neg h1]
      by_cases h2 : r < 200
      · rw [if_pos h2, if_neg (by omega), if_neg (by omega), if_pos (by omega)]; omega
      · rw [if_neg h2, if_neg (by omega), if_neg (by omega), if_neg (by omega), if_pos (by omega)]; omega
  · intro q hq
    unfold s_ro at hq ⊢
    by_cases h1 : q < base
    · rw [if_pos h1] at hq; exact absurd rfl hq
    · rw [if_neg h1] at hq ⊢
      by_cases h2 : q - base = 1 ∨ q - base = 7 ∨ (29 ≤ q - base ∧ q - base ≤ 36)
      · rw [if_pos h2]
        refine ⟨by omega, ?_⟩
        unfold c_da
        dsimp only
        rw [if_pos (by omega)]; omega
      · rw [if_neg h2] at hq ⊢
        by_cases h3 : 1 ≤ q - base ∧ c_lp (q - base - 1)
        · rw [if_pos h3]
          refine ⟨by omega, ?_⟩
          unfold c_da
          dsimp only
          rw [if_neg (by omega), if_pos (by omega)]; omega
        · rw [if_neg h3] at hq ⊢
          by_cases h4 : 2 ≤ q - base ∧ c_lp (q - base - 2)
          · rw [if_pos h4]
            refine ⟨by omega, ?_⟩
            unfold c_da
            dsimp only
            rw [if_neg (by omega), if_neg (by omega)]; omega
          · rw [if_neg h4] at hq; exact absurd rfl hq
  · intro q hq
    unfold s_ro at hq
    by_cases h1 : q < base
    · rw [if_pos h1] at hq; exact absurd rfl hq
    · rw [if_neg h1] at hq
      by_cases h5 : (q - base = 1 ∨ q - base = 7 ∨ (29 ≤ q - base ∧ q - base ≤ 36)) ∨ (1 ≤ q - base ∧ c_lp (q - base - 1)) ∨ (2 ≤ q - base ∧ c_lp (q - base - 2))
      · have hlt : q - base < 81 := by omega
        have := s_kd ⟨q - base, hlt⟩ (by dsimp only; omega)
        exact ⟨by omega, by omega, .inr ⟨by omega, this⟩⟩
      · rw [if_neg (by omega), if_neg (by omega), if_neg (by omega)] at hq; exact absurd rfl hq
  · intro k
    unfold s_L
    split
    · omega
    · split <;> omega
/-- the class's state behind its constructor -/
def s_σ (base : Nat) (ad : Nat → Nat) (sl : Nat) : c_S base := c_mk (base + 105) sl (s_ro base) (fun z => base + z) (fun _ => 0) (fun p => base + p + 1) (fun _ => 0) (fun p => base + p + 2) (fun _ => 0) (fun z i => if z = 3 ∧ i = 10 then 1 else 0) (fun _ _ => 0) (fun _ _ => 0) (fun _ _ => 0) s_L (fun k => if k = 0 then ad 0 else if k = 1 then base + 6 else if k = 2 then base + 16 else base + 19 + k) (fun q => if q = base + 6 ∨ q = base + 16 then some (k_ba 0) else none) (s_ok base)
def s_μ : m_S := m_mk (fun _ => 0) (fun k i => if k = 4 ∧ (i = 10 ∨ i = 11) then 1 else if k = 12 then m_nm.getD i 0 else 0)
/-- the rest of the memory: the ground, the reference, the law's answer -/
def w_R (G : Nat → Option va_E) (b : Nat) (o : Int64) (μ : m_S) (q : Nat) : Option va_E := if q < b then G q else if q = b + 104 then some (.inl (3, 1, .inr (.inl (fun i => if i = 0 then o else 0)))) else if b + 81 ≤ q ∧ q < b + 104 then m_ce (b + 81) μ (q - (b + 81)) else none
theorem w_m {o : Int64} {μ μ' : m_S} {b : Nat} {σ : c_S b} : m_t (c_t (w_R G b o μ) σ) (b + 81) μ' = c_t (w_R G b o μ') σ := by
  unfold m_t
  refine congrArg (fun z => (σ.nx, σ.sl, z)) (funext fun q => ?_)
  show (if b + 81 ≤ q ∧ q < b + 81 + 23 then m_ce (b + 81) μ' (q - (b + 81)) else c_ce (w_R G b o μ) σ q) = c_ce (w_R G b o μ') σ q
  by_cases h : b + 81 ≤ q ∧ q < b + 81 + 23
  · rw [if_pos h]
    unfold c_ce
    rw [if_pos (by omega)]
    unfold w_R
    rw [if_neg (by omega), if_neg (by omega), if_pos (by omega)]
  · rw [if_neg h]
    unfold c_ce
    by_cases h2 : q < b ∨ (b + 81 ≤ q ∧ q < b + 105)
    · rw [if_pos h2, if_pos h2]
      unfold w_R
      by_cases h3 : q < b
      · rw [if_pos h3, if_pos h3]
      · rw [if_neg h3, if_neg h3, if_pos (by omega), if_pos (by omega)]
    · rw [if_neg h2, if_neg h2]
theorem s_fx {sl : Nat} : ∀ k, c_kd k ≠ 0 → (k_X base ad)[k]? = c_fx (s_σ base ad sl) k := by
  intro k hk
  have h81 := c_kd_lt hk
  have key : ∀ z : Fin 81, c_kd z.val ≠ 0 → z.val = 0 ∨ z.val = 2 ∨ z.val = 3 ∨ z.val = 4 ∨ z.val = 5 ∨ z.val = 8 ∨ z.val = 9 ∨ z.val = 10 ∨ z.val = 11 ∨ z.val = 12 ∨ z.val = 13 ∨ z.val = 14 ∨ z.val = 15 ∨ z.val = 17 ∨ z.val = 18 ∨ z.val = 19 ∨ z.val = 20 ∨ z.val = 21 ∨ z.val = 22 ∨ z.val = 25 ∨ z.val = 28 ∨ z.val = 37 ∨ z.val = 38 ∨ z.val = 39 ∨ z.val = 40 ∨ z.val = 41 ∨ z.val = 42 ∨ z.val = 43 ∨ z.val = 44 ∨ z.val = 45 ∨ z.val = 46 ∨ z.val = 47 ∨ (48 ≤ z.val ∧ z.val % 3 = 0) := by decide
  have := key ⟨k, h81⟩ hk
  dsimp only at this
  rcases this with rfl | rfl | rfl | rfl | rfl | rfl | rfl | rfl | rfl | rfl | rfl | rfl | rfl | rfl | rfl | rfl | rfl | rfl | rfl | rfl | rfl | rfl | rfl | rfl | rfl | rfl | rfl | rfl | rfl | rfl | rfl | rfl | q
  all_goals try rfl
  · show some (k_ra 11 (fun j => if j < 11 then some (base + 48 + 3 * j) else none)) = some (k_ra 11 (fun i => c_rr (s_σ base ad sl) 2 i))
    refine congrArg (fun f => some (k_ra 11 f)) (funext fun j => ?_)
    show _ = (if j < 11 then some (base + s_L j) else none)
    unfold s_L
    by_cases h : j < 11
    · rw [if_pos h, if_pos h, if_pos h, Nat.add_assoc]
    · rw [if_neg h, if_neg h]
  · show some (.inl (2, 11, .inl (upd (fun _ => 0) 10 (am_nar 2 (nI 1)))) : va_E) = some (.inl (2, 11, .inl (fun i => h_ii (if 3 = 3 ∧ i = 10 then 1 else 0))))
    refine congrArg (fun f => some (.inl (2, 11, .inl f) : va_E)) (funext fun j => ?_)
    unfold upd
    by_cases h : j = 10
    · rw [if_pos h, if_pos ⟨rfl, h⟩]; rfl
    · rw [if_neg h, if_neg (fun w => h w.2)]; rfl
  · show some (k_ra 20 (fun j => if j < 20 then some (base + 22) else none)) = some (k_ra 20 (fun i => c_rr (s_σ base ad sl) 21 i))
    refine congrArg (fun f => some (k_ra 20 f)) (funext fun j => ?_)
    show _ = (if j < 20 then some (base + s_L (20 + j)) else none)
    unfold s_L
    by_cases h : j < 20
    · rw [if_pos h, if_pos h, if_neg (by omega), if_neg (by omega)]
    · rw [if_neg h, if_neg h]
  · have hk48 : k = 48 ∨ k = 51 ∨ k = 54 ∨ k = 57 ∨ k = 60 ∨ k = 63 ∨ k = 66 ∨ k = 69 ∨ k = 72 ∨ k = 75 ∨ k = 78 := by omega
    rcases hk48 with rfl | rfl | rfl | rfl | rfl | rfl | rfl | rfl | rfl | rfl | rfl <;> rfl
end S0
