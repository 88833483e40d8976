/-! THE CLAIM, IF RUN ANSWERS ALIKE -/
theorem am_claim_of (h : ∀ (G : Nat → Option va_E) (ad gk gv : Nat → Nat) (b L : Nat) (xs : Nat → Int32) (base : Nat), am_gnd G ad gk gv b L xs base → w_run G ad base) : am_claim := by
  intro G ad gk gv b L xs base hL hg
  have hb : G b = some (am_eX L xs) := (hg.1 b (am_eX L xs)).mpr (.inr (.inr (.inr (.inr (.inr ⟨rfl, rfl⟩)))))
  refine w_final ?_ ⟨hg.2.1 b _ hb, hL, hb⟩ (h G ad gk gv b L xs base hg)
  intro q hq
  cases hc : G q with
  | none => rfl
  | some e => exact absurd (hg.2.1 q e hc) (by omega)
