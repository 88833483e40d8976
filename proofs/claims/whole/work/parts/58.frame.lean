/-! FRAMES: what a change of one row of lines leaves as it was -/
def c_sm (f : Nat → Nat) : Nat := f 22 + f 25 + f 48 + f 51 + f 54 + f 57 + f 60 + f 63 + f 66 + f 69 + f 72 + f 75 + f 78
theorem c_sm_up {f g : Nat → Nat} {p : Nat} (hp : c_lp p) (h : ∀ q, q ≠ p → q < 81 → g q = f q) : c_sm g + f p = c_sm f + g p := by
  have hc : p = 22 ∨ p = 25 ∨ p = 48 ∨ p = 51 ∨ p = 54 ∨ p = 57 ∨ p = 60 ∨ p = 63 ∨ p = 66 ∨ p = 69 ∨ p = 72 ∨ p = 75 ∨ p = 78 := by omega
  have e : ∀ q, q < 81 → q = p ∨ g q = f q := fun q hq => by
    by_cases w : q = p
    · exact .inl w
    · exact .inr (h q w hq)
  have e1 := e 22 (by omega); have e2 := e 25 (by omega); have e3 := e 48 (by omega); have e4 := e 51 (by omega); have e5 := e 54 (by omega); have e6 := e 57 (by omega); have e7 := e 60 (by omega); have e8 := e 63 (by omega); have e9 := e 66 (by omega); have e10 := e 69 (by omega); have e11 := e 72 (by omega); have e12 := e 75 (by omega); have e13 := e 78 (by omega)
  unfold c_sm
  clear e h hp
  rcases hc with rfl | rfl | rfl | rfl | rfl | rfl | rfl | rfl | rfl | rfl | rfl | rfl | rfl <;> simp at e1 e2 e3 e4 e5 e6 e7 e8 e9 e10 e11 e12 e13 <;> omega
section FR
variable {b : Nat}
/-- the room that the arrays in use stand for -/
def c_pt (σ : c_S b) : Nat := 2 * c_sm σ.bn + 3 * c_sm σ.tn + 6 * (σ.dn 1 + σ.dn 7) + 2 * (σ.dn 29 + σ.dn 30 + σ.dn 31 + σ.dn 32 + σ.dn 33 + σ.dn 34 + σ.dn 35 + σ.dn 36)
def c_pc (σ : c_S b) : Nat := c_sm σ.bn + 30 * c_sm σ.tn + (σ.dn 1 + σ.dn 7) + 240 * (σ.dn 29 + σ.dn 30 + σ.dn 31 + σ.dn 32 + σ.dn 33 + σ.dn 34 + σ.dn 35 + σ.dn 36)
def c_rm (σ σ' : c_S b) : Prop := σ'.sl + c_pt σ ≤ σ.sl + c_pt σ' ∧ 240 * σ'.nx + c_pc σ ≤ 240 * σ.nx + c_pc σ'
theorem c_rm.refl (σ : c_S b) : c_rm σ σ := ⟨Nat.le_refl _, Nat.le_refl _⟩
theorem c_rm.trans {σ σ' σ'' : c_S b} (h : c_rm σ σ') (h2 : c_rm σ' σ'') : c_rm σ σ'' := by
  unfold c_rm at *
  omega
theorem c_rm.same {σ σ' : c_S b} (h1 : σ'.sl = σ.sl) (h2 : σ'.nx = σ.nx) (h3 : ∀ q, σ'.bn q = σ.bn q) (h4 : ∀ q, σ'.tn q = σ.tn q) (h5 : ∀ q, σ'.dn q = σ.dn q) : c_rm σ σ' := by
  unfold c_rm c_pt c_pc c_sm
  simp only [h1, h2, h3, h4, h5]
  exact ⟨Nat.le_refl _, Nat.le_refl _⟩
/-- only the lines p may have changed -/
def c_fr (p : Nat) (σ σ' : c_S b) : Prop :=
  (∀ k f, k ≠ p → σ'.I k f = σ.I k f) ∧ (∀ z i, z < 100 → σ'.A z i = σ.A z i) ∧ (∀ z, z < 100 → σ'.da z = σ.da z ∧ σ'.dn z = σ.dn z) ∧ (∀ k, σ'.L k = σ.L k) ∧ (∀ k, σ'.P k = σ.P k) ∧ (∀ q, q ≠ p → q < 81 → σ'.ba q = σ.ba q ∧ σ'.bn q = σ.bn q ∧ σ'.ta q = σ.ta q ∧ σ'.tn q = σ.tn q ∧ (∀ i, σ'.B q i = σ.B q i) ∧ (∀ i, σ'.T q i = σ.T q i)) ∧ c_rm σ σ'
theorem c_fr.refl (p : Nat) (σ : c_S b) : c_fr p σ σ := ⟨fun _ _ _ => rfl, fun _ _ _ => rfl, fun _ _ => ⟨rfl, rfl⟩, fun _ => rfl, fun _ => rfl, fun _ _ _ => ⟨rfl, rfl, rfl, rfl, fun _ => rfl, fun _ => rfl⟩, c_rm.refl σ⟩
theorem c_fr.trans {p : Nat} {σ σ' σ'' : c_S b} (h : c_fr p σ σ') (h2 : c_fr p σ' σ'') : c_fr p σ σ'' := by
  obtain ⟨a1, a2, a3, a4, a5, a6, a7⟩ := h
  obtain ⟨b1, b2, b3, b4, b5, b6, b7⟩ := h2
  refine ⟨fun k f hk => (b1 k f hk).trans (a1 k f hk), fun z i hz => (b2 z i hz).trans (a2 z i hz), fun z hz => ⟨(b3 z hz).1.trans (a3 z hz).1, (b3 z hz).2.trans (a3 z hz).2⟩, fun k => (b4 k).trans (a4 k), fun k => (b5 k).trans (a5 k), fun q hq h8 => ?_, a7.trans b7⟩
  obtain ⟨c1, c2, c3, c4, c5, c6⟩ := a6 q hq h8
  obtain ⟨d1, d2, d3, d4, d5, d6⟩ := b6 q hq h8
  exact ⟨d1.trans c1, d2.trans c2, d3.trans c3, d4.trans c4, fun i => (d5 i).trans (c5 i), fun i => (d6 i).trans (c6 i)⟩
theorem c_fr.uI {p f : Nat} {v : Int} (σ : c_S b) : c_fr p σ (c_uI σ p f v) := by
  refine ⟨fun k g hk => ?_, fun _ _ _ => rfl, fun _ _ => ⟨rfl, rfl⟩, fun _ => rfl, fun _ => rfl, fun _ _ _ => ⟨rfl, rfl, rfl, rfl, fun _ => rfl, fun _ => rfl⟩, .same rfl rfl (fun _ => rfl) (fun _ => rfl) (fun _ => rfl)⟩
  rw [c_I_uI, if_neg (fun w => hk w.1)]
theorem c_fr.uB {p i : Nat} {v : Int} (σ : c_S b) : c_fr p σ (c_uB σ p i v) := by
  refine ⟨fun _ _ _ => rfl, fun _ _ _ => rfl, fun _ _ => ⟨rfl, rfl⟩, fun _ => rfl, fun _ => rfl, fun q hq _ => ⟨rfl, rfl, rfl, rfl, fun j => ?_, fun _ => rfl⟩, .same rfl rfl (fun _ => rfl) (fun _ => rfl) (fun _ => rfl)⟩
  rw [c_B_uB, if_neg (fun w => hq w.1)]
theorem c_fr.uT {p i : Nat} {v : Int} (σ : c_S b) : c_fr p σ (c_uT σ p i v) := by
  refine ⟨fun _ _ _ => rfl, fun _ _ _ => rfl, fun _ _ => ⟨rfl, rfl⟩, fun _ => rfl, fun _ => rfl, fun q hq _ => ⟨rfl, rfl, rfl, rfl, fun _ => rfl, fun j => ?_⟩, .same rfl rfl (fun _ => rfl) (fun _ => rfl) (fun _ => rfl)⟩
  rw [c_T_uT, if_neg (fun w => hq w.1)]
theorem c_fr.cB {p' sp p dp n : Nat} (σ : c_S b) : c_fr p σ (c_cB σ p' sp p dp n) := by
  refine ⟨fun _ _ _ => rfl, fun _ _ _ => rfl, fun _ _ => ⟨rfl, rfl⟩, fun _ => rfl, fun _ => rfl, fun q hq _ => ⟨rfl, rfl, rfl, rfl, fun j => ?_, fun _ => rfl⟩, .same rfl rfl (fun _ => rfl) (fun _ => rfl) (fun _ => rfl)⟩
  rw [c_B_cB, if_neg (fun w => hq w.1)]
theorem c_fr.xB {p n : Nat} {g : Nat → Int} (hp : c_lp p) (σ : c_S b) (hn : 2 * σ.bn p ≤ n) (hn2 : σ.bn p + 240 ≤ n) : c_fr p σ (c_xB σ p n g hp) := by
  have h8 := c_l8 hp
  refine ⟨fun _ _ _ => rfl, fun z i hz => c_A_xB z i hz, fun z hz => ⟨c_da_xB z hz, c_dn_xB z hz⟩, fun _ => rfl, fun _ => rfl, fun q hq _ => ⟨?_, ?_, c_ta_xB q, c_tn_xB q, fun i => ?_, fun i => c_T_xB q i⟩, ?_⟩
  · rw [c_ba_xB, if_neg hq]
  · rw [c_bn_xB, if_neg hq]
  · rw [c_B_xB, if_neg hq]
  · have e := c_sm_up (f := σ.bn) (g := (c_xB σ p n g hp).bn) hp (fun q hq _ => by rw [c_bn_xB, if_neg hq])
    have e2 : (c_xB σ p n g hp).bn p = n := by rw [c_bn_xB, if_pos rfl]
    have e3 : c_sm (c_xB σ p n g hp).tn = c_sm σ.tn := by unfold c_sm; simp only [c_tn_xB]
    unfold c_rm c_pt c_pc
    rw [e3, c_sl_xB, c_nx_xB]
    simp only [c_dn_xB (σ := σ) (p := p) (n := n) (g := g) (h := hp) 1 (by decide), c_dn_xB (σ := σ) (p := p) (n := n) (g := g) (h := hp) 7 (by decide), c_dn_xB (σ := σ) (p := p) (n := n) (g := g) (h := hp) 29 (by decide), c_dn_xB (σ := σ) (p := p) (n := n) (g := g) (h := hp) 30 (by decide), c_dn_xB (σ := σ) (p := p) (n := n) (g := g) (h := hp) 31 (by decide), c_dn_xB (σ := σ) (p := p) (n := n) (g := g) (h := hp) 32 (by decide), c_dn_xB (σ := σ) (p := p) (n := n) (g := g) (h := hp) 33 (by decide), c_dn_xB (σ := σ) (p := p) (n := n) (g := g) (h := hp) 34 (by decide), c_dn_xB (σ := σ) (p := p) (n := n) (g := g) (h := hp) 35 (by decide), c_dn_xB (σ := σ) (p := p) (n := n) (g := g) (h := hp) 36 (by decide)]
    omega
theorem c_fr.xT {p n : Nat} {g : Nat → Int} (hp : c_lp p) (σ : c_S b) (hn : 3 * σ.tn p ≤ 2 * n) (hn2 : σ.tn p + 8 ≤ n) : c_fr p σ (c_xT σ p n g hp) := by
  have h8 := c_l8 hp
  refine ⟨fun _ _ _ => rfl, fun z i hz => c_A_xT z i hz, fun z hz => ⟨c_da_xT z hz, c_dn_xT z hz⟩, fun _ => rfl, fun _ => rfl, fun q hq hq8 => ⟨c_ba_xT q (by omega), c_bn_xT q (by omega), ?_, ?_, fun i => c_B_xT q i (by omega), fun i => ?_⟩, ?_⟩
  · rw [c_ta_xT, if_neg hq]
  · rw [c_tn_xT, if_neg hq]
  · rw [c_T_xT, if_neg hq]
  · have e := c_sm_up (f := σ.tn) (g := (c_xT σ p n g hp).tn) hp (fun q hq _ => by rw [c_tn_xT, if_neg hq])
    have e2 : (c_xT σ p n g hp).tn p = n := by rw [c_tn_xT, if_pos rfl]
    have e3 : c_sm (c_xT σ p n g hp).bn = c_sm σ.bn := by
      unfold c_sm
      rw [c_bn_xT 22 (by decide), c_bn_xT 25 (by decide), c_bn_xT 48 (by decide), c_bn_xT 51 (by decide), c_bn_xT 54 (by decide), c_bn_xT 57 (by decide), c_bn_xT 60 (by decide), c_bn_xT 63 (by decide), c_bn_xT 66 (by decide), c_bn_xT 69 (by decide), c_bn_xT 72 (by decide), c_bn_xT 75 (by decide), c_bn_xT 78 (by decide)]
    unfold c_rm c_pt c_pc
    rw [e3, c_sl_xT, c_nx_xT]
    simp only [c_dn_xT (σ := σ) (p := p) (n := n) (g := g) (h := hp) 1 (by decide), c_dn_xT (σ := σ) (p := p) (n := n) (g := g) (h := hp) 7 (by decide), c_dn_xT (σ := σ) (p := p) (n := n) (g := g) (h := hp) 29 (by decide), c_dn_xT (σ := σ) (p := p) (n := n) (g := g) (h := hp) 30 (by decide), c_dn_xT (σ := σ) (p := p) (n := n) (g := g) (h := hp) 31 (by decide), c_dn_xT (σ := σ) (p := p) (n := n) (g := g) (h := hp) 32 (by decide), c_dn_xT (σ := σ) (p := p) (n := n) (g := g) (h := hp) 33 (by decide), c_dn_xT (σ := σ) (p := p) (n := n) (g := g) (h := hp) 34 (by decide), c_dn_xT (σ := σ) (p := p) (n := n) (g := g) (h := hp) 35 (by decide), c_dn_xT (σ := σ) (p := p) (n := n) (g := g) (h := hp) 36 (by decide)]
    omega
end FR
