/-! WHAT TOOLS LEAVE, AND UNIQ IN THE CLASS -/
section TF
variable {b : Nat} {R : Nat → Option va_E} {σ : c_S b} {ad gk gv : Nat → Nat} {d : Nat} {T : Nat} {O : z_O} {bs : List Int} {S : Nat → List (List Int)} {n p : Nat}
/-- only what tools change has changed -/
def c_fT (p : Nat) (σ σ' : c_S b) : Prop := (∀ k f, k ≠ p → k ≠ 15 → k ≠ 28 → k ≠ 37 → k ≠ 44 → ¬ (k = 4 ∧ 95 ≤ f ∧ f ≤ 94) → σ'.I k f = σ.I k f) ∧ (∀ z i, z < 29 → σ'.A z i = σ.A z i) ∧ (∀ z, z < 29 → σ'.da z = σ.da z ∧ σ'.dn z = σ.dn z) ∧ (∀ k, σ'.L k = σ.L k) ∧ (∀ k, k ≠ 2 → k < 10 → σ'.P k = σ.P k) ∧ (∀ q, q ≠ p → q < 81 → σ'.ba q = σ.ba q ∧ σ'.bn q = σ.bn q ∧ σ'.ta q = σ.ta q ∧ σ'.tn q = σ.tn q ∧ (∀ i, σ'.B q i = σ.B q i) ∧ (∀ i, σ'.T q i = σ.T q i)) ∧ c_rm σ σ' ∧ (c_Q σ → c_Q σ')
theorem c_fT.refl (σ : c_S b) : c_fT p σ σ := ⟨fun _ _ _ _ _ _ _ _ => rfl, fun _ _ _ => rfl, fun _ _ => ⟨rfl, rfl⟩, fun _ => rfl, fun _ _ _ => rfl, fun _ _ _ => ⟨rfl, rfl, rfl, rfl, fun _ => rfl, fun _ => rfl⟩, c_rm.refl σ, fun h => h⟩
theorem c_fT.trans {σ σ' σ'' : c_S b} (h : c_fT p σ σ') (h2 : c_fT p σ' σ'') : c_fT p σ σ'' := by
  obtain ⟨a1, a2, a3, a4, a5, a6, a7, a8⟩ := h
  obtain ⟨b1, b2, b3, b4, b5, b6, b7, b8⟩ := h2
  refine ⟨fun k f x1 x2 x3 x4 x5 x6 => (b1 k f x1 x2 x3 x4 x5 x6).trans (a1 k f x1 x2 x3 x4 x5 x6), fun z i h => (b2 z i h).trans (a2 z i h), fun z h => ⟨(b3 z h).1.trans (a3 z h).1, (b3 z h).2.trans (a3 z h).2⟩, fun k => (b4 k).trans (a4 k), fun k h h' => (b5 k h h').trans (a5 k h h'), fun q h h' => ?_, a7.trans b7, fun h => b8 (a8 h)⟩
  obtain ⟨c1, c2, c3, c4, c5, c6⟩ := a6 q h h'
  obtain ⟨d1, d2, d3, d4, d5, d6⟩ := b6 q h h'
  exact ⟨d1.trans c1, d2.trans c2, d3.trans c3, d4.trans c4, fun i => (d5 i).trans (c5 i), fun i => (d6 i).trans (c6 i)⟩
theorem c_Q.of {σ' : c_S b} (h : c_Q σ) (h1 : ∀ z, z < 37 → σ'.da z = σ.da z ∧ σ'.dn z = σ.dn z) (h2 : ∀ k, 10 ≤ k → σ'.P k = σ.P k) : c_Q σ' := by
  obtain ⟨q1, q2, q3, q4, q5, q6, q7⟩ := h
  refine ⟨?_, ?_, ?_, fun k hk => ?_, ?_, fun k hk => ?_, ?_⟩
  · rw [(h1 1 (by omega)).2]; exact q1
  · rw [(h1 7 (by omega)).2]; exact q2
  · rw [(h1 1 (by omega)).2, (h1 7 (by omega)).2]; exact q3
  · rw [(h1 (29 + k) (by omega)).2, (h1 29 (by omega)).2]; exact q4 k hk
  · rw [(h1 29 (by omega)).2]; exact q5
  · rw [h2 (10 + k) (by omega), (h1 (29 + k) (by omega)).1]; exact q6 k hk
  · rw [h2 16 (by omega), h2 17 (by omega), (h1 35 (by omega)).1, (h1 36 (by omega)).1]; exact q7
theorem c_fr.fT {σ' : c_S b} (h : c_fr p σ σ') : c_fT p σ σ' := ⟨fun k f h1 _ _ _ _ _ => h.1 k f h1, fun z i hz => h.2.1 z i (by omega), fun z hz => h.2.2.1 z (by omega), h.2.2.2.1, fun k _ _ => h.2.2.2.2.1 k, h.2.2.2.2.2.1, h.2.2.2.2.2.2, fun w => w.of (fun z hz => h.2.2.1 z (by omega)) (fun k _ => h.2.2.2.2.1 k)⟩
theorem c_f5.fT {σ' : c_S b} (h : c_f5 σ σ') : c_fT p σ σ' := ⟨fun k f _ h1 _ _ _ _ => h.1 k f h1, fun z i _ => h.2.1 z i, fun z _ => h.2.2.1 z, h.2.2.2.1, fun k h1 _ => h.2.2.2.2.1 k h1, fun q _ _ => h.2.2.2.2.2.1 q, c_rm.same h.2.2.2.2.2.2.2 h.2.2.2.2.2.2.1 (fun q => (h.2.2.2.2.2.1 q).2.1) (fun q => (h.2.2.2.2.2.1 q).2.2.2.1) (fun z => (h.2.2.1 z).2), fun w => w.of (fun z _ => h.2.2.1 z) (fun k hk => h.2.2.2.2.1 k (by omega))⟩
theorem c_G.fT {q : Nat} {σ' : c_S b} (h : c_G σ q) (hf : c_fT p σ σ') (hq : q ≠ p) (hl : c_lp q) : c_G σ' q := by
  have h8 := c_lp81 hl
  obtain ⟨b1, b2, b3, b4, b5, b6⟩ := hf.2.2.2.2.2.1 q hq h8.1
  have hI : ∀ f, σ'.I q f = σ.I q f := fun f => hf.1 q f hq (by omega) (by omega) (by omega) (by omega) (by omega)
  unfold c_G
  rw [hI, hI, hI, hI, b2, b4]
  exact h
theorem c_F.fT {q : Nat} {σ' : c_S b} {L : List (List Int)} (h : c_F σ q L) (hf : c_fT p σ σ') (hq : q ≠ p) (hl : c_lp q) : c_F σ' q L := by
  have h8 := c_lp81 hl
  obtain ⟨b1, b2, b3, b4, b5, b6⟩ := hf.2.2.2.2.2.1 q hq h8.1
  have hI : ∀ f, σ'.I q f = σ.I q f := fun f => hf.1 q f hq (by omega) (by omega) (by omega) (by omega) (by omega)
  obtain ⟨g, f1, f2, f3, g1, g2, g3, g4, g5, g6⟩ := h
  refine ⟨g.fT hf hq hl, f1, f2, (hI 25).trans f3, (hI 22).trans g1, (hI 24).trans g2, (hI 23).trans g3, fun l hl => (b6 l).trans (g4 l hl), fun l i hl hi => (b5 _).trans (g5 l i hl hi), fun i hi => (b5 _).trans (g6 i hi)⟩
theorem c_Dn.fT {σ' : c_S b} (h : c_Dn σ n S) (hf : c_fT (σ.L 12) σ σ') : c_Dn σ' n S := by
  have h12 := c_lp81 (c_S.hL σ 12)
  refine ⟨⟨(hf.1 4 88 (by omega) (by omega) (by omega) (by omega) (by omega) (by omega)).trans h.1.1, h.1.2⟩, fun j hj => ?_⟩
  obtain ⟨h1, h2⟩ := h.2 j hj
  rw [hf.2.2.2.1 (20 + j), hf.2.2.2.1 12]
  exact ⟨h1, h2.fT hf h1 (c_S.hL σ (20 + j))⟩
theorem c_P.fT {σ' : c_S b} (h : c_P σ T bs O) (hf : c_fT (σ.L 12) σ σ') : c_P σ' T bs O := by
  have h12 := c_lp81 (c_S.hL σ 12)
  have fI : ∀ f, σ'.I 8 f = σ.I 8 f := fun f => hf.1 8 f (by omega) (by omega) (by omega) (by omega) (by omega) (by omega)
  have f3 := hf.2.1
  obtain ⟨a1, a2, a3, a4, a5⟩ := h
  refine ⟨fun c hc => (f3 9 c (by omega)).trans (a1 c hc), ?_, (f3 14 1 (by omega)).trans a3, (f3 14 2 (by omega)).trans a4, fun w => ⟨(fI 69).trans (a5 w).1, (fI 70).trans (a5 w).2⟩⟩
  intro c s e hc
  obtain ⟨b1, b2, b3, b4, b5, b6, b7⟩ := a2 c s e hc
  refine ⟨fun w => (f3 10 c (by omega)).trans (b1 w), fun w => (f3 10 c (by omega)).trans (b2 w), ?_, ?_, fun w => ⟨(fI 67).trans (b5 w).1, (fI 68).trans (b5 w).2⟩, fun w => ⟨(fI 69).trans (b6 w).1, (fI 70).trans (b6 w).2⟩, ?_⟩
  · intro w w2
    obtain ⟨rs, r1, r2⟩ := b3 w w2
    exact ⟨rs, r1, fun j hj => (f3 11 j (by omega)).trans (r2 j hj)⟩
  · intro w
    obtain ⟨z, z1, z2⟩ := b4 w
    exact ⟨z, z1, (fI 64).trans z2.1, fun j h1 h2 => (f3 12 j (by omega)).trans (z2.2 j h1 h2)⟩
  · intro w
    obtain ⟨z, z1, z2⟩ := b7 w
    exact ⟨z, z1, (fI 66).trans z2.1, fun j h1 h2 => (f3 13 j (by omega)).trans (z2.2 j h1 h2)⟩
theorem c_W.f5 {σ' : c_S b} {L : List (List Int)} {c : List Int} (h : c_W σ p L c) (hf : c_f5 σ σ') (hp : c_lp p) : c_W σ' p L c := by
  obtain ⟨b1, b2, b3, b4, b5, b6⟩ := hf.2.2.2.2.2.1 p
  have h8 := c_lp81 hp
  have hI : ∀ f, σ'.I p f = σ.I p f := fun f => hf.1 p f (by omega)
  obtain ⟨g, w1, w2, w3, w4⟩ := h
  refine ⟨g.ll hf.ll hp, ?_, fun w => ?_, fun w => (hI 25).trans (w3 w), w4⟩
  · rw [hI, hI, b2, b4]; exact w1
  · obtain ⟨x1, g1, g2, g3, g4, g5, g6⟩ := w2 w
    exact ⟨(hI 25).trans x1, (hI 22).trans g1, (hI 24).trans g2, (hI 23).trans g3, fun l hl => (b6 l).trans (g4 l hl), fun l i hl hi => (b5 _).trans (g5 l i hl hi), fun i hi => (b5 _).trans (g6 i hi)⟩
end TF
