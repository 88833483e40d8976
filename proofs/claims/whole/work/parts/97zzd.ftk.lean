/-! WHAT HOLDS WHEN OPERANDS WERE TAKEN -/
section FK
variable {b : Nat} {σ σ' : c_S b} {p T n : Nat} {L : List (List Int)} {cu : List Int} {bs : List Int} {O : z_O} {S : Nat → List (List Int)} {l : List (Int × Nat)}
theorem c_fTk.i (h : c_fTk σ σ') (k f : Nat) : σ'.I k f = σ.I k f := by rw [h.1]
theorem c_fTk.a (h : c_fTk σ σ') (z i : Nat) : σ'.A z i = σ.A z i := by rw [h.2.1]
theorem c_fTk.lw (h : c_fTk σ σ') (k : Nat) (hk : k < 20) : σ'.L k = σ.L k := h.2.2.2.2.2.2.2.2.2.1 k (.inl hk)
theorem c_P.fTk (h : c_P σ T bs O) (hf : c_fTk σ σ') : c_P σ' T bs O := by
  unfold c_P c_pv c_N c_Pa at *
  simp only [hf.1, hf.2.1]
  exact h
theorem c_U.fTk (h : c_U σ bs) (hf : c_fTk σ σ') : c_U σ' bs := by
  unfold c_U at *
  simp only [hf.1, hf.2.1, hf.2.2.2.2.2.2.2.1]
  exact h
theorem c_Q.fTk (h : c_Q σ) (hf : c_fTk σ σ') : c_Q σ' := by
  unfold c_Q at *
  simp only [hf.2.2.2.2.2.2.1, hf.2.2.2.2.2.2.2.1, hf.2.2.2.2.2.2.2.2.1]
  exact h
theorem c_G.fTk (h : c_G σ p) (hf : c_fTk σ σ') : c_G σ' p := by
  unfold c_G at *
  simp only [hf.1, hf.2.2.2.2.1, hf.2.2.2.2.2.1]
  exact h
theorem c_F.fTk (h : c_F σ p L) (hf : c_fTk σ σ') : c_F σ' p L := by
  obtain ⟨h1, h2, h3, h4, h5⟩ := h
  refine ⟨h1.fTk hf, h2, h3, (hf.i p 25).trans h4, ?_⟩
  unfold c_H at *
  simp only [hf.1, hf.2.1, hf.2.2.1, hf.2.2.2.1, hf.2.2.2.2.1, hf.2.2.2.2.2.1]
  exact h5
theorem c_W.fTk (h : c_W σ p L cu) (hf : c_fTk σ σ') : c_W σ' p L cu := by
  unfold c_W c_G c_H at *
  simp only [hf.1, hf.2.1, hf.2.2.1, hf.2.2.2.1, hf.2.2.2.2.1, hf.2.2.2.2.2.1]
  exact h
/-- the operands at hand -/
theorem c_Dn.take (hf : c_fTk σ σ') (h88 : σ.I 4 88 = l.length) (h1 : 1 ≤ l.length ∧ l.length ≤ 20) (hL : ∀ i, i < l.length → σ'.L (20 + i) = σ.L (z_wl (l.getD i z_00).1)) (hS : ∀ i, i < l.length → σ.L (z_wl (l.getD i z_00).1) ≠ σ.L 12 ∧ c_F σ (σ.L (z_wl (l.getD i z_00).1)) (S i)) : c_Dn σ' l.length S := by
  refine ⟨⟨(hf.i 4 88).trans h88, h1⟩, fun j hj => ?_⟩
  rw [hL j hj, hf.lw 12 (by omega)]
  exact ⟨(hS j hj).1, (hS j hj).2.fTk hf⟩
end FK
