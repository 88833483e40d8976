/-! WHERE THE CLASS IS AMONG THE WORDS -/
theorem x_all_app {W V : List x_T} : x_all (W ++ V) = x_all W ++ x_all V := by unfold x_all; rw [x_bb_app, List.map_append]
theorem x_all_one {z : x_T} : x_all [z] = z.2.2.map Prod.fst := by unfold x_all; rw [x_bb_one]
theorem x_all_len {W : List x_T} : (x_all W).length = x_fo W W.length := by unfold x_all; rw [List.length_map, x_bb_fo]
theorem x_fo_take {W : List x_T} {k : Nat} (h : k ≤ W.length) : x_fo (W.take k) k = x_fo W k := by
  have := x_fo_app (W := W.take k) (V := W.drop k) (k := k) (by rw [List.length_take]; omega)
  rw [List.take_append_drop] at this
  exact this.symm
theorem x_all_take {W : List x_T} {k : Nat} (h : k ≤ W.length) : (x_all W).take (x_fo W k) = x_all (W.take k) := by
  have e : x_all W = x_all (W.take k) ++ x_all (W.drop k) := by rw [← x_all_app, List.take_append_drop]
  have l : (x_all (W.take k)).length = x_fo W k := by
    rw [x_all_len, List.length_take, Nat.min_eq_left h, x_fo_take h]
  rw [e, ← l, List.take_left']
  rfl
theorem x_all_succ {W : List x_T} {k : Nat} (h : k < W.length) : (x_all W).take (x_fo W (k + 1)) = (x_all W).take (x_fo W k) ++ (W.getD k x_0).2.2.map Prod.fst := by
  rw [x_all_take (by omega : k + 1 ≤ W.length), x_all_take (by omega : k ≤ W.length), List.take_succ, x_all_app]
  congr 1
  rw [List.getD_eq_getElem?_getD, List.getElem?_eq_getElem h]
  exact x_all_one
theorem x_fo_top {W : List x_T} {k : Nat} (h : W.length ≤ k) : x_fo W k = (x_all W).length := by
  rw [x_all_len]
  induction k with
  | zero => rw [show W.length = 0 by omega]
  | succ k ih =>
    by_cases q : W.length ≤ k
    · show x_fo W k + (W.getD k x_0).2.2.length = _
      rw [ih q, List.getD_eq_getElem?_getD, List.getElem?_eq_none q]
      rfl
    · rw [show k + 1 = W.length by omega]
theorem x_fo_len {W : List x_T} {k : Nat} : x_fo W k ≤ (x_all W).length := by
  by_cases q : k ≤ W.length
  · rw [x_all_len]
    exact x_fo_le W q
  · rw [x_fo_top (by omega)]
    exact Nat.le_refl _
def x_kk (W : List x_T) (k : Nat) : Nat := if k < W.length then (W.getD k x_0).1 else 3
section WP
variable {b : Nat} {R : Nat → Option va_E} {σ : c_S b} {ad : Nat → Nat} {d : Nat} {t : List Int} {W : List x_T} {T : Nat} {bs : List Int} {O : z_O}
/-- so many tokens are behind -/
def c_be (σ : c_S b) (t : List Int) (W : List x_T) (k : Nat) : Prop := ∃ n, c_Z σ t n ((x_all W).take (x_fo W k)) ∧ x_W t n = W.drop k ∧ k ≤ W.length
/-- this token is the current one -/
def c_cu (σ : c_S b) (t : List Int) (W : List x_T) (k : Nat) : Prop := k ≤ W.length ∧ c_K σ (x_kk W k) (x_pla W t k) (x_fo W k) (x_fo W (k + 1)) (x_pl (W.getD k x_0).2.2) ∧ ∃ n, c_Z σ t n ((x_all W).take (x_fo W (k + 1))) ∧ x_W t n = W.drop (k + 1)
theorem c_cu.be {k : Nat} (h : c_cu σ t W k) (hk : k < W.length) : c_be σ t W (k + 1) := by
  obtain ⟨n, h1, h2⟩ := h.2.2
  exact ⟨n, h1, h2, by omega⟩
theorem c_Z.U {n : Nat} {pre : List Int} (h : c_Z σ t n pre) (hk : x_okl pre) : c_U σ pre := by
  obtain ⟨h1, h2, h3, h4, h5⟩ := h
  have := h1.2.2.1
  exact ⟨h2.1, ⟨by omega, by omega⟩, hk, h2.2⟩
theorem x_okl_take {l : List Int} {n : Nat} (h : x_okl l) : x_okl (l.take n) := fun x hx => h x (List.mem_of_mem_take hx)
theorem c_cu.U {k : Nat} (h : c_cu σ t W k) (hX : x_tok t W) : c_U σ ((x_all W).take (x_fo W (k + 1))) := by
  obtain ⟨n, h1, h2⟩ := h.2.2
  exact h1.U (x_okl_take hX.2.2.2.2.1)
/-- advance -/
theorem v_adv {k : Nat} (h : c_be σ t W k) : ∃ σ', am_gg (am_pr ad) (d + 1) 45 0 [some (.ref (b + 5))] [] (c_t R σ) = some (.inl none, c_t R σ') ∧ c_fw σ σ' ∧ c_cu σ' t W k := by
  obtain ⟨n, h1, h2, h3⟩ := h
  have hl : ((x_all W).take (x_fo W k)).length = x_fo W k := by rw [List.length_take]; exact Nat.min_eq_left x_fo_len
  obtain ⟨s2, n', e, f, hh⟩ := d_adv (R := R) (ad := ad) (d := d) h1
  refine ⟨s2, e, f, ?_⟩
  rw [hl] at hh
  rcases hh with ⟨a1, a2, a3⟩ | ⟨kk, p, l, a1, a2, a3, a4, a5⟩
  · rw [h2] at a1
    have hk : W.length ≤ k := by
      have := congrArg List.length a1
      rw [List.length_drop] at this
      simp only [List.length_nil] at this
      omega
    have e1 : x_fo W (k + 1) = x_fo W k := by rw [x_fo_top (by omega), x_fo_top hk]
    have e2 : (W.getD k x_0) = x_0 := by rw [List.getD_eq_getElem?_getD, List.getElem?_eq_none hk]; rfl
    refine ⟨h3, ?_, t.length, by rw [e1]; exact a2, ?_⟩
    · unfold x_kk x_pla
      rw [if_neg (by omega), if_neg (by omega), e1, e2]
      exact a3
    · rw [x_W_end (Nat.le_refl _), List.drop_eq_nil_of_le (by omega)]
  · rw [h2] at a1
    have hk : k < W.length := by
      have := congrArg List.length a1
      rw [List.length_drop] at this
      simp only [List.length_cons] at this
      omega
    rw [List.drop_eq_getElem_cons hk] at a1
    have e2 : W.getD k x_0 = (kk, p, l) := by
      rw [List.getD_eq_getElem?_getD, List.getElem?_eq_getElem hk]
      exact (List.cons.inj a1).1
    have e3 : x_fo W (k + 1) = x_fo W k + l.length := by
      show x_fo W k + (W.getD k x_0).2.2.length = _
      rw [e2]
    refine ⟨h3, ?_, n', ?_, (List.cons.inj a1).2.symm⟩
    · unfold x_kk x_pla
      rw [if_pos hk, if_pos hk, e2, e3]
      exact a3
    · rw [x_all_succ hk, e2]
      exact a2
theorem c_P.fw {σ' : c_S b} (h : c_P σ T bs O) (hf : c_fw σ σ') : c_P σ' T bs O := by
  obtain ⟨f1, f2, f3, f4⟩ := hf
  obtain ⟨a1, a2, a3, a4, a5⟩ := h
  refine ⟨fun c hc => (f3 9 c (by omega)).trans (a1 c hc), ?_, (f3 14 1 (by omega)).trans a3, (f3 14 2 (by omega)).trans a4, fun w => ⟨(f1 8 69 (by omega)).trans (a5 w).1, (f1 8 70 (by omega)).trans (a5 w).2⟩⟩
  intro c s e hc
  obtain ⟨b1, b2, b3, b4, b5, b6, b7⟩ := a2 c s e hc
  refine ⟨fun w => (f3 10 c (by omega)).trans (b1 w), fun w => (f3 10 c (by omega)).trans (b2 w), ?_, ?_, fun w => ⟨(f1 8 67 (by omega)).trans (b5 w).1, (f1 8 68 (by omega)).trans (b5 w).2⟩, fun w => ⟨(f1 8 69 (by omega)).trans (b6 w).1, (f1 8 70 (by omega)).trans (b6 w).2⟩, ?_⟩
  · intro w w2
    obtain ⟨rs, r1, r2⟩ := b3 w w2
    exact ⟨rs, r1, fun j hj => (f3 11 j (by omega)).trans (r2 j hj)⟩
  · intro w
    obtain ⟨z, z1, z2⟩ := b4 w
    exact ⟨z, z1, (f1 8 64 (by omega)).trans z2.1, fun j h1 h2 => (f3 12 j (by omega)).trans (z2.2 j h1 h2)⟩
  · intro w
    obtain ⟨z, z1, z2⟩ := b7 w
    exact ⟨z, z1, (f1 8 66 (by omega)).trans z2.1, fun j h1 h2 => (f3 13 j (by omega)).trans (z2.2 j h1 h2)⟩
end WP
