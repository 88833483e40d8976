/-! TR, IN THE REFERENCE -/
/-- what stands at the places so far -/
def z_bw : List Int → Nat → (Nat → Int) → (Nat → Int) → Nat → Int
  | [], _, _, g => g
  | c :: E, n, w, g => z_bw E (n + 1) w (fun b => if w b = n then c else g b)
def z_la : List Int → Int → Int
  | [], l => l
  | c :: E, _ => z_la E c
def z_in : List Int → (Nat → Int) → Nat → Int
  | [], g => g
  | c :: E, g => z_in E (fun b => if b = c.toNat then 1 else g b)
theorem z_bw_app : ∀ (E F : List Int) (n : Nat) (w g : Nat → Int), z_bw (E ++ F) n w g = z_bw F (n + E.length) w (z_bw E n w g)
  | [], F, n, w, g => rfl
  | c :: E, F, n, w, g => by
    rw [List.cons_append, z_bw, z_bw_app E F (n + 1), z_bw, List.length_cons, show n + 1 + E.length = n + (E.length + 1) by omega]
theorem z_in_app : ∀ (E F : List Int) (g : Nat → Int), z_in (E ++ F) g = z_in F (z_in E g)
  | [], F, g => rfl
  | c :: E, F, g => by rw [List.cons_append, z_in, z_in_app E F, z_in]
theorem z_la_app : ∀ (E F : List Int) (l : Int), z_la (E ++ F) l = z_la F (z_la E l)
  | [], F, l => rfl
  | c :: E, F, l => by rw [List.cons_append, z_la, z_la_app E F, z_la]
theorem z_bw_at {j : Nat} : ∀ (E : List Int) (n : Nat) (w w' f g : Nat → Int), w j = w' j → f j = g j → z_bw E n w f j = z_bw E n w' g j
  | [], n, w, w', f, g, h, h2 => h2
  | c :: E, n, w, w', f, g, h, h2 => by
    rw [z_bw, z_bw]
    exact z_bw_at E (n + 1) _ _ _ _ h (by (try dsimp only); rw [h, h2])
theorem z_in_at {j : Nat} : ∀ (E : List Int) (f g : Nat → Int), f j = g j → z_in E f j = z_in E g j
  | [], f, g, h => h
  | c :: E, f, g, h => by
    rw [z_in, z_in]
    exact z_in_at E _ _ (by (try dsimp only); rw [h])
theorem z_in_wo {j : Nat} : ∀ (E : List Int) (n : Nat) (f g : Nat → Int), g j = x_01 (decide (f j ≠ -1)) → z_in E g j = x_01 (decide (z_wo E n f j ≠ -1))
  | [], n, f, g, h => h
  | c :: E, n, f, g, h => by
    rw [z_in, z_wo]
    apply z_in_wo E (n + 1)
    try dsimp only
    by_cases q : j = c.toNat
    · rw [if_pos q, if_pos q, decide_eq_true (by omega)]
      rfl
    · rw [if_neg q, if_neg q, h]
theorem z_bw_lo {j : Nat} {w : Nat → Int} : ∀ (E : List Int) (n : Nat) (g : Nat → Int), w j < n → z_bw E n w g j = g j
  | [], n, g, h => rfl
  | c :: E, n, g, h => by
    rw [z_bw, z_bw_lo E (n + 1) _ (by omega)]
    try dsimp only
    rw [if_neg (by omega)]
theorem z_bw_bi {j : Nat} {w : Nat → Int} : ∀ (E : List Int) (n : Nat) (g : Nat → Int) (l : Int), (n : Int) ≤ w j → (if w j < ((n + E.length : Nat) : Int) then z_bw E n w g j else z_la E l) = z_bi E (w j - n).toNat l
  | [], n, g, l, h => by
    rw [if_neg (by rw [List.length_nil]; omega), z_la]
    cases (w j - n).toNat <;> rfl
  | c :: E, n, g, l, h => by
    by_cases q : w j = n
    · rw [if_pos (by rw [List.length_cons]; omega), z_bw, z_bw_lo E (n + 1) _ (by omega), show (w j - n).toNat = 0 by omega, z_bi]
      try dsimp only
      rw [if_pos q]
    · have ih := z_bw_bi E (n + 1) (fun b => if w b = n then c else g b) c (show ((n + 1 : Nat) : Int) ≤ w j by omega)
      rw [z_bw, z_la, show (w j - n).toNat = (w j - ((n + 1 : Nat) : Int)).toNat + 1 by omega, z_bi, ← ih, List.length_cons, show n + (E.length + 1) = n + 1 + E.length by omega]
theorem z_la_rg : ∀ (k : Nat) (c l : Int), z_la (z_rg c (k + 1)) l = c + k
  | 0, c, l => by rw [z_rg, z_la, z_rg, z_la]; omega
  | k + 1, c, l => by
    rw [z_rg, z_la, z_la_rg k]
    omega
section MR
variable {M : am_M} {m : Nat} {μ : m_S} {ad : Nat → Nat} {d : Nat} {t : List Int} {W : List x_T} {O : z_O} {S : List (List Int)} {x : Nat}
/-- what walk leaves -/
def m_fA (μ μ' : m_S) : Prop := (∀ k, μ'.I k = μ.I k) ∧ ∀ k i, k < 20 → μ'.A k i = μ.A k i
theorem m_fA.refl (μ : m_S) : m_fA μ μ := ⟨fun _ => rfl, fun _ _ _ => rfl⟩
theorem m_fA.trans {μ μ' μ'' : m_S} (h : m_fA μ μ') (h2 : m_fA μ' μ'') : m_fA μ μ'' := ⟨fun k => (h2.1 k).trans (h.1 k), fun k i hk => (h2.2 k i hk).trans (h.2 k i hk)⟩
theorem m_fA.uA {z i : Nat} {v : Int} (μ : m_S) (hz : 20 ≤ z) : m_fA μ (m_uA μ z i v) := ⟨fun _ => rfl, fun k j hk => by rw [m_A_uA, if_neg (by omega)]⟩
/-- only what tools change has changed -/
def m_fT (μ μ' : m_S) : Prop := (∀ k, k < 32 → μ'.I k = μ.I k) ∧ (∀ k i, k ≠ 1 → k ≠ 2 → k ≠ 3 → k < 18 → μ'.A k i = μ.A k i) ∧ (∀ i, i < 864000 → μ'.A 1 i = μ.A 1 i) ∧ (∀ i, i < 3600 → μ'.A 2 i = μ.A 2 i) ∧ (∀ i, i ≠ 12 → μ'.A 3 i = μ.A 3 i)
theorem m_fT.refl (μ : m_S) : m_fT μ μ := ⟨fun _ _ => rfl, fun _ _ _ _ _ _ => rfl, fun _ _ => rfl, fun _ _ => rfl, fun _ _ => rfl⟩
theorem m_fT.trans {μ μ' μ'' : m_S} (h : m_fT μ μ') (h2 : m_fT μ' μ'') : m_fT μ μ'' := ⟨fun k hk => (h2.1 k hk).trans (h.1 k hk), fun k i h3 h4 h5 h6 => (h2.2.1 k i h3 h4 h5 h6).trans (h.2.1 k i h3 h4 h5 h6), fun i hi => (h2.2.2.1 i hi).trans (h.2.2.1 i hi), fun i hi => (h2.2.2.2.1 i hi).trans (h.2.2.2.1 i hi), fun i hi => (h2.2.2.2.2 i hi).trans (h.2.2.2.2 i hi)⟩
theorem m_fr.fT {μ' : m_S} (h : m_fr μ μ') : m_fT μ μ' := ⟨fun k hk => h.1 k (by omega), fun k i h1 h2 h3 _ => h.2.1 k i h1 h2 h3, h.2.2.1, h.2.2.2.1, h.2.2.2.2⟩
theorem m_fA.fT {μ' : m_S} (h : m_fA μ μ') : m_fT μ μ' := ⟨fun k _ => h.1 k, fun k i _ _ _ hk => h.2 k i (by omega), fun i _ => h.2 1 i (by omega), fun i _ => h.2 2 i (by omega), fun i _ => h.2 3 i (by omega)⟩
theorem m_H.fT {μ' : m_S} (h : m_H μ t W) (hf : m_fT μ μ') : m_H μ' t W := by
  obtain ⟨h1, h2, h3, h4, h5, h6, h7⟩ := h
  have g : ∀ z i, 6 ≤ z → z < 12 → μ'.A z i = μ.A z i := fun z i y1 y2 => hf.2.1 z i (by omega) (by omega) (by omega) (by omega)
  refine ⟨(hf.1 13 (by omega)).trans h1, h2, ?_, ?_, h5, (g 8 _ (by omega) (by omega)).trans h6, (g 11 _ (by omega) (by omega)).trans h7⟩
  · intro k hk
    obtain ⟨a1, a2, a3, a4⟩ := h3 k hk
    exact ⟨(g 8 k (by omega) (by omega)).trans a1, (g 11 k (by omega) (by omega)).trans a2, (g 9 k (by omega) (by omega)).trans a3, (g 10 k (by omega) (by omega)).trans a4⟩
  · intro j hj
    obtain ⟨a1, a2⟩ := h4 j hj
    exact ⟨(g 6 j (by omega) (by omega)).trans a1, (g 7 j (by omega) (by omega)).trans a2⟩
theorem m_F.fT {μ' : m_S} {L : List (List Int)} (h : m_F μ x L) (hf : m_fT μ μ') (hx : x < 12) : m_F μ' x L := by
  obtain ⟨h1, h2, h3, h4, h5⟩ := h
  have h300 := h1.1
  refine ⟨h1, h2, (hf.2.2.2.2 x (by omega)).trans h3, fun l hl => (hf.2.2.2.1 _ (by omega)).trans (h4 l hl), fun l i hl hi => ?_⟩
  have := x_fit_at h1 l
  exact (hf.2.2.1 _ (by omega)).trans (h5 l i hl hi)
theorem m_U.fT {μ' : m_S} {bs : List Int} (h : m_U μ bs) (hf : m_fT μ μ') : m_U μ' bs := ⟨h.1, h.2.1, fun i hi => (hf.2.1 6 i (by omega) (by omega) (by omega) (by omega)).trans (h.2.2 i hi)⟩
theorem m_Po.fT {T : Nat} {μ' : m_S} (h : m_Po μ T O) (hf : m_fT μ μ') : m_Po μ' T O := by
  obtain ⟨h1, h2, h3, h4, h5⟩ := h
  have i25 := hf.1 25 (by omega)
  have i26 := hf.1 26 (by omega)
  have i27 := hf.1 27 (by omega)
  have i28 := hf.1 28 (by omega)
  refine ⟨fun c hc => (hf.2.1 13 c (by omega) (by omega) (by omega) (by omega)).trans (h1 c hc), fun c s e h6 h7 => ?_, ?_, ?_, ?_⟩
  · rw [hf.2.1 14 c (by omega) (by omega) (by omega) (by omega), hf.2.1 15 c (by omega) (by omega) (by omega) (by omega)]
    exact h2 c s e h6 h7
  · rw [i25, i26, i27, i28]; exact h3
  · rw [i25, i27]; exact h4
  · rw [i26, i28]; exact h5
theorem m_Dn.fT {n : Nat} {X : Nat → Nat} {S : Nat → List (List Int)} {μ' : m_S} (h : m_Dn μ n X S) (hf : m_fT μ μ') : m_Dn μ' n X S := by
  refine ⟨⟨(hf.1 31 (by omega)).trans h.1.1, h.1.2⟩, fun j hj => ?_⟩
  obtain ⟨h1, h2, h3⟩ := h.2 j hj
  exact ⟨(hf.2.1 17 j (by omega) (by omega) (by omega) (by omega)).trans h1, h2, h3.fT hf h2⟩
theorem m_W.fA {μ' : m_S} {L : List (List Int)} (h : m_W μ L) (hf : m_fA μ μ') : m_W μ' L := by
  obtain ⟨h1, h2, h3, h4, h5, h6⟩ := h
  refine ⟨?_, fun w => ?_, fun l hl => ?_, fun w => ?_, fun w => (hf.1 32).trans (h5 w), h6⟩
  · rw [hf.2 3 12 (by omega)]; exact h1
  · rw [hf.2 3 12 (by omega)]; exact h2 w
  · rw [hf.2 2 _ (by omega)]; exact h3 l hl
  · obtain ⟨g0, g1, g2, g3, g4, g5⟩ := h4 w
    exact ⟨(hf.1 32).trans g0, g1, g2, (hf.2 3 12 (by omega)).trans g3, fun l hl => (hf.2 2 _ (by omega)).trans (g4 l hl), fun l i hl hi => (hf.2 1 _ (by omega)).trans (g5 l i hl hi)⟩
/-- what a walk over bytes does -/
def m_wk (w : Nat) (E : List Int) (n : Nat) (μ μ' : m_S) : Prop := m_fA μ μ' ∧ (∀ j, j < 256 → μ'.A 20 j = if w = 0 then z_wo E n (μ.A 20) j else μ.A 20 j) ∧ (∀ j, j < 256 → μ'.A 21 j = if w = 1 then z_bw E n (μ.A 20) (μ.A 21) j else μ.A 21 j) ∧ (∀ j, j < 256 → μ'.A 22 j = if w = 2 then z_in E (μ.A 22) j else μ.A 22 j)
theorem m_wk.nil {w n : Nat} (μ : m_S) : m_wk w [] n μ μ := ⟨m_fA.refl μ, fun j _ => by split <;> rfl, fun j _ => by split <;> rfl, fun j _ => by split <;> rfl⟩
theorem m_wk.trans {w n : Nat} {E F : List Int} {μ μ' μ'' : m_S} (h : m_wk w E n μ μ') (h2 : m_wk w F (n + E.length) μ' μ'') : m_wk w (E ++ F) n μ μ'' := by
  obtain ⟨a0, a1, a2, a3⟩ := h
  obtain ⟨b0, b1, b2, b3⟩ := h2
  refine ⟨a0.trans b0, fun j hj => ?_, fun j hj => ?_, fun j hj => ?_⟩
  · rw [b1 j hj]
    have := a1 j hj
    by_cases q : w = 0
    · rw [if_pos q] at this ⊢
      rw [if_pos q, z_wo_app]
      exact z_wo_at _ _ _ _ this
    · rw [if_neg q] at this ⊢
      rw [if_neg q]
      exact this
  · rw [b2 j hj]
    have := a2 j hj
    have h0 := a1 j hj
    by_cases q : w = 1
    · rw [if_pos q] at this ⊢
      rw [if_neg (by omega)] at h0
      rw [if_pos q, z_bw_app]
      exact z_bw_at _ _ _ _ _ _ h0 this
    · rw [if_neg q] at this ⊢
      rw [if_neg q]
      exact this
  · rw [b3 j hj]
    have := a3 j hj
    by_cases q : w = 2
    · rw [if_pos q] at this ⊢
      rw [if_pos q, z_in_app]
      exact z_in_at _ _ _ this
    · rw [if_neg q] at this ⊢
      rw [if_neg q]
      exact this
/-- walk: all bytes whose place it is -/
theorem g_w128 {i1 i4 i5 i6 i7 : Int32} {n : Nat} {c : Int} (hn : n ≤ 3000000) : ∀ (k j : Nat) {μ : m_S}, 256 - j = k → j ≤ 256 → (∀ i, i < 256 → -1 ≤ μ.A 20 i ∧ μ.A 20 i ≤ 3000000) → ∃ (μ' : m_S), am_gg (am_pr ad) d 245 128 [some (.ref m), some (.int i1), some (.int (h_ii 1)), some (.int (h_ii n)), some (.int i4), some (.int i5), some (.int i6), some (.int i7), some (.int (h_ii c)), some (.int (h_ii j))] [] (m_t M m μ) = am_gg (am_pr ad) d 245 177 [some (.ref m), some (.int i1), some (.int (h_ii 1)), some (.int (h_ii n)), some (.int i4), some (.int i5), some (.int i6), some (.int i7), some (.int (h_ii c)), some (.int (h_ii 256))] [] (m_t M m μ') ∧ m_fA μ μ' ∧ (∀ i, μ'.A 20 i = μ.A 20 i) ∧ (∀ i, μ'.A 22 i = μ.A 22 i) ∧ (∀ i, j ≤ i → i < 256 → μ'.A 21 i = if μ.A 20 i = n then c else μ.A 21 i) ∧ (∀ i, i < j → μ'.A 21 i = μ.A 21 i)
  | 0, j, μ, hk, hj, hb => by
    have hj6 : j = 256 := by omega
    refine ⟨μ, ?_, m_fA.refl μ, fun _ => rfl, fun _ => rfl, fun i _ _ => by omega, fun _ _ => rfl⟩
    rw [hj6, B245_128]
    simp (disch := first | assumption | omega | decide | (simp only [m_I_uI, m_A_uI, m_I_uA, m_A_uA] <;> first | assumption | omega) | fail) only [↓mp_0_b, ↓mp_6_b, ↓mp_13_b, ↓mp_14_b, ↓mp_15_b, ↓mp_16_b, ↓mp_17_b, ↓mp_19_b, ↓mp_20_b, ↓mp_21_b, ↓mp_25_b, ↓mp_26_b, ↓mp_27_b, ↓mp_28_b, ↓mp_31_b, ↓mp_32_b, ↓mp_35_b, ↓mp_36_b, ↓mp_37_b, ↓mp_38_b, ↓mp_39_b, ↓mp_40_b, ↓mp_41_b, ↓mp_42_b, ↓mp_43_b, ↓ml_1_b, ↓ms_1_b, ↓ml_2_b, ↓ms_2_b, ↓ml_3_b, ↓ms_3_b, ↓ml_4_b, ↓ms_4_b, ↓ml_5_b, ↓ms_5_b, ↓ml_6_b, ↓ms_6_b, ↓ml_7_b, ↓ms_7_b, ↓ml_8_b, ↓ms_8_b, ↓ml_9_b, ↓ms_9_b, ↓ml_10_b, ↓ms_10_b, ↓ml_11_b, ↓ms_11_b, ↓ml_13_b, ↓ms_13_b, ↓ml_14_b, ↓ms_14_b, ↓ml_15_b, ↓ms_15_b, ↓ml_16_b, ↓ms_16_b, ↓ml_17_b, ↓ms_17_b, ↓ml_18_b, ↓ms_18_b, ↓ml_19_b, ↓ms_19_b, ↓ml_20_b, ↓ms_20_b, ↓ml_21_b, ↓ms_21_b, ↓ml_22_b, ↓ms_22_b, m_cl, mg_0, mp_0, mr_1, mr_2, mr_3, mr_4, mr_5, mg_6, mp_6, mr_7, mr_8, mr_9, mr_10, mr_11, mr_12, mg_13, mp_13, mg_14, mp_14, mg_15, mp_15, mg_16, mp_16, mg_17, mp_17, mr_18, mg_19, mp_19, mg_20, mp_20, mg_21, mp_21, mr_22, mr_23, mr_24, mg_25, mp_25, mg_26, mp_26, mg_27, mp_27, mg_28, mp_28, mr_29, mr_30, mg_31, mp_31, mg_32, mp_32, mr_33, mr_34, mg_35, mp_35, mg_36, mp_36, mg_37, mp_37, mg_38, mp_38, mg_39, mp_39, mg_40, mp_40, mg_41, mp_41, mg_42, mp_42, mg_43, mp_43, mr_44, mr_45, mr_46, ml_1, ms_1, ml_2, ms_2, ml_3, ms_3, ml_4, ms_4, ml_5, ms_5, ml_6, ms_6, ml_7, ms_7, ml_8, ms_8, ml_9, ms_9, ml_10, ms_10, ml_11, ms_11, ml_13, ms_13, ml_14, ms_14, ml_15, ms_15, ml_16, ms_16, ml_17, ms_17, ml_18, ms_18, ml_19, ms_19, ml_20, ms_20, ml_21, ms_21, ml_22, ms_22, h_nI, Int.cast_ofNat_Int, h_b8, Int.bmod_bmod, h_add, h_sub, h_mul, h_neg, h_zero, h_and255, h_and15, h_and3, h_cltT, h_cltF, h_cgeT, h_cgeF, h_cgtT, h_cgtF, h_cleT, h_cleF, h_ceqT, h_ceqF, h_cneT, h_cneF, m_I_uI, m_A_uI, m_I_uA, m_A_uA, m_t1, ↓reduceIte, Option.bind_some, am_ret0, am_ret1, am_ret2, if_true, if_false, true_and, and_true, false_and, and_false, not_true_eq_false, not_false_eq_true, Nat.reduceEqDiff, Nat.reduceAdd, Nat.reduceSub, Nat.reduceMul, Int.reduceAdd, Int.reduceSub, Int.reduceMul, Int.reduceNeg, Int.reduceToNat, Int.reduceLT, Int.reduceLE, Nat.add_left_cancel_iff]
    try rfl
  | k + 1, j, μ, hk, hj, hb => by
    have hbj := hb j (by omega)
    obtain ⟨s1, e1, f1, a1, a2, a3, a4⟩ := g_w128 (i1 := i1) (i4 := i4) (i5 := i5) (i6 := i6) (i7 := i7) (n := n) (c := c) hn k (j + 1) (μ := m_uA μ 21 j (if μ.A 20 j = n then c else μ.A 21 j)) (by omega) (by omega) (fun i hi => by rw [m_A_uA, if_neg (by omega)]; exact hb i hi)
    refine ⟨s1, ?_, (m_fA.uA μ (by omega)).trans f1, fun i => ?_, fun i => ?_, fun i h1 h2 => ?_, fun i h1 => ?_⟩
    · rw [B245_128]
      by_cases w : μ.A 20 j = n
      · rw [if_pos w] at e1
        simp (disch := first | assumption | omega | decide | (simp only [m_I_uI, m_A_uI, m_I_uA, m_A_uA] <;> first | assumption | omega) | fail) only [↓mp_0_b, ↓mp_6_b, ↓mp_13_b, ↓mp_14_b, ↓mp_15_b, ↓mp_16_b, ↓mp_17_b, ↓mp_19_b, ↓mp_20_b, ↓mp_21_b, ↓mp_25_b, ↓mp_26_b, ↓mp_27_b, ↓mp_28_b, ↓mp_31_b, ↓mp_32_b, ↓mp_35_b, ↓mp_36_b, ↓mp_37_b, ↓mp_38_b, ↓mp_39_b, ↓mp_40_b, ↓mp_41_b, ↓mp_42_b, ↓mp_43_b, ↓ml_1_b, ↓ms_1_b, ↓ml_2_b, ↓ms_2_b, ↓ml_3_b, ↓ms_3_b, ↓ml_4_b, ↓ms_4_b, ↓ml_5_b, ↓ms_5_b, ↓ml_6_b, ↓ms_6_b, ↓ml_7_b, ↓ms_7_b, ↓ml_8_b, ↓ms_8_b, ↓ml_9_b, ↓ms_9_b, ↓ml_10_b, ↓ms_10_b, ↓ml_11_b, ↓ms_11_b, ↓ml_13_b, ↓ms_13_b, ↓ml_14_b, ↓ms_14_b, ↓ml_15_b, ↓ms_15_b, ↓ml_16_b, ↓ms_16_b, ↓ml_17_b, ↓ms_17_b, ↓ml_18_b, ↓ms_18_b, ↓ml_19_b, ↓ms_19_b, ↓ml_20_b, ↓ms_20_b, ↓ml_21_b, ↓ms_21_b, ↓ml_22_b, ↓ms_22_b, m_cl, mg_0, mp_0, mr_1, mr_2, mr_3, mr_4, mr_5, mg_6, mp_6, mr_7, mr_8, mr_9, mr_10, mr_11, mr_12, mg_13, mp_13, mg_14, mp_14, mg_15, mp_15, mg_16, mp_16, mg_17, mp_17, mr_18, mg_19, mp_19, mg_20, mp_20, mg_21, mp_21, mr_22, mr_23, mr_24, mg_25, mp_25, mg_26, mp_26, mg_27, mp_27, mg_28, mp_28, mr_29, mr_30, mg_31, mp_31, mg_32, mp_32, mr_33, mr_34, mg_35, mp_35, mg_36, mp_36, mg_37, mp_37, mg_38, mp_38, mg_39, mp_39, mg_40, mp_40, mg_41, mp_41, mg_42, mp_42, mg_43, mp_43, mr_44, mr_45, mr_46, ml_1, ms_1, ml_2, ms_2, ml_3, ms_3, ml_4, ms_4, ml_5, ms_5, ml_6, ms_6, ml_7, ms_7, ml_8, ms_8, ml_9, ms_9, ml_10, ms_10, ml_11, ms_11, ml_13, ms_13, ml_14, ms_14, ml_15, ms_15, ml_16, ms_16, ml_17, ms_17, ml_18, ms_18, ml_19, ms_19, ml_20, ms_20, ml_21, ms_21, ml_22, ms_22, h_nI, Int.cast_ofNat_Int, h_b8, Int.bmod_bmod, h_add, h_sub, h_mul, h_neg, h_zero, h_and255, h_and15, h_and3, h_cltT, h_cltF, h_cgeT, h_cgeF, h_cgtT, h_cgtF, h_cleT, h_cleF, h_ceqT, h_ceqF, h_cneT, h_cneF, m_I_uI, m_A_uI, m_I_uA, m_A_uA, m_t1, ↓reduceIte, Option.bind_some, am_ret0, am_ret1, am_ret2, if_true, if_false, true_and, and_true, false_and, and_false, not_true_eq_false, not_false_eq_true, Nat.reduceEqDiff, Nat.reduceAdd, Nat.reduceSub, Nat.reduceMul, Int.reduceAdd, Int.reduceSub, Int.reduceMul, Int.reduceNeg, Int.reduceToNat, Int.reduceLT, Int.reduceLE, Nat.add_left_cancel_iff, Int.toNat_natCast, w, B245_170]
        exact e1
      · rw [if_neg w] at e1
        simp (disch := first | assumption | omega | decide | (simp only [m_I_uI, m_A_uI, m_I_uA, m_A_uA] <;> first | assumption | omega) | fail) only [↓mp_0_b, ↓mp_6_b, ↓mp_13_b, ↓mp_14_b, ↓mp_15_b, ↓mp_16_b, ↓mp_17_b, ↓mp_19_b, ↓mp_20_b, ↓mp_21_b, ↓mp_25_b, ↓mp_26_b, ↓mp_27_b, ↓mp_28_b, ↓mp_31_b, ↓mp_32_b, ↓mp_35_b, ↓mp_36_b, ↓mp_37_b, ↓mp_38_b, ↓mp_39_b, ↓mp_40_b, ↓mp_41_b, ↓mp_42_b, ↓mp_43_b, ↓ml_1_b, ↓ms_1_b, ↓ml_2_b, ↓ms_2_b, ↓ml_3_b, ↓ms_3_b, ↓ml_4_b, ↓ms_4_b, ↓ml_5_b, ↓ms_5_b, ↓ml_6_b, ↓ms_6_b, ↓ml_7_b, ↓ms_7_b, ↓ml_8_b, ↓ms_8_b, ↓ml_9_b, ↓ms_9_b, ↓ml_10_b, ↓ms_10_b, ↓ml_11_b, ↓ms_11_b, ↓ml_13_b, ↓ms_13_b, ↓ml_14_b, ↓ms_14_b, ↓ml_15_b, ↓ms_15_b, ↓ml_16_b, ↓ms_16_b, ↓ml_17_b, ↓ms_17_b, ↓ml_18_b, ↓ms_18_b, ↓ml_19_b, ↓ms_19_b, ↓ml_20_b, ↓ms_20_b, ↓ml_21_b, ↓ms_21_b, ↓ml_22_b, ↓ms_22_b, m_cl, mg_0, mp_0, mr_1, mr_2, mr_3, mr_4, mr_5, mg_6, mp_6, mr_7, mr_8, mr_9, mr_10, mr_11, mr_12, mg_13, mp_13, mg_14, mp_14, mg_15, mp_15, mg_16, mp_16, mg_17, mp_17, mr_18, mg_19, mp_19, mg_20, mp_20, mg_21, mp_21, mr_22, mr_23, mr_24, mg_25, mp_25, mg_26, mp_26, mg_27, mp_27, mg_28, mp_28, mr_29, mr_30, mg_31, mp_31, mg_32, mp_32, mr_33, mr_34, mg_35, mp_35, mg_36, mp_36, mg_37, mp_37, mg_38, mp_38, mg_39, mp_39, mg_40, mp_40, mg_41, mp_41, mg_42, mp_42, mg_43, mp_43, mr_44, mr_45, mr_46, ml_1, ms_1, ml_2, ms_2, ml_3, ms_3, ml_4, ms_4, ml_5, ms_5, ml_6, ms_6, ml_7, ms_7, ml_8, ms_8, ml_9, ms_9, ml_10, ms_10, ml_11, ms_11, ml_13, ms_13, ml_14, ms_14, ml_15, ms_15, ml_16, ms_16, ml_17, ms_17, ml_18, ms_18, ml_19, ms_19, ml_20, ms_20, ml_21, ms_21, ml_22, ms_22, h_nI, Int.cast_ofNat_Int, h_b8, Int.bmod_bmod, h_add, h_sub, h_mul, h_neg, h_zero, h_and255, h_and15, h_and3, h_cltT, h_cltF, h_cgeT, h_cgeF, h_cgtT, h_cgtF, h_cleT, h_cleF, h_ceqT, h_ceqF, h_cneT, h_cneF, m_I_uI, m_A_uI, m_I_uA, m_A_uA, m_t1, ↓reduceIte, Option.bind_some, am_ret0, am_ret1, am_ret2, if_true, if_false, true_and, and_true, false_and, and_false, not_true_eq_false, not_false_eq_true, Nat.reduceEqDiff, Nat.reduceAdd, Nat.reduceSub, Nat.reduceMul, Int.reduceAdd, Int.reduceSub, Int.reduceMul, Int.reduceNeg, Int.reduceToNat, Int.reduceLT, Int.reduceLE, Nat.add_left_cancel_iff, Int.toNat_natCast, B245_170]
        exact e1
    · rw [a1, m_A_uA, if_neg (by omega)]
    · rw [a2, m_A_uA, if_neg (by omega)]
    · by_cases q : i = j
      · rw [a4 i (by omega), m_A_uA, if_pos ⟨rfl, q⟩, q]
      · have z1 : ∀ v, (m_uA μ 21 j v).A 20 i = μ.A 20 i := fun v => by rw [m_A_uA, if_neg (by omega)]
        have z2 : ∀ v, (m_uA μ 21 j v).A 21 i = μ.A 21 i := fun v => by rw [m_A_uA, if_neg (by omega)]
        rw [a3 i (by omega) h2, z1, z2]
    · rw [a4 i (by omega), m_A_uA, if_neg (by omega)]
/-- walk: one byte -/
theorem g_w1 {i1 i5 i6 : Int32} {w n : Nat} {c h la : Int} {o9 : Option Value} (hw : w < 3) (hn : n ≤ 3000000) (hc : 0 ≤ c ∧ c ≤ h) (hh : h < 256) (hb : w = 1 → ∀ i, i < 256 → -1 ≤ μ.A 20 i ∧ μ.A 20 i ≤ 3000000) : ∃ (μ' : m_S) (o9' : Option Value), am_gg (am_pr ad) d 245 90 [some (.ref m), some (.int i1), some (.int (h_ii w)), some (.int (h_ii n)), some (.int (h_ii la)), some (.int i5), some (.int i6), some (.int (h_ii h)), some (.int (h_ii c)), o9] [] (m_t M m μ) = am_gg (am_pr ad) d 245 90 [some (.ref m), some (.int i1), some (.int (h_ii w)), some (.int (h_ii ((n + 1 : Nat) : Int))), some (.int (h_ii c)), some (.int i5), some (.int i6), some (.int (h_ii h)), some (.int (h_ii (c + 1))), o9'] [] (m_t M m μ') ∧ m_wk w [c] n μ μ' := by
  have hw3 : w = 0 ∨ w = 1 ∨ w = 2 := by omega
  rcases hw3 with q | q | q
  · subst q
    refine ⟨m_uA μ 20 c.toNat n, some (.int (h_ii 0)), ?_, m_fA.uA μ (by omega), fun j hj => ?_, fun j hj => ?_, fun j hj => ?_⟩
    · rw [B245_90]
      simp (disch := first | assumption | omega | decide | (simp only [m_I_uI, m_A_uI, m_I_uA, m_A_uA] <;> first | assumption | omega) | fail) only [↓mp_0_b, ↓mp_6_b, ↓mp_13_b, ↓mp_14_b, ↓mp_15_b, ↓mp_16_b, ↓mp_17_b, ↓mp_19_b, ↓mp_20_b, ↓mp_21_b, ↓mp_25_b, ↓mp_26_b, ↓mp_27_b, ↓mp_28_b, ↓mp_31_b, ↓mp_32_b, ↓mp_35_b, ↓mp_36_b, ↓mp_37_b, ↓mp_38_b, ↓mp_39_b, ↓mp_40_b, ↓mp_41_b, ↓mp_42_b, ↓mp_43_b, ↓ml_1_b, ↓ms_1_b, ↓ml_2_b, ↓ms_2_b, ↓ml_3_b, ↓ms_3_b, ↓ml_4_b, ↓ms_4_b, ↓ml_5_b, ↓ms_5_b, ↓ml_6_b, ↓ms_6_b, ↓ml_7_b, ↓ms_7_b, ↓ml_8_b, ↓ms_8_b, ↓ml_9_b, ↓ms_9_b, ↓ml_10_b, ↓ms_10_b, ↓ml_11_b, ↓ms_11_b, ↓ml_13_b, ↓ms_13_b, ↓ml_14_b, ↓ms_14_b, ↓ml_15_b, ↓ms_15_b, ↓ml_16_b, ↓ms_16_b, ↓ml_17_b, ↓ms_17_b, ↓ml_18_b, ↓ms_18_b, ↓ml_19_b, ↓ms_19_b, ↓ml_20_b, ↓ms_20_b, ↓ml_21_b, ↓ms_21_b, ↓ml_22_b, ↓ms_22_b, m_cl, mg_0, mp_0, mr_1, mr_2, mr_3, mr_4, mr_5, mg_6, mp_6, mr_7, mr_8, mr_9, mr_10, mr_11, mr_12, mg_13, mp_13, mg_14, mp_14, mg_15, mp_15, mg_16, mp_16, mg_17, mp_17, mr_18, mg_19, mp_19, mg_20, mp_20, mg_21, mp_21, mr_22, mr_23, mr_24, mg_25, mp_25, mg_26, mp_26, mg_27, mp_27, mg_28, mp_28, mr_29, mr_30, mg_31, mp_31, mg_32, mp_32, mr_33, mr_34, mg_35, mp_35, mg_36, mp_36, mg_37, mp_37, mg_38, mp_38, mg_39, mp_39, mg_40, mp_40, mg_41, mp_41, mg_42, mp_42, mg_43, mp_43, mr_44, mr_45, mr_46, ml_1, ms_1, ml_2, ms_2, ml_3, ms_3, ml_4, ms_4, ml_5, ms_5, ml_6, ms_6, ml_7, ms_7, ml_8, ms_8, ml_9, ms_9, ml_10, ms_10, ml_11, ms_11, ml_13, ms_13, ml_14, ms_14, ml_15, ms_15, ml_16, ms_16, ml_17, ms_17, ml_18, ms_18, ml_19, ms_19, ml_20, ms_20, ml_21, ms_21, ml_22, ms_22, h_nI, Int.cast_ofNat_Int, h_b8, Int.bmod_bmod, h_add, h_sub, h_mul, h_neg, h_zero, h_and255, h_and15, h_and3, h_cltT, h_cltF, h_cgeT, h_cgeF, h_cgtT, h_cgtF, h_cleT, h_cleF, h_ceqT, h_ceqF, h_cneT, h_cneF, m_I_uI, m_A_uI, m_I_uA, m_A_uA, m_t1, ↓reduceIte, Option.bind_some, am_ret0, am_ret1, am_ret2, if_true, if_false, true_and, and_true, false_and, and_false, not_true_eq_false, not_false_eq_true, Nat.reduceEqDiff, Nat.reduceAdd, Nat.reduceSub, Nat.reduceMul, Int.reduceAdd, Int.reduceSub, Int.reduceMul, Int.reduceNeg, Int.reduceToNat, Int.reduceLT, Int.reduceLE, Nat.add_left_cancel_iff, B245_125]
      rw [B245_128]
      simp (disch := first | assumption | omega | decide | (simp only [m_I_uI, m_A_uI, m_I_uA, m_A_uA] <;> first | assumption | omega) | fail) only [↓mp_0_b, ↓mp_6_b, ↓mp_13_b, ↓mp_14_b, ↓mp_15_b, ↓mp_16_b, ↓mp_17_b, ↓mp_19_b, ↓mp_20_b, ↓mp_21_b, ↓mp_25_b, ↓mp_26_b, ↓mp_27_b, ↓mp_28_b, ↓mp_31_b, ↓mp_32_b, ↓mp_35_b, ↓mp_36_b, ↓mp_37_b, ↓mp_38_b, ↓mp_39_b, ↓mp_40_b, ↓mp_41_b, ↓mp_42_b, ↓mp_43_b, ↓ml_1_b, ↓ms_1_b, ↓ml_2_b, ↓ms_2_b, ↓ml_3_b, ↓ms_3_b, ↓ml_4_b, ↓ms_4_b, ↓ml_5_b, ↓ms_5_b, ↓ml_6_b, ↓ms_6_b, ↓ml_7_b, ↓ms_7_b, ↓ml_8_b, ↓ms_8_b, ↓ml_9_b, ↓ms_9_b, ↓ml_10_b, ↓ms_10_b, ↓ml_11_b, ↓ms_11_b, ↓ml_13_b, ↓ms_13_b, ↓ml_14_b, ↓ms_14_b, ↓ml_15_b, ↓ms_15_b, ↓ml_16_b, ↓ms_16_b, ↓ml_17_b, ↓ms_17_b, ↓ml_18_b, ↓ms_18_b, ↓ml_19_b, ↓ms_19_b, ↓ml_20_b, ↓ms_20_b, ↓ml_21_b, ↓ms_21_b, ↓ml_22_b, ↓ms_22_b, m_cl, mg_0, mp_0, mr_1, mr_2, mr_3, mr_4, mr_5, mg_6, mp_6, mr_7, mr_8, mr_9, mr_10, mr_11, mr_12, mg_13, mp_13, mg_14, mp_14, mg_15, mp_15, mg_16, mp_16, mg_17, mp_17, mr_18, mg_19, mp_19, mg_20, mp_20, mg_21, mp_21, mr_22, mr_23, mr_24, mg_25, mp_25, mg_26, mp_26, mg_27, mp_27, mg_28, mp_28, mr_29, mr_30, mg_31, mp_31, mg_32, mp_32, mr_33, mr_34, mg_35, mp_35, mg_36, mp_36, mg_37, mp_37, mg_38, mp_38, mg_39, mp_39, mg_40, mp_40, mg_41, mp_41, mg_42, mp_42, mg_43, mp_43, mr_44, mr_45, mr_46, ml_1, ms_1, ml_2, ms_2, ml_3, ms_3, ml_4, ms_4, ml_5, ms_5, ml_6, ms_6, ml_7, ms_7, ml_8, ms_8, ml_9, ms_9, ml_10, ms_10, ml_11, ms_11, ml_13, ms_13, ml_14, ms_14, ml_15, ms_15, ml_16, ms_16, ml_17, ms_17, ml_18, ms_18, ml_19, ms_19, ml_20, ms_20, ml_21, ms_21, ml_22, ms_22, h_nI, Int.cast_ofNat_Int, h_b8, Int.bmod_bmod, h_add, h_sub, h_mul, h_neg, h_zero, h_and255, h_and15, h_and3, h_cltT, h_cltF, h_cgeT, h_cgeF, h_cgtT, h_cgtF, h_cleT, h_cleF, h_ceqT, h_ceqF, h_cneT, h_cneF, m_I_uI, m_A_uI, m_I_uA, m_A_uA, m_t1, ↓reduceIte, Option.bind_some, am_ret0, am_ret1, am_ret2, if_true, if_false, true_and, and_true, false_and, and_false, not_true_eq_false, not_false_eq_true, Nat.reduceEqDiff, Nat.reduceAdd, Nat.reduceSub, Nat.reduceMul, Int.reduceAdd, Int.reduceSub, Int.reduceMul, Int.reduceNeg, Int.reduceToNat, Int.reduceLT, Int.reduceLE, Nat.add_left_cancel_iff, B245_177]
      try rfl
    · rw [if_pos rfl, m_A_uA, z_wo, z_wo]
      simp only [true_and]
    · rw [if_neg (by omega), m_A_uA, if_neg (by omega)]
    · rw [if_neg (by omega), m_A_uA, if_neg (by omega)]
  · subst q
    obtain ⟨s1, e1, f1, a1, a2, a3, a4⟩ := g_w128 (M := M) (m := m) (ad := ad) (d := d) (i1 := i1) (i4 := h_ii la) (i5 := i5) (i6 := i6) (i7 := h_ii h) (n := n) (c := c) hn 256 0 (μ := μ) (by omega) (by omega) (hb rfl)
    refine ⟨s1, some (.int (h_ii 256)), ?_, f1, fun j hj => ?_, fun j hj => ?_, fun j hj => ?_⟩
    · simp only [Int.ofNat_zero] at e1
      rw [B245_90]
      simp (disch := first | assumption | omega | decide | (simp only [m_I_uI, m_A_uI, m_I_uA, m_A_uA] <;> first | assumption | omega) | fail) only [↓mp_0_b, ↓mp_6_b, ↓mp_13_b, ↓mp_14_b, ↓mp_15_b, ↓mp_16_b, ↓mp_17_b, ↓mp_19_b, ↓mp_20_b, ↓mp_21_b, ↓mp_25_b, ↓mp_26_b, ↓mp_27_b, ↓mp_28_b, ↓mp_31_b, ↓mp_32_b, ↓mp_35_b, ↓mp_36_b, ↓mp_37_b, ↓mp_38_b, ↓mp_39_b, ↓mp_40_b, ↓mp_41_b, ↓mp_42_b, ↓mp_43_b, ↓ml_1_b, ↓ms_1_b, ↓ml_2_b, ↓ms_2_b, ↓ml_3_b, ↓ms_3_b, ↓ml_4_b, ↓ms_4_b, ↓ml_5_b, ↓ms_5_b, ↓ml_6_b, ↓ms_6_b, ↓ml_7_b, ↓ms_7_b, ↓ml_8_b, ↓ms_8_b, ↓ml_9_b, ↓ms_9_b, ↓ml_10_b, ↓ms_10_b, ↓ml_11_b, ↓ms_11_b, ↓ml_13_b, ↓ms_13_b, ↓ml_14_b, ↓ms_14_b, ↓ml_15_b, ↓ms_15_b, ↓ml_16_b, ↓ms_16_b, ↓ml_17_b, ↓ms_17_b, ↓ml_18_b, ↓ms_18_b, ↓ml_19_b, ↓ms_19_b, ↓ml_20_b, ↓ms_20_b, ↓ml_21_b, ↓ms_21_b, ↓ml_22_b, ↓ms_22_b, m_cl, mg_0, mp_0, mr_1, mr_2, mr_3, mr_4, mr_5, mg_6, mp_6, mr_7, mr_8, mr_9, mr_10, mr_11, mr_12, mg_13, mp_13, mg_14, mp_14, mg_15, mp_15, mg_16, mp_16, mg_17, mp_17, mr_18, mg_19, mp_19, mg_20, mp_20, mg_21, mp_21, mr_22, mr_23, mr_24, mg_25, mp_25, mg_26, mp_26, mg_27, mp_27, mg_28, mp_28, mr_29, mr_30, mg_31, mp_31, mg_32, mp_32, mr_33, mr_34, mg_35, mp_35, mg_36, mp_36, mg_37, mp_37, mg_38, mp_38, mg_39, mp_39, mg_40, mp_40, mg_41, mp_41, mg_42, mp_42, mg_43, mp_43, mr_44, mr_45, mr_46, ml_1, ms_1, ml_2, ms_2, ml_3, ms_3, ml_4, ms_4, ml_5, ms_5, ml_6, ms_6, ml_7, ms_7, ml_8, ms_8, ml_9, ms_9, ml_10, ms_10, ml_11, ms_11, ml_13, ms_13, ml_14, ms_14, ml_15, ms_15, ml_16, ms_16, ml_17, ms_17, ml_18, ms_18, ml_19, ms_19, ml_20, ms_20, ml_21, ms_21, ml_22, ms_22, h_nI, Int.cast_ofNat_Int, h_b8, Int.bmod_bmod, h_add, h_sub, h_mul, h_neg, h_zero, h_and255, h_and15, h_and3, h_cltT, h_cltF, h_cgeT, h_cgeF, h_cgtT, h_cgtF, h_cleT, h_cleF, h_ceqT, h_ceqF, h_cneT, h_cneF, m_I_uI, m_A_uI, m_I_uA, m_A_uA, m_t1, ↓reduceIte, Option.bind_some, am_ret0, am_ret1, am_ret2, if_true, if_false, true_and, and_true, false_and, and_false, not_true_eq_false, not_false_eq_true, Nat.reduceEqDiff, Nat.reduceAdd, Nat.reduceSub, Nat.reduceMul, Int.reduceAdd, Int.reduceSub, Int.reduceMul, Int.reduceNeg, Int.reduceToNat, Int.reduceLT, Int.reduceLE, Nat.add_left_cancel_iff, B245_125]
      rw [e1, B245_177]
      simp (disch := first | assumption | omega | decide | (simp only [m_I_uI, m_A_uI, m_I_uA, m_A_uA] <;> first | assumption | omega) | fail) only [↓mp_0_b, ↓mp_6_b, ↓mp_13_b, ↓mp_14_b, ↓mp_15_b, ↓mp_16_b, ↓mp_17_b, ↓mp_19_b, ↓mp_20_b, ↓mp_21_b, ↓mp_25_b, ↓mp_26_b, ↓mp_27_b, ↓mp_28_b, ↓mp_31_b, ↓mp_32_b, ↓mp_35_b, ↓mp_36_b, ↓mp_37_b, ↓mp_38_b, ↓mp_39_b, ↓mp_40_b, ↓mp_41_b, ↓mp_42_b, ↓mp_43_b, ↓ml_1_b, ↓ms_1_b, ↓ml_2_b, ↓ms_2_b, ↓ml_3_b, ↓ms_3_b, ↓ml_4_b, ↓ms_4_b, ↓ml_5_b, ↓ms_5_b, ↓ml_6_b, ↓ms_6_b, ↓ml_7_b, ↓ms_7_b, ↓ml_8_b, ↓ms_8_b, ↓ml_9_b, ↓ms_9_b, ↓ml_10_b, ↓ms_10_b, ↓ml_11_b, ↓ms_11_b, ↓ml_13_b, ↓ms_13_b, ↓ml_14_b, ↓ms_14_b, ↓ml_15_b, ↓ms_15_b, ↓ml_16_b, ↓ms_16_b, ↓ml_17_b, ↓ms_17_b, ↓ml_18_b, ↓ms_18_b, ↓ml_19_b, ↓ms_19_b, ↓ml_20_b, ↓ms_20_b, ↓ml_21_b, ↓ms_21_b, ↓ml_22_b, ↓ms_22_b, m_cl, mg_0, mp_0, mr_1, mr_2, mr_3, mr_4, mr_5, mg_6, mp_6, mr_7, mr_8, mr_9, mr_10, mr_11, mr_12, mg_13, mp_13, mg_14, mp_14, mg_15, mp_15, mg_16, mp_16, mg_17, mp_17, mr_18, mg_19, mp_19, mg_20, mp_20, mg_21, mp_21, mr_22, mr_23, mr_24, mg_25, mp_25, mg_26, mp_26, mg_27, mp_27, mg_28, mp_28, mr_29, mr_30, mg_31, mp_31, mg_32, mp_32, mr_33, mr_34, mg_35, mp_35, mg_36, mp_36, mg_37, mp_37, mg_38, mp_38, mg_39, mp_39, mg_40, mp_40, mg_41, mp_41, mg_42, mp_42, mg_43, mp_43, mr_44, mr_45, mr_46, ml_1, ms_1, ml_2, ms_2, ml_3, ms_3, ml_4, ms_4, ml_5, ms_5, ml_6, ms_6, ml_7, ms_7, ml_8, ms_8, ml_9, ms_9, ml_10, ms_10, ml_11, ms_11, ml_13, ms_13, ml_14, ms_14, ml_15, ms_15, ml_16, ms_16, ml_17, ms_17, ml_18, ms_18, ml_19, ms_19, ml_20, ms_20, ml_21, ms_21, ml_22, ms_22, h_nI, Int.cast_ofNat_Int, h_b8, Int.bmod_bmod, h_add, h_sub, h_mul, h_neg, h_zero, h_and255, h_and15, h_and3, h_cltT, h_cltF, h_cgeT, h_cgeF, h_cgtT, h_cgtF, h_cleT, h_cleF, h_ceqT, h_ceqF, h_cneT, h_cneF, m_I_uI, m_A_uI, m_I_uA, m_A_uA, m_t1, ↓reduceIte, Option.bind_some, am_ret0, am_ret1, am_ret2, if_true, if_false, true_and, and_true, false_and, and_false, not_true_eq_false, not_false_eq_true, Nat.reduceEqDiff, Nat.reduceAdd, Nat.reduceSub, Nat.reduceMul, Int.reduceAdd, Int.reduceSub, Int.reduceMul, Int.reduceNeg, Int.reduceToNat, Int.reduceLT, Int.reduceLE, Nat.add_left_cancel_iff]
      try rfl
    · rw [if_neg (by omega), a1]
    · rw [if_pos rfl, a3 j (Nat.zero_le _) hj, z_bw, z_bw]
    · rw [if_neg (by omega), a2]
  · subst q
    refine ⟨m_uA μ 22 c.toNat 1, some (.int (h_ii 0)), ?_, m_fA.uA μ (by omega), fun j hj => ?_, fun j hj => ?_, fun j hj => ?_⟩
    · rw [B245_90]
      simp (disch := first | assumption | omega | decide | (simp only [m_I_uI, m_A_uI, m_I_uA, m_A_uA] <;> first | assumption | omega) | fail) only [↓mp_0_b, ↓mp_6_b, ↓mp_13_b, ↓mp_14_b, ↓mp_15_b, ↓mp_16_b, ↓mp_17_b, ↓mp_19_b, ↓mp_20_b, ↓mp_21_b, ↓mp_25_b, ↓mp_26_b, ↓mp_27_b, ↓mp_28_b, ↓mp_31_b, ↓mp_32_b, ↓mp_35_b, ↓mp_36_b, ↓mp_37_b, ↓mp_38_b, ↓mp_39_b, ↓mp_40_b, ↓mp_41_b, ↓mp_42_b, ↓mp_43_b, ↓ml_1_b, ↓ms_1_b, ↓ml_2_b, ↓ms_2_b, ↓ml_3_b, ↓ms_3_b, ↓ml_4_b, ↓ms_4_b, ↓ml_5_b, ↓ms_5_b, ↓ml_6_b, ↓ms_6_b, ↓ml_7_b, ↓ms_7_b, ↓ml_8_b, ↓ms_8_b, ↓ml_9_b, ↓ms_9_b, ↓ml_10_b, ↓ms_10_b, ↓ml_11_b, ↓ms_11_b, ↓ml_13_b, ↓ms_13_b, ↓ml_14_b, ↓ms_14_b, ↓ml_15_b, ↓ms_15_b, ↓ml_16_b, ↓ms_16_b, ↓ml_17_b, ↓ms_17_b, ↓ml_18_b, ↓ms_18_b, ↓ml_19_b, ↓ms_19_b, ↓ml_20_b, ↓ms_20_b, ↓ml_21_b, ↓ms_21_b, ↓ml_22_b, ↓ms_22_b, m_cl, mg_0, mp_0, mr_1, mr_2, mr_3, mr_4, mr_5, mg_6, mp_6, mr_7, mr_8, mr_9, mr_10, mr_11, mr_12, mg_13, mp_13, mg_14, mp_14, mg_15, mp_15, mg_16, mp_16, mg_17, mp_17, mr_18, mg_19, mp_19, mg_20, mp_20, mg_21, mp_21, mr_22, mr_23, mr_24, mg_25, mp_25, mg_26, mp_26, mg_27, mp_27, mg_28, mp_28, mr_29, mr_30, mg_31, mp_31, mg_32, mp_32, mr_33, mr_34, mg_35, mp_35, mg_36, mp_36, mg_37, mp_37, mg_38, mp_38, mg_39, mp_39, mg_40, mp_40, mg_41, mp_41, mg_42, mp_42, mg_43, mp_43, mr_44, mr_45, mr_46, ml_1, ms_1, ml_2, ms_2, ml_3, ms_3, ml_4, ms_4, ml_5, ms_5, ml_6, ms_6, ml_7, ms_7, ml_8, ms_8, ml_9, ms_9, ml_10, ms_10, ml_11, ms_11, ml_13, ms_13, ml_14, ms_14, ml_15, ms_15, ml_16, ms_16, ml_17, ms_17, ml_18, ms_18, ml_19, ms_19, ml_20, ms_20, ml_21, ms_21, ml_22, ms_22, h_nI, Int.cast_ofNat_Int, h_b8, Int.bmod_bmod, h_add, h_sub, h_mul, h_neg, h_zero, h_and255, h_and15, h_and3, h_cltT, h_cltF, h_cgeT, h_cgeF, h_cgtT, h_cgtF, h_cleT, h_cleF, h_ceqT, h_ceqF, h_cneT, h_cneF, m_I_uI, m_A_uI, m_I_uA, m_A_uA, m_t1, ↓reduceIte, Option.bind_some, am_ret0, am_ret1, am_ret2, if_true, if_false, true_and, and_true, false_and, and_false, not_true_eq_false, not_false_eq_true, Nat.reduceEqDiff, Nat.reduceAdd, Nat.reduceSub, Nat.reduceMul, Int.reduceAdd, Int.reduceSub, Int.reduceMul, Int.reduceNeg, Int.reduceToNat, Int.reduceLT, Int.reduceLE, Nat.add_left_cancel_iff, B245_125]
      rw [B245_128]
      simp (disch := first | assumption | omega | decide | (simp only [m_I_uI, m_A_uI, m_I_uA, m_A_uA] <;> first | assumption | omega) | fail) only [↓mp_0_b, ↓mp_6_b, ↓mp_13_b, ↓mp_14_b, ↓mp_15_b, ↓mp_16_b, ↓mp_17_b, ↓mp_19_b, ↓mp_20_b, ↓mp_21_b, ↓mp_25_b, ↓mp_26_b, ↓mp_27_b, ↓mp_28_b, ↓mp_31_b, ↓mp_32_b, ↓mp_35_b, ↓mp_36_b, ↓mp_37_b, ↓mp_38_b, ↓mp_39_b, ↓mp_40_b, ↓mp_41_b, ↓mp_42_b, ↓mp_43_b, ↓ml_1_b, ↓ms_1_b, ↓ml_2_b, ↓ms_2_b, ↓ml_3_b, ↓ms_3_b, ↓ml_4_b, ↓ms_4_b, ↓ml_5_b, ↓ms_5_b, ↓ml_6_b, ↓ms_6_b, ↓ml_7_b, ↓ms_7_b, ↓ml_8_b, ↓ms_8_b, ↓ml_9_b, ↓ms_9_b, ↓ml_10_b, ↓ms_10_b, ↓ml_11_b, ↓ms_11_b, ↓ml_13_b, ↓ms_13_b, ↓ml_14_b, ↓ms_14_b, ↓ml_15_b, ↓ms_15_b, ↓ml_16_b, ↓ms_16_b, ↓ml_17_b, ↓ms_17_b, ↓ml_18_b, ↓ms_18_b, ↓ml_19_b, ↓ms_19_b, ↓ml_20_b, ↓ms_20_b, ↓ml_21_b, ↓ms_21_b, ↓ml_22_b, ↓ms_22_b, m_cl, mg_0, mp_0, mr_1, mr_2, mr_3, mr_4, mr_5, mg_6, mp_6, mr_7, mr_8, mr_9, mr_10, mr_11, mr_12, mg_13, mp_13, mg_14, mp_14, mg_15, mp_15, mg_16, mp_16, mg_17, mp_17, mr_18, mg_19, mp_19, mg_20, mp_20, mg_21, mp_21, mr_22, mr_23, mr_24, mg_25, mp_25, mg_26, mp_26, mg_27, mp_27, mg_28, mp_28, mr_29, mr_30, mg_31, mp_31, mg_32, mp_32, mr_33, mr_34, mg_35, mp_35, mg_36, mp_36, mg_37, mp_37, mg_38, mp_38, mg_39, mp_39, mg_40, mp_40, mg_41, mp_41, mg_42, mp_42, mg_43, mp_43, mr_44, mr_45, mr_46, ml_1, ms_1, ml_2, ms_2, ml_3, ms_3, ml_4, ms_4, ml_5, ms_5, ml_6, ms_6, ml_7, ms_7, ml_8, ms_8, ml_9, ms_9, ml_10, ms_10, ml_11, ms_11, ml_13, ms_13, ml_14, ms_14, ml_15, ms_15, ml_16, ms_16, ml_17, ms_17, ml_18, ms_18, ml_19, ms_19, ml_20, ms_20, ml_21, ms_21, ml_22, ms_22, h_nI, Int.cast_ofNat_Int, h_b8, Int.bmod_bmod, h_add, h_sub, h_mul, h_neg, h_zero, h_and255, h_and15, h_and3, h_cltT, h_cltF, h_cgeT, h_cgeF, h_cgtT, h_cgtF, h_cleT, h_cleF, h_ceqT, h_ceqF, h_cneT, h_cneF, m_I_uI, m_A_uI, m_I_uA, m_A_uA, m_t1, ↓reduceIte, Option.bind_some, am_ret0, am_ret1, am_ret2, if_true, if_false, true_and, and_true, false_and, and_false, not_true_eq_false, not_false_eq_true, Nat.reduceEqDiff, Nat.reduceAdd, Nat.reduceSub, Nat.reduceMul, Int.reduceAdd, Int.reduceSub, Int.reduceMul, Int.reduceNeg, Int.reduceToNat, Int.reduceLT, Int.reduceLE, Nat.add_left_cancel_iff, B245_177]
      try rfl
    · rw [if_neg (by omega), m_A_uA, if_neg (by omega)]
    · rw [if_neg (by omega), m_A_uA, if_neg (by omega)]
    · rw [if_pos rfl, m_A_uA, z_in, z_in]
      simp only [true_and]
/-- walk: the bytes of a span -/
theorem g_w90 {i1 i5 i6 : Int32} {w : Nat} {h : Int} (hw : w < 3) (hh : 0 ≤ h ∧ h < 256) : ∀ (k : Nat) (c : Int) (n : Nat) {μ : m_S} {la : Int} {o9 : Option Value}, (h - c + 1).toNat = k → 0 ≤ c → n + k ≤ 3000000 → c ≤ 256 → (w = 1 → ∀ i, i < 256 → -1 ≤ μ.A 20 i ∧ μ.A 20 i ≤ 3000000) → ∃ (μ' : m_S) (o8 o9' : Option Value), am_gg (am_pr ad) d 245 90 [some (.ref m), some (.int i1), some (.int (h_ii w)), some (.int (h_ii n)), some (.int (h_ii la)), some (.int i5), some (.int i6), some (.int (h_ii h)), some (.int (h_ii c)), o9] [] (m_t M m μ) = am_gg (am_pr ad) d 245 8 [some (.ref m), some (.int i1), some (.int (h_ii w)), some (.int (h_ii ((n + k : Nat) : Int))), some (.int (h_ii (z_la (z_rg c k) la))), some (.int (i5 + nI 1)), some (.int i6), some (.int (h_ii h)), o8, o9'] [] (m_t M m μ') ∧ m_wk w (z_rg c k) n μ μ'
  | 0, c, n, μ, la, o9, hk, hc, hn, hc6, hb => by
    refine ⟨μ, some (.int (h_ii c)), o9, ?_, m_wk.nil μ⟩
    rw [B245_90, if_pos (by rw [h_cgt (by omega) (by omega) (by omega) (by omega)]; omega)]
    try rfl
  | k + 1, c, n, μ, la, o9, hk, hc, hn, hc6, hb => by
    obtain ⟨s1, p9, e1, r1⟩ := g_w1 (M := M) (m := m) (ad := ad) (d := d) (μ := μ) (i1 := i1) (i5 := i5) (i6 := i6) (w := w) (n := n) (c := c) (h := h) (la := la) (o9 := o9) hw (by omega) (by omega) hh.2 hb
    obtain ⟨s2, p8, q9, e2, r2⟩ := g_w90 (i1 := i1) (i5 := i5) (i6 := i6) (w := w) hw hh k (c + 1) (n + 1) (μ := s1) (la := c) (o9 := p9) (by omega) (by omega) (by omega) (by omega) (fun w1 i hi => by
      have := r1.2.1 i hi
      rw [if_neg (by omega)] at this
      rw [this]
      exact hb w1 i hi)
    refine ⟨s2, p8, q9, ?_, ?_⟩
    · rw [e1, z_rg, z_la, show n + (k + 1) = n + 1 + k by omega]
      exact e2
    · have := r1.trans (F := z_rg (c + 1) k) r2
      exact this
/-- walk: the word -/
theorem g_w8 {w k : Nat} (hw : w < 3) (hH : m_H μ t W) (hX : x_tok t W) (hk : k < W.length) : ∀ (f i n : Nat) {μ' : m_S} {la : Int} {o6 o7 o8 o9 : Option Value}, (W.getD k x_0).2.2.length + 1 - i ≤ f → i ≤ (W.getD k x_0).2.2.length → n ≤ 256 * i → m_fA μ μ' → (w = 1 → ∀ i, i < 256 → -1 ≤ μ'.A 20 i ∧ μ'.A 20 i ≤ 3000000) →
    ∃ (μ'' : m_S) (p6 p7 p8 p9 : Option Value), am_gg (am_pr ad) (d + 2) 245 8 [some (.ref m), some (.int (h_ii k)), some (.int (h_ii w)), some (.int (h_ii n)), some (.int (h_ii la)), some (.int (h_ii i)), o6, o7, o8, o9] [] (m_t M m μ') = am_gg (am_pr ad) (d + 2) 245 199 [some (.ref m), some (.int (h_ii k)), some (.int (h_ii w)), some (.int (h_ii ((n + (z_ex (x_all W) (x_fo W (k + 1)) f (x_fo W k + i)).length : Nat) : Int))), some (.int (h_ii (z_la (z_ex (x_all W) (x_fo W (k + 1)) f (x_fo W k + i)) la))), some (.int (h_ii 0)), p6, p7, p8, p9] [] (m_t M m μ'') ∧ m_wk w (z_ex (x_all W) (x_fo W (k + 1)) f (x_fo W k + i)) n μ' μ''
  | 0, i, n, μ', la, o6, o7, o8, o9, hf, hi, hn, hfr, hb => absurd hf (by omega)
  | f + 1, i, n, μ', la, o6, o7, o8, o9, hf, hi, hn, hfr, hb => by
    have a9 : μ'.A 9 k = x_fo W k := (hfr.2 9 k (by omega)).trans (hH.2.2.1 k hk).2.2.1
    have a10 : μ'.A 10 k = (W.getD k x_0).2.2.length := (hfr.2 10 k (by omega)).trans (hH.2.2.1 k hk).2.2.2
    have hW := hX.2.1
    have ht9 := hX.1
    have hl9 := hX.2.2.2.2.2.2.1
    have hfo := x_fo_len (W := W) (k := k + 1)
    have hf1 : x_fo W (k + 1) = x_fo W k + (W.getD k x_0).2.2.length := rfl
    have hH' : m_H μ' t W := hH.fT hfr.fT
    have hU := hH'.U hX
    unfold z_ex
    by_cases q : x_fo W (k + 1) ≤ x_fo W k + i
    · rw [if_pos q]
      refine ⟨μ', o6, o7, o8, o9, ?_, m_wk.nil μ'⟩
      rw [B245_8]
      simp (disch := first | assumption | omega | decide | (simp only [m_I_uI, m_A_uI, m_I_uA, m_A_uA] <;> first | assumption | omega) | fail) only [↓mp_0_b, ↓mp_6_b, ↓mp_13_b, ↓mp_14_b, ↓mp_15_b, ↓mp_16_b, ↓mp_17_b, ↓mp_19_b, ↓mp_20_b, ↓mp_21_b, ↓mp_25_b, ↓mp_26_b, ↓mp_27_b, ↓mp_28_b, ↓mp_31_b, ↓mp_32_b, ↓mp_35_b, ↓mp_36_b, ↓mp_37_b, ↓mp_38_b, ↓mp_39_b, ↓mp_40_b, ↓mp_41_b, ↓mp_42_b, ↓mp_43_b, ↓ml_1_b, ↓ms_1_b, ↓ml_2_b, ↓ms_2_b, ↓ml_3_b, ↓ms_3_b, ↓ml_4_b, ↓ms_4_b, ↓ml_5_b, ↓ms_5_b, ↓ml_6_b, ↓ms_6_b, ↓ml_7_b, ↓ms_7_b, ↓ml_8_b, ↓ms_8_b, ↓ml_9_b, ↓ms_9_b, ↓ml_10_b, ↓ms_10_b, ↓ml_11_b, ↓ms_11_b, ↓ml_13_b, ↓ms_13_b, ↓ml_14_b, ↓ms_14_b, ↓ml_15_b, ↓ms_15_b, ↓ml_16_b, ↓ms_16_b, ↓ml_17_b, ↓ms_17_b, ↓ml_18_b, ↓ms_18_b, ↓ml_19_b, ↓ms_19_b, ↓ml_20_b, ↓ms_20_b, ↓ml_21_b, ↓ms_21_b, ↓ml_22_b, ↓ms_22_b, m_cl, mg_0, mp_0, mr_1, mr_2, mr_3, mr_4, mr_5, mg_6, mp_6, mr_7, mr_8, mr_9, mr_10, mr_11, mr_12, mg_13, mp_13, mg_14, mp_14, mg_15, mp_15, mg_16, mp_16, mg_17, mp_17, mr_18, mg_19, mp_19, mg_20, mp_20, mg_21, mp_21, mr_22, mr_23, mr_24, mg_25, mp_25, mg_26, mp_26, mg_27, mp_27, mg_28, mp_28, mr_29, mr_30, mg_31, mp_31, mg_32, mp_32, mr_33, mr_34, mg_35, mp_35, mg_36, mp_36, mg_37, mp_37, mg_38, mp_38, mg_39, mp_39, mg_40, mp_40, mg_41, mp_41, mg_42, mp_42, mg_43, mp_43, mr_44, mr_45, mr_46, ml_1, ms_1, ml_2, ms_2, ml_3, ms_3, ml_4, ms_4, ml_5, ms_5, ml_6, ms_6, ml_7, ms_7, ml_8, ms_8, ml_9, ms_9, ml_10, ms_10, ml_11, ms_11, ml_13, ms_13, ml_14, ms_14, ml_15, ms_15, ml_16, ms_16, ml_17, ms_17, ml_18, ms_18, ml_19, ms_19, ml_20, ms_20, ml_21, ms_21, ml_22, ms_22, h_nI, Int.cast_ofNat_Int, h_b8, Int.bmod_bmod, h_add, h_sub, h_mul, h_neg, h_zero, h_and255, h_and15, h_and3, h_cltT, h_cltF, h_cgeT, h_cgeF, h_cgtT, h_cgtF, h_cleT, h_cleF, h_ceqT, h_ceqF, h_cneT, h_cneF, m_I_uI, m_A_uI, m_I_uA, m_A_uA, m_t1, ↓reduceIte, Option.bind_some, am_ret0, am_ret1, am_ret2, if_true, if_false, true_and, and_true, false_and, and_false, not_true_eq_false, not_false_eq_true, Nat.reduceEqDiff, Nat.reduceAdd, Nat.reduceSub, Nat.reduceMul, Int.reduceAdd, Int.reduceSub, Int.reduceMul, Int.reduceNeg, Int.reduceToNat, Int.reduceLT, Int.reduceLE, Nat.add_left_cancel_iff, Int.toNat_natCast, a10]
      try rfl
    · rw [if_neg q]
      have e1 := g_at (M := M) (m := m) (ad := ad) (d := d + 1) (i := x_fo W k + i) hU (by omega)
      rw [Int.natCast_add] at e1
      have e3 := g_rng (M := M) (m := m) (ad := ad) (d := d) (i := i) hH' hX hk hi
      have hh := z_hi_bd (i := x_fo W k + i) (e := x_fo W (k + 1)) hX.2.2.2.2.1
      have hb1 := z_vi (i := x_fo W k + i) hX.2.2.2.2.1
      -- to the bytes of the span
      obtain ⟨i', e5, hi'⟩ : ∃ i' : Nat, am_gg (am_pr ad) (d + 2) 245 8 [some (.ref m), some (.int (h_ii k)), some (.int (h_ii w)), some (.int (h_ii n)), some (.int (h_ii la)), some (.int (h_ii i)), o6, o7, o8, o9] [] (m_t M m μ') = am_gg (am_pr ad) (d + 2) 245 90 [some (.ref m), some (.int (h_ii k)), some (.int (h_ii w)), some (.int (h_ii n)), some (.int (h_ii la)), some (.int (h_ii (i' : Int))), some (.int (h_ii ((x_all W).getD (x_fo W k + i) 0))), some (.int (h_ii (z_hi (x_all W) (x_fo W k + i) (x_fo W (k + 1))))), some (.int (h_ii ((x_all W).getD (x_fo W k + i) 0))), o9] [] (m_t M m μ') ∧ (z_nx (x_all W) (x_fo W k + i) (x_fo W (k + 1)) = x_fo W k + (i' + 1) ∧ i ≤ i' ∧ i' + 1 ≤ (W.getD k x_0).2.2.length) := by
        unfold z_nx z_hi
        cases hz : z_sp (x_all W) (x_fo W k + i) (x_fo W (k + 1)) with
        | true =>
          have hq : x_fo W k + i + 2 < x_fo W (k + 1) ∧ _ := of_decide_eq_true hz
          have e2 := g_at (M := M) (m := m) (ad := ad) (d := d + 1) (i := x_fo W k + i + 2) hU (by omega)
          rw [Int.natCast_add, Int.natCast_add, show ((2 : Nat) : Int) = 2 from rfl] at e2
          rw [hz] at e3
          rw [if_pos (show true = true from rfl), if_pos (show true = true from rfl)]
          refine ⟨i + 2, ?_, by omega⟩
          rw [B245_8]
          simp (disch := first | assumption | omega | decide | (simp only [m_I_uI, m_A_uI, m_I_uA, m_A_uA] <;> first | assumption | omega) | fail) only [↓mp_0_b, ↓mp_6_b, ↓mp_13_b, ↓mp_14_b, ↓mp_15_b, ↓mp_16_b, ↓mp_17_b, ↓mp_19_b, ↓mp_20_b, ↓mp_21_b, ↓mp_25_b, ↓mp_26_b, ↓mp_27_b, ↓mp_28_b, ↓mp_31_b, ↓mp_32_b, ↓mp_35_b, ↓mp_36_b, ↓mp_37_b, ↓mp_38_b, ↓mp_39_b, ↓mp_40_b, ↓mp_41_b, ↓mp_42_b, ↓mp_43_b, ↓ml_1_b, ↓ms_1_b, ↓ml_2_b, ↓ms_2_b, ↓ml_3_b, ↓ms_3_b, ↓ml_4_b, ↓ms_4_b, ↓ml_5_b, ↓ms_5_b, ↓ml_6_b, ↓ms_6_b, ↓ml_7_b, ↓ms_7_b, ↓ml_8_b, ↓ms_8_b, ↓ml_9_b, ↓ms_9_b, ↓ml_10_b, ↓ms_10_b, ↓ml_11_b, ↓ms_11_b, ↓ml_13_b, ↓ms_13_b, ↓ml_14_b, ↓ms_14_b, ↓ml_15_b, ↓ms_15_b, ↓ml_16_b, ↓ms_16_b, ↓ml_17_b, ↓ms_17_b, ↓ml_18_b, ↓ms_18_b, ↓ml_19_b, ↓ms_19_b, ↓ml_20_b, ↓ms_20_b, ↓ml_21_b, ↓ms_21_b, ↓ml_22_b, ↓ms_22_b, m_cl, mg_0, mp_0, mr_1, mr_2, mr_3, mr_4, mr_5, mg_6, mp_6, mr_7, mr_8, mr_9, mr_10, mr_11, mr_12, mg_13, mp_13, mg_14, mp_14, mg_15, mp_15, mg_16, mp_16, mg_17, mp_17, mr_18, mg_19, mp_19, mg_20, mp_20, mg_21, mp_21, mr_22, mr_23, mr_24, mg_25, mp_25, mg_26, mp_26, mg_27, mp_27, mg_28, mp_28, mr_29, mr_30, mg_31, mp_31, mg_32, mp_32, mr_33, mr_34, mg_35, mp_35, mg_36, mp_36, mg_37, mp_37, mg_38, mp_38, mg_39, mp_39, mg_40, mp_40, mg_41, mp_41, mg_42, mp_42, mg_43, mp_43, mr_44, mr_45, mr_46, ml_1, ms_1, ml_2, ms_2, ml_3, ms_3, ml_4, ms_4, ml_5, ms_5, ml_6, ms_6, ml_7, ms_7, ml_8, ms_8, ml_9, ms_9, ml_10, ms_10, ml_11, ms_11, ml_13, ms_13, ml_14, ms_14, ml_15, ms_15, ml_16, ms_16, ml_17, ms_17, ml_18, ms_18, ml_19, ms_19, ml_20, ms_20, ml_21, ms_21, ml_22, ms_22, h_nI, Int.cast_ofNat_Int, h_b8, Int.bmod_bmod, h_add, h_sub, h_mul, h_neg, h_zero, h_and255, h_and15, h_and3, h_cltT, h_cltF, h_cgeT, h_cgeF, h_cgtT, h_cgtF, h_cleT, h_cleF, h_ceqT, h_ceqF, h_cneT, h_cneF, m_I_uI, m_A_uI, m_I_uA, m_A_uA, m_t1, ↓reduceIte, Option.bind_some, am_ret0, am_ret1, am_ret2, if_true, if_false, true_and, and_true, false_and, and_false, not_true_eq_false, not_false_eq_true, Nat.reduceEqDiff, Nat.reduceAdd, Nat.reduceSub, Nat.reduceMul, Int.reduceAdd, Int.reduceSub, Int.reduceMul, Int.reduceNeg, Int.reduceToNat, Int.reduceLT, Int.reduceLE, Nat.add_left_cancel_iff, Int.toNat_natCast, a9, a10, e1, e2, e3, x_01]
          rw [B245_64]
          simp (disch := first | assumption | omega | decide | (simp only [m_I_uI, m_A_uI, m_I_uA, m_A_uA] <;> first | assumption | omega) | fail) only [↓mp_0_b, ↓mp_6_b, ↓mp_13_b, ↓mp_14_b, ↓mp_15_b, ↓mp_16_b, ↓mp_17_b, ↓mp_19_b, ↓mp_20_b, ↓mp_21_b, ↓mp_25_b, ↓mp_26_b, ↓mp_27_b, ↓mp_28_b, ↓mp_31_b, ↓mp_32_b, ↓mp_35_b, ↓mp_36_b, ↓mp_37_b, ↓mp_38_b, ↓mp_39_b, ↓mp_40_b, ↓mp_41_b, ↓mp_42_b, ↓mp_43_b, ↓ml_1_b, ↓ms_1_b, ↓ml_2_b, ↓ms_2_b, ↓ml_3_b, ↓ms_3_b, ↓ml_4_b, ↓ms_4_b, ↓ml_5_b, ↓ms_5_b, ↓ml_6_b, ↓ms_6_b, ↓ml_7_b, ↓ms_7_b, ↓ml_8_b, ↓ms_8_b, ↓ml_9_b, ↓ms_9_b, ↓ml_10_b, ↓ms_10_b, ↓ml_11_b, ↓ms_11_b, ↓ml_13_b, ↓ms_13_b, ↓ml_14_b, ↓ms_14_b, ↓ml_15_b, ↓ms_15_b, ↓ml_16_b, ↓ms_16_b, ↓ml_17_b, ↓ms_17_b, ↓ml_18_b, ↓ms_18_b, ↓ml_19_b, ↓ms_19_b, ↓ml_20_b, ↓ms_20_b, ↓ml_21_b, ↓ms_21_b, ↓ml_22_b, ↓ms_22_b, m_cl, mg_0, mp_0, mr_1, mr_2, mr_3, mr_4, mr_5, mg_6, mp_6, mr_7, mr_8, mr_9, mr_10, mr_11, mr_12, mg_13, mp_13, mg_14, mp_14, mg_15, mp_15, mg_16, mp_16, mg_17, mp_17, mr_18, mg_19, mp_19, mg_20, mp_20, mg_21, mp_21, mr_22, mr_23, mr_24, mg_25, mp_25, mg_26, mp_26, mg_27, mp_27, mg_28, mp_28, mr_29, mr_30, mg_31, mp_31, mg_32, mp_32, mr_33, mr_34, mg_35, mp_35, mg_36, mp_36, mg_37, mp_37, mg_38, mp_38, mg_39, mp_39, mg_40, mp_40, mg_41, mp_41, mg_42, mp_42, mg_43, mp_43, mr_44, mr_45, mr_46, ml_1, ms_1, ml_2, ms_2, ml_3, ms_3, ml_4, ms_4, ml_5, ms_5, ml_6, ms_6, ml_7, ms_7, ml_8, ms_8, ml_9, ms_9, ml_10, ms_10, ml_11, ms_11, ml_13, ms_13, ml_14, ms_14, ml_15, ms_15, ml_16, ms_16, ml_17, ms_17, ml_18, ms_18, ml_19, ms_19, ml_20, ms_20, ml_21, ms_21, ml_22, ms_22, h_nI, Int.cast_ofNat_Int, h_b8, Int.bmod_bmod, h_add, h_sub, h_mul, h_neg, h_zero, h_and255, h_and15, h_and3, h_cltT, h_cltF, h_cgeT, h_cgeF, h_cgtT, h_cgtF, h_cleT, h_cleF, h_ceqT, h_ceqF, h_cneT, h_cneF, m_I_uI, m_A_uI, m_I_uA, m_A_uA, m_t1, ↓reduceIte, Option.bind_some, am_ret0, am_ret1, am_ret2, if_true, if_false, true_and, and_true, false_and, and_false, not_true_eq_false, not_false_eq_true, Nat.reduceEqDiff, Nat.reduceAdd, Nat.reduceSub, Nat.reduceMul, Int.reduceAdd, Int.reduceSub, Int.reduceMul, Int.reduceNeg, Int.reduceToNat, Int.reduceLT, Int.reduceLE, Nat.add_left_cancel_iff, e3, x_01, B245_83]
          try rfl
        | false =>
          rw [hz] at e3
          rw [if_neg (show ¬ (false = true) by decide), if_neg (show ¬ (false = true) by decide)]
          refine ⟨i, ?_, by omega⟩
          rw [B245_8]
          simp (disch := first | assumption | omega | decide | (simp only [m_I_uI, m_A_uI, m_I_uA, m_A_uA] <;> first | assumption | omega) | fail) only [↓mp_0_b, ↓mp_6_b, ↓mp_13_b, ↓mp_14_b, ↓mp_15_b, ↓mp_16_b, ↓mp_17_b, ↓mp_19_b, ↓mp_20_b, ↓mp_21_b, ↓mp_25_b, ↓mp_26_b, ↓mp_27_b, ↓mp_28_b, ↓mp_31_b, ↓mp_32_b, ↓mp_35_b, ↓mp_36_b, ↓mp_37_b, ↓mp_38_b, ↓mp_39_b, ↓mp_40_b, ↓mp_41_b, ↓mp_42_b, ↓mp_43_b, ↓ml_1_b, ↓ms_1_b, ↓ml_2_b, ↓ms_2_b, ↓ml_3_b, ↓ms_3_b, ↓ml_4_b, ↓ms_4_b, ↓ml_5_b, ↓ms_5_b, ↓ml_6_b, ↓ms_6_b, ↓ml_7_b, ↓ms_7_b, ↓ml_8_b, ↓ms_8_b, ↓ml_9_b, ↓ms_9_b, ↓ml_10_b, ↓ms_10_b, ↓ml_11_b, ↓ms_11_b, ↓ml_13_b, ↓ms_13_b, ↓ml_14_b, ↓ms_14_b, ↓ml_15_b, ↓ms_15_b, ↓ml_16_b, ↓ms_16_b, ↓ml_17_b, ↓ms_17_b, ↓ml_18_b, ↓ms_18_b, ↓ml_19_b, ↓ms_19_b, ↓ml_20_b, ↓ms_20_b, ↓ml_21_b, ↓ms_21_b, ↓ml_22_b, ↓ms_22_b, m_cl, mg_0, mp_0, mr_1, mr_2, mr_3, mr_4, mr_5, mg_6, mp_6, mr_7, mr_8, mr_9, mr_10, mr_11, mr_12, mg_13, mp_13, mg_14, mp_14, mg_15, mp_15, mg_16, mp_16, mg_17, mp_17, mr_18, mg_19, mp_19, mg_20, mp_20, mg_21, mp_21, mr_22, mr_23, mr_24, mg_25, mp_25, mg_26, mp_26, mg_27, mp_27, mg_28, mp_28, mr_29, mr_30, mg_31, mp_31, mg_32, mp_32, mr_33, mr_34, mg_35, mp_35, mg_36, mp_36, mg_37, mp_37, mg_38, mp_38, mg_39, mp_39, mg_40, mp_40, mg_41, mp_41, mg_42, mp_42, mg_43, mp_43, mr_44, mr_45, mr_46, ml_1, ms_1, ml_2, ms_2, ml_3, ms_3, ml_4, ms_4, ml_5, ms_5, ml_6, ms_6, ml_7, ms_7, ml_8, ms_8, ml_9, ms_9, ml_10, ms_10, ml_11, ms_11, ml_13, ms_13, ml_14, ms_14, ml_15, ms_15, ml_16, ms_16, ml_17, ms_17, ml_18, ms_18, ml_19, ms_19, ml_20, ms_20, ml_21, ms_21, ml_22, ms_22, h_nI, Int.cast_ofNat_Int, h_b8, Int.bmod_bmod, h_add, h_sub, h_mul, h_neg, h_zero, h_and255, h_and15, h_and3, h_cltT, h_cltF, h_cgeT, h_cgeF, h_cgtT, h_cgtF, h_cleT, h_cleF, h_ceqT, h_ceqF, h_cneT, h_cneF, m_I_uI, m_A_uI, m_I_uA, m_A_uA, m_t1, ↓reduceIte, Option.bind_some, am_ret0, am_ret1, am_ret2, if_true, if_false, true_and, and_true, false_and, and_false, not_true_eq_false, not_false_eq_true, Nat.reduceEqDiff, Nat.reduceAdd, Nat.reduceSub, Nat.reduceMul, Int.reduceAdd, Int.reduceSub, Int.reduceMul, Int.reduceNeg, Int.reduceToNat, Int.reduceLT, Int.reduceLE, Nat.add_left_cancel_iff, Int.toNat_natCast, a9, a10, e1, e3, x_01, Bool.false_eq_true]
          rw [B245_64]
          simp (disch := first | assumption | omega | decide | (simp only [m_I_uI, m_A_uI, m_I_uA, m_A_uA] <;> first | assumption | omega) | fail) only [↓mp_0_b, ↓mp_6_b, ↓mp_13_b, ↓mp_14_b, ↓mp_15_b, ↓mp_16_b, ↓mp_17_b, ↓mp_19_b, ↓mp_20_b, ↓mp_21_b, ↓mp_25_b, ↓mp_26_b, ↓mp_27_b, ↓mp_28_b, ↓mp_31_b, ↓mp_32_b, ↓mp_35_b, ↓mp_36_b, ↓mp_37_b, ↓mp_38_b, ↓mp_39_b, ↓mp_40_b, ↓mp_41_b, ↓mp_42_b, ↓mp_43_b, ↓ml_1_b, ↓ms_1_b, ↓ml_2_b, ↓ms_2_b, ↓ml_3_b, ↓ms_3_b, ↓ml_4_b, ↓ms_4_b, ↓ml_5_b, ↓ms_5_b, ↓ml_6_b, ↓ms_6_b, ↓ml_7_b, ↓ms_7_b, ↓ml_8_b, ↓ms_8_b, ↓ml_9_b, ↓ms_9_b, ↓ml_10_b, ↓ms_10_b, ↓ml_11_b, ↓ms_11_b, ↓ml_13_b, ↓ms_13_b, ↓ml_14_b, ↓ms_14_b, ↓ml_15_b, ↓ms_15_b, ↓ml_16_b, ↓ms_16_b, ↓ml_17_b, ↓ms_17_b, ↓ml_18_b, ↓ms_18_b, ↓ml_19_b, ↓ms_19_b, ↓ml_20_b, ↓ms_20_b, ↓ml_21_b, ↓ms_21_b, ↓ml_22_b, ↓ms_22_b, m_cl, mg_0, mp_0, mr_1, mr_2, mr_3, mr_4, mr_5, mg_6, mp_6, mr_7, mr_8, mr_9, mr_10, mr_11, mr_12, mg_13, mp_13, mg_14, mp_14, mg_15, mp_15, mg_16, mp_16, mg_17, mp_17, mr_18, mg_19, mp_19, mg_20, mp_20, mg_21, mp_21, mr_22, mr_23, mr_24, mg_25, mp_25, mg_26, mp_26, mg_27, mp_27, mg_28, mp_28, mr_29, mr_30, mg_31, mp_31, mg_32, mp_32, mr_33, mr_34, mg_35, mp_35, mg_36, mp_36, mg_37, mp_37, mg_38, mp_38, mg_39, mp_39, mg_40, mp_40, mg_41, mp_41, mg_42, mp_42, mg_43, mp_43, mr_44, mr_45, mr_46, ml_1, ms_1, ml_2, ms_2, ml_3, ms_3, ml_4, ms_4, ml_5, ms_5, ml_6, ms_6, ml_7, ms_7, ml_8, ms_8, ml_9, ms_9, ml_10, ms_10, ml_11, ms_11, ml_13, ms_13, ml_14, ms_14, ml_15, ms_15, ml_16, ms_16, ml_17, ms_17, ml_18, ms_18, ml_19, ms_19, ml_20, ms_20, ml_21, ms_21, ml_22, ms_22, h_nI, Int.cast_ofNat_Int, h_b8, Int.bmod_bmod, h_add, h_sub, h_mul, h_neg, h_zero, h_and255, h_and15, h_and3, h_cltT, h_cltF, h_cgeT, h_cgeF, h_cgtT, h_cgtF, h_cleT, h_cleF, h_ceqT, h_ceqF, h_cneT, h_cneF, m_I_uI, m_A_uI, m_I_uA, m_A_uA, m_t1, ↓reduceIte, Option.bind_some, am_ret0, am_ret1, am_ret2, if_true, if_false, true_and, and_true, false_and, and_false, not_true_eq_false, not_false_eq_true, Nat.reduceEqDiff, Nat.reduceAdd, Nat.reduceSub, Nat.reduceMul, Int.reduceAdd, Int.reduceSub, Int.reduceMul, Int.reduceNeg, Int.reduceToNat, Int.reduceLT, Int.reduceLE, Nat.add_left_cancel_iff, e3, x_01, Bool.false_eq_true, B245_83, Int.add_zero]
          try rfl
      obtain ⟨s1, p8, p9, e6, r1⟩ := g_w90 (M := M) (m := m) (ad := ad) (d := d + 2) (i1 := h_ii k) (i5 := h_ii (i' : Int)) (i6 := h_ii ((x_all W).getD (x_fo W k + i) 0)) (w := w) hw hh (z_hi (x_all W) (x_fo W k + i) (x_fo W (k + 1)) - (x_all W).getD (x_fo W k + i) 0 + 1).toNat ((x_all W).getD (x_fo W k + i) 0) n (μ := μ') (la := la) (o9 := o9) rfl hb1.1 (by omega) (by omega) hb
      obtain ⟨s2, q6, q7, q8, q9, e7, r2⟩ := g_w8 hw hH hX hk f (i' + 1) (n + (z_hi (x_all W) (x_fo W k + i) (x_fo W (k + 1)) - (x_all W).getD (x_fo W k + i) 0 + 1).toNat) (μ' := s1) (la := z_la (z_rg ((x_all W).getD (x_fo W k + i) 0) (z_hi (x_all W) (x_fo W k + i) (x_fo W (k + 1)) - (x_all W).getD (x_fo W k + i) 0 + 1).toNat) la) (o6 := some (.int (h_ii ((x_all W).getD (x_fo W k + i) 0)))) (o7 := some (.int (h_ii (z_hi (x_all W) (x_fo W k + i) (x_fo W (k + 1)))))) (o8 := p8) (o9 := p9) (by omega) (by omega) (by omega) (hfr.trans r1.1) (fun w1 j hj => by
        have := r1.2.1 j hj
        rw [if_neg (by omega)] at this
        rw [this]
        exact hb w1 j hj)
      rw [hi'.1]
      refine ⟨s2, q6, q7, q8, q9, ?_, ?_⟩
      · rw [e5, e6, z_la_app, List.length_append, z_rg_len, ← Nat.add_assoc]
        have hn1 : h_ii (i' : Int) + nI 1 = h_ii ((i' + 1 : Nat) : Int) := by
          simp only [h_nI, Int.cast_ofNat_Int, h_add]
          try rfl
        rw [hn1]
        exact e7
      · have := r1.trans (F := z_ex (x_all W) (x_fo W (k + 1)) f (x_fo W k + (i' + 1))) (μ'' := s2) (by rw [z_rg_len]; exact r2)
        exact this
/-- walk: behind all -/
theorem g_w199 {i1 : Int32} {n : Nat} {la : Int} {o6 o7 o8 o9 : Option Value} (hn : n ≤ 3000000) : ∀ (k j : Nat) {μ : m_S}, 256 - j = k → j ≤ 256 → (∀ i, i < 256 → -1 ≤ μ.A 20 i ∧ μ.A 20 i ≤ 3000000) → ∃ (μ' : m_S), am_gg (am_pr ad) d 245 199 [some (.ref m), some (.int i1), some (.int (h_ii 1)), some (.int (h_ii n)), some (.int (h_ii la)), some (.int (h_ii j)), o6, o7, o8, o9] [] (m_t M m μ) = some (.inl none, m_t M m μ') ∧ m_fA μ μ' ∧ (∀ i, μ'.A 20 i = μ.A 20 i) ∧ (∀ i, μ'.A 22 i = μ.A 22 i) ∧ (∀ i, j ≤ i → i < 256 → μ'.A 21 i = if μ.A 20 i < n then μ.A 21 i else la) ∧ (∀ i, i < j → μ'.A 21 i = μ.A 21 i)
  | 0, j, μ, hk, hj, hb => by
    refine ⟨μ, ?_, m_fA.refl μ, fun _ => rfl, fun _ => rfl, fun i _ _ => by omega, fun _ _ => rfl⟩
    rw [B245_199]
    simp (disch := first | assumption | omega | decide | (simp only [m_I_uI, m_A_uI, m_I_uA, m_A_uA] <;> first | assumption | omega) | fail) only [↓mp_0_b, ↓mp_6_b, ↓mp_13_b, ↓mp_14_b, ↓mp_15_b, ↓mp_16_b, ↓mp_17_b, ↓mp_19_b, ↓mp_20_b, ↓mp_21_b, ↓mp_25_b, ↓mp_26_b, ↓mp_27_b, ↓mp_28_b, ↓mp_31_b, ↓mp_32_b, ↓mp_35_b, ↓mp_36_b, ↓mp_37_b, ↓mp_38_b, ↓mp_39_b, ↓mp_40_b, ↓mp_41_b, ↓mp_42_b, ↓mp_43_b, ↓ml_1_b, ↓ms_1_b, ↓ml_2_b, ↓ms_2_b, ↓ml_3_b, ↓ms_3_b, ↓ml_4_b, ↓ms_4_b, ↓ml_5_b, ↓ms_5_b, ↓ml_6_b, ↓ms_6_b, ↓ml_7_b, ↓ms_7_b, ↓ml_8_b, ↓ms_8_b, ↓ml_9_b, ↓ms_9_b, ↓ml_10_b, ↓ms_10_b, ↓ml_11_b, ↓ms_11_b, ↓ml_13_b, ↓ms_13_b, ↓ml_14_b, ↓ms_14_b, ↓ml_15_b, ↓ms_15_b, ↓ml_16_b, ↓ms_16_b, ↓ml_17_b, ↓ms_17_b, ↓ml_18_b, ↓ms_18_b, ↓ml_19_b, ↓ms_19_b, ↓ml_20_b, ↓ms_20_b, ↓ml_21_b, ↓ms_21_b, ↓ml_22_b, ↓ms_22_b, m_cl, mg_0, mp_0, mr_1, mr_2, mr_3, mr_4, mr_5, mg_6, mp_6, mr_7, mr_8, mr_9, mr_10, mr_11, mr_12, mg_13, mp_13, mg_14, mp_14, mg_15, mp_15, mg_16, mp_16, mg_17, mp_17, mr_18, mg_19, mp_19, mg_20, mp_20, mg_21, mp_21, mr_22, mr_23, mr_24, mg_25, mp_25, mg_26, mp_26, mg_27, mp_27, mg_28, mp_28, mr_29, mr_30, mg_31, mp_31, mg_32, mp_32, mr_33, mr_34, mg_35, mp_35, mg_36, mp_36, mg_37, mp_37, mg_38, mp_38, mg_39, mp_39, mg_40, mp_40, mg_41, mp_41, mg_42, mp_42, mg_43, mp_43, mr_44, mr_45, mr_46, ml_1, ms_1, ml_2, ms_2, ml_3, ms_3, ml_4, ms_4, ml_5, ms_5, ml_6, ms_6, ml_7, ms_7, ml_8, ms_8, ml_9, ms_9, ml_10, ms_10, ml_11, ms_11, ml_13, ms_13, ml_14, ms_14, ml_15, ms_15, ml_16, ms_16, ml_17, ms_17, ml_18, ms_18, ml_19, ms_19, ml_20, ms_20, ml_21, ms_21, ml_22, ms_22, h_nI, Int.cast_ofNat_Int, h_b8, Int.bmod_bmod, h_add, h_sub, h_mul, h_neg, h_zero, h_and255, h_and15, h_and3, h_cltT, h_cltF, h_cgeT, h_cgeF, h_cgtT, h_cgtF, h_cleT, h_cleF, h_ceqT, h_ceqF, h_cneT, h_cneF, m_I_uI, m_A_uI, m_I_uA, m_A_uA, m_t1, ↓reduceIte, Option.bind_some, am_ret0, am_ret1, am_ret2, if_true, if_false, true_and, and_true, false_and, and_false, not_true_eq_false, not_false_eq_true, Nat.reduceEqDiff, Nat.reduceAdd, Nat.reduceSub, Nat.reduceMul, Int.reduceAdd, Int.reduceSub, Int.reduceMul, Int.reduceNeg, Int.reduceToNat, Int.reduceLT, Int.reduceLE, Nat.add_left_cancel_iff, B245_248]
  | k + 1, j, μ, hk, hj, hb => by
    have hbj := hb j (by omega)
    obtain ⟨s1, e1, f1, a1, a2, a3, a4⟩ := g_w199 (i1 := i1) (n := n) (la := la) (o6 := o6) (o7 := o7) (o8 := o8) (o9 := o9) hn k (j + 1) (μ := m_uA μ 21 j (if μ.A 20 j < n then μ.A 21 j else la)) (by omega) (by omega) (fun i hi => by rw [m_A_uA, if_neg (by omega)]; exact hb i hi)
    refine ⟨s1, ?_, (m_fA.uA μ (by omega)).trans f1, fun i => ?_, fun i => ?_, fun i h1 h2 => ?_, fun i h1 => ?_⟩
    · rw [B245_199]
      by_cases w : μ.A 20 j < n
      · rw [if_pos w] at e1
        simp (disch := first | assumption | omega | decide | (simp only [m_I_uI, m_A_uI, m_I_uA, m_A_uA] <;> first | assumption | omega) | fail) only [↓mp_0_b, ↓mp_6_b, ↓mp_13_b, ↓mp_14_b, ↓mp_15_b, ↓mp_16_b, ↓mp_17_b, ↓mp_19_b, ↓mp_20_b, ↓mp_21_b, ↓mp_25_b, ↓mp_26_b, ↓mp_27_b, ↓mp_28_b, ↓mp_31_b, ↓mp_32_b, ↓mp_35_b, ↓mp_36_b, ↓mp_37_b, ↓mp_38_b, ↓mp_39_b, ↓mp_40_b, ↓mp_41_b, ↓mp_42_b, ↓mp_43_b, ↓ml_1_b, ↓ms_1_b, ↓ml_2_b, ↓ms_2_b, ↓ml_3_b, ↓ms_3_b, ↓ml_4_b, ↓ms_4_b, ↓ml_5_b, ↓ms_5_b, ↓ml_6_b, ↓ms_6_b, ↓ml_7_b, ↓ms_7_b, ↓ml_8_b, ↓ms_8_b, ↓ml_9_b, ↓ms_9_b, ↓ml_10_b, ↓ms_10_b, ↓ml_11_b, ↓ms_11_b, ↓ml_13_b, ↓ms_13_b, ↓ml_14_b, ↓ms_14_b, ↓ml_15_b, ↓ms_15_b, ↓ml_16_b, ↓ms_16_b, ↓ml_17_b, ↓ms_17_b, ↓ml_18_b, ↓ms_18_b, ↓ml_19_b, ↓ms_19_b, ↓ml_20_b, ↓ms_20_b, ↓ml_21_b, ↓ms_21_b, ↓ml_22_b, ↓ms_22_b, m_cl, mg_0, mp_0, mr_1, mr_2, mr_3, mr_4, mr_5, mg_6, mp_6, mr_7, mr_8, mr_9, mr_10, mr_11, mr_12, mg_13, mp_13, mg_14, mp_14, mg_15, mp_15, mg_16, mp_16, mg_17, mp_17, mr_18, mg_19, mp_19, mg_20, mp_20, mg_21, mp_21, mr_22, mr_23, mr_24, mg_25, mp_25, mg_26, mp_26, mg_27, mp_27, mg_28, mp_28, mr_29, mr_30, mg_31, mp_31, mg_32, mp_32, mr_33, mr_34, mg_35, mp_35, mg_36, mp_36, mg_37, mp_37, mg_38, mp_38, mg_39, mp_39, mg_40, mp_40, mg_41, mp_41, mg_42, mp_42, mg_43, mp_43, mr_44, mr_45, mr_46, ml_1, ms_1, ml_2, ms_2, ml_3, ms_3, ml_4, ms_4, ml_5, ms_5, ml_6, ms_6, ml_7, ms_7, ml_8, ms_8, ml_9, ms_9, ml_10, ms_10, ml_11, ms_11, ml_13, ms_13, ml_14, ms_14, ml_15, ms_15, ml_16, ms_16, ml_17, ms_17, ml_18, ms_18, ml_19, ms_19, ml_20, ms_20, ml_21, ms_21, ml_22, ms_22, h_nI, Int.cast_ofNat_Int, h_b8, Int.bmod_bmod, h_add, h_sub, h_mul, h_neg, h_zero, h_and255, h_and15, h_and3, h_cltT, h_cltF, h_cgeT, h_cgeF, h_cgtT, h_cgtF, h_cleT, h_cleF, h_ceqT, h_ceqF, h_cneT, h_cneF, m_I_uI, m_A_uI, m_I_uA, m_A_uA, m_t1, ↓reduceIte, Option.bind_some, am_ret0, am_ret1, am_ret2, if_true, if_false, true_and, and_true, false_and, and_false, not_true_eq_false, not_false_eq_true, Nat.reduceEqDiff, Nat.reduceAdd, Nat.reduceSub, Nat.reduceMul, Int.reduceAdd, Int.reduceSub, Int.reduceMul, Int.reduceNeg, Int.reduceToNat, Int.reduceLT, Int.reduceLE, Nat.add_left_cancel_iff, Int.toNat_natCast, B245_241]
        exact e1
      · rw [if_neg w] at e1
        simp (disch := first | assumption | omega | decide | (simp only [m_I_uI, m_A_uI, m_I_uA, m_A_uA] <;> first | assumption | omega) | fail) only [↓mp_0_b, ↓mp_6_b, ↓mp_13_b, ↓mp_14_b, ↓mp_15_b, ↓mp_16_b, ↓mp_17_b, ↓mp_19_b, ↓mp_20_b, ↓mp_21_b, ↓mp_25_b, ↓mp_26_b, ↓mp_27_b, ↓mp_28_b, ↓mp_31_b, ↓mp_32_b, ↓mp_35_b, ↓mp_36_b, ↓mp_37_b, ↓mp_38_b, ↓mp_39_b, ↓mp_40_b, ↓mp_41_b, ↓mp_42_b, ↓mp_43_b, ↓ml_1_b, ↓ms_1_b, ↓ml_2_b, ↓ms_2_b, ↓ml_3_b, ↓ms_3_b, ↓ml_4_b, ↓ms_4_b, ↓ml_5_b, ↓ms_5_b, ↓ml_6_b, ↓ms_6_b, ↓ml_7_b, ↓ms_7_b, ↓ml_8_b, ↓ms_8_b, ↓ml_9_b, ↓ms_9_b, ↓ml_10_b, ↓ms_10_b, ↓ml_11_b, ↓ms_11_b, ↓ml_13_b, ↓ms_13_b, ↓ml_14_b, ↓ms_14_b, ↓ml_15_b, ↓ms_15_b, ↓ml_16_b, ↓ms_16_b, ↓ml_17_b, ↓ms_17_b, ↓ml_18_b, ↓ms_18_b, ↓ml_19_b, ↓ms_19_b, ↓ml_20_b, ↓ms_20_b, ↓ml_21_b, ↓ms_21_b, ↓ml_22_b, ↓ms_22_b, m_cl, mg_0, mp_0, mr_1, mr_2, mr_3, mr_4, mr_5, mg_6, mp_6, mr_7, mr_8, mr_9, mr_10, mr_11, mr_12, mg_13, mp_13, mg_14, mp_14, mg_15, mp_15, mg_16, mp_16, mg_17, mp_17, mr_18, mg_19, mp_19, mg_20, mp_20, mg_21, mp_21, mr_22, mr_23, mr_24, mg_25, mp_25, mg_26, mp_26, mg_27, mp_27, mg_28, mp_28, mr_29, mr_30, mg_31, mp_31, mg_32, mp_32, mr_33, mr_34, mg_35, mp_35, mg_36, mp_36, mg_37, mp_37, mg_38, mp_38, mg_39, mp_39, mg_40, mp_40, mg_41, mp_41, mg_42, mp_42, mg_43, mp_43, mr_44, mr_45, mr_46, ml_1, ms_1, ml_2, ms_2, ml_3, ms_3, ml_4, ms_4, ml_5, ms_5, ml_6, ms_6, ml_7, ms_7, ml_8, ms_8, ml_9, ms_9, ml_10, ms_10, ml_11, ms_11, ml_13, ms_13, ml_14, ms_14, ml_15, ms_15, ml_16, ms_16, ml_17, ms_17, ml_18, ms_18, ml_19, ms_19, ml_20, ms_20, ml_21, ms_21, ml_22, ms_22, h_nI, Int.cast_ofNat_Int, h_b8, Int.bmod_bmod, h_add, h_sub, h_mul, h_neg, h_zero, h_and255, h_and15, h_and3, h_cltT, h_cltF, h_cgeT, h_cgeF, h_cgtT, h_cgtF, h_cleT, h_cleF, h_ceqT, h_ceqF, h_cneT, h_cneF, m_I_uI, m_A_uI, m_I_uA, m_A_uA, m_t1, ↓reduceIte, Option.bind_some, am_ret0, am_ret1, am_ret2, if_true, if_false, true_and, and_true, false_and, and_false, not_true_eq_false, not_false_eq_true, Nat.reduceEqDiff, Nat.reduceAdd, Nat.reduceSub, Nat.reduceMul, Int.reduceAdd, Int.reduceSub, Int.reduceMul, Int.reduceNeg, Int.reduceToNat, Int.reduceLT, Int.reduceLE, Nat.add_left_cancel_iff, Int.toNat_natCast, B245_241]
        exact e1
    · rw [a1, m_A_uA, if_neg (by omega)]
    · rw [a2, m_A_uA, if_neg (by omega)]
    · by_cases q : i = j
      · rw [a4 i (by omega), m_A_uA, if_pos ⟨rfl, q⟩, q]
      · have z1 : ∀ v, (m_uA μ 21 j v).A 20 i = μ.A 20 i := fun v => by rw [m_A_uA, if_neg (by omega)]
        have z2 : ∀ v, (m_uA μ 21 j v).A 21 i = μ.A 21 i := fun v => by rw [m_A_uA, if_neg (by omega)]
        rw [a3 i (by omega) h2, z1, z2]
    · rw [a4 i (by omega), m_A_uA, if_neg (by omega)]
/-- the bytes of a word's set -/
def z_E (W : List x_T) (k : Nat) : List Int := z_ex (x_all W) (x_fo W (k + 1)) (x_fo W (k + 1) + 1) (x_fo W k)
theorem z_E_len (hX : x_tok t W) {k : Nat} : (z_E W k).length ≤ 2304000 := by
  have := z_ex_len (e := x_fo W (k + 1)) hX.2.2.2.2.1 (x_fo W (k + 1) + 1) (x_fo W k) (x_fo_le W (by omega))
  have hfo := x_fo_len (W := W) (k := k + 1)
  have hl9 := hX.2.2.2.2.2.2.1
  unfold z_E
  omega
/-- walk -/
theorem g_walk {w k : Nat} (hw : w < 3) (hH : m_H μ t W) (hX : x_tok t W) (hk : k < W.length) (hb : w = 1 → ∀ i, i < 256 → -1 ≤ μ.A 20 i ∧ μ.A 20 i ≤ 3000000) : ∃ μ', am_gg (am_pr ad) (d + 2) 245 0 [some (.ref m), some (.int (h_ii k)), some (.int (h_ii w)), none, none, none, none, none, none, none] [] (m_t M m μ) = some (.inl none, m_t M m μ') ∧ m_fA μ μ' ∧ (∀ j, j < 256 → μ'.A 20 j = if w = 0 then z_wo (z_E W k) 0 (μ.A 20) j else μ.A 20 j) ∧ (∀ j, j < 256 → μ'.A 21 j = if w = 1 then (if μ.A 20 j = -1 then μ.A 21 j else z_bi (z_E W k) (μ.A 20 j).toNat 0) else μ.A 21 j) ∧ (∀ j, j < 256 → μ'.A 22 j = if w = 2 then z_in (z_E W k) (μ.A 22) j else μ.A 22 j) := by
  have hW := hX.2.1
  have ht9 := hX.1
  have hf1 : x_fo W (k + 1) = x_fo W k + (W.getD k x_0).2.2.length := rfl
  have hlen := z_E_len (k := k) hX
  obtain ⟨s1, p6, p7, p8, p9, e1, r1⟩ := g_w8 (M := M) (m := m) (ad := ad) (d := d) hw hH hX hk (x_fo W (k + 1) + 1) 0 0 (μ' := μ) (la := 0) (o6 := none) (o7 := none) (o8 := none) (o9 := none) (by omega) (Nat.zero_le _) (Nat.zero_le _) (m_fA.refl μ) hb
  rw [Nat.add_zero] at e1 r1
  rw [Nat.zero_add] at e1
  change am_gg (am_pr ad) (d + 2) 245 8 [some (.ref m), some (.int (h_ii k)), some (.int (h_ii w)), some (.int (h_ii ((0 : Nat) : Int))), some (.int (h_ii 0)), some (.int (h_ii ((0 : Nat) : Int))), none, none, none, none] [] (m_t M m μ) = am_gg (am_pr ad) (d + 2) 245 199 [some (.ref m), some (.int (h_ii k)), some (.int (h_ii w)), some (.int (h_ii ((z_E W k).length : Int))), some (.int (h_ii (z_la (z_E W k) 0))), some (.int (h_ii 0)), p6, p7, p8, p9] [] (m_t M m s1) at e1
  change m_wk w (z_E W k) 0 μ s1 at r1
  simp only [Int.ofNat_zero] at e1
  by_cases q : w = 1
  · subst q
    have hs1 : ∀ i, i < 256 → s1.A 20 i = μ.A 20 i := fun i hi => by
      have := r1.2.1 i hi
      rw [if_neg (by omega)] at this
      exact this
    obtain ⟨s2, e2, f2, a1, a2, a3, a4⟩ := g_w199 (M := M) (m := m) (ad := ad) (d := d + 2) (i1 := h_ii k) (n := (z_E W k).length) (la := z_la (z_E W k) 0) (o6 := p6) (o7 := p7) (o8 := p8) (o9 := p9) (by omega) 256 0 (μ := s1) (by omega) (by omega) (fun i hi => by rw [hs1 i hi]; exact hb rfl i hi)
    simp only [Int.ofNat_zero] at e2
    refine ⟨s2, ?_, r1.1.trans f2, fun j hj => ?_, fun j hj => ?_, fun j hj => ?_⟩
    · rw [B245_0]
      simp (disch := first | assumption | omega | decide | (simp only [m_I_uI, m_A_uI, m_I_uA, m_A_uA] <;> first | assumption | omega) | fail) only [↓mp_0_b, ↓mp_6_b, ↓mp_13_b, ↓mp_14_b, ↓mp_15_b, ↓mp_16_b, ↓mp_17_b, ↓mp_19_b, ↓mp_20_b, ↓mp_21_b, ↓mp_25_b, ↓mp_26_b, ↓mp_27_b, ↓mp_28_b, ↓mp_31_b, ↓mp_32_b, ↓mp_35_b, ↓mp_36_b, ↓mp_37_b, ↓mp_38_b, ↓mp_39_b, ↓mp_40_b, ↓mp_41_b, ↓mp_42_b, ↓mp_43_b, ↓ml_1_b, ↓ms_1_b, ↓ml_2_b, ↓ms_2_b, ↓ml_3_b, ↓ms_3_b, ↓ml_4_b, ↓ms_4_b, ↓ml_5_b, ↓ms_5_b, ↓ml_6_b, ↓ms_6_b, ↓ml_7_b, ↓ms_7_b, ↓ml_8_b, ↓ms_8_b, ↓ml_9_b, ↓ms_9_b, ↓ml_10_b, ↓ms_10_b, ↓ml_11_b, ↓ms_11_b, ↓ml_13_b, ↓ms_13_b, ↓ml_14_b, ↓ms_14_b, ↓ml_15_b, ↓ms_15_b, ↓ml_16_b, ↓ms_16_b, ↓ml_17_b, ↓ms_17_b, ↓ml_18_b, ↓ms_18_b, ↓ml_19_b, ↓ms_19_b, ↓ml_20_b, ↓ms_20_b, ↓ml_21_b, ↓ms_21_b, ↓ml_22_b, ↓ms_22_b, m_cl, mg_0, mp_0, mr_1, mr_2, mr_3, mr_4, mr_5, mg_6, mp_6, mr_7, mr_8, mr_9, mr_10, mr_11, mr_12, mg_13, mp_13, mg_14, mp_14, mg_15, mp_15, mg_16, mp_16, mg_17, mp_17, mr_18, mg_19, mp_19, mg_20, mp_20, mg_21, mp_21, mr_22, mr_23, mr_24, mg_25, mp_25, mg_26, mp_26, mg_27, mp_27, mg_28, mp_28, mr_29, mr_30, mg_31, mp_31, mg_32, mp_32, mr_33, mr_34, mg_35, mp_35, mg_36, mp_36, mg_37, mp_37, mg_38, mp_38, mg_39, mp_39, mg_40, mp_40, mg_41, mp_41, mg_42, mp_42, mg_43, mp_43, mr_44, mr_45, mr_46, ml_1, ms_1, ml_2, ms_2, ml_3, ms_3, ml_4, ms_4, ml_5, ms_5, ml_6, ms_6, ml_7, ms_7, ml_8, ms_8, ml_9, ms_9, ml_10, ms_10, ml_11, ms_11, ml_13, ms_13, ml_14, ms_14, ml_15, ms_15, ml_16, ms_16, ml_17, ms_17, ml_18, ms_18, ml_19, ms_19, ml_20, ms_20, ml_21, ms_21, ml_22, ms_22, h_nI, Int.cast_ofNat_Int, h_b8, Int.bmod_bmod, h_add, h_sub, h_mul, h_neg, h_zero, h_and255, h_and15, h_and3, h_cltT, h_cltF, h_cgeT, h_cgeF, h_cgtT, h_cgtF, h_cleT, h_cleF, h_ceqT, h_ceqF, h_cneT, h_cneF, m_I_uI, m_A_uI, m_I_uA, m_A_uA, m_t1, ↓reduceIte, Option.bind_some, am_ret0, am_ret1, am_ret2, if_true, if_false, true_and, and_true, false_and, and_false, not_true_eq_false, not_false_eq_true, Nat.reduceEqDiff, Nat.reduceAdd, Nat.reduceSub, Nat.reduceMul, Int.reduceAdd, Int.reduceSub, Int.reduceMul, Int.reduceNeg, Int.reduceToNat, Int.reduceLT, Int.reduceLE, Nat.add_left_cancel_iff]
      rw [show h_ii 1 = h_ii ((1 : Nat) : Int) from rfl, e1]
      exact e2
    · rw [if_neg (by omega), a1, hs1 j hj]
    · have h21 := r1.2.2.1 j hj
      rw [if_pos rfl] at h21
      have hbj := hb rfl j hj
      rw [if_pos rfl, a3 j (Nat.zero_le _) hj, hs1 j hj, h21]
      by_cases y : μ.A 20 j = -1
      · rw [if_pos y, if_pos (by omega), z_bw_lo _ _ _ (by omega)]
      · rw [if_neg y]
        have := z_bw_bi (j := j) (w := μ.A 20) (z_E W k) 0 (μ.A 21) 0 (by omega)
        rw [Nat.zero_add, show μ.A 20 j - ((0 : Nat) : Int) = μ.A 20 j by omega] at this
        exact this
    · have h22 := r1.2.2.2 j hj
      rw [a2, h22]
  · refine ⟨s1, ?_, r1.1, r1.2.1, fun j hj => ?_, r1.2.2.2⟩
    · rw [B245_0]
      simp (disch := first | assumption | omega | decide | (simp only [m_I_uI, m_A_uI, m_I_uA, m_A_uA] <;> first | assumption | omega) | fail) only [↓mp_0_b, ↓mp_6_b, ↓mp_13_b, ↓mp_14_b, ↓mp_15_b, ↓mp_16_b, ↓mp_17_b, ↓mp_19_b, ↓mp_20_b, ↓mp_21_b, ↓mp_25_b, ↓mp_26_b, ↓mp_27_b, ↓mp_28_b, ↓mp_31_b, ↓mp_32_b, ↓mp_35_b, ↓mp_36_b, ↓mp_37_b, ↓mp_38_b, ↓mp_39_b, ↓mp_40_b, ↓mp_41_b, ↓mp_42_b, ↓mp_43_b, ↓ml_1_b, ↓ms_1_b, ↓ml_2_b, ↓ms_2_b, ↓ml_3_b, ↓ms_3_b, ↓ml_4_b, ↓ms_4_b, ↓ml_5_b, ↓ms_5_b, ↓ml_6_b, ↓ms_6_b, ↓ml_7_b, ↓ms_7_b, ↓ml_8_b, ↓ms_8_b, ↓ml_9_b, ↓ms_9_b, ↓ml_10_b, ↓ms_10_b, ↓ml_11_b, ↓ms_11_b, ↓ml_13_b, ↓ms_13_b, ↓ml_14_b, ↓ms_14_b, ↓ml_15_b, ↓ms_15_b, ↓ml_16_b, ↓ms_16_b, ↓ml_17_b, ↓ms_17_b, ↓ml_18_b, ↓ms_18_b, ↓ml_19_b, ↓ms_19_b, ↓ml_20_b, ↓ms_20_b, ↓ml_21_b, ↓ms_21_b, ↓ml_22_b, ↓ms_22_b, m_cl, mg_0, mp_0, mr_1, mr_2, mr_3, mr_4, mr_5, mg_6, mp_6, mr_7, mr_8, mr_9, mr_10, mr_11, mr_12, mg_13, mp_13, mg_14, mp_14, mg_15, mp_15, mg_16, mp_16, mg_17, mp_17, mr_18, mg_19, mp_19, mg_20, mp_20, mg_21, mp_21, mr_22, mr_23, mr_24, mg_25, mp_25, mg_26, mp_26, mg_27, mp_27, mg_28, mp_28, mr_29, mr_30, mg_31, mp_31, mg_32, mp_32, mr_33, mr_34, mg_35, mp_35, mg_36, mp_36, mg_37, mp_37, mg_38, mp_38, mg_39, mp_39, mg_40, mp_40, mg_41, mp_41, mg_42, mp_42, mg_43, mp_43, mr_44, mr_45, mr_46, ml_1, ms_1, ml_2, ms_2, ml_3, ms_3, ml_4, ms_4, ml_5, ms_5, ml_6, ms_6, ml_7, ms_7, ml_8, ms_8, ml_9, ms_9, ml_10, ms_10, ml_11, ms_11, ml_13, ms_13, ml_14, ms_14, ml_15, ms_15, ml_16, ms_16, ml_17, ms_17, ml_18, ms_18, ml_19, ms_19, ml_20, ms_20, ml_21, ms_21, ml_22, ms_22, h_nI, Int.cast_ofNat_Int, h_b8, Int.bmod_bmod, h_add, h_sub, h_mul, h_neg, h_zero, h_and255, h_and15, h_and3, h_cltT, h_cltF, h_cgeT, h_cgeF, h_cgtT, h_cgtF, h_cleT, h_cleF, h_ceqT, h_ceqF, h_cneT, h_cneF, m_I_uI, m_A_uI, m_I_uA, m_A_uA, m_t1, ↓reduceIte, Option.bind_some, am_ret0, am_ret1, am_ret2, if_true, if_false, true_and, and_true, false_and, and_false, not_true_eq_false, not_false_eq_true, Nat.reduceEqDiff, Nat.reduceAdd, Nat.reduceSub, Nat.reduceMul, Int.reduceAdd, Int.reduceSub, Int.reduceMul, Int.reduceNeg, Int.reduceToNat, Int.reduceLT, Int.reduceLE, Nat.add_left_cancel_iff]
      rw [e1, B245_199]
      simp (disch := first | assumption | omega | decide | (simp only [m_I_uI, m_A_uI, m_I_uA, m_A_uA] <;> first | assumption | omega) | fail) only [↓mp_0_b, ↓mp_6_b, ↓mp_13_b, ↓mp_14_b, ↓mp_15_b, ↓mp_16_b, ↓mp_17_b, ↓mp_19_b, ↓mp_20_b, ↓mp_21_b, ↓mp_25_b, ↓mp_26_b, ↓mp_27_b, ↓mp_28_b, ↓mp_31_b, ↓mp_32_b, ↓mp_35_b, ↓mp_36_b, ↓mp_37_b, ↓mp_38_b, ↓mp_39_b, ↓mp_40_b, ↓mp_41_b, ↓mp_42_b, ↓mp_43_b, ↓ml_1_b, ↓ms_1_b, ↓ml_2_b, ↓ms_2_b, ↓ml_3_b, ↓ms_3_b, ↓ml_4_b, ↓ms_4_b, ↓ml_5_b, ↓ms_5_b, ↓ml_6_b, ↓ms_6_b, ↓ml_7_b, ↓ms_7_b, ↓ml_8_b, ↓ms_8_b, ↓ml_9_b, ↓ms_9_b, ↓ml_10_b, ↓ms_10_b, ↓ml_11_b, ↓ms_11_b, ↓ml_13_b, ↓ms_13_b, ↓ml_14_b, ↓ms_14_b, ↓ml_15_b, ↓ms_15_b, ↓ml_16_b, ↓ms_16_b, ↓ml_17_b, ↓ms_17_b, ↓ml_18_b, ↓ms_18_b, ↓ml_19_b, ↓ms_19_b, ↓ml_20_b, ↓ms_20_b, ↓ml_21_b, ↓ms_21_b, ↓ml_22_b, ↓ms_22_b, m_cl, mg_0, mp_0, mr_1, mr_2, mr_3, mr_4, mr_5, mg_6, mp_6, mr_7, mr_8, mr_9, mr_10, mr_11, mr_12, mg_13, mp_13, mg_14, mp_14, mg_15, mp_15, mg_16, mp_16, mg_17, mp_17, mr_18, mg_19, mp_19, mg_20, mp_20, mg_21, mp_21, mr_22, mr_23, mr_24, mg_25, mp_25, mg_26, mp_26, mg_27, mp_27, mg_28, mp_28, mr_29, mr_30, mg_31, mp_31, mg_32, mp_32, mr_33, mr_34, mg_35, mp_35, mg_36, mp_36, mg_37, mp_37, mg_38, mp_38, mg_39, mp_39, mg_40, mp_40, mg_41, mp_41, mg_42, mp_42, mg_43, mp_43, mr_44, mr_45, mr_46, ml_1, ms_1, ml_2, ms_2, ml_3, ms_3, ml_4, ms_4, ml_5, ms_5, ml_6, ms_6, ml_7, ms_7, ml_8, ms_8, ml_9, ms_9, ml_10, ms_10, ml_11, ms_11, ml_13, ms_13, ml_14, ms_14, ml_15, ms_15, ml_16, ms_16, ml_17, ms_17, ml_18, ms_18, ml_19, ms_19, ml_20, ms_20, ml_21, ms_21, ml_22, ms_22, h_nI, Int.cast_ofNat_Int, h_b8, Int.bmod_bmod, h_add, h_sub, h_mul, h_neg, h_zero, h_and255, h_and15, h_and3, h_cltT, h_cltF, h_cgeT, h_cgeF, h_cgtT, h_cgtF, h_cleT, h_cleF, h_ceqT, h_ceqF, h_cneT, h_cneF, m_I_uI, m_A_uI, m_I_uA, m_A_uA, m_t1, ↓reduceIte, Option.bind_some, am_ret0, am_ret1, am_ret2, if_true, if_false, true_and, and_true, false_and, and_false, not_true_eq_false, not_false_eq_true, Nat.reduceEqDiff, Nat.reduceAdd, Nat.reduceSub, Nat.reduceMul, Int.reduceAdd, Int.reduceSub, Int.reduceMul, Int.reduceNeg, Int.reduceToNat, Int.reduceLT, Int.reduceLE, Nat.add_left_cancel_iff, B245_248]
    · have h21 := r1.2.2.1 j hj
      rw [if_neg q] at h21 ⊢
      exact h21
end MR
