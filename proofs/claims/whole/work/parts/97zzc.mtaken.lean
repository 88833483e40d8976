/-! WHETHER THE OPERANDS ARE THERE, IN THE REFERENCE -/
section TM
variable {M : am_M} {m : Nat} {μ : m_S} {ad : Nat → Nat} {d : Nat} {T : Nat} {W : List x_T} {l : List (Int × Nat)} {th : Nat → Bool} {pla : Nat → Int}
/-- what doTool looks at -/
def m_Th (μ : m_S) (T : Nat) (W : List x_T) (l : List (Int × Nat)) (th : Nat → Bool) (pla : Nat → Int) : Prop := m_Lo μ T W l ∧ (μ.I 19 = T ∧ T < 12) ∧ (∀ i, i < 10 → μ.A 4 i = if th i = true then 1 else 0) ∧ μ.A 4 11 = 1 ∧ (∀ q, q < W.length → μ.A 8 q = pla q) ∧ W.length ≤ 9001
theorem m_Th.one {j : Nat} (h : m_Th μ T W l th pla) (hj : j < l.length) : ∃ s : Nat, μ.A 17 j = s ∧ s < 12 ∧ (∃ q : Nat, μ.A 16 j = q ∧ q = (l.getD j z_00).2 ∧ q < W.length ∧ μ.A 8 q = pla q) ∧ μ.A 4 s = (if (l.getD j z_00).1 = 10 ∨ th (l.getD j z_00).1.toNat = true then 1 else 0) := by
  obtain ⟨⟨_, h20, h3⟩, ⟨_, hT⟩, h4, h5, h6, _⟩ := h
  obtain ⟨a16, hq, h7⟩ := h3 j hj
  obtain ⟨a17, b1, b2⟩ := h7 (by omega)
  have hqq : ∃ q : Nat, μ.A 16 j = q ∧ q = (l.getD j z_00).2 ∧ q < W.length ∧ μ.A 8 q = pla q := ⟨_, a16, rfl, hq, h6 _ hq⟩
  by_cases w : (l.getD j z_00).1 = 10
  · refine ⟨11, ?_, by omega, hqq, ?_⟩
    · rw [a17, w]; rfl
    · rw [if_pos (.inl w)]; exact h5
  · refine ⟨(l.getD j z_00).1.toNat, ?_, by omega, hqq, ?_⟩
    · rw [a17]
      unfold z_rs
      rw [if_neg w]
      omega
    · rw [h4 _ (by omega)]
      by_cases y : th (l.getD j z_00).1.toNat = true
      · rw [if_pos y, if_pos (.inr y)]
      · rw [if_neg y, if_neg]
        intro z
        rcases z with z | z
        · exact w z
        · exact y z
theorem m_Th.uI {v u : Int} (h : m_Th μ T W l th pla) : m_Th (m_uI (m_uI μ 14 v) 15 u) T W l th pla := by
  obtain ⟨⟨h1, h20, h3⟩, ⟨h19, hT⟩, h4, h5, h6, h7⟩ := h
  have hA : ∀ z i, (m_uI (m_uI μ 14 v) 15 u).A z i = μ.A z i := fun z i => by simp only [m_I_uI, m_A_uI, m_I_uA, m_A_uA]
  have hI : ∀ k, k ≠ 14 → k ≠ 15 → (m_uI (m_uI μ 14 v) 15 u).I k = μ.I k := fun k k1 k2 => by simp only [m_I_uI, m_A_uI, m_I_uA, m_A_uA]; rw [if_neg k2, if_neg k1]
  refine ⟨⟨(hI 31 (by omega) (by omega)).trans h1, h20, fun j hj => ?_⟩, ⟨(hI 19 (by omega) (by omega)).trans h19, hT⟩, fun i hi => (hA 4 i).trans (h4 i hi), (hA 4 11).trans h5, fun q hq => (hA 8 q).trans (h6 q hq), h7⟩
  rw [hA 16 j, hA 17 j]
  exact h3 j hj
/-- once it is refused, nothing changes -/
theorem g_tN {o2 o3 : Option Value} (h14 : μ.I 14 = 7) (h : m_Th μ T W l th pla) : ∀ (k j : Nat), l.length - j = k → j ≤ l.length →
    ∃ i1 : Int32, am_gg (am_pr ad) (d + 1) 202 13 [some (.ref m), some (.int (h_ii j)), o2, o3] [] (m_t M m μ) = am_gg (am_pr ad) (d + 1) 202 67 [some (.ref m), some (.int i1), o2, o3] [] (m_t M m μ)
  | 0, j, hk, hj => by
    have h31 := h.1.1
    have h20 := h.1.2.1
    refine ⟨h_ii j, ?_⟩
    rw [B202_13]
    simp (disch := first | assumption | omega | decide | (simp only [m_I_uI, m_A_uI, m_I_uA, m_A_uA] <;> first | assumption | omega) | fail) only [↓mp_0_b, ↓mp_6_b, ↓mp_13_b, ↓mp_14_b, ↓mp_15_b, ↓mp_16_b, ↓mp_17_b, ↓mp_19_b, ↓mp_20_b, ↓mp_21_b, ↓mp_25_b, ↓mp_26_b, ↓mp_27_b, ↓mp_28_b, ↓mp_31_b, ↓mp_32_b, ↓mp_35_b, ↓mp_36_b, ↓mp_37_b, ↓mp_38_b, ↓mp_39_b, ↓mp_40_b, ↓mp_41_b, ↓mp_42_b, ↓mp_43_b, ↓ml_1_b, ↓ms_1_b, ↓ml_2_b, ↓ms_2_b, ↓ml_3_b, ↓ms_3_b, ↓ml_4_b, ↓ms_4_b, ↓ml_5_b, ↓ms_5_b, ↓ml_6_b, ↓ms_6_b, ↓ml_7_b, ↓ms_7_b, ↓ml_8_b, ↓ms_8_b, ↓ml_9_b, ↓ms_9_b, ↓ml_10_b, ↓ms_10_b, ↓ml_11_b, ↓ms_11_b, ↓ml_13_b, ↓ms_13_b, ↓ml_14_b, ↓ms_14_b, ↓ml_15_b, ↓ms_15_b, ↓ml_16_b, ↓ms_16_b, ↓ml_17_b, ↓ms_17_b, ↓ml_18_b, ↓ms_18_b, ↓ml_19_b, ↓ms_19_b, ↓ml_20_b, ↓ms_20_b, ↓ml_21_b, ↓ms_21_b, ↓ml_22_b, ↓ms_22_b, m_cl, mg_0, mp_0, mr_1, mr_2, mr_3, mr_4, mr_5, mg_6, mp_6, mr_7, mr_8, mr_9, mr_10, mr_11, mr_12, mg_13, mp_13, mg_14, mp_14, mg_15, mp_15, mg_16, mp_16, mg_17, mp_17, mr_18, mg_19, mp_19, mg_20, mp_20, mg_21, mp_21, mr_22, mr_23, mr_24, mg_25, mp_25, mg_26, mp_26, mg_27, mp_27, mg_28, mp_28, mr_29, mr_30, mg_31, mp_31, mg_32, mp_32, mr_33, mr_34, mg_35, mp_35, mg_36, mp_36, mg_37, mp_37, mg_38, mp_38, mg_39, mp_39, mg_40, mp_40, mg_41, mp_41, mg_42, mp_42, mg_43, mp_43, mr_44, mr_45, mr_46, ml_1, ms_1, ml_2, ms_2, ml_3, ms_3, ml_4, ms_4, ml_5, ms_5, ml_6, ms_6, ml_7, ms_7, ml_8, ms_8, ml_9, ms_9, ml_10, ms_10, ml_11, ms_11, ml_13, ms_13, ml_14, ms_14, ml_15, ms_15, ml_16, ms_16, ml_17, ms_17, ml_18, ms_18, ml_19, ms_19, ml_20, ms_20, ml_21, ms_21, ml_22, ms_22, h_nI, Int.cast_ofNat_Int, h_b8, Int.bmod_bmod, h_add, h_sub, h_mul, h_neg, h_zero, h_and255, h_and15, h_and3, h_cltT, h_cltF, h_cgeT, h_cgeF, h_cgtT, h_cgtF, h_cleT, h_cleF, h_ceqT, h_ceqF, h_cneT, h_cneF, m_I_uI, m_A_uI, m_I_uA, m_A_uA, m_t1, ↓reduceIte, Option.bind_some, am_ret0, am_ret1, am_ret2, if_true, if_false, true_and, and_true, false_and, and_false, not_true_eq_false, not_false_eq_true, Nat.reduceEqDiff, Nat.reduceAdd, Nat.reduceSub, Nat.reduceMul, Int.reduceAdd, Int.reduceSub, Int.reduceMul, Int.reduceNeg, Int.reduceToNat, Int.reduceLT, Int.reduceLE, Nat.add_left_cancel_iff, h31]
  | k + 1, j, hk, hj => by
    have h31 := h.1.1
    have h20 := h.1.2.1
    obtain ⟨h19, hT⟩ := h.2.1
    have hW := h.2.2.2.2.2
    obtain ⟨i1, ih⟩ := g_tN (o2 := o2) (o3 := o3) h14 h k (j + 1) (by omega) (by omega)
    obtain ⟨s, a17, hs, ⟨q, a16, hq, hqW, a8⟩, a4⟩ := h.one (show j < l.length by omega)
    have e1 := g_flawN (M := M) (m := m) (ad := ad) (d := d) (μ := μ) (f := 7) (p := pla q) (by omega) (by omega)
    refine ⟨i1, ?_⟩
    rw [B202_13]
    by_cases w : (l.getD j z_00).1 = 10 ∨ th (l.getD j z_00).1.toNat = true
    · rw [if_pos w] at a4
      clear w hq h
      simp (disch := first | assumption | omega | decide | (simp only [m_I_uI, m_A_uI, m_I_uA, m_A_uA] <;> first | assumption | omega) | fail) only [↓mp_0_b, ↓mp_6_b, ↓mp_13_b, ↓mp_14_b, ↓mp_15_b, ↓mp_16_b, ↓mp_17_b, ↓mp_19_b, ↓mp_20_b, ↓mp_21_b, ↓mp_25_b, ↓mp_26_b, ↓mp_27_b, ↓mp_28_b, ↓mp_31_b, ↓mp_32_b, ↓mp_35_b, ↓mp_36_b, ↓mp_37_b, ↓mp_38_b, ↓mp_39_b, ↓mp_40_b, ↓mp_41_b, ↓mp_42_b, ↓mp_43_b, ↓ml_1_b, ↓ms_1_b, ↓ml_2_b, ↓ms_2_b, ↓ml_3_b, ↓ms_3_b, ↓ml_4_b, ↓ms_4_b, ↓ml_5_b, ↓ms_5_b, ↓ml_6_b, ↓ms_6_b, ↓ml_7_b, ↓ms_7_b, ↓ml_8_b, ↓ms_8_b, ↓ml_9_b, ↓ms_9_b, ↓ml_10_b, ↓ms_10_b, ↓ml_11_b, ↓ms_11_b, ↓ml_13_b, ↓ms_13_b, ↓ml_14_b, ↓ms_14_b, ↓ml_15_b, ↓ms_15_b, ↓ml_16_b, ↓ms_16_b, ↓ml_17_b, ↓ms_17_b, ↓ml_18_b, ↓ms_18_b, ↓ml_19_b, ↓ms_19_b, ↓ml_20_b, ↓ms_20_b, ↓ml_21_b, ↓ms_21_b, ↓ml_22_b, ↓ms_22_b, m_cl, mg_0, mp_0, mr_1, mr_2, mr_3, mr_4, mr_5, mg_6, mp_6, mr_7, mr_8, mr_9, mr_10, mr_11, mr_12, mg_13, mp_13, mg_14, mp_14, mg_15, mp_15, mg_16, mp_16, mg_17, mp_17, mr_18, mg_19, mp_19, mg_20, mp_20, mg_21, mp_21, mr_22, mr_23, mr_24, mg_25, mp_25, mg_26, mp_26, mg_27, mp_27, mg_28, mp_28, mr_29, mr_30, mg_31, mp_31, mg_32, mp_32, mr_33, mr_34, mg_35, mp_35, mg_36, mp_36, mg_37, mp_37, mg_38, mp_38, mg_39, mp_39, mg_40, mp_40, mg_41, mp_41, mg_42, mp_42, mg_43, mp_43, mr_44, mr_45, mr_46, ml_1, ms_1, ml_2, ms_2, ml_3, ms_3, ml_4, ms_4, ml_5, ms_5, ml_6, ms_6, ml_7, ms_7, ml_8, ms_8, ml_9, ms_9, ml_10, ms_10, ml_11, ms_11, ml_13, ms_13, ml_14, ms_14, ml_15, ms_15, ml_16, ms_16, ml_17, ms_17, ml_18, ms_18, ml_19, ms_19, ml_20, ms_20, ml_21, ms_21, ml_22, ms_22, h_nI, Int.cast_ofNat_Int, h_b8, Int.bmod_bmod, h_add, h_sub, h_mul, h_neg, h_zero, h_and255, h_and15, h_and3, h_cltT, h_cltF, h_cgeT, h_cgeF, h_cgtT, h_cgtF, h_cleT, h_cleF, h_ceqT, h_ceqF, h_cneT, h_cneF, m_I_uI, m_A_uI, m_I_uA, m_A_uA, m_t1, ↓reduceIte, Option.bind_some, am_ret0, am_ret1, am_ret2, if_true, if_false, true_and, and_true, false_and, and_false, not_true_eq_false, not_false_eq_true, Nat.reduceEqDiff, Nat.reduceAdd, Nat.reduceSub, Nat.reduceMul, Int.reduceAdd, Int.reduceSub, Int.reduceMul, Int.reduceNeg, Int.reduceToNat, Int.reduceLT, Int.reduceLE, Nat.add_left_cancel_iff, h31, h19, Int.toNat_natCast, a17, a4, B202_61]
      exact ih
    · rw [if_neg w] at a4
      clear w hq h
      simp (disch := first | assumption | omega | decide | (simp only [m_I_uI, m_A_uI, m_I_uA, m_A_uA] <;> first | assumption | omega) | fail) only [↓mp_0_b, ↓mp_6_b, ↓mp_13_b, ↓mp_14_b, ↓mp_15_b, ↓mp_16_b, ↓mp_17_b, ↓mp_19_b, ↓mp_20_b, ↓mp_21_b, ↓mp_25_b, ↓mp_26_b, ↓mp_27_b, ↓mp_28_b, ↓mp_31_b, ↓mp_32_b, ↓mp_35_b, ↓mp_36_b, ↓mp_37_b, ↓mp_38_b, ↓mp_39_b, ↓mp_40_b, ↓mp_41_b, ↓mp_42_b, ↓mp_43_b, ↓ml_1_b, ↓ms_1_b, ↓ml_2_b, ↓ms_2_b, ↓ml_3_b, ↓ms_3_b, ↓ml_4_b, ↓ms_4_b, ↓ml_5_b, ↓ms_5_b, ↓ml_6_b, ↓ms_6_b, ↓ml_7_b, ↓ms_7_b, ↓ml_8_b, ↓ms_8_b, ↓ml_9_b, ↓ms_9_b, ↓ml_10_b, ↓ms_10_b, ↓ml_11_b, ↓ms_11_b, ↓ml_13_b, ↓ms_13_b, ↓ml_14_b, ↓ms_14_b, ↓ml_15_b, ↓ms_15_b, ↓ml_16_b, ↓ms_16_b, ↓ml_17_b, ↓ms_17_b, ↓ml_18_b, ↓ms_18_b, ↓ml_19_b, ↓ms_19_b, ↓ml_20_b, ↓ms_20_b, ↓ml_21_b, ↓ms_21_b, ↓ml_22_b, ↓ms_22_b, m_cl, mg_0, mp_0, mr_1, mr_2, mr_3, mr_4, mr_5, mg_6, mp_6, mr_7, mr_8, mr_9, mr_10, mr_11, mr_12, mg_13, mp_13, mg_14, mp_14, mg_15, mp_15, mg_16, mp_16, mg_17, mp_17, mr_18, mg_19, mp_19, mg_20, mp_20, mg_21, mp_21, mr_22, mr_23, mr_24, mg_25, mp_25, mg_26, mp_26, mg_27, mp_27, mg_28, mp_28, mr_29, mr_30, mg_31, mp_31, mg_32, mp_32, mr_33, mr_34, mg_35, mp_35, mg_36, mp_36, mg_37, mp_37, mg_38, mp_38, mg_39, mp_39, mg_40, mp_40, mg_41, mp_41, mg_42, mp_42, mg_43, mp_43, mr_44, mr_45, mr_46, ml_1, ms_1, ml_2, ms_2, ml_3, ms_3, ml_4, ms_4, ml_5, ms_5, ml_6, ms_6, ml_7, ms_7, ml_8, ms_8, ml_9, ms_9, ml_10, ms_10, ml_11, ms_11, ml_13, ms_13, ml_14, ms_14, ml_15, ms_15, ml_16, ms_16, ml_17, ms_17, ml_18, ms_18, ml_19, ms_19, ml_20, ms_20, ml_21, ms_21, ml_22, ms_22, h_nI, Int.cast_ofNat_Int, h_b8, Int.bmod_bmod, h_add, h_sub, h_mul, h_neg, h_zero, h_and255, h_and15, h_and3, h_cltT, h_cltF, h_cgeT, h_cgeF, h_cgtT, h_cgtF, h_cleT, h_cleF, h_ceqT, h_ceqF, h_cneT, h_cneF, m_I_uI, m_A_uI, m_I_uA, m_A_uA, m_t1, ↓reduceIte, Option.bind_some, am_ret0, am_ret1, am_ret2, if_true, if_false, true_and, and_true, false_and, and_false, not_true_eq_false, not_false_eq_true, Nat.reduceEqDiff, Nat.reduceAdd, Nat.reduceSub, Nat.reduceMul, Int.reduceAdd, Int.reduceSub, Int.reduceMul, Int.reduceNeg, Int.reduceToNat, Int.reduceLT, Int.reduceLE, Nat.add_left_cancel_iff, h31, h19, Int.toNat_natCast, a17, a4, a16, a8, e1, B202_61]
      exact ih
/-- whether they are all there -/
theorem g_tY {o2 o3 : Option Value} (h14 : μ.I 14 = 0) (h : m_Th μ T W l th pla) : ∀ (k j : Nat), l.length - j = k → j ≤ l.length →
    ∃ i1 : Int32, am_gg (am_pr ad) (d + 1) 202 13 [some (.ref m), some (.int (h_ii j)), o2, o3] [] (m_t M m μ) = am_gg (am_pr ad) (d + 1) 202 67 [some (.ref m), some (.int i1), o2, o3] [] (m_t M m (match z_to th (l.drop j) with
      | none => μ
      | some q => m_uI (m_uI μ 14 7) 15 (pla q)))
  | 0, j, hk, hj => by
    have h31 := h.1.1
    have h20 := h.1.2.1
    refine ⟨h_ii j, ?_⟩
    rw [List.drop_eq_nil_of_le (by omega), z_to, B202_13]
    simp (disch := first | assumption | omega | decide | (simp only [m_I_uI, m_A_uI, m_I_uA, m_A_uA] <;> first | assumption | omega) | fail) only [↓mp_0_b, ↓mp_6_b, ↓mp_13_b, ↓mp_14_b, ↓mp_15_b, ↓mp_16_b, ↓mp_17_b, ↓mp_19_b, ↓mp_20_b, ↓mp_21_b, ↓mp_25_b, ↓mp_26_b, ↓mp_27_b, ↓mp_28_b, ↓mp_31_b, ↓mp_32_b, ↓mp_35_b, ↓mp_36_b, ↓mp_37_b, ↓mp_38_b, ↓mp_39_b, ↓mp_40_b, ↓mp_41_b, ↓mp_42_b, ↓mp_43_b, ↓ml_1_b, ↓ms_1_b, ↓ml_2_b, ↓ms_2_b, ↓ml_3_b, ↓ms_3_b, ↓ml_4_b, ↓ms_4_b, ↓ml_5_b, ↓ms_5_b, ↓ml_6_b, ↓ms_6_b, ↓ml_7_b, ↓ms_7_b, ↓ml_8_b, ↓ms_8_b, ↓ml_9_b, ↓ms_9_b, ↓ml_10_b, ↓ms_10_b, ↓ml_11_b, ↓ms_11_b, ↓ml_13_b, ↓ms_13_b, ↓ml_14_b, ↓ms_14_b, ↓ml_15_b, ↓ms_15_b, ↓ml_16_b, ↓ms_16_b, ↓ml_17_b, ↓ms_17_b, ↓ml_18_b, ↓ms_18_b, ↓ml_19_b, ↓ms_19_b, ↓ml_20_b, ↓ms_20_b, ↓ml_21_b, ↓ms_21_b, ↓ml_22_b, ↓ms_22_b, m_cl, mg_0, mp_0, mr_1, mr_2, mr_3, mr_4, mr_5, mg_6, mp_6, mr_7, mr_8, mr_9, mr_10, mr_11, mr_12, mg_13, mp_13, mg_14, mp_14, mg_15, mp_15, mg_16, mp_16, mg_17, mp_17, mr_18, mg_19, mp_19, mg_20, mp_20, mg_21, mp_21, mr_22, mr_23, mr_24, mg_25, mp_25, mg_26, mp_26, mg_27, mp_27, mg_28, mp_28, mr_29, mr_30, mg_31, mp_31, mg_32, mp_32, mr_33, mr_34, mg_35, mp_35, mg_36, mp_36, mg_37, mp_37, mg_38, mp_38, mg_39, mp_39, mg_40, mp_40, mg_41, mp_41, mg_42, mp_42, mg_43, mp_43, mr_44, mr_45, mr_46, ml_1, ms_1, ml_2, ms_2, ml_3, ms_3, ml_4, ms_4, ml_5, ms_5, ml_6, ms_6, ml_7, ms_7, ml_8, ms_8, ml_9, ms_9, ml_10, ms_10, ml_11, ms_11, ml_13, ms_13, ml_14, ms_14, ml_15, ms_15, ml_16, ms_16, ml_17, ms_17, ml_18, ms_18, ml_19, ms_19, ml_20, ms_20, ml_21, ms_21, ml_22, ms_22, h_nI, Int.cast_ofNat_Int, h_b8, Int.bmod_bmod, h_add, h_sub, h_mul, h_neg, h_zero, h_and255, h_and15, h_and3, h_cltT, h_cltF, h_cgeT, h_cgeF, h_cgtT, h_cgtF, h_cleT, h_cleF, h_ceqT, h_ceqF, h_cneT, h_cneF, m_I_uI, m_A_uI, m_I_uA, m_A_uA, m_t1, ↓reduceIte, Option.bind_some, am_ret0, am_ret1, am_ret2, if_true, if_false, true_and, and_true, false_and, and_false, not_true_eq_false, not_false_eq_true, Nat.reduceEqDiff, Nat.reduceAdd, Nat.reduceSub, Nat.reduceMul, Int.reduceAdd, Int.reduceSub, Int.reduceMul, Int.reduceNeg, Int.reduceToNat, Int.reduceLT, Int.reduceLE, Nat.add_left_cancel_iff, h31]
  | k + 1, j, hk, hj => by
    have h31 := h.1.1
    have h20 := h.1.2.1
    obtain ⟨h19, hT⟩ := h.2.1
    have hW := h.2.2.2.2.2
    have hd := x_dropZ (show j < l.length by omega)
    obtain ⟨i1, ih⟩ := g_tY (o2 := o2) (o3 := o3) h14 h k (j + 1) (by omega) (by omega)
    obtain ⟨s, a17, hs, ⟨q, a16, hq, hqW, a8⟩, a4⟩ := h.one (show j < l.length by omega)
    rw [hd, z_to]
    by_cases w : (l.getD j z_00).1 = 10 ∨ th (l.getD j z_00).1.toNat = true
    · rw [if_pos w] at a4 ⊢
      refine ⟨i1, ?_⟩
      clear w hq h hd
      rw [B202_13]
      simp (disch := first | assumption | omega | decide | (simp only [m_I_uI, m_A_uI, m_I_uA, m_A_uA] <;> first | assumption | omega) | fail) only [↓mp_0_b, ↓mp_6_b, ↓mp_13_b, ↓mp_14_b, ↓mp_15_b, ↓mp_16_b, ↓mp_17_b, ↓mp_19_b, ↓mp_20_b, ↓mp_21_b, ↓mp_25_b, ↓mp_26_b, ↓mp_27_b, ↓mp_28_b, ↓mp_31_b, ↓mp_32_b, ↓mp_35_b, ↓mp_36_b, ↓mp_37_b, ↓mp_38_b, ↓mp_39_b, ↓mp_40_b, ↓mp_41_b, ↓mp_42_b, ↓mp_43_b, ↓ml_1_b, ↓ms_1_b, ↓ml_2_b, ↓ms_2_b, ↓ml_3_b, ↓ms_3_b, ↓ml_4_b, ↓ms_4_b, ↓ml_5_b, ↓ms_5_b, ↓ml_6_b, ↓ms_6_b, ↓ml_7_b, ↓ms_7_b, ↓ml_8_b, ↓ms_8_b, ↓ml_9_b, ↓ms_9_b, ↓ml_10_b, ↓ms_10_b, ↓ml_11_b, ↓ms_11_b, ↓ml_13_b, ↓ms_13_b, ↓ml_14_b, ↓ms_14_b, ↓ml_15_b, ↓ms_15_b, ↓ml_16_b, ↓ms_16_b, ↓ml_17_b, ↓ms_17_b, ↓ml_18_b, ↓ms_18_b, ↓ml_19_b, ↓ms_19_b, ↓ml_20_b, ↓ms_20_b, ↓ml_21_b, ↓ms_21_b, ↓ml_22_b, ↓ms_22_b, m_cl, mg_0, mp_0, mr_1, mr_2, mr_3, mr_4, mr_5, mg_6, mp_6, mr_7, mr_8, mr_9, mr_10, mr_11, mr_12, mg_13, mp_13, mg_14, mp_14, mg_15, mp_15, mg_16, mp_16, mg_17, mp_17, mr_18, mg_19, mp_19, mg_20, mp_20, mg_21, mp_21, mr_22, mr_23, mr_24, mg_25, mp_25, mg_26, mp_26, mg_27, mp_27, mg_28, mp_28, mr_29, mr_30, mg_31, mp_31, mg_32, mp_32, mr_33, mr_34, mg_35, mp_35, mg_36, mp_36, mg_37, mp_37, mg_38, mp_38, mg_39, mp_39, mg_40, mp_40, mg_41, mp_41, mg_42, mp_42, mg_43, mp_43, mr_44, mr_45, mr_46, ml_1, ms_1, ml_2, ms_2, ml_3, ms_3, ml_4, ms_4, ml_5, ms_5, ml_6, ms_6, ml_7, ms_7, ml_8, ms_8, ml_9, ms_9, ml_10, ms_10, ml_11, ms_11, ml_13, ms_13, ml_14, ms_14, ml_15, ms_15, ml_16, ms_16, ml_17, ms_17, ml_18, ms_18, ml_19, ms_19, ml_20, ms_20, ml_21, ms_21, ml_22, ms_22, h_nI, Int.cast_ofNat_Int, h_b8, Int.bmod_bmod, h_add, h_sub, h_mul, h_neg, h_zero, h_and255, h_and15, h_and3, h_cltT, h_cltF, h_cgeT, h_cgeF, h_cgtT, h_cgtF, h_cleT, h_cleF, h_ceqT, h_ceqF, h_cneT, h_cneF, m_I_uI, m_A_uI, m_I_uA, m_A_uA, m_t1, ↓reduceIte, Option.bind_some, am_ret0, am_ret1, am_ret2, if_true, if_false, true_and, and_true, false_and, and_false, not_true_eq_false, not_false_eq_true, Nat.reduceEqDiff, Nat.reduceAdd, Nat.reduceSub, Nat.reduceMul, Int.reduceAdd, Int.reduceSub, Int.reduceMul, Int.reduceNeg, Int.reduceToNat, Int.reduceLT, Int.reduceLE, Nat.add_left_cancel_iff, h31, h19, Int.toNat_natCast, a17, a4, B202_61]
      exact ih
    · rw [if_neg w] at a4 ⊢
      have e1 := g_flaw (M := M) (m := m) (ad := ad) (d := d) (μ := μ) (f := 7) (p := pla q) h14
      obtain ⟨i1, e2⟩ := g_tN (M := M) (m := m) (ad := ad) (d := d) (μ := m_uI (m_uI μ 14 7) 15 (pla q)) (o2 := o2) (o3 := o3) (by simp only [m_I_uI, m_A_uI, m_I_uA, m_A_uA]; rfl) h.uI k (j + 1) (by omega) (by omega)
      refine ⟨i1, ?_⟩
      dsimp only
      rw [← hq]
      clear w hq h hd ih
      rw [B202_13]
      simp (disch := first | assumption | omega | decide | (simp only [m_I_uI, m_A_uI, m_I_uA, m_A_uA] <;> first | assumption | omega) | fail) only [↓mp_0_b, ↓mp_6_b, ↓mp_13_b, ↓mp_14_b, ↓mp_15_b, ↓mp_16_b, ↓mp_17_b, ↓mp_19_b, ↓mp_20_b, ↓mp_21_b, ↓mp_25_b, ↓mp_26_b, ↓mp_27_b, ↓mp_28_b, ↓mp_31_b, ↓mp_32_b, ↓mp_35_b, ↓mp_36_b, ↓mp_37_b, ↓mp_38_b, ↓mp_39_b, ↓mp_40_b, ↓mp_41_b, ↓mp_42_b, ↓mp_43_b, ↓ml_1_b, ↓ms_1_b, ↓ml_2_b, ↓ms_2_b, ↓ml_3_b, ↓ms_3_b, ↓ml_4_b, ↓ms_4_b, ↓ml_5_b, ↓ms_5_b, ↓ml_6_b, ↓ms_6_b, ↓ml_7_b, ↓ms_7_b, ↓ml_8_b, ↓ms_8_b, ↓ml_9_b, ↓ms_9_b, ↓ml_10_b, ↓ms_10_b, ↓ml_11_b, ↓ms_11_b, ↓ml_13_b, ↓ms_13_b, ↓ml_14_b, ↓ms_14_b, ↓ml_15_b, ↓ms_15_b, ↓ml_16_b, ↓ms_16_b, ↓ml_17_b, ↓ms_17_b, ↓ml_18_b, ↓ms_18_b, ↓ml_19_b, ↓ms_19_b, ↓ml_20_b, ↓ms_20_b, ↓ml_21_b, ↓ms_21_b, ↓ml_22_b, ↓ms_22_b, m_cl, mg_0, mp_0, mr_1, mr_2, mr_3, mr_4, mr_5, mg_6, mp_6, mr_7, mr_8, mr_9, mr_10, mr_11, mr_12, mg_13, mp_13, mg_14, mp_14, mg_15, mp_15, mg_16, mp_16, mg_17, mp_17, mr_18, mg_19, mp_19, mg_20, mp_20, mg_21, mp_21, mr_22, mr_23, mr_24, mg_25, mp_25, mg_26, mp_26, mg_27, mp_27, mg_28, mp_28, mr_29, mr_30, mg_31, mp_31, mg_32, mp_32, mr_33, mr_34, mg_35, mp_35, mg_36, mp_36, mg_37, mp_37, mg_38, mp_38, mg_39, mp_39, mg_40, mp_40, mg_41, mp_41, mg_42, mp_42, mg_43, mp_43, mr_44, mr_45, mr_46, ml_1, ms_1, ml_2, ms_2, ml_3, ms_3, ml_4, ms_4, ml_5, ms_5, ml_6, ms_6, ml_7, ms_7, ml_8, ms_8, ml_9, ms_9, ml_10, ms_10, ml_11, ms_11, ml_13, ms_13, ml_14, ms_14, ml_15, ms_15, ml_16, ms_16, ml_17, ms_17, ml_18, ms_18, ml_19, ms_19, ml_20, ms_20, ml_21, ms_21, ml_22, ms_22, h_nI, Int.cast_ofNat_Int, h_b8, Int.bmod_bmod, h_add, h_sub, h_mul, h_neg, h_zero, h_and255, h_and15, h_and3, h_cltT, h_cltF, h_cgeT, h_cgeF, h_cgtT, h_cgtF, h_cleT, h_cleF, h_ceqT, h_ceqF, h_cneT, h_cneF, m_I_uI, m_A_uI, m_I_uA, m_A_uA, m_t1, ↓reduceIte, Option.bind_some, am_ret0, am_ret1, am_ret2, if_true, if_false, true_and, and_true, false_and, and_false, not_true_eq_false, not_false_eq_true, Nat.reduceEqDiff, Nat.reduceAdd, Nat.reduceSub, Nat.reduceMul, Int.reduceAdd, Int.reduceSub, Int.reduceMul, Int.reduceNeg, Int.reduceToNat, Int.reduceLT, Int.reduceLE, Nat.add_left_cancel_iff, h31, h19, Int.toNat_natCast, a17, a4, a16, a8, e1, B202_61]
      exact e2
end TM
