/-! ROWS AND KEYS OF JOIN, IN THE REFERENCE -/
section MV
variable {M : am_M} {m : Nat} {μ : m_S} {ad : Nat → Nat} {d : Nat} {O : z_O} {bs : List Int} {l : Nat} {n : Nat} {X : Nat → Nat} {S : Nat → List (List Int)} {L : List (List Int)} {cu : List Int} {c v : Int} {a e : Nat}
/-- putKey -/
theorem g_pky {x y : Option Nat} (hJ : z_JS O bs c v a e) (hxy : x ≠ none ∨ y ≠ none) (hx : ∀ l, x = some l → l < (S 0).length) (hy : ∀ l, y = some l → l < (S 1).length) (h : m_JI μ O bs n X S) (hW : m_W μ (L ++ [cu])) :
    ∃ μ', am_gg (am_pr ad) (d + 4) 241 0 [some (.ref m), some (.int (h_ii (z_io x))), some (.int (h_ii (z_io y))), none, none, none] [] (m_t M m μ) = some (.inl none, m_t M m μ') ∧ m_fT μ μ' ∧ m_W μ' (L ++ [cu ++ z_kx c a e (z_li (S 0) x) (z_li (S 1) y)]) := by
  cases x with
  | some l => exact g_pk_0 (j := z_io y) hJ h (hx l rfl) hW
  | none =>
    cases y with
    | none => simp at hxy
    | some l => exact g_pk_1 (j := 0) hJ h (hy l rfl) hW
/-- one part -/
theorem g_p92 {x y : Option Nat} {s t : Nat} {i3 i4 : Int32} {o7 o8 : Option Value} (hJ : z_JS O bs c v a e) (hst : s ≤ t ∧ t ≤ bs.length) (hpo : x_po bs s t ≠ -2) (hxy : x ≠ none ∨ y ≠ none) (hx : ∀ l, x = some l → l < (S 0).length) (hy : ∀ l, y = some l → l < (S 1).length) (h : m_JI μ O bs n X S) (hW : m_W μ (L ++ [cu])) :
    ∃ (μ' : m_S) (p7 p8 : Option Value), am_gg (am_pr ad) (d + 5) 240 92 [some (.ref m), some (.int (h_ii (z_io x))), some (.int (h_ii (z_io y))), some (.int i3), some (.int i4), some (.int (h_ii s)), some (.int (h_ii t)), o7, o8] [] (m_t M m μ) = am_gg (am_pr ad) (d + 5) 240 55 [some (.ref m), some (.int (h_ii (z_io x))), some (.int (h_ii (z_io y))), some (.int i3), some (.int i4), some (.int (h_ii ((t + 1 : Nat) : Int))), some (.int (h_ii t)), p7, p8] [] (m_t M m μ') ∧ m_fT μ μ' ∧ m_W μ' (L ++ [cu ++ z_p1 O bs c a e (z_li (S 0) x) (z_li (S 1) y) (x_po bs s t)]) := by
  have h9 := h.2.1.1
  unfold x_po at hpo ⊢
  by_cases q : t = s + 1 ∧ bs.getD s 0 = 48
  · rw [if_pos q] at hpo ⊢
    have e1 := g_at (M := M) (m := m) (ad := ad) (d := d + 4) (i := s) h.2.1 (by omega)
    rw [q.2] at e1
    obtain ⟨t1, e2, f1, W1⟩ := g_pky (M := M) (m := m) (ad := ad) (d := d) hJ hxy hx hy h hW
    refine ⟨t1, o7, o8, ?_, f1, by unfold z_p1; rw [if_pos (show (0 : Int) = 0 from rfl)]; exact W1⟩
    clear q
    rw [B240_92]
    simp (disch := first | assumption | omega | decide | (simp only [m_I_uI, m_A_uI, m_I_uA, m_A_uA] <;> first | assumption | omega) | fail) only [↓mp_0_b, ↓mp_6_b, ↓mp_13_b, ↓mp_14_b, ↓mp_15_b, ↓mp_16_b, ↓mp_17_b, ↓mp_19_b, ↓mp_20_b, ↓mp_21_b, ↓mp_25_b, ↓mp_26_b, ↓mp_27_b, ↓mp_28_b, ↓mp_31_b, ↓mp_32_b, ↓mp_35_b, ↓mp_36_b, ↓mp_37_b, ↓mp_38_b, ↓mp_39_b, ↓mp_40_b, ↓mp_41_b, ↓mp_42_b, ↓mp_43_b, ↓ml_1_b, ↓ms_1_b, ↓ml_2_b, ↓ms_2_b, ↓ml_3_b, ↓ms_3_b, ↓ml_4_b, ↓ms_4_b, ↓ml_5_b, ↓ms_5_b, ↓ml_6_b, ↓ms_6_b, ↓ml_7_b, ↓ms_7_b, ↓ml_8_b, ↓ms_8_b, ↓ml_9_b, ↓ms_9_b, ↓ml_10_b, ↓ms_10_b, ↓ml_11_b, ↓ms_11_b, ↓ml_13_b, ↓ms_13_b, ↓ml_14_b, ↓ms_14_b, ↓ml_15_b, ↓ms_15_b, ↓ml_16_b, ↓ms_16_b, ↓ml_17_b, ↓ms_17_b, ↓ml_18_b, ↓ms_18_b, ↓ml_19_b, ↓ms_19_b, ↓ml_20_b, ↓ms_20_b, ↓ml_21_b, ↓ms_21_b, ↓ml_22_b, ↓ms_22_b, m_cl, mg_0, mp_0, mr_1, mr_2, mr_3, mr_4, mr_5, mg_6, mp_6, mr_7, mr_8, mr_9, mr_10, mr_11, mr_12, mg_13, mp_13, mg_14, mp_14, mg_15, mp_15, mg_16, mp_16, mg_17, mp_17, mr_18, mg_19, mp_19, mg_20, mp_20, mg_21, mp_21, mr_22, mr_23, mr_24, mg_25, mp_25, mg_26, mp_26, mg_27, mp_27, mg_28, mp_28, mr_29, mr_30, mg_31, mp_31, mg_32, mp_32, mr_33, mr_34, mg_35, mp_35, mg_36, mp_36, mg_37, mp_37, mg_38, mp_38, mg_39, mp_39, mg_40, mp_40, mg_41, mp_41, mg_42, mp_42, mg_43, mp_43, mr_44, mr_45, mr_46, ml_1, ms_1, ml_2, ms_2, ml_3, ms_3, ml_4, ms_4, ml_5, ms_5, ml_6, ms_6, ml_7, ms_7, ml_8, ms_8, ml_9, ms_9, ml_10, ms_10, ml_11, ms_11, ml_13, ms_13, ml_14, ms_14, ml_15, ms_15, ml_16, ms_16, ml_17, ms_17, ml_18, ms_18, ml_19, ms_19, ml_20, ms_20, ml_21, ms_21, ml_22, ms_22, h_nI, Int.cast_ofNat_Int, h_b8, Int.bmod_bmod, h_add, h_sub, h_mul, h_neg, h_zero, h_and255, h_and15, h_and3, h_cltT, h_cltF, h_cgeT, h_cgeF, h_cgtT, h_cgtF, h_cleT, h_cleF, h_ceqT, h_ceqF, h_cneT, h_cneF, m_I_uI, m_A_uI, m_I_uA, m_A_uA, m_t1, ↓reduceIte, Option.bind_some, am_ret0, am_ret1, am_ret2, if_true, if_false, true_and, and_true, false_and, and_false, not_true_eq_false, not_false_eq_true, Nat.reduceEqDiff, Nat.reduceAdd, Nat.reduceSub, Nat.reduceMul, Int.reduceAdd, Int.reduceSub, Int.reduceMul, Int.reduceNeg, Int.reduceToNat, Int.reduceLT, Int.reduceLE, Nat.add_left_cancel_iff, e1, e2]
    rw [B240_205]
    simp (disch := first | assumption | omega | decide | (simp only [m_I_uI, m_A_uI, m_I_uA, m_A_uA] <;> first | assumption | omega) | fail) only [↓mp_0_b, ↓mp_6_b, ↓mp_13_b, ↓mp_14_b, ↓mp_15_b, ↓mp_16_b, ↓mp_17_b, ↓mp_19_b, ↓mp_20_b, ↓mp_21_b, ↓mp_25_b, ↓mp_26_b, ↓mp_27_b, ↓mp_28_b, ↓mp_31_b, ↓mp_32_b, ↓mp_35_b, ↓mp_36_b, ↓mp_37_b, ↓mp_38_b, ↓mp_39_b, ↓mp_40_b, ↓mp_41_b, ↓mp_42_b, ↓mp_43_b, ↓ml_1_b, ↓ms_1_b, ↓ml_2_b, ↓ms_2_b, ↓ml_3_b, ↓ms_3_b, ↓ml_4_b, ↓ms_4_b, ↓ml_5_b, ↓ms_5_b, ↓ml_6_b, ↓ms_6_b, ↓ml_7_b, ↓ms_7_b, ↓ml_8_b, ↓ms_8_b, ↓ml_9_b, ↓ms_9_b, ↓ml_10_b, ↓ms_10_b, ↓ml_11_b, ↓ms_11_b, ↓ml_13_b, ↓ms_13_b, ↓ml_14_b, ↓ms_14_b, ↓ml_15_b, ↓ms_15_b, ↓ml_16_b, ↓ms_16_b, ↓ml_17_b, ↓ms_17_b, ↓ml_18_b, ↓ms_18_b, ↓ml_19_b, ↓ms_19_b, ↓ml_20_b, ↓ms_20_b, ↓ml_21_b, ↓ms_21_b, ↓ml_22_b, ↓ms_22_b, m_cl, mg_0, mp_0, mr_1, mr_2, mr_3, mr_4, mr_5, mg_6, mp_6, mr_7, mr_8, mr_9, mr_10, mr_11, mr_12, mg_13, mp_13, mg_14, mp_14, mg_15, mp_15, mg_16, mp_16, mg_17, mp_17, mr_18, mg_19, mp_19, mg_20, mp_20, mg_21, mp_21, mr_22, mr_23, mr_24, mg_25, mp_25, mg_26, mp_26, mg_27, mp_27, mg_28, mp_28, mr_29, mr_30, mg_31, mp_31, mg_32, mp_32, mr_33, mr_34, mg_35, mp_35, mg_36, mp_36, mg_37, mp_37, mg_38, mp_38, mg_39, mp_39, mg_40, mp_40, mg_41, mp_41, mg_42, mp_42, mg_43, mp_43, mr_44, mr_45, mr_46, ml_1, ms_1, ml_2, ms_2, ml_3, ms_3, ml_4, ms_4, ml_5, ms_5, ml_6, ms_6, ml_7, ms_7, ml_8, ms_8, ml_9, ms_9, ml_10, ms_10, ml_11, ms_11, ml_13, ms_13, ml_14, ms_14, ml_15, ms_15, ml_16, ms_16, ml_17, ms_17, ml_18, ms_18, ml_19, ms_19, ml_20, ms_20, ml_21, ms_21, ml_22, ms_22, h_nI, Int.cast_ofNat_Int, h_b8, Int.bmod_bmod, h_add, h_sub, h_mul, h_neg, h_zero, h_and255, h_and15, h_and3, h_cltT, h_cltF, h_cgeT, h_cgeF, h_cgtT, h_cgtF, h_cleT, h_cleF, h_ceqT, h_ceqF, h_cneT, h_cneF, m_I_uI, m_A_uI, m_I_uA, m_A_uA, m_t1, ↓reduceIte, Option.bind_some, am_ret0, am_ret1, am_ret2, if_true, if_false, true_and, and_true, false_and, and_false, not_true_eq_false, not_false_eq_true, Nat.reduceEqDiff, Nat.reduceAdd, Nat.reduceSub, Nat.reduceMul, Int.reduceAdd, Int.reduceSub, Int.reduceMul, Int.reduceNeg, Int.reduceToNat, Int.reduceLT, Int.reduceLE, Nat.add_left_cancel_iff]
    try rfl
  · rw [if_neg q] at hpo ⊢
    by_cases q2 : s + 3 ≤ t ∧ (bs.getD s 0 = 49 ∨ bs.getD s 0 = 50) ∧ bs.getD (s + 1) 0 = 46 ∧ 0 < x_nm (x_sub bs (s + 2) t)
    · rw [if_pos q2]
      have hnb := x_nm_le (x_sub bs (s + 2) t)
      obtain ⟨q3, q4, _, q5⟩ := q2
      have e1 := g_at (M := M) (m := m) (ad := ad) (d := d + 4) (i := s) h.2.1 (by omega)
      rcases q4 with q4 | q4
      · rw [q4] at e1 ⊢
        obtain ⟨t1, e2, f1, W1⟩ := g_fd_0 (M := M) (m := m) (ad := ad) (d := d + 1) (st := s) (t := t) (i1 := h_ii (z_io x)) (i2 := h_ii (z_io y)) (i3 := i3) (i4 := i4) (o8 := o8) hJ (by omega) (by omega) hx h hW
        refine ⟨t1, some (.int (h_ii 1)), some (.int (h_ii (z_io x))), ?_, f1, ?_⟩
        · rw [B240_92]
          simp (disch := first | assumption | omega | decide | (simp only [m_I_uI, m_A_uI, m_I_uA, m_A_uA] <;> first | assumption | omega) | fail) only [↓mp_0_b, ↓mp_6_b, ↓mp_13_b, ↓mp_14_b, ↓mp_15_b, ↓mp_16_b, ↓mp_17_b, ↓mp_19_b, ↓mp_20_b, ↓mp_21_b, ↓mp_25_b, ↓mp_26_b, ↓mp_27_b, ↓mp_28_b, ↓mp_31_b, ↓mp_32_b, ↓mp_35_b, ↓mp_36_b, ↓mp_37_b, ↓mp_38_b, ↓mp_39_b, ↓mp_40_b, ↓mp_41_b, ↓mp_42_b, ↓mp_43_b, ↓ml_1_b, ↓ms_1_b, ↓ml_2_b, ↓ms_2_b, ↓ml_3_b, ↓ms_3_b, ↓ml_4_b, ↓ms_4_b, ↓ml_5_b, ↓ms_5_b, ↓ml_6_b, ↓ms_6_b, ↓ml_7_b, ↓ms_7_b, ↓ml_8_b, ↓ms_8_b, ↓ml_9_b, ↓ms_9_b, ↓ml_10_b, ↓ms_10_b, ↓ml_11_b, ↓ms_11_b, ↓ml_13_b, ↓ms_13_b, ↓ml_14_b, ↓ms_14_b, ↓ml_15_b, ↓ms_15_b, ↓ml_16_b, ↓ms_16_b, ↓ml_17_b, ↓ms_17_b, ↓ml_18_b, ↓ms_18_b, ↓ml_19_b, ↓ms_19_b, ↓ml_20_b, ↓ms_20_b, ↓ml_21_b, ↓ms_21_b, ↓ml_22_b, ↓ms_22_b, m_cl, mg_0, mp_0, mr_1, mr_2, mr_3, mr_4, mr_5, mg_6, mp_6, mr_7, mr_8, mr_9, mr_10, mr_11, mr_12, mg_13, mp_13, mg_14, mp_14, mg_15, mp_15, mg_16, mp_16, mg_17, mp_17, mr_18, mg_19, mp_19, mg_20, mp_20, mg_21, mp_21, mr_22, mr_23, mr_24, mg_25, mp_25, mg_26, mp_26, mg_27, mp_27, mg_28, mp_28, mr_29, mr_30, mg_31, mp_31, mg_32, mp_32, mr_33, mr_34, mg_35, mp_35, mg_36, mp_36, mg_37, mp_37, mg_38, mp_38, mg_39, mp_39, mg_40, mp_40, mg_41, mp_41, mg_42, mp_42, mg_43, mp_43, mr_44, mr_45, mr_46, ml_1, ms_1, ml_2, ms_2, ml_3, ms_3, ml_4, ms_4, ml_5, ms_5, ml_6, ms_6, ml_7, ms_7, ml_8, ms_8, ml_9, ms_9, ml_10, ms_10, ml_11, ms_11, ml_13, ms_13, ml_14, ms_14, ml_15, ms_15, ml_16, ms_16, ml_17, ms_17, ml_18, ms_18, ml_19, ms_19, ml_20, ms_20, ml_21, ms_21, ml_22, ms_22, h_nI, Int.cast_ofNat_Int, h_b8, Int.bmod_bmod, h_add, h_sub, h_mul, h_neg, h_zero, h_and255, h_and15, h_and3, h_cltT, h_cltF, h_cgeT, h_cgeF, h_cgtT, h_cgtF, h_cleT, h_cleF, h_ceqT, h_ceqF, h_cneT, h_cneF, m_I_uI, m_A_uI, m_I_uA, m_A_uA, m_t1, ↓reduceIte, Option.bind_some, am_ret0, am_ret1, am_ret2, if_true, if_false, true_and, and_true, false_and, and_false, not_true_eq_false, not_false_eq_true, Nat.reduceEqDiff, Nat.reduceAdd, Nat.reduceSub, Nat.reduceMul, Int.reduceAdd, Int.reduceSub, Int.reduceMul, Int.reduceNeg, Int.reduceToNat, Int.reduceLT, Int.reduceLE, Nat.add_left_cancel_iff, e1]
          refine e2.trans ?_
          rw [B240_205]
          simp (disch := first | assumption | omega | decide | (simp only [m_I_uI, m_A_uI, m_I_uA, m_A_uA] <;> first | assumption | omega) | fail) only [↓mp_0_b, ↓mp_6_b, ↓mp_13_b, ↓mp_14_b, ↓mp_15_b, ↓mp_16_b, ↓mp_17_b, ↓mp_19_b, ↓mp_20_b, ↓mp_21_b, ↓mp_25_b, ↓mp_26_b, ↓mp_27_b, ↓mp_28_b, ↓mp_31_b, ↓mp_32_b, ↓mp_35_b, ↓mp_36_b, ↓mp_37_b, ↓mp_38_b, ↓mp_39_b, ↓mp_40_b, ↓mp_41_b, ↓mp_42_b, ↓mp_43_b, ↓ml_1_b, ↓ms_1_b, ↓ml_2_b, ↓ms_2_b, ↓ml_3_b, ↓ms_3_b, ↓ml_4_b, ↓ms_4_b, ↓ml_5_b, ↓ms_5_b, ↓ml_6_b, ↓ms_6_b, ↓ml_7_b, ↓ms_7_b, ↓ml_8_b, ↓ms_8_b, ↓ml_9_b, ↓ms_9_b, ↓ml_10_b, ↓ms_10_b, ↓ml_11_b, ↓ms_11_b, ↓ml_13_b, ↓ms_13_b, ↓ml_14_b, ↓ms_14_b, ↓ml_15_b, ↓ms_15_b, ↓ml_16_b, ↓ms_16_b, ↓ml_17_b, ↓ms_17_b, ↓ml_18_b, ↓ms_18_b, ↓ml_19_b, ↓ms_19_b, ↓ml_20_b, ↓ms_20_b, ↓ml_21_b, ↓ms_21_b, ↓ml_22_b, ↓ms_22_b, m_cl, mg_0, mp_0, mr_1, mr_2, mr_3, mr_4, mr_5, mg_6, mp_6, mr_7, mr_8, mr_9, mr_10, mr_11, mr_12, mg_13, mp_13, mg_14, mp_14, mg_15, mp_15, mg_16, mp_16, mg_17, mp_17, mr_18, mg_19, mp_19, mg_20, mp_20, mg_21, mp_21, mr_22, mr_23, mr_24, mg_25, mp_25, mg_26, mp_26, mg_27, mp_27, mg_28, mp_28, mr_29, mr_30, mg_31, mp_31, mg_32, mp_32, mr_33, mr_34, mg_35, mp_35, mg_36, mp_36, mg_37, mp_37, mg_38, mp_38, mg_39, mp_39, mg_40, mp_40, mg_41, mp_41, mg_42, mp_42, mg_43, mp_43, mr_44, mr_45, mr_46, ml_1, ms_1, ml_2, ms_2, ml_3, ms_3, ml_4, ms_4, ml_5, ms_5, ml_6, ms_6, ml_7, ms_7, ml_8, ms_8, ml_9, ms_9, ml_10, ms_10, ml_11, ms_11, ml_13, ms_13, ml_14, ms_14, ml_15, ms_15, ml_16, ms_16, ml_17, ms_17, ml_18, ms_18, ml_19, ms_19, ml_20, ms_20, ml_21, ms_21, ml_22, ms_22, h_nI, Int.cast_ofNat_Int, h_b8, Int.bmod_bmod, h_add, h_sub, h_mul, h_neg, h_zero, h_and255, h_and15, h_and3, h_cltT, h_cltF, h_cgeT, h_cgeF, h_cgtT, h_cgtF, h_cleT, h_cleF, h_ceqT, h_ceqF, h_cneT, h_cneF, m_I_uI, m_A_uI, m_I_uA, m_A_uA, m_t1, ↓reduceIte, Option.bind_some, am_ret0, am_ret1, am_ret2, if_true, if_false, true_and, and_true, false_and, and_false, not_true_eq_false, not_false_eq_true, Nat.reduceEqDiff, Nat.reduceAdd, Nat.reduceSub, Nat.reduceMul, Int.reduceAdd, Int.reduceSub, Int.reduceMul, Int.reduceNeg, Int.reduceToNat, Int.reduceLT, Int.reduceLE, Nat.add_left_cancel_iff]
          try rfl
        · unfold z_p1
          rw [if_neg (show ¬ (((49 : Int) - 48) * 100000 + x_nm (x_sub bs (s + 2) t) = 0) by omega), if_pos (show ((49 : Int) - 48) * 100000 + x_nm (x_sub bs (s + 2) t) < 200000 by omega), show (((49 : Int) - 48) * 100000 + x_nm (x_sub bs (s + 2) t)) % 100000 = x_nm (x_sub bs (s + 2) t) by omega]
          exact W1
      · rw [q4] at e1 ⊢
        obtain ⟨t1, e2, f1, W1⟩ := g_fd_1 (M := M) (m := m) (ad := ad) (d := d + 1) (st := s) (t := t) (i1 := h_ii (z_io x)) (i2 := h_ii (z_io y)) (i3 := i3) (i4 := i4) (o8 := o8) hJ (by omega) (by omega) hy h hW
        refine ⟨t1, some (.int (h_ii 2)), some (.int (h_ii (z_io y))), ?_, f1, ?_⟩
        · rw [B240_92]
          simp (disch := first | assumption | omega | decide | (simp only [m_I_uI, m_A_uI, m_I_uA, m_A_uA] <;> first | assumption | omega) | fail) only [↓mp_0_b, ↓mp_6_b, ↓mp_13_b, ↓mp_14_b, ↓mp_15_b, ↓mp_16_b, ↓mp_17_b, ↓mp_19_b, ↓mp_20_b, ↓mp_21_b, ↓mp_25_b, ↓mp_26_b, ↓mp_27_b, ↓mp_28_b, ↓mp_31_b, ↓mp_32_b, ↓mp_35_b, ↓mp_36_b, ↓mp_37_b, ↓mp_38_b, ↓mp_39_b, ↓mp_40_b, ↓mp_41_b, ↓mp_42_b, ↓mp_43_b, ↓ml_1_b, ↓ms_1_b, ↓ml_2_b, ↓ms_2_b, ↓ml_3_b, ↓ms_3_b, ↓ml_4_b, ↓ms_4_b, ↓ml_5_b, ↓ms_5_b, ↓ml_6_b, ↓ms_6_b, ↓ml_7_b, ↓ms_7_b, ↓ml_8_b, ↓ms_8_b, ↓ml_9_b, ↓ms_9_b, ↓ml_10_b, ↓ms_10_b, ↓ml_11_b, ↓ms_11_b, ↓ml_13_b, ↓ms_13_b, ↓ml_14_b, ↓ms_14_b, ↓ml_15_b, ↓ms_15_b, ↓ml_16_b, ↓ms_16_b, ↓ml_17_b, ↓ms_17_b, ↓ml_18_b, ↓ms_18_b, ↓ml_19_b, ↓ms_19_b, ↓ml_20_b, ↓ms_20_b, ↓ml_21_b, ↓ms_21_b, ↓ml_22_b, ↓ms_22_b, m_cl, mg_0, mp_0, mr_1, mr_2, mr_3, mr_4, mr_5, mg_6, mp_6, mr_7, mr_8, mr_9, mr_10, mr_11, mr_12, mg_13, mp_13, mg_14, mp_14, mg_15, mp_15, mg_16, mp_16, mg_17, mp_17, mr_18, mg_19, mp_19, mg_20, mp_20, mg_21, mp_21, mr_22, mr_23, mr_24, mg_25, mp_25, mg_26, mp_26, mg_27, mp_27, mg_28, mp_28, mr_29, mr_30, mg_31, mp_31, mg_32, mp_32, mr_33, mr_34, mg_35, mp_35, mg_36, mp_36, mg_37, mp_37, mg_38, mp_38, mg_39, mp_39, mg_40, mp_40, mg_41, mp_41, mg_42, mp_42, mg_43, mp_43, mr_44, mr_45, mr_46, ml_1, ms_1, ml_2, ms_2, ml_3, ms_3, ml_4, ms_4, ml_5, ms_5, ml_6, ms_6, ml_7, ms_7, ml_8, ms_8, ml_9, ms_9, ml_10, ms_10, ml_11, ms_11, ml_13, ms_13, ml_14, ms_14, ml_15, ms_15, ml_16, ms_16, ml_17, ms_17, ml_18, ms_18, ml_19, ms_19, ml_20, ms_20, ml_21, ms_21, ml_22, ms_22, h_nI, Int.cast_ofNat_Int, h_b8, Int.bmod_bmod, h_add, h_sub, h_mul, h_neg, h_zero, h_and255, h_and15, h_and3, h_cltT, h_cltF, h_cgeT, h_cgeF, h_cgtT, h_cgtF, h_cleT, h_cleF, h_ceqT, h_ceqF, h_cneT, h_cneF, m_I_uI, m_A_uI, m_I_uA, m_A_uA, m_t1, ↓reduceIte, Option.bind_some, am_ret0, am_ret1, am_ret2, if_true, if_false, true_and, and_true, false_and, and_false, not_true_eq_false, not_false_eq_true, Nat.reduceEqDiff, Nat.reduceAdd, Nat.reduceSub, Nat.reduceMul, Int.reduceAdd, Int.reduceSub, Int.reduceMul, Int.reduceNeg, Int.reduceToNat, Int.reduceLT, Int.reduceLE, Nat.add_left_cancel_iff, e1]
          refine e2.trans ?_
          rw [B240_205]
          simp (disch := first | assumption | omega | decide | (simp only [m_I_uI, m_A_uI, m_I_uA, m_A_uA] <;> first | assumption | omega) | fail) only [↓mp_0_b, ↓mp_6_b, ↓mp_13_b, ↓mp_14_b, ↓mp_15_b, ↓mp_16_b, ↓mp_17_b, ↓mp_19_b, ↓mp_20_b, ↓mp_21_b, ↓mp_25_b, ↓mp_26_b, ↓mp_27_b, ↓mp_28_b, ↓mp_31_b, ↓mp_32_b, ↓mp_35_b, ↓mp_36_b, ↓mp_37_b, ↓mp_38_b, ↓mp_39_b, ↓mp_40_b, ↓mp_41_b, ↓mp_42_b, ↓mp_43_b, ↓ml_1_b, ↓ms_1_b, ↓ml_2_b, ↓ms_2_b, ↓ml_3_b, ↓ms_3_b, ↓ml_4_b, ↓ms_4_b, ↓ml_5_b, ↓ms_5_b, ↓ml_6_b, ↓ms_6_b, ↓ml_7_b, ↓ms_7_b, ↓ml_8_b, ↓ms_8_b, ↓ml_9_b, ↓ms_9_b, ↓ml_10_b, ↓ms_10_b, ↓ml_11_b, ↓ms_11_b, ↓ml_13_b, ↓ms_13_b, ↓ml_14_b, ↓ms_14_b, ↓ml_15_b, ↓ms_15_b, ↓ml_16_b, ↓ms_16_b, ↓ml_17_b, ↓ms_17_b, ↓ml_18_b, ↓ms_18_b, ↓ml_19_b, ↓ms_19_b, ↓ml_20_b, ↓ms_20_b, ↓ml_21_b, ↓ms_21_b, ↓ml_22_b, ↓ms_22_b, m_cl, mg_0, mp_0, mr_1, mr_2, mr_3, mr_4, mr_5, mg_6, mp_6, mr_7, mr_8, mr_9, mr_10, mr_11, mr_12, mg_13, mp_13, mg_14, mp_14, mg_15, mp_15, mg_16, mp_16, mg_17, mp_17, mr_18, mg_19, mp_19, mg_20, mp_20, mg_21, mp_21, mr_22, mr_23, mr_24, mg_25, mp_25, mg_26, mp_26, mg_27, mp_27, mg_28, mp_28, mr_29, mr_30, mg_31, mp_31, mg_32, mp_32, mr_33, mr_34, mg_35, mp_35, mg_36, mp_36, mg_37, mp_37, mg_38, mp_38, mg_39, mp_39, mg_40, mp_40, mg_41, mp_41, mg_42, mp_42, mg_43, mp_43, mr_44, mr_45, mr_46, ml_1, ms_1, ml_2, ms_2, ml_3, ms_3, ml_4, ms_4, ml_5, ms_5, ml_6, ms_6, ml_7, ms_7, ml_8, ms_8, ml_9, ms_9, ml_10, ms_10, ml_11, ms_11, ml_13, ms_13, ml_14, ms_14, ml_15, ms_15, ml_16, ms_16, ml_17, ms_17, ml_18, ms_18, ml_19, ms_19, ml_20, ms_20, ml_21, ms_21, ml_22, ms_22, h_nI, Int.cast_ofNat_Int, h_b8, Int.bmod_bmod, h_add, h_sub, h_mul, h_neg, h_zero, h_and255, h_and15, h_and3, h_cltT, h_cltF, h_cgeT, h_cgeF, h_cgtT, h_cgtF, h_cleT, h_cleF, h_ceqT, h_ceqF, h_cneT, h_cneF, m_I_uI, m_A_uI, m_I_uA, m_A_uA, m_t1, ↓reduceIte, Option.bind_some, am_ret0, am_ret1, am_ret2, if_true, if_false, true_and, and_true, false_and, and_false, not_true_eq_false, not_false_eq_true, Nat.reduceEqDiff, Nat.reduceAdd, Nat.reduceSub, Nat.reduceMul, Int.reduceAdd, Int.reduceSub, Int.reduceMul, Int.reduceNeg, Int.reduceToNat, Int.reduceLT, Int.reduceLE, Nat.add_left_cancel_iff]
          try rfl
        · unfold z_p1
          rw [if_neg (show ¬ (((50 : Int) - 48) * 100000 + x_nm (x_sub bs (s + 2) t) = 0) by omega), if_neg (show ¬ (((50 : Int) - 48) * 100000 + x_nm (x_sub bs (s + 2) t) < 200000) by omega), show (((50 : Int) - 48) * 100000 + x_nm (x_sub bs (s + 2) t)) % 100000 = x_nm (x_sub bs (s + 2) t) by omega]
          exact W1
    · rw [if_neg q2] at hpo
      exact absurd rfl hpo
/-- the parts -/
theorem g_p55 {x y : Option Nat} {z : Nat × Nat} (hJ : z_JS O bs c v a e) (hz : z.2 ≤ bs.length) (hxy : x ≠ none ∨ y ≠ none) (hx : ∀ l, x = some l → l < (S 0).length) (hy : ∀ l, y = some l → l < (S 1).length) : ∀ (f s k : Nat) (rs : List Int) {μ : m_S} {cu : List Int} {o6 o7 o8 : Option Value}, x_prt bs z.2 f s = some rs → (k = 0 ↔ s = z.1) → z.1 ≤ s → s ≤ z.2 → m_JI μ O bs n X S → m_W μ (L ++ [cu]) →
    ∃ μ', am_gg (am_pr ad) (d + 5) 240 55 [some (.ref m), some (.int (h_ii (z_io x))), some (.int (h_ii (z_io y))), some (.int (h_ii z.1)), some (.int (h_ii z.2)), some (.int (h_ii s)), o6, o7, o8] [] (m_t M m μ) = some (.inl none, m_t M m μ') ∧ m_fT μ μ' ∧ m_W μ' (L ++ [cu ++ z_ps O bs c v a e (z_li (S 0) x) (z_li (S 1) y) k rs])
  | 0, s, k, rs, μ, cu, o6, o7, o8, hp, hk, hs, hs2, h, hW => by cases hp
  | f + 1, s, k, rs, μ, cu, o6, o7, o8, hp, hk, hs, hs2, h, hW => by
    have h9 := h.2.1.1
    obtain ⟨c1, c2⟩ := x_cm_le (c := 44) hs2 hz
    have e1 : am_gg (am_pr ad) (d + 4) 188 0 [some (.ref m), some (.int (h_ii 44)), some (.int (h_ii s)), some (.int (h_ii z.2)), none] [] (m_t M m μ) = some (.inl (some (.int (h_ii (x_cm bs 44 s z.2)))), m_t M m μ) := g_next (M := M) (m := m) (ad := ad) (d := d + 3) (c := 44) h.2.1 hs2 hz (by decide)
    rw [x_prt] at hp
    by_cases q : x_po bs s (x_cm bs 44 s z.2) = -2
    · rw [if_pos q] at hp
      cases hp
    rw [if_neg q] at hp
    -- what stands before
    obtain ⟨t1, e2, f1, W1⟩ : ∃ t1, am_gg (am_pr ad) (d + 5) 240 55 [some (.ref m), some (.int (h_ii (z_io x))), some (.int (h_ii (z_io y))), some (.int (h_ii z.1)), some (.int (h_ii z.2)), some (.int (h_ii s)), o6, o7, o8] [] (m_t M m μ) = am_gg (am_pr ad) (d + 5) 240 92 [some (.ref m), some (.int (h_ii (z_io x))), some (.int (h_ii (z_io y))), some (.int (h_ii z.1)), some (.int (h_ii z.2)), some (.int (h_ii s)), some (.int (h_ii (x_cm bs 44 s z.2))), o7, o8] [] (m_t M m t1) ∧ m_fT μ t1 ∧ m_W t1 (L ++ [cu ++ (if k = 0 then [] else [v])]) := by
      by_cases w : k = 0
      · rw [if_pos w, List.append_nil]
        have hsz := hk.1 w
        refine ⟨μ, ?_, m_fT.refl μ, hW⟩
        have hsz' : (s : Int) ≤ z.1 := by omega
        clear hsz hk
        rw [B240_55]
        simp (disch := first | assumption | omega | decide | (simp only [m_I_uI, m_A_uI, m_I_uA, m_A_uA] <;> first | assumption | omega) | fail) only [↓mp_0_b, ↓mp_6_b, ↓mp_13_b, ↓mp_14_b, ↓mp_15_b, ↓mp_16_b, ↓mp_17_b, ↓mp_19_b, ↓mp_20_b, ↓mp_21_b, ↓mp_25_b, ↓mp_26_b, ↓mp_27_b, ↓mp_28_b, ↓mp_31_b, ↓mp_32_b, ↓mp_35_b, ↓mp_36_b, ↓mp_37_b, ↓mp_38_b, ↓mp_39_b, ↓mp_40_b, ↓mp_41_b, ↓mp_42_b, ↓mp_43_b, ↓ml_1_b, ↓ms_1_b, ↓ml_2_b, ↓ms_2_b, ↓ml_3_b, ↓ms_3_b, ↓ml_4_b, ↓ms_4_b, ↓ml_5_b, ↓ms_5_b, ↓ml_6_b, ↓ms_6_b, ↓ml_7_b, ↓ms_7_b, ↓ml_8_b, ↓ms_8_b, ↓ml_9_b, ↓ms_9_b, ↓ml_10_b, ↓ms_10_b, ↓ml_11_b, ↓ms_11_b, ↓ml_13_b, ↓ms_13_b, ↓ml_14_b, ↓ms_14_b, ↓ml_15_b, ↓ms_15_b, ↓ml_16_b, ↓ms_16_b, ↓ml_17_b, ↓ms_17_b, ↓ml_18_b, ↓ms_18_b, ↓ml_19_b, ↓ms_19_b, ↓ml_20_b, ↓ms_20_b, ↓ml_21_b, ↓ms_21_b, ↓ml_22_b, ↓ms_22_b, m_cl, mg_0, mp_0, mr_1, mr_2, mr_3, mr_4, mr_5, mg_6, mp_6, mr_7, mr_8, mr_9, mr_10, mr_11, mr_12, mg_13, mp_13, mg_14, mp_14, mg_15, mp_15, mg_16, mp_16, mg_17, mp_17, mr_18, mg_19, mp_19, mg_20, mp_20, mg_21, mp_21, mr_22, mr_23, mr_24, mg_25, mp_25, mg_26, mp_26, mg_27, mp_27, mg_28, mp_28, mr_29, mr_30, mg_31, mp_31, mg_32, mp_32, mr_33, mr_34, mg_35, mp_35, mg_36, mp_36, mg_37, mp_37, mg_38, mp_38, mg_39, mp_39, mg_40, mp_40, mg_41, mp_41, mg_42, mp_42, mg_43, mp_43, mr_44, mr_45, mr_46, ml_1, ms_1, ml_2, ms_2, ml_3, ms_3, ml_4, ms_4, ml_5, ms_5, ml_6, ms_6, ml_7, ms_7, ml_8, ms_8, ml_9, ms_9, ml_10, ms_10, ml_11, ms_11, ml_13, ms_13, ml_14, ms_14, ml_15, ms_15, ml_16, ms_16, ml_17, ms_17, ml_18, ms_18, ml_19, ms_19, ml_20, ms_20, ml_21, ms_21, ml_22, ms_22, h_nI, Int.cast_ofNat_Int, h_b8, Int.bmod_bmod, h_add, h_sub, h_mul, h_neg, h_zero, h_and255, h_and15, h_and3, h_cltT, h_cltF, h_cgeT, h_cgeF, h_cgtT, h_cgtF, h_cleT, h_cleF, h_ceqT, h_ceqF, h_cneT, h_cneF, m_I_uI, m_A_uI, m_I_uA, m_A_uA, m_t1, ↓reduceIte, Option.bind_some, am_ret0, am_ret1, am_ret2, if_true, if_false, true_and, and_true, false_and, and_false, not_true_eq_false, not_false_eq_true, Nat.reduceEqDiff, Nat.reduceAdd, Nat.reduceSub, Nat.reduceMul, Int.reduceAdd, Int.reduceSub, Int.reduceMul, Int.reduceNeg, Int.reduceToNat, Int.reduceLT, Int.reduceLE, Nat.add_left_cancel_iff, e1]
      · rw [if_neg w]
        have hsz : ¬ s = z.1 := fun y => w (hk.2 y)
        have e0 := h.1.byt (M := M) (m := m) (ad := ad) (d := d + 3) (c := 116) (u := 32) (v := 116) hJ.1 h.2.1 (by omega) rfl (.inl (by decide))
        rw [hJ.2.2.1] at e0
        obtain ⟨t1, e3, f1, W1⟩ := m_putW (M := M) (m := m) (ad := ad) (d := d + 4) (v := v) hW
        rw [Int.emod_eq_of_lt hJ.2.2.2.1.1 hJ.2.2.2.1.2] at W1
        refine ⟨t1, ?_, f1.fT, W1⟩
        have hsz' : (z.1 : Int) < s := by omega
        clear hk
        rw [B240_55]
        simp (disch := first | assumption | omega | decide | (simp only [m_I_uI, m_A_uI, m_I_uA, m_A_uA] <;> first | assumption | omega) | fail) only [↓mp_0_b, ↓mp_6_b, ↓mp_13_b, ↓mp_14_b, ↓mp_15_b, ↓mp_16_b, ↓mp_17_b, ↓mp_19_b, ↓mp_20_b, ↓mp_21_b, ↓mp_25_b, ↓mp_26_b, ↓mp_27_b, ↓mp_28_b, ↓mp_31_b, ↓mp_32_b, ↓mp_35_b, ↓mp_36_b, ↓mp_37_b, ↓mp_38_b, ↓mp_39_b, ↓mp_40_b, ↓mp_41_b, ↓mp_42_b, ↓mp_43_b, ↓ml_1_b, ↓ms_1_b, ↓ml_2_b, ↓ms_2_b, ↓ml_3_b, ↓ms_3_b, ↓ml_4_b, ↓ms_4_b, ↓ml_5_b, ↓ms_5_b, ↓ml_6_b, ↓ms_6_b, ↓ml_7_b, ↓ms_7_b, ↓ml_8_b, ↓ms_8_b, ↓ml_9_b, ↓ms_9_b, ↓ml_10_b, ↓ms_10_b, ↓ml_11_b, ↓ms_11_b, ↓ml_13_b, ↓ms_13_b, ↓ml_14_b, ↓ms_14_b, ↓ml_15_b, ↓ms_15_b, ↓ml_16_b, ↓ms_16_b, ↓ml_17_b, ↓ms_17_b, ↓ml_18_b, ↓ms_18_b, ↓ml_19_b, ↓ms_19_b, ↓ml_20_b, ↓ms_20_b, ↓ml_21_b, ↓ms_21_b, ↓ml_22_b, ↓ms_22_b, m_cl, mg_0, mp_0, mr_1, mr_2, mr_3, mr_4, mr_5, mg_6, mp_6, mr_7, mr_8, mr_9, mr_10, mr_11, mr_12, mg_13, mp_13, mg_14, mp_14, mg_15, mp_15, mg_16, mp_16, mg_17, mp_17, mr_18, mg_19, mp_19, mg_20, mp_20, mg_21, mp_21, mr_22, mr_23, mr_24, mg_25, mp_25, mg_26, mp_26, mg_27, mp_27, mg_28, mp_28, mr_29, mr_30, mg_31, mp_31, mg_32, mp_32, mr_33, mr_34, mg_35, mp_35, mg_36, mp_36, mg_37, mp_37, mg_38, mp_38, mg_39, mp_39, mg_40, mp_40, mg_41, mp_41, mg_42, mp_42, mg_43, mp_43, mr_44, mr_45, mr_46, ml_1, ms_1, ml_2, ms_2, ml_3, ms_3, ml_4, ms_4, ml_5, ms_5, ml_6, ms_6, ml_7, ms_7, ml_8, ms_8, ml_9, ms_9, ml_10, ms_10, ml_11, ms_11, ml_13, ms_13, ml_14, ms_14, ml_15, ms_15, ml_16, ms_16, ml_17, ms_17, ml_18, ms_18, ml_19, ms_19, ml_20, ms_20, ml_21, ms_21, ml_22, ms_22, h_nI, Int.cast_ofNat_Int, h_b8, Int.bmod_bmod, h_add, h_sub, h_mul, h_neg, h_zero, h_and255, h_and15, h_and3, h_cltT, h_cltF, h_cgeT, h_cgeF, h_cgtT, h_cgtF, h_cleT, h_cleF, h_ceqT, h_ceqF, h_cneT, h_cneF, m_I_uI, m_A_uI, m_I_uA, m_A_uA, m_t1, ↓reduceIte, Option.bind_some, am_ret0, am_ret1, am_ret2, if_true, if_false, true_and, and_true, false_and, and_false, not_true_eq_false, not_false_eq_true, Nat.reduceEqDiff, Nat.reduceAdd, Nat.reduceSub, Nat.reduceMul, Int.reduceAdd, Int.reduceSub, Int.reduceMul, Int.reduceNeg, Int.reduceToNat, Int.reduceLT, Int.reduceLE, Nat.add_left_cancel_iff, e1, e0, e3]
    have h1 := h.fT f1
    obtain ⟨t2, p7, p8, e3, f2, W2⟩ := g_p92 (M := M) (m := m) (ad := ad) (d := d) (i3 := h_ii z.1) (i4 := h_ii z.2) (o7 := o7) (o8 := o8) hJ ⟨c1, by omega⟩ q hxy hx hy h1 W1
    rw [e2, e3]
    by_cases w : x_cm bs 44 s z.2 = z.2
    · rw [if_pos w] at hp
      cases hp
      refine ⟨t2, ?_, f1.trans f2, ?_⟩
      · have w' : (z.2 : Int) < ((x_cm bs 44 s z.2 + 1 : Nat) : Int) := by omega
        rw [B240_55]
        simp (disch := first | assumption | omega | decide | (simp only [m_I_uI, m_A_uI, m_I_uA, m_A_uA] <;> first | assumption | omega) | fail) only [↓mp_0_b, ↓mp_6_b, ↓mp_13_b, ↓mp_14_b, ↓mp_15_b, ↓mp_16_b, ↓mp_17_b, ↓mp_19_b, ↓mp_20_b, ↓mp_21_b, ↓mp_25_b, ↓mp_26_b, ↓mp_27_b, ↓mp_28_b, ↓mp_31_b, ↓mp_32_b, ↓mp_35_b, ↓mp_36_b, ↓mp_37_b, ↓mp_38_b, ↓mp_39_b, ↓mp_40_b, ↓mp_41_b, ↓mp_42_b, ↓mp_43_b, ↓ml_1_b, ↓ms_1_b, ↓ml_2_b, ↓ms_2_b, ↓ml_3_b, ↓ms_3_b, ↓ml_4_b, ↓ms_4_b, ↓ml_5_b, ↓ms_5_b, ↓ml_6_b, ↓ms_6_b, ↓ml_7_b, ↓ms_7_b, ↓ml_8_b, ↓ms_8_b, ↓ml_9_b, ↓ms_9_b, ↓ml_10_b, ↓ms_10_b, ↓ml_11_b, ↓ms_11_b, ↓ml_13_b, ↓ms_13_b, ↓ml_14_b, ↓ms_14_b, ↓ml_15_b, ↓ms_15_b, ↓ml_16_b, ↓ms_16_b, ↓ml_17_b, ↓ms_17_b, ↓ml_18_b, ↓ms_18_b, ↓ml_19_b, ↓ms_19_b, ↓ml_20_b, ↓ms_20_b, ↓ml_21_b, ↓ms_21_b, ↓ml_22_b, ↓ms_22_b, m_cl, mg_0, mp_0, mr_1, mr_2, mr_3, mr_4, mr_5, mg_6, mp_6, mr_7, mr_8, mr_9, mr_10, mr_11, mr_12, mg_13, mp_13, mg_14, mp_14, mg_15, mp_15, mg_16, mp_16, mg_17, mp_17, mr_18, mg_19, mp_19, mg_20, mp_20, mg_21, mp_21, mr_22, mr_23, mr_24, mg_25, mp_25, mg_26, mp_26, mg_27, mp_27, mg_28, mp_28, mr_29, mr_30, mg_31, mp_31, mg_32, mp_32, mr_33, mr_34, mg_35, mp_35, mg_36, mp_36, mg_37, mp_37, mg_38, mp_38, mg_39, mp_39, mg_40, mp_40, mg_41, mp_41, mg_42, mp_42, mg_43, mp_43, mr_44, mr_45, mr_46, ml_1, ms_1, ml_2, ms_2, ml_3, ms_3, ml_4, ms_4, ml_5, ms_5, ml_6, ms_6, ml_7, ms_7, ml_8, ms_8, ml_9, ms_9, ml_10, ms_10, ml_11, ms_11, ml_13, ms_13, ml_14, ms_14, ml_15, ms_15, ml_16, ms_16, ml_17, ms_17, ml_18, ms_18, ml_19, ms_19, ml_20, ms_20, ml_21, ms_21, ml_22, ms_22, h_nI, Int.cast_ofNat_Int, h_b8, Int.bmod_bmod, h_add, h_sub, h_mul, h_neg, h_zero, h_and255, h_and15, h_and3, h_cltT, h_cltF, h_cgeT, h_cgeF, h_cgtT, h_cgtF, h_cleT, h_cleF, h_ceqT, h_ceqF, h_cneT, h_cneF, m_I_uI, m_A_uI, m_I_uA, m_A_uA, m_t1, ↓reduceIte, Option.bind_some, am_ret0, am_ret1, am_ret2, if_true, if_false, true_and, and_true, false_and, and_false, not_true_eq_false, not_false_eq_true, Nat.reduceEqDiff, Nat.reduceAdd, Nat.reduceSub, Nat.reduceMul, Int.reduceAdd, Int.reduceSub, Int.reduceMul, Int.reduceNeg, Int.reduceToNat, Int.reduceLT, Int.reduceLE, Nat.add_left_cancel_iff]
      · rw [z_ps, z_ps, List.append_nil]
        simp only [List.append_assoc] at W2 ⊢
        exact W2
    · rw [if_neg w] at hp
      cases hr : x_prt bs z.2 f (x_cm bs 44 s z.2 + 1) with
      | none => rw [hr] at hp; cases hp
      | some r =>
        rw [hr] at hp
        cases hp
        obtain ⟨t3, e4, f3, W3⟩ := g_p55 hJ hz hxy hx hy f (x_cm bs 44 s z.2 + 1) (k + 1) r (μ := t2) (cu := (cu ++ (if k = 0 then [] else [v])) ++ z_p1 O bs c a e (z_li (S 0) x) (z_li (S 1) y) (x_po bs s (x_cm bs 44 s z.2))) (o6 := some (.int (h_ii (x_cm bs 44 s z.2)))) (o7 := p7) (o8 := p8) hr (by omega) (by omega) (by omega) (h1.fT f2) W2
        refine ⟨t3, e4, (f1.trans f2).trans f3, ?_⟩
        rw [z_ps]
        simp only [List.append_assoc] at W3 ⊢
        exact W3
/-- putJoined -/
theorem g_row {x y : Option Nat} (hJ : z_JS O bs c v a e) (hxy : x ≠ none ∨ y ≠ none) (hx : ∀ l, x = some l → l < (S 0).length) (hy : ∀ l, y = some l → l < (S 1).length) (h : m_JI μ O bs n X S) (hW : m_W μ L) :
    ∃ μ', am_gg (am_pr ad) (d + 5) 240 0 [some (.ref m), some (.int (h_ii (z_io x))), some (.int (h_ii (z_io y))), none, none, none, none, none, none] [] (m_t M m μ) = some (.inl none, m_t M m μ') ∧ m_fT μ μ' ∧ m_W μ' (L ++ [z_jr O bs c v a e (z_li (S 0) x) (z_li (S 1) y)]) := by
  obtain ⟨t0, e0, f0, W0⟩ := m_newLineW (M := M) (m := m) (ad := ad) (d := d + 4) hW
  have h0 := h.fT f0.fT
  have a13 := h0.1.b13 (c := 111) (by omega)
  unfold z_jr
  cases q : O.1 111 with
  | none =>
    rw [q] at a13
    have a13' : t0.A 13 111 = 0 := a13
    obtain ⟨t1, e1, f1, W1⟩ := g_pky (M := M) (m := m) (ad := ad) (d := d) hJ hxy hx hy h0 W0
    have h1 := h0.fT f1
    obtain ⟨t2, e2, f2, W2⟩ := g_po_0 (M := M) (m := m) (ad := ad) (d := d) hJ hx h1 W1
    have h2 := h1.fT f2
    obtain ⟨t3, e3, f3, W3⟩ := g_po_1 (M := M) (m := m) (ad := ad) (d := d) hJ hy h2 W2
    refine ⟨t3, ?_, ((f0.fT.trans f1).trans f2).trans f3, ?_⟩
    · rw [B240_0]
      simp (disch := first | assumption | omega | decide | (simp only [m_I_uI, m_A_uI, m_I_uA, m_A_uA] <;> first | assumption | omega) | fail) only [↓mp_0_b, ↓mp_6_b, ↓mp_13_b, ↓mp_14_b, ↓mp_15_b, ↓mp_16_b, ↓mp_17_b, ↓mp_19_b, ↓mp_20_b, ↓mp_21_b, ↓mp_25_b, ↓mp_26_b, ↓mp_27_b, ↓mp_28_b, ↓mp_31_b, ↓mp_32_b, ↓mp_35_b, ↓mp_36_b, ↓mp_37_b, ↓mp_38_b, ↓mp_39_b, ↓mp_40_b, ↓mp_41_b, ↓mp_42_b, ↓mp_43_b, ↓ml_1_b, ↓ms_1_b, ↓ml_2_b, ↓ms_2_b, ↓ml_3_b, ↓ms_3_b, ↓ml_4_b, ↓ms_4_b, ↓ml_5_b, ↓ms_5_b, ↓ml_6_b, ↓ms_6_b, ↓ml_7_b, ↓ms_7_b, ↓ml_8_b, ↓ms_8_b, ↓ml_9_b, ↓ms_9_b, ↓ml_10_b, ↓ms_10_b, ↓ml_11_b, ↓ms_11_b, ↓ml_13_b, ↓ms_13_b, ↓ml_14_b, ↓ms_14_b, ↓ml_15_b, ↓ms_15_b, ↓ml_16_b, ↓ms_16_b, ↓ml_17_b, ↓ms_17_b, ↓ml_18_b, ↓ms_18_b, ↓ml_19_b, ↓ms_19_b, ↓ml_20_b, ↓ms_20_b, ↓ml_21_b, ↓ms_21_b, ↓ml_22_b, ↓ms_22_b, m_cl, mg_0, mp_0, mr_1, mr_2, mr_3, mr_4, mr_5, mg_6, mp_6, mr_7, mr_8, mr_9, mr_10, mr_11, mr_12, mg_13, mp_13, mg_14, mp_14, mg_15, mp_15, mg_16, mp_16, mg_17, mp_17, mr_18, mg_19, mp_19, mg_20, mp_20, mg_21, mp_21, mr_22, mr_23, mr_24, mg_25, mp_25, mg_26, mp_26, mg_27, mp_27, mg_28, mp_28, mr_29, mr_30, mg_31, mp_31, mg_32, mp_32, mr_33, mr_34, mg_35, mp_35, mg_36, mp_36, mg_37, mp_37, mg_38, mp_38, mg_39, mp_39, mg_40, mp_40, mg_41, mp_41, mg_42, mp_42, mg_43, mp_43, mr_44, mr_45, mr_46, ml_1, ms_1, ml_2, ms_2, ml_3, ms_3, ml_4, ms_4, ml_5, ms_5, ml_6, ms_6, ml_7, ms_7, ml_8, ms_8, ml_9, ms_9, ml_10, ms_10, ml_11, ms_11, ml_13, ms_13, ml_14, ms_14, ml_15, ms_15, ml_16, ms_16, ml_17, ms_17, ml_18, ms_18, ml_19, ms_19, ml_20, ms_20, ml_21, ms_21, ml_22, ms_22, h_nI, Int.cast_ofNat_Int, h_b8, Int.bmod_bmod, h_add, h_sub, h_mul, h_neg, h_zero, h_and255, h_and15, h_and3, h_cltT, h_cltF, h_cgeT, h_cgeF, h_cgtT, h_cgtF, h_cleT, h_cleF, h_ceqT, h_ceqF, h_cneT, h_cneF, m_I_uI, m_A_uI, m_I_uA, m_A_uA, m_t1, ↓reduceIte, Option.bind_some, am_ret0, am_ret1, am_ret2, if_true, if_false, true_and, and_true, false_and, and_false, not_true_eq_false, not_false_eq_true, Nat.reduceEqDiff, Nat.reduceAdd, Nat.reduceSub, Nat.reduceMul, Int.reduceAdd, Int.reduceSub, Int.reduceMul, Int.reduceNeg, Int.reduceToNat, Int.reduceLT, Int.reduceLE, Nat.add_left_cancel_iff, e0, a13', e1, e2, e3]
    · dsimp only
      simp only [List.append_assoc, List.nil_append] at W3 ⊢
      exact W3
  | some z =>
    rw [q] at a13
    have a13' : t0.A 13 111 = 1 := a13
    obtain ⟨a14, a15⟩ := h0.1.2.1 111 z.1 z.2 q (by decide)
    obtain ⟨_, _, i3⟩ := hJ.1 111 z.1 z.2 q
    obtain ⟨i4, i5, i6⟩ := i3 (by decide)
    have h9 := h.2.1.1
    have hsome : (x_prt bs z.2 (z.2 + 1) z.1).isSome = true := by
      have hw : x_want 11 ((111 : Nat) : Int) = 80 := by decide
      unfold z_ok at i6
      rw [if_neg (by omega), if_neg (by omega), if_neg (by omega), if_neg (by omega), if_neg (by omega), if_neg (by omega), if_pos hw] at i6
      exact i6
    cases r : x_prt bs z.2 (z.2 + 1) z.1 with
    | none => rw [r] at hsome; cases hsome
    | some rs =>
      dsimp only
      rw [r]
      dsimp only
      obtain ⟨t1, e1, f1, W1⟩ := g_p55 (M := M) (m := m) (ad := ad) (d := d) (z := z) hJ i5 hxy hx hy (z.2 + 1) z.1 0 rs (μ := t0) (cu := []) (o6 := none) (o7 := none) (o8 := none) r ⟨fun _ => rfl, fun _ => rfl⟩ (Nat.le_refl _) i4 h0 W0
      refine ⟨t1, ?_, f0.fT.trans f1, ?_⟩
      · have a15' : t0.A 15 111 = (z.2 : Int) - z.1 := by rw [a15]; omega
        rw [B240_0]
        simp (disch := first | assumption | omega | decide | (simp only [m_I_uI, m_A_uI, m_I_uA, m_A_uA] <;> first | assumption | omega) | fail) only [↓mp_0_b, ↓mp_6_b, ↓mp_13_b, ↓mp_14_b, ↓mp_15_b, ↓mp_16_b, ↓mp_17_b, ↓mp_19_b, ↓mp_20_b, ↓mp_21_b, ↓mp_25_b, ↓mp_26_b, ↓mp_27_b, ↓mp_28_b, ↓mp_31_b, ↓mp_32_b, ↓mp_35_b, ↓mp_36_b, ↓mp_37_b, ↓mp_38_b, ↓mp_39_b, ↓mp_40_b, ↓mp_41_b, ↓mp_42_b, ↓mp_43_b, ↓ml_1_b, ↓ms_1_b, ↓ml_2_b, ↓ms_2_b, ↓ml_3_b, ↓ms_3_b, ↓ml_4_b, ↓ms_4_b, ↓ml_5_b, ↓ms_5_b, ↓ml_6_b, ↓ms_6_b, ↓ml_7_b, ↓ms_7_b, ↓ml_8_b, ↓ms_8_b, ↓ml_9_b, ↓ms_9_b, ↓ml_10_b, ↓ms_10_b, ↓ml_11_b, ↓ms_11_b, ↓ml_13_b, ↓ms_13_b, ↓ml_14_b, ↓ms_14_b, ↓ml_15_b, ↓ms_15_b, ↓ml_16_b, ↓ms_16_b, ↓ml_17_b, ↓ms_17_b, ↓ml_18_b, ↓ms_18_b, ↓ml_19_b, ↓ms_19_b, ↓ml_20_b, ↓ms_20_b, ↓ml_21_b, ↓ms_21_b, ↓ml_22_b, ↓ms_22_b, m_cl, mg_0, mp_0, mr_1, mr_2, mr_3, mr_4, mr_5, mg_6, mp_6, mr_7, mr_8, mr_9, mr_10, mr_11, mr_12, mg_13, mp_13, mg_14, mp_14, mg_15, mp_15, mg_16, mp_16, mg_17, mp_17, mr_18, mg_19, mp_19, mg_20, mp_20, mg_21, mp_21, mr_22, mr_23, mr_24, mg_25, mp_25, mg_26, mp_26, mg_27, mp_27, mg_28, mp_28, mr_29, mr_30, mg_31, mp_31, mg_32, mp_32, mr_33, mr_34, mg_35, mp_35, mg_36, mp_36, mg_37, mp_37, mg_38, mp_38, mg_39, mp_39, mg_40, mp_40, mg_41, mp_41, mg_42, mp_42, mg_43, mp_43, mr_44, mr_45, mr_46, ml_1, ms_1, ml_2, ms_2, ml_3, ms_3, ml_4, ms_4, ml_5, ms_5, ml_6, ms_6, ml_7, ms_7, ml_8, ms_8, ml_9, ms_9, ml_10, ms_10, ml_11, ms_11, ml_13, ms_13, ml_14, ms_14, ml_15, ms_15, ml_16, ms_16, ml_17, ms_17, ml_18, ms_18, ml_19, ms_19, ml_20, ms_20, ml_21, ms_21, ml_22, ms_22, h_nI, Int.cast_ofNat_Int, h_b8, Int.bmod_bmod, h_add, h_sub, h_mul, h_neg, h_zero, h_and255, h_and15, h_and3, h_cltT, h_cltF, h_cgeT, h_cgeF, h_cgtT, h_cgtF, h_cleT, h_cleF, h_ceqT, h_ceqF, h_cneT, h_cneF, m_I_uI, m_A_uI, m_I_uA, m_A_uA, m_t1, ↓reduceIte, Option.bind_some, am_ret0, am_ret1, am_ret2, if_true, if_false, true_and, and_true, false_and, and_false, not_true_eq_false, not_false_eq_true, Nat.reduceEqDiff, Nat.reduceAdd, Nat.reduceSub, Nat.reduceMul, Int.reduceAdd, Int.reduceSub, Int.reduceMul, Int.reduceNeg, Int.reduceToNat, Int.reduceLT, Int.reduceLE, Nat.add_left_cancel_iff, e0, a13', a14, a15']
        rw [show (z.1 : Int) + ((z.2 : Int) - z.1) = z.2 by omega]
        exact e1
      · rw [List.nil_append] at W1
        exact W1
/-- compareJoin, of sides 0 and 0 -/
theorem g_jc_00 {i j : Nat} (hJ : z_JS O bs c v a e) (h : m_JI μ O bs n X S) (hi : i < (S 0).length) (hj : j < (S 0).length) :
    ∃ (μ' : m_S) (u : Int), am_gg (am_pr ad) (d + 4) 237 0 [some (.ref m), some (.int (h_ii 1)), some (.int (h_ii i)), some (.int (h_ii 1)), some (.int (h_ii j)), none, none, none] [] (m_t M m μ) = some (.inl (some (.int (h_ii u))), m_t M m μ') ∧ m_fk μ μ' ∧ (-255 ≤ u ∧ u ≤ 255) ∧ (u < 0 ↔ x_lex (x_sub ((S 0).getD i []) (z_jK c a e 0 ((S 0).getD i [])).1 (z_jK c a e 0 ((S 0).getD i [])).2) (x_sub ((S 0).getD j []) (z_jK c a e 0 ((S 0).getD j [])).1 (z_jK c a e 0 ((S 0).getD j [])).2) < 0) ∧ (u = 0 ↔ x_lex (x_sub ((S 0).getD i []) (z_jK c a e 0 ((S 0).getD i [])).1 (z_jK c a e 0 ((S 0).getD i [])).2) (x_sub ((S 0).getD j []) (z_jK c a e 0 ((S 0).getD j [])).1 (z_jK c a e 0 ((S 0).getD j [])).2) = 0) := by
  have hn := h.2.2.2
  obtain ⟨x0, hx, hF⟩ := h.2.2.1.2 0 (by omega)
  have k1 := g_ko1 (M := M) (m := m) (ad := ad) (d := d) hJ h
  obtain ⟨t1, e1, f1, p1, p2⟩ := g_jf (M := M) (m := m) (ad := ad) (d := d) (f := a) hJ h.1 h.2.1 hF (show X 0 < 13 by omega) hi hJ.2.2.2.2.2.2.1
  have h1 := h.fT f1.fT
  obtain ⟨x1, hx1, hF1⟩ := h1.2.2.1.2 0 (by omega)
  have k2 := g_ko1 (M := M) (m := m) (ad := ad) (d := d) hJ h1
  obtain ⟨t2, e2, f2, p3, p4⟩ := g_jf (M := M) (m := m) (ad := ad) (d := d) (f := a) hJ h1.1 h1.2.1 hF1 (show X 0 < 13 by omega) hj hJ.2.2.2.2.2.2.1
  have h2 := h1.fT f2.fT
  obtain ⟨y0, _, hG⟩ := h2.2.2.1.2 0 (by omega)
  obtain ⟨y1, _, hG1⟩ := h2.2.2.1.2 0 (by omega)
  have h300 := hF.1.1
  have h300' := hF1.1.1
  have h240 := x_fit_at hF.1 i
  have h240' := x_fit_at hF1.1 j
  obtain ⟨b1, b2⟩ := z_jk_bd (c := c) (n := a) (w := (S 0).getD i [])
  obtain ⟨b3, b4⟩ := z_jk_bd (c := c) (n := a) (w := (S 0).getD j [])
  obtain ⟨u, e3, u1, u2, u3⟩ := g_cmp (M := M) (m := m) (ad := ad) (d := d + 2) hG hG1 (show X 0 < 13 by omega) (show X 0 < 13 by omega) hi hj b2 b4 b1 b3
  refine ⟨t2, u, ?_, f1.trans f2, u1, u2, u3⟩
  rw [B237_0]
  simp (disch := first | assumption | omega | decide | (simp only [m_I_uI, m_A_uI, m_I_uA, m_A_uA] <;> first | assumption | omega) | fail) only [↓mp_0_b, ↓mp_6_b, ↓mp_13_b, ↓mp_14_b, ↓mp_15_b, ↓mp_16_b, ↓mp_17_b, ↓mp_19_b, ↓mp_20_b, ↓mp_21_b, ↓mp_25_b, ↓mp_26_b, ↓mp_27_b, ↓mp_28_b, ↓mp_31_b, ↓mp_32_b, ↓mp_35_b, ↓mp_36_b, ↓mp_37_b, ↓mp_38_b, ↓mp_39_b, ↓mp_40_b, ↓mp_41_b, ↓mp_42_b, ↓mp_43_b, ↓ml_1_b, ↓ms_1_b, ↓ml_2_b, ↓ms_2_b, ↓ml_3_b, ↓ms_3_b, ↓ml_4_b, ↓ms_4_b, ↓ml_5_b, ↓ms_5_b, ↓ml_6_b, ↓ms_6_b, ↓ml_7_b, ↓ms_7_b, ↓ml_8_b, ↓ms_8_b, ↓ml_9_b, ↓ms_9_b, ↓ml_10_b, ↓ms_10_b, ↓ml_11_b, ↓ms_11_b, ↓ml_13_b, ↓ms_13_b, ↓ml_14_b, ↓ms_14_b, ↓ml_15_b, ↓ms_15_b, ↓ml_16_b, ↓ms_16_b, ↓ml_17_b, ↓ms_17_b, ↓ml_18_b, ↓ms_18_b, ↓ml_19_b, ↓ms_19_b, ↓ml_20_b, ↓ms_20_b, ↓ml_21_b, ↓ms_21_b, ↓ml_22_b, ↓ms_22_b, m_cl, mg_0, mp_0, mr_1, mr_2, mr_3, mr_4, mr_5, mg_6, mp_6, mr_7, mr_8, mr_9, mr_10, mr_11, mr_12, mg_13, mp_13, mg_14, mp_14, mg_15, mp_15, mg_16, mp_16, mg_17, mp_17, mr_18, mg_19, mp_19, mg_20, mp_20, mg_21, mp_21, mr_22, mr_23, mr_24, mg_25, mp_25, mg_26, mp_26, mg_27, mp_27, mg_28, mp_28, mr_29, mr_30, mg_31, mp_31, mg_32, mp_32, mr_33, mr_34, mg_35, mp_35, mg_36, mp_36, mg_37, mp_37, mg_38, mp_38, mg_39, mp_39, mg_40, mp_40, mg_41, mp_41, mg_42, mp_42, mg_43, mp_43, mr_44, mr_45, mr_46, ml_1, ms_1, ml_2, ms_2, ml_3, ms_3, ml_4, ms_4, ml_5, ms_5, ml_6, ms_6, ml_7, ms_7, ml_8, ms_8, ml_9, ms_9, ml_10, ms_10, ml_11, ms_11, ml_13, ms_13, ml_14, ms_14, ml_15, ms_15, ml_16, ms_16, ml_17, ms_17, ml_18, ms_18, ml_19, ms_19, ml_20, ms_20, ml_21, ms_21, ml_22, ms_22, h_nI, Int.cast_ofNat_Int, h_b8, Int.bmod_bmod, h_add, h_sub, h_mul, h_neg, h_zero, h_and255, h_and15, h_and3, h_cltT, h_cltF, h_cgeT, h_cgeF, h_cgtT, h_cgtF, h_cleT, h_cleF, h_ceqT, h_ceqF, h_cneT, h_cneF, m_I_uI, m_A_uI, m_I_uA, m_A_uA, m_t1, ↓reduceIte, Option.bind_some, am_ret0, am_ret1, am_ret2, if_true, if_false, true_and, and_true, false_and, and_false, not_true_eq_false, not_false_eq_true, Nat.reduceEqDiff, Nat.reduceAdd, Nat.reduceSub, Nat.reduceMul, Int.reduceAdd, Int.reduceSub, Int.reduceMul, Int.reduceNeg, Int.reduceToNat, Int.reduceLT, Int.reduceLE, Nat.add_left_cancel_iff, x0, k1, e1, p1, p2, x1, k2, e2, y0, y1, p3, p4, e3, h_fit0]
/-- compareJoin, of sides 1 and 1 -/
theorem g_jc_11 {i j : Nat} (hJ : z_JS O bs c v a e) (h : m_JI μ O bs n X S) (hi : i < (S 1).length) (hj : j < (S 1).length) :
    ∃ (μ' : m_S) (u : Int), am_gg (am_pr ad) (d + 4) 237 0 [some (.ref m), some (.int (h_ii 2)), some (.int (h_ii i)), some (.int (h_ii 2)), some (.int (h_ii j)), none, none, none] [] (m_t M m μ) = some (.inl (some (.int (h_ii u))), m_t M m μ') ∧ m_fk μ μ' ∧ (-255 ≤ u ∧ u ≤ 255) ∧ (u < 0 ↔ x_lex (x_sub ((S 1).getD i []) (z_jK c a e 1 ((S 1).getD i [])).1 (z_jK c a e 1 ((S 1).getD i [])).2) (x_sub ((S 1).getD j []) (z_jK c a e 1 ((S 1).getD j [])).1 (z_jK c a e 1 ((S 1).getD j [])).2) < 0) ∧ (u = 0 ↔ x_lex (x_sub ((S 1).getD i []) (z_jK c a e 1 ((S 1).getD i [])).1 (z_jK c a e 1 ((S 1).getD i [])).2) (x_sub ((S 1).getD j []) (z_jK c a e 1 ((S 1).getD j [])).1 (z_jK c a e 1 ((S 1).getD j [])).2) = 0) := by
  have hn := h.2.2.2
  obtain ⟨x0, hx, hF⟩ := h.2.2.1.2 1 (by omega)
  have k1 := g_ko2 (M := M) (m := m) (ad := ad) (d := d) hJ h
  obtain ⟨t1, e1, f1, p1, p2⟩ := g_jf (M := M) (m := m) (ad := ad) (d := d) (f := e) hJ h.1 h.2.1 hF (show X 1 < 13 by omega) hi hJ.2.2.2.2.2.2.2
  have h1 := h.fT f1.fT
  obtain ⟨x1, hx1, hF1⟩ := h1.2.2.1.2 1 (by omega)
  have k2 := g_ko2 (M := M) (m := m) (ad := ad) (d := d) hJ h1
  obtain ⟨t2, e2, f2, p3, p4⟩ := g_jf (M := M) (m := m) (ad := ad) (d := d) (f := e) hJ h1.1 h1.2.1 hF1 (show X 1 < 13 by omega) hj hJ.2.2.2.2.2.2.2
  have h2 := h1.fT f2.fT
  obtain ⟨y0, _, hG⟩ := h2.2.2.1.2 1 (by omega)
  obtain ⟨y1, _, hG1⟩ := h2.2.2.1.2 1 (by omega)
  have h300 := hF.1.1
  have h300' := hF1.1.1
  have h240 := x_fit_at hF.1 i
  have h240' := x_fit_at hF1.1 j
  obtain ⟨b1, b2⟩ := z_jk_bd (c := c) (n := e) (w := (S 1).getD i [])
  obtain ⟨b3, b4⟩ := z_jk_bd (c := c) (n := e) (w := (S 1).getD j [])
  obtain ⟨u, e3, u1, u2, u3⟩ := g_cmp (M := M) (m := m) (ad := ad) (d := d + 2) hG hG1 (show X 1 < 13 by omega) (show X 1 < 13 by omega) hi hj b2 b4 b1 b3
  refine ⟨t2, u, ?_, f1.trans f2, u1, u2, u3⟩
  rw [B237_0]
  simp (disch := first | assumption | omega | decide | (simp only [m_I_uI, m_A_uI, m_I_uA, m_A_uA] <;> first | assumption | omega) | fail) only [↓mp_0_b, ↓mp_6_b, ↓mp_13_b, ↓mp_14_b, ↓mp_15_b, ↓mp_16_b, ↓mp_17_b, ↓mp_19_b, ↓mp_20_b, ↓mp_21_b, ↓mp_25_b, ↓mp_26_b, ↓mp_27_b, ↓mp_28_b, ↓mp_31_b, ↓mp_32_b, ↓mp_35_b, ↓mp_36_b, ↓mp_37_b, ↓mp_38_b, ↓mp_39_b, ↓mp_40_b, ↓mp_41_b, ↓mp_42_b, ↓mp_43_b, ↓ml_1_b, ↓ms_1_b, ↓ml_2_b, ↓ms_2_b, ↓ml_3_b, ↓ms_3_b, ↓ml_4_b, ↓ms_4_b, ↓ml_5_b, ↓ms_5_b, ↓ml_6_b, ↓ms_6_b, ↓ml_7_b, ↓ms_7_b, ↓ml_8_b, ↓ms_8_b, ↓ml_9_b, ↓ms_9_b, ↓ml_10_b, ↓ms_10_b, ↓ml_11_b, ↓ms_11_b, ↓ml_13_b, ↓ms_13_b, ↓ml_14_b, ↓ms_14_b, ↓ml_15_b, ↓ms_15_b, ↓ml_16_b, ↓ms_16_b, ↓ml_17_b, ↓ms_17_b, ↓ml_18_b, ↓ms_18_b, ↓ml_19_b, ↓ms_19_b, ↓ml_20_b, ↓ms_20_b, ↓ml_21_b, ↓ms_21_b, ↓ml_22_b, ↓ms_22_b, m_cl, mg_0, mp_0, mr_1, mr_2, mr_3, mr_4, mr_5, mg_6, mp_6, mr_7, mr_8, mr_9, mr_10, mr_11, mr_12, mg_13, mp_13, mg_14, mp_14, mg_15, mp_15, mg_16, mp_16, mg_17, mp_17, mr_18, mg_19, mp_19, mg_20, mp_20, mg_21, mp_21, mr_22, mr_23, mr_24, mg_25, mp_25, mg_26, mp_26, mg_27, mp_27, mg_28, mp_28, mr_29, mr_30, mg_31, mp_31, mg_32, mp_32, mr_33, mr_34, mg_35, mp_35, mg_36, mp_36, mg_37, mp_37, mg_38, mp_38, mg_39, mp_39, mg_40, mp_40, mg_41, mp_41, mg_42, mp_42, mg_43, mp_43, mr_44, mr_45, mr_46, ml_1, ms_1, ml_2, ms_2, ml_3, ms_3, ml_4, ms_4, ml_5, ms_5, ml_6, ms_6, ml_7, ms_7, ml_8, ms_8, ml_9, ms_9, ml_10, ms_10, ml_11, ms_11, ml_13, ms_13, ml_14, ms_14, ml_15, ms_15, ml_16, ms_16, ml_17, ms_17, ml_18, ms_18, ml_19, ms_19, ml_20, ms_20, ml_21, ms_21, ml_22, ms_22, h_nI, Int.cast_ofNat_Int, h_b8, Int.bmod_bmod, h_add, h_sub, h_mul, h_neg, h_zero, h_and255, h_and15, h_and3, h_cltT, h_cltF, h_cgeT, h_cgeF, h_cgtT, h_cgtF, h_cleT, h_cleF, h_ceqT, h_ceqF, h_cneT, h_cneF, m_I_uI, m_A_uI, m_I_uA, m_A_uA, m_t1, ↓reduceIte, Option.bind_some, am_ret0, am_ret1, am_ret2, if_true, if_false, true_and, and_true, false_and, and_false, not_true_eq_false, not_false_eq_true, Nat.reduceEqDiff, Nat.reduceAdd, Nat.reduceSub, Nat.reduceMul, Int.reduceAdd, Int.reduceSub, Int.reduceMul, Int.reduceNeg, Int.reduceToNat, Int.reduceLT, Int.reduceLE, Nat.add_left_cancel_iff, x0, k1, e1, p1, p2, x1, k2, e2, y0, y1, p3, p4, e3, h_fit0]
/-- compareJoin, of sides 0 and 1 -/
theorem g_jc_01 {i j : Nat} (hJ : z_JS O bs c v a e) (h : m_JI μ O bs n X S) (hi : i < (S 0).length) (hj : j < (S 1).length) :
    ∃ (μ' : m_S) (u : Int), am_gg (am_pr ad) (d + 4) 237 0 [some (.ref m), some (.int (h_ii 1)), some (.int (h_ii i)), some (.int (h_ii 2)), some (.int (h_ii j)), none, none, none] [] (m_t M m μ) = some (.inl (some (.int (h_ii u))), m_t M m μ') ∧ m_fk μ μ' ∧ (-255 ≤ u ∧ u ≤ 255) ∧ (u < 0 ↔ x_lex (x_sub ((S 0).getD i []) (z_jK c a e 0 ((S 0).getD i [])).1 (z_jK c a e 0 ((S 0).getD i [])).2) (x_sub ((S 1).getD j []) (z_jK c a e 1 ((S 1).getD j [])).1 (z_jK c a e 1 ((S 1).getD j [])).2) < 0) ∧ (u = 0 ↔ x_lex (x_sub ((S 0).getD i []) (z_jK c a e 0 ((S 0).getD i [])).1 (z_jK c a e 0 ((S 0).getD i [])).2) (x_sub ((S 1).getD j []) (z_jK c a e 1 ((S 1).getD j [])).1 (z_jK c a e 1 ((S 1).getD j [])).2) = 0) := by
  have hn := h.2.2.2
  obtain ⟨x0, hx, hF⟩ := h.2.2.1.2 0 (by omega)
  have k1 := g_ko1 (M := M) (m := m) (ad := ad) (d := d) hJ h
  obtain ⟨t1, e1, f1, p1, p2⟩ := g_jf (M := M) (m := m) (ad := ad) (d := d) (f := a) hJ h.1 h.2.1 hF (show X 0 < 13 by omega) hi hJ.2.2.2.2.2.2.1
  have h1 := h.fT f1.fT
  obtain ⟨x1, hx1, hF1⟩ := h1.2.2.1.2 1 (by omega)
  have k2 := g_ko2 (M := M) (m := m) (ad := ad) (d := d) hJ h1
  obtain ⟨t2, e2, f2, p3, p4⟩ := g_jf (M := M) (m := m) (ad := ad) (d := d) (f := e) hJ h1.1 h1.2.1 hF1 (show X 1 < 13 by omega) hj hJ.2.2.2.2.2.2.2
  have h2 := h1.fT f2.fT
  obtain ⟨y0, _, hG⟩ := h2.2.2.1.2 0 (by omega)
  obtain ⟨y1, _, hG1⟩ := h2.2.2.1.2 1 (by omega)
  have h300 := hF.1.1
  have h300' := hF1.1.1
  have h240 := x_fit_at hF.1 i
  have h240' := x_fit_at hF1.1 j
  obtain ⟨b1, b2⟩ := z_jk_bd (c := c) (n := a) (w := (S 0).getD i [])
  obtain ⟨b3, b4⟩ := z_jk_bd (c := c) (n := e) (w := (S 1).getD j [])
  obtain ⟨u, e3, u1, u2, u3⟩ := g_cmp (M := M) (m := m) (ad := ad) (d := d + 2) hG hG1 (show X 0 < 13 by omega) (show X 1 < 13 by omega) hi hj b2 b4 b1 b3
  refine ⟨t2, u, ?_, f1.trans f2, u1, u2, u3⟩
  rw [B237_0]
  simp (disch := first | assumption | omega | decide | (simp only [m_I_uI, m_A_uI, m_I_uA, m_A_uA] <;> first | assumption | omega) | fail) only [↓mp_0_b, ↓mp_6_b, ↓mp_13_b, ↓mp_14_b, ↓mp_15_b, ↓mp_16_b, ↓mp_17_b, ↓mp_19_b, ↓mp_20_b, ↓mp_21_b, ↓mp_25_b, ↓mp_26_b, ↓mp_27_b, ↓mp_28_b, ↓mp_31_b, ↓mp_32_b, ↓mp_35_b, ↓mp_36_b, ↓mp_37_b, ↓mp_38_b, ↓mp_39_b, ↓mp_40_b, ↓mp_41_b, ↓mp_42_b, ↓mp_43_b, ↓ml_1_b, ↓ms_1_b, ↓ml_2_b, ↓ms_2_b, ↓ml_3_b, ↓ms_3_b, ↓ml_4_b, ↓ms_4_b, ↓ml_5_b, ↓ms_5_b, ↓ml_6_b, ↓ms_6_b, ↓ml_7_b, ↓ms_7_b, ↓ml_8_b, ↓ms_8_b, ↓ml_9_b, ↓ms_9_b, ↓ml_10_b, ↓ms_10_b, ↓ml_11_b, ↓ms_11_b, ↓ml_13_b, ↓ms_13_b, ↓ml_14_b, ↓ms_14_b, ↓ml_15_b, ↓ms_15_b, ↓ml_16_b, ↓ms_16_b, ↓ml_17_b, ↓ms_17_b, ↓ml_18_b, ↓ms_18_b, ↓ml_19_b, ↓ms_19_b, ↓ml_20_b, ↓ms_20_b, ↓ml_21_b, ↓ms_21_b, ↓ml_22_b, ↓ms_22_b, m_cl, mg_0, mp_0, mr_1, mr_2, mr_3, mr_4, mr_5, mg_6, mp_6, mr_7, mr_8, mr_9, mr_10, mr_11, mr_12, mg_13, mp_13, mg_14, mp_14, mg_15, mp_15, mg_16, mp_16, mg_17, mp_17, mr_18, mg_19, mp_19, mg_20, mp_20, mg_21, mp_21, mr_22, mr_23, mr_24, mg_25, mp_25, mg_26, mp_26, mg_27, mp_27, mg_28, mp_28, mr_29, mr_30, mg_31, mp_31, mg_32, mp_32, mr_33, mr_34, mg_35, mp_35, mg_36, mp_36, mg_37, mp_37, mg_38, mp_38, mg_39, mp_39, mg_40, mp_40, mg_41, mp_41, mg_42, mp_42, mg_43, mp_43, mr_44, mr_45, mr_46, ml_1, ms_1, ml_2, ms_2, ml_3, ms_3, ml_4, ms_4, ml_5, ms_5, ml_6, ms_6, ml_7, ms_7, ml_8, ms_8, ml_9, ms_9, ml_10, ms_10, ml_11, ms_11, ml_13, ms_13, ml_14, ms_14, ml_15, ms_15, ml_16, ms_16, ml_17, ms_17, ml_18, ms_18, ml_19, ms_19, ml_20, ms_20, ml_21, ms_21, ml_22, ms_22, h_nI, Int.cast_ofNat_Int, h_b8, Int.bmod_bmod, h_add, h_sub, h_mul, h_neg, h_zero, h_and255, h_and15, h_and3, h_cltT, h_cltF, h_cgeT, h_cgeF, h_cgtT, h_cgtF, h_cleT, h_cleF, h_ceqT, h_ceqF, h_cneT, h_cneF, m_I_uI, m_A_uI, m_I_uA, m_A_uA, m_t1, ↓reduceIte, Option.bind_some, am_ret0, am_ret1, am_ret2, if_true, if_false, true_and, and_true, false_and, and_false, not_true_eq_false, not_false_eq_true, Nat.reduceEqDiff, Nat.reduceAdd, Nat.reduceSub, Nat.reduceMul, Int.reduceAdd, Int.reduceSub, Int.reduceMul, Int.reduceNeg, Int.reduceToNat, Int.reduceLT, Int.reduceLE, Nat.add_left_cancel_iff, x0, k1, e1, p1, p2, x1, k2, e2, y0, y1, p3, p4, e3, h_fit0]
end MV
