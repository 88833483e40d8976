/-! LINES OF THE REFERENCE -/
section ML
variable {M : am_M} {m : Nat} {μ : m_S} {ad : Nat → Nat} {d : Nat}
theorem m_byteOf {x l i : Int} (h0 : 0 ≤ 240 * (300 * x + l) + i) (h1 : 240 * (300 * x + l) + i < 936000) :
    am_gg (am_pr ad) d 206 0 [some (.ref m), some (.int (h_ii x)), some (.int (h_ii l)), some (.int (h_ii i))] [] (m_t M m μ) = some (.inl (some (.int (h_ii (μ.A 1 (240 * (300 * x + l) + i).toNat % 256)))), m_t M m μ) := by
  rw [B206_0]
  simp (disch := first | assumption | omega | decide | (simp only [m_I_uI, m_A_uI, m_I_uA, m_A_uA] <;> first | assumption | omega) | fail) only [↓mp_0_b, ↓mp_6_b, ↓mp_13_b, ↓mp_14_b, ↓mp_15_b, ↓mp_16_b, ↓mp_17_b, ↓mp_19_b, ↓mp_20_b, ↓mp_21_b, ↓mp_25_b, ↓mp_26_b, ↓mp_27_b, ↓mp_28_b, ↓mp_31_b, ↓mp_32_b, ↓mp_35_b, ↓mp_36_b, ↓mp_37_b, ↓mp_38_b, ↓mp_39_b, ↓mp_40_b, ↓mp_41_b, ↓mp_42_b, ↓mp_43_b, ↓ml_1_b, ↓ms_1_b, ↓ml_2_b, ↓ms_2_b, ↓ml_3_b, ↓ms_3_b, ↓ml_4_b, ↓ms_4_b, ↓ml_5_b, ↓ms_5_b, ↓ml_6_b, ↓ms_6_b, ↓ml_7_b, ↓ms_7_b, ↓ml_8_b, ↓ms_8_b, ↓ml_9_b, ↓ms_9_b, ↓ml_10_b, ↓ms_10_b, ↓ml_11_b, ↓ms_11_b, ↓ml_13_b, ↓ms_13_b, ↓ml_14_b, ↓ms_14_b, ↓ml_15_b, ↓ms_15_b, ↓ml_16_b, ↓ms_16_b, ↓ml_17_b, ↓ms_17_b, ↓ml_18_b, ↓ms_18_b, ↓ml_19_b, ↓ms_19_b, ↓ml_20_b, ↓ms_20_b, ↓ml_21_b, ↓ms_21_b, ↓ml_22_b, ↓ms_22_b, m_cl, mg_0, mp_0, mr_1, mr_2, mr_3, mr_4, mr_5, mg_6, mp_6, mr_7, mr_8, mr_9, mr_10, mr_11, mr_12, mg_13, mp_13, mg_14, mp_14, mg_15, mp_15, mg_16, mp_16, mg_17, mp_17, mr_18, mg_19, mp_19, mg_20, mp_20, mg_21, mp_21, mr_22, mr_23, mr_24, mg_25, mp_25, mg_26, mp_26, mg_27, mp_27, mg_28, mp_28, mr_29, mr_30, mg_31, mp_31, mg_32, mp_32, mr_33, mr_34, mg_35, mp_35, mg_36, mp_36, mg_37, mp_37, mg_38, mp_38, mg_39, mp_39, mg_40, mp_40, mg_41, mp_41, mg_42, mp_42, mg_43, mp_43, mr_44, mr_45, mr_46, ml_1, ms_1, ml_2, ms_2, ml_3, ms_3, ml_4, ms_4, ml_5, ms_5, ml_6, ms_6, ml_7, ms_7, ml_8, ms_8, ml_9, ms_9, ml_10, ms_10, ml_11, ms_11, ml_13, ms_13, ml_14, ms_14, ml_15, ms_15, ml_16, ms_16, ml_17, ms_17, ml_18, ms_18, ml_19, ms_19, ml_20, ms_20, ml_21, ms_21, ml_22, ms_22, h_nI, Int.cast_ofNat_Int, h_b8, Int.bmod_bmod, h_add, h_sub, h_mul, h_neg, h_zero, h_and255, h_and15, h_and3, h_cltT, h_cltF, h_cgeT, h_cgeF, h_cgtT, h_cgtF, h_cleT, h_cleF, h_ceqT, h_ceqF, h_cneT, h_cneF, m_I_uI, m_A_uI, m_I_uA, m_A_uA, m_t1, ↓reduceIte, Option.bind_some, am_ret0, am_ret1, am_ret2, if_true, if_false, true_and, and_true, false_and, and_false, not_true_eq_false, not_false_eq_true, Nat.reduceEqDiff, Nat.reduceAdd, Nat.reduceSub, Nat.reduceMul, Int.reduceAdd, Int.reduceSub, Int.reduceMul, Int.reduceNeg, Int.reduceToNat, Int.reduceLT, Int.reduceLE, Nat.add_left_cancel_iff, h_fit0]
theorem m_lengthOf {x l : Int} (h0 : 0 ≤ 300 * x + l) (h1 : 300 * x + l < 3900) :
    am_gg (am_pr ad) d 204 0 [some (.ref m), some (.int (h_ii x)), some (.int (h_ii l))] [] (m_t M m μ) = some (.inl (some (.int (h_ii (μ.A 2 (300 * x + l).toNat)))), m_t M m μ) := by
  rw [B204_0]
  simp (disch := first | assumption | omega | decide | (simp only [m_I_uI, m_A_uI, m_I_uA, m_A_uA] <;> first | assumption | omega) | fail) only [↓mp_0_b, ↓mp_6_b, ↓mp_13_b, ↓mp_14_b, ↓mp_15_b, ↓mp_16_b, ↓mp_17_b, ↓mp_19_b, ↓mp_20_b, ↓mp_21_b, ↓mp_25_b, ↓mp_26_b, ↓mp_27_b, ↓mp_28_b, ↓mp_31_b, ↓mp_32_b, ↓mp_35_b, ↓mp_36_b, ↓mp_37_b, ↓mp_38_b, ↓mp_39_b, ↓mp_40_b, ↓mp_41_b, ↓mp_42_b, ↓mp_43_b, ↓ml_1_b, ↓ms_1_b, ↓ml_2_b, ↓ms_2_b, ↓ml_3_b, ↓ms_3_b, ↓ml_4_b, ↓ms_4_b, ↓ml_5_b, ↓ms_5_b, ↓ml_6_b, ↓ms_6_b, ↓ml_7_b, ↓ms_7_b, ↓ml_8_b, ↓ms_8_b, ↓ml_9_b, ↓ms_9_b, ↓ml_10_b, ↓ms_10_b, ↓ml_11_b, ↓ms_11_b, ↓ml_13_b, ↓ms_13_b, ↓ml_14_b, ↓ms_14_b, ↓ml_15_b, ↓ms_15_b, ↓ml_16_b, ↓ms_16_b, ↓ml_17_b, ↓ms_17_b, ↓ml_18_b, ↓ms_18_b, ↓ml_19_b, ↓ms_19_b, ↓ml_20_b, ↓ms_20_b, ↓ml_21_b, ↓ms_21_b, ↓ml_22_b, ↓ms_22_b, m_cl, mg_0, mp_0, mr_1, mr_2, mr_3, mr_4, mr_5, mg_6, mp_6, mr_7, mr_8, mr_9, mr_10, mr_11, mr_12, mg_13, mp_13, mg_14, mp_14, mg_15, mp_15, mg_16, mp_16, mg_17, mp_17, mr_18, mg_19, mp_19, mg_20, mp_20, mg_21, mp_21, mr_22, mr_23, mr_24, mg_25, mp_25, mg_26, mp_26, mg_27, mp_27, mg_28, mp_28, mr_29, mr_30, mg_31, mp_31, mg_32, mp_32, mr_33, mr_34, mg_35, mp_35, mg_36, mp_36, mg_37, mp_37, mg_38, mp_38, mg_39, mp_39, mg_40, mp_40, mg_41, mp_41, mg_42, mp_42, mg_43, mp_43, mr_44, mr_45, mr_46, ml_1, ms_1, ml_2, ms_2, ml_3, ms_3, ml_4, ms_4, ml_5, ms_5, ml_6, ms_6, ml_7, ms_7, ml_8, ms_8, ml_9, ms_9, ml_10, ms_10, ml_11, ms_11, ml_13, ms_13, ml_14, ms_14, ml_15, ms_15, ml_16, ms_16, ml_17, ms_17, ml_18, ms_18, ml_19, ms_19, ml_20, ms_20, ml_21, ms_21, ml_22, ms_22, h_nI, Int.cast_ofNat_Int, h_b8, Int.bmod_bmod, h_add, h_sub, h_mul, h_neg, h_zero, h_and255, h_and15, h_and3, h_cltT, h_cltF, h_cgeT, h_cgeF, h_cgtT, h_cgtF, h_cleT, h_cleF, h_ceqT, h_ceqF, h_cneT, h_cneF, m_I_uI, m_A_uI, m_I_uA, m_A_uA, m_t1, ↓reduceIte, Option.bind_some, am_ret0, am_ret1, am_ret2, if_true, if_false, true_and, and_true, false_and, and_false, not_true_eq_false, not_false_eq_true, Nat.reduceEqDiff, Nat.reduceAdd, Nat.reduceSub, Nat.reduceMul, Int.reduceAdd, Int.reduceSub, Int.reduceMul, Int.reduceNeg, Int.reduceToNat, Int.reduceLT, Int.reduceLE, Nat.add_left_cancel_iff, h_fit0]
theorem m_clear {x : Int} (h0 : 0 ≤ x) (h1 : x < 13) :
    am_gg (am_pr ad) d 30 0 [some (.ref m), some (.int (h_ii x))] [] (m_t M m μ) = some (.inl none, m_t M m (m_uA μ 3 x.toNat 0)) := by
  rw [B30_0]
  simp (disch := first | assumption | omega | decide | (simp only [m_I_uI, m_A_uI, m_I_uA, m_A_uA] <;> first | assumption | omega) | fail) only [↓mp_0_b, ↓mp_6_b, ↓mp_13_b, ↓mp_14_b, ↓mp_15_b, ↓mp_16_b, ↓mp_17_b, ↓mp_19_b, ↓mp_20_b, ↓mp_21_b, ↓mp_25_b, ↓mp_26_b, ↓mp_27_b, ↓mp_28_b, ↓mp_31_b, ↓mp_32_b, ↓mp_35_b, ↓mp_36_b, ↓mp_37_b, ↓mp_38_b, ↓mp_39_b, ↓mp_40_b, ↓mp_41_b, ↓mp_42_b, ↓mp_43_b, ↓ml_1_b, ↓ms_1_b, ↓ml_2_b, ↓ms_2_b, ↓ml_3_b, ↓ms_3_b, ↓ml_4_b, ↓ms_4_b, ↓ml_5_b, ↓ms_5_b, ↓ml_6_b, ↓ms_6_b, ↓ml_7_b, ↓ms_7_b, ↓ml_8_b, ↓ms_8_b, ↓ml_9_b, ↓ms_9_b, ↓ml_10_b, ↓ms_10_b, ↓ml_11_b, ↓ms_11_b, ↓ml_13_b, ↓ms_13_b, ↓ml_14_b, ↓ms_14_b, ↓ml_15_b, ↓ms_15_b, ↓ml_16_b, ↓ms_16_b, ↓ml_17_b, ↓ms_17_b, ↓ml_18_b, ↓ms_18_b, ↓ml_19_b, ↓ms_19_b, ↓ml_20_b, ↓ms_20_b, ↓ml_21_b, ↓ms_21_b, ↓ml_22_b, ↓ms_22_b, m_cl, mg_0, mp_0, mr_1, mr_2, mr_3, mr_4, mr_5, mg_6, mp_6, mr_7, mr_8, mr_9, mr_10, mr_11, mr_12, mg_13, mp_13, mg_14, mp_14, mg_15, mp_15, mg_16, mp_16, mg_17, mp_17, mr_18, mg_19, mp_19, mg_20, mp_20, mg_21, mp_21, mr_22, mr_23, mr_24, mg_25, mp_25, mg_26, mp_26, mg_27, mp_27, mg_28, mp_28, mr_29, mr_30, mg_31, mp_31, mg_32, mp_32, mr_33, mr_34, mg_35, mp_35, mg_36, mp_36, mg_37, mp_37, mg_38, mp_38, mg_39, mp_39, mg_40, mp_40, mg_41, mp_41, mg_42, mp_42, mg_43, mp_43, mr_44, mr_45, mr_46, ml_1, ms_1, ml_2, ms_2, ml_3, ms_3, ml_4, ms_4, ml_5, ms_5, ml_6, ms_6, ml_7, ms_7, ml_8, ms_8, ml_9, ms_9, ml_10, ms_10, ml_11, ms_11, ml_13, ms_13, ml_14, ms_14, ml_15, ms_15, ml_16, ms_16, ml_17, ms_17, ml_18, ms_18, ml_19, ms_19, ml_20, ms_20, ml_21, ms_21, ml_22, ms_22, h_nI, Int.cast_ofNat_Int, h_b8, Int.bmod_bmod, h_add, h_sub, h_mul, h_neg, h_zero, h_and255, h_and15, h_and3, h_cltT, h_cltF, h_cgeT, h_cgeF, h_cgtT, h_cgtF, h_cleT, h_cleF, h_ceqT, h_ceqF, h_cneT, h_cneF, m_I_uI, m_A_uI, m_I_uA, m_A_uA, m_t1, ↓reduceIte, Option.bind_some, am_ret0, am_ret1, am_ret2, if_true, if_false, true_and, and_true, false_and, and_false, not_true_eq_false, not_false_eq_true, Nat.reduceEqDiff, Nat.reduceAdd, Nat.reduceSub, Nat.reduceMul, Int.reduceAdd, Int.reduceSub, Int.reduceMul, Int.reduceNeg, Int.reduceToNat, Int.reduceLT, Int.reduceLE, Nat.add_left_cancel_iff]
/-- slot x holds L -/
def m_F (μ : m_S) (x : Nat) (L : List (List Int)) : Prop := x_fit L ∧ x_ok L ∧ μ.A 3 x = L.length ∧ (∀ l, l < L.length → μ.A 2 (300 * x + l) = (L.getD l []).length) ∧ (∀ l i, l < L.length → i < (L.getD l []).length → μ.A 1 (240 * (300 * x + l) + i) = Int.bmod ((L.getD l []).getD i 0) 256)
/-- what is to be given so far is L, its last line is open -/
def m_W (μ : m_S) (L : List (List Int)) : Prop := (0 ≤ μ.A 3 12 ∧ μ.A 3 12 ≤ 300) ∧ (L ≠ [] → 1 ≤ μ.A 3 12) ∧ (∀ l : Nat, l < 300 → 0 ≤ μ.A 2 (3600 + l) ∧ μ.A 2 (3600 + l) ≤ 240) ∧ (x_fit L → μ.I 32 = 0 ∧ m_F μ 12 L) ∧ (¬ x_fit L → μ.I 32 = 1) ∧ x_ok L
/-- only what is being given may have changed -/
def m_fr (μ μ' : m_S) : Prop := (∀ k, k ≠ 32 → μ'.I k = μ.I k) ∧ (∀ k i, k ≠ 1 → k ≠ 2 → k ≠ 3 → μ'.A k i = μ.A k i) ∧ (∀ i, i < 864000 → μ'.A 1 i = μ.A 1 i) ∧ (∀ i, i < 3600 → μ'.A 2 i = μ.A 2 i) ∧ (∀ i, i ≠ 12 → μ'.A 3 i = μ.A 3 i)
theorem m_fr.refl (μ : m_S) : m_fr μ μ := ⟨fun _ _ => rfl, fun _ _ _ _ _ => rfl, fun _ _ => rfl, fun _ _ => rfl, fun _ _ => rfl⟩
theorem m_fr.trans {μ μ' μ'' : m_S} (h : m_fr μ μ') (h2 : m_fr μ' μ'') : m_fr μ μ'' := by
  obtain ⟨a1, a2, a3, a4, a5⟩ := h
  obtain ⟨b1, b2, b3, b4, b5⟩ := h2
  exact ⟨fun k hk => (b1 k hk).trans (a1 k hk), fun k i h1 h2 h3 => (b2 k i h1 h2 h3).trans (a2 k i h1 h2 h3), fun i hi => (b3 i hi).trans (a3 i hi), fun i hi => (b4 i hi).trans (a4 i hi), fun i hi => (b5 i hi).trans (a5 i hi)⟩
theorem m_fr.u32 {v : Int} (μ : m_S) : m_fr μ (m_uI μ 32 v) := by
  refine ⟨fun k hk => ?_, fun _ _ _ _ _ => rfl, fun _ _ => rfl, fun _ _ => rfl, fun _ _ => rfl⟩
  rw [m_I_uI, if_neg hk]
theorem m_fr.u1 {i : Nat} {v : Int} (μ : m_S) (hi : 864000 ≤ i) : m_fr μ (m_uA μ 1 i v) := by
  refine ⟨fun _ _ => rfl, fun k j h1 _ _ => ?_, fun j hj => ?_, fun j _ => ?_, fun j _ => ?_⟩ <;> rw [m_A_uA, if_neg (by omega)]
theorem m_fr.u2 {i : Nat} {v : Int} (μ : m_S) (hi : 3600 ≤ i) : m_fr μ (m_uA μ 2 i v) := by
  refine ⟨fun _ _ => rfl, fun k j _ h1 _ => ?_, fun j hj => ?_, fun j _ => ?_, fun j _ => ?_⟩ <;> rw [m_A_uA, if_neg (by omega)]
theorem m_fr.u3 {v : Int} (μ : m_S) : m_fr μ (m_uA μ 3 12 v) := by
  refine ⟨fun _ _ => rfl, fun k j _ _ h1 => ?_, fun j hj => ?_, fun j _ => ?_, fun j _ => ?_⟩ <;> rw [m_A_uA, if_neg (by omega)]
theorem m_F.fr {μ' : m_S} {x : Nat} {L : List (List Int)} (h : m_F μ x L) (hf : m_fr μ μ') (hx : x < 12) : m_F μ' x L := by
  obtain ⟨a1, a2, a3, a4, a5⟩ := hf
  obtain ⟨h1, h2, h3, h4, h5⟩ := h
  have h9 := h1.1
  refine ⟨h1, h2, ?_, ?_, ?_⟩
  · rw [a5 x (by omega)]; exact h3
  · intro l hl; rw [a4 _ (by omega)]; exact h4 l hl
  · intro l i hl hi
    have := x_fit_at h1 l
    rw [a3 _ (by omega)]; exact h5 l i hl hi
theorem m_newLineW {L : List (List Int)} (hW : m_W μ L) :
    ∃ μ', am_gg (am_pr ad) d 31 0 [some (.ref m)] [] (m_t M m μ) = some (.inl none, m_t M m μ') ∧ m_fr μ μ' ∧ m_W μ' (L ++ [[]]) := by
  obtain ⟨h1, h2, h3, h4, h5, h6⟩ := hW
  have hok : x_ok (L ++ [[]]) := x_ok_app h6 (fun x hx => absurd hx (by simp))
  by_cases q : μ.A 3 12 = 300
  · refine ⟨m_uI μ 32 1, ?_, m_fr.u32 μ, ?_, ?_, ?_, ?_, ?_, hok⟩
    · rw [B31_0]
      simp (disch := first | assumption | omega | decide | (simp only [m_I_uI, m_A_uI, m_I_uA, m_A_uA] <;> first | assumption | omega) | fail) only [↓mp_0_b, ↓mp_6_b, ↓mp_13_b, ↓mp_14_b, ↓mp_15_b, ↓mp_16_b, ↓mp_17_b, ↓mp_19_b, ↓mp_20_b, ↓mp_21_b, ↓mp_25_b, ↓mp_26_b, ↓mp_27_b, ↓mp_28_b, ↓mp_31_b, ↓mp_32_b, ↓mp_35_b, ↓mp_36_b, ↓mp_37_b, ↓mp_38_b, ↓mp_39_b, ↓mp_40_b, ↓mp_41_b, ↓mp_42_b, ↓mp_43_b, ↓ml_1_b, ↓ms_1_b, ↓ml_2_b, ↓ms_2_b, ↓ml_3_b, ↓ms_3_b, ↓ml_4_b, ↓ms_4_b, ↓ml_5_b, ↓ms_5_b, ↓ml_6_b, ↓ms_6_b, ↓ml_7_b, ↓ms_7_b, ↓ml_8_b, ↓ms_8_b, ↓ml_9_b, ↓ms_9_b, ↓ml_10_b, ↓ms_10_b, ↓ml_11_b, ↓ms_11_b, ↓ml_13_b, ↓ms_13_b, ↓ml_14_b, ↓ms_14_b, ↓ml_15_b, ↓ms_15_b, ↓ml_16_b, ↓ms_16_b, ↓ml_17_b, ↓ms_17_b, ↓ml_18_b, ↓ms_18_b, ↓ml_19_b, ↓ms_19_b, ↓ml_20_b, ↓ms_20_b, ↓ml_21_b, ↓ms_21_b, ↓ml_22_b, ↓ms_22_b, m_cl, mg_0, mp_0, mr_1, mr_2, mr_3, mr_4, mr_5, mg_6, mp_6, mr_7, mr_8, mr_9, mr_10, mr_11, mr_12, mg_13, mp_13, mg_14, mp_14, mg_15, mp_15, mg_16, mp_16, mg_17, mp_17, mr_18, mg_19, mp_19, mg_20, mp_20, mg_21, mp_21, mr_22, mr_23, mr_24, mg_25, mp_25, mg_26, mp_26, mg_27, mp_27, mg_28, mp_28, mr_29, mr_30, mg_31, mp_31, mg_32, mp_32, mr_33, mr_34, mg_35, mp_35, mg_36, mp_36, mg_37, mp_37, mg_38, mp_38, mg_39, mp_39, mg_40, mp_40, mg_41, mp_41, mg_42, mp_42, mg_43, mp_43, mr_44, mr_45, mr_46, ml_1, ms_1, ml_2, ms_2, ml_3, ms_3, ml_4, ms_4, ml_5, ms_5, ml_6, ms_6, ml_7, ms_7, ml_8, ms_8, ml_9, ms_9, ml_10, ms_10, ml_11, ms_11, ml_13, ms_13, ml_14, ms_14, ml_15, ms_15, ml_16, ms_16, ml_17, ms_17, ml_18, ms_18, ml_19, ms_19, ml_20, ms_20, ml_21, ms_21, ml_22, ms_22, h_nI, Int.cast_ofNat_Int, h_b8, Int.bmod_bmod, h_add, h_sub, h_mul, h_neg, h_zero, h_and255, h_and15, h_and3, h_cltT, h_cltF, h_cgeT, h_cgeF, h_cgtT, h_cgtF, h_cleT, h_cleF, h_ceqT, h_ceqF, h_cneT, h_cneF, m_I_uI, m_A_uI, m_I_uA, m_A_uA, m_t1, ↓reduceIte, Option.bind_some, am_ret0, am_ret1, am_ret2, if_true, if_false, true_and, and_true, false_and, and_false, not_true_eq_false, not_false_eq_true, Nat.reduceEqDiff, Nat.reduceAdd, Nat.reduceSub, Nat.reduceMul, Int.reduceAdd, Int.reduceSub, Int.reduceMul, Int.reduceNeg, Int.reduceToNat, Int.reduceLT, Int.reduceLE, Nat.add_left_cancel_iff, B31_49]
    · exact h1
    · intro _; rw [m_A_uI]; omega
    · exact h3
    · intro w
      obtain ⟨w1, w2, w3⟩ := x_fit_app.mp w
      have := (h4 ⟨by omega, w2⟩).2.2.2.1
      omega
    · intro _; rfl
  · refine ⟨m_uA (m_uA μ 2 (3600 + μ.A 3 12).toNat 0) 3 12 (μ.A 3 12 + 1), ?_, (m_fr.u2 μ (by omega)).trans (m_fr.u3 _), ?_, ?_, ?_, ?_, ?_, hok⟩
    · rw [B31_0]
      simp (disch := first | assumption | omega | decide | (simp only [m_I_uI, m_A_uI, m_I_uA, m_A_uA] <;> first | assumption | omega) | fail) only [↓mp_0_b, ↓mp_6_b, ↓mp_13_b, ↓mp_14_b, ↓mp_15_b, ↓mp_16_b, ↓mp_17_b, ↓mp_19_b, ↓mp_20_b, ↓mp_21_b, ↓mp_25_b, ↓mp_26_b, ↓mp_27_b, ↓mp_28_b, ↓mp_31_b, ↓mp_32_b, ↓mp_35_b, ↓mp_36_b, ↓mp_37_b, ↓mp_38_b, ↓mp_39_b, ↓mp_40_b, ↓mp_41_b, ↓mp_42_b, ↓mp_43_b, ↓ml_1_b, ↓ms_1_b, ↓ml_2_b, ↓ms_2_b, ↓ml_3_b, ↓ms_3_b, ↓ml_4_b, ↓ms_4_b, ↓ml_5_b, ↓ms_5_b, ↓ml_6_b, ↓ms_6_b, ↓ml_7_b, ↓ms_7_b, ↓ml_8_b, ↓ms_8_b, ↓ml_9_b, ↓ms_9_b, ↓ml_10_b, ↓ms_10_b, ↓ml_11_b, ↓ms_11_b, ↓ml_13_b, ↓ms_13_b, ↓ml_14_b, ↓ms_14_b, ↓ml_15_b, ↓ms_15_b, ↓ml_16_b, ↓ms_16_b, ↓ml_17_b, ↓ms_17_b, ↓ml_18_b, ↓ms_18_b, ↓ml_19_b, ↓ms_19_b, ↓ml_20_b, ↓ms_20_b, ↓ml_21_b, ↓ms_21_b, ↓ml_22_b, ↓ms_22_b, m_cl, mg_0, mp_0, mr_1, mr_2, mr_3, mr_4, mr_5, mg_6, mp_6, mr_7, mr_8, mr_9, mr_10, mr_11, mr_12, mg_13, mp_13, mg_14, mp_14, mg_15, mp_15, mg_16, mp_16, mg_17, mp_17, mr_18, mg_19, mp_19, mg_20, mp_20, mg_21, mp_21, mr_22, mr_23, mr_24, mg_25, mp_25, mg_26, mp_26, mg_27, mp_27, mg_28, mp_28, mr_29, mr_30, mg_31, mp_31, mg_32, mp_32, mr_33, mr_34, mg_35, mp_35, mg_36, mp_36, mg_37, mp_37, mg_38, mp_38, mg_39, mp_39, mg_40, mp_40, mg_41, mp_41, mg_42, mp_42, mg_43, mp_43, mr_44, mr_45, mr_46, ml_1, ms_1, ml_2, ms_2, ml_3, ms_3, ml_4, ms_4, ml_5, ms_5, ml_6, ms_6, ml_7, ms_7, ml_8, ms_8, ml_9, ms_9, ml_10, ms_10, ml_11, ms_11, ml_13, ms_13, ml_14, ms_14, ml_15, ms_15, ml_16, ms_16, ml_17, ms_17, ml_18, ms_18, ml_19, ms_19, ml_20, ms_20, ml_21, ms_21, ml_22, ms_22, h_nI, Int.cast_ofNat_Int, h_b8, Int.bmod_bmod, h_add, h_sub, h_mul, h_neg, h_zero, h_and255, h_and15, h_and3, h_cltT, h_cltF, h_cgeT, h_cgeF, h_cgtT, h_cgtF, h_cleT, h_cleF, h_ceqT, h_ceqF, h_cneT, h_cneF, m_I_uI, m_A_uI, m_I_uA, m_A_uA, m_t1, ↓reduceIte, Option.bind_some, am_ret0, am_ret1, am_ret2, if_true, if_false, true_and, and_true, false_and, and_false, not_true_eq_false, not_false_eq_true, Nat.reduceEqDiff, Nat.reduceAdd, Nat.reduceSub, Nat.reduceMul, Int.reduceAdd, Int.reduceSub, Int.reduceMul, Int.reduceNeg, Int.reduceToNat, Int.reduceLT, Int.reduceLE, Nat.add_left_cancel_iff, B31_49]
    · simp only [m_I_uI, m_A_uI, m_I_uA, m_A_uA]; simp; omega
    · intro _; simp only [m_I_uI, m_A_uI, m_I_uA, m_A_uA]; simp; omega
    · intro l hl
      simp only [m_I_uI, m_A_uI, m_I_uA, m_A_uA]
      simp
      split
      · omega
      · exact h3 l hl
    · intro w
      obtain ⟨w1, w2, w3⟩ := x_fit_app.mp w
      obtain ⟨e0, e1, e2, e3, e4, e5⟩ := h4 ⟨by omega, w2⟩
      refine ⟨?_, w, hok, ?_, ?_, ?_⟩
      · simp only [m_I_uI, m_A_uI, m_I_uA, m_A_uA]; exact e0
      · simp only [m_I_uI, m_A_uI, m_I_uA, m_A_uA]; simp; omega
      · intro l hl
        simp only [m_I_uI, m_A_uI, m_I_uA, m_A_uA]
        simp at hl
        by_cases q2 : l = L.length
        · subst q2
          rw [if_neg (by omega), if_pos ⟨trivial, by omega⟩, x_getD_mid]
          rfl
        · rw [if_neg (by omega), if_neg (by omega), x_getD_left (by omega)]
          exact e4 l (by omega)
      · intro l i hl hi
        simp at hl
        by_cases q2 : l = L.length
        · subst q2
          rw [x_getD_mid] at hi
          exact absurd hi (by simp)
        · simp only [m_I_uI, m_A_uI, m_I_uA, m_A_uA]
          rw [x_getD_left (by omega)] at hi ⊢
          rw [if_neg (by omega), if_neg (by omega)]
          exact e5 l i (by omega) hi
    · intro w
      simp only [m_I_uI, m_A_uI, m_I_uA, m_A_uA]
      by_cases w2 : x_fit L
      · exfalso
        obtain ⟨e0, e1, e2, e3, e4, e5⟩ := h4 w2
        exact w (x_fit_app.mpr ⟨by omega, w2.2, by simp⟩)
      · exact h5 w2
theorem m_putW {L : List (List Int)} {c : List Int} {v : Int} (hW : m_W μ (L ++ [c])) :
    ∃ μ', am_gg (am_pr ad) d 32 0 [some (.ref m), some (.int (h_ii v)), none] [] (m_t M m μ) = some (.inl none, m_t M m μ') ∧ m_fr μ μ' ∧ m_W μ' (L ++ [c ++ [v % 256]]) := by
  obtain ⟨h1, h2, h3, h4, h5, h6⟩ := hW
  have h2' := h2 (by simp)
  have hk : ∃ k : Nat, μ.A 3 12 = k + 1 ∧ k < 300 := ⟨(μ.A 3 12).toNat - 1, by omega, by omega⟩
  obtain ⟨k, hk, hk3⟩ := hk
  have h3k := h3 k hk3
  have hok : x_ok (L ++ [c ++ [v % 256]]) := x_ok_app (fun l hl => h6 l (List.mem_append_left _ hl)) (x_okl_one (h6 c (by simp)))
  have hI : μ.I 32 = 0 ∨ μ.I 32 = 1 := by
    by_cases w : x_fit (L ++ [c])
    · exact .inl (h4 w).1
    · exact .inr (h5 w)
  have e1 : (3600 + μ.A 3 12 - 1 : Int) = ((3600 + k : Nat) : Int) := by omega
  have fitL : ∀ {w}, x_fit (L ++ [c ++ [w]]) → x_fit (L ++ [c]) := by
    intro w hw
    obtain ⟨a, b, c'⟩ := x_fit_app.mp hw
    exact x_fit_app.mpr ⟨a, b, by simp at c'; omega⟩
  by_cases q : μ.A 2 (3600 + k) = 240
  · refine ⟨m_uI μ 32 1, ?_, m_fr.u32 μ, h1, fun _ => h2', h3, ?_, fun _ => rfl, hok⟩
    · rw [B32_0]
      simp (disch := first | assumption | omega | decide | (simp only [m_I_uI, m_A_uI, m_I_uA, m_A_uA] <;> first | assumption | omega) | fail) only [↓mp_0_b, ↓mp_6_b, ↓mp_13_b, ↓mp_14_b, ↓mp_15_b, ↓mp_16_b, ↓mp_17_b, ↓mp_19_b, ↓mp_20_b, ↓mp_21_b, ↓mp_25_b, ↓mp_26_b, ↓mp_27_b, ↓mp_28_b, ↓mp_31_b, ↓mp_32_b, ↓mp_35_b, ↓mp_36_b, ↓mp_37_b, ↓mp_38_b, ↓mp_39_b, ↓mp_40_b, ↓mp_41_b, ↓mp_42_b, ↓mp_43_b, ↓ml_1_b, ↓ms_1_b, ↓ml_2_b, ↓ms_2_b, ↓ml_3_b, ↓ms_3_b, ↓ml_4_b, ↓ms_4_b, ↓ml_5_b, ↓ms_5_b, ↓ml_6_b, ↓ms_6_b, ↓ml_7_b, ↓ms_7_b, ↓ml_8_b, ↓ms_8_b, ↓ml_9_b, ↓ms_9_b, ↓ml_10_b, ↓ms_10_b, ↓ml_11_b, ↓ms_11_b, ↓ml_13_b, ↓ms_13_b, ↓ml_14_b, ↓ms_14_b, ↓ml_15_b, ↓ms_15_b, ↓ml_16_b, ↓ms_16_b, ↓ml_17_b, ↓ms_17_b, ↓ml_18_b, ↓ms_18_b, ↓ml_19_b, ↓ms_19_b, ↓ml_20_b, ↓ms_20_b, ↓ml_21_b, ↓ms_21_b, ↓ml_22_b, ↓ms_22_b, m_cl, mg_0, mp_0, mr_1, mr_2, mr_3, mr_4, mr_5, mg_6, mp_6, mr_7, mr_8, mr_9, mr_10, mr_11, mr_12, mg_13, mp_13, mg_14, mp_14, mg_15, mp_15, mg_16, mp_16, mg_17, mp_17, mr_18, mg_19, mp_19, mg_20, mp_20, mg_21, mp_21, mr_22, mr_23, mr_24, mg_25, mp_25, mg_26, mp_26, mg_27, mp_27, mg_28, mp_28, mr_29, mr_30, mg_31, mp_31, mg_32, mp_32, mr_33, mr_34, mg_35, mp_35, mg_36, mp_36, mg_37, mp_37, mg_38, mp_38, mg_39, mp_39, mg_40, mp_40, mg_41, mp_41, mg_42, mp_42, mg_43, mp_43, mr_44, mr_45, mr_46, ml_1, ms_1, ml_2, ms_2, ml_3, ms_3, ml_4, ms_4, ml_5, ms_5, ml_6, ms_6, ml_7, ms_7, ml_8, ms_8, ml_9, ms_9, ml_10, ms_10, ml_11, ms_11, ml_13, ms_13, ml_14, ms_14, ml_15, ms_15, ml_16, ms_16, ml_17, ms_17, ml_18, ms_18, ml_19, ms_19, ml_20, ms_20, ml_21, ms_21, ml_22, ms_22, h_nI, Int.cast_ofNat_Int, h_b8, Int.bmod_bmod, h_add, h_sub, h_mul, h_neg, h_zero, h_and255, h_and15, h_and3, h_cltT, h_cltF, h_cgeT, h_cgeF, h_cgtT, h_cgtF, h_cleT, h_cleF, h_ceqT, h_ceqF, h_cneT, h_cneF, m_I_uI, m_A_uI, m_I_uA, m_A_uA, m_t1, ↓reduceIte, Option.bind_some, am_ret0, am_ret1, am_ret2, if_true, if_false, true_and, and_true, false_and, and_false, not_true_eq_false, not_false_eq_true, Nat.reduceEqDiff, Nat.reduceAdd, Nat.reduceSub, Nat.reduceMul, Int.reduceAdd, Int.reduceSub, Int.reduceMul, Int.reduceNeg, Int.reduceToNat, Int.reduceLT, Int.reduceLE, Nat.add_left_cancel_iff, B32_31, B32_67, e1, Int.toNat_natCast]
    · intro w
      obtain ⟨-, f1, f2, f3, f4, f5⟩ := h4 (fitL w)
      have hl : k = L.length := by simp at f3; omega
      have := f4 L.length (by simp)
      rw [x_getD_mid] at this
      obtain ⟨a, b, c'⟩ := x_fit_app.mp w
      simp at c'
      rw [hl] at q
      simp at this q
      omega
  · rcases hI with hI | hI
    · have hfit : x_fit (L ++ [c]) := Classical.byContradiction fun w => by have := h5 w; omega
      obtain ⟨-, f1, f2, f3, f4, f5⟩ := h4 hfit
      have hl : k = L.length := by simp at f3; omega
      subst hl
      have hc : μ.A 2 (3600 + L.length) = c.length := by
        have := f4 L.length (by simp)
        rw [x_getD_mid] at this
        simpa using this
      have hfit2 : x_fit (L ++ [c ++ [v % 256]]) := by
        obtain ⟨a, b, c'⟩ := x_fit_app.mp hfit
        exact x_fit_app.mpr ⟨a, b, by simp; omega⟩
      have e2 : (240 * ((3600 + L.length : Nat) : Int) + c.length).toNat = 240 * (3600 + L.length) + c.length := by omega
      refine ⟨m_uA (m_uA μ 1 (240 * (3600 + L.length) + c.length) (Int.bmod v 256)) 2 (3600 + L.length) (c.length + 1), ?_, (m_fr.u1 μ (by omega)).trans (m_fr.u2 _ (by omega)), ?_, ?_, ?_, ?_, fun w => absurd hfit2 w, hok⟩
      · rw [B32_0]
        simp (disch := first | assumption | omega | decide | (simp only [m_I_uI, m_A_uI, m_I_uA, m_A_uA] <;> first | assumption | omega) | fail) only [↓mp_0_b, ↓mp_6_b, ↓mp_13_b, ↓mp_14_b, ↓mp_15_b, ↓mp_16_b, ↓mp_17_b, ↓mp_19_b, ↓mp_20_b, ↓mp_21_b, ↓mp_25_b, ↓mp_26_b, ↓mp_27_b, ↓mp_28_b, ↓mp_31_b, ↓mp_32_b, ↓mp_35_b, ↓mp_36_b, ↓mp_37_b, ↓mp_38_b, ↓mp_39_b, ↓mp_40_b, ↓mp_41_b, ↓mp_42_b, ↓mp_43_b, ↓ml_1_b, ↓ms_1_b, ↓ml_2_b, ↓ms_2_b, ↓ml_3_b, ↓ms_3_b, ↓ml_4_b, ↓ms_4_b, ↓ml_5_b, ↓ms_5_b, ↓ml_6_b, ↓ms_6_b, ↓ml_7_b, ↓ms_7_b, ↓ml_8_b, ↓ms_8_b, ↓ml_9_b, ↓ms_9_b, ↓ml_10_b, ↓ms_10_b, ↓ml_11_b, ↓ms_11_b, ↓ml_13_b, ↓ms_13_b, ↓ml_14_b, ↓ms_14_b, ↓ml_15_b, ↓ms_15_b, ↓ml_16_b, ↓ms_16_b, ↓ml_17_b, ↓ms_17_b, ↓ml_18_b, ↓ms_18_b, ↓ml_19_b, ↓ms_19_b, ↓ml_20_b, ↓ms_20_b, ↓ml_21_b, ↓ms_21_b, ↓ml_22_b, ↓ms_22_b, m_cl, mg_0, mp_0, mr_1, mr_2, mr_3, mr_4, mr_5, mg_6, mp_6, mr_7, mr_8, mr_9, mr_10, mr_11, mr_12, mg_13, mp_13, mg_14, mp_14, mg_15, mp_15, mg_16, mp_16, mg_17, mp_17, mr_18, mg_19, mp_19, mg_20, mp_20, mg_21, mp_21, mr_22, mr_23, mr_24, mg_25, mp_25, mg_26, mp_26, mg_27, mp_27, mg_28, mp_28, mr_29, mr_30, mg_31, mp_31, mg_32, mp_32, mr_33, mr_34, mg_35, mp_35, mg_36, mp_36, mg_37, mp_37, mg_38, mp_38, mg_39, mp_39, mg_40, mp_40, mg_41, mp_41, mg_42, mp_42, mg_43, mp_43, mr_44, mr_45, mr_46, ml_1, ms_1, ml_2, ms_2, ml_3, ms_3, ml_4, ms_4, ml_5, ms_5, ml_6, ms_6, ml_7, ms_7, ml_8, ms_8, ml_9, ms_9, ml_10, ms_10, ml_11, ms_11, ml_13, ms_13, ml_14, ms_14, ml_15, ms_15, ml_16, ms_16, ml_17, ms_17, ml_18, ms_18, ml_19, ms_19, ml_20, ms_20, ml_21, ms_21, ml_22, ms_22, h_nI, Int.cast_ofNat_Int, h_b8, Int.bmod_bmod, h_add, h_sub, h_mul, h_neg, h_zero, h_and255, h_and15, h_and3, h_cltT, h_cltF, h_cgeT, h_cgeF, h_cgtT, h_cgtF, h_cleT, h_cleF, h_ceqT, h_ceqF, h_cneT, h_cneF, m_I_uI, m_A_uI, m_I_uA, m_A_uA, m_t1, ↓reduceIte, Option.bind_some, am_ret0, am_ret1, am_ret2, if_true, if_false, true_and, and_true, false_and, and_false, not_true_eq_false, not_false_eq_true, Nat.reduceEqDiff, Nat.reduceAdd, Nat.reduceSub, Nat.reduceMul, Int.reduceAdd, Int.reduceSub, Int.reduceMul, Int.reduceNeg, Int.reduceToNat, Int.reduceLT, Int.reduceLE, Nat.add_left_cancel_iff, B32_31, B32_67, e1, Int.toNat_natCast, hc, e2]
      · simp only [m_I_uI, m_A_uI, m_I_uA, m_A_uA]; simp; omega
      · intro _; simp only [m_I_uI, m_A_uI, m_I_uA, m_A_uA]; simp; omega
      · intro l hl
        simp only [m_I_uI, m_A_uI, m_I_uA, m_A_uA]
        simp
        split
        · omega
        · exact h3 l hl
      · intro _
        refine ⟨?_, hfit2, hok, ?_, ?_, ?_⟩
        · simp only [m_I_uI, m_A_uI, m_I_uA, m_A_uA]; exact hI
        · simp only [m_I_uI, m_A_uI, m_I_uA, m_A_uA]; simp at f3 ⊢; exact f3
        · intro l hl
          simp only [m_I_uI, m_A_uI, m_I_uA, m_A_uA]
          simp at hl
          by_cases q2 : l = L.length
          · subst q2
            rw [if_pos ⟨trivial, by omega⟩, x_getD_mid]
            simp
          · rw [if_neg (by omega), if_neg (by omega), x_getD_left (by omega)]
            have := f4 l (by simp; omega)
            rw [x_getD_left (by omega)] at this
            exact this
        · intro l i hl hi
          simp at hl
          simp only [m_I_uI, m_A_uI, m_I_uA, m_A_uA]
          by_cases q2 : l = L.length
          · subst q2
            rw [x_getD_mid] at hi ⊢
            rw [x_getD_one (by simpa using hi), if_neg (by omega)]
            by_cases q3 : i < c.length
            · rw [if_neg (by omega), if_pos q3]
              have := f5 L.length i (by simp) (by rw [x_getD_mid]; exact q3)
              rw [x_getD_mid] at this
              exact this
            · have : i = c.length := by simp at hi; omega
              subst this
              rw [if_pos ⟨trivial, by omega⟩, if_neg (by omega), ← h_bm3]
          · rw [x_getD_left (by omega)] at hi ⊢
            have hf := x_fit_at hfit l
            rw [x_getD_left (by omega)] at hf
            rw [if_neg (by omega), if_neg (by omega)]
            have := f5 l i (by simp; omega) (by rw [x_getD_left (by omega)]; exact hi)
            rw [x_getD_left (by omega)] at this
            exact this
    · refine ⟨μ, ?_, m_fr.refl μ, h1, fun _ => h2', h3, ?_, fun _ => hI, hok⟩
      · rw [B32_0]
        simp (disch := first | assumption | omega | decide | (simp only [m_I_uI, m_A_uI, m_I_uA, m_A_uA] <;> first | assumption | omega) | fail) only [↓mp_0_b, ↓mp_6_b, ↓mp_13_b, ↓mp_14_b, ↓mp_15_b, ↓mp_16_b, ↓mp_17_b, ↓mp_19_b, ↓mp_20_b, ↓mp_21_b, ↓mp_25_b, ↓mp_26_b, ↓mp_27_b, ↓mp_28_b, ↓mp_31_b, ↓mp_32_b, ↓mp_35_b, ↓mp_36_b, ↓mp_37_b, ↓mp_38_b, ↓mp_39_b, ↓mp_40_b, ↓mp_41_b, ↓mp_42_b, ↓mp_43_b, ↓ml_1_b, ↓ms_1_b, ↓ml_2_b, ↓ms_2_b, ↓ml_3_b, ↓ms_3_b, ↓ml_4_b, ↓ms_4_b, ↓ml_5_b, ↓ms_5_b, ↓ml_6_b, ↓ms_6_b, ↓ml_7_b, ↓ms_7_b, ↓ml_8_b, ↓ms_8_b, ↓ml_9_b, ↓ms_9_b, ↓ml_10_b, ↓ms_10_b, ↓ml_11_b, ↓ms_11_b, ↓ml_13_b, ↓ms_13_b, ↓ml_14_b, ↓ms_14_b, ↓ml_15_b, ↓ms_15_b, ↓ml_16_b, ↓ms_16_b, ↓ml_17_b, ↓ms_17_b, ↓ml_18_b, ↓ms_18_b, ↓ml_19_b, ↓ms_19_b, ↓ml_20_b, ↓ms_20_b, ↓ml_21_b, ↓ms_21_b, ↓ml_22_b, ↓ms_22_b, m_cl, mg_0, mp_0, mr_1, mr_2, mr_3, mr_4, mr_5, mg_6, mp_6, mr_7, mr_8, mr_9, mr_10, mr_11, mr_12, mg_13, mp_13, mg_14, mp_14, mg_15, mp_15, mg_16, mp_16, mg_17, mp_17, mr_18, mg_19, mp_19, mg_20, mp_20, mg_21, mp_21, mr_22, mr_23, mr_24, mg_25, mp_25, mg_26, mp_26, mg_27, mp_27, mg_28, mp_28, mr_29, mr_30, mg_31, mp_31, mg_32, mp_32, mr_33, mr_34, mg_35, mp_35, mg_36, mp_36, mg_37, mp_37, mg_38, mp_38, mg_39, mp_39, mg_40, mp_40, mg_41, mp_41, mg_42, mp_42, mg_43, mp_43, mr_44, mr_45, mr_46, ml_1, ms_1, ml_2, ms_2, ml_3, ms_3, ml_4, ms_4, ml_5, ms_5, ml_6, ms_6, ml_7, ms_7, ml_8, ms_8, ml_9, ms_9, ml_10, ms_10, ml_11, ms_11, ml_13, ms_13, ml_14, ms_14, ml_15, ms_15, ml_16, ms_16, ml_17, ms_17, ml_18, ms_18, ml_19, ms_19, ml_20, ms_20, ml_21, ms_21, ml_22, ms_22, h_nI, Int.cast_ofNat_Int, h_b8, Int.bmod_bmod, h_add, h_sub, h_mul, h_neg, h_zero, h_and255, h_and15, h_and3, h_cltT, h_cltF, h_cgeT, h_cgeF, h_cgtT, h_cgtF, h_cleT, h_cleF, h_ceqT, h_ceqF, h_cneT, h_cneF, m_I_uI, m_A_uI, m_I_uA, m_A_uA, m_t1, ↓reduceIte, Option.bind_some, am_ret0, am_ret1, am_ret2, if_true, if_false, true_and, and_true, false_and, and_false, not_true_eq_false, not_false_eq_true, Nat.reduceEqDiff, Nat.reduceAdd, Nat.reduceSub, Nat.reduceMul, Int.reduceAdd, Int.reduceSub, Int.reduceMul, Int.reduceNeg, Int.reduceToNat, Int.reduceLT, Int.reduceLE, Nat.add_left_cancel_iff, B32_31, B32_67, e1, Int.toNat_natCast, hI]
      · intro w
        have := (h4 (fitL w)).1
        omega
theorem f_byteOf {L : List (List Int)} {x l i : Nat} (h : m_F μ x L) (hx : x < 13) (hl : l < L.length) (hi : i < (L.getD l []).length) :
    am_gg (am_pr ad) d 206 0 [some (.ref m), some (.int (h_ii x)), some (.int (h_ii l)), some (.int (h_ii i))] [] (m_t M m μ) = some (.inl (some (.int (h_ii ((L.getD l []).getD i 0)))), m_t M m μ) := by
  have h1 := x_fit_at h.1 l
  have h2 := h.1.1
  rw [m_byteOf (by omega) (by omega), show (240 * (300 * (x : Int) + l) + i).toNat = 240 * (300 * x + l) + i by omega, h.2.2.2.2 l i hl hi, h_bm]
  have := x_okl_at (x_ok_at h.2.1 l) i
  rw [Int.emod_eq_of_lt this.1 this.2]
theorem f_lengthOf {L : List (List Int)} {x l : Nat} (h : m_F μ x L) (hx : x < 13) (hl : l < L.length) :
    am_gg (am_pr ad) d 204 0 [some (.ref m), some (.int (h_ii x)), some (.int (h_ii l))] [] (m_t M m μ) = some (.inl (some (.int (h_ii ((L.getD l []).length)))), m_t M m μ) := by
  have h2 := h.1.1
  rw [m_lengthOf (by omega) (by omega), show (300 * (x : Int) + l).toNat = 300 * x + l by omega, h.2.2.2.1 l hl]
/-- putPart -/
theorem m_partW {L0 : List (List Int)} {x l : Nat} (hx : x < 12) (hl : l < L0.length) : ∀ (n s e : Nat) {μ : m_S} {L : List (List Int)} {c : List Int}, e - s = n → s ≤ e → e ≤ (L0.getD l []).length → m_F μ x L0 → m_W μ (L ++ [c]) → ∀ f0 : Int,
    ∃ μ', am_gg (am_pr ad) (d + 1) 205 3 [some (.ref m), some (.int (h_ii x)), some (.int (h_ii l)), some (.int (h_ii f0)), some (.int (h_ii e)), some (.int (h_ii s))] [] (m_t M m μ) = some (.inl none, m_t M m μ') ∧ m_fr μ μ' ∧ m_W μ' (L ++ [c ++ ((L0.getD l []).drop s).take (e - s)])
  | 0, s, e, μ, L, c, hn, hse, he, hF, hW, f0 => by
    have hh : e = s := by omega
    subst hh
    have h1 := x_fit_at hF.1 l
    refine ⟨μ, ?_, m_fr.refl μ, ?_⟩
    · rw [B205_3]
      simp (disch := first | assumption | omega | decide | (simp only [m_I_uI, m_A_uI, m_I_uA, m_A_uA] <;> first | assumption | omega) | fail) only [↓mp_0_b, ↓mp_6_b, ↓mp_13_b, ↓mp_14_b, ↓mp_15_b, ↓mp_16_b, ↓mp_17_b, ↓mp_19_b, ↓mp_20_b, ↓mp_21_b, ↓mp_25_b, ↓mp_26_b, ↓mp_27_b, ↓mp_28_b, ↓mp_31_b, ↓mp_32_b, ↓mp_35_b, ↓mp_36_b, ↓mp_37_b, ↓mp_38_b, ↓mp_39_b, ↓mp_40_b, ↓mp_41_b, ↓mp_42_b, ↓mp_43_b, ↓ml_1_b, ↓ms_1_b, ↓ml_2_b, ↓ms_2_b, ↓ml_3_b, ↓ms_3_b, ↓ml_4_b, ↓ms_4_b, ↓ml_5_b, ↓ms_5_b, ↓ml_6_b, ↓ms_6_b, ↓ml_7_b, ↓ms_7_b, ↓ml_8_b, ↓ms_8_b, ↓ml_9_b, ↓ms_9_b, ↓ml_10_b, ↓ms_10_b, ↓ml_11_b, ↓ms_11_b, ↓ml_13_b, ↓ms_13_b, ↓ml_14_b, ↓ms_14_b, ↓ml_15_b, ↓ms_15_b, ↓ml_16_b, ↓ms_16_b, ↓ml_17_b, ↓ms_17_b, ↓ml_18_b, ↓ms_18_b, ↓ml_19_b, ↓ms_19_b, ↓ml_20_b, ↓ms_20_b, ↓ml_21_b, ↓ms_21_b, ↓ml_22_b, ↓ms_22_b, m_cl, mg_0, mp_0, mr_1, mr_2, mr_3, mr_4, mr_5, mg_6, mp_6, mr_7, mr_8, mr_9, mr_10, mr_11, mr_12, mg_13, mp_13, mg_14, mp_14, mg_15, mp_15, mg_16, mp_16, mg_17, mp_17, mr_18, mg_19, mp_19, mg_20, mp_20, mg_21, mp_21, mr_22, mr_23, mr_24, mg_25, mp_25, mg_26, mp_26, mg_27, mp_27, mg_28, mp_28, mr_29, mr_30, mg_31, mp_31, mg_32, mp_32, mr_33, mr_34, mg_35, mp_35, mg_36, mp_36, mg_37, mp_37, mg_38, mp_38, mg_39, mp_39, mg_40, mp_40, mg_41, mp_41, mg_42, mp_42, mg_43, mp_43, mr_44, mr_45, mr_46, ml_1, ms_1, ml_2, ms_2, ml_3, ms_3, ml_4, ms_4, ml_5, ms_5, ml_6, ms_6, ml_7, ms_7, ml_8, ms_8, ml_9, ms_9, ml_10, ms_10, ml_11, ms_11, ml_13, ms_13, ml_14, ms_14, ml_15, ms_15, ml_16, ms_16, ml_17, ms_17, ml_18, ms_18, ml_19, ms_19, ml_20, ms_20, ml_21, ms_21, ml_22, ms_22, h_nI, Int.cast_ofNat_Int, h_b8, Int.bmod_bmod, h_add, h_sub, h_mul, h_neg, h_zero, h_and255, h_and15, h_and3, h_cltT, h_cltF, h_cgeT, h_cgeF, h_cgtT, h_cgtF, h_cleT, h_cleF, h_ceqT, h_ceqF, h_cneT, h_cneF, m_I_uI, m_A_uI, m_I_uA, m_A_uA, m_t1, ↓reduceIte, Option.bind_some, am_ret0, am_ret1, am_ret2, if_true, if_false, true_and, and_true, false_and, and_false, not_true_eq_false, not_false_eq_true, Nat.reduceEqDiff, Nat.reduceAdd, Nat.reduceSub, Nat.reduceMul, Int.reduceAdd, Int.reduceSub, Int.reduceMul, Int.reduceNeg, Int.reduceToNat, Int.reduceLT, Int.reduceLE, Nat.add_left_cancel_iff]
    · rw [Nat.sub_self, List.take_zero, List.append_nil]; exact hW
  | n + 1, s, e, μ, L, c, hn, hse, he, hF, hW, f0 => by
    have h1 := x_fit_at hF.1 l
    obtain ⟨μ1, e1, f1, w1⟩ := m_putW (M := M) (m := m) (ad := ad) (d := d) (v := (L0.getD l []).getD s 0) hW
    obtain ⟨μ2, e2, f2, w2⟩ := m_partW hx hl n (s + 1) e (by omega) (by omega) he (hF.fr f1 hx) w1 f0
    refine ⟨μ2, ?_, f1.trans f2, ?_⟩
    · rw [B205_3]
      simp (disch := first | assumption | omega | decide | (simp only [m_I_uI, m_A_uI, m_I_uA, m_A_uA] <;> first | assumption | omega) | fail) only [↓mp_0_b, ↓mp_6_b, ↓mp_13_b, ↓mp_14_b, ↓mp_15_b, ↓mp_16_b, ↓mp_17_b, ↓mp_19_b, ↓mp_20_b, ↓mp_21_b, ↓mp_25_b, ↓mp_26_b, ↓mp_27_b, ↓mp_28_b, ↓mp_31_b, ↓mp_32_b, ↓mp_35_b, ↓mp_36_b, ↓mp_37_b, ↓mp_38_b, ↓mp_39_b, ↓mp_40_b, ↓mp_41_b, ↓mp_42_b, ↓mp_43_b, ↓ml_1_b, ↓ms_1_b, ↓ml_2_b, ↓ms_2_b, ↓ml_3_b, ↓ms_3_b, ↓ml_4_b, ↓ms_4_b, ↓ml_5_b, ↓ms_5_b, ↓ml_6_b, ↓ms_6_b, ↓ml_7_b, ↓ms_7_b, ↓ml_8_b, ↓ms_8_b, ↓ml_9_b, ↓ms_9_b, ↓ml_10_b, ↓ms_10_b, ↓ml_11_b, ↓ms_11_b, ↓ml_13_b, ↓ms_13_b, ↓ml_14_b, ↓ms_14_b, ↓ml_15_b, ↓ms_15_b, ↓ml_16_b, ↓ms_16_b, ↓ml_17_b, ↓ms_17_b, ↓ml_18_b, ↓ms_18_b, ↓ml_19_b, ↓ms_19_b, ↓ml_20_b, ↓ms_20_b, ↓ml_21_b, ↓ms_21_b, ↓ml_22_b, ↓ms_22_b, m_cl, mg_0, mp_0, mr_1, mr_2, mr_3, mr_4, mr_5, mg_6, mp_6, mr_7, mr_8, mr_9, mr_10, mr_11, mr_12, mg_13, mp_13, mg_14, mp_14, mg_15, mp_15, mg_16, mp_16, mg_17, mp_17, mr_18, mg_19, mp_19, mg_20, mp_20, mg_21, mp_21, mr_22, mr_23, mr_24, mg_25, mp_25, mg_26, mp_26, mg_27, mp_27, mg_28, mp_28, mr_29, mr_30, mg_31, mp_31, mg_32, mp_32, mr_33, mr_34, mg_35, mp_35, mg_36, mp_36, mg_37, mp_37, mg_38, mp_38, mg_39, mp_39, mg_40, mp_40, mg_41, mp_41, mg_42, mp_42, mg_43, mp_43, mr_44, mr_45, mr_46, ml_1, ms_1, ml_2, ms_2, ml_3, ms_3, ml_4, ms_4, ml_5, ms_5, ml_6, ms_6, ml_7, ms_7, ml_8, ms_8, ml_9, ms_9, ml_10, ms_10, ml_11, ms_11, ml_13, ms_13, ml_14, ms_14, ml_15, ms_15, ml_16, ms_16, ml_17, ms_17, ml_18, ms_18, ml_19, ms_19, ml_20, ms_20, ml_21, ms_21, ml_22, ms_22, h_nI, Int.cast_ofNat_Int, h_b8, Int.bmod_bmod, h_add, h_sub, h_mul, h_neg, h_zero, h_and255, h_and15, h_and3, h_cltT, h_cltF, h_cgeT, h_cgeF, h_cgtT, h_cgtF, h_cleT, h_cleF, h_ceqT, h_ceqF, h_cneT, h_cneF, m_I_uI, m_A_uI, m_I_uA, m_A_uA, m_t1, ↓reduceIte, Option.bind_some, am_ret0, am_ret1, am_ret2, if_true, if_false, true_and, and_true, false_and, and_false, not_true_eq_false, not_false_eq_true, Nat.reduceEqDiff, Nat.reduceAdd, Nat.reduceSub, Nat.reduceMul, Int.reduceAdd, Int.reduceSub, Int.reduceMul, Int.reduceNeg, Int.reduceToNat, Int.reduceLT, Int.reduceLE, Nat.add_left_cancel_iff, f_byteOf hF (by omega) hl (show s < (L0.getD l []).length by omega), e1]
      exact e2
    · have hb := x_okl_at (x_ok_at hF.2.1 l) s
      rw [Int.emod_eq_of_lt hb.1 hb.2] at w2
      rw [x_cons2 (show s < e by omega) he]
      rw [List.append_assoc] at w2
      exact w2
/-- putLine -/
theorem m_lineW {L0 L : List (List Int)} {x l : Nat} (hx : x < 12) (hl : l < L0.length) (hF : m_F μ x L0) (hW : m_W μ L) :
    ∃ μ', am_gg (am_pr ad) (d + 2) 203 0 [some (.ref m), some (.int (h_ii x)), some (.int (h_ii l))] [] (m_t M m μ) = some (.inl none, m_t M m μ') ∧ m_fr μ μ' ∧ m_W μ' (L ++ [L0.getD l []]) := by
  obtain ⟨μ1, e1, f1, w1⟩ := m_newLineW (M := M) (m := m) (ad := ad) (d := d + 1) hW
  obtain ⟨μ2, e2, f2, w2⟩ := m_partW (M := M) (m := m) (ad := ad) (d := d) hx hl _ 0 (L0.getD l []).length rfl (Nat.zero_le _) (Nat.le_refl _) (hF.fr f1 hx) w1 0
  refine ⟨μ2, ?_, f1.trans f2, ?_⟩
  · rw [B203_0]
    simp (disch := first | assumption | omega | decide | (simp only [m_I_uI, m_A_uI, m_I_uA, m_A_uA] <;> first | assumption | omega) | fail) only [↓mp_0_b, ↓mp_6_b, ↓mp_13_b, ↓mp_14_b, ↓mp_15_b, ↓mp_16_b, ↓mp_17_b, ↓mp_19_b, ↓mp_20_b, ↓mp_21_b, ↓mp_25_b, ↓mp_26_b, ↓mp_27_b, ↓mp_28_b, ↓mp_31_b, ↓mp_32_b, ↓mp_35_b, ↓mp_36_b, ↓mp_37_b, ↓mp_38_b, ↓mp_39_b, ↓mp_40_b, ↓mp_41_b, ↓mp_42_b, ↓mp_43_b, ↓ml_1_b, ↓ms_1_b, ↓ml_2_b, ↓ms_2_b, ↓ml_3_b, ↓ms_3_b, ↓ml_4_b, ↓ms_4_b, ↓ml_5_b, ↓ms_5_b, ↓ml_6_b, ↓ms_6_b, ↓ml_7_b, ↓ms_7_b, ↓ml_8_b, ↓ms_8_b, ↓ml_9_b, ↓ms_9_b, ↓ml_10_b, ↓ms_10_b, ↓ml_11_b, ↓ms_11_b, ↓ml_13_b, ↓ms_13_b, ↓ml_14_b, ↓ms_14_b, ↓ml_15_b, ↓ms_15_b, ↓ml_16_b, ↓ms_16_b, ↓ml_17_b, ↓ms_17_b, ↓ml_18_b, ↓ms_18_b, ↓ml_19_b, ↓ms_19_b, ↓ml_20_b, ↓ms_20_b, ↓ml_21_b, ↓ms_21_b, ↓ml_22_b, ↓ms_22_b, m_cl, mg_0, mp_0, mr_1, mr_2, mr_3, mr_4, mr_5, mg_6, mp_6, mr_7, mr_8, mr_9, mr_10, mr_11, mr_12, mg_13, mp_13, mg_14, mp_14, mg_15, mp_15, mg_16, mp_16, mg_17, mp_17, mr_18, mg_19, mp_19, mg_20, mp_20, mg_21, mp_21, mr_22, mr_23, mr_24, mg_25, mp_25, mg_26, mp_26, mg_27, mp_27, mg_28, mp_28, mr_29, mr_30, mg_31, mp_31, mg_32, mp_32, mr_33, mr_34, mg_35, mp_35, mg_36, mp_36, mg_37, mp_37, mg_38, mp_38, mg_39, mp_39, mg_40, mp_40, mg_41, mp_41, mg_42, mp_42, mg_43, mp_43, mr_44, mr_45, mr_46, ml_1, ms_1, ml_2, ms_2, ml_3, ms_3, ml_4, ms_4, ml_5, ms_5, ml_6, ms_6, ml_7, ms_7, ml_8, ms_8, ml_9, ms_9, ml_10, ms_10, ml_11, ms_11, ml_13, ms_13, ml_14, ms_14, ml_15, ms_15, ml_16, ms_16, ml_17, ms_17, ml_18, ms_18, ml_19, ms_19, ml_20, ms_20, ml_21, ms_21, ml_22, ms_22, h_nI, Int.cast_ofNat_Int, h_b8, Int.bmod_bmod, h_add, h_sub, h_mul, h_neg, h_zero, h_and255, h_and15, h_and3, h_cltT, h_cltF, h_cgeT, h_cgeF, h_cgtT, h_cgtF, h_cleT, h_cleF, h_ceqT, h_ceqF, h_cneT, h_cneF, m_I_uI, m_A_uI, m_I_uA, m_A_uA, m_t1, ↓reduceIte, Option.bind_some, am_ret0, am_ret1, am_ret2, if_true, if_false, true_and, and_true, false_and, and_false, not_true_eq_false, not_false_eq_true, Nat.reduceEqDiff, Nat.reduceAdd, Nat.reduceSub, Nat.reduceMul, Int.reduceAdd, Int.reduceSub, Int.reduceMul, Int.reduceNeg, Int.reduceToNat, Int.reduceLT, Int.reduceLE, Nat.add_left_cancel_iff, e1, f_lengthOf (hF.fr f1 hx) (show x < 13 by omega) hl, B205_0]
    exact (congrArg (fun z => am_ret0 z (fun M4 => some (.inl none, M4))) e2)
  · rw [Nat.sub_zero, List.drop_zero, List.take_length, List.nil_append] at w2
    exact w2
end ML
