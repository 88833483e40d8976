/-! DOTOOL, IN THE REFERENCE -/
section MD
variable {M : am_M} {m : Nat} {μ μ' : m_S} {ad : Nat → Nat} {d : Nat} {t : List Int} {W : List x_T} {T n k k' : Nat} {O : z_O} {l : List (Int × Nat)} {S : Nat → List (List Int)} {F : Nat → List (List Int)} {th : Nat → Bool} {Gv : List (List Int)} {fc fl fs : Int}
theorem m_V.fT (h : m_V μ t F th fc fl fs) (hf : m_fT μ μ') (h2 : ∀ l : Nat, l < 300 → 0 ≤ μ'.A 2 (3600 + l) ∧ μ'.A 2 (3600 + l) ≤ 240) (h3 : 0 ≤ μ'.A 3 12 ∧ μ'.A 3 12 ≤ 300) : m_V μ' t F th fc fl fs := by
  obtain ⟨g1, g2, g3, g4, g5, g6⟩ := h
  have hf' := hf
  obtain ⟨a1, a2, a3, a4, a5⟩ := hf'
  refine ⟨⟨by rw [a1 6 (by decide)]; exact g1.1, g1.2.1, g1.2.2.1, fun i hi => by rw [a2 5 i (by decide) (by decide) (by decide) (by decide)]; exact g1.2.2.2 i hi⟩, ?_, ?_, g4, by rw [a1 14 (by decide), a1 16 (by decide), a1 17 (by decide)]; exact g5, ?_⟩
  · intro i hi; rw [a2 4 i (by decide) (by decide) (by decide) (by decide)]; exact g2 i hi
  · intro i hi ht; exact (g3 i hi ht).fT hf (by omega)
  · obtain ⟨o1, o2, o3, o4⟩ := g6
    refine ⟨fun k hk => ?_, fun k hk => ?_, by rw [a2 4 11 (by decide) (by decide) (by decide) (by decide)]; exact o3, fun i hi => by rw [a2 12 i (by decide) (by decide) (by decide) (by decide)]; exact o4 i hi⟩
    · by_cases q : k < 3600
      · rw [a4 k q]; exact o1 k hk
      · have := h2 (k - 3600) (by omega)
        rw [show 3600 + (k - 3600) = k by omega] at this
        exact this
    · by_cases q : k = 12
      · rw [q]; exact h3
      · rw [a5 k q]; exact o2 k hk
/-- a number of the reference has changed -/
theorem m_V.u1 {f : Nat} {v : Int} (h : m_V μ t F th fc fl fs) (hf : f ≠ 6) : m_V (m_uI μ f v) t F th (if 14 = f then v else fc) (if 16 = f then v else fl) (if 17 = f then v else fs) := by
  obtain ⟨g1, g2, g3, g4, ⟨h1, h2, h3⟩, g6⟩ := h
  have hA : ∀ z i, (m_uI μ f v).A z i = μ.A z i := fun z i => by simp only [m_I_uI, m_A_uI, m_I_uA, m_A_uA]
  have hF : ∀ (x : Nat) (L : List (List Int)), m_F μ x L → m_F (m_uI μ f v) x L := by
    intro x L hL
    unfold m_F at *
    simp only [hA]
    exact hL
  refine ⟨⟨by rw [m_I_uI, if_neg (fun w => hf w.symm)]; exact g1.1, g1.2.1, g1.2.2.1, fun i hi => by rw [hA]; exact g1.2.2.2 i hi⟩, fun i hi => by rw [hA]; exact g2 i hi, fun i hi ht => hF i _ (g3 i hi ht), g4, ?_, ?_⟩
  · rw [m_I_uI, m_I_uI, m_I_uI, h1, h2, h3]
    exact ⟨rfl, rfl, rfl⟩
  · unfold m_O at *
    simp only [hA]
    exact g6
theorem m_H.u1 {f : Nat} {v : Int} (h : m_H μ t W) (hf : f ≠ 13) : m_H (m_uI μ f v) t W := by
  unfold m_H m_tok m_byt at *
  simp only [m_I_uI, m_A_uI, m_I_uA, m_A_uA]
  rw [if_neg (fun w => hf w.symm)]
  exact h
theorem m_F.u1 {f : Nat} {v : Int} {x : Nat} {L : List (List Int)} (h : m_F μ x L) : m_F (m_uI μ f v) x L := by
  unfold m_F at *
  simp only [m_I_uI, m_A_uI, m_I_uA, m_A_uA]
  exact h
/-- how doTool ends -/
def m_dr (μ' : m_S) (t : List Int) (F : Nat → List (List Int)) (th : Nat → Bool) (r : (Nat × Nat × Nat × Nat) ⊕ List (List Int)) : Prop := match r with
  | .inl x => m_V μ' t F th x.1 x.2.2.1 x.2.2.2 ∧ μ'.I 15 = x.2.1 ∧ x.1 < 10 ∧ 1 ≤ x.1
  | .inr L => m_V μ' t F th 0 0 0 ∧ m_F μ' 12 L
/-- the switch -/
theorem g_67 {i1 : Int32} (hT : T < 13) (h19 : μ.I 19 = T) (h14 : μ.I 14 = 0) : am_gg (am_pr ad) d 202 67 [some (.ref m), some (.int i1), none, none] [] (m_t M m μ) = am_gg (am_pr ad) d 202 (z_pm T) [some (.ref m), some (.int (h_ii (μ.A 17 0))), none, none] [] (m_t M m μ) := by
  have hti : (h_ii (T : Int)).toInt = T := h_toInt (by omega) (by omega)
  have h2 : ([152, 266, 266, 266, 266, 205, 213, 221, 228, 236, 243, 250, 257] : List Nat)[((T : Int) - 0).toNat]? = some (z_pm T) := by
    rw [show ((T : Int) - 0).toNat = T by omega]
    exact z_pm_at T hT
  rw [B202_67]
  simp (disch := first | assumption | omega | decide | (simp only [m_I_uI, m_A_uI, m_I_uA, m_A_uA] <;> first | assumption | omega) | fail) only [↓mp_0_b, ↓mp_6_b, ↓mp_13_b, ↓mp_14_b, ↓mp_15_b, ↓mp_16_b, ↓mp_17_b, ↓mp_19_b, ↓mp_20_b, ↓mp_21_b, ↓mp_25_b, ↓mp_26_b, ↓mp_27_b, ↓mp_28_b, ↓mp_31_b, ↓mp_32_b, ↓mp_35_b, ↓mp_36_b, ↓mp_37_b, ↓mp_38_b, ↓mp_39_b, ↓mp_40_b, ↓mp_41_b, ↓mp_42_b, ↓mp_43_b, ↓ml_1_b, ↓ms_1_b, ↓ml_2_b, ↓ms_2_b, ↓ml_3_b, ↓ms_3_b, ↓ml_4_b, ↓ms_4_b, ↓ml_5_b, ↓ms_5_b, ↓ml_6_b, ↓ms_6_b, ↓ml_7_b, ↓ms_7_b, ↓ml_8_b, ↓ms_8_b, ↓ml_9_b, ↓ms_9_b, ↓ml_10_b, ↓ms_10_b, ↓ml_11_b, ↓ms_11_b, ↓ml_13_b, ↓ms_13_b, ↓ml_14_b, ↓ms_14_b, ↓ml_15_b, ↓ms_15_b, ↓ml_16_b, ↓ms_16_b, ↓ml_17_b, ↓ms_17_b, ↓ml_18_b, ↓ms_18_b, ↓ml_19_b, ↓ms_19_b, ↓ml_20_b, ↓ms_20_b, ↓ml_21_b, ↓ms_21_b, ↓ml_22_b, ↓ms_22_b, m_cl, mg_0, mp_0, mr_1, mr_2, mr_3, mr_4, mr_5, mg_6, mp_6, mr_7, mr_8, mr_9, mr_10, mr_11, mr_12, mg_13, mp_13, mg_14, mp_14, mg_15, mp_15, mg_16, mp_16, mg_17, mp_17, mr_18, mg_19, mp_19, mg_20, mp_20, mg_21, mp_21, mr_22, mr_23, mr_24, mg_25, mp_25, mg_26, mp_26, mg_27, mp_27, mg_28, mp_28, mr_29, mr_30, mg_31, mp_31, mg_32, mp_32, mr_33, mr_34, mg_35, mp_35, mg_36, mp_36, mg_37, mp_37, mg_38, mp_38, mg_39, mp_39, mg_40, mp_40, mg_41, mp_41, mg_42, mp_42, mg_43, mp_43, mr_44, mr_45, mr_46, ml_1, ms_1, ml_2, ms_2, ml_3, ms_3, ml_4, ms_4, ml_5, ms_5, ml_6, ms_6, ml_7, ms_7, ml_8, ms_8, ml_9, ms_9, ml_10, ms_10, ml_11, ms_11, ml_13, ms_13, ml_14, ms_14, ml_15, ms_15, ml_16, ms_16, ml_17, ms_17, ml_18, ms_18, ml_19, ms_19, ml_20, ms_20, ml_21, ms_21, ml_22, ms_22, h_nI, Int.cast_ofNat_Int, h_b8, Int.bmod_bmod, h_add, h_sub, h_mul, h_neg, h_zero, h_and255, h_and15, h_and3, h_cltT, h_cltF, h_cgeT, h_cgeF, h_cgtT, h_cgtF, h_cleT, h_cleF, h_ceqT, h_ceqF, h_cneT, h_cneF, m_I_uI, m_A_uI, m_I_uA, m_A_uA, m_t1, ↓reduceIte, Option.bind_some, am_ret0, am_ret1, am_ret2, if_true, if_false, true_and, and_true, false_and, and_false, not_true_eq_false, not_false_eq_true, Nat.reduceEqDiff, Nat.reduceAdd, Nat.reduceSub, Nat.reduceMul, Int.reduceAdd, Int.reduceSub, Int.reduceMul, Int.reduceNeg, Int.reduceToNat, Int.reduceLT, Int.reduceLE, Nat.add_left_cancel_iff, h14, h19]
  rw [hti, if_neg (by omega), h2, Option.bind_some]
theorem g_67n {i1 : Int32} {o2 o3 : Option Value} (h14 : μ.I 14 = 7) : am_gg (am_pr ad) d 202 67 [some (.ref m), some (.int i1), o2, o3] [] (m_t M m μ) = some (.inl none, m_t M m μ) := by
  rw [B202_67]
  simp (disch := first | assumption | omega | decide | (simp only [m_I_uI, m_A_uI, m_I_uA, m_A_uA] <;> first | assumption | omega) | fail) only [↓mp_0_b, ↓mp_6_b, ↓mp_13_b, ↓mp_14_b, ↓mp_15_b, ↓mp_16_b, ↓mp_17_b, ↓mp_19_b, ↓mp_20_b, ↓mp_21_b, ↓mp_25_b, ↓mp_26_b, ↓mp_27_b, ↓mp_28_b, ↓mp_31_b, ↓mp_32_b, ↓mp_35_b, ↓mp_36_b, ↓mp_37_b, ↓mp_38_b, ↓mp_39_b, ↓mp_40_b, ↓mp_41_b, ↓mp_42_b, ↓mp_43_b, ↓ml_1_b, ↓ms_1_b, ↓ml_2_b, ↓ms_2_b, ↓ml_3_b, ↓ms_3_b, ↓ml_4_b, ↓ms_4_b, ↓ml_5_b, ↓ms_5_b, ↓ml_6_b, ↓ms_6_b, ↓ml_7_b, ↓ms_7_b, ↓ml_8_b, ↓ms_8_b, ↓ml_9_b, ↓ms_9_b, ↓ml_10_b, ↓ms_10_b, ↓ml_11_b, ↓ms_11_b, ↓ml_13_b, ↓ms_13_b, ↓ml_14_b, ↓ms_14_b, ↓ml_15_b, ↓ms_15_b, ↓ml_16_b, ↓ms_16_b, ↓ml_17_b, ↓ms_17_b, ↓ml_18_b, ↓ms_18_b, ↓ml_19_b, ↓ms_19_b, ↓ml_20_b, ↓ms_20_b, ↓ml_21_b, ↓ms_21_b, ↓ml_22_b, ↓ms_22_b, m_cl, mg_0, mp_0, mr_1, mr_2, mr_3, mr_4, mr_5, mg_6, mp_6, mr_7, mr_8, mr_9, mr_10, mr_11, mr_12, mg_13, mp_13, mg_14, mp_14, mg_15, mp_15, mg_16, mp_16, mg_17, mp_17, mr_18, mg_19, mp_19, mg_20, mp_20, mg_21, mp_21, mr_22, mr_23, mr_24, mg_25, mp_25, mg_26, mp_26, mg_27, mp_27, mg_28, mp_28, mr_29, mr_30, mg_31, mp_31, mg_32, mp_32, mr_33, mr_34, mg_35, mp_35, mg_36, mp_36, mg_37, mp_37, mg_38, mp_38, mg_39, mp_39, mg_40, mp_40, mg_41, mp_41, mg_42, mp_42, mg_43, mp_43, mr_44, mr_45, mr_46, ml_1, ms_1, ml_2, ms_2, ml_3, ms_3, ml_4, ms_4, ml_5, ms_5, ml_6, ms_6, ml_7, ms_7, ml_8, ms_8, ml_9, ms_9, ml_10, ms_10, ml_11, ms_11, ml_13, ms_13, ml_14, ms_14, ml_15, ms_15, ml_16, ms_16, ml_17, ms_17, ml_18, ms_18, ml_19, ms_19, ml_20, ms_20, ml_21, ms_21, ml_22, ms_22, h_nI, Int.cast_ofNat_Int, h_b8, Int.bmod_bmod, h_add, h_sub, h_mul, h_neg, h_zero, h_and255, h_and15, h_and3, h_cltT, h_cltF, h_cgeT, h_cgeF, h_cgtT, h_cgtF, h_cleT, h_cleF, h_ceqT, h_ceqF, h_cneT, h_cneF, m_I_uI, m_A_uI, m_I_uA, m_A_uA, m_t1, ↓reduceIte, Option.bind_some, am_ret0, am_ret1, am_ret2, if_true, if_false, true_and, and_true, false_and, and_false, not_true_eq_false, not_false_eq_true, Nat.reduceEqDiff, Nat.reduceAdd, Nat.reduceSub, Nat.reduceMul, Int.reduceAdd, Int.reduceSub, Int.reduceMul, Int.reduceNeg, Int.reduceToNat, Int.reduceLT, Int.reduceLE, Nat.add_left_cancel_iff, h14]
theorem g_271a {i1 : Int32} {o2 o3 : Option Value} (h32 : μ.I 32 = 0) : am_gg (am_pr ad) (d + 1) 202 271 [some (.ref m), some (.int i1), o2, o3] [] (m_t M m μ) = some (.inl none, m_t M m μ) := by
  rw [B202_271]
  simp (disch := first | assumption | omega | decide | (simp only [m_I_uI, m_A_uI, m_I_uA, m_A_uA] <;> first | assumption | omega) | fail) only [↓mp_0_b, ↓mp_6_b, ↓mp_13_b, ↓mp_14_b, ↓mp_15_b, ↓mp_16_b, ↓mp_17_b, ↓mp_19_b, ↓mp_20_b, ↓mp_21_b, ↓mp_25_b, ↓mp_26_b, ↓mp_27_b, ↓mp_28_b, ↓mp_31_b, ↓mp_32_b, ↓mp_35_b, ↓mp_36_b, ↓mp_37_b, ↓mp_38_b, ↓mp_39_b, ↓mp_40_b, ↓mp_41_b, ↓mp_42_b, ↓mp_43_b, ↓ml_1_b, ↓ms_1_b, ↓ml_2_b, ↓ms_2_b, ↓ml_3_b, ↓ms_3_b, ↓ml_4_b, ↓ms_4_b, ↓ml_5_b, ↓ms_5_b, ↓ml_6_b, ↓ms_6_b, ↓ml_7_b, ↓ms_7_b, ↓ml_8_b, ↓ms_8_b, ↓ml_9_b, ↓ms_9_b, ↓ml_10_b, ↓ms_10_b, ↓ml_11_b, ↓ms_11_b, ↓ml_13_b, ↓ms_13_b, ↓ml_14_b, ↓ms_14_b, ↓ml_15_b, ↓ms_15_b, ↓ml_16_b, ↓ms_16_b, ↓ml_17_b, ↓ms_17_b, ↓ml_18_b, ↓ms_18_b, ↓ml_19_b, ↓ms_19_b, ↓ml_20_b, ↓ms_20_b, ↓ml_21_b, ↓ms_21_b, ↓ml_22_b, ↓ms_22_b, m_cl, mg_0, mp_0, mr_1, mr_2, mr_3, mr_4, mr_5, mg_6, mp_6, mr_7, mr_8, mr_9, mr_10, mr_11, mr_12, mg_13, mp_13, mg_14, mp_14, mg_15, mp_15, mg_16, mp_16, mg_17, mp_17, mr_18, mg_19, mp_19, mg_20, mp_20, mg_21, mp_21, mr_22, mr_23, mr_24, mg_25, mp_25, mg_26, mp_26, mg_27, mp_27, mg_28, mp_28, mr_29, mr_30, mg_31, mp_31, mg_32, mp_32, mr_33, mr_34, mg_35, mp_35, mg_36, mp_36, mg_37, mp_37, mg_38, mp_38, mg_39, mp_39, mg_40, mp_40, mg_41, mp_41, mg_42, mp_42, mg_43, mp_43, mr_44, mr_45, mr_46, ml_1, ms_1, ml_2, ms_2, ml_3, ms_3, ml_4, ms_4, ml_5, ms_5, ml_6, ms_6, ml_7, ms_7, ml_8, ms_8, ml_9, ms_9, ml_10, ms_10, ml_11, ms_11, ml_13, ms_13, ml_14, ms_14, ml_15, ms_15, ml_16, ms_16, ml_17, ms_17, ml_18, ms_18, ml_19, ms_19, ml_20, ms_20, ml_21, ms_21, ml_22, ms_22, h_nI, Int.cast_ofNat_Int, h_b8, Int.bmod_bmod, h_add, h_sub, h_mul, h_neg, h_zero, h_and255, h_and15, h_and3, h_cltT, h_cltF, h_cgeT, h_cgeF, h_cgtT, h_cgtF, h_cleT, h_cleF, h_ceqT, h_ceqF, h_cneT, h_cneF, m_I_uI, m_A_uI, m_I_uA, m_A_uA, m_t1, ↓reduceIte, Option.bind_some, am_ret0, am_ret1, am_ret2, if_true, if_false, true_and, and_true, false_and, and_false, not_true_eq_false, not_false_eq_true, Nat.reduceEqDiff, Nat.reduceAdd, Nat.reduceSub, Nat.reduceMul, Int.reduceAdd, Int.reduceSub, Int.reduceMul, Int.reduceNeg, Int.reduceToNat, Int.reduceLT, Int.reduceLE, Nat.add_left_cancel_iff, h32, B202_293]
theorem g_271b {i1 : Int32} {o2 o3 : Option Value} {p : Nat} (h32 : μ.I 32 = 1) (h20 : μ.I 20 = k) (hk : k < 9002) (h8 : μ.A 8 k = p) (h14 : μ.I 14 = 0) : am_gg (am_pr ad) (d + 1) 202 271 [some (.ref m), some (.int i1), o2, o3] [] (m_t M m μ) = some (.inl none, m_t M m (m_uI (m_uI μ 14 9) 15 p)) := by
  have e1 := g_flaw (M := M) (m := m) (ad := ad) (d := d) (μ := μ) (f := 9) (p := p) h14
  rw [B202_271]
  simp (disch := first | assumption | omega | decide | (simp only [m_I_uI, m_A_uI, m_I_uA, m_A_uA] <;> first | assumption | omega) | fail) only [↓mp_0_b, ↓mp_6_b, ↓mp_13_b, ↓mp_14_b, ↓mp_15_b, ↓mp_16_b, ↓mp_17_b, ↓mp_19_b, ↓mp_20_b, ↓mp_21_b, ↓mp_25_b, ↓mp_26_b, ↓mp_27_b, ↓mp_28_b, ↓mp_31_b, ↓mp_32_b, ↓mp_35_b, ↓mp_36_b, ↓mp_37_b, ↓mp_38_b, ↓mp_39_b, ↓mp_40_b, ↓mp_41_b, ↓mp_42_b, ↓mp_43_b, ↓ml_1_b, ↓ms_1_b, ↓ml_2_b, ↓ms_2_b, ↓ml_3_b, ↓ms_3_b, ↓ml_4_b, ↓ms_4_b, ↓ml_5_b, ↓ms_5_b, ↓ml_6_b, ↓ms_6_b, ↓ml_7_b, ↓ms_7_b, ↓ml_8_b, ↓ms_8_b, ↓ml_9_b, ↓ms_9_b, ↓ml_10_b, ↓ms_10_b, ↓ml_11_b, ↓ms_11_b, ↓ml_13_b, ↓ms_13_b, ↓ml_14_b, ↓ms_14_b, ↓ml_15_b, ↓ms_15_b, ↓ml_16_b, ↓ms_16_b, ↓ml_17_b, ↓ms_17_b, ↓ml_18_b, ↓ms_18_b, ↓ml_19_b, ↓ms_19_b, ↓ml_20_b, ↓ms_20_b, ↓ml_21_b, ↓ms_21_b, ↓ml_22_b, ↓ms_22_b, m_cl, mg_0, mp_0, mr_1, mr_2, mr_3, mr_4, mr_5, mg_6, mp_6, mr_7, mr_8, mr_9, mr_10, mr_11, mr_12, mg_13, mp_13, mg_14, mp_14, mg_15, mp_15, mg_16, mp_16, mg_17, mp_17, mr_18, mg_19, mp_19, mg_20, mp_20, mg_21, mp_21, mr_22, mr_23, mr_24, mg_25, mp_25, mg_26, mp_26, mg_27, mp_27, mg_28, mp_28, mr_29, mr_30, mg_31, mp_31, mg_32, mp_32, mr_33, mr_34, mg_35, mp_35, mg_36, mp_36, mg_37, mp_37, mg_38, mp_38, mg_39, mp_39, mg_40, mp_40, mg_41, mp_41, mg_42, mp_42, mg_43, mp_43, mr_44, mr_45, mr_46, ml_1, ms_1, ml_2, ms_2, ml_3, ms_3, ml_4, ms_4, ml_5, ms_5, ml_6, ms_6, ml_7, ms_7, ml_8, ms_8, ml_9, ms_9, ml_10, ms_10, ml_11, ms_11, ml_13, ms_13, ml_14, ms_14, ml_15, ms_15, ml_16, ms_16, ml_17, ms_17, ml_18, ms_18, ml_19, ms_19, ml_20, ms_20, ml_21, ms_21, ml_22, ms_22, h_nI, Int.cast_ofNat_Int, h_b8, Int.bmod_bmod, h_add, h_sub, h_mul, h_neg, h_zero, h_and255, h_and15, h_and3, h_cltT, h_cltF, h_cgeT, h_cgeF, h_cgtT, h_cgtF, h_cleT, h_cleF, h_ceqT, h_ceqF, h_cneT, h_cneF, m_I_uI, m_A_uI, m_I_uA, m_A_uA, m_t1, ↓reduceIte, Option.bind_some, am_ret0, am_ret1, am_ret2, if_true, if_false, true_and, and_true, false_and, and_false, not_true_eq_false, not_false_eq_true, Nat.reduceEqDiff, Nat.reduceAdd, Nat.reduceSub, Nat.reduceMul, Int.reduceAdd, Int.reduceSub, Int.reduceMul, Int.reduceNeg, Int.reduceToNat, Int.reduceLT, Int.reduceLE, Nat.add_left_cancel_iff, h32, h20, Int.toNat_natCast, h8, e1, B202_293]
theorem m_Lo.fr (h : m_Lo μ T W l) (hf : m_fr μ μ') : m_Lo μ' T W l := by
  obtain ⟨h1, h2, h3⟩ := h
  refine ⟨(hf.1 31 (by omega)).trans h1, h2, fun j hj => ?_⟩
  rw [hf.2.1 16 j (by omega) (by omega) (by omega), hf.2.1 17 j (by omega) (by omega) (by omega)]
  exact h3 j hj
theorem m_H.fr (h : m_H μ t W) (hf : m_fr μ μ') : m_H μ' t W := h.fT hf.fT
/-- doTool -/
theorem g_do (hT : T < 13) (hV : m_V μ t F th 0 0 0) (hH : m_H μ t W) (h19 : μ.I 19 = T) (h20 : μ.I 20 = k) (hkW : k < W.length) (hP : m_Po μ T O) (hLo : m_Lo μ T W (z_l1 l k)) (z : z_TI T O t W l k' (z_opl T l k).length) (hn : 1 ≤ (z_opl T l k).length ∧ (z_opl T l k).length ≤ 20) (hgv : (∃ j, j < (z_opl T l k).length ∧ ((z_opl T l k).getD j z_00).1 = 10) → m_F μ 11 Gv) :
    ∃ μ', am_gg (am_pr ad) (d + 9) 202 0 [some (.ref m), none, none, none] [] (m_t M m μ) = some (.inl none, m_t M m μ') ∧ m_H μ' t W ∧ μ'.I 21 = μ.I 21 ∧ m_dr μ' t F th (z_dt T O t W l k F th Gv) := by
  have hX := z.1
  have hl1 := hX.1
  have hl2 := hX.2.1
  have hpk : x_pla W t k = (W.getD k x_0).2.1 := by unfold x_pla; rw [if_pos hkW]
  -- the result is cleared
  obtain ⟨s1, hs1⟩ : ∃ s, s = m_uA (m_uI μ 32 0) 3 12 0 := ⟨_, rfl⟩
  have f1 : m_fr μ s1 := by rw [hs1]; exact (m_fr.u32 μ).trans (m_fr.u3 _)
  have e1 : am_gg (am_pr ad) (d + 9) 202 0 [some (.ref m), none, none, none] [] (m_t M m μ) = am_gg (am_pr ad) (d + 9) 202 13 [some (.ref m), some (.int (h_ii ((0 : Nat) : Int))), none, none] [] (m_t M m s1) := by
    rw [B202_0]
    simp (disch := first | assumption | omega | decide | (simp only [m_I_uI, m_A_uI, m_I_uA, m_A_uA] <;> first | assumption | omega) | fail) only [↓mp_0_b, ↓mp_6_b, ↓mp_13_b, ↓mp_14_b, ↓mp_15_b, ↓mp_16_b, ↓mp_17_b, ↓mp_19_b, ↓mp_20_b, ↓mp_21_b, ↓mp_25_b, ↓mp_26_b, ↓mp_27_b, ↓mp_28_b, ↓mp_31_b, ↓mp_32_b, ↓mp_35_b, ↓mp_36_b, ↓mp_37_b, ↓mp_38_b, ↓mp_39_b, ↓mp_40_b, ↓mp_41_b, ↓mp_42_b, ↓mp_43_b, ↓ml_1_b, ↓ms_1_b, ↓ml_2_b, ↓ms_2_b, ↓ml_3_b, ↓ms_3_b, ↓ml_4_b, ↓ms_4_b, ↓ml_5_b, ↓ms_5_b, ↓ml_6_b, ↓ms_6_b, ↓ml_7_b, ↓ms_7_b, ↓ml_8_b, ↓ms_8_b, ↓ml_9_b, ↓ms_9_b, ↓ml_10_b, ↓ms_10_b, ↓ml_11_b, ↓ms_11_b, ↓ml_13_b, ↓ms_13_b, ↓ml_14_b, ↓ms_14_b, ↓ml_15_b, ↓ms_15_b, ↓ml_16_b, ↓ms_16_b, ↓ml_17_b, ↓ms_17_b, ↓ml_18_b, ↓ms_18_b, ↓ml_19_b, ↓ms_19_b, ↓ml_20_b, ↓ms_20_b, ↓ml_21_b, ↓ms_21_b, ↓ml_22_b, ↓ms_22_b, m_cl, mg_0, mp_0, mr_1, mr_2, mr_3, mr_4, mr_5, mg_6, mp_6, mr_7, mr_8, mr_9, mr_10, mr_11, mr_12, mg_13, mp_13, mg_14, mp_14, mg_15, mp_15, mg_16, mp_16, mg_17, mp_17, mr_18, mg_19, mp_19, mg_20, mp_20, mg_21, mp_21, mr_22, mr_23, mr_24, mg_25, mp_25, mg_26, mp_26, mg_27, mp_27, mg_28, mp_28, mr_29, mr_30, mg_31, mp_31, mg_32, mp_32, mr_33, mr_34, mg_35, mp_35, mg_36, mp_36, mg_37, mp_37, mg_38, mp_38, mg_39, mp_39, mg_40, mp_40, mg_41, mp_41, mg_42, mp_42, mg_43, mp_43, mr_44, mr_45, mr_46, ml_1, ms_1, ml_2, ms_2, ml_3, ms_3, ml_4, ms_4, ml_5, ms_5, ml_6, ms_6, ml_7, ms_7, ml_8, ms_8, ml_9, ms_9, ml_10, ms_10, ml_11, ms_11, ml_13, ms_13, ml_14, ms_14, ml_15, ms_15, ml_16, ms_16, ml_17, ms_17, ml_18, ms_18, ml_19, ms_19, ml_20, ms_20, ml_21, ms_21, ml_22, ms_22, h_nI, Int.cast_ofNat_Int, h_b8, Int.bmod_bmod, h_add, h_sub, h_mul, h_neg, h_zero, h_and255, h_and15, h_and3, h_cltT, h_cltF, h_cgeT, h_cgeF, h_cgtT, h_cgtF, h_cleT, h_cleF, h_ceqT, h_ceqF, h_cneT, h_cneF, m_I_uI, m_A_uI, m_I_uA, m_A_uA, m_t1, ↓reduceIte, Option.bind_some, am_ret0, am_ret1, am_ret2, if_true, if_false, true_and, and_true, false_and, and_false, not_true_eq_false, not_false_eq_true, Nat.reduceEqDiff, Nat.reduceAdd, Nat.reduceSub, Nat.reduceMul, Int.reduceAdd, Int.reduceSub, Int.reduceMul, Int.reduceNeg, Int.reduceToNat, Int.reduceLT, Int.reduceLE, Nat.add_left_cancel_iff, B30_0]
    rw [hs1]
    try rfl
  have i32 : s1.I 32 = 0 := by rw [hs1]; simp only [m_I_uI, m_A_uI, m_I_uA, m_A_uA, if_true]
  have a312 : s1.A 3 12 = 0 := by rw [hs1]; simp only [m_I_uI, m_A_uI, m_I_uA, m_A_uA, and_self, if_true]
  have hO := hV.2.2.2.2.2
  have hV1 : m_V s1 t F th 0 0 0 := hV.giv f1 (fun y hy => by rw [hs1]; simp only [m_I_uI, m_A_uI, m_I_uA, m_A_uA, Nat.reduceEqDiff, false_and, if_false]; exact hO.1 _ (by omega)) (by rw [a312]; omega)
  have hW1 : m_W s1 [] := m_W0 hV1.2.2.2.2.2 a312 i32
  have hH1 := hH.fr f1
  have hLo1 := hLo.fr f1
  have j14 : s1.I 14 = 0 := hV1.2.2.2.2.1.1
  have j19 : s1.I 19 = T := (f1.1 19 (by omega)).trans h19
  have j20 : s1.I 20 = k := (f1.1 20 (by omega)).trans h20
  have j8 : s1.A 8 k = x_pla W t k := by rw [hpk]; exact (hH1.2.2.1 k hkW).1
  have hgv1 : (∃ j, j < (z_opl T l k).length ∧ ((z_opl T l k).getD j z_00).1 = 10) → m_F s1 11 Gv := fun w => (hgv w).fr f1 (by omega)
  -- whether the operands are there
  have e2 : ∃ i1 : Int32, am_gg (am_pr ad) (d + 9) 202 13 [some (.ref m), some (.int (h_ii ((0 : Nat) : Int))), none, none] [] (m_t M m s1) = am_gg (am_pr ad) (d + 9) 202 67 [some (.ref m), some (.int i1), none, none] [] (m_t M m (match z_to th (z_opl T l k) with
      | none => s1
      | some q => m_uI (m_uI s1 14 7) 15 (x_pla W t q))) := by
    by_cases q : T = 12
    · have e : z_opl T l k = [(10, k)] := by unfold z_opl; rw [if_pos q]
      have e' : z_to th [((10 : Int), k)] = none := by unfold z_to; rw [if_pos (.inl rfl)]; rfl
      rw [e, e']
      have h31 := hLo1.1
      have hne : 1 ≤ (z_l1 l k).length := by
        unfold z_l1
        split
        · exact Nat.le_refl _
        next w => exact List.length_pos_iff.2 w
      have h20' := hLo1.2.1
      refine ⟨h_ii ((0 : Nat) : Int), ?_⟩
      have j19' : s1.I 19 = 12 := by rw [j19, q]; rfl
      rw [B202_13]
      clear q e e' j19 hLo hLo1 hV hV1 hW1 hH hH1 hgv hgv1 z
      simp (disch := first | assumption | omega | decide | (simp only [m_I_uI, m_A_uI, m_I_uA, m_A_uA] <;> first | assumption | omega) | fail) only [↓mp_0_b, ↓mp_6_b, ↓mp_13_b, ↓mp_14_b, ↓mp_15_b, ↓mp_16_b, ↓mp_17_b, ↓mp_19_b, ↓mp_20_b, ↓mp_21_b, ↓mp_25_b, ↓mp_26_b, ↓mp_27_b, ↓mp_28_b, ↓mp_31_b, ↓mp_32_b, ↓mp_35_b, ↓mp_36_b, ↓mp_37_b, ↓mp_38_b, ↓mp_39_b, ↓mp_40_b, ↓mp_41_b, ↓mp_42_b, ↓mp_43_b, ↓ml_1_b, ↓ms_1_b, ↓ml_2_b, ↓ms_2_b, ↓ml_3_b, ↓ms_3_b, ↓ml_4_b, ↓ms_4_b, ↓ml_5_b, ↓ms_5_b, ↓ml_6_b, ↓ms_6_b, ↓ml_7_b, ↓ms_7_b, ↓ml_8_b, ↓ms_8_b, ↓ml_9_b, ↓ms_9_b, ↓ml_10_b, ↓ms_10_b, ↓ml_11_b, ↓ms_11_b, ↓ml_13_b, ↓ms_13_b, ↓ml_14_b, ↓ms_14_b, ↓ml_15_b, ↓ms_15_b, ↓ml_16_b, ↓ms_16_b, ↓ml_17_b, ↓ms_17_b, ↓ml_18_b, ↓ms_18_b, ↓ml_19_b, ↓ms_19_b, ↓ml_20_b, ↓ms_20_b, ↓ml_21_b, ↓ms_21_b, ↓ml_22_b, ↓ms_22_b, m_cl, mg_0, mp_0, mr_1, mr_2, mr_3, mr_4, mr_5, mg_6, mp_6, mr_7, mr_8, mr_9, mr_10, mr_11, mr_12, mg_13, mp_13, mg_14, mp_14, mg_15, mp_15, mg_16, mp_16, mg_17, mp_17, mr_18, mg_19, mp_19, mg_20, mp_20, mg_21, mp_21, mr_22, mr_23, mr_24, mg_25, mp_25, mg_26, mp_26, mg_27, mp_27, mg_28, mp_28, mr_29, mr_30, mg_31, mp_31, mg_32, mp_32, mr_33, mr_34, mg_35, mp_35, mg_36, mp_36, mg_37, mp_37, mg_38, mp_38, mg_39, mp_39, mg_40, mp_40, mg_41, mp_41, mg_42, mp_42, mg_43, mp_43, mr_44, mr_45, mr_46, ml_1, ms_1, ml_2, ms_2, ml_3, ms_3, ml_4, ms_4, ml_5, ms_5, ml_6, ms_6, ml_7, ms_7, ml_8, ms_8, ml_9, ms_9, ml_10, ms_10, ml_11, ms_11, ml_13, ms_13, ml_14, ms_14, ml_15, ms_15, ml_16, ms_16, ml_17, ms_17, ml_18, ms_18, ml_19, ms_19, ml_20, ms_20, ml_21, ms_21, ml_22, ms_22, h_nI, Int.cast_ofNat_Int, h_b8, Int.bmod_bmod, h_add, h_sub, h_mul, h_neg, h_zero, h_and255, h_and15, h_and3, h_cltT, h_cltF, h_cgeT, h_cgeF, h_cgtT, h_cgtF, h_cleT, h_cleF, h_ceqT, h_ceqF, h_cneT, h_cneF, m_I_uI, m_A_uI, m_I_uA, m_A_uA, m_t1, ↓reduceIte, Option.bind_some, am_ret0, am_ret1, am_ret2, if_true, if_false, true_and, and_true, false_and, and_false, not_true_eq_false, not_false_eq_true, Nat.reduceEqDiff, Nat.reduceAdd, Nat.reduceSub, Nat.reduceMul, Int.reduceAdd, Int.reduceSub, Int.reduceMul, Int.reduceNeg, Int.reduceToNat, Int.reduceLT, Int.reduceLE, Nat.add_left_cancel_iff, h31, j19']
      try rfl
    · have e : z_opl T l k = z_l1 l k := by unfold z_opl; rw [if_neg q]
      rw [e]
      obtain ⟨i1, e3⟩ := g_tY (M := M) (m := m) (ad := ad) (d := d + 8) (μ := s1) (T := T) (W := W) (l := z_l1 l k) (th := th) (pla := fun q => (x_pla W t q : Int)) (o2 := none) (o3 := none) j14 ⟨hLo1, ⟨j19, by omega⟩, fun i hi => hV1.2.1 i (by omega), hV1.2.2.2.2.2.2.2.1, fun y hy => by show s1.A 8 y = (x_pla W t y : Int); unfold x_pla; rw [if_pos hy]; exact (hH1.2.2.1 y hy).1, by omega⟩ (z_l1 l k).length 0 (by omega) (Nat.zero_le _)
      rw [List.drop_zero] at e3
      refine ⟨i1, ?_⟩
      rw [e3]
      cases z_to th (z_l1 l k) <;> rfl
  obtain ⟨i1, e2⟩ := e2
  rw [e1, e2]
  unfold z_dt
  cases hz : z_to th (z_opl T l k) with
  | some q =>
    dsimp only
    refine ⟨m_uI (m_uI s1 14 7) 15 (x_pla W t q), ?_, (hH1.u1 (by omega)).u1 (by omega), ?_, ?_, ?_, (by show (7 : Nat) < 10; decide), (by show 1 ≤ (7 : Nat); decide)⟩
    · exact g_67n (by simp only [m_I_uI, m_A_uI, m_I_uA, m_A_uA, Nat.reduceEqDiff, if_false, if_true])
    · simp only [m_I_uI, m_A_uI, m_I_uA, m_A_uA, Nat.reduceEqDiff, if_false]
      exact f1.1 21 (by omega)
    · exact (hV1.u1 (f := 14) (v := 7) (by omega)).u1 (f := 15) (by omega)
    · simp only [m_I_uI, m_A_uI, m_I_uA, m_A_uA, if_true]
  | none =>
    have hth := z_to_none _ hz
    have hTI : m_TI s1 T O t W l k (z_opl T l k).length (z_X (z_opl T l k)) (z_S F Gv (z_opl T l k)) (x_pla W t k) := by
      refine ⟨hP.fr f1, fun q => ?_, fun q => ?_, hW1, hH1, j19, j14, j20, hkW, j8⟩
      · have e : z_opl T l k = z_l1 l k := by unfold z_opl; rw [if_neg q]
        rw [e] at hn hth hgv1 ⊢
        refine ⟨⟨hLo1.1, hn⟩, fun j hj => ?_⟩
        obtain ⟨_, _, h7⟩ := hLo1.2.2 j hj
        obtain ⟨a17, b1, b2⟩ := h7 q
        have h4 := hth j hj
        unfold z_X z_S
        rw [a17]
        unfold z_rs
        by_cases w : ((z_l1 l k).getD j z_00).1 = 10
        · rw [if_pos w, if_pos w]
          exact ⟨rfl, by decide, hgv1 ⟨j, hj, w⟩⟩
        · rw [if_neg w, if_neg w]
          refine ⟨by omega, by omega, hV1.2.2.1 _ (by omega) ?_⟩
          rcases h4 with y | y
          · exact absurd y w
          · exact y
      · have e : z_opl T l k = [(10, k)] := by unfold z_opl; rw [if_pos q]
        have hne : l ≠ [] := by
          have := (z.2.2.2.2.2.2.1 q).1
          intro w
          rw [w] at this
          exact absurd this (by decide)
        have e' : z_l1 l k = l := by unfold z_l1; rw [if_neg hne]
        rw [e'] at hLo1
        rw [e] at hgv1 ⊢
        exact ⟨hgv1 ⟨0, (by simp), rfl⟩, hLo1.1, fun j hj => ⟨(hLo1.2.2 j hj).1, (hLo1.2.2 j hj).2.1⟩⟩
    have hi : T ≠ 12 → h_ii (s1.A 17 0) = h_ii (z_X (z_opl T l k) 0) := fun q => by rw [((hTI.2.1 q).2 0 (by omega)).1]
    obtain ⟨s2, o2, o3, e3, m3⟩ := g_tool (M := M) (m := m) (ad := ad) (d := d) (i1 := h_ii (s1.A 17 0)) hT hi hTI z
    have e67 := g_67 (M := M) (m := m) (ad := ad) (d := d + 9) (i1 := i1) hT j19 j14
    generalize z_S F Gv (z_opl T l k) = Sx at m3 ⊢
    generalize z_tL0 T O W l Sx (z_opl T l k).length = LL at m3 ⊢
    dsimp only
    rw [e67, e3]
    cases hu : z_tu T O (x_all W) Sx with
    | some u =>
      rw [hu] at m3
      obtain ⟨τ, g1, g2, g3⟩ := m3
      have hVt : m_V τ t F th 0 0 0 := hV1.fT g1 g2.2.2.1 g2.1
      have h32 : τ.I 32 = 0 := (g2.2.2.2.1 ⟨by simp, by simp⟩).1
      have hHt := hH1.fT g1
      refine ⟨s2, g_271a ?_, ?_, ?_, ?_, ?_, (by show (8 : Nat) < 10; decide), (by show 1 ≤ (8 : Nat); decide)⟩
      · rw [g3]; unfold m_us; simp only [m_I_uI, m_A_uI, m_I_uA, m_A_uA, Nat.reduceEqDiff, if_false]; exact h32
      · rw [g3]; exact (((hHt.u1 (by omega)).u1 (by omega)).u1 (by omega)).u1 (by omega)
      · rw [g3]; unfold m_us; simp only [m_I_uI, m_A_uI, m_I_uA, m_A_uA, Nat.reduceEqDiff, if_false]; exact (g1.1 21 (by omega)).trans (f1.1 21 (by omega))
      · rw [g3]; exact (((hVt.u1 (f := 14) (v := 8) (by omega)).u1 (f := 15) (v := (x_pla W t k : Int)) (by omega)).u1 (f := 16) (v := (u.1 : Int)) (by omega)).u1 (f := 17) (v := (u.2 : Int)) (by omega)
      · rw [g3]; unfold m_us; simp only [m_I_uI, m_A_uI, m_I_uA, m_A_uA, Nat.reduceEqDiff, if_false, if_true]
    | none =>
      rw [hu] at m3
      obtain ⟨g1, g2⟩ := m3
      have hV2 : m_V s2 t F th 0 0 0 := hV1.fT g1 g2.2.2.1 g2.1
      have hH2 := hH1.fT g1
      have j21 : s2.I 21 = μ.I 21 := (g1.1 21 (by omega)).trans (f1.1 21 (by omega))
      dsimp only
      by_cases q : x_fit LL
      · rw [z_fb_t q, if_pos rfl]
        obtain ⟨h32, hF2⟩ := g2.2.2.2.1 q
        exact ⟨s2, g_271a h32, hH2, j21, hV2, hF2⟩
      · rw [z_fb_f q, if_neg (by decide)]
        have h32 := g2.2.2.2.2.1 q
        refine ⟨m_uI (m_uI s2 14 9) 15 (x_pla W t k), g_271b h32 ((g1.1 20 (by omega)).trans j20) (by omega) ((g1.2.1 8 k (by omega) (by omega) (by omega) (by omega)).trans j8) hV2.2.2.2.2.1.1, (hH2.u1 (by omega)).u1 (by omega), ?_, ?_, ?_, (by show (9 : Nat) < 10; decide), (by show 1 ≤ (9 : Nat); decide)⟩
        · simp only [m_I_uI, m_A_uI, m_I_uA, m_A_uA, Nat.reduceEqDiff, if_false]; exact j21
        · exact (hV2.u1 (f := 14) (v := 9) (by omega)).u1 (f := 15) (by omega)
        · simp only [m_I_uI, m_A_uI, m_I_uA, m_A_uA, if_true]
end MD
