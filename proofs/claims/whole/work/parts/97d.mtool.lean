/-! A TOOL READ, IN THE REFERENCE -/
theorem x_bb_at {W : List x_T} {k i : Nat} (hk : k < W.length) (hi : i < (W.getD k x_0).2.2.length) : (x_bb W).getD (x_fo W k + i) (0, false) = (W.getD k x_0).2.2.getD i (0, false) := by
  have e : W = W.take k ++ (W.getD k x_0 :: W.drop (k + 1)) := by
    rw [List.getD_eq_getElem?_getD, List.getElem?_eq_getElem hk]
    show W = W.take k ++ (W[k] :: W.drop (k + 1))
    rw [← List.drop_eq_getElem_cons hk, List.take_append_drop]
  have l : (x_bb (W.take k)).length = x_fo W k := by
    rw [x_bb_fo, List.length_take, Nat.min_eq_left (by omega), x_fo_take (by omega)]
  have e2 : x_bb W = x_bb (W.take k) ++ ((W.getD k x_0).2.2 ++ x_bb (W.drop (k + 1))) := by
    conv => lhs; rw [e]
    rw [x_bb_app]
    rfl
  rw [e2, List.getD_eq_getElem?_getD, List.getElem?_append_right (by omega), l, Nat.add_sub_cancel_left, List.getElem?_append_left hi, ← List.getD_eq_getElem?_getD]
theorem x_pl_0 {l : List (Int × Bool)} : x_pl l = (l.getD 0 (0, false)).2 := by cases l <;> rfl
theorem z_nf_sp {l : List Int} : ∀ (n u : Nat), u ≤ z_nf l n u ∧ z_nf l n u ≤ u + n ∧ (∀ v, u ≤ v → v < z_nf l n u → l ≠ x_sb (x_tt v)) ∧ (z_nf l n u < u + n → l = x_sb (x_tt (z_nf l n u)))
  | 0, u => by
    unfold z_nf
    exact ⟨Nat.le_refl _, Nat.le_refl _, fun v a b => absurd a (by omega), fun a => absurd a (by omega)⟩
  | n + 1, u => by
    unfold z_nf
    by_cases q : l = x_sb (x_tt u)
    · rw [if_pos q]
      exact ⟨Nat.le_refl _, by omega, fun v a b => absurd a (by omega), fun _ => q⟩
    · rw [if_neg q]
      obtain ⟨a, b, c, e⟩ := z_nf_sp (l := l) n (u + 1)
      refine ⟨by omega, by omega, fun v h1 h2 => ?_, fun h => e (by omega)⟩
      by_cases q2 : v = u
      · rw [q2]; exact q
      · exact c v (by omega) h2
theorem z_nm_sp {l : List Int} : z_nm l ≤ 13 ∧ (∀ u, u < z_nm l → l ≠ x_sb (x_tt u)) ∧ (z_nm l < 13 → l = x_sb (x_tt (z_nm l))) := by
  obtain ⟨a, b, c, e⟩ := z_nf_sp (l := l) 13 0
  unfold z_nm
  exact ⟨by omega, fun u h => c u (Nat.zero_le _) h, fun h => e (by omega)⟩
section MTL
variable {M : am_M} {m : Nat} {μ : m_S} {ad : Nat → Nat} {d : Nat} {t : List Int} {W : List x_T} {T : Nat} {O : z_O} {first : Bool}
/-- the options, word by word -/
theorem g_os {i1 i2 : Int32} (hX : x_tok t W) (hT : T < 13) : ∀ (f k : Nat) {μ : m_S} {O : z_O}, W.length + 1 - k ≤ f → k ≤ W.length → m_H μ t W → μ.I 6 = t.length → μ.I 19 = T → μ.I 14 = 0 → m_Po μ T O →
    ∃ μ' k', am_gg (am_pr ad) (d + 6) 179 103 [some (.ref m), some (.int i1), some (.int i2), some (.int (h_ii k))] [] (m_t M m μ) = am_gg (am_pr ad) (d + 6) 179 168 [some (.ref m), some (.int i1), some (.int i2), some (.int (h_ii k'))] [] (m_t M m μ') ∧ (match z_os T W t f k O with
      | .inl x => ∃ μ1, m_fP μ μ1 ∧ μ' = m_uI (m_uI μ1 14 x.1) 15 x.2
      | .inr y => k' = y.2 ∧ m_fP μ μ' ∧ m_Po μ' T y.1 ∧ y.2 ≤ W.length)
  | 0, k, μ, O, hf, hk, hH, h6, h19, h14, hP => by omega
  | f + 1, k, μ, O, hf, hk, hH, h6, h19, h14, hP => by
    have hW := hX.2.1
    have ht9 := hX.1
    have hl9 := hX.2.2.2.2.2.2.1
    have e1 := g_isw (M := M) (m := m) (ad := ad) (d := d + 5) (k := k) hH hX (by omega)
    have done : z_iso W k = false → am_gg (am_pr ad) (d + 6) 179 103 [some (.ref m), some (.int i1), some (.int i2), some (.int (h_ii k))] [] (m_t M m μ) = am_gg (am_pr ad) (d + 6) 179 168 [some (.ref m), some (.int i1), some (.int i2), some (.int (h_ii k))] [] (m_t M m μ) → ∃ μ' k', am_gg (am_pr ad) (d + 6) 179 103 [some (.ref m), some (.int i1), some (.int i2), some (.int (h_ii k))] [] (m_t M m μ) = am_gg (am_pr ad) (d + 6) 179 168 [some (.ref m), some (.int i1), some (.int i2), some (.int (h_ii k'))] [] (m_t M m μ') ∧ (match z_os T W t (f + 1) k O with
      | .inl x => ∃ μ1, m_fP μ μ1 ∧ μ' = m_uI (m_uI μ1 14 x.1) 15 x.2
      | .inr y => k' = y.2 ∧ m_fP μ μ' ∧ m_Po μ' T y.1 ∧ y.2 ≤ W.length) := by
      intro h1 h2
      have hz : z_os T W t (f + 1) k O = .inr (O, k) := by
        unfold z_os
        rw [if_neg (by rw [h1]; decide)]
      rw [hz]
      exact ⟨μ, (k : Int), h2, rfl, m_fP.refl μ, hP, hk⟩
    by_cases q : x_isw W k = true
    · have hkl := x_isw_lt q
      rw [q] at e1
      have a9 : μ.A 9 k = x_fo W k := (hH.2.2.1 k hkl).2.2.1
      have a10 : μ.A 10 k = (W.getD k x_0).2.2.length := (hH.2.2.1 k hkl).2.2.2
      have hfo := x_fo_len (W := W) (k := k + 1)
      have hf1 : x_fo W (k + 1) = x_fo W k + (W.getD k x_0).2.2.length := rfl
      by_cases q2 : 1 < (W.getD k x_0).2.2.length
      · have hU := hH.U hX
        have e2 := g_at (M := M) (m := m) (ad := ad) (d := d + 5) (i := x_fo W k) hU (by omega)
        have hb := z_vi (i := x_fo W k) hX.2.2.2.2.1
        by_cases q3 : (x_all W).getD (x_fo W k) 0 = 45
        · have a7 : μ.A 7 (x_fo W k) = x_01 (x_pl (W.getD k x_0).2.2) := by
            have hbl := x_bb_fo W
            have hmono := x_fo_le W (show k + 1 ≤ W.length by omega)
            have := (hH.2.2.2.1 (x_fo W k) (by omega)).2
            rw [this, x_pl_0, ← x_bb_at (i := 0) hkl (by omega), Nat.add_zero]
            rfl
          by_cases q4 : x_pl (W.getD k x_0).2.2 = true
          · have hz : z_iso W k = true := by
              unfold z_iso
              rw [q, q4, decide_eq_true q2, decide_eq_true q3]
              rfl
            obtain ⟨s2, v, e4, r4⟩ := g_opw (M := M) (m := m) (ad := ad) (d := d) hX hT hkl (by omega) hH h6 h19 h14 hP
            have hzs : z_os T W t (f + 1) k O = (match z_ow T W t k ((W.getD k x_0).2.2.length - 1) (x_fo W k + 1) O with
              | .inl x => .inl x
              | .inr r => z_os T W t f r.2 r.1) := by
              conv => lhs; unfold z_os
              rw [if_pos hz]
              cases z_ow T W t k ((W.getD k x_0).2.2.length - 1) (x_fo W k + 1) O <;> rfl
            rw [hzs]
            rw [q4] at a7
            have eo : am_gg (am_pr ad) (d + 6) 179 103 [some (.ref m), some (.int i1), some (.int i2), some (.int (h_ii k))] [] (m_t M m μ) = am_gg (am_pr ad) (d + 6) 179 103 [some (.ref m), some (.int i1), some (.int i2), some (.int (h_ii (v + 1)))] [] (m_t M m s2) := by
              rw [B179_103]
              simp (disch := first | assumption | omega | decide | (simp only [m_I_uI, m_A_uI, m_I_uA, m_A_uA] <;> first | assumption | omega) | fail) only [↓mp_0_b, ↓mp_6_b, ↓mp_13_b, ↓mp_14_b, ↓mp_15_b, ↓mp_16_b, ↓mp_17_b, ↓mp_19_b, ↓mp_20_b, ↓mp_21_b, ↓mp_25_b, ↓mp_26_b, ↓mp_27_b, ↓mp_28_b, ↓mp_31_b, ↓mp_32_b, ↓mp_35_b, ↓mp_36_b, ↓mp_37_b, ↓mp_38_b, ↓mp_39_b, ↓mp_40_b, ↓mp_41_b, ↓mp_42_b, ↓mp_43_b, ↓ml_1_b, ↓ms_1_b, ↓ml_2_b, ↓ms_2_b, ↓ml_3_b, ↓ms_3_b, ↓ml_4_b, ↓ms_4_b, ↓ml_5_b, ↓ms_5_b, ↓ml_6_b, ↓ms_6_b, ↓ml_7_b, ↓ms_7_b, ↓ml_8_b, ↓ms_8_b, ↓ml_9_b, ↓ms_9_b, ↓ml_10_b, ↓ms_10_b, ↓ml_11_b, ↓ms_11_b, ↓ml_13_b, ↓ms_13_b, ↓ml_14_b, ↓ms_14_b, ↓ml_15_b, ↓ms_15_b, ↓ml_16_b, ↓ms_16_b, ↓ml_17_b, ↓ms_17_b, ↓ml_18_b, ↓ms_18_b, ↓ml_19_b, ↓ms_19_b, ↓ml_20_b, ↓ms_20_b, ↓ml_21_b, ↓ms_21_b, ↓ml_22_b, ↓ms_22_b, m_cl, mg_0, mp_0, mr_1, mr_2, mr_3, mr_4, mr_5, mg_6, mp_6, mr_7, mr_8, mr_9, mr_10, mr_11, mr_12, mg_13, mp_13, mg_14, mp_14, mg_15, mp_15, mg_16, mp_16, mg_17, mp_17, mr_18, mg_19, mp_19, mg_20, mp_20, mg_21, mp_21, mr_22, mr_23, mr_24, mg_25, mp_25, mg_26, mp_26, mg_27, mp_27, mg_28, mp_28, mr_29, mr_30, mg_31, mp_31, mg_32, mp_32, mr_33, mr_34, mg_35, mp_35, mg_36, mp_36, mg_37, mp_37, mg_38, mp_38, mg_39, mp_39, mg_40, mp_40, mg_41, mp_41, mg_42, mp_42, mg_43, mp_43, mr_44, mr_45, mr_46, ml_1, ms_1, ml_2, ms_2, ml_3, ms_3, ml_4, ms_4, ml_5, ms_5, ml_6, ms_6, ml_7, ms_7, ml_8, ms_8, ml_9, ms_9, ml_10, ms_10, ml_11, ms_11, ml_13, ms_13, ml_14, ms_14, ml_15, ms_15, ml_16, ms_16, ml_17, ms_17, ml_18, ms_18, ml_19, ms_19, ml_20, ms_20, ml_21, ms_21, ml_22, ms_22, h_nI, Int.cast_ofNat_Int, h_b8, Int.bmod_bmod, h_add, h_sub, h_mul, h_neg, h_zero, h_and255, h_and15, h_and3, h_cltT, h_cltF, h_cgeT, h_cgeF, h_cgtT, h_cgtF, h_cleT, h_cleF, h_ceqT, h_ceqF, h_cneT, h_cneF, m_I_uI, m_A_uI, m_I_uA, m_A_uA, m_t1, ↓reduceIte, Option.bind_some, am_ret0, am_ret1, am_ret2, if_true, if_false, true_and, and_true, false_and, and_false, not_true_eq_false, not_false_eq_true, Nat.reduceEqDiff, Nat.reduceAdd, Nat.reduceSub, Nat.reduceMul, Int.reduceAdd, Int.reduceSub, Int.reduceMul, Int.reduceNeg, Int.reduceToNat, Int.reduceLT, Int.reduceLE, Nat.add_left_cancel_iff, h14, e1, x_01, Int.toNat_natCast, a10, a9, e2, q3, a7, e4]
            rw [eo]
            cases hzo : z_ow T W t k ((W.getD k x_0).2.2.length - 1) (x_fo W k + 1) O with
            | inl x =>
              rw [hzo] at r4
              obtain ⟨r1, μ1, r2, r3⟩ := r4
              have h4 : x.1 = 4 ∨ x.1 = 5 := z_ow_code _ _ _ hzo
              have i14 : s2.I 14 = x.1 := by rw [r3]; simp only [m_I_uI, m_A_uI, m_I_uA, m_A_uA, Nat.reduceEqDiff, if_true, if_false]
              refine ⟨s2, v + 1, ?_, μ1, r2, r3⟩
              rw [B179_103]
              simp (disch := first | assumption | omega | decide | (simp only [m_I_uI, m_A_uI, m_I_uA, m_A_uA] <;> first | assumption | omega) | fail) only [↓mp_0_b, ↓mp_6_b, ↓mp_13_b, ↓mp_14_b, ↓mp_15_b, ↓mp_16_b, ↓mp_17_b, ↓mp_19_b, ↓mp_20_b, ↓mp_21_b, ↓mp_25_b, ↓mp_26_b, ↓mp_27_b, ↓mp_28_b, ↓mp_31_b, ↓mp_32_b, ↓mp_35_b, ↓mp_36_b, ↓mp_37_b, ↓mp_38_b, ↓mp_39_b, ↓mp_40_b, ↓mp_41_b, ↓mp_42_b, ↓mp_43_b, ↓ml_1_b, ↓ms_1_b, ↓ml_2_b, ↓ms_2_b, ↓ml_3_b, ↓ms_3_b, ↓ml_4_b, ↓ms_4_b, ↓ml_5_b, ↓ms_5_b, ↓ml_6_b, ↓ms_6_b, ↓ml_7_b, ↓ms_7_b, ↓ml_8_b, ↓ms_8_b, ↓ml_9_b, ↓ms_9_b, ↓ml_10_b, ↓ms_10_b, ↓ml_11_b, ↓ms_11_b, ↓ml_13_b, ↓ms_13_b, ↓ml_14_b, ↓ms_14_b, ↓ml_15_b, ↓ms_15_b, ↓ml_16_b, ↓ms_16_b, ↓ml_17_b, ↓ms_17_b, ↓ml_18_b, ↓ms_18_b, ↓ml_19_b, ↓ms_19_b, ↓ml_20_b, ↓ms_20_b, ↓ml_21_b, ↓ms_21_b, ↓ml_22_b, ↓ms_22_b, m_cl, mg_0, mp_0, mr_1, mr_2, mr_3, mr_4, mr_5, mg_6, mp_6, mr_7, mr_8, mr_9, mr_10, mr_11, mr_12, mg_13, mp_13, mg_14, mp_14, mg_15, mp_15, mg_16, mp_16, mg_17, mp_17, mr_18, mg_19, mp_19, mg_20, mp_20, mg_21, mp_21, mr_22, mr_23, mr_24, mg_25, mp_25, mg_26, mp_26, mg_27, mp_27, mg_28, mp_28, mr_29, mr_30, mg_31, mp_31, mg_32, mp_32, mr_33, mr_34, mg_35, mp_35, mg_36, mp_36, mg_37, mp_37, mg_38, mp_38, mg_39, mp_39, mg_40, mp_40, mg_41, mp_41, mg_42, mp_42, mg_43, mp_43, mr_44, mr_45, mr_46, ml_1, ms_1, ml_2, ms_2, ml_3, ms_3, ml_4, ms_4, ml_5, ms_5, ml_6, ms_6, ml_7, ms_7, ml_8, ms_8, ml_9, ms_9, ml_10, ms_10, ml_11, ms_11, ml_13, ms_13, ml_14, ms_14, ml_15, ms_15, ml_16, ms_16, ml_17, ms_17, ml_18, ms_18, ml_19, ms_19, ml_20, ms_20, ml_21, ms_21, ml_22, ms_22, h_nI, Int.cast_ofNat_Int, h_b8, Int.bmod_bmod, h_add, h_sub, h_mul, h_neg, h_zero, h_and255, h_and15, h_and3, h_cltT, h_cltF, h_cgeT, h_cgeF, h_cgtT, h_cgtF, h_cleT, h_cleF, h_ceqT, h_ceqF, h_cneT, h_cneF, m_I_uI, m_A_uI, m_I_uA, m_A_uA, m_t1, ↓reduceIte, Option.bind_some, am_ret0, am_ret1, am_ret2, if_true, if_false, true_and, and_true, false_and, and_false, not_true_eq_false, not_false_eq_true, Nat.reduceEqDiff, Nat.reduceAdd, Nat.reduceSub, Nat.reduceMul, Int.reduceAdd, Int.reduceSub, Int.reduceMul, Int.reduceNeg, Int.reduceToNat, Int.reduceLT, Int.reduceLE, Nat.add_left_cancel_iff, i14]
            | inr y =>
              rw [hzo] at r4
              obtain ⟨r1, r2, r3⟩ := r4
              have hy := z_ow_up _ _ _ y hzo hkl
              obtain ⟨s3, k', e5, r5⟩ := g_os hX hT f y.2 (μ := s2) (O := y.1) (by omega) hy.2 (hH.fP r2) ((r2.1 6 (by omega)).trans h6) ((r2.1 19 (by omega)).trans h19) ((r2.1 14 (by omega)).trans h14) r3
              refine ⟨s3, k', ?_, ?_⟩
              · rw [r1]
                exact e5
              · dsimp only
                cases hz2 : z_os T W t f y.2 y.1 with
                | inl x =>
                  rw [hz2] at r5
                  obtain ⟨μ1, r6, r7⟩ := r5
                  exact ⟨μ1, r2.trans r6, r7⟩
                | inr x =>
                  rw [hz2] at r5
                  obtain ⟨r6, r7, r8⟩ := r5
                  exact ⟨r6, r2.trans r7, r8⟩
          · have hz : z_iso W k = false := by
              unfold z_iso
              rw [Bool.eq_false_iff.2 q4, Bool.false_and, Bool.and_false]
            rw [Bool.eq_false_iff.2 q4] at a7
            refine done hz ?_
            rw [B179_103]
            simp (disch := first | assumption | omega | decide | (simp only [m_I_uI, m_A_uI, m_I_uA, m_A_uA] <;> first | assumption | omega) | fail) only [↓mp_0_b, ↓mp_6_b, ↓mp_13_b, ↓mp_14_b, ↓mp_15_b, ↓mp_16_b, ↓mp_17_b, ↓mp_19_b, ↓mp_20_b, ↓mp_21_b, ↓mp_25_b, ↓mp_26_b, ↓mp_27_b, ↓mp_28_b, ↓mp_31_b, ↓mp_32_b, ↓mp_35_b, ↓mp_36_b, ↓mp_37_b, ↓mp_38_b, ↓mp_39_b, ↓mp_40_b, ↓mp_41_b, ↓mp_42_b, ↓mp_43_b, ↓ml_1_b, ↓ms_1_b, ↓ml_2_b, ↓ms_2_b, ↓ml_3_b, ↓ms_3_b, ↓ml_4_b, ↓ms_4_b, ↓ml_5_b, ↓ms_5_b, ↓ml_6_b, ↓ms_6_b, ↓ml_7_b, ↓ms_7_b, ↓ml_8_b, ↓ms_8_b, ↓ml_9_b, ↓ms_9_b, ↓ml_10_b, ↓ms_10_b, ↓ml_11_b, ↓ms_11_b, ↓ml_13_b, ↓ms_13_b, ↓ml_14_b, ↓ms_14_b, ↓ml_15_b, ↓ms_15_b, ↓ml_16_b, ↓ms_16_b, ↓ml_17_b, ↓ms_17_b, ↓ml_18_b, ↓ms_18_b, ↓ml_19_b, ↓ms_19_b, ↓ml_20_b, ↓ms_20_b, ↓ml_21_b, ↓ms_21_b, ↓ml_22_b, ↓ms_22_b, m_cl, mg_0, mp_0, mr_1, mr_2, mr_3, mr_4, mr_5, mg_6, mp_6, mr_7, mr_8, mr_9, mr_10, mr_11, mr_12, mg_13, mp_13, mg_14, mp_14, mg_15, mp_15, mg_16, mp_16, mg_17, mp_17, mr_18, mg_19, mp_19, mg_20, mp_20, mg_21, mp_21, mr_22, mr_23, mr_24, mg_25, mp_25, mg_26, mp_26, mg_27, mp_27, mg_28, mp_28, mr_29, mr_30, mg_31, mp_31, mg_32, mp_32, mr_33, mr_34, mg_35, mp_35, mg_36, mp_36, mg_37, mp_37, mg_38, mp_38, mg_39, mp_39, mg_40, mp_40, mg_41, mp_41, mg_42, mp_42, mg_43, mp_43, mr_44, mr_45, mr_46, ml_1, ms_1, ml_2, ms_2, ml_3, ms_3, ml_4, ms_4, ml_5, ms_5, ml_6, ms_6, ml_7, ms_7, ml_8, ms_8, ml_9, ms_9, ml_10, ms_10, ml_11, ms_11, ml_13, ms_13, ml_14, ms_14, ml_15, ms_15, ml_16, ms_16, ml_17, ms_17, ml_18, ms_18, ml_19, ms_19, ml_20, ms_20, ml_21, ms_21, ml_22, ms_22, h_nI, Int.cast_ofNat_Int, h_b8, Int.bmod_bmod, h_add, h_sub, h_mul, h_neg, h_zero, h_and255, h_and15, h_and3, h_cltT, h_cltF, h_cgeT, h_cgeF, h_cgtT, h_cgtF, h_cleT, h_cleF, h_ceqT, h_ceqF, h_cneT, h_cneF, m_I_uI, m_A_uI, m_I_uA, m_A_uA, m_t1, ↓reduceIte, Option.bind_some, am_ret0, am_ret1, am_ret2, if_true, if_false, true_and, and_true, false_and, and_false, not_true_eq_false, not_false_eq_true, Nat.reduceEqDiff, Nat.reduceAdd, Nat.reduceSub, Nat.reduceMul, Int.reduceAdd, Int.reduceSub, Int.reduceMul, Int.reduceNeg, Int.reduceToNat, Int.reduceLT, Int.reduceLE, Nat.add_left_cancel_iff, h14, e1, x_01, Int.toNat_natCast, a10, a9, e2, q3, a7, Bool.false_eq_true]
        · have hz : z_iso W k = false := by
            unfold z_iso
            rw [decide_eq_false q3, Bool.and_false, Bool.and_false, Bool.and_false]
          refine done hz ?_
          rw [B179_103]
          simp (disch := first | assumption | omega | decide | (simp only [m_I_uI, m_A_uI, m_I_uA, m_A_uA] <;> first | assumption | omega) | fail) only [↓mp_0_b, ↓mp_6_b, ↓mp_13_b, ↓mp_14_b, ↓mp_15_b, ↓mp_16_b, ↓mp_17_b, ↓mp_19_b, ↓mp_20_b, ↓mp_21_b, ↓mp_25_b, ↓mp_26_b, ↓mp_27_b, ↓mp_28_b, ↓mp_31_b, ↓mp_32_b, ↓mp_35_b, ↓mp_36_b, ↓mp_37_b, ↓mp_38_b, ↓mp_39_b, ↓mp_40_b, ↓mp_41_b, ↓mp_42_b, ↓mp_43_b, ↓ml_1_b, ↓ms_1_b, ↓ml_2_b, ↓ms_2_b, ↓ml_3_b, ↓ms_3_b, ↓ml_4_b, ↓ms_4_b, ↓ml_5_b, ↓ms_5_b, ↓ml_6_b, ↓ms_6_b, ↓ml_7_b, ↓ms_7_b, ↓ml_8_b, ↓ms_8_b, ↓ml_9_b, ↓ms_9_b, ↓ml_10_b, ↓ms_10_b, ↓ml_11_b, ↓ms_11_b, ↓ml_13_b, ↓ms_13_b, ↓ml_14_b, ↓ms_14_b, ↓ml_15_b, ↓ms_15_b, ↓ml_16_b, ↓ms_16_b, ↓ml_17_b, ↓ms_17_b, ↓ml_18_b, ↓ms_18_b, ↓ml_19_b, ↓ms_19_b, ↓ml_20_b, ↓ms_20_b, ↓ml_21_b, ↓ms_21_b, ↓ml_22_b, ↓ms_22_b, m_cl, mg_0, mp_0, mr_1, mr_2, mr_3, mr_4, mr_5, mg_6, mp_6, mr_7, mr_8, mr_9, mr_10, mr_11, mr_12, mg_13, mp_13, mg_14, mp_14, mg_15, mp_15, mg_16, mp_16, mg_17, mp_17, mr_18, mg_19, mp_19, mg_20, mp_20, mg_21, mp_21, mr_22, mr_23, mr_24, mg_25, mp_25, mg_26, mp_26, mg_27, mp_27, mg_28, mp_28, mr_29, mr_30, mg_31, mp_31, mg_32, mp_32, mr_33, mr_34, mg_35, mp_35, mg_36, mp_36, mg_37, mp_37, mg_38, mp_38, mg_39, mp_39, mg_40, mp_40, mg_41, mp_41, mg_42, mp_42, mg_43, mp_43, mr_44, mr_45, mr_46, ml_1, ms_1, ml_2, ms_2, ml_3, ms_3, ml_4, ms_4, ml_5, ms_5, ml_6, ms_6, ml_7, ms_7, ml_8, ms_8, ml_9, ms_9, ml_10, ms_10, ml_11, ms_11, ml_13, ms_13, ml_14, ms_14, ml_15, ms_15, ml_16, ms_16, ml_17, ms_17, ml_18, ms_18, ml_19, ms_19, ml_20, ms_20, ml_21, ms_21, ml_22, ms_22, h_nI, Int.cast_ofNat_Int, h_b8, Int.bmod_bmod, h_add, h_sub, h_mul, h_neg, h_zero, h_and255, h_and15, h_and3, h_cltT, h_cltF, h_cgeT, h_cgeF, h_cgtT, h_cgtF, h_cleT, h_cleF, h_ceqT, h_ceqF, h_cneT, h_cneF, m_I_uI, m_A_uI, m_I_uA, m_A_uA, m_t1, ↓reduceIte, Option.bind_some, am_ret0, am_ret1, am_ret2, if_true, if_false, true_and, and_true, false_and, and_false, not_true_eq_false, not_false_eq_true, Nat.reduceEqDiff, Nat.reduceAdd, Nat.reduceSub, Nat.reduceMul, Int.reduceAdd, Int.reduceSub, Int.reduceMul, Int.reduceNeg, Int.reduceToNat, Int.reduceLT, Int.reduceLE, Nat.add_left_cancel_iff, h14, e1, x_01, Int.toNat_natCast, a10, a9, e2]
      · have hz : z_iso W k = false := by
          unfold z_iso
          rw [decide_eq_false q2, Bool.false_and, Bool.and_false, Bool.and_false]
        refine done hz ?_
        rw [B179_103]
        simp (disch := first | assumption | omega | decide | (simp only [m_I_uI, m_A_uI, m_I_uA, m_A_uA] <;> first | assumption | omega) | fail) only [↓mp_0_b, ↓mp_6_b, ↓mp_13_b, ↓mp_14_b, ↓mp_15_b, ↓mp_16_b, ↓mp_17_b, ↓mp_19_b, ↓mp_20_b, ↓mp_21_b, ↓mp_25_b, ↓mp_26_b, ↓mp_27_b, ↓mp_28_b, ↓mp_31_b, ↓mp_32_b, ↓mp_35_b, ↓mp_36_b, ↓mp_37_b, ↓mp_38_b, ↓mp_39_b, ↓mp_40_b, ↓mp_41_b, ↓mp_42_b, ↓mp_43_b, ↓ml_1_b, ↓ms_1_b, ↓ml_2_b, ↓ms_2_b, ↓ml_3_b, ↓ms_3_b, ↓ml_4_b, ↓ms_4_b, ↓ml_5_b, ↓ms_5_b, ↓ml_6_b, ↓ms_6_b, ↓ml_7_b, ↓ms_7_b, ↓ml_8_b, ↓ms_8_b, ↓ml_9_b, ↓ms_9_b, ↓ml_10_b, ↓ms_10_b, ↓ml_11_b, ↓ms_11_b, ↓ml_13_b, ↓ms_13_b, ↓ml_14_b, ↓ms_14_b, ↓ml_15_b, ↓ms_15_b, ↓ml_16_b, ↓ms_16_b, ↓ml_17_b, ↓ms_17_b, ↓ml_18_b, ↓ms_18_b, ↓ml_19_b, ↓ms_19_b, ↓ml_20_b, ↓ms_20_b, ↓ml_21_b, ↓ms_21_b, ↓ml_22_b, ↓ms_22_b, m_cl, mg_0, mp_0, mr_1, mr_2, mr_3, mr_4, mr_5, mg_6, mp_6, mr_7, mr_8, mr_9, mr_10, mr_11, mr_12, mg_13, mp_13, mg_14, mp_14, mg_15, mp_15, mg_16, mp_16, mg_17, mp_17, mr_18, mg_19, mp_19, mg_20, mp_20, mg_21, mp_21, mr_22, mr_23, mr_24, mg_25, mp_25, mg_26, mp_26, mg_27, mp_27, mg_28, mp_28, mr_29, mr_30, mg_31, mp_31, mg_32, mp_32, mr_33, mr_34, mg_35, mp_35, mg_36, mp_36, mg_37, mp_37, mg_38, mp_38, mg_39, mp_39, mg_40, mp_40, mg_41, mp_41, mg_42, mp_42, mg_43, mp_43, mr_44, mr_45, mr_46, ml_1, ms_1, ml_2, ms_2, ml_3, ms_3, ml_4, ms_4, ml_5, ms_5, ml_6, ms_6, ml_7, ms_7, ml_8, ms_8, ml_9, ms_9, ml_10, ms_10, ml_11, ms_11, ml_13, ms_13, ml_14, ms_14, ml_15, ms_15, ml_16, ms_16, ml_17, ms_17, ml_18, ms_18, ml_19, ms_19, ml_20, ms_20, ml_21, ms_21, ml_22, ms_22, h_nI, Int.cast_ofNat_Int, h_b8, Int.bmod_bmod, h_add, h_sub, h_mul, h_neg, h_zero, h_and255, h_and15, h_and3, h_cltT, h_cltF, h_cgeT, h_cgeF, h_cgtT, h_cgtF, h_cleT, h_cleF, h_ceqT, h_ceqF, h_cneT, h_cneF, m_I_uI, m_A_uI, m_I_uA, m_A_uA, m_t1, ↓reduceIte, Option.bind_some, am_ret0, am_ret1, am_ret2, if_true, if_false, true_and, and_true, false_and, and_false, not_true_eq_false, not_false_eq_true, Nat.reduceEqDiff, Nat.reduceAdd, Nat.reduceSub, Nat.reduceMul, Int.reduceAdd, Int.reduceSub, Int.reduceMul, Int.reduceNeg, Int.reduceToNat, Int.reduceLT, Int.reduceLE, Nat.add_left_cancel_iff, h14, e1, x_01, Int.toNat_natCast, a10]
    · have hz : z_iso W k = false := by
        unfold z_iso
        rw [Bool.eq_false_iff.2 q, Bool.false_and]
      rw [Bool.eq_false_iff.2 q] at e1
      refine done hz ?_
      rw [B179_103]
      simp (disch := first | assumption | omega | decide | (simp only [m_I_uI, m_A_uI, m_I_uA, m_A_uA] <;> first | assumption | omega) | fail) only [↓mp_0_b, ↓mp_6_b, ↓mp_13_b, ↓mp_14_b, ↓mp_15_b, ↓mp_16_b, ↓mp_17_b, ↓mp_19_b, ↓mp_20_b, ↓mp_21_b, ↓mp_25_b, ↓mp_26_b, ↓mp_27_b, ↓mp_28_b, ↓mp_31_b, ↓mp_32_b, ↓mp_35_b, ↓mp_36_b, ↓mp_37_b, ↓mp_38_b, ↓mp_39_b, ↓mp_40_b, ↓mp_41_b, ↓mp_42_b, ↓mp_43_b, ↓ml_1_b, ↓ms_1_b, ↓ml_2_b, ↓ms_2_b, ↓ml_3_b, ↓ms_3_b, ↓ml_4_b, ↓ms_4_b, ↓ml_5_b, ↓ms_5_b, ↓ml_6_b, ↓ms_6_b, ↓ml_7_b, ↓ms_7_b, ↓ml_8_b, ↓ms_8_b, ↓ml_9_b, ↓ms_9_b, ↓ml_10_b, ↓ms_10_b, ↓ml_11_b, ↓ms_11_b, ↓ml_13_b, ↓ms_13_b, ↓ml_14_b, ↓ms_14_b, ↓ml_15_b, ↓ms_15_b, ↓ml_16_b, ↓ms_16_b, ↓ml_17_b, ↓ms_17_b, ↓ml_18_b, ↓ms_18_b, ↓ml_19_b, ↓ms_19_b, ↓ml_20_b, ↓ms_20_b, ↓ml_21_b, ↓ms_21_b, ↓ml_22_b, ↓ms_22_b, m_cl, mg_0, mp_0, mr_1, mr_2, mr_3, mr_4, mr_5, mg_6, mp_6, mr_7, mr_8, mr_9, mr_10, mr_11, mr_12, mg_13, mp_13, mg_14, mp_14, mg_15, mp_15, mg_16, mp_16, mg_17, mp_17, mr_18, mg_19, mp_19, mg_20, mp_20, mg_21, mp_21, mr_22, mr_23, mr_24, mg_25, mp_25, mg_26, mp_26, mg_27, mp_27, mg_28, mp_28, mr_29, mr_30, mg_31, mp_31, mg_32, mp_32, mr_33, mr_34, mg_35, mp_35, mg_36, mp_36, mg_37, mp_37, mg_38, mp_38, mg_39, mp_39, mg_40, mp_40, mg_41, mp_41, mg_42, mp_42, mg_43, mp_43, mr_44, mr_45, mr_46, ml_1, ms_1, ml_2, ms_2, ml_3, ms_3, ml_4, ms_4, ml_5, ms_5, ml_6, ms_6, ml_7, ms_7, ml_8, ms_8, ml_9, ms_9, ml_10, ms_10, ml_11, ms_11, ml_13, ms_13, ml_14, ms_14, ml_15, ms_15, ml_16, ms_16, ml_17, ms_17, ml_18, ms_18, ml_19, ms_19, ml_20, ms_20, ml_21, ms_21, ml_22, ms_22, h_nI, Int.cast_ofNat_Int, h_b8, Int.bmod_bmod, h_add, h_sub, h_mul, h_neg, h_zero, h_and255, h_and15, h_and3, h_cltT, h_cltF, h_cgeT, h_cgeF, h_cgtT, h_cgtF, h_cleT, h_cleF, h_ceqT, h_ceqF, h_cneT, h_cneF, m_I_uI, m_A_uI, m_I_uA, m_A_uA, m_t1, ↓reduceIte, Option.bind_some, am_ret0, am_ret1, am_ret2, if_true, if_false, true_and, and_true, false_and, and_false, not_true_eq_false, not_false_eq_true, Nat.reduceEqDiff, Nat.reduceAdd, Nat.reduceSub, Nat.reduceMul, Int.reduceAdd, Int.reduceSub, Int.reduceMul, Int.reduceNeg, Int.reduceToNat, Int.reduceLT, Int.reduceLE, Nat.add_left_cancel_iff, h14, e1, x_01, Bool.false_eq_true]
end MTL
