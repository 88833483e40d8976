/-! WC, IN THE REFERENCE -/
theorem x_ru_in {p : Int → Bool} {w : List Int} : ∀ (n i j : Nat), w.length - i = n → i ≤ j → j < x_ru p w i → p (w.getD j 0) = true
  | 0, i, j, hn, h1, h2 => by
    rw [x_ru_end (by omega)] at h2
    omega
  | n + 1, i, j, hn, h1, h2 => by
    by_cases q : p (w.getD i 0) = true
    · by_cases q2 : j = i
      · rw [q2]; exact q
      · rw [x_ru_yes (by omega) q] at h2
        exact x_ru_in n (i + 1) j (by omega) (by omega) h2
    · rw [x_ru_no (by omega) (Bool.eq_false_iff.2 q)] at h2
      omega
theorem x_ru_out {p : Int → Bool} {w : List Int} : ∀ (n i : Nat), w.length - i = n → x_ru p w i < w.length → p (w.getD (x_ru p w i) 0) = false
  | 0, i, hn, h2 => by
    have := x_ru_ge p w i
    omega
  | n + 1, i, hn, h2 => by
    by_cases q : p (w.getD i 0) = true
    · rw [x_ru_yes (by omega) q] at h2 ⊢
      exact x_ru_out n (i + 1) (by omega) h2
    · rw [x_ru_no (by omega) (Bool.eq_false_iff.2 q)]
      exact Bool.eq_false_iff.2 q
/-- whether a word begins there -/
def x_ws (w : List Int) (i : Nat) : Bool := !x_isb (w.getD i 0) && (decide (i = 0) || x_isb (w.getD (i - 1) 0))
def x_wr (w : List Int) : Nat → Nat → Nat
  | 0, _ => 0
  | k + 1, i => (if x_ws w i = true then 1 else 0) + x_wr w k (i + 1)
theorem x_wr_bl {w : List Int} : ∀ (n i : Nat), w.length - i = n → i ≤ w.length → x_wr w (w.length - i) i = x_wr w (w.length - x_bl w i) (x_bl w i)
  | 0, i, hn, hi => by
    have : x_bl w i = i := x_ru_end (by omega)
    rw [this]
  | n + 1, i, hn, hi => by
    by_cases q : x_isb (w.getD i 0) = true
    · have e : x_bl w i = x_bl w (i + 1) := x_ru_yes (by omega) q
      have hs : x_ws w i = false := by unfold x_ws; rw [q]; rfl
      rw [e, ← x_wr_bl n (i + 1) (by omega) (by omega), hn, x_wr, hs, show w.length - (i + 1) = n by omega]
      simp
    · have e : x_bl w i = i := x_ru_no (by omega) (Bool.eq_false_iff.2 q)
      rw [e]
theorem x_wr_nb {w : List Int} : ∀ (n i : Nat), w.length - i = n → i ≤ w.length → 1 ≤ i → x_isb (w.getD (i - 1) 0) = false → x_wr w (w.length - i) i = x_wr w (w.length - x_nb w i) (x_nb w i)
  | 0, i, hn, hi, h1, hp => by
    have : x_nb w i = i := x_ru_end (by omega)
    rw [this]
  | n + 1, i, hn, hi, h1, hp => by
    by_cases q : x_isb (w.getD i 0) = true
    · have e : x_nb w i = i := x_ru_no (by omega) (by rw [q]; rfl)
      rw [e]
    · have q' := Bool.eq_false_iff.2 q
      have e : x_nb w i = x_nb w (i + 1) := x_ru_yes (by omega) (by rw [q']; rfl)
      have hs : x_ws w i = false := by
        unfold x_ws
        rw [hp, decide_eq_false (by omega)]
        simp
      rw [e, ← x_wr_nb n (i + 1) (by omega) (by omega) (by omega) (by rw [Nat.add_sub_cancel]; exact q'), hn, x_wr, hs, show w.length - (i + 1) = n by omega]
      simp
theorem x_wr_wn {w : List Int} : ∀ (f i : Nat), w.length + 1 - i ≤ f → i ≤ w.length → (i = 0 ∨ w.length ≤ i ∨ x_isb (w.getD i 0) = true) → x_wr w (w.length - i) i = x_wn w f i
  | 0, i, hf, hi, hb => by omega
  | f + 1, i, hf, hi, hb => by
    have h3 := x_bn_le hi
    rw [x_wr_bl _ i rfl hi]
    unfold x_wn
    by_cases q : x_bl w i < w.length
    · have hnb : x_isb (w.getD (x_bl w i) 0) = false := x_ru_out _ i rfl q
      have e : x_nb w (x_bl w i) = x_nb w (x_bl w i + 1) := x_ru_yes q (by rw [hnb]; rfl)
      have hge := x_ru_ge (fun c => !x_isb c) w (x_bl w i + 1)
      have hge2 : x_bl w i + 1 ≤ x_nb w (x_bl w i + 1) := hge
      have hs : x_ws w (x_bl w i) = true := by
        unfold x_ws
        rw [hnb]
        by_cases q2 : x_bl w i = 0
        · rw [decide_eq_true q2]
          rfl
        · have hpb : x_isb (w.getD (x_bl w i - 1) 0) = true := by
            by_cases q3 : x_bl w i = i
            · rw [q3] at hnb q q2
              rcases hb with hb | hb | hb
              · exact absurd hb q2
              · omega
              · rw [hb] at hnb
                cases hnb
            · exact x_ru_in _ i (x_bl w i - 1) rfl (by omega) (show x_bl w i - 1 < x_bl w i by omega)
          rw [hpb]
          simp
      rw [if_pos (by omega), show w.length - x_bl w i = (w.length - (x_bl w i + 1)) + 1 by omega, x_wr, hs, if_pos rfl, x_wr_nb _ (x_bl w i + 1) rfl (by omega) (by omega) (by rw [Nat.add_sub_cancel]; exact hnb), ← e, x_wr_wn f (x_nb w (x_bl w i)) (by omega) h3.2.2 ?_]
      · omega
      · by_cases q4 : x_nb w (x_bl w i) < w.length
        · refine .inr (.inr ?_)
          have := x_ru_out (p := fun c => !x_isb c) (w := w) _ (x_bl w i) rfl q4
          have h5 : (!x_isb (w.getD (x_nb w (x_bl w i)) 0)) = false := this
          cases w5 : x_isb (w.getD (x_nb w (x_bl w i)) 0) with
          | true => rfl
          | false => rw [w5] at h5; cases h5
        · exact .inr (.inl (by omega))
    · have e1 : x_bl w i = w.length := by omega
      have e2 : x_nb w (x_bl w i) = x_bl w i := x_ru_end (by omega)
      rw [e2, if_neg (by omega), e1, Nat.sub_self]
      rfl
section WM
variable {M : am_M} {m : Nat} {μ : m_S} {ad : Nat → Nat} {d : Nat} {O : z_O} {bs : List Int} {S : List (List Int)} {x : Nat}
/-- the words of a line -/
theorem g_wd37 {l : Nat} {i3 : Int32} {mn : Int} (hF : m_F μ x S) (hx : x < 13) (hl : l < S.length) (hm : 0 ≤ mn ∧ mn ≤ 72000) : ∀ (k i c : Nat), (S.getD l []).length - i = k → i ≤ (S.getD l []).length → c ≤ i →
    ∃ o6, am_gg (am_pr ad) (d + 1) 207 37 [some (.ref m), some (.int (h_ii x)), some (.int (h_ii (mn + c))), some (.int i3), some (.int (h_ii l)), some (.int (h_ii (S.getD l []).length)), some (.int (h_ii i))] [] (m_t M m μ) = am_gg (am_pr ad) (d + 1) 207 7 [some (.ref m), some (.int (h_ii x)), some (.int (h_ii (mn + (c + x_wr (S.getD l []) k i : Nat)))), some (.int i3), some (.int (h_ii ((l + 1 : Nat) : Int))), some (.int (h_ii (S.getD l []).length)), o6] [] (m_t M m μ)
  | 0, i, c, hk, hi, hc => by
    have h240 := x_fit_at hF.1 l
    refine ⟨some (.int (h_ii i)), ?_⟩
    rw [B207_37]
    simp (disch := first | assumption | omega | decide | (simp only [m_I_uI, m_A_uI, m_I_uA, m_A_uA] <;> first | assumption | omega) | fail) only [↓mp_0_b, ↓mp_6_b, ↓mp_13_b, ↓mp_14_b, ↓mp_15_b, ↓mp_16_b, ↓mp_17_b, ↓mp_19_b, ↓mp_20_b, ↓mp_21_b, ↓mp_25_b, ↓mp_26_b, ↓mp_27_b, ↓mp_28_b, ↓mp_31_b, ↓mp_32_b, ↓mp_35_b, ↓mp_36_b, ↓mp_37_b, ↓mp_38_b, ↓mp_39_b, ↓mp_40_b, ↓mp_41_b, ↓mp_42_b, ↓mp_43_b, ↓ml_1_b, ↓ms_1_b, ↓ml_2_b, ↓ms_2_b, ↓ml_3_b, ↓ms_3_b, ↓ml_4_b, ↓ms_4_b, ↓ml_5_b, ↓ms_5_b, ↓ml_6_b, ↓ms_6_b, ↓ml_7_b, ↓ms_7_b, ↓ml_8_b, ↓ms_8_b, ↓ml_9_b, ↓ms_9_b, ↓ml_10_b, ↓ms_10_b, ↓ml_11_b, ↓ms_11_b, ↓ml_13_b, ↓ms_13_b, ↓ml_14_b, ↓ms_14_b, ↓ml_15_b, ↓ms_15_b, ↓ml_16_b, ↓ms_16_b, ↓ml_17_b, ↓ms_17_b, ↓ml_18_b, ↓ms_18_b, ↓ml_19_b, ↓ms_19_b, ↓ml_20_b, ↓ms_20_b, ↓ml_21_b, ↓ms_21_b, ↓ml_22_b, ↓ms_22_b, m_cl, mg_0, mp_0, mr_1, mr_2, mr_3, mr_4, mr_5, mg_6, mp_6, mr_7, mr_8, mr_9, mr_10, mr_11, mr_12, mg_13, mp_13, mg_14, mp_14, mg_15, mp_15, mg_16, mp_16, mg_17, mp_17, mr_18, mg_19, mp_19, mg_20, mp_20, mg_21, mp_21, mr_22, mr_23, mr_24, mg_25, mp_25, mg_26, mp_26, mg_27, mp_27, mg_28, mp_28, mr_29, mr_30, mg_31, mp_31, mg_32, mp_32, mr_33, mr_34, mg_35, mp_35, mg_36, mp_36, mg_37, mp_37, mg_38, mp_38, mg_39, mp_39, mg_40, mp_40, mg_41, mp_41, mg_42, mp_42, mg_43, mp_43, mr_44, mr_45, mr_46, ml_1, ms_1, ml_2, ms_2, ml_3, ms_3, ml_4, ms_4, ml_5, ms_5, ml_6, ms_6, ml_7, ms_7, ml_8, ms_8, ml_9, ms_9, ml_10, ms_10, ml_11, ms_11, ml_13, ms_13, ml_14, ms_14, ml_15, ms_15, ml_16, ms_16, ml_17, ms_17, ml_18, ms_18, ml_19, ms_19, ml_20, ms_20, ml_21, ms_21, ml_22, ms_22, h_nI, Int.cast_ofNat_Int, h_b8, Int.bmod_bmod, h_add, h_sub, h_mul, h_neg, h_zero, h_and255, h_and15, h_and3, h_cltT, h_cltF, h_cgeT, h_cgeF, h_cgtT, h_cgtF, h_cleT, h_cleF, h_ceqT, h_ceqF, h_cneT, h_cneF, m_I_uI, m_A_uI, m_I_uA, m_A_uA, m_t1, ↓reduceIte, Option.bind_some, am_ret0, am_ret1, am_ret2, if_true, if_false, true_and, and_true, false_and, and_false, not_true_eq_false, not_false_eq_true, Nat.reduceEqDiff, Nat.reduceAdd, Nat.reduceSub, Nat.reduceMul, Int.reduceAdd, Int.reduceSub, Int.reduceMul, Int.reduceNeg, Int.reduceToNat, Int.reduceLT, Int.reduceLE, Nat.add_left_cancel_iff]
    rfl
  | k + 1, i, c, hk, hi, hc => by
    have h240 := x_fit_at hF.1 l
    have hb := x_okl_at (x_ok_at hF.2.1 l) i
    have e1 := f_byteOf (M := M) (m := m) (ad := ad) (d := d) hF hx hl (show i < (S.getD l []).length by omega)
    have e2 := g_isb (ad := ad) (d := d) (M := m_t M m μ) hb
    -- one byte
    have one : am_gg (am_pr ad) (d + 1) 207 37 [some (.ref m), some (.int (h_ii x)), some (.int (h_ii (mn + c))), some (.int i3), some (.int (h_ii l)), some (.int (h_ii (S.getD l []).length)), some (.int (h_ii i))] [] (m_t M m μ) = am_gg (am_pr ad) (d + 1) 207 37 [some (.ref m), some (.int (h_ii x)), some (.int (h_ii (mn + (c + (if x_ws (S.getD l []) i = true then 1 else 0) : Nat)))), some (.int i3), some (.int (h_ii l)), some (.int (h_ii (S.getD l []).length)), some (.int (h_ii ((i + 1 : Nat) : Int)))] [] (m_t M m μ) := by
      rw [B207_37]
      unfold x_ws
      cases w : x_isb ((S.getD l []).getD i 0) with
      | true =>
        rw [w] at e2
        rw [Bool.not_true, Bool.false_and, if_neg (show ¬ (false = true) by decide), Nat.add_zero]
        simp (disch := first | assumption | omega | decide | (simp only [m_I_uI, m_A_uI, m_I_uA, m_A_uA] <;> first | assumption | omega) | fail) only [↓mp_0_b, ↓mp_6_b, ↓mp_13_b, ↓mp_14_b, ↓mp_15_b, ↓mp_16_b, ↓mp_17_b, ↓mp_19_b, ↓mp_20_b, ↓mp_21_b, ↓mp_25_b, ↓mp_26_b, ↓mp_27_b, ↓mp_28_b, ↓mp_31_b, ↓mp_32_b, ↓mp_35_b, ↓mp_36_b, ↓mp_37_b, ↓mp_38_b, ↓mp_39_b, ↓mp_40_b, ↓mp_41_b, ↓mp_42_b, ↓mp_43_b, ↓ml_1_b, ↓ms_1_b, ↓ml_2_b, ↓ms_2_b, ↓ml_3_b, ↓ms_3_b, ↓ml_4_b, ↓ms_4_b, ↓ml_5_b, ↓ms_5_b, ↓ml_6_b, ↓ms_6_b, ↓ml_7_b, ↓ms_7_b, ↓ml_8_b, ↓ms_8_b, ↓ml_9_b, ↓ms_9_b, ↓ml_10_b, ↓ms_10_b, ↓ml_11_b, ↓ms_11_b, ↓ml_13_b, ↓ms_13_b, ↓ml_14_b, ↓ms_14_b, ↓ml_15_b, ↓ms_15_b, ↓ml_16_b, ↓ms_16_b, ↓ml_17_b, ↓ms_17_b, ↓ml_18_b, ↓ms_18_b, ↓ml_19_b, ↓ms_19_b, ↓ml_20_b, ↓ms_20_b, ↓ml_21_b, ↓ms_21_b, ↓ml_22_b, ↓ms_22_b, m_cl, mg_0, mp_0, mr_1, mr_2, mr_3, mr_4, mr_5, mg_6, mp_6, mr_7, mr_8, mr_9, mr_10, mr_11, mr_12, mg_13, mp_13, mg_14, mp_14, mg_15, mp_15, mg_16, mp_16, mg_17, mp_17, mr_18, mg_19, mp_19, mg_20, mp_20, mg_21, mp_21, mr_22, mr_23, mr_24, mg_25, mp_25, mg_26, mp_26, mg_27, mp_27, mg_28, mp_28, mr_29, mr_30, mg_31, mp_31, mg_32, mp_32, mr_33, mr_34, mg_35, mp_35, mg_36, mp_36, mg_37, mp_37, mg_38, mp_38, mg_39, mp_39, mg_40, mp_40, mg_41, mp_41, mg_42, mp_42, mg_43, mp_43, mr_44, mr_45, mr_46, ml_1, ms_1, ml_2, ms_2, ml_3, ms_3, ml_4, ms_4, ml_5, ms_5, ml_6, ms_6, ml_7, ms_7, ml_8, ms_8, ml_9, ms_9, ml_10, ms_10, ml_11, ms_11, ml_13, ms_13, ml_14, ms_14, ml_15, ms_15, ml_16, ms_16, ml_17, ms_17, ml_18, ms_18, ml_19, ms_19, ml_20, ms_20, ml_21, ms_21, ml_22, ms_22, h_nI, Int.cast_ofNat_Int, h_b8, Int.bmod_bmod, h_add, h_sub, h_mul, h_neg, h_zero, h_and255, h_and15, h_and3, h_cltT, h_cltF, h_cgeT, h_cgeF, h_cgtT, h_cgtF, h_cleT, h_cleF, h_ceqT, h_ceqF, h_cneT, h_cneF, m_I_uI, m_A_uI, m_I_uA, m_A_uA, m_t1, ↓reduceIte, Option.bind_some, am_ret0, am_ret1, am_ret2, if_true, if_false, true_and, and_true, false_and, and_false, not_true_eq_false, not_false_eq_true, Nat.reduceEqDiff, Nat.reduceAdd, Nat.reduceSub, Nat.reduceMul, Int.reduceAdd, Int.reduceSub, Int.reduceMul, Int.reduceNeg, Int.reduceToNat, Int.reduceLT, Int.reduceLE, Nat.add_left_cancel_iff, e1, e2, x_01, B207_86, B207_87, Int.add_zero]
        try rfl
      | false =>
        rw [w] at e2
        rw [Bool.not_false, Bool.true_and]
        by_cases q : i = 0
        · rw [decide_eq_true q, Bool.true_or, if_pos (show true = true from rfl)]
          simp (disch := first | assumption | omega | decide | (simp only [m_I_uI, m_A_uI, m_I_uA, m_A_uA] <;> first | assumption | omega) | fail) only [↓mp_0_b, ↓mp_6_b, ↓mp_13_b, ↓mp_14_b, ↓mp_15_b, ↓mp_16_b, ↓mp_17_b, ↓mp_19_b, ↓mp_20_b, ↓mp_21_b, ↓mp_25_b, ↓mp_26_b, ↓mp_27_b, ↓mp_28_b, ↓mp_31_b, ↓mp_32_b, ↓mp_35_b, ↓mp_36_b, ↓mp_37_b, ↓mp_38_b, ↓mp_39_b, ↓mp_40_b, ↓mp_41_b, ↓mp_42_b, ↓mp_43_b, ↓ml_1_b, ↓ms_1_b, ↓ml_2_b, ↓ms_2_b, ↓ml_3_b, ↓ms_3_b, ↓ml_4_b, ↓ms_4_b, ↓ml_5_b, ↓ms_5_b, ↓ml_6_b, ↓ms_6_b, ↓ml_7_b, ↓ms_7_b, ↓ml_8_b, ↓ms_8_b, ↓ml_9_b, ↓ms_9_b, ↓ml_10_b, ↓ms_10_b, ↓ml_11_b, ↓ms_11_b, ↓ml_13_b, ↓ms_13_b, ↓ml_14_b, ↓ms_14_b, ↓ml_15_b, ↓ms_15_b, ↓ml_16_b, ↓ms_16_b, ↓ml_17_b, ↓ms_17_b, ↓ml_18_b, ↓ms_18_b, ↓ml_19_b, ↓ms_19_b, ↓ml_20_b, ↓ms_20_b, ↓ml_21_b, ↓ms_21_b, ↓ml_22_b, ↓ms_22_b, m_cl, mg_0, mp_0, mr_1, mr_2, mr_3, mr_4, mr_5, mg_6, mp_6, mr_7, mr_8, mr_9, mr_10, mr_11, mr_12, mg_13, mp_13, mg_14, mp_14, mg_15, mp_15, mg_16, mp_16, mg_17, mp_17, mr_18, mg_19, mp_19, mg_20, mp_20, mg_21, mp_21, mr_22, mr_23, mr_24, mg_25, mp_25, mg_26, mp_26, mg_27, mp_27, mg_28, mp_28, mr_29, mr_30, mg_31, mp_31, mg_32, mp_32, mr_33, mr_34, mg_35, mp_35, mg_36, mp_36, mg_37, mp_37, mg_38, mp_38, mg_39, mp_39, mg_40, mp_40, mg_41, mp_41, mg_42, mp_42, mg_43, mp_43, mr_44, mr_45, mr_46, ml_1, ms_1, ml_2, ms_2, ml_3, ms_3, ml_4, ms_4, ml_5, ms_5, ml_6, ms_6, ml_7, ms_7, ml_8, ms_8, ml_9, ms_9, ml_10, ms_10, ml_11, ms_11, ml_13, ms_13, ml_14, ms_14, ml_15, ms_15, ml_16, ms_16, ml_17, ms_17, ml_18, ms_18, ml_19, ms_19, ml_20, ms_20, ml_21, ms_21, ml_22, ms_22, h_nI, Int.cast_ofNat_Int, h_b8, Int.bmod_bmod, h_add, h_sub, h_mul, h_neg, h_zero, h_and255, h_and15, h_and3, h_cltT, h_cltF, h_cgeT, h_cgeF, h_cgtT, h_cgtF, h_cleT, h_cleF, h_ceqT, h_ceqF, h_cneT, h_cneF, m_I_uI, m_A_uI, m_I_uA, m_A_uA, m_t1, ↓reduceIte, Option.bind_some, am_ret0, am_ret1, am_ret2, if_true, if_false, true_and, and_true, false_and, and_false, not_true_eq_false, not_false_eq_true, Nat.reduceEqDiff, Nat.reduceAdd, Nat.reduceSub, Nat.reduceMul, Int.reduceAdd, Int.reduceSub, Int.reduceMul, Int.reduceNeg, Int.reduceToNat, Int.reduceLT, Int.reduceLE, Nat.add_left_cancel_iff, e1, e2, x_01, Bool.false_eq_true, B207_82, B207_87]
          rw [Int.natCast_add, ← Int.add_assoc]
          try rfl
        · rw [decide_eq_false q, Bool.false_or]
          have hb1 := x_okl_at (x_ok_at hF.2.1 l) (i - 1)
          have e3 := f_byteOf (M := M) (m := m) (ad := ad) (d := d) hF hx hl (show i - 1 < (S.getD l []).length by omega)
          rw [show (((i - 1 : Nat)) : Int) = (i : Int) - 1 by omega] at e3
          have e4 := g_isb (ad := ad) (d := d) (M := m_t M m μ) hb1
          cases w2 : x_isb ((S.getD l []).getD (i - 1) 0) with
          | true =>
            rw [w2] at e4
            rw [if_pos (show true = true from rfl)]
            simp (disch := first | assumption | omega | decide | (simp only [m_I_uI, m_A_uI, m_I_uA, m_A_uA] <;> first | assumption | omega) | fail) only [↓mp_0_b, ↓mp_6_b, ↓mp_13_b, ↓mp_14_b, ↓mp_15_b, ↓mp_16_b, ↓mp_17_b, ↓mp_19_b, ↓mp_20_b, ↓mp_21_b, ↓mp_25_b, ↓mp_26_b, ↓mp_27_b, ↓mp_28_b, ↓mp_31_b, ↓mp_32_b, ↓mp_35_b, ↓mp_36_b, ↓mp_37_b, ↓mp_38_b, ↓mp_39_b, ↓mp_40_b, ↓mp_41_b, ↓mp_42_b, ↓mp_43_b, ↓ml_1_b, ↓ms_1_b, ↓ml_2_b, ↓ms_2_b, ↓ml_3_b, ↓ms_3_b, ↓ml_4_b, ↓ms_4_b, ↓ml_5_b, ↓ms_5_b, ↓ml_6_b, ↓ms_6_b, ↓ml_7_b, ↓ms_7_b, ↓ml_8_b, ↓ms_8_b, ↓ml_9_b, ↓ms_9_b, ↓ml_10_b, ↓ms_10_b, ↓ml_11_b, ↓ms_11_b, ↓ml_13_b, ↓ms_13_b, ↓ml_14_b, ↓ms_14_b, ↓ml_15_b, ↓ms_15_b, ↓ml_16_b, ↓ms_16_b, ↓ml_17_b, ↓ms_17_b, ↓ml_18_b, ↓ms_18_b, ↓ml_19_b, ↓ms_19_b, ↓ml_20_b, ↓ms_20_b, ↓ml_21_b, ↓ms_21_b, ↓ml_22_b, ↓ms_22_b, m_cl, mg_0, mp_0, mr_1, mr_2, mr_3, mr_4, mr_5, mg_6, mp_6, mr_7, mr_8, mr_9, mr_10, mr_11, mr_12, mg_13, mp_13, mg_14, mp_14, mg_15, mp_15, mg_16, mp_16, mg_17, mp_17, mr_18, mg_19, mp_19, mg_20, mp_20, mg_21, mp_21, mr_22, mr_23, mr_24, mg_25, mp_25, mg_26, mp_26, mg_27, mp_27, mg_28, mp_28, mr_29, mr_30, mg_31, mp_31, mg_32, mp_32, mr_33, mr_34, mg_35, mp_35, mg_36, mp_36, mg_37, mp_37, mg_38, mp_38, mg_39, mp_39, mg_40, mp_40, mg_41, mp_41, mg_42, mp_42, mg_43, mp_43, mr_44, mr_45, mr_46, ml_1, ms_1, ml_2, ms_2, ml_3, ms_3, ml_4, ms_4, ml_5, ms_5, ml_6, ms_6, ml_7, ms_7, ml_8, ms_8, ml_9, ms_9, ml_10, ms_10, ml_11, ms_11, ml_13, ms_13, ml_14, ms_14, ml_15, ms_15, ml_16, ms_16, ml_17, ms_17, ml_18, ms_18, ml_19, ms_19, ml_20, ms_20, ml_21, ms_21, ml_22, ms_22, h_nI, Int.cast_ofNat_Int, h_b8, Int.bmod_bmod, h_add, h_sub, h_mul, h_neg, h_zero, h_and255, h_and15, h_and3, h_cltT, h_cltF, h_cgeT, h_cgeF, h_cgtT, h_cgtF, h_cleT, h_cleF, h_ceqT, h_ceqF, h_cneT, h_cneF, m_I_uI, m_A_uI, m_I_uA, m_A_uA, m_t1, ↓reduceIte, Option.bind_some, am_ret0, am_ret1, am_ret2, if_true, if_false, true_and, and_true, false_and, and_false, not_true_eq_false, not_false_eq_true, Nat.reduceEqDiff, Nat.reduceAdd, Nat.reduceSub, Nat.reduceMul, Int.reduceAdd, Int.reduceSub, Int.reduceMul, Int.reduceNeg, Int.reduceToNat, Int.reduceLT, Int.reduceLE, Nat.add_left_cancel_iff, e1, e2, e3, e4, x_01, Bool.false_eq_true, B207_82, B207_87]
            rw [Int.natCast_add, ← Int.add_assoc]
            try rfl
          | false =>
            rw [w2] at e4
            rw [if_neg (show ¬ (false = true) by decide), Nat.add_zero]
            simp (disch := first | assumption | omega | decide | (simp only [m_I_uI, m_A_uI, m_I_uA, m_A_uA] <;> first | assumption | omega) | fail) only [↓mp_0_b, ↓mp_6_b, ↓mp_13_b, ↓mp_14_b, ↓mp_15_b, ↓mp_16_b, ↓mp_17_b, ↓mp_19_b, ↓mp_20_b, ↓mp_21_b, ↓mp_25_b, ↓mp_26_b, ↓mp_27_b, ↓mp_28_b, ↓mp_31_b, ↓mp_32_b, ↓mp_35_b, ↓mp_36_b, ↓mp_37_b, ↓mp_38_b, ↓mp_39_b, ↓mp_40_b, ↓mp_41_b, ↓mp_42_b, ↓mp_43_b, ↓ml_1_b, ↓ms_1_b, ↓ml_2_b, ↓ms_2_b, ↓ml_3_b, ↓ms_3_b, ↓ml_4_b, ↓ms_4_b, ↓ml_5_b, ↓ms_5_b, ↓ml_6_b, ↓ms_6_b, ↓ml_7_b, ↓ms_7_b, ↓ml_8_b, ↓ms_8_b, ↓ml_9_b, ↓ms_9_b, ↓ml_10_b, ↓ms_10_b, ↓ml_11_b, ↓ms_11_b, ↓ml_13_b, ↓ms_13_b, ↓ml_14_b, ↓ms_14_b, ↓ml_15_b, ↓ms_15_b, ↓ml_16_b, ↓ms_16_b, ↓ml_17_b, ↓ms_17_b, ↓ml_18_b, ↓ms_18_b, ↓ml_19_b, ↓ms_19_b, ↓ml_20_b, ↓ms_20_b, ↓ml_21_b, ↓ms_21_b, ↓ml_22_b, ↓ms_22_b, m_cl, mg_0, mp_0, mr_1, mr_2, mr_3, mr_4, mr_5, mg_6, mp_6, mr_7, mr_8, mr_9, mr_10, mr_11, mr_12, mg_13, mp_13, mg_14, mp_14, mg_15, mp_15, mg_16, mp_16, mg_17, mp_17, mr_18, mg_19, mp_19, mg_20, mp_20, mg_21, mp_21, mr_22, mr_23, mr_24, mg_25, mp_25, mg_26, mp_26, mg_27, mp_27, mg_28, mp_28, mr_29, mr_30, mg_31, mp_31, mg_32, mp_32, mr_33, mr_34, mg_35, mp_35, mg_36, mp_36, mg_37, mp_37, mg_38, mp_38, mg_39, mp_39, mg_40, mp_40, mg_41, mp_41, mg_42, mp_42, mg_43, mp_43, mr_44, mr_45, mr_46, ml_1, ms_1, ml_2, ms_2, ml_3, ms_3, ml_4, ms_4, ml_5, ms_5, ml_6, ms_6, ml_7, ms_7, ml_8, ms_8, ml_9, ms_9, ml_10, ms_10, ml_11, ms_11, ml_13, ms_13, ml_14, ms_14, ml_15, ms_15, ml_16, ms_16, ml_17, ms_17, ml_18, ms_18, ml_19, ms_19, ml_20, ms_20, ml_21, ms_21, ml_22, ms_22, h_nI, Int.cast_ofNat_Int, h_b8, Int.bmod_bmod, h_add, h_sub, h_mul, h_neg, h_zero, h_and255, h_and15, h_and3, h_cltT, h_cltF, h_cgeT, h_cgeF, h_cgtT, h_cgtF, h_cleT, h_cleF, h_ceqT, h_ceqF, h_cneT, h_cneF, m_I_uI, m_A_uI, m_I_uA, m_A_uA, m_t1, ↓reduceIte, Option.bind_some, am_ret0, am_ret1, am_ret2, if_true, if_false, true_and, and_true, false_and, and_false, not_true_eq_false, not_false_eq_true, Nat.reduceEqDiff, Nat.reduceAdd, Nat.reduceSub, Nat.reduceMul, Int.reduceAdd, Int.reduceSub, Int.reduceMul, Int.reduceNeg, Int.reduceToNat, Int.reduceLT, Int.reduceLE, Nat.add_left_cancel_iff, e1, e2, e3, e4, x_01, Bool.false_eq_true, B207_86, B207_87, Int.add_zero]
            try rfl
    obtain ⟨o6, e5⟩ := g_wd37 (i3 := i3) hF hx hl hm k (i + 1) (c + (if x_ws (S.getD l []) i = true then 1 else 0)) (by omega) (by omega) (by split <;> omega)
    refine ⟨o6, ?_⟩
    rw [one, e5, x_wr, Nat.add_assoc]
/-- all lines -/
theorem g_wd7 (hF : m_F μ x S) (hx : x < 13) : ∀ (k l w : Nat) {o5 o6 : Option Value}, S.length - l = k → l ≤ S.length → w ≤ 240 * l →
    ∃ o5' o6', am_gg (am_pr ad) (d + 1) 207 7 [some (.ref m), some (.int (h_ii x)), some (.int (h_ii w)), some (.int (h_ii (x_off S l + l : Nat))), some (.int (h_ii l)), o5, o6] [] (m_t M m μ) = am_gg (am_pr ad) (d + 1) 207 7 [some (.ref m), some (.int (h_ii x)), some (.int (h_ii (w + x_wa S k l : Nat))), some (.int (h_ii (x_off S S.length + S.length : Nat))), some (.int (h_ii S.length)), o5', o6'] [] (m_t M m μ)
  | 0, l, w, o5, o6, hk, hl, hw => by
    have : l = S.length := by omega
    subst this
    exact ⟨o5, o6, rfl⟩
  | k + 1, l, w, o5, o6, hk, hl, hw => by
    have h300 := hF.1.1
    have hc := hF.2.2.1
    have h240 := x_fit_at hF.1 l
    have e1 := f_lengthOf (M := M) (m := m) (ad := ad) (d := d) hF hx (show l < S.length by omega)
    have ho := x_off_le hF.1.2 l
    obtain ⟨p6, e2⟩ := g_wd37 (M := M) (m := m) (ad := ad) (d := d) (i3 := h_ii (x_off S (l + 1) + (l + 1) : Nat)) (mn := (w : Int)) hF hx (show l < S.length by omega) (by omega) (S.getD l []).length 0 0 (by omega) (by omega) (Nat.le_refl _)
    have hww : x_wr (S.getD l []) (S.getD l []).length 0 = x_ww (S.getD l []) := by
      have := x_wr_wn (w := S.getD l []) ((S.getD l []).length + 1) 0 (by omega) (by omega) (.inl rfl)
      rw [Nat.sub_zero] at this
      exact this
    have hwl := x_wn_le (w := S.getD l []) ((S.getD l []).length + 1) 0 (Nat.zero_le _)
    obtain ⟨p5', p6', e3⟩ := g_wd7 hF hx k (l + 1) (w + x_ww (S.getD l [])) (o5 := some (.int (h_ii (S.getD l []).length))) (o6 := p6) (by omega) (by omega) (by unfold x_ww; omega)
    refine ⟨p5', p6', ?_⟩
    have e2' : am_gg (am_pr ad) (d + 1) 207 37 [some (.ref m), some (.int (h_ii x)), some (.int (h_ii w)), some (.int (h_ii (x_off S (l + 1) + (l + 1) : Nat))), some (.int (h_ii l)), some (.int (h_ii (S.getD l []).length)), some (.int (h_ii 0))] [] (m_t M m μ) = am_gg (am_pr ad) (d + 1) 207 7 [some (.ref m), some (.int (h_ii x)), some (.int (h_ii (w + x_ww (S.getD l []) : Nat))), some (.int (h_ii (x_off S (l + 1) + (l + 1) : Nat))), some (.int (h_ii ((l + 1 : Nat) : Int))), some (.int (h_ii (S.getD l []).length)), p6] [] (m_t M m μ) := by
      rw [hww] at e2
      simp only [Int.ofNat_zero, Int.add_zero, Nat.zero_add] at e2
      exact e2
    rw [B207_7]
    simp (disch := first | assumption | omega | decide | (simp only [m_I_uI, m_A_uI, m_I_uA, m_A_uA] <;> first | assumption | omega) | fail) only [↓mp_0_b, ↓mp_6_b, ↓mp_13_b, ↓mp_14_b, ↓mp_15_b, ↓mp_16_b, ↓mp_17_b, ↓mp_19_b, ↓mp_20_b, ↓mp_21_b, ↓mp_25_b, ↓mp_26_b, ↓mp_27_b, ↓mp_28_b, ↓mp_31_b, ↓mp_32_b, ↓mp_35_b, ↓mp_36_b, ↓mp_37_b, ↓mp_38_b, ↓mp_39_b, ↓mp_40_b, ↓mp_41_b, ↓mp_42_b, ↓mp_43_b, ↓ml_1_b, ↓ms_1_b, ↓ml_2_b, ↓ms_2_b, ↓ml_3_b, ↓ms_3_b, ↓ml_4_b, ↓ms_4_b, ↓ml_5_b, ↓ms_5_b, ↓ml_6_b, ↓ms_6_b, ↓ml_7_b, ↓ms_7_b, ↓ml_8_b, ↓ms_8_b, ↓ml_9_b, ↓ms_9_b, ↓ml_10_b, ↓ms_10_b, ↓ml_11_b, ↓ms_11_b, ↓ml_13_b, ↓ms_13_b, ↓ml_14_b, ↓ms_14_b, ↓ml_15_b, ↓ms_15_b, ↓ml_16_b, ↓ms_16_b, ↓ml_17_b, ↓ms_17_b, ↓ml_18_b, ↓ms_18_b, ↓ml_19_b, ↓ms_19_b, ↓ml_20_b, ↓ms_20_b, ↓ml_21_b, ↓ms_21_b, ↓ml_22_b, ↓ms_22_b, m_cl, mg_0, mp_0, mr_1, mr_2, mr_3, mr_4, mr_5, mg_6, mp_6, mr_7, mr_8, mr_9, mr_10, mr_11, mr_12, mg_13, mp_13, mg_14, mp_14, mg_15, mp_15, mg_16, mp_16, mg_17, mp_17, mr_18, mg_19, mp_19, mg_20, mp_20, mg_21, mp_21, mr_22, mr_23, mr_24, mg_25, mp_25, mg_26, mp_26, mg_27, mp_27, mg_28, mp_28, mr_29, mr_30, mg_31, mp_31, mg_32, mp_32, mr_33, mr_34, mg_35, mp_35, mg_36, mp_36, mg_37, mp_37, mg_38, mp_38, mg_39, mp_39, mg_40, mp_40, mg_41, mp_41, mg_42, mp_42, mg_43, mp_43, mr_44, mr_45, mr_46, ml_1, ms_1, ml_2, ms_2, ml_3, ms_3, ml_4, ms_4, ml_5, ms_5, ml_6, ms_6, ml_7, ms_7, ml_8, ms_8, ml_9, ms_9, ml_10, ms_10, ml_11, ms_11, ml_13, ms_13, ml_14, ms_14, ml_15, ms_15, ml_16, ms_16, ml_17, ms_17, ml_18, ms_18, ml_19, ms_19, ml_20, ms_20, ml_21, ms_21, ml_22, ms_22, h_nI, Int.cast_ofNat_Int, h_b8, Int.bmod_bmod, h_add, h_sub, h_mul, h_neg, h_zero, h_and255, h_and15, h_and3, h_cltT, h_cltF, h_cgeT, h_cgeF, h_cgtT, h_cgtF, h_cleT, h_cleF, h_ceqT, h_ceqF, h_cneT, h_cneF, m_I_uI, m_A_uI, m_I_uA, m_A_uA, m_t1, ↓reduceIte, Option.bind_some, am_ret0, am_ret1, am_ret2, if_true, if_false, true_and, and_true, false_and, and_false, not_true_eq_false, not_false_eq_true, Nat.reduceEqDiff, Nat.reduceAdd, Nat.reduceSub, Nat.reduceMul, Int.reduceAdd, Int.reduceSub, Int.reduceMul, Int.reduceNeg, Int.reduceToNat, Int.reduceLT, Int.reduceLE, Nat.add_left_cancel_iff, Int.toNat_natCast, hc, e1]
    rw [show (((x_off S l + l : Nat) : Int) + (((S.getD l []).length : Int) + 1)) = ((x_off S (l + 1) + (l + 1) : Nat) : Int) from by rw [x_off1]; omega, e2', e3, show x_wa S (k + 1) l = x_ww (S.getD l []) + x_wa S k (l + 1) from rfl, Nat.add_assoc]
end WM
