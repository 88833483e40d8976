/-! WORDS OF THE REFERENCE -/
section CW
variable {M : am_M} {m : Nat} {ad : Nat → Nat} {d : Nat} {t : List Int}
def m_tok (μ : m_S) (W : List x_T) : Prop := ∀ k, k < W.length → μ.A 8 k = (W.getD k x_0).2.1 ∧ μ.A 11 k = (W.getD k x_0).1 ∧ μ.A 9 k = x_fo W k ∧ μ.A 10 k = (W.getD k x_0).2.2.length
def m_byt (μ : m_S) (bs : List (Int × Bool)) : Prop := ∀ j, j < bs.length → μ.A 6 j = Int.bmod (bs.getD j (0, false)).1 256 ∧ μ.A 7 j = (if (bs.getD j (0, false)).2 = true then 1 else 0)
/-- only the words have changed -/
def m_fc (μ μ' : m_S) : Prop := (∀ k, k ≠ 13 → μ'.I k = μ.I k) ∧ (∀ k i, k < 6 ∨ 11 < k → μ'.A k i = μ.A k i)
theorem m_fc.refl (μ : m_S) : m_fc μ μ := ⟨fun _ _ => rfl, fun _ _ _ => rfl⟩
theorem m_fc.trans {μ μ' μ'' : m_S} (h : m_fc μ μ') (h2 : m_fc μ' μ'') : m_fc μ μ'' := ⟨fun k hk => (h2.1 k hk).trans (h.1 k hk), fun k i hk => (h2.2 k i hk).trans (h.2 k i hk)⟩
theorem m_fc.uA {z i : Nat} {v : Int} (μ : m_S) (h : 6 ≤ z ∧ z ≤ 11) : m_fc μ (m_uA μ z i v) := ⟨fun _ _ => rfl, fun k j hk => by rw [m_A_uA, if_neg (by omega)]⟩
theorem m_fc.uI {v : Int} (μ : m_S) : m_fc μ (m_uI μ 13 v) := ⟨fun k hk => by rw [m_I_uI, if_neg hk], fun _ _ _ => rfl⟩
theorem m_T.fc {μ μ' : m_S} (h : m_T μ t) (hf : m_fc μ μ') : m_T μ' t := ⟨by rw [hf.1 6 (by decide)]; exact h.1, h.2.1, h.2.2.1, fun i hi => by rw [hf.2 5 i (by decide)]; exact h.2.2.2 i hi⟩
theorem e_end {μ : m_S} {w n : Int} (hw : μ.I 13 = w) (h0 : 0 ≤ w) (h1 : w < 9002) : am_gg (am_pr ad) d 175 0 [some (.ref m), some (.int (h_ii 1)), some (.int (h_ii n))] [] (m_t M m μ) = some (.inl none, m_t M m (m_uI (m_uA μ 10 w.toNat (n - μ.A 9 w.toNat)) 13 (w + 1))) := by
  rw [B175_0]
  simp (disch := first | assumption | omega | decide | (simp only [m_I_uI, m_A_uI, m_I_uA, m_A_uA] <;> first | assumption | omega) | fail) only [↓mp_0_b, ↓mp_6_b, ↓mp_13_b, ↓mp_14_b, ↓mp_15_b, ↓mp_16_b, ↓mp_17_b, ↓mp_19_b, ↓mp_20_b, ↓mp_21_b, ↓mp_25_b, ↓mp_26_b, ↓mp_27_b, ↓mp_28_b, ↓mp_31_b, ↓mp_32_b, ↓mp_35_b, ↓mp_36_b, ↓mp_37_b, ↓mp_38_b, ↓mp_39_b, ↓mp_40_b, ↓mp_41_b, ↓mp_42_b, ↓mp_43_b, ↓ml_1_b, ↓ms_1_b, ↓ml_2_b, ↓ms_2_b, ↓ml_3_b, ↓ms_3_b, ↓ml_4_b, ↓ms_4_b, ↓ml_5_b, ↓ms_5_b, ↓ml_6_b, ↓ms_6_b, ↓ml_7_b, ↓ms_7_b, ↓ml_8_b, ↓ms_8_b, ↓ml_9_b, ↓ms_9_b, ↓ml_10_b, ↓ms_10_b, ↓ml_11_b, ↓ms_11_b, ↓ml_13_b, ↓ms_13_b, ↓ml_14_b, ↓ms_14_b, ↓ml_15_b, ↓ms_15_b, ↓ml_16_b, ↓ms_16_b, ↓ml_17_b, ↓ms_17_b, ↓ml_18_b, ↓ms_18_b, ↓ml_19_b, ↓ms_19_b, ↓ml_20_b, ↓ms_20_b, ↓ml_21_b, ↓ms_21_b, ↓ml_22_b, ↓ms_22_b, m_cl, mg_0, mp_0, mr_1, mr_2, mr_3, mr_4, mr_5, mg_6, mp_6, mr_7, mr_8, mr_9, mr_10, mr_11, mr_12, mg_13, mp_13, mg_14, mp_14, mg_15, mp_15, mg_16, mp_16, mg_17, mp_17, mr_18, mg_19, mp_19, mg_20, mp_20, mg_21, mp_21, mr_22, mr_23, mr_24, mg_25, mp_25, mg_26, mp_26, mg_27, mp_27, mg_28, mp_28, mr_29, mr_30, mg_31, mp_31, mg_32, mp_32, mr_33, mr_34, mg_35, mp_35, mg_36, mp_36, mg_37, mp_37, mg_38, mp_38, mg_39, mp_39, mg_40, mp_40, mg_41, mp_41, mg_42, mp_42, mg_43, mp_43, mr_44, mr_45, mr_46, ml_1, ms_1, ml_2, ms_2, ml_3, ms_3, ml_4, ms_4, ml_5, ms_5, ml_6, ms_6, ml_7, ms_7, ml_8, ms_8, ml_9, ms_9, ml_10, ms_10, ml_11, ms_11, ml_13, ms_13, ml_14, ms_14, ml_15, ms_15, ml_16, ms_16, ml_17, ms_17, ml_18, ms_18, ml_19, ms_19, ml_20, ms_20, ml_21, ms_21, ml_22, ms_22, h_nI, Int.cast_ofNat_Int, h_b8, Int.bmod_bmod, h_add, h_sub, h_mul, h_neg, h_zero, h_and255, h_and15, h_and3, h_cltT, h_cltF, h_cgeT, h_cgeF, h_cgtT, h_cgtF, h_cleT, h_cleF, h_ceqT, h_ceqF, h_cneT, h_cneF, m_I_uI, m_A_uI, m_I_uA, m_A_uA, m_t1, ↓reduceIte, Option.bind_some, am_ret0, am_ret1, am_ret2, if_true, if_false, true_and, and_true, false_and, and_false, not_true_eq_false, not_false_eq_true, Nat.reduceEqDiff, Nat.reduceAdd, Nat.reduceSub, Nat.reduceMul, Int.reduceAdd, Int.reduceSub, Int.reduceMul, Int.reduceNeg, Int.reduceToNat, Int.reduceLT, Int.reduceLE, Nat.add_left_cancel_iff, hw, B175_34]
theorem e_end0 {μ : m_S} {n : Int} : am_gg (am_pr ad) d 175 0 [some (.ref m), some (.int (h_ii 0)), some (.int (h_ii n))] [] (m_t M m μ) = some (.inl none, m_t M m μ) := by
  rw [B175_0]
  simp (disch := first | assumption | omega | decide | (simp only [m_I_uI, m_A_uI, m_I_uA, m_A_uA] <;> first | assumption | omega) | fail) only [↓mp_0_b, ↓mp_6_b, ↓mp_13_b, ↓mp_14_b, ↓mp_15_b, ↓mp_16_b, ↓mp_17_b, ↓mp_19_b, ↓mp_20_b, ↓mp_21_b, ↓mp_25_b, ↓mp_26_b, ↓mp_27_b, ↓mp_28_b, ↓mp_31_b, ↓mp_32_b, ↓mp_35_b, ↓mp_36_b, ↓mp_37_b, ↓mp_38_b, ↓mp_39_b, ↓mp_40_b, ↓mp_41_b, ↓mp_42_b, ↓mp_43_b, ↓ml_1_b, ↓ms_1_b, ↓ml_2_b, ↓ms_2_b, ↓ml_3_b, ↓ms_3_b, ↓ml_4_b, ↓ms_4_b, ↓ml_5_b, ↓ms_5_b, ↓ml_6_b, ↓ms_6_b, ↓ml_7_b, ↓ms_7_b, ↓ml_8_b, ↓ms_8_b, ↓ml_9_b, ↓ms_9_b, ↓ml_10_b, ↓ms_10_b, ↓ml_11_b, ↓ms_11_b, ↓ml_13_b, ↓ms_13_b, ↓ml_14_b, ↓ms_14_b, ↓ml_15_b, ↓ms_15_b, ↓ml_16_b, ↓ms_16_b, ↓ml_17_b, ↓ms_17_b, ↓ml_18_b, ↓ms_18_b, ↓ml_19_b, ↓ms_19_b, ↓ml_20_b, ↓ms_20_b, ↓ml_21_b, ↓ms_21_b, ↓ml_22_b, ↓ms_22_b, m_cl, mg_0, mp_0, mr_1, mr_2, mr_3, mr_4, mr_5, mg_6, mp_6, mr_7, mr_8, mr_9, mr_10, mr_11, mr_12, mg_13, mp_13, mg_14, mp_14, mg_15, mp_15, mg_16, mp_16, mg_17, mp_17, mr_18, mg_19, mp_19, mg_20, mp_20, mg_21, mp_21, mr_22, mr_23, mr_24, mg_25, mp_25, mg_26, mp_26, mg_27, mp_27, mg_28, mp_28, mr_29, mr_30, mg_31, mp_31, mg_32, mp_32, mr_33, mr_34, mg_35, mp_35, mg_36, mp_36, mg_37, mp_37, mg_38, mp_38, mg_39, mp_39, mg_40, mp_40, mg_41, mp_41, mg_42, mp_42, mg_43, mp_43, mr_44, mr_45, mr_46, ml_1, ms_1, ml_2, ms_2, ml_3, ms_3, ml_4, ms_4, ml_5, ms_5, ml_6, ms_6, ml_7, ms_7, ml_8, ms_8, ml_9, ms_9, ml_10, ms_10, ml_11, ms_11, ml_13, ms_13, ml_14, ms_14, ml_15, ms_15, ml_16, ms_16, ml_17, ms_17, ml_18, ms_18, ml_19, ms_19, ml_20, ms_20, ml_21, ms_21, ml_22, ms_22, h_nI, Int.cast_ofNat_Int, h_b8, Int.bmod_bmod, h_add, h_sub, h_mul, h_neg, h_zero, h_and255, h_and15, h_and3, h_cltT, h_cltF, h_cgeT, h_cgeF, h_cgtT, h_cgtF, h_cleT, h_cleF, h_ceqT, h_ceqF, h_cneT, h_cneF, m_I_uI, m_A_uI, m_I_uA, m_A_uA, m_t1, ↓reduceIte, Option.bind_some, am_ret0, am_ret1, am_ret2, if_true, if_false, true_and, and_true, false_and, and_false, not_true_eq_false, not_false_eq_true, Nat.reduceEqDiff, Nat.reduceAdd, Nat.reduceSub, Nat.reduceMul, Int.reduceAdd, Int.reduceSub, Int.reduceMul, Int.reduceNeg, Int.reduceToNat, Int.reduceLT, Int.reduceLE, Nat.add_left_cancel_iff, B175_34]
theorem e_beg {μ : m_S} {w n i k : Int} (hw : μ.I 13 = w) (h0 : 0 ≤ w) (h1 : w < 9002) : am_gg (am_pr ad) d 176 0 [some (.ref m), some (.int (h_ii i)), some (.int (h_ii k)), some (.int (h_ii n))] [] (m_t M m μ) = some (.inl none, m_t M m (m_uA (m_uA (m_uA (m_uA μ 8 w.toNat i) 11 w.toNat (Int.bmod k 256)) 9 w.toNat n) 10 w.toNat 0)) := by
  rw [B176_0]
  simp (disch := first | assumption | omega | decide | (simp only [m_I_uI, m_A_uI, m_I_uA, m_A_uA] <;> first | assumption | omega) | fail) only [↓mp_0_b, ↓mp_6_b, ↓mp_13_b, ↓mp_14_b, ↓mp_15_b, ↓mp_16_b, ↓mp_17_b, ↓mp_19_b, ↓mp_20_b, ↓mp_21_b, ↓mp_25_b, ↓mp_26_b, ↓mp_27_b, ↓mp_28_b, ↓mp_31_b, ↓mp_32_b, ↓mp_35_b, ↓mp_36_b, ↓mp_37_b, ↓mp_38_b, ↓mp_39_b, ↓mp_40_b, ↓mp_41_b, ↓mp_42_b, ↓mp_43_b, ↓ml_1_b, ↓ms_1_b, ↓ml_2_b, ↓ms_2_b, ↓ml_3_b, ↓ms_3_b, ↓ml_4_b, ↓ms_4_b, ↓ml_5_b, ↓ms_5_b, ↓ml_6_b, ↓ms_6_b, ↓ml_7_b, ↓ms_7_b, ↓ml_8_b, ↓ms_8_b, ↓ml_9_b, ↓ms_9_b, ↓ml_10_b, ↓ms_10_b, ↓ml_11_b, ↓ms_11_b, ↓ml_13_b, ↓ms_13_b, ↓ml_14_b, ↓ms_14_b, ↓ml_15_b, ↓ms_15_b, ↓ml_16_b, ↓ms_16_b, ↓ml_17_b, ↓ms_17_b, ↓ml_18_b, ↓ms_18_b, ↓ml_19_b, ↓ms_19_b, ↓ml_20_b, ↓ms_20_b, ↓ml_21_b, ↓ms_21_b, ↓ml_22_b, ↓ms_22_b, m_cl, mg_0, mp_0, mr_1, mr_2, mr_3, mr_4, mr_5, mg_6, mp_6, mr_7, mr_8, mr_9, mr_10, mr_11, mr_12, mg_13, mp_13, mg_14, mp_14, mg_15, mp_15, mg_16, mp_16, mg_17, mp_17, mr_18, mg_19, mp_19, mg_20, mp_20, mg_21, mp_21, mr_22, mr_23, mr_24, mg_25, mp_25, mg_26, mp_26, mg_27, mp_27, mg_28, mp_28, mr_29, mr_30, mg_31, mp_31, mg_32, mp_32, mr_33, mr_34, mg_35, mp_35, mg_36, mp_36, mg_37, mp_37, mg_38, mp_38, mg_39, mp_39, mg_40, mp_40, mg_41, mp_41, mg_42, mp_42, mg_43, mp_43, mr_44, mr_45, mr_46, ml_1, ms_1, ml_2, ms_2, ml_3, ms_3, ml_4, ms_4, ml_5, ms_5, ml_6, ms_6, ml_7, ms_7, ml_8, ms_8, ml_9, ms_9, ml_10, ms_10, ml_11, ms_11, ml_13, ms_13, ml_14, ms_14, ml_15, ms_15, ml_16, ms_16, ml_17, ms_17, ml_18, ms_18, ml_19, ms_19, ml_20, ms_20, ml_21, ms_21, ml_22, ms_22, h_nI, Int.cast_ofNat_Int, h_b8, Int.bmod_bmod, h_add, h_sub, h_mul, h_neg, h_zero, h_and255, h_and15, h_and3, h_cltT, h_cltF, h_cgeT, h_cgeF, h_cgtT, h_cgtF, h_cleT, h_cleF, h_ceqT, h_ceqF, h_cneT, h_cneF, m_I_uI, m_A_uI, m_I_uA, m_A_uA, m_t1, ↓reduceIte, Option.bind_some, am_ret0, am_ret1, am_ret2, if_true, if_false, true_and, and_true, false_and, and_false, not_true_eq_false, not_false_eq_true, Nat.reduceEqDiff, Nat.reduceAdd, Nat.reduceSub, Nat.reduceMul, Int.reduceAdd, Int.reduceSub, Int.reduceMul, Int.reduceNeg, Int.reduceToNat, Int.reduceLT, Int.reduceLE, Nat.add_left_cancel_iff, hw]
/-- the words done, and one that is open -/
def m_E (μ : m_S) (W : List x_T) (o : Option (Nat × List (Int × Bool))) (bs : List (Int × Bool)) : Prop := μ.I 13 = W.length ∧ m_tok μ W ∧ m_byt μ bs ∧ (match o with
  | none => bs.length = x_fo W W.length
  | some (p, l) => μ.A 8 W.length = p ∧ μ.A 11 W.length = 0 ∧ μ.A 9 W.length = x_fo W W.length ∧ bs.length = x_fo W W.length + l.length)
/-- the open word is ended -/
theorem e_close {μ : m_S} {W : List x_T} {o : Option (Nat × List (Int × Bool))} {bs : List (Int × Bool)} (hE : m_E μ W o bs) (hw : W.length < 9002) :
    ∃ μ', am_gg (am_pr ad) d 175 0 [some (.ref m), some (.int (h_ii (if o = none then 0 else 1))), some (.int (h_ii bs.length))] [] (m_t M m μ) = some (.inl none, m_t M m μ') ∧ m_fc μ μ' ∧ m_E μ' (W ++ x_cl o) none bs := by
  obtain ⟨h1, h2, h3, h4⟩ := hE
  cases o with
  | none =>
    refine ⟨μ, e_end0, m_fc.refl μ, ?_⟩
    show m_E μ (W ++ []) none bs
    rw [List.append_nil]
    exact ⟨h1, h2, h3, h4⟩
  | some z =>
    obtain ⟨p, l⟩ := z
    obtain ⟨g1, g2, g3, g4⟩ := h4
    show ∃ μ', _ ∧ m_fc μ μ' ∧ m_E μ' (W ++ [(0, p, l)]) none bs
    have hs : ∃ s, s = m_uI (m_uA μ 10 W.length ((bs.length : Int) - μ.A 9 W.length)) 13 (W.length + 1) := ⟨_, rfl⟩
    obtain ⟨s, hs⟩ := hs
    have sA : ∀ z j, s.A z j = if z = 10 ∧ j = W.length then (l.length : Int) else μ.A z j := fun z j => by
      rw [hs, m_A_uI, m_A_uA, g3]
      by_cases q : z = 10 ∧ j = W.length
      · rw [if_pos q, if_pos q]; omega
      · rw [if_neg q, if_neg q]
    refine ⟨s, ?_, by rw [hs]; exact (m_fc.uA μ (by decide)).trans (m_fc.uI _), ?_, ?_, ?_, ?_⟩
    · rw [if_neg (by simp)]
      have := e_end (M := M) (m := m) (ad := ad) (d := d) (μ := μ) (w := W.length) (n := bs.length) h1 (by omega) (by omega)
      rw [Int.toNat_natCast] at this
      rw [hs]
      exact this
    · rw [hs, m_I_uI, if_pos rfl]; simp
    · intro k hk
      simp at hk
      rw [sA, sA, sA, sA, if_neg (by omega), if_neg (by omega), if_neg (by omega)]
      by_cases q : k = W.length
      · subst q
        rw [if_pos ⟨rfl, rfl⟩, x_0m, x_fo_app (Nat.le_refl _)]
        exact ⟨g1, g2, g3, rfl⟩
      · rw [if_neg (by omega), x_0l (by omega), x_fo_app (by omega)]
        exact h2 k (by omega)
    · intro j hj
      rw [sA, sA, if_neg (by omega), if_neg (by omega)]
      exact h3 j hj
    · show bs.length = x_fo (W ++ [(0, p, l)]) (W ++ [(0, p, l)]).length
      rw [List.length_append]
      show _ = x_fo (W ++ [(0, p, l)]) (W.length + 1)
      rw [x_fo_last, g4]
/-- a word is begun -/
theorem e_open {μ : m_S} {W : List x_T} {bs : List (Int × Bool)} {i : Nat} (hE : m_E μ W none bs) (hw : W.length < 9002) :
    ∃ μ', am_gg (am_pr ad) d 176 0 [some (.ref m), some (.int (h_ii i)), some (.int (h_ii 0)), some (.int (h_ii bs.length))] [] (m_t M m μ) = some (.inl none, m_t M m μ') ∧ m_fc μ μ' ∧ m_E μ' W (some (i, [])) bs := by
  obtain ⟨h1, h2, h3, h4⟩ := hE
  have hs : ∃ s, s = m_uA (m_uA (m_uA (m_uA μ 8 W.length i) 11 W.length (Int.bmod 0 256)) 9 W.length bs.length) 10 W.length 0 := ⟨_, rfl⟩
  obtain ⟨s, hs⟩ := hs
  have sA : ∀ z j, ¬ (j = W.length ∧ (z = 8 ∨ z = 9 ∨ z = 10 ∨ z = 11)) → s.A z j = μ.A z j := fun z j hq => by
    rw [hs, m_A_uA, if_neg (by omega), m_A_uA, if_neg (by omega), m_A_uA, if_neg (by omega), m_A_uA, if_neg (by omega)]
  refine ⟨s, ?_, by rw [hs]; exact (((m_fc.uA μ (by decide)).trans (m_fc.uA _ (by decide))).trans (m_fc.uA _ (by decide))).trans (m_fc.uA _ (by decide)), ?_, ?_, ?_, ?_, ?_, ?_, ?_⟩
  · have := e_beg (M := M) (m := m) (ad := ad) (d := d) (μ := μ) (w := W.length) (n := bs.length) (i := i) (k := 0) h1 (by omega) (by omega)
    rw [Int.toNat_natCast] at this
    rw [hs]
    exact this
  · rw [hs]; exact h1
  · intro k hk
    rw [sA _ _ (by omega), sA _ _ (by omega), sA _ _ (by omega), sA _ _ (by omega)]
    exact h2 k hk
  · intro j hj
    rw [sA _ _ (by omega), sA _ _ (by omega)]
    exact h3 j hj
  · rw [hs, m_A_uA, if_neg (by omega), m_A_uA, if_neg (by omega), m_A_uA, if_neg (by omega), m_A_uA, if_pos ⟨rfl, rfl⟩]
  · rw [hs, m_A_uA, if_neg (by omega), m_A_uA, if_neg (by omega), m_A_uA, if_pos ⟨rfl, rfl⟩]; rfl
  · rw [hs, m_A_uA, if_neg (by omega), m_A_uA, if_pos ⟨rfl, rfl⟩]
    exact congrArg _ h4
  · simpa using h4
/-- a sign is a word of its own -/
theorem e_sign {μ : m_S} {W : List x_T} {bs : List (Int × Bool)} {i k : Nat} (hk : k = 1 ∨ k = 2) (hE : m_E μ W none bs) (hw : W.length < 9002) :
    ∃ μ', am_gg (am_pr ad) d 176 0 [some (.ref m), some (.int (h_ii i)), some (.int (h_ii k)), some (.int (h_ii bs.length))] [] (m_t M m μ) = some (.inl none, m_t M m μ') ∧ m_fc μ μ' ∧ μ'.I 13 = W.length ∧ m_E (m_uI μ' 13 (W.length + 1)) (W ++ [(k, i, [])]) none bs := by
  obtain ⟨h1, h2, h3, h4⟩ := hE
  have hs : ∃ s, s = m_uA (m_uA (m_uA (m_uA μ 8 W.length i) 11 W.length (Int.bmod k 256)) 9 W.length bs.length) 10 W.length 0 := ⟨_, rfl⟩
  obtain ⟨s, hs⟩ := hs
  have sA : ∀ z j, ¬ (j = W.length ∧ (z = 8 ∨ z = 9 ∨ z = 10 ∨ z = 11)) → s.A z j = μ.A z j := fun z j hq => by
    rw [hs, m_A_uA, if_neg (by omega), m_A_uA, if_neg (by omega), m_A_uA, if_neg (by omega), m_A_uA, if_neg (by omega)]
  refine ⟨s, ?_, by rw [hs]; exact (((m_fc.uA μ (by decide)).trans (m_fc.uA _ (by decide))).trans (m_fc.uA _ (by decide))).trans (m_fc.uA _ (by decide)), by rw [hs]; exact h1, ?_, ?_, ?_, ?_⟩
  · have := e_beg (M := M) (m := m) (ad := ad) (d := d) (μ := μ) (w := W.length) (n := bs.length) (i := i) (k := k) h1 (by omega) (by omega)
    rw [Int.toNat_natCast] at this
    rw [hs]
    exact this
  · rw [m_I_uI, if_pos rfl]; simp
  · intro k' hk'
    simp at hk'
    rw [m_A_uI, m_A_uI, m_A_uI, m_A_uI]
    by_cases q : k' = W.length
    · subst q
      rw [x_0m, x_fo_app (Nat.le_refl _)]
      refine ⟨?_, ?_, ?_, ?_⟩
      · rw [hs, m_A_uA, if_neg (by omega), m_A_uA, if_neg (by omega), m_A_uA, if_neg (by omega), m_A_uA, if_pos ⟨rfl, rfl⟩]
      · rw [hs, m_A_uA, if_neg (by omega), m_A_uA, if_neg (by omega), m_A_uA, if_pos ⟨rfl, rfl⟩]
        rcases hk with rfl | rfl <;> rfl
      · rw [hs, m_A_uA, if_neg (by omega), m_A_uA, if_pos ⟨rfl, rfl⟩]
        exact congrArg _ h4
      · rw [hs, m_A_uA, if_pos ⟨rfl, rfl⟩]; rfl
    · rw [sA _ _ (by omega), sA _ _ (by omega), sA _ _ (by omega), sA _ _ (by omega), x_0l (by omega), x_fo_app (by omega)]
      exact h2 k' (by omega)
  · intro j hj
    rw [m_A_uI, m_A_uI, sA _ _ (by omega), sA _ _ (by omega)]
    exact h3 j hj
  · show bs.length = x_fo (W ++ [(k, i, [])]) (W ++ [(k, i, [])]).length
    rw [List.length_append]
    show _ = x_fo (W ++ [(k, i, [])]) (W.length + 1)
    rw [x_fo_last]
    exact h4
/-- a byte more -/
theorem e_byte {μ : m_S} {W : List x_T} {bs l : List (Int × Bool)} {p : Nat} {v : Int} {c : Bool} (hE : m_E μ W (some (p, l)) bs) : m_fc μ (m_uA (m_uA μ 6 bs.length (Int.bmod v 256)) 7 bs.length (if c = true then 1 else 0)) ∧ m_E (m_uA (m_uA μ 6 bs.length (Int.bmod v 256)) 7 bs.length (if c = true then 1 else 0)) W (some (p, l ++ [(v, c)])) (bs ++ [(v, c)]) := by
  obtain ⟨h1, h2, h3, g1, g2, g3, g4⟩ := hE
  have sA : ∀ z j, 8 ≤ z → (m_uA (m_uA μ 6 bs.length (Int.bmod v 256)) 7 bs.length (if c = true then 1 else 0)).A z j = μ.A z j := fun z j hz => by rw [m_A_uA, if_neg (by omega), m_A_uA, if_neg (by omega)]
  refine ⟨(m_fc.uA μ (by decide)).trans (m_fc.uA _ (by decide)), h1, ?_, ?_, ?_, ?_, ?_, ?_⟩
  · intro k hk
    rw [sA _ _ (by decide), sA _ _ (by decide), sA _ _ (by decide), sA _ _ (by decide)]
    exact h2 k hk
  · intro j hj
    simp at hj
    rw [m_A_uA, if_neg (by omega), m_A_uA, m_A_uA]
    by_cases q : j = bs.length
    · subst q
      rw [if_pos ⟨rfl, rfl⟩, if_pos ⟨rfl, rfl⟩, List.getD_eq_getElem?_getD, List.getElem?_append_right (Nat.le_refl _), Nat.sub_self]
      exact ⟨rfl, rfl⟩
    · rw [if_neg (fun w => q w.2), if_neg (fun w => q w.2), m_A_uA, if_neg (by omega), List.getD_eq_getElem?_getD, List.getElem?_append_left (by omega), ← List.getD_eq_getElem?_getD]
      exact h3 j (by omega)
  · rw [sA _ _ (by decide)]; exact g1
  · rw [sA _ _ (by decide)]; exact g2
  · rw [sA _ _ (by decide)]; exact g3
  · simp; omega
/-- what the reference knows of the words -/
def m_H (μ : m_S) (t : List Int) (W : List x_T) : Prop := μ.I 13 = W.length ∧ W.length ≤ t.length ∧ m_tok μ W ∧ m_byt μ (x_bb W) ∧ (x_bb W).length = x_fo W W.length ∧ μ.A 8 W.length = t.length ∧ μ.A 11 W.length = 2
def m_fq (μ μ' : m_S) : Prop := (∀ k, k ≠ 13 → k ≠ 14 → k ≠ 15 → μ'.I k = μ.I k) ∧ (∀ k i, k < 6 ∨ 11 < k → μ'.A k i = μ.A k i)
theorem m_fq.pre {μ μ' μ'' : m_S} (h : m_fc μ μ') (h2 : m_fq μ' μ'') : m_fq μ μ'' := ⟨fun k h1 h3 h4 => (h2.1 k h1 h3 h4).trans (h.1 k h1), fun k i hk => (h2.2 k i hk).trans (h.2 k i hk)⟩
theorem e_fin {μ : m_S} {W : List x_T} {o : Option (Nat × List (Int × Bool))} {bs : List (Int × Bool)} {z3 : Int} {o5 o6 : Option Value} (hT : m_T μ t) (hE : m_E μ W o bs) (hb : bs = x_bb W ++ x_ol o) (hw : W.length + (if o = none then 0 else 1) ≤ t.length) (hz : -1 ≤ z3 ∧ z3 < 9000) (h14 : μ.I 14 = 0) :
    ∃ μ', am_gg (am_pr ad) (d + 1) 174 14 [some (.ref m), some (.int (h_ii bs.length)), some (.int (h_ii (if o = none then 0 else 1))), some (.int (h_ii z3)), some (.int (h_ii t.length)), o5, o6] [] (m_t M m μ) = some (.inl none, m_t M m μ') ∧ m_fq μ μ' ∧ m_H μ' t (W ++ x_cl o) ∧ (z3 = -1 → μ'.I 14 = 0 ∧ μ'.I 15 = μ.I 15) ∧ (z3 ≠ -1 → μ'.I 14 = 1 ∧ μ'.I 15 = z3) := by
  obtain ⟨a1, a3, a4, a5⟩ := hT
  have hwl : W.length < 9002 := by omega
  obtain ⟨s1, e1, f1, g1⟩ := e_close (M := M) (m := m) (ad := ad) (d := d) hE hwl
  have hW : ∃ V, V = W ++ x_cl o := ⟨_, rfl⟩
  obtain ⟨V, hV⟩ := hW
  rw [← hV] at g1 ⊢
  have hVl : V.length ≤ t.length := by
    rw [hV]
    cases o with
    | none => simp [x_cl] at hw ⊢; omega
    | some z => simp [x_cl] at hw ⊢; omega
  have hVb : bs = x_bb V := by
    rw [hV, x_bb_app, hb]
    cases o with
    | none => rfl
    | some z =>
      obtain ⟨p, l⟩ := z
      show x_bb W ++ l = x_bb W ++ x_bb [(0, p, l)]
      rw [x_bb_one]
  obtain ⟨k1, k2, k3, k4⟩ := g1
  have k4 : bs.length = x_fo V V.length := k4
  have s16 : s1.I 6 = t.length := by rw [f1.1 6 (by decide)]; exact a1
  have s114 : s1.I 14 = 0 := by rw [f1.1 14 (by decide)]; exact h14
  have fin : ∀ s2 : m_S, (∀ k, k ≠ 14 → k ≠ 15 → s2.I k = s1.I k) → (∀ k i, s2.A k i = s1.A k i) → ∃ μ', am_gg (am_pr ad) (d + 1) 174 211 [some (.ref m), some (.int (h_ii bs.length)), some (.int (h_ii (if o = none then 0 else 1))), some (.int (h_ii z3)), some (.int (h_ii t.length)), o5, o6] [] (m_t M m s2) = some (.inl none, m_t M m μ') ∧ (∀ k, μ'.I k = s2.I k) ∧ (∀ k i, k < 6 ∨ 11 < k → μ'.A k i = s2.A k i) ∧ m_H μ' t V := by
    intro s2 hI hA
    have hs : ∃ s3, s3 = m_uA (m_uA s2 8 V.length t.length) 11 V.length 2 := ⟨_, rfl⟩
    obtain ⟨s3, hs⟩ := hs
    have sA : ∀ z j, ¬ (j = V.length ∧ (z = 8 ∨ z = 11)) → s3.A z j = s1.A z j := fun z j hq => by rw [hs, m_A_uA, if_neg (by omega), m_A_uA, if_neg (by omega), hA]
    refine ⟨s3, ?_, fun k => by rw [hs]; rfl, fun k i hk => by rw [hs, m_A_uA, if_neg (by omega), m_A_uA, if_neg (by omega)], ?_⟩
    · have y1 : s2.I 13 = V.length := by rw [hI 13 (by decide) (by decide)]; exact k1
      have y2 : s2.I 6 = t.length := by rw [hI 6 (by decide) (by decide)]; exact s16
      rw [B174_211]
      simp (disch := first | assumption | omega | decide | (simp only [m_I_uI, m_A_uI, m_I_uA, m_A_uA] <;> first | assumption | omega) | fail) only [↓mp_0_b, ↓mp_6_b, ↓mp_13_b, ↓mp_14_b, ↓mp_15_b, ↓mp_16_b, ↓mp_17_b, ↓mp_19_b, ↓mp_20_b, ↓mp_21_b, ↓mp_25_b, ↓mp_26_b, ↓mp_27_b, ↓mp_28_b, ↓mp_31_b, ↓mp_32_b, ↓mp_35_b, ↓mp_36_b, ↓mp_37_b, ↓mp_38_b, ↓mp_39_b, ↓mp_40_b, ↓mp_41_b, ↓mp_42_b, ↓mp_43_b, ↓ml_1_b, ↓ms_1_b, ↓ml_2_b, ↓ms_2_b, ↓ml_3_b, ↓ms_3_b, ↓ml_4_b, ↓ms_4_b, ↓ml_5_b, ↓ms_5_b, ↓ml_6_b, ↓ms_6_b, ↓ml_7_b, ↓ms_7_b, ↓ml_8_b, ↓ms_8_b, ↓ml_9_b, ↓ms_9_b, ↓ml_10_b, ↓ms_10_b, ↓ml_11_b, ↓ms_11_b, ↓ml_13_b, ↓ms_13_b, ↓ml_14_b, ↓ms_14_b, ↓ml_15_b, ↓ms_15_b, ↓ml_16_b, ↓ms_16_b, ↓ml_17_b, ↓ms_17_b, ↓ml_18_b, ↓ms_18_b, ↓ml_19_b, ↓ms_19_b, ↓ml_20_b, ↓ms_20_b, ↓ml_21_b, ↓ms_21_b, ↓ml_22_b, ↓ms_22_b, m_cl, mg_0, mp_0, mr_1, mr_2, mr_3, mr_4, mr_5, mg_6, mp_6, mr_7, mr_8, mr_9, mr_10, mr_11, mr_12, mg_13, mp_13, mg_14, mp_14, mg_15, mp_15, mg_16, mp_16, mg_17, mp_17, mr_18, mg_19, mp_19, mg_20, mp_20, mg_21, mp_21, mr_22, mr_23, mr_24, mg_25, mp_25, mg_26, mp_26, mg_27, mp_27, mg_28, mp_28, mr_29, mr_30, mg_31, mp_31, mg_32, mp_32, mr_33, mr_34, mg_35, mp_35, mg_36, mp_36, mg_37, mp_37, mg_38, mp_38, mg_39, mp_39, mg_40, mp_40, mg_41, mp_41, mg_42, mp_42, mg_43, mp_43, mr_44, mr_45, mr_46, ml_1, ms_1, ml_2, ms_2, ml_3, ms_3, ml_4, ms_4, ml_5, ms_5, ml_6, ms_6, ml_7, ms_7, ml_8, ms_8, ml_9, ms_9, ml_10, ms_10, ml_11, ms_11, ml_13, ms_13, ml_14, ms_14, ml_15, ms_15, ml_16, ms_16, ml_17, ms_17, ml_18, ms_18, ml_19, ms_19, ml_20, ms_20, ml_21, ms_21, ml_22, ms_22, h_nI, Int.cast_ofNat_Int, h_b8, Int.bmod_bmod, h_add, h_sub, h_mul, h_neg, h_zero, h_and255, h_and15, h_and3, h_cltT, h_cltF, h_cgeT, h_cgeF, h_cgtT, h_cgtF, h_cleT, h_cleF, h_ceqT, h_ceqF, h_cneT, h_cneF, m_I_uI, m_A_uI, m_I_uA, m_A_uA, m_t1, ↓reduceIte, Option.bind_some, am_ret0, am_ret1, am_ret2, if_true, if_false, true_and, and_true, false_and, and_false, not_true_eq_false, not_false_eq_true, Nat.reduceEqDiff, Nat.reduceAdd, Nat.reduceSub, Nat.reduceMul, Int.reduceAdd, Int.reduceSub, Int.reduceMul, Int.reduceNeg, Int.reduceToNat, Int.reduceLT, Int.reduceLE, Nat.add_left_cancel_iff, y1, y2, Int.toNat_natCast]
      rw [hs]
      rfl
    · refine ⟨by rw [hs]; show s2.I 13 = _; rw [hI 13 (by decide) (by decide)]; exact k1, hVl, ?_, ?_, by rw [← hVb]; exact k4, ?_, ?_⟩
      · intro k hk
        rw [sA _ _ (by omega), sA _ _ (by omega), sA _ _ (by omega), sA _ _ (by omega)]
        exact k2 k hk
      · rw [← hVb]
        intro j hj
        rw [sA _ _ (by omega), sA _ _ (by omega)]
        exact k3 j hj
      · rw [hs, m_A_uA, if_neg (by omega), m_A_uA, if_pos ⟨rfl, rfl⟩]
      · rw [hs, m_A_uA, if_pos ⟨rfl, rfl⟩]
  by_cases q : z3 = -1
  · obtain ⟨s3, e3, j1, j2, j3⟩ := fin s1 (fun _ _ _ => rfl) (fun _ _ => rfl)
    refine ⟨s3, ?_, .pre f1 ⟨fun k _ _ _ => j1 k, j2⟩, j3, fun _ => ⟨by rw [j1]; exact s114, by rw [j1, f1.1 15 (by decide)]⟩, fun w => absurd q w⟩
    rw [B174_14]
    simp (disch := first | assumption | omega | decide | (simp only [m_I_uI, m_A_uI, m_I_uA, m_A_uA] <;> first | assumption | omega) | fail) only [↓mp_0_b, ↓mp_6_b, ↓mp_13_b, ↓mp_14_b, ↓mp_15_b, ↓mp_16_b, ↓mp_17_b, ↓mp_19_b, ↓mp_20_b, ↓mp_21_b, ↓mp_25_b, ↓mp_26_b, ↓mp_27_b, ↓mp_28_b, ↓mp_31_b, ↓mp_32_b, ↓mp_35_b, ↓mp_36_b, ↓mp_37_b, ↓mp_38_b, ↓mp_39_b, ↓mp_40_b, ↓mp_41_b, ↓mp_42_b, ↓mp_43_b, ↓ml_1_b, ↓ms_1_b, ↓ml_2_b, ↓ms_2_b, ↓ml_3_b, ↓ms_3_b, ↓ml_4_b, ↓ms_4_b, ↓ml_5_b, ↓ms_5_b, ↓ml_6_b, ↓ms_6_b, ↓ml_7_b, ↓ms_7_b, ↓ml_8_b, ↓ms_8_b, ↓ml_9_b, ↓ms_9_b, ↓ml_10_b, ↓ms_10_b, ↓ml_11_b, ↓ms_11_b, ↓ml_13_b, ↓ms_13_b, ↓ml_14_b, ↓ms_14_b, ↓ml_15_b, ↓ms_15_b, ↓ml_16_b, ↓ms_16_b, ↓ml_17_b, ↓ms_17_b, ↓ml_18_b, ↓ms_18_b, ↓ml_19_b, ↓ms_19_b, ↓ml_20_b, ↓ms_20_b, ↓ml_21_b, ↓ms_21_b, ↓ml_22_b, ↓ms_22_b, m_cl, mg_0, mp_0, mr_1, mr_2, mr_3, mr_4, mr_5, mg_6, mp_6, mr_7, mr_8, mr_9, mr_10, mr_11, mr_12, mg_13, mp_13, mg_14, mp_14, mg_15, mp_15, mg_16, mp_16, mg_17, mp_17, mr_18, mg_19, mp_19, mg_20, mp_20, mg_21, mp_21, mr_22, mr_23, mr_24, mg_25, mp_25, mg_26, mp_26, mg_27, mp_27, mg_28, mp_28, mr_29, mr_30, mg_31, mp_31, mg_32, mp_32, mr_33, mr_34, mg_35, mp_35, mg_36, mp_36, mg_37, mp_37, mg_38, mp_38, mg_39, mp_39, mg_40, mp_40, mg_41, mp_41, mg_42, mp_42, mg_43, mp_43, mr_44, mr_45, mr_46, ml_1, ms_1, ml_2, ms_2, ml_3, ms_3, ml_4, ms_4, ml_5, ms_5, ml_6, ms_6, ml_7, ms_7, ml_8, ms_8, ml_9, ms_9, ml_10, ms_10, ml_11, ms_11, ml_13, ms_13, ml_14, ms_14, ml_15, ms_15, ml_16, ms_16, ml_17, ms_17, ml_18, ms_18, ml_19, ms_19, ml_20, ms_20, ml_21, ms_21, ml_22, ms_22, h_nI, Int.cast_ofNat_Int, h_b8, Int.bmod_bmod, h_add, h_sub, h_mul, h_neg, h_zero, h_and255, h_and15, h_and3, h_cltT, h_cltF, h_cgeT, h_cgeF, h_cgtT, h_cgtF, h_cleT, h_cleF, h_ceqT, h_ceqF, h_cneT, h_cneF, m_I_uI, m_A_uI, m_I_uA, m_A_uA, m_t1, ↓reduceIte, Option.bind_some, am_ret0, am_ret1, am_ret2, if_true, if_false, true_and, and_true, false_and, and_false, not_true_eq_false, not_false_eq_true, Nat.reduceEqDiff, Nat.reduceAdd, Nat.reduceSub, Nat.reduceMul, Int.reduceAdd, Int.reduceSub, Int.reduceMul, Int.reduceNeg, Int.reduceToNat, Int.reduceLT, Int.reduceLE, Nat.add_left_cancel_iff, a1, e1]
    exact e3
  · obtain ⟨s3, e3, j1, j2, j3⟩ := fin (m_uI (m_uI s1 14 1) 15 z3) (fun k h1 h2 => by rw [m_I_uI, if_neg h2, m_I_uI, if_neg h1]) (fun _ _ => rfl)
    refine ⟨s3, ?_, .pre f1 ⟨fun k _ h2 h3 => by rw [j1, m_I_uI, if_neg h3, m_I_uI, if_neg h2], j2⟩, j3, fun w => absurd w q, fun _ => ⟨by rw [j1]; rfl, by rw [j1]; rfl⟩⟩
    rw [B174_14]
    simp (disch := first | assumption | omega | decide | (simp only [m_I_uI, m_A_uI, m_I_uA, m_A_uA] <;> first | assumption | omega) | fail) only [↓mp_0_b, ↓mp_6_b, ↓mp_13_b, ↓mp_14_b, ↓mp_15_b, ↓mp_16_b, ↓mp_17_b, ↓mp_19_b, ↓mp_20_b, ↓mp_21_b, ↓mp_25_b, ↓mp_26_b, ↓mp_27_b, ↓mp_28_b, ↓mp_31_b, ↓mp_32_b, ↓mp_35_b, ↓mp_36_b, ↓mp_37_b, ↓mp_38_b, ↓mp_39_b, ↓mp_40_b, ↓mp_41_b, ↓mp_42_b, ↓mp_43_b, ↓ml_1_b, ↓ms_1_b, ↓ml_2_b, ↓ms_2_b, ↓ml_3_b, ↓ms_3_b, ↓ml_4_b, ↓ms_4_b, ↓ml_5_b, ↓ms_5_b, ↓ml_6_b, ↓ms_6_b, ↓ml_7_b, ↓ms_7_b, ↓ml_8_b, ↓ms_8_b, ↓ml_9_b, ↓ms_9_b, ↓ml_10_b, ↓ms_10_b, ↓ml_11_b, ↓ms_11_b, ↓ml_13_b, ↓ms_13_b, ↓ml_14_b, ↓ms_14_b, ↓ml_15_b, ↓ms_15_b, ↓ml_16_b, ↓ms_16_b, ↓ml_17_b, ↓ms_17_b, ↓ml_18_b, ↓ms_18_b, ↓ml_19_b, ↓ms_19_b, ↓ml_20_b, ↓ms_20_b, ↓ml_21_b, ↓ms_21_b, ↓ml_22_b, ↓ms_22_b, m_cl, mg_0, mp_0, mr_1, mr_2, mr_3, mr_4, mr_5, mg_6, mp_6, mr_7, mr_8, mr_9, mr_10, mr_11, mr_12, mg_13, mp_13, mg_14, mp_14, mg_15, mp_15, mg_16, mp_16, mg_17, mp_17, mr_18, mg_19, mp_19, mg_20, mp_20, mg_21, mp_21, mr_22, mr_23, mr_24, mg_25, mp_25, mg_26, mp_26, mg_27, mp_27, mg_28, mp_28, mr_29, mr_30, mg_31, mp_31, mg_32, mp_32, mr_33, mr_34, mg_35, mp_35, mg_36, mp_36, mg_37, mp_37, mg_38, mp_38, mg_39, mp_39, mg_40, mp_40, mg_41, mp_41, mg_42, mp_42, mg_43, mp_43, mr_44, mr_45, mr_46, ml_1, ms_1, ml_2, ms_2, ml_3, ms_3, ml_4, ms_4, ml_5, ms_5, ml_6, ms_6, ml_7, ms_7, ml_8, ms_8, ml_9, ms_9, ml_10, ms_10, ml_11, ms_11, ml_13, ms_13, ml_14, ms_14, ml_15, ms_15, ml_16, ms_16, ml_17, ms_17, ml_18, ms_18, ml_19, ms_19, ml_20, ms_20, ml_21, ms_21, ml_22, ms_22, h_nI, Int.cast_ofNat_Int, h_b8, Int.bmod_bmod, h_add, h_sub, h_mul, h_neg, h_zero, h_and255, h_and15, h_and3, h_cltT, h_cltF, h_cgeT, h_cgeF, h_cgtT, h_cgtF, h_cleT, h_cleF, h_ceqT, h_ceqF, h_cneT, h_cneF, m_I_uI, m_A_uI, m_I_uA, m_A_uA, m_t1, ↓reduceIte, Option.bind_some, am_ret0, am_ret1, am_ret2, if_true, if_false, true_and, and_true, false_and, and_false, not_true_eq_false, not_false_eq_true, Nat.reduceEqDiff, Nat.reduceAdd, Nat.reduceSub, Nat.reduceMul, Int.reduceAdd, Int.reduceSub, Int.reduceMul, Int.reduceNeg, Int.reduceToNat, Int.reduceLT, Int.reduceLE, Nat.add_left_cancel_iff, a1, e1, B177_0, B177_17, s114]
    exact e3
/-- cutWords, its loop -/
theorem e_loop : ∀ (n i : Nat) {μ : m_S} {W : List x_T} {o : Option (Nat × List (Int × Bool))} {bs : List (Int × Bool)} {q : Bool} {z3 : Int} {o5 o6 : Option Value}, t.length - i = n → i ≤ t.length → m_T μ t → m_E μ W o bs → bs = x_bb W ++ x_ol o → W.length + (if o = none then 0 else 1) ≤ i → bs.length ≤ i → (-1 ≤ z3 ∧ z3 < 9000) → (q = true ↔ z3 ≠ -1) → (o = none → q = false) → μ.I 14 = 0 →
    ∃ μ', am_gg (am_pr ad) (d + 1) 174 14 [some (.ref m), some (.int (h_ii bs.length)), some (.int (h_ii (if o = none then 0 else 1))), some (.int (h_ii z3)), some (.int (h_ii i)), o5, o6] [] (m_t M m μ) = some (.inl none, m_t M m μ') ∧ m_fq μ μ' ∧ m_H μ' t (W ++ x_rs t i o q) ∧ (x_lq (t.drop i) i z3 = -1 → μ'.I 14 = 0 ∧ μ'.I 15 = μ.I 15) ∧ (x_lq (t.drop i) i z3 ≠ -1 → μ'.I 14 = 1 ∧ μ'.I 15 = x_lq (t.drop i) i z3)
  | 0, i, μ, W, o, bs, q, z3, o5, o6, hn, hi, hT, hE, hb, hw, hbl, hz, hq, hoq, h14 => by
    have hh : i = t.length := by omega
    subst hh
    have hrs : x_rs t t.length o q = x_cl o := by
      unfold x_rs x_cl
      cases o with
      | none => exact x_W_end (Nat.le_refl _)
      | some z =>
        obtain ⟨p, l⟩ := z
        dsimp only
        rw [List.drop_length]
        simp only [x_rw, List.append_nil, Nat.add_zero]
        rw [x_W_end (Nat.le_refl _)]
    rw [hrs, List.drop_length]
    exact e_fin hT hE hb hw hz h14
  | n + 1, i, μ, W, o, bs, q, z3, o5, o6, hn, hi, hT, hE, hb, hw, hbl, hz, hq, hoq, h14 => by
    have hT' := hT
    obtain ⟨a1, a3, a4, a5⟩ := hT'
    have hv := x_okl_at a4 i
    have e := a5 i (by omega)
    have hm : Int.bmod (t.getD i 0) 256 % 256 = t.getD i 0 := by rw [h_bm, Int.emod_eq_of_lt hv.1 hv.2]
    have hlt : i < t.length := by omega
    have hwl : W.length < 9002 := by omega
    have ho01 : (if o = none then (0 : Int) else 1) = 0 ∨ (if o = none then (0 : Int) else 1) = 1 := by split <;> simp
    rw [x_drop hlt, x_lq.eq_2]
    -- within an open word
    have inner : ∀ {μ1 : m_S} {p : Nat} {l : List (Int × Bool)} {o6' : Option Value}, m_T μ1 t → m_E μ1 W (some (p, l)) bs → bs = x_bb W ++ l → W.length + 1 ≤ i + 1 → μ1.I 14 = 0 → ¬ (q = false ∧ (t.getD i 0 = 32 ∨ t.getD i 0 = 124 ∨ t.getD i 0 = 62)) → ∃ μ', am_gg (am_pr ad) (d + 1) 174 138 [some (.ref m), some (.int (h_ii bs.length)), some (.int (h_ii 1)), some (.int (h_ii z3)), some (.int (h_ii i)), some (.int (h_ii (t.getD i 0))), some (.int (h_ii 0))] [] (m_t M m μ1) = some (.inl none, m_t M m μ') ∧ m_fq μ1 μ' ∧ m_H μ' t (W ++ x_rs t i (some (p, l)) q) ∧ (x_lq (t.drop (i + 1)) (i + 1) (if t.getD i 0 = 39 then (if z3 = -1 then (i : Int) else -1) else z3) = -1 → μ'.I 14 = 0 ∧ μ'.I 15 = μ1.I 15) ∧ (x_lq (t.drop (i + 1)) (i + 1) (if t.getD i 0 = 39 then (if z3 = -1 then (i : Int) else -1) else z3) ≠ -1 → μ'.I 14 = 1 ∧ μ'.I 15 = x_lq (t.drop (i + 1)) (i + 1) (if t.getD i 0 = 39 then (if z3 = -1 then (i : Int) else -1) else z3)) := by
      intro μ1 p l o6' hT1 hE1 hb1 hw1 h141 hnq
      by_cases q39 : t.getD i 0 = 39
      · rw [if_pos q39, x_rs_q39 hlt q39]
        by_cases hz1 : z3 = -1
        · have hqf : q = false := by cases q with | false => rfl | true => exact absurd hz1 (hq.mp rfl)
          rw [if_pos hz1]
          obtain ⟨μ', e1, e2, e3, e4, e5⟩ := e_loop n (i + 1) (μ := μ1) (W := W) (o := some (p, l)) (bs := bs) (q := !q) (z3 := i) (o5 := some (.int (h_ii 39))) (o6 := some (.int (h_ii 0))) (by omega) (by omega) hT1 hE1 hb1 (by simpa using hw1) (by omega) (by omega) (by rw [hqf]; simp <;> omega) (fun w => by simp at w) h141
          refine ⟨μ', ?_, e2, e3, e4, e5⟩
          rw [B174_138, q39]
          simp (disch := first | assumption | omega | decide | (simp only [m_I_uI, m_A_uI, m_I_uA, m_A_uA] <;> first | assumption | omega) | fail) only [↓mp_0_b, ↓mp_6_b, ↓mp_13_b, ↓mp_14_b, ↓mp_15_b, ↓mp_16_b, ↓mp_17_b, ↓mp_19_b, ↓mp_20_b, ↓mp_21_b, ↓mp_25_b, ↓mp_26_b, ↓mp_27_b, ↓mp_28_b, ↓mp_31_b, ↓mp_32_b, ↓mp_35_b, ↓mp_36_b, ↓mp_37_b, ↓mp_38_b, ↓mp_39_b, ↓mp_40_b, ↓mp_41_b, ↓mp_42_b, ↓mp_43_b, ↓ml_1_b, ↓ms_1_b, ↓ml_2_b, ↓ms_2_b, ↓ml_3_b, ↓ms_3_b, ↓ml_4_b, ↓ms_4_b, ↓ml_5_b, ↓ms_5_b, ↓ml_6_b, ↓ms_6_b, ↓ml_7_b, ↓ms_7_b, ↓ml_8_b, ↓ms_8_b, ↓ml_9_b, ↓ms_9_b, ↓ml_10_b, ↓ms_10_b, ↓ml_11_b, ↓ms_11_b, ↓ml_13_b, ↓ms_13_b, ↓ml_14_b, ↓ms_14_b, ↓ml_15_b, ↓ms_15_b, ↓ml_16_b, ↓ms_16_b, ↓ml_17_b, ↓ms_17_b, ↓ml_18_b, ↓ms_18_b, ↓ml_19_b, ↓ms_19_b, ↓ml_20_b, ↓ms_20_b, ↓ml_21_b, ↓ms_21_b, ↓ml_22_b, ↓ms_22_b, m_cl, mg_0, mp_0, mr_1, mr_2, mr_3, mr_4, mr_5, mg_6, mp_6, mr_7, mr_8, mr_9, mr_10, mr_11, mr_12, mg_13, mp_13, mg_14, mp_14, mg_15, mp_15, mg_16, mp_16, mg_17, mp_17, mr_18, mg_19, mp_19, mg_20, mp_20, mg_21, mp_21, mr_22, mr_23, mr_24, mg_25, mp_25, mg_26, mp_26, mg_27, mp_27, mg_28, mp_28, mr_29, mr_30, mg_31, mp_31, mg_32, mp_32, mr_33, mr_34, mg_35, mp_35, mg_36, mp_36, mg_37, mp_37, mg_38, mp_38, mg_39, mp_39, mg_40, mp_40, mg_41, mp_41, mg_42, mp_42, mg_43, mp_43, mr_44, mr_45, mr_46, ml_1, ms_1, ml_2, ms_2, ml_3, ms_3, ml_4, ms_4, ml_5, ms_5, ml_6, ms_6, ml_7, ms_7, ml_8, ms_8, ml_9, ms_9, ml_10, ms_10, ml_11, ms_11, ml_13, ms_13, ml_14, ms_14, ml_15, ms_15, ml_16, ms_16, ml_17, ms_17, ml_18, ms_18, ml_19, ms_19, ml_20, ms_20, ml_21, ms_21, ml_22, ms_22, h_nI, Int.cast_ofNat_Int, h_b8, Int.bmod_bmod, h_add, h_sub, h_mul, h_neg, h_zero, h_and255, h_and15, h_and3, h_cltT, h_cltF, h_cgeT, h_cgeF, h_cgtT, h_cgtF, h_cleT, h_cleF, h_ceqT, h_ceqF, h_cneT, h_cneF, m_I_uI, m_A_uI, m_I_uA, m_A_uA, m_t1, ↓reduceIte, Option.bind_some, am_ret0, am_ret1, am_ret2, if_true, if_false, true_and, and_true, false_and, and_false, not_true_eq_false, not_false_eq_true, Nat.reduceEqDiff, Nat.reduceAdd, Nat.reduceSub, Nat.reduceMul, Int.reduceAdd, Int.reduceSub, Int.reduceMul, Int.reduceNeg, Int.reduceToNat, Int.reduceLT, Int.reduceLE, Nat.add_left_cancel_iff, B174_156, B174_188]
          rw [if_neg (by simp)] at e1
          exact e1
        · have hqt : q = true := hq.mpr hz1
          rw [if_neg hz1]
          obtain ⟨μ', e1, e2, e3, e4, e5⟩ := e_loop n (i + 1) (μ := μ1) (W := W) (o := some (p, l)) (bs := bs) (q := !q) (z3 := -1) (o5 := some (.int (h_ii 39))) (o6 := some (.int (h_ii 0))) (by omega) (by omega) hT1 hE1 hb1 (by simpa using hw1) (by omega) (by omega) (by rw [hqt]; simp) (fun w => by simp at w) h141
          refine ⟨μ', ?_, e2, e3, e4, e5⟩
          rw [B174_138, q39]
          simp (disch := first | assumption | omega | decide | (simp only [m_I_uI, m_A_uI, m_I_uA, m_A_uA] <;> first | assumption | omega) | fail) only [↓mp_0_b, ↓mp_6_b, ↓mp_13_b, ↓mp_14_b, ↓mp_15_b, ↓mp_16_b, ↓mp_17_b, ↓mp_19_b, ↓mp_20_b, ↓mp_21_b, ↓mp_25_b, ↓mp_26_b, ↓mp_27_b, ↓mp_28_b, ↓mp_31_b, ↓mp_32_b, ↓mp_35_b, ↓mp_36_b, ↓mp_37_b, ↓mp_38_b, ↓mp_39_b, ↓mp_40_b, ↓mp_41_b, ↓mp_42_b, ↓mp_43_b, ↓ml_1_b, ↓ms_1_b, ↓ml_2_b, ↓ms_2_b, ↓ml_3_b, ↓ms_3_b, ↓ml_4_b, ↓ms_4_b, ↓ml_5_b, ↓ms_5_b, ↓ml_6_b, ↓ms_6_b, ↓ml_7_b, ↓ms_7_b, ↓ml_8_b, ↓ms_8_b, ↓ml_9_b, ↓ms_9_b, ↓ml_10_b, ↓ms_10_b, ↓ml_11_b, ↓ms_11_b, ↓ml_13_b, ↓ms_13_b, ↓ml_14_b, ↓ms_14_b, ↓ml_15_b, ↓ms_15_b, ↓ml_16_b, ↓ms_16_b, ↓ml_17_b, ↓ms_17_b, ↓ml_18_b, ↓ms_18_b, ↓ml_19_b, ↓ms_19_b, ↓ml_20_b, ↓ms_20_b, ↓ml_21_b, ↓ms_21_b, ↓ml_22_b, ↓ms_22_b, m_cl, mg_0, mp_0, mr_1, mr_2, mr_3, mr_4, mr_5, mg_6, mp_6, mr_7, mr_8, mr_9, mr_10, mr_11, mr_12, mg_13, mp_13, mg_14, mp_14, mg_15, mp_15, mg_16, mp_16, mg_17, mp_17, mr_18, mg_19, mp_19, mg_20, mp_20, mg_21, mp_21, mr_22, mr_23, mr_24, mg_25, mp_25, mg_26, mp_26, mg_27, mp_27, mg_28, mp_28, mr_29, mr_30, mg_31, mp_31, mg_32, mp_32, mr_33, mr_34, mg_35, mp_35, mg_36, mp_36, mg_37, mp_37, mg_38, mp_38, mg_39, mp_39, mg_40, mp_40, mg_41, mp_41, mg_42, mp_42, mg_43, mp_43, mr_44, mr_45, mr_46, ml_1, ms_1, ml_2, ms_2, ml_3, ms_3, ml_4, ms_4, ml_5, ms_5, ml_6, ms_6, ml_7, ms_7, ml_8, ms_8, ml_9, ms_9, ml_10, ms_10, ml_11, ms_11, ml_13, ms_13, ml_14, ms_14, ml_15, ms_15, ml_16, ms_16, ml_17, ms_17, ml_18, ms_18, ml_19, ms_19, ml_20, ms_20, ml_21, ms_21, ml_22, ms_22, h_nI, Int.cast_ofNat_Int, h_b8, Int.bmod_bmod, h_add, h_sub, h_mul, h_neg, h_zero, h_and255, h_and15, h_and3, h_cltT, h_cltF, h_cgeT, h_cgeF, h_cgtT, h_cgtF, h_cleT, h_cleF, h_ceqT, h_ceqF, h_cneT, h_cneF, m_I_uI, m_A_uI, m_I_uA, m_A_uA, m_t1, ↓reduceIte, Option.bind_some, am_ret0, am_ret1, am_ret2, if_true, if_false, true_and, and_true, false_and, and_false, not_true_eq_false, not_false_eq_true, Nat.reduceEqDiff, Nat.reduceAdd, Nat.reduceSub, Nat.reduceMul, Int.reduceAdd, Int.reduceSub, Int.reduceMul, Int.reduceNeg, Int.reduceToNat, Int.reduceLT, Int.reduceLE, Nat.add_left_cancel_iff, B174_156, B174_188]
          rw [if_neg (by simp)] at e1
          exact e1
      · rw [if_neg q39, x_rs_byte hlt q39 hnq]
        obtain ⟨k1, k2⟩ := e_byte (v := t.getD i 0) (c := !q) hE1
        obtain ⟨μ', e1, e2, e3, e4, e5⟩ := e_loop n (i + 1) (W := W) (o := some (p, l ++ [(t.getD i 0, !q)])) (bs := bs ++ [(t.getD i 0, !q)]) (q := q) (z3 := z3) (o5 := some (.int (h_ii (t.getD i 0)))) (o6 := some (.int (h_ii 0))) (by omega) (by omega) (hT1.fc k1) k2 (by show _ = x_bb W ++ (l ++ _); rw [hb1, List.append_assoc]) (by simpa using hw1) (by simp; omega) hz hq (fun w => by simp at w) (by rw [k1.1 14 (by decide)]; exact h141)
        rw [if_neg (by simp), List.length_append] at e1
        refine ⟨μ', ?_, .pre k1 e2, e3, fun w => ⟨(e4 w).1, by rw [(e4 w).2, k1.1 15 (by decide)]⟩, e5⟩
        rw [B174_138]
        by_cases hz1 : z3 = -1
        · have hqf : q = false := by cases q with | false => rfl | true => exact absurd hz1 (hq.mp rfl)
          subst hqf
          simp (disch := first | assumption | omega | decide | (simp only [m_I_uI, m_A_uI, m_I_uA, m_A_uA] <;> first | assumption | omega) | fail) only [↓mp_0_b, ↓mp_6_b, ↓mp_13_b, ↓mp_14_b, ↓mp_15_b, ↓mp_16_b, ↓mp_17_b, ↓mp_19_b, ↓mp_20_b, ↓mp_21_b, ↓mp_25_b, ↓mp_26_b, ↓mp_27_b, ↓mp_28_b, ↓mp_31_b, ↓mp_32_b, ↓mp_35_b, ↓mp_36_b, ↓mp_37_b, ↓mp_38_b, ↓mp_39_b, ↓mp_40_b, ↓mp_41_b, ↓mp_42_b, ↓mp_43_b, ↓ml_1_b, ↓ms_1_b, ↓ml_2_b, ↓ms_2_b, ↓ml_3_b, ↓ms_3_b, ↓ml_4_b, ↓ms_4_b, ↓ml_5_b, ↓ms_5_b, ↓ml_6_b, ↓ms_6_b, ↓ml_7_b, ↓ms_7_b, ↓ml_8_b, ↓ms_8_b, ↓ml_9_b, ↓ms_9_b, ↓ml_10_b, ↓ms_10_b, ↓ml_11_b, ↓ms_11_b, ↓ml_13_b, ↓ms_13_b, ↓ml_14_b, ↓ms_14_b, ↓ml_15_b, ↓ms_15_b, ↓ml_16_b, ↓ms_16_b, ↓ml_17_b, ↓ms_17_b, ↓ml_18_b, ↓ms_18_b, ↓ml_19_b, ↓ms_19_b, ↓ml_20_b, ↓ms_20_b, ↓ml_21_b, ↓ms_21_b, ↓ml_22_b, ↓ms_22_b, m_cl, mg_0, mp_0, mr_1, mr_2, mr_3, mr_4, mr_5, mg_6, mp_6, mr_7, mr_8, mr_9, mr_10, mr_11, mr_12, mg_13, mp_13, mg_14, mp_14, mg_15, mp_15, mg_16, mp_16, mg_17, mp_17, mr_18, mg_19, mp_19, mg_20, mp_20, mg_21, mp_21, mr_22, mr_23, mr_24, mg_25, mp_25, mg_26, mp_26, mg_27, mp_27, mg_28, mp_28, mr_29, mr_30, mg_31, mp_31, mg_32, mp_32, mr_33, mr_34, mg_35, mp_35, mg_36, mp_36, mg_37, mp_37, mg_38, mp_38, mg_39, mp_39, mg_40, mp_40, mg_41, mp_41, mg_42, mp_42, mg_43, mp_43, mr_44, mr_45, mr_46, ml_1, ms_1, ml_2, ms_2, ml_3, ms_3, ml_4, ms_4, ml_5, ms_5, ml_6, ms_6, ml_7, ms_7, ml_8, ms_8, ml_9, ms_9, ml_10, ms_10, ml_11, ms_11, ml_13, ms_13, ml_14, ms_14, ml_15, ms_15, ml_16, ms_16, ml_17, ms_17, ml_18, ms_18, ml_19, ms_19, ml_20, ms_20, ml_21, ms_21, ml_22, ms_22, h_nI, Int.cast_ofNat_Int, h_b8, Int.bmod_bmod, h_add, h_sub, h_mul, h_neg, h_zero, h_and255, h_and15, h_and3, h_cltT, h_cltF, h_cgeT, h_cgeF, h_cgtT, h_cgtF, h_cleT, h_cleF, h_ceqT, h_ceqF, h_cneT, h_cneF, m_I_uI, m_A_uI, m_I_uA, m_A_uA, m_t1, ↓reduceIte, Option.bind_some, am_ret0, am_ret1, am_ret2, if_true, if_false, true_and, and_true, false_and, and_false, not_true_eq_false, not_false_eq_true, Nat.reduceEqDiff, Nat.reduceAdd, Nat.reduceSub, Nat.reduceMul, Int.reduceAdd, Int.reduceSub, Int.reduceMul, Int.reduceNeg, Int.reduceToNat, Int.reduceLT, Int.reduceLE, Nat.add_left_cancel_iff, Int.toNat_natCast, B174_184, B174_188]
          exact e1
        · have hqt : q = true := hq.mpr hz1
          subst hqt
          simp (disch := first | assumption | omega | decide | (simp only [m_I_uI, m_A_uI, m_I_uA, m_A_uA] <;> first | assumption | omega) | fail) only [↓mp_0_b, ↓mp_6_b, ↓mp_13_b, ↓mp_14_b, ↓mp_15_b, ↓mp_16_b, ↓mp_17_b, ↓mp_19_b, ↓mp_20_b, ↓mp_21_b, ↓mp_25_b, ↓mp_26_b, ↓mp_27_b, ↓mp_28_b, ↓mp_31_b, ↓mp_32_b, ↓mp_35_b, ↓mp_36_b, ↓mp_37_b, ↓mp_38_b, ↓mp_39_b, ↓mp_40_b, ↓mp_41_b, ↓mp_42_b, ↓mp_43_b, ↓ml_1_b, ↓ms_1_b, ↓ml_2_b, ↓ms_2_b, ↓ml_3_b, ↓ms_3_b, ↓ml_4_b, ↓ms_4_b, ↓ml_5_b, ↓ms_5_b, ↓ml_6_b, ↓ms_6_b, ↓ml_7_b, ↓ms_7_b, ↓ml_8_b, ↓ms_8_b, ↓ml_9_b, ↓ms_9_b, ↓ml_10_b, ↓ms_10_b, ↓ml_11_b, ↓ms_11_b, ↓ml_13_b, ↓ms_13_b, ↓ml_14_b, ↓ms_14_b, ↓ml_15_b, ↓ms_15_b, ↓ml_16_b, ↓ms_16_b, ↓ml_17_b, ↓ms_17_b, ↓ml_18_b, ↓ms_18_b, ↓ml_19_b, ↓ms_19_b, ↓ml_20_b, ↓ms_20_b, ↓ml_21_b, ↓ms_21_b, ↓ml_22_b, ↓ms_22_b, m_cl, mg_0, mp_0, mr_1, mr_2, mr_3, mr_4, mr_5, mg_6, mp_6, mr_7, mr_8, mr_9, mr_10, mr_11, mr_12, mg_13, mp_13, mg_14, mp_14, mg_15, mp_15, mg_16, mp_16, mg_17, mp_17, mr_18, mg_19, mp_19, mg_20, mp_20, mg_21, mp_21, mr_22, mr_23, mr_24, mg_25, mp_25, mg_26, mp_26, mg_27, mp_27, mg_28, mp_28, mr_29, mr_30, mg_31, mp_31, mg_32, mp_32, mr_33, mr_34, mg_35, mp_35, mg_36, mp_36, mg_37, mp_37, mg_38, mp_38, mg_39, mp_39, mg_40, mp_40, mg_41, mp_41, mg_42, mp_42, mg_43, mp_43, mr_44, mr_45, mr_46, ml_1, ms_1, ml_2, ms_2, ml_3, ms_3, ml_4, ms_4, ml_5, ms_5, ml_6, ms_6, ml_7, ms_7, ml_8, ms_8, ml_9, ms_9, ml_10, ms_10, ml_11, ms_11, ml_13, ms_13, ml_14, ms_14, ml_15, ms_15, ml_16, ms_16, ml_17, ms_17, ml_18, ms_18, ml_19, ms_19, ml_20, ms_20, ml_21, ms_21, ml_22, ms_22, h_nI, Int.cast_ofNat_Int, h_b8, Int.bmod_bmod, h_add, h_sub, h_mul, h_neg, h_zero, h_and255, h_and15, h_and3, h_cltT, h_cltF, h_cgeT, h_cgeF, h_cgtT, h_cgtF, h_cleT, h_cleF, h_ceqT, h_ceqF, h_cneT, h_cneF, m_I_uI, m_A_uI, m_I_uA, m_A_uA, m_t1, ↓reduceIte, Option.bind_some, am_ret0, am_ret1, am_ret2, if_true, if_false, true_and, and_true, false_and, and_false, not_true_eq_false, not_false_eq_true, Nat.reduceEqDiff, Nat.reduceAdd, Nat.reduceSub, Nat.reduceMul, Int.reduceAdd, Int.reduceSub, Int.reduceMul, Int.reduceNeg, Int.reduceToNat, Int.reduceLT, Int.reduceLE, Nat.add_left_cancel_iff, Int.toNat_natCast, B174_184, B174_188]
          exact e1
    have n39 : ∀ {c : Int}, c ≠ 39 → (if c = 39 then (if z3 = -1 then (i : Int) else -1) else z3) = z3 := fun h => if_neg h
    by_cases hqt : q = true
    · have hz1 : z3 ≠ -1 := hq.mp hqt
      cases o with
      | none => exact absurd (hoq rfl) (by rw [hqt]; simp)
      | some z =>
        obtain ⟨p, l⟩ := z
        rw [if_neg (by simp)] at hw
        obtain ⟨μ', e1, e2⟩ := inner (o6' := none) hT hE hb (by omega) h14 (by rw [hqt]; simp)
        refine ⟨μ', ?_, e2⟩
        rw [B174_14, if_neg (show ¬ some (p, l) = none by simp)]
        simp (disch := first | assumption | omega | decide | (simp only [m_I_uI, m_A_uI, m_I_uA, m_A_uA] <;> first | assumption | omega) | fail) only [↓mp_0_b, ↓mp_6_b, ↓mp_13_b, ↓mp_14_b, ↓mp_15_b, ↓mp_16_b, ↓mp_17_b, ↓mp_19_b, ↓mp_20_b, ↓mp_21_b, ↓mp_25_b, ↓mp_26_b, ↓mp_27_b, ↓mp_28_b, ↓mp_31_b, ↓mp_32_b, ↓mp_35_b, ↓mp_36_b, ↓mp_37_b, ↓mp_38_b, ↓mp_39_b, ↓mp_40_b, ↓mp_41_b, ↓mp_42_b, ↓mp_43_b, ↓ml_1_b, ↓ms_1_b, ↓ml_2_b, ↓ms_2_b, ↓ml_3_b, ↓ms_3_b, ↓ml_4_b, ↓ms_4_b, ↓ml_5_b, ↓ms_5_b, ↓ml_6_b, ↓ms_6_b, ↓ml_7_b, ↓ms_7_b, ↓ml_8_b, ↓ms_8_b, ↓ml_9_b, ↓ms_9_b, ↓ml_10_b, ↓ms_10_b, ↓ml_11_b, ↓ms_11_b, ↓ml_13_b, ↓ms_13_b, ↓ml_14_b, ↓ms_14_b, ↓ml_15_b, ↓ms_15_b, ↓ml_16_b, ↓ms_16_b, ↓ml_17_b, ↓ms_17_b, ↓ml_18_b, ↓ms_18_b, ↓ml_19_b, ↓ms_19_b, ↓ml_20_b, ↓ms_20_b, ↓ml_21_b, ↓ms_21_b, ↓ml_22_b, ↓ms_22_b, m_cl, mg_0, mp_0, mr_1, mr_2, mr_3, mr_4, mr_5, mg_6, mp_6, mr_7, mr_8, mr_9, mr_10, mr_11, mr_12, mg_13, mp_13, mg_14, mp_14, mg_15, mp_15, mg_16, mp_16, mg_17, mp_17, mr_18, mg_19, mp_19, mg_20, mp_20, mg_21, mp_21, mr_22, mr_23, mr_24, mg_25, mp_25, mg_26, mp_26, mg_27, mp_27, mg_28, mp_28, mr_29, mr_30, mg_31, mp_31, mg_32, mp_32, mr_33, mr_34, mg_35, mp_35, mg_36, mp_36, mg_37, mp_37, mg_38, mp_38, mg_39, mp_39, mg_40, mp_40, mg_41, mp_41, mg_42, mp_42, mg_43, mp_43, mr_44, mr_45, mr_46, ml_1, ms_1, ml_2, ms_2, ml_3, ms_3, ml_4, ms_4, ml_5, ms_5, ml_6, ms_6, ml_7, ms_7, ml_8, ms_8, ml_9, ms_9, ml_10, ms_10, ml_11, ms_11, ml_13, ms_13, ml_14, ms_14, ml_15, ms_15, ml_16, ms_16, ml_17, ms_17, ml_18, ms_18, ml_19, ms_19, ml_20, ms_20, ml_21, ms_21, ml_22, ms_22, h_nI, Int.cast_ofNat_Int, h_b8, Int.bmod_bmod, h_add, h_sub, h_mul, h_neg, h_zero, h_and255, h_and15, h_and3, h_cltT, h_cltF, h_cgeT, h_cgeF, h_cgtT, h_cgtF, h_cleT, h_cleF, h_ceqT, h_ceqF, h_cneT, h_cneF, m_I_uI, m_A_uI, m_I_uA, m_A_uA, m_t1, ↓reduceIte, Option.bind_some, am_ret0, am_ret1, am_ret2, if_true, if_false, true_and, and_true, false_and, and_false, not_true_eq_false, not_false_eq_true, Nat.reduceEqDiff, Nat.reduceAdd, Nat.reduceSub, Nat.reduceMul, Int.reduceAdd, Int.reduceSub, Int.reduceMul, Int.reduceNeg, Int.reduceToNat, Int.reduceLT, Int.reduceLE, Nat.add_left_cancel_iff, Int.toNat_natCast, e, hm, B174_59, B174_60, B174_124]
        exact e1
    · have hqf : q = false := by cases q with | false => rfl | true => exact absurd rfl hqt
      have hz1 : z3 = -1 := Classical.byContradiction fun w => hqt (hq.mpr w)
      by_cases hs : t.getD i 0 = 124 ∨ t.getD i 0 = 62
      · -- a sign
        obtain ⟨s1, e1, f1, g1⟩ := e_close (M := M) (m := m) (ad := ad) (d := d) hE hwl
        have hk : ∃ k : Nat, (k = 1 ∨ k = 2) ∧ x_rs t i none false = (k, i, []) :: x_rs t (i + 1) none false ∧ (k = 1 ↔ t.getD i 0 = 124) := by
          rcases hs with w | w
          · refine ⟨1, .inl rfl, ?_, fun _ => w, fun _ => rfl⟩
            show x_W t i = _
            rw [x_W_cons hlt, if_neg (by omega), if_pos w]
            rfl
          · refine ⟨2, .inr rfl, ?_, fun h => absurd h (by decide), fun h => by omega⟩
            show x_W t i = _
            rw [x_W_cons hlt, if_neg (by omega), if_neg (by omega), if_pos w]
            rfl
        obtain ⟨k, hk1, hk2, hk3⟩ := hk
        have hcl : x_rs t i o q = x_cl o ++ x_rs t i none false := by
          rw [hqf]
          cases o with
          | none => rfl
          | some z =>
            obtain ⟨p, l⟩ := z
            rw [x_rs_stop hlt (by omega)]
            rfl
        have hwc : (W ++ x_cl o).length ≤ i := by
          cases o with
          | none => simp [x_cl] at hw ⊢; omega
          | some z => simp [x_cl] at hw ⊢; omega
        have hbc : bs = x_bb (W ++ x_cl o) := by
          rw [x_bb_app, hb]
          cases o with
          | none => rfl
          | some z =>
            obtain ⟨p, l⟩ := z
            show x_bb W ++ l = x_bb W ++ x_bb [(0, p, l)]
            rw [x_bb_one]
        obtain ⟨s2, e2, f2, g2, g3⟩ := e_sign (M := M) (m := m) (ad := ad) (d := d) (i := i) hk1 g1 (by omega)
        have f3 : m_fc μ (m_uI s2 13 ((W ++ x_cl o).length + 1)) := (f1.trans f2).trans (m_fc.uI s2)
        obtain ⟨μ', e4, e5, e6, e7, e8⟩ := e_loop n (i + 1) (W := W ++ x_cl o ++ [(k, i, [])]) (o := none) (bs := bs) (q := false) (z3 := -1) (o5 := some (.int (h_ii (t.getD i 0)))) (o6 := some (.int (h_ii 1))) (by omega) (by omega) (hT.fc f3) g3 (by rw [x_bb_app, x_bb_one, List.append_nil]; show bs = x_bb (W ++ x_cl o) ++ []; rw [List.append_nil]; exact hbc) (by rw [if_pos rfl, List.length_append]; show _ + 1 + 0 ≤ _; omega) (by omega) (by omega) (by simp) (fun _ => rfl) (by rw [f3.1 14 (by decide)]; exact h14)
        rw [n39 (show t.getD i 0 ≠ 39 by omega), hz1]
        refine ⟨μ', ?_, .pre f3 e5, ?_, fun w => ⟨(e7 w).1, by rw [(e7 w).2, f3.1 15 (by decide)]⟩, e8⟩
        · rw [B174_14]
          rw [if_pos rfl] at e4
          rcases hs with w | w
          · have hk4 : k = 1 := hk3.mpr w
            subst hk4
            rw [w] at e hm e4
            have e2' := e2
            rw [show ((1 : Nat) : Int) = 1 from rfl] at e2'
            simp (disch := first | assumption | omega | decide | (simp only [m_I_uI, m_A_uI, m_I_uA, m_A_uA] <;> first | assumption | omega) | fail) only [↓mp_0_b, ↓mp_6_b, ↓mp_13_b, ↓mp_14_b, ↓mp_15_b, ↓mp_16_b, ↓mp_17_b, ↓mp_19_b, ↓mp_20_b, ↓mp_21_b, ↓mp_25_b, ↓mp_26_b, ↓mp_27_b, ↓mp_28_b, ↓mp_31_b, ↓mp_32_b, ↓mp_35_b, ↓mp_36_b, ↓mp_37_b, ↓mp_38_b, ↓mp_39_b, ↓mp_40_b, ↓mp_41_b, ↓mp_42_b, ↓mp_43_b, ↓ml_1_b, ↓ms_1_b, ↓ml_2_b, ↓ms_2_b, ↓ml_3_b, ↓ms_3_b, ↓ml_4_b, ↓ms_4_b, ↓ml_5_b, ↓ms_5_b, ↓ml_6_b, ↓ms_6_b, ↓ml_7_b, ↓ms_7_b, ↓ml_8_b, ↓ms_8_b, ↓ml_9_b, ↓ms_9_b, ↓ml_10_b, ↓ms_10_b, ↓ml_11_b, ↓ms_11_b, ↓ml_13_b, ↓ms_13_b, ↓ml_14_b, ↓ms_14_b, ↓ml_15_b, ↓ms_15_b, ↓ml_16_b, ↓ms_16_b, ↓ml_17_b, ↓ms_17_b, ↓ml_18_b, ↓ms_18_b, ↓ml_19_b, ↓ms_19_b, ↓ml_20_b, ↓ms_20_b, ↓ml_21_b, ↓ms_21_b, ↓ml_22_b, ↓ms_22_b, m_cl, mg_0, mp_0, mr_1, mr_2, mr_3, mr_4, mr_5, mg_6, mp_6, mr_7, mr_8, mr_9, mr_10, mr_11, mr_12, mg_13, mp_13, mg_14, mp_14, mg_15, mp_15, mg_16, mp_16, mg_17, mp_17, mr_18, mg_19, mp_19, mg_20, mp_20, mg_21, mp_21, mr_22, mr_23, mr_24, mg_25, mp_25, mg_26, mp_26, mg_27, mp_27, mg_28, mp_28, mr_29, mr_30, mg_31, mp_31, mg_32, mp_32, mr_33, mr_34, mg_35, mp_35, mg_36, mp_36, mg_37, mp_37, mg_38, mp_38, mg_39, mp_39, mg_40, mp_40, mg_41, mp_41, mg_42, mp_42, mg_43, mp_43, mr_44, mr_45, mr_46, ml_1, ms_1, ml_2, ms_2, ml_3, ms_3, ml_4, ms_4, ml_5, ms_5, ml_6, ms_6, ml_7, ms_7, ml_8, ms_8, ml_9, ms_9, ml_10, ms_10, ml_11, ms_11, ml_13, ms_13, ml_14, ms_14, ml_15, ms_15, ml_16, ms_16, ml_17, ms_17, ml_18, ms_18, ml_19, ms_19, ml_20, ms_20, ml_21, ms_21, ml_22, ms_22, h_nI, Int.cast_ofNat_Int, h_b8, Int.bmod_bmod, h_add, h_sub, h_mul, h_neg, h_zero, h_and255, h_and15, h_and3, h_cltT, h_cltF, h_cgeT, h_cgeF, h_cgtT, h_cgtF, h_cleT, h_cleF, h_ceqT, h_ceqF, h_cneT, h_cneF, m_I_uI, m_A_uI, m_I_uA, m_A_uA, m_t1, ↓reduceIte, Option.bind_some, am_ret0, am_ret1, am_ret2, if_true, if_false, true_and, and_true, false_and, and_false, not_true_eq_false, not_false_eq_true, Nat.reduceEqDiff, Nat.reduceAdd, Nat.reduceSub, Nat.reduceMul, Int.reduceAdd, Int.reduceSub, Int.reduceMul, Int.reduceNeg, Int.reduceToNat, Int.reduceLT, Int.reduceLE, Nat.add_left_cancel_iff, Int.toNat_natCast, e, hm, B174_55, B174_60, B174_79, e1, B174_107, e2', g2, B174_188]
            exact e4
          · have hk4 : k = 2 := by
              rcases hk1 with h | h
              · have := hk3.mp h
                omega
              · exact h
            subst hk4
            rw [w] at e hm e4
            have e2' := e2
            rw [show ((2 : Nat) : Int) = 2 from rfl] at e2'
            simp (disch := first | assumption | omega | decide | (simp only [m_I_uI, m_A_uI, m_I_uA, m_A_uA] <;> first | assumption | omega) | fail) only [↓mp_0_b, ↓mp_6_b, ↓mp_13_b, ↓mp_14_b, ↓mp_15_b, ↓mp_16_b, ↓mp_17_b, ↓mp_19_b, ↓mp_20_b, ↓mp_21_b, ↓mp_25_b, ↓mp_26_b, ↓mp_27_b, ↓mp_28_b, ↓mp_31_b, ↓mp_32_b, ↓mp_35_b, ↓mp_36_b, ↓mp_37_b, ↓mp_38_b, ↓mp_39_b, ↓mp_40_b, ↓mp_41_b, ↓mp_42_b, ↓mp_43_b, ↓ml_1_b, ↓ms_1_b, ↓ml_2_b, ↓ms_2_b, ↓ml_3_b, ↓ms_3_b, ↓ml_4_b, ↓ms_4_b, ↓ml_5_b, ↓ms_5_b, ↓ml_6_b, ↓ms_6_b, ↓ml_7_b, ↓ms_7_b, ↓ml_8_b, ↓ms_8_b, ↓ml_9_b, ↓ms_9_b, ↓ml_10_b, ↓ms_10_b, ↓ml_11_b, ↓ms_11_b, ↓ml_13_b, ↓ms_13_b, ↓ml_14_b, ↓ms_14_b, ↓ml_15_b, ↓ms_15_b, ↓ml_16_b, ↓ms_16_b, ↓ml_17_b, ↓ms_17_b, ↓ml_18_b, ↓ms_18_b, ↓ml_19_b, ↓ms_19_b, ↓ml_20_b, ↓ms_20_b, ↓ml_21_b, ↓ms_21_b, ↓ml_22_b, ↓ms_22_b, m_cl, mg_0, mp_0, mr_1, mr_2, mr_3, mr_4, mr_5, mg_6, mp_6, mr_7, mr_8, mr_9, mr_10, mr_11, mr_12, mg_13, mp_13, mg_14, mp_14, mg_15, mp_15, mg_16, mp_16, mg_17, mp_17, mr_18, mg_19, mp_19, mg_20, mp_20, mg_21, mp_21, mr_22, mr_23, mr_24, mg_25, mp_25, mg_26, mp_26, mg_27, mp_27, mg_28, mp_28, mr_29, mr_30, mg_31, mp_31, mg_32, mp_32, mr_33, mr_34, mg_35, mp_35, mg_36, mp_36, mg_37, mp_37, mg_38, mp_38, mg_39, mp_39, mg_40, mp_40, mg_41, mp_41, mg_42, mp_42, mg_43, mp_43, mr_44, mr_45, mr_46, ml_1, ms_1, ml_2, ms_2, ml_3, ms_3, ml_4, ms_4, ml_5, ms_5, ml_6, ms_6, ml_7, ms_7, ml_8, ms_8, ml_9, ms_9, ml_10, ms_10, ml_11, ms_11, ml_13, ms_13, ml_14, ms_14, ml_15, ms_15, ml_16, ms_16, ml_17, ms_17, ml_18, ms_18, ml_19, ms_19, ml_20, ms_20, ml_21, ms_21, ml_22, ms_22, h_nI, Int.cast_ofNat_Int, h_b8, Int.bmod_bmod, h_add, h_sub, h_mul, h_neg, h_zero, h_and255, h_and15, h_and3, h_cltT, h_cltF, h_cgeT, h_cgeF, h_cgtT, h_cgtF, h_cleT, h_cleF, h_ceqT, h_ceqF, h_cneT, h_cneF, m_I_uI, m_A_uI, m_I_uA, m_A_uA, m_t1, ↓reduceIte, Option.bind_some, am_ret0, am_ret1, am_ret2, if_true, if_false, true_and, and_true, false_and, and_false, not_true_eq_false, not_false_eq_true, Nat.reduceEqDiff, Nat.reduceAdd, Nat.reduceSub, Nat.reduceMul, Int.reduceAdd, Int.reduceSub, Int.reduceMul, Int.reduceNeg, Int.reduceToNat, Int.reduceLT, Int.reduceLE, Nat.add_left_cancel_iff, Int.toNat_natCast, e, hm, B174_55, B174_60, B174_79, e1, B174_107, e2', g2, B174_188]
            exact e4
        · rw [hcl, hk2]
          rw [List.append_assoc, List.append_assoc] at e6
          exact e6
      · by_cases h32 : t.getD i 0 = 32
        · obtain ⟨s1, e1, f1, g1⟩ := e_close (M := M) (m := m) (ad := ad) (d := d) hE hwl
          have hcl : x_rs t i o q = x_cl o ++ x_rs t (i + 1) none false := by
            have h0 : x_rs t i none false = x_rs t (i + 1) none false := by
              show x_W t i = x_W t (i + 1)
              rw [x_W_cons hlt, if_pos h32]
            rw [hqf, ← h0]
            cases o with
            | none => rfl
            | some z =>
              obtain ⟨p, l⟩ := z
              rw [x_rs_stop hlt (.inl h32)]
              rfl
          have hwc : (W ++ x_cl o).length ≤ i := by
            cases o with
            | none => simp [x_cl] at hw ⊢; omega
            | some z => simp [x_cl] at hw ⊢; omega
          have hbc : bs = x_bb (W ++ x_cl o) := by
            rw [x_bb_app, hb]
            cases o with
            | none => rfl
            | some z =>
              obtain ⟨p, l⟩ := z
              show x_bb W ++ l = x_bb W ++ x_bb [(0, p, l)]
              rw [x_bb_one]
          obtain ⟨μ', e4, e5, e6, e7, e8⟩ := e_loop n (i + 1) (W := W ++ x_cl o) (o := none) (bs := bs) (q := false) (z3 := -1) (o5 := some (.int (h_ii 32))) (o6 := some (.int (h_ii 0))) (by omega) (by omega) (hT.fc f1) g1 (by show bs = x_bb (W ++ x_cl o) ++ []; rw [List.append_nil]; exact hbc) (by rw [if_pos rfl]; omega) (by omega) (by omega) (by simp) (fun _ => rfl) (by rw [f1.1 14 (by decide)]; exact h14)
          rw [n39 (show t.getD i 0 ≠ 39 by omega), hz1]
          refine ⟨μ', ?_, .pre f1 e5, ?_, fun w => ⟨(e7 w).1, by rw [(e7 w).2, f1.1 15 (by decide)]⟩, e8⟩
          · rw [B174_14]
            rw [if_pos rfl] at e4
            rw [h32] at e hm
            simp (disch := first | assumption | omega | decide | (simp only [m_I_uI, m_A_uI, m_I_uA, m_A_uA] <;> first | assumption | omega) | fail) only [↓mp_0_b, ↓mp_6_b, ↓mp_13_b, ↓mp_14_b, ↓mp_15_b, ↓mp_16_b, ↓mp_17_b, ↓mp_19_b, ↓mp_20_b, ↓mp_21_b, ↓mp_25_b, ↓mp_26_b, ↓mp_27_b, ↓mp_28_b, ↓mp_31_b, ↓mp_32_b, ↓mp_35_b, ↓mp_36_b, ↓mp_37_b, ↓mp_38_b, ↓mp_39_b, ↓mp_40_b, ↓mp_41_b, ↓mp_42_b, ↓mp_43_b, ↓ml_1_b, ↓ms_1_b, ↓ml_2_b, ↓ms_2_b, ↓ml_3_b, ↓ms_3_b, ↓ml_4_b, ↓ms_4_b, ↓ml_5_b, ↓ms_5_b, ↓ml_6_b, ↓ms_6_b, ↓ml_7_b, ↓ms_7_b, ↓ml_8_b, ↓ms_8_b, ↓ml_9_b, ↓ms_9_b, ↓ml_10_b, ↓ms_10_b, ↓ml_11_b, ↓ms_11_b, ↓ml_13_b, ↓ms_13_b, ↓ml_14_b, ↓ms_14_b, ↓ml_15_b, ↓ms_15_b, ↓ml_16_b, ↓ms_16_b, ↓ml_17_b, ↓ms_17_b, ↓ml_18_b, ↓ms_18_b, ↓ml_19_b, ↓ms_19_b, ↓ml_20_b, ↓ms_20_b, ↓ml_21_b, ↓ms_21_b, ↓ml_22_b, ↓ms_22_b, m_cl, mg_0, mp_0, mr_1, mr_2, mr_3, mr_4, mr_5, mg_6, mp_6, mr_7, mr_8, mr_9, mr_10, mr_11, mr_12, mg_13, mp_13, mg_14, mp_14, mg_15, mp_15, mg_16, mp_16, mg_17, mp_17, mr_18, mg_19, mp_19, mg_20, mp_20, mg_21, mp_21, mr_22, mr_23, mr_24, mg_25, mp_25, mg_26, mp_26, mg_27, mp_27, mg_28, mp_28, mr_29, mr_30, mg_31, mp_31, mg_32, mp_32, mr_33, mr_34, mg_35, mp_35, mg_36, mp_36, mg_37, mp_37, mg_38, mp_38, mg_39, mp_39, mg_40, mp_40, mg_41, mp_41, mg_42, mp_42, mg_43, mp_43, mr_44, mr_45, mr_46, ml_1, ms_1, ml_2, ms_2, ml_3, ms_3, ml_4, ms_4, ml_5, ms_5, ml_6, ms_6, ml_7, ms_7, ml_8, ms_8, ml_9, ms_9, ml_10, ms_10, ml_11, ms_11, ml_13, ms_13, ml_14, ms_14, ml_15, ms_15, ml_16, ms_16, ml_17, ms_17, ml_18, ms_18, ml_19, ms_19, ml_20, ms_20, ml_21, ms_21, ml_22, ms_22, h_nI, Int.cast_ofNat_Int, h_b8, Int.bmod_bmod, h_add, h_sub, h_mul, h_neg, h_zero, h_and255, h_and15, h_and3, h_cltT, h_cltF, h_cgeT, h_cgeF, h_cgtT, h_cgtF, h_cleT, h_cleF, h_ceqT, h_ceqF, h_cneT, h_cneF, m_I_uI, m_A_uI, m_I_uA, m_A_uA, m_t1, ↓reduceIte, Option.bind_some, am_ret0, am_ret1, am_ret2, if_true, if_false, true_and, and_true, false_and, and_false, not_true_eq_false, not_false_eq_true, Nat.reduceEqDiff, Nat.reduceAdd, Nat.reduceSub, Nat.reduceMul, Int.reduceAdd, Int.reduceSub, Int.reduceMul, Int.reduceNeg, Int.reduceToNat, Int.reduceLT, Int.reduceLE, Nat.add_left_cancel_iff, Int.toNat_natCast, e, hm, B174_59, B174_60, B174_79, e1, B174_188]
            exact e4
          · rw [hcl]
            rw [List.append_assoc] at e6
            exact e6
        · have hnq : ¬ (q = false ∧ (t.getD i 0 = 32 ∨ t.getD i 0 = 124 ∨ t.getD i 0 = 62)) := by omega
          cases o with
          | some z =>
            obtain ⟨p, l⟩ := z
            rw [if_neg (by simp)] at hw
            obtain ⟨μ', e1, e2⟩ := inner (o6' := none) hT hE hb (by omega) h14 hnq
            refine ⟨μ', ?_, e2⟩
            rw [B174_14, if_neg (show ¬ some (p, l) = none by simp)]
            simp (disch := first | assumption | omega | decide | (simp only [m_I_uI, m_A_uI, m_I_uA, m_A_uA] <;> first | assumption | omega) | fail) only [↓mp_0_b, ↓mp_6_b, ↓mp_13_b, ↓mp_14_b, ↓mp_15_b, ↓mp_16_b, ↓mp_17_b, ↓mp_19_b, ↓mp_20_b, ↓mp_21_b, ↓mp_25_b, ↓mp_26_b, ↓mp_27_b, ↓mp_28_b, ↓mp_31_b, ↓mp_32_b, ↓mp_35_b, ↓mp_36_b, ↓mp_37_b, ↓mp_38_b, ↓mp_39_b, ↓mp_40_b, ↓mp_41_b, ↓mp_42_b, ↓mp_43_b, ↓ml_1_b, ↓ms_1_b, ↓ml_2_b, ↓ms_2_b, ↓ml_3_b, ↓ms_3_b, ↓ml_4_b, ↓ms_4_b, ↓ml_5_b, ↓ms_5_b, ↓ml_6_b, ↓ms_6_b, ↓ml_7_b, ↓ms_7_b, ↓ml_8_b, ↓ms_8_b, ↓ml_9_b, ↓ms_9_b, ↓ml_10_b, ↓ms_10_b, ↓ml_11_b, ↓ms_11_b, ↓ml_13_b, ↓ms_13_b, ↓ml_14_b, ↓ms_14_b, ↓ml_15_b, ↓ms_15_b, ↓ml_16_b, ↓ms_16_b, ↓ml_17_b, ↓ms_17_b, ↓ml_18_b, ↓ms_18_b, ↓ml_19_b, ↓ms_19_b, ↓ml_20_b, ↓ms_20_b, ↓ml_21_b, ↓ms_21_b, ↓ml_22_b, ↓ms_22_b, m_cl, mg_0, mp_0, mr_1, mr_2, mr_3, mr_4, mr_5, mg_6, mp_6, mr_7, mr_8, mr_9, mr_10, mr_11, mr_12, mg_13, mp_13, mg_14, mp_14, mg_15, mp_15, mg_16, mp_16, mg_17, mp_17, mr_18, mg_19, mp_19, mg_20, mp_20, mg_21, mp_21, mr_22, mr_23, mr_24, mg_25, mp_25, mg_26, mp_26, mg_27, mp_27, mg_28, mp_28, mr_29, mr_30, mg_31, mp_31, mg_32, mp_32, mr_33, mr_34, mg_35, mp_35, mg_36, mp_36, mg_37, mp_37, mg_38, mp_38, mg_39, mp_39, mg_40, mp_40, mg_41, mp_41, mg_42, mp_42, mg_43, mp_43, mr_44, mr_45, mr_46, ml_1, ms_1, ml_2, ms_2, ml_3, ms_3, ml_4, ms_4, ml_5, ms_5, ml_6, ms_6, ml_7, ms_7, ml_8, ms_8, ml_9, ms_9, ml_10, ms_10, ml_11, ms_11, ml_13, ms_13, ml_14, ms_14, ml_15, ms_15, ml_16, ms_16, ml_17, ms_17, ml_18, ms_18, ml_19, ms_19, ml_20, ms_20, ml_21, ms_21, ml_22, ms_22, h_nI, Int.cast_ofNat_Int, h_b8, Int.bmod_bmod, h_add, h_sub, h_mul, h_neg, h_zero, h_and255, h_and15, h_and3, h_cltT, h_cltF, h_cgeT, h_cgeF, h_cgtT, h_cgtF, h_cleT, h_cleF, h_ceqT, h_ceqF, h_cneT, h_cneF, m_I_uI, m_A_uI, m_I_uA, m_A_uA, m_t1, ↓reduceIte, Option.bind_some, am_ret0, am_ret1, am_ret2, if_true, if_false, true_and, and_true, false_and, and_false, not_true_eq_false, not_false_eq_true, Nat.reduceEqDiff, Nat.reduceAdd, Nat.reduceSub, Nat.reduceMul, Int.reduceAdd, Int.reduceSub, Int.reduceMul, Int.reduceNeg, Int.reduceToNat, Int.reduceLT, Int.reduceLE, Nat.add_left_cancel_iff, Int.toNat_natCast, e, hm, B174_59, B174_60, B174_124]
            exact e1
          | none =>
            rw [if_pos rfl] at hw
            obtain ⟨s1, e0, f1, g1⟩ := e_open (M := M) (m := m) (ad := ad) (d := d) (i := i) hE hwl
            obtain ⟨μ', e1, e2, e3, e4, e5⟩ := inner (o6' := none) (hT.fc f1) g1 (by rw [hb]; rfl) (by omega) (by rw [f1.1 14 (by decide)]; exact h14) hnq
            refine ⟨μ', ?_, .pre f1 e2, ?_, fun w => ⟨(e4 w).1, by rw [(e4 w).2, f1.1 15 (by decide)]⟩, e5⟩
            · rw [B174_14, if_pos rfl]
              simp (disch := first | assumption | omega | decide | (simp only [m_I_uI, m_A_uI, m_I_uA, m_A_uA] <;> first | assumption | omega) | fail) only [↓mp_0_b, ↓mp_6_b, ↓mp_13_b, ↓mp_14_b, ↓mp_15_b, ↓mp_16_b, ↓mp_17_b, ↓mp_19_b, ↓mp_20_b, ↓mp_21_b, ↓mp_25_b, ↓mp_26_b, ↓mp_27_b, ↓mp_28_b, ↓mp_31_b, ↓mp_32_b, ↓mp_35_b, ↓mp_36_b, ↓mp_37_b, ↓mp_38_b, ↓mp_39_b, ↓mp_40_b, ↓mp_41_b, ↓mp_42_b, ↓mp_43_b, ↓ml_1_b, ↓ms_1_b, ↓ml_2_b, ↓ms_2_b, ↓ml_3_b, ↓ms_3_b, ↓ml_4_b, ↓ms_4_b, ↓ml_5_b, ↓ms_5_b, ↓ml_6_b, ↓ms_6_b, ↓ml_7_b, ↓ms_7_b, ↓ml_8_b, ↓ms_8_b, ↓ml_9_b, ↓ms_9_b, ↓ml_10_b, ↓ms_10_b, ↓ml_11_b, ↓ms_11_b, ↓ml_13_b, ↓ms_13_b, ↓ml_14_b, ↓ms_14_b, ↓ml_15_b, ↓ms_15_b, ↓ml_16_b, ↓ms_16_b, ↓ml_17_b, ↓ms_17_b, ↓ml_18_b, ↓ms_18_b, ↓ml_19_b, ↓ms_19_b, ↓ml_20_b, ↓ms_20_b, ↓ml_21_b, ↓ms_21_b, ↓ml_22_b, ↓ms_22_b, m_cl, mg_0, mp_0, mr_1, mr_2, mr_3, mr_4, mr_5, mg_6, mp_6, mr_7, mr_8, mr_9, mr_10, mr_11, mr_12, mg_13, mp_13, mg_14, mp_14, mg_15, mp_15, mg_16, mp_16, mg_17, mp_17, mr_18, mg_19, mp_19, mg_20, mp_20, mg_21, mp_21, mr_22, mr_23, mr_24, mg_25, mp_25, mg_26, mp_26, mg_27, mp_27, mg_28, mp_28, mr_29, mr_30, mg_31, mp_31, mg_32, mp_32, mr_33, mr_34, mg_35, mp_35, mg_36, mp_36, mg_37, mp_37, mg_38, mp_38, mg_39, mp_39, mg_40, mp_40, mg_41, mp_41, mg_42, mp_42, mg_43, mp_43, mr_44, mr_45, mr_46, ml_1, ms_1, ml_2, ms_2, ml_3, ms_3, ml_4, ms_4, ml_5, ms_5, ml_6, ms_6, ml_7, ms_7, ml_8, ms_8, ml_9, ms_9, ml_10, ms_10, ml_11, ms_11, ml_13, ms_13, ml_14, ms_14, ml_15, ms_15, ml_16, ms_16, ml_17, ms_17, ml_18, ms_18, ml_19, ms_19, ml_20, ms_20, ml_21, ms_21, ml_22, ms_22, h_nI, Int.cast_ofNat_Int, h_b8, Int.bmod_bmod, h_add, h_sub, h_mul, h_neg, h_zero, h_and255, h_and15, h_and3, h_cltT, h_cltF, h_cgeT, h_cgeF, h_cgtT, h_cgtF, h_cleT, h_cleF, h_ceqT, h_ceqF, h_cneT, h_cneF, m_I_uI, m_A_uI, m_I_uA, m_A_uA, m_t1, ↓reduceIte, Option.bind_some, am_ret0, am_ret1, am_ret2, if_true, if_false, true_and, and_true, false_and, and_false, not_true_eq_false, not_false_eq_true, Nat.reduceEqDiff, Nat.reduceAdd, Nat.reduceSub, Nat.reduceMul, Int.reduceAdd, Int.reduceSub, Int.reduceMul, Int.reduceNeg, Int.reduceToNat, Int.reduceLT, Int.reduceLE, Nat.add_left_cancel_iff, Int.toNat_natCast, e, hm, B174_59, B174_60, B174_124, e0]
              exact e1
            · rw [hqf, x_rs_open hlt h32 (by omega) (by omega)]
              rw [hqf] at e3
              exact e3
end CW
