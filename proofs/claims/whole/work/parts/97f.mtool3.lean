/-! A TOOL READ, IN THE REFERENCE: from its name on -/
section MTN
variable {M : am_M} {m : Nat} {μ : m_S} {ad : Nat → Nat} {d : Nat} {t : List Int} {W : List x_T} {T : Nat} {O : z_O} {first : Bool}
/-- only what reading a tool changes has changed -/
def m_fR (μ μ' : m_S) : Prop := (∀ k, k < 14 ∨ (15 < k ∧ k < 19) ∨ (21 < k ∧ k < 25) ∨ (28 < k ∧ k < 31) ∨ 31 < k → μ'.I k = μ.I k) ∧ (∀ z i, z < 13 ∨ 17 < z → μ'.A z i = μ.A z i)
theorem m_fR.refl (μ : m_S) : m_fR μ μ := ⟨fun _ _ => rfl, fun _ _ _ => rfl⟩
theorem m_fR.trans {μ μ' μ'' : m_S} (h : m_fR μ μ') (h2 : m_fR μ' μ'') : m_fR μ μ'' := ⟨fun k hk => (h2.1 k hk).trans (h.1 k hk), fun z i hz => (h2.2 z i hz).trans (h.2 z i hz)⟩
theorem m_fR.uA {z i : Nat} {v : Int} (μ : m_S) (hz : 13 ≤ z ∧ z ≤ 17) : m_fR μ (m_uA μ z i v) := ⟨fun k _ => by simp only [m_I_uI, m_A_uI, m_I_uA, m_A_uA], fun y j hy => by simp only [m_I_uI, m_A_uI, m_I_uA, m_A_uA]; rw [if_neg (by omega)]⟩
theorem m_fR.uI {k : Nat} {v : Int} (μ : m_S) (hk : k = 14 ∨ k = 15 ∨ k = 19 ∨ k = 20 ∨ k = 21 ∨ k = 25 ∨ k = 26 ∨ k = 27 ∨ k = 28 ∨ k = 31) : m_fR μ (m_uI μ k v) := ⟨fun j hj => by simp only [m_I_uI, m_A_uI, m_I_uA, m_A_uA]; rw [if_neg (by omega)], fun _ _ _ => by simp only [m_I_uI, m_A_uI, m_I_uA, m_A_uA]⟩
theorem m_fP.fR {μ' : m_S} (h : m_fP μ μ') : m_fR μ μ' := ⟨fun k hk => h.1 k (by omega), fun z i hz => h.2 z i (by omega)⟩
theorem m_fL.fR {μ' : m_S} (h : m_fL μ μ') : m_fR μ μ' := ⟨fun k hk => h.1 k (by omega) (by omega) (by omega), fun z i hz => h.2 z i (by omega) (by omega)⟩
theorem m_H.fR {μ' : m_S} (h : m_H μ t W) (hf : m_fR μ μ') : m_H μ' t W := by
  obtain ⟨h1, h2, h3, h4, h5, h6, h7⟩ := h
  refine ⟨(hf.1 13 (by omega)).trans h1, h2, ?_, ?_, h5, (hf.2 8 _ (by omega)).trans h6, (hf.2 11 _ (by omega)).trans h7⟩
  · intro k hk
    obtain ⟨a1, a2, a3, a4⟩ := h3 k hk
    exact ⟨(hf.2 8 k (by omega)).trans a1, (hf.2 11 k (by omega)).trans a2, (hf.2 9 k (by omega)).trans a3, (hf.2 10 k (by omega)).trans a4⟩
  · intro j hj
    obtain ⟨a1, a2⟩ := h4 j hj
    exact ⟨(hf.2 6 j (by omega)).trans a1, (hf.2 7 j (by omega)).trans a2⟩
/-- told is cleared -/
theorem g_clr {i1 i2 : Int32} : ∀ (n i : Nat) {μ : m_S}, 128 - i = n → i ≤ 128 → ∃ μ', am_gg (am_pr ad) (d + 1) 179 60 [some (.ref m), some (.int i1), some (.int i2), some (.int (h_ii i))] [] (m_t M m μ) = am_gg (am_pr ad) (d + 1) 179 60 [some (.ref m), some (.int i1), some (.int i2), some (.int (h_ii 128))] [] (m_t M m μ') ∧ (∀ k, μ'.I k = μ.I k) ∧ (∀ z j, z ≠ 13 → μ'.A z j = μ.A z j) ∧ (∀ j, i ≤ j → j < 128 → μ'.A 13 j = 0) ∧ (∀ j, j < i → μ'.A 13 j = μ.A 13 j)
  | 0, i, μ, hn, hi => by
    have : i = 128 := by omega
    subst this
    exact ⟨μ, rfl, fun _ => rfl, fun _ _ _ => rfl, fun j a b => absurd a (by omega), fun _ _ => rfl⟩
  | n + 1, i, μ, hn, hi => by
    obtain ⟨s2, e2, g1, g2, g3, g4⟩ := g_clr (i1 := i1) (i2 := i2) n (i + 1) (μ := m_uA μ 13 i 0) (by omega) (by omega)
    refine ⟨s2, ?_, fun k => (g1 k).trans (by simp only [m_I_uI, m_A_uI, m_I_uA, m_A_uA]), fun z j hz => (g2 z j hz).trans (by simp only [m_I_uI, m_A_uI, m_I_uA, m_A_uA]; rw [if_neg (by omega)]), fun j a b => ?_, fun j a => (g4 j (by omega)).trans (by simp only [m_I_uI, m_A_uI, m_I_uA, m_A_uA]; rw [if_neg (by omega)])⟩
    · rw [B179_60]
      simp (disch := first | assumption | omega | decide | (simp only [m_I_uI, m_A_uI, m_I_uA, m_A_uA] <;> first | assumption | omega) | fail) only [↓mp_0_b, ↓mp_6_b, ↓mp_13_b, ↓mp_14_b, ↓mp_15_b, ↓mp_16_b, ↓mp_17_b, ↓mp_19_b, ↓mp_20_b, ↓mp_21_b, ↓mp_25_b, ↓mp_26_b, ↓mp_27_b, ↓mp_28_b, ↓mp_31_b, ↓mp_32_b, ↓mp_35_b, ↓mp_36_b, ↓mp_37_b, ↓mp_38_b, ↓mp_39_b, ↓mp_40_b, ↓mp_41_b, ↓mp_42_b, ↓mp_43_b, ↓ml_1_b, ↓ms_1_b, ↓ml_2_b, ↓ms_2_b, ↓ml_3_b, ↓ms_3_b, ↓ml_4_b, ↓ms_4_b, ↓ml_5_b, ↓ms_5_b, ↓ml_6_b, ↓ms_6_b, ↓ml_7_b, ↓ms_7_b, ↓ml_8_b, ↓ms_8_b, ↓ml_9_b, ↓ms_9_b, ↓ml_10_b, ↓ms_10_b, ↓ml_11_b, ↓ms_11_b, ↓ml_13_b, ↓ms_13_b, ↓ml_14_b, ↓ms_14_b, ↓ml_15_b, ↓ms_15_b, ↓ml_16_b, ↓ms_16_b, ↓ml_17_b, ↓ms_17_b, ↓ml_18_b, ↓ms_18_b, ↓ml_19_b, ↓ms_19_b, ↓ml_20_b, ↓ms_20_b, ↓ml_21_b, ↓ms_21_b, ↓ml_22_b, ↓ms_22_b, m_cl, mg_0, mp_0, mr_1, mr_2, mr_3, mr_4, mr_5, mg_6, mp_6, mr_7, mr_8, mr_9, mr_10, mr_11, mr_12, mg_13, mp_13, mg_14, mp_14, mg_15, mp_15, mg_16, mp_16, mg_17, mp_17, mr_18, mg_19, mp_19, mg_20, mp_20, mg_21, mp_21, mr_22, mr_23, mr_24, mg_25, mp_25, mg_26, mp_26, mg_27, mp_27, mg_28, mp_28, mr_29, mr_30, mg_31, mp_31, mg_32, mp_32, mr_33, mr_34, mg_35, mp_35, mg_36, mp_36, mg_37, mp_37, mg_38, mp_38, mg_39, mp_39, mg_40, mp_40, mg_41, mp_41, mg_42, mp_42, mg_43, mp_43, mr_44, mr_45, mr_46, ml_1, ms_1, ml_2, ms_2, ml_3, ms_3, ml_4, ms_4, ml_5, ms_5, ml_6, ms_6, ml_7, ms_7, ml_8, ms_8, ml_9, ms_9, ml_10, ms_10, ml_11, ms_11, ml_13, ms_13, ml_14, ms_14, ml_15, ms_15, ml_16, ms_16, ml_17, ms_17, ml_18, ms_18, ml_19, ms_19, ml_20, ms_20, ml_21, ms_21, ml_22, ms_22, h_nI, Int.cast_ofNat_Int, h_b8, Int.bmod_bmod, h_add, h_sub, h_mul, h_neg, h_zero, h_and255, h_and15, h_and3, h_cltT, h_cltF, h_cgeT, h_cgeF, h_cgtT, h_cgtF, h_cleT, h_cleF, h_ceqT, h_ceqF, h_cneT, h_cneF, m_I_uI, m_A_uI, m_I_uA, m_A_uA, m_t1, ↓reduceIte, Option.bind_some, am_ret0, am_ret1, am_ret2, if_true, if_false, true_and, and_true, false_and, and_false, not_true_eq_false, not_false_eq_true, Nat.reduceEqDiff, Nat.reduceAdd, Nat.reduceSub, Nat.reduceMul, Int.reduceAdd, Int.reduceSub, Int.reduceMul, Int.reduceNeg, Int.reduceToNat, Int.reduceLT, Int.reduceLE, Nat.add_left_cancel_iff, Int.toNat_natCast, h_fit1]
      exact e2
    · by_cases q : j = i
      · subst q
        rw [g4 j (by omega)]
        simp only [m_I_uI, m_A_uI, m_I_uA, m_A_uA, and_self, if_true]
      · exact g3 j (by omega) b
def z_l1 (l : List (Int × Nat)) (k : Nat) : List (Int × Nat) := if l = [] then [(10, k)] else l
/-- how reading a tool ends -/
def m_rt (μ μ' : m_S) (W : List x_T) (k : Nat) (r : (Nat × Nat) ⊕ (Nat × z_O × List (Int × Nat) × Nat)) : Prop := match r with
  | .inl x => m_fR μ μ' ∧ μ'.I 14 = x.1 ∧ μ'.I 15 = x.2 ∧ (2 ≤ x.1 ∧ x.1 ≤ 6)
  | .inr y => m_fR μ μ' ∧ μ'.I 14 = 0 ∧ μ'.I 15 = μ.I 15 ∧ μ'.I 19 = y.1 ∧ μ'.I 20 = k ∧ μ'.I 21 = y.2.2.2 ∧ m_Po μ' y.1 y.2.1 ∧ m_Lo μ' y.1 W (z_l1 y.2.2.1 k) ∧ y.1 < 13 ∧ k < W.length ∧ k < y.2.2.2 ∧ y.2.2.2 ≤ W.length
theorem z_os_up : ∀ (f k : Nat) (O : z_O) (r : z_O × Nat), z_os T W t f k O = .inr r → k ≤ W.length → k ≤ r.2 ∧ r.2 ≤ W.length
  | 0, k, O, r, h, hk => by
    unfold z_os at h
    cases h
    dsimp only
    omega
  | f + 1, k, O, r, h, hk => by
    unfold z_os at h
    split at h
    next q =>
      have hkl : k < W.length := by
        unfold z_iso at q
        rw [Bool.and_eq_true] at q
        exact x_isw_lt q.1
      cases hz : z_ow T W t k ((W.getD k x_0).2.2.length - 1) (x_fo W k + 1) O with
      | inl x => rw [hz] at h; cases h
      | inr y =>
        rw [hz] at h
        have := z_ow_up _ _ _ y hz hkl
        have := z_os_up f y.2 y.1 r h this.2
        omega
    · cases h
      dsimp only
      omega
theorem z_op_up : ∀ (f k : Nat) (l : List (Int × Nat)) (r : List (Int × Nat) × Nat), z_op T W t first O f k l = .inr r → k ≤ W.length → l.length ≤ z_mo T O → k ≤ r.2 ∧ r.2 ≤ W.length ∧ r.1.length ≤ z_mo T O
  | 0, k, l, r, h, hk, hl => by
    unfold z_op at h
    cases h
    dsimp only
    omega
  | f + 1, k, l, r, h, hk, hl => by
    rw [z_op_step] at h
    split at h
    next q =>
      have hkl := x_isw_lt q
      cases hz : z_o1 T W t first O k l with
      | inl x => rw [hz] at h; cases h
      | inr y =>
        rw [hz] at h
        have hy : y.length ≤ z_mo T O := by
          unfold z_o1 at hz
          split at hz
          · split at hz
            · cases hz
            · split at hz
              · cases hz
                rw [List.length_append]
                simp only [List.length_cons, List.length_nil]
                omega
              · cases hz
          · split at hz
            · cases hz
            next w =>
              cases hz
              rw [List.length_append]
              simp only [List.length_cons, List.length_nil]
              have : ¬ z_mo T O ≤ l.length := fun x => w (.inr (.inr x))
              omega
        have := z_op_up f (k + 1) y r h (by omega) hy
        omega
    · cases h
      dsimp only
      omega
theorem z_os_code : ∀ (f k : Nat) (O : z_O) {x : Nat × Nat}, z_os T W t f k O = .inl x → x.1 = 4 ∨ x.1 = 5
  | 0, k, O, x, h => by
    unfold z_os at h
    cases h
  | f + 1, k, O, x, h => by
    unfold z_os at h
    split at h
    · cases hz : z_ow T W t k ((W.getD k x_0).2.2.length - 1) (x_fo W k + 1) O with
      | inl y =>
        rw [hz] at h
        cases h
        exact z_ow_code _ _ _ hz
      | inr y =>
        rw [hz] at h
        exact z_os_code f y.2 y.1 h
    · cases h
/-- readTool in the reference -/
theorem g_rt {k : Nat} (hX : x_tok t W) (hk : k ≤ W.length) (hH : m_H μ t W) (h6 : μ.I 6 = t.length) (h14 : μ.I 14 = 0) (hN : ∀ i : Nat, i < 13 → μ.A 12 i = m_nm.getD i 0) :
    ∃ μ', am_gg (am_pr ad) (d + 6) 179 0 [some (.ref m), some (.int (h_ii k)), some (.int (h_ii (x_01 first))), none] [] (m_t M m μ) = some (.inl none, m_t M m μ') ∧ m_rt μ μ' W k (z_rt W t k first) := by
  have hW := hX.2.1
  have ht9 := hX.1
  have hpl := x_pla_le (k := k) hX
  have e1 := g_isw (M := M) (m := m) (ad := ad) (d := d + 5) (k := k) hH hX (by omega)
  unfold z_rt
  by_cases q : x_isw W k = true
  · have hkl := x_isw_lt q
    have a8 : μ.A 8 k = x_pla W t k := by unfold x_pla; rw [if_pos hkl]; exact (hH.2.2.1 k hkl).1
    rw [q] at e1
    rw [if_neg (by rw [q]; decide)]
    obtain ⟨n1, n2, n3⟩ := z_nm_sp (l := x_sub (x_all W) (x_fo W k) (x_fo W (k + 1)))
    have e2 := g_name (M := M) (m := m) (ad := ad) (d := d + 4) hH hX hN hkl n1 n2 n3
    generalize z_nm (x_sub (x_all W) (x_fo W k) (x_fo W (k + 1))) = T at n1 n2 n3 e2 ⊢
    clear n2 n3
    -- the state before told is cleared
    have f0 : m_fR μ (m_uI (m_uI (m_uI (m_uI (m_uI (m_uI (m_uI μ 19 (if T < 13 then (T : Int) else -1)) 20 k) 31 0) 25 0) 26 0) 27 0) 28 0) := ((((((m_fR.uI μ (by omega)).trans (m_fR.uI _ (by omega))).trans (m_fR.uI _ (by omega))).trans (m_fR.uI _ (by omega))).trans (m_fR.uI _ (by omega))).trans (m_fR.uI _ (by omega))).trans (m_fR.uI _ (by omega))
    have p19 : (m_uI (m_uI (m_uI (m_uI (m_uI (m_uI (m_uI μ 19 (if T < 13 then (T : Int) else -1)) 20 k) 31 0) 25 0) 26 0) 27 0) 28 0).I 19 = (if T < 13 then (T : Int) else -1) := by simp only [m_I_uI, m_A_uI, m_I_uA, m_A_uA, Nat.reduceEqDiff, if_true, if_false]
    have p14 : (m_uI (m_uI (m_uI (m_uI (m_uI (m_uI (m_uI μ 19 (if T < 13 then (T : Int) else -1)) 20 k) 31 0) 25 0) 26 0) 27 0) 28 0).I 14 = 0 := by simp only [m_I_uI, m_A_uI, m_I_uA, m_A_uA, Nat.reduceEqDiff, if_false]; exact h14
    have p15 : (m_uI (m_uI (m_uI (m_uI (m_uI (m_uI (m_uI μ 19 (if T < 13 then (T : Int) else -1)) 20 k) 31 0) 25 0) 26 0) 27 0) 28 0).I 15 = μ.I 15 := by simp only [m_I_uI, m_A_uI, m_I_uA, m_A_uA, Nat.reduceEqDiff, if_false]
    have p20 : (m_uI (m_uI (m_uI (m_uI (m_uI (m_uI (m_uI μ 19 (if T < 13 then (T : Int) else -1)) 20 k) 31 0) 25 0) 26 0) 27 0) 28 0).I 20 = k := by simp only [m_I_uI, m_A_uI, m_I_uA, m_A_uA, Nat.reduceEqDiff, if_true, if_false]
    have p31 : (m_uI (m_uI (m_uI (m_uI (m_uI (m_uI (m_uI μ 19 (if T < 13 then (T : Int) else -1)) 20 k) 31 0) 25 0) 26 0) 27 0) 28 0).I 31 = 0 := by simp only [m_I_uI, m_A_uI, m_I_uA, m_A_uA, Nat.reduceEqDiff, if_true, if_false]
    have p2 : (m_uI (m_uI (m_uI (m_uI (m_uI (m_uI (m_uI μ 19 (if T < 13 then (T : Int) else -1)) 20 k) 31 0) 25 0) 26 0) 27 0) 28 0).I 25 = 0 ∧ (m_uI (m_uI (m_uI (m_uI (m_uI (m_uI (m_uI μ 19 (if T < 13 then (T : Int) else -1)) 20 k) 31 0) 25 0) 26 0) 27 0) 28 0).I 26 = 0 ∧ (m_uI (m_uI (m_uI (m_uI (m_uI (m_uI (m_uI μ 19 (if T < 13 then (T : Int) else -1)) 20 k) 31 0) 25 0) 26 0) 27 0) 28 0).I 27 = 0 ∧ (m_uI (m_uI (m_uI (m_uI (m_uI (m_uI (m_uI μ 19 (if T < 13 then (T : Int) else -1)) 20 k) 31 0) 25 0) 26 0) 27 0) 28 0).I 28 = 0 := by simp only [m_I_uI, m_A_uI, m_I_uA, m_A_uA, Nat.reduceEqDiff, if_true, if_false, and_self]
    have eo : am_gg (am_pr ad) (d + 6) 179 0 [some (.ref m), some (.int (h_ii k)), some (.int (h_ii (x_01 first))), none] [] (m_t M m μ) = am_gg (am_pr ad) (d + 6) 179 60 [some (.ref m), some (.int (h_ii k)), some (.int (h_ii (x_01 first))), some (.int (h_ii ((0 : Nat) : Int)))] [] (m_t M m (m_uI (m_uI (m_uI (m_uI (m_uI (m_uI (m_uI μ 19 (if T < 13 then (T : Int) else -1)) 20 k) 31 0) 25 0) 26 0) 27 0) 28 0)) := by
      rw [B179_0]
      have : x_01 true = 1 := rfl
      rw [this] at e1
      simp (disch := first | assumption | omega | decide | (simp only [m_I_uI, m_A_uI, m_I_uA, m_A_uA] <;> first | assumption | omega) | fail) only [↓mp_0_b, ↓mp_6_b, ↓mp_13_b, ↓mp_14_b, ↓mp_15_b, ↓mp_16_b, ↓mp_17_b, ↓mp_19_b, ↓mp_20_b, ↓mp_21_b, ↓mp_25_b, ↓mp_26_b, ↓mp_27_b, ↓mp_28_b, ↓mp_31_b, ↓mp_32_b, ↓mp_35_b, ↓mp_36_b, ↓mp_37_b, ↓mp_38_b, ↓mp_39_b, ↓mp_40_b, ↓mp_41_b, ↓mp_42_b, ↓mp_43_b, ↓ml_1_b, ↓ms_1_b, ↓ml_2_b, ↓ms_2_b, ↓ml_3_b, ↓ms_3_b, ↓ml_4_b, ↓ms_4_b, ↓ml_5_b, ↓ms_5_b, ↓ml_6_b, ↓ms_6_b, ↓ml_7_b, ↓ms_7_b, ↓ml_8_b, ↓ms_8_b, ↓ml_9_b, ↓ms_9_b, ↓ml_10_b, ↓ms_10_b, ↓ml_11_b, ↓ms_11_b, ↓ml_13_b, ↓ms_13_b, ↓ml_14_b, ↓ms_14_b, ↓ml_15_b, ↓ms_15_b, ↓ml_16_b, ↓ms_16_b, ↓ml_17_b, ↓ms_17_b, ↓ml_18_b, ↓ms_18_b, ↓ml_19_b, ↓ms_19_b, ↓ml_20_b, ↓ms_20_b, ↓ml_21_b, ↓ms_21_b, ↓ml_22_b, ↓ms_22_b, m_cl, mg_0, mp_0, mr_1, mr_2, mr_3, mr_4, mr_5, mg_6, mp_6, mr_7, mr_8, mr_9, mr_10, mr_11, mr_12, mg_13, mp_13, mg_14, mp_14, mg_15, mp_15, mg_16, mp_16, mg_17, mp_17, mr_18, mg_19, mp_19, mg_20, mp_20, mg_21, mp_21, mr_22, mr_23, mr_24, mg_25, mp_25, mg_26, mp_26, mg_27, mp_27, mg_28, mp_28, mr_29, mr_30, mg_31, mp_31, mg_32, mp_32, mr_33, mr_34, mg_35, mp_35, mg_36, mp_36, mg_37, mp_37, mg_38, mp_38, mg_39, mp_39, mg_40, mp_40, mg_41, mp_41, mg_42, mp_42, mg_43, mp_43, mr_44, mr_45, mr_46, ml_1, ms_1, ml_2, ms_2, ml_3, ms_3, ml_4, ms_4, ml_5, ms_5, ml_6, ms_6, ml_7, ms_7, ml_8, ms_8, ml_9, ms_9, ml_10, ms_10, ml_11, ms_11, ml_13, ms_13, ml_14, ms_14, ml_15, ms_15, ml_16, ms_16, ml_17, ms_17, ml_18, ms_18, ml_19, ms_19, ml_20, ms_20, ml_21, ms_21, ml_22, ms_22, h_nI, Int.cast_ofNat_Int, h_b8, Int.bmod_bmod, h_add, h_sub, h_mul, h_neg, h_zero, h_and255, h_and15, h_and3, h_cltT, h_cltF, h_cgeT, h_cgeF, h_cgtT, h_cgtF, h_cleT, h_cleF, h_ceqT, h_ceqF, h_cneT, h_cneF, m_I_uI, m_A_uI, m_I_uA, m_A_uA, m_t1, ↓reduceIte, Option.bind_some, am_ret0, am_ret1, am_ret2, if_true, if_false, true_and, and_true, false_and, and_false, not_true_eq_false, not_false_eq_true, Nat.reduceEqDiff, Nat.reduceAdd, Nat.reduceSub, Nat.reduceMul, Int.reduceAdd, Int.reduceSub, Int.reduceMul, Int.reduceNeg, Int.reduceToNat, Int.reduceLT, Int.reduceLE, Nat.add_left_cancel_iff, e1, e2, h_fit1, h_fit0]
      try rfl
    generalize (m_uI (m_uI (m_uI (m_uI (m_uI (m_uI (m_uI μ 19 (if T < 13 then (T : Int) else -1)) 20 k) 31 0) 25 0) 26 0) 27 0) 28 0) = ν at f0 p19 p14 p15 p20 p31 p2 eo
    obtain ⟨s1, e3, g1, g2, g3, g4⟩ := g_clr (M := M) (m := m) (ad := ad) (d := d + 5) (i1 := h_ii k) (i2 := h_ii (x_01 first)) 128 0 (μ := ν) rfl (by omega)
    rw [eo, e3]
    have f1 : m_fR μ s1 := f0.trans ⟨fun k _ => g1 k, fun z i hz => g2 z i (by omega)⟩
    clear f0 eo e3
    have i19 := (g1 19).trans p19
    have i14 := (g1 14).trans p14
    have i15 := (g1 15).trans p15
    have i20 := (g1 20).trans p20
    have i31 := (g1 31).trans p31
    have i25 := (g1 25).trans p2.1
    have i26 := (g1 26).trans p2.2.1
    have i27 := (g1 27).trans p2.2.2.1
    have i28 := (g1 28).trans p2.2.2.2
    clear p19 p14 p15 p20 p31 p2
    have hH1 := hH.fR f1
    have h61 := (f1.1 6 (by omega)).trans h6
    have a81 : s1.A 8 k = x_pla W t k := (f1.2 8 k (by omega)).trans a8
    rw [B179_60]
    by_cases q13 : T = 13
    · rw [if_pos q13]
      rw [if_neg (by omega)] at i19
      have e4 := g_flaw (M := M) (m := m) (ad := ad) (d := d + 5) (f := 3) (p := x_pla W t k) i14
      refine ⟨m_uI (m_uI (m_uI s1 14 3) 15 (x_pla W t k)) 21 (k + 1), ?_, ((f1.trans (m_fR.uI _ (by omega))).trans (m_fR.uI _ (by omega))).trans (m_fR.uI _ (by omega)), ?_, ?_, (show 2 ≤ 3 ∧ 3 ≤ 6 by decide)⟩
      · simp (disch := first | assumption | omega | decide | (simp only [m_I_uI, m_A_uI, m_I_uA, m_A_uA] <;> first | assumption | omega) | fail) only [↓mp_0_b, ↓mp_6_b, ↓mp_13_b, ↓mp_14_b, ↓mp_15_b, ↓mp_16_b, ↓mp_17_b, ↓mp_19_b, ↓mp_20_b, ↓mp_21_b, ↓mp_25_b, ↓mp_26_b, ↓mp_27_b, ↓mp_28_b, ↓mp_31_b, ↓mp_32_b, ↓mp_35_b, ↓mp_36_b, ↓mp_37_b, ↓mp_38_b, ↓mp_39_b, ↓mp_40_b, ↓mp_41_b, ↓mp_42_b, ↓mp_43_b, ↓ml_1_b, ↓ms_1_b, ↓ml_2_b, ↓ms_2_b, ↓ml_3_b, ↓ms_3_b, ↓ml_4_b, ↓ms_4_b, ↓ml_5_b, ↓ms_5_b, ↓ml_6_b, ↓ms_6_b, ↓ml_7_b, ↓ms_7_b, ↓ml_8_b, ↓ms_8_b, ↓ml_9_b, ↓ms_9_b, ↓ml_10_b, ↓ms_10_b, ↓ml_11_b, ↓ms_11_b, ↓ml_13_b, ↓ms_13_b, ↓ml_14_b, ↓ms_14_b, ↓ml_15_b, ↓ms_15_b, ↓ml_16_b, ↓ms_16_b, ↓ml_17_b, ↓ms_17_b, ↓ml_18_b, ↓ms_18_b, ↓ml_19_b, ↓ms_19_b, ↓ml_20_b, ↓ms_20_b, ↓ml_21_b, ↓ms_21_b, ↓ml_22_b, ↓ms_22_b, m_cl, mg_0, mp_0, mr_1, mr_2, mr_3, mr_4, mr_5, mg_6, mp_6, mr_7, mr_8, mr_9, mr_10, mr_11, mr_12, mg_13, mp_13, mg_14, mp_14, mg_15, mp_15, mg_16, mp_16, mg_17, mp_17, mr_18, mg_19, mp_19, mg_20, mp_20, mg_21, mp_21, mr_22, mr_23, mr_24, mg_25, mp_25, mg_26, mp_26, mg_27, mp_27, mg_28, mp_28, mr_29, mr_30, mg_31, mp_31, mg_32, mp_32, mr_33, mr_34, mg_35, mp_35, mg_36, mp_36, mg_37, mp_37, mg_38, mp_38, mg_39, mp_39, mg_40, mp_40, mg_41, mp_41, mg_42, mp_42, mg_43, mp_43, mr_44, mr_45, mr_46, ml_1, ms_1, ml_2, ms_2, ml_3, ms_3, ml_4, ms_4, ml_5, ms_5, ml_6, ms_6, ml_7, ms_7, ml_8, ms_8, ml_9, ms_9, ml_10, ms_10, ml_11, ms_11, ml_13, ms_13, ml_14, ms_14, ml_15, ms_15, ml_16, ms_16, ml_17, ms_17, ml_18, ms_18, ml_19, ms_19, ml_20, ms_20, ml_21, ms_21, ml_22, ms_22, h_nI, Int.cast_ofNat_Int, h_b8, Int.bmod_bmod, h_add, h_sub, h_mul, h_neg, h_zero, h_and255, h_and15, h_and3, h_cltT, h_cltF, h_cgeT, h_cgeF, h_cgtT, h_cgtF, h_cleT, h_cleF, h_ceqT, h_ceqF, h_cneT, h_cneF, m_I_uI, m_A_uI, m_I_uA, m_A_uA, m_t1, ↓reduceIte, Option.bind_some, am_ret0, am_ret1, am_ret2, if_true, if_false, true_and, and_true, false_and, and_false, not_true_eq_false, not_false_eq_true, Nat.reduceEqDiff, Nat.reduceAdd, Nat.reduceSub, Nat.reduceMul, Int.reduceAdd, Int.reduceSub, Int.reduceMul, Int.reduceNeg, Int.reduceToNat, Int.reduceLT, Int.reduceLE, Nat.add_left_cancel_iff, i19, Int.toNat_natCast, a81, e4, B179_99]
        rw [B179_103]
        simp (disch := first | assumption | omega | decide | (simp only [m_I_uI, m_A_uI, m_I_uA, m_A_uA] <;> first | assumption | omega) | fail) only [↓mp_0_b, ↓mp_6_b, ↓mp_13_b, ↓mp_14_b, ↓mp_15_b, ↓mp_16_b, ↓mp_17_b, ↓mp_19_b, ↓mp_20_b, ↓mp_21_b, ↓mp_25_b, ↓mp_26_b, ↓mp_27_b, ↓mp_28_b, ↓mp_31_b, ↓mp_32_b, ↓mp_35_b, ↓mp_36_b, ↓mp_37_b, ↓mp_38_b, ↓mp_39_b, ↓mp_40_b, ↓mp_41_b, ↓mp_42_b, ↓mp_43_b, ↓ml_1_b, ↓ms_1_b, ↓ml_2_b, ↓ms_2_b, ↓ml_3_b, ↓ms_3_b, ↓ml_4_b, ↓ms_4_b, ↓ml_5_b, ↓ms_5_b, ↓ml_6_b, ↓ms_6_b, ↓ml_7_b, ↓ms_7_b, ↓ml_8_b, ↓ms_8_b, ↓ml_9_b, ↓ms_9_b, ↓ml_10_b, ↓ms_10_b, ↓ml_11_b, ↓ms_11_b, ↓ml_13_b, ↓ms_13_b, ↓ml_14_b, ↓ms_14_b, ↓ml_15_b, ↓ms_15_b, ↓ml_16_b, ↓ms_16_b, ↓ml_17_b, ↓ms_17_b, ↓ml_18_b, ↓ms_18_b, ↓ml_19_b, ↓ms_19_b, ↓ml_20_b, ↓ms_20_b, ↓ml_21_b, ↓ms_21_b, ↓ml_22_b, ↓ms_22_b, m_cl, mg_0, mp_0, mr_1, mr_2, mr_3, mr_4, mr_5, mg_6, mp_6, mr_7, mr_8, mr_9, mr_10, mr_11, mr_12, mg_13, mp_13, mg_14, mp_14, mg_15, mp_15, mg_16, mp_16, mg_17, mp_17, mr_18, mg_19, mp_19, mg_20, mp_20, mg_21, mp_21, mr_22, mr_23, mr_24, mg_25, mp_25, mg_26, mp_26, mg_27, mp_27, mg_28, mp_28, mr_29, mr_30, mg_31, mp_31, mg_32, mp_32, mr_33, mr_34, mg_35, mp_35, mg_36, mp_36, mg_37, mp_37, mg_38, mp_38, mg_39, mp_39, mg_40, mp_40, mg_41, mp_41, mg_42, mp_42, mg_43, mp_43, mr_44, mr_45, mr_46, ml_1, ms_1, ml_2, ms_2, ml_3, ms_3, ml_4, ms_4, ml_5, ms_5, ml_6, ms_6, ml_7, ms_7, ml_8, ms_8, ml_9, ms_9, ml_10, ms_10, ml_11, ms_11, ml_13, ms_13, ml_14, ms_14, ml_15, ms_15, ml_16, ms_16, ml_17, ms_17, ml_18, ms_18, ml_19, ms_19, ml_20, ms_20, ml_21, ms_21, ml_22, ms_22, h_nI, Int.cast_ofNat_Int, h_b8, Int.bmod_bmod, h_add, h_sub, h_mul, h_neg, h_zero, h_and255, h_and15, h_and3, h_cltT, h_cltF, h_cgeT, h_cgeF, h_cgtT, h_cgtF, h_cleT, h_cleF, h_ceqT, h_ceqF, h_cneT, h_cneF, m_I_uI, m_A_uI, m_I_uA, m_A_uA, m_t1, ↓reduceIte, Option.bind_some, am_ret0, am_ret1, am_ret2, if_true, if_false, true_and, and_true, false_and, and_false, not_true_eq_false, not_false_eq_true, Nat.reduceEqDiff, Nat.reduceAdd, Nat.reduceSub, Nat.reduceMul, Int.reduceAdd, Int.reduceSub, Int.reduceMul, Int.reduceNeg, Int.reduceToNat, Int.reduceLT, Int.reduceLE, Nat.add_left_cancel_iff]
        rw [B179_168]
        simp (disch := first | assumption | omega | decide | (simp only [m_I_uI, m_A_uI, m_I_uA, m_A_uA] <;> first | assumption | omega) | fail) only [↓mp_0_b, ↓mp_6_b, ↓mp_13_b, ↓mp_14_b, ↓mp_15_b, ↓mp_16_b, ↓mp_17_b, ↓mp_19_b, ↓mp_20_b, ↓mp_21_b, ↓mp_25_b, ↓mp_26_b, ↓mp_27_b, ↓mp_28_b, ↓mp_31_b, ↓mp_32_b, ↓mp_35_b, ↓mp_36_b, ↓mp_37_b, ↓mp_38_b, ↓mp_39_b, ↓mp_40_b, ↓mp_41_b, ↓mp_42_b, ↓mp_43_b, ↓ml_1_b, ↓ms_1_b, ↓ml_2_b, ↓ms_2_b, ↓ml_3_b, ↓ms_3_b, ↓ml_4_b, ↓ms_4_b, ↓ml_5_b, ↓ms_5_b, ↓ml_6_b, ↓ms_6_b, ↓ml_7_b, ↓ms_7_b, ↓ml_8_b, ↓ms_8_b, ↓ml_9_b, ↓ms_9_b, ↓ml_10_b, ↓ms_10_b, ↓ml_11_b, ↓ms_11_b, ↓ml_13_b, ↓ms_13_b, ↓ml_14_b, ↓ms_14_b, ↓ml_15_b, ↓ms_15_b, ↓ml_16_b, ↓ms_16_b, ↓ml_17_b, ↓ms_17_b, ↓ml_18_b, ↓ms_18_b, ↓ml_19_b, ↓ms_19_b, ↓ml_20_b, ↓ms_20_b, ↓ml_21_b, ↓ms_21_b, ↓ml_22_b, ↓ms_22_b, m_cl, mg_0, mp_0, mr_1, mr_2, mr_3, mr_4, mr_5, mg_6, mp_6, mr_7, mr_8, mr_9, mr_10, mr_11, mr_12, mg_13, mp_13, mg_14, mp_14, mg_15, mp_15, mg_16, mp_16, mg_17, mp_17, mr_18, mg_19, mp_19, mg_20, mp_20, mg_21, mp_21, mr_22, mr_23, mr_24, mg_25, mp_25, mg_26, mp_26, mg_27, mp_27, mg_28, mp_28, mr_29, mr_30, mg_31, mp_31, mg_32, mp_32, mr_33, mr_34, mg_35, mp_35, mg_36, mp_36, mg_37, mp_37, mg_38, mp_38, mg_39, mp_39, mg_40, mp_40, mg_41, mp_41, mg_42, mp_42, mg_43, mp_43, mr_44, mr_45, mr_46, ml_1, ms_1, ml_2, ms_2, ml_3, ms_3, ml_4, ms_4, ml_5, ms_5, ml_6, ms_6, ml_7, ms_7, ml_8, ms_8, ml_9, ms_9, ml_10, ms_10, ml_11, ms_11, ml_13, ms_13, ml_14, ms_14, ml_15, ms_15, ml_16, ms_16, ml_17, ms_17, ml_18, ms_18, ml_19, ms_19, ml_20, ms_20, ml_21, ms_21, ml_22, ms_22, h_nI, Int.cast_ofNat_Int, h_b8, Int.bmod_bmod, h_add, h_sub, h_mul, h_neg, h_zero, h_and255, h_and15, h_and3, h_cltT, h_cltF, h_cgeT, h_cgeF, h_cgtT, h_cgtF, h_cleT, h_cleF, h_ceqT, h_ceqF, h_cneT, h_cneF, m_I_uI, m_A_uI, m_I_uA, m_A_uA, m_t1, ↓reduceIte, Option.bind_some, am_ret0, am_ret1, am_ret2, if_true, if_false, true_and, and_true, false_and, and_false, not_true_eq_false, not_false_eq_true, Nat.reduceEqDiff, Nat.reduceAdd, Nat.reduceSub, Nat.reduceMul, Int.reduceAdd, Int.reduceSub, Int.reduceMul, Int.reduceNeg, Int.reduceToNat, Int.reduceLT, Int.reduceLE, Nat.add_left_cancel_iff]
        rw [B179_195]
        simp (disch := first | assumption | omega | decide | (simp only [m_I_uI, m_A_uI, m_I_uA, m_A_uA] <;> first | assumption | omega) | fail) only [↓mp_0_b, ↓mp_6_b, ↓mp_13_b, ↓mp_14_b, ↓mp_15_b, ↓mp_16_b, ↓mp_17_b, ↓mp_19_b, ↓mp_20_b, ↓mp_21_b, ↓mp_25_b, ↓mp_26_b, ↓mp_27_b, ↓mp_28_b, ↓mp_31_b, ↓mp_32_b, ↓mp_35_b, ↓mp_36_b, ↓mp_37_b, ↓mp_38_b, ↓mp_39_b, ↓mp_40_b, ↓mp_41_b, ↓mp_42_b, ↓mp_43_b, ↓ml_1_b, ↓ms_1_b, ↓ml_2_b, ↓ms_2_b, ↓ml_3_b, ↓ms_3_b, ↓ml_4_b, ↓ms_4_b, ↓ml_5_b, ↓ms_5_b, ↓ml_6_b, ↓ms_6_b, ↓ml_7_b, ↓ms_7_b, ↓ml_8_b, ↓ms_8_b, ↓ml_9_b, ↓ms_9_b, ↓ml_10_b, ↓ms_10_b, ↓ml_11_b, ↓ms_11_b, ↓ml_13_b, ↓ms_13_b, ↓ml_14_b, ↓ms_14_b, ↓ml_15_b, ↓ms_15_b, ↓ml_16_b, ↓ms_16_b, ↓ml_17_b, ↓ms_17_b, ↓ml_18_b, ↓ms_18_b, ↓ml_19_b, ↓ms_19_b, ↓ml_20_b, ↓ms_20_b, ↓ml_21_b, ↓ms_21_b, ↓ml_22_b, ↓ms_22_b, m_cl, mg_0, mp_0, mr_1, mr_2, mr_3, mr_4, mr_5, mg_6, mp_6, mr_7, mr_8, mr_9, mr_10, mr_11, mr_12, mg_13, mp_13, mg_14, mp_14, mg_15, mp_15, mg_16, mp_16, mg_17, mp_17, mr_18, mg_19, mp_19, mg_20, mp_20, mg_21, mp_21, mr_22, mr_23, mr_24, mg_25, mp_25, mg_26, mp_26, mg_27, mp_27, mg_28, mp_28, mr_29, mr_30, mg_31, mp_31, mg_32, mp_32, mr_33, mr_34, mg_35, mp_35, mg_36, mp_36, mg_37, mp_37, mg_38, mp_38, mg_39, mp_39, mg_40, mp_40, mg_41, mp_41, mg_42, mp_42, mg_43, mp_43, mr_44, mr_45, mr_46, ml_1, ms_1, ml_2, ms_2, ml_3, ms_3, ml_4, ms_4, ml_5, ms_5, ml_6, ms_6, ml_7, ms_7, ml_8, ms_8, ml_9, ms_9, ml_10, ms_10, ml_11, ms_11, ml_13, ms_13, ml_14, ms_14, ml_15, ms_15, ml_16, ms_16, ml_17, ms_17, ml_18, ms_18, ml_19, ms_19, ml_20, ms_20, ml_21, ms_21, ml_22, ms_22, h_nI, Int.cast_ofNat_Int, h_b8, Int.bmod_bmod, h_add, h_sub, h_mul, h_neg, h_zero, h_and255, h_and15, h_and3, h_cltT, h_cltF, h_cgeT, h_cgeF, h_cgtT, h_cgtF, h_cleT, h_cleF, h_ceqT, h_ceqF, h_cneT, h_cneF, m_I_uI, m_A_uI, m_I_uA, m_A_uA, m_t1, ↓reduceIte, Option.bind_some, am_ret0, am_ret1, am_ret2, if_true, if_false, true_and, and_true, false_and, and_false, not_true_eq_false, not_false_eq_true, Nat.reduceEqDiff, Nat.reduceAdd, Nat.reduceSub, Nat.reduceMul, Int.reduceAdd, Int.reduceSub, Int.reduceMul, Int.reduceNeg, Int.reduceToNat, Int.reduceLT, Int.reduceLE, Nat.add_left_cancel_iff, B179_227, B179_261, h_fit0]
      · simp only [m_I_uI, m_A_uI, m_I_uA, m_A_uA, Nat.reduceEqDiff, if_true, if_false]; rfl
      · simp only [m_I_uI, m_A_uI, m_I_uA, m_A_uA, Nat.reduceEqDiff, if_true, if_false]
    · have hT : T < 13 := by omega
      rw [if_neg q13]
      rw [if_pos hT] at i19
      have hP0 : m_Po s1 T z_no := by
        refine ⟨fun c hc => g3 c (Nat.zero_le _) hc, fun c s e h => absurd h (by simp [z_no]), ?_, ?_, ?_⟩
        · rw [i25, i26, i27, i28]; exact ⟨.inl rfl, .inl rfl, .inl rfl, .inl rfl⟩
        · rw [i25, i27]; rfl
        · rw [i26, i28]; rfl
      simp (disch := first | assumption | omega | decide | (simp only [m_I_uI, m_A_uI, m_I_uA, m_A_uA] <;> first | assumption | omega) | fail) only [↓mp_0_b, ↓mp_6_b, ↓mp_13_b, ↓mp_14_b, ↓mp_15_b, ↓mp_16_b, ↓mp_17_b, ↓mp_19_b, ↓mp_20_b, ↓mp_21_b, ↓mp_25_b, ↓mp_26_b, ↓mp_27_b, ↓mp_28_b, ↓mp_31_b, ↓mp_32_b, ↓mp_35_b, ↓mp_36_b, ↓mp_37_b, ↓mp_38_b, ↓mp_39_b, ↓mp_40_b, ↓mp_41_b, ↓mp_42_b, ↓mp_43_b, ↓ml_1_b, ↓ms_1_b, ↓ml_2_b, ↓ms_2_b, ↓ml_3_b, ↓ms_3_b, ↓ml_4_b, ↓ms_4_b, ↓ml_5_b, ↓ms_5_b, ↓ml_6_b, ↓ms_6_b, ↓ml_7_b, ↓ms_7_b, ↓ml_8_b, ↓ms_8_b, ↓ml_9_b, ↓ms_9_b, ↓ml_10_b, ↓ms_10_b, ↓ml_11_b, ↓ms_11_b, ↓ml_13_b, ↓ms_13_b, ↓ml_14_b, ↓ms_14_b, ↓ml_15_b, ↓ms_15_b, ↓ml_16_b, ↓ms_16_b, ↓ml_17_b, ↓ms_17_b, ↓ml_18_b, ↓ms_18_b, ↓ml_19_b, ↓ms_19_b, ↓ml_20_b, ↓ms_20_b, ↓ml_21_b, ↓ms_21_b, ↓ml_22_b, ↓ms_22_b, m_cl, mg_0, mp_0, mr_1, mr_2, mr_3, mr_4, mr_5, mg_6, mp_6, mr_7, mr_8, mr_9, mr_10, mr_11, mr_12, mg_13, mp_13, mg_14, mp_14, mg_15, mp_15, mg_16, mp_16, mg_17, mp_17, mr_18, mg_19, mp_19, mg_20, mp_20, mg_21, mp_21, mr_22, mr_23, mr_24, mg_25, mp_25, mg_26, mp_26, mg_27, mp_27, mg_28, mp_28, mr_29, mr_30, mg_31, mp_31, mg_32, mp_32, mr_33, mr_34, mg_35, mp_35, mg_36, mp_36, mg_37, mp_37, mg_38, mp_38, mg_39, mp_39, mg_40, mp_40, mg_41, mp_41, mg_42, mp_42, mg_43, mp_43, mr_44, mr_45, mr_46, ml_1, ms_1, ml_2, ms_2, ml_3, ms_3, ml_4, ms_4, ml_5, ms_5, ml_6, ms_6, ml_7, ms_7, ml_8, ms_8, ml_9, ms_9, ml_10, ms_10, ml_11, ms_11, ml_13, ms_13, ml_14, ms_14, ml_15, ms_15, ml_16, ms_16, ml_17, ms_17, ml_18, ms_18, ml_19, ms_19, ml_20, ms_20, ml_21, ms_21, ml_22, ms_22, h_nI, Int.cast_ofNat_Int, h_b8, Int.bmod_bmod, h_add, h_sub, h_mul, h_neg, h_zero, h_and255, h_and15, h_and3, h_cltT, h_cltF, h_cgeT, h_cgeF, h_cgtT, h_cgtF, h_cleT, h_cleF, h_ceqT, h_ceqF, h_cneT, h_cneF, m_I_uI, m_A_uI, m_I_uA, m_A_uA, m_t1, ↓reduceIte, Option.bind_some, am_ret0, am_ret1, am_ret2, if_true, if_false, true_and, and_true, false_and, and_false, not_true_eq_false, not_false_eq_true, Nat.reduceEqDiff, Nat.reduceAdd, Nat.reduceSub, Nat.reduceMul, Int.reduceAdd, Int.reduceSub, Int.reduceMul, Int.reduceNeg, Int.reduceToNat, Int.reduceLT, Int.reduceLE, Nat.add_left_cancel_iff, i19, B179_99]
      rw [show h_ii ((k : Int) + 1) = h_ii ((k + 1 : Nat) : Int) from rfl]
      obtain ⟨s2, k1, e5, r5⟩ := g_os (M := M) (m := m) (ad := ad) (d := d) (i1 := h_ii k) (i2 := h_ii (x_01 first)) hX hT (W.length + 1) (k + 1) (μ := s1) (O := z_no) (by omega) (by omega) hH1 h61 i19 i14 hP0
      rw [e5]
      cases hz : z_os T W t (W.length + 1) (k + 1) z_no with
      | inl x =>
        rw [hz] at r5
        obtain ⟨μ1, r1, r2⟩ := r5
        have hc := z_os_code _ _ _ hz
        have j14 : s2.I 14 = x.1 := by rw [r2]; simp only [m_I_uI, m_A_uI, m_I_uA, m_A_uA, Nat.reduceEqDiff, if_true, if_false]
        have j15 : s2.I 15 = x.2 := by rw [r2]; simp only [m_I_uI, m_A_uI, m_I_uA, m_A_uA, if_true]
        have f2 : m_fR s1 s2 := by
          rw [r2]
          exact (r1.fR.trans (m_fR.uI _ (by omega))).trans (m_fR.uI _ (by omega))
        refine ⟨m_uI s2 21 k1, ?_, (f1.trans f2).trans (m_fR.uI _ (by omega)), ?_, ?_, by omega⟩
        · rw [B179_168]
          simp (disch := first | assumption | omega | decide | (simp only [m_I_uI, m_A_uI, m_I_uA, m_A_uA] <;> first | assumption | omega) | fail) only [↓mp_0_b, ↓mp_6_b, ↓mp_13_b, ↓mp_14_b, ↓mp_15_b, ↓mp_16_b, ↓mp_17_b, ↓mp_19_b, ↓mp_20_b, ↓mp_21_b, ↓mp_25_b, ↓mp_26_b, ↓mp_27_b, ↓mp_28_b, ↓mp_31_b, ↓mp_32_b, ↓mp_35_b, ↓mp_36_b, ↓mp_37_b, ↓mp_38_b, ↓mp_39_b, ↓mp_40_b, ↓mp_41_b, ↓mp_42_b, ↓mp_43_b, ↓ml_1_b, ↓ms_1_b, ↓ml_2_b, ↓ms_2_b, ↓ml_3_b, ↓ms_3_b, ↓ml_4_b, ↓ms_4_b, ↓ml_5_b, ↓ms_5_b, ↓ml_6_b, ↓ms_6_b, ↓ml_7_b, ↓ms_7_b, ↓ml_8_b, ↓ms_8_b, ↓ml_9_b, ↓ms_9_b, ↓ml_10_b, ↓ms_10_b, ↓ml_11_b, ↓ms_11_b, ↓ml_13_b, ↓ms_13_b, ↓ml_14_b, ↓ms_14_b, ↓ml_15_b, ↓ms_15_b, ↓ml_16_b, ↓ms_16_b, ↓ml_17_b, ↓ms_17_b, ↓ml_18_b, ↓ms_18_b, ↓ml_19_b, ↓ms_19_b, ↓ml_20_b, ↓ms_20_b, ↓ml_21_b, ↓ms_21_b, ↓ml_22_b, ↓ms_22_b, m_cl, mg_0, mp_0, mr_1, mr_2, mr_3, mr_4, mr_5, mg_6, mp_6, mr_7, mr_8, mr_9, mr_10, mr_11, mr_12, mg_13, mp_13, mg_14, mp_14, mg_15, mp_15, mg_16, mp_16, mg_17, mp_17, mr_18, mg_19, mp_19, mg_20, mp_20, mg_21, mp_21, mr_22, mr_23, mr_24, mg_25, mp_25, mg_26, mp_26, mg_27, mp_27, mg_28, mp_28, mr_29, mr_30, mg_31, mp_31, mg_32, mp_32, mr_33, mr_34, mg_35, mp_35, mg_36, mp_36, mg_37, mp_37, mg_38, mp_38, mg_39, mp_39, mg_40, mp_40, mg_41, mp_41, mg_42, mp_42, mg_43, mp_43, mr_44, mr_45, mr_46, ml_1, ms_1, ml_2, ms_2, ml_3, ms_3, ml_4, ms_4, ml_5, ms_5, ml_6, ms_6, ml_7, ms_7, ml_8, ms_8, ml_9, ms_9, ml_10, ms_10, ml_11, ms_11, ml_13, ms_13, ml_14, ms_14, ml_15, ms_15, ml_16, ms_16, ml_17, ms_17, ml_18, ms_18, ml_19, ms_19, ml_20, ms_20, ml_21, ms_21, ml_22, ms_22, h_nI, Int.cast_ofNat_Int, h_b8, Int.bmod_bmod, h_add, h_sub, h_mul, h_neg, h_zero, h_and255, h_and15, h_and3, h_cltT, h_cltF, h_cgeT, h_cgeF, h_cgtT, h_cgtF, h_cleT, h_cleF, h_ceqT, h_ceqF, h_cneT, h_cneF, m_I_uI, m_A_uI, m_I_uA, m_A_uA, m_t1, ↓reduceIte, Option.bind_some, am_ret0, am_ret1, am_ret2, if_true, if_false, true_and, and_true, false_and, and_false, not_true_eq_false, not_false_eq_true, Nat.reduceEqDiff, Nat.reduceAdd, Nat.reduceSub, Nat.reduceMul, Int.reduceAdd, Int.reduceSub, Int.reduceMul, Int.reduceNeg, Int.reduceToNat, Int.reduceLT, Int.reduceLE, Nat.add_left_cancel_iff, j14]
          rw [B179_195]
          simp (disch := first | assumption | omega | decide | (simp only [m_I_uI, m_A_uI, m_I_uA, m_A_uA] <;> first | assumption | omega) | fail) only [↓mp_0_b, ↓mp_6_b, ↓mp_13_b, ↓mp_14_b, ↓mp_15_b, ↓mp_16_b, ↓mp_17_b, ↓mp_19_b, ↓mp_20_b, ↓mp_21_b, ↓mp_25_b, ↓mp_26_b, ↓mp_27_b, ↓mp_28_b, ↓mp_31_b, ↓mp_32_b, ↓mp_35_b, ↓mp_36_b, ↓mp_37_b, ↓mp_38_b, ↓mp_39_b, ↓mp_40_b, ↓mp_41_b, ↓mp_42_b, ↓mp_43_b, ↓ml_1_b, ↓ms_1_b, ↓ml_2_b, ↓ms_2_b, ↓ml_3_b, ↓ms_3_b, ↓ml_4_b, ↓ms_4_b, ↓ml_5_b, ↓ms_5_b, ↓ml_6_b, ↓ms_6_b, ↓ml_7_b, ↓ms_7_b, ↓ml_8_b, ↓ms_8_b, ↓ml_9_b, ↓ms_9_b, ↓ml_10_b, ↓ms_10_b, ↓ml_11_b, ↓ms_11_b, ↓ml_13_b, ↓ms_13_b, ↓ml_14_b, ↓ms_14_b, ↓ml_15_b, ↓ms_15_b, ↓ml_16_b, ↓ms_16_b, ↓ml_17_b, ↓ms_17_b, ↓ml_18_b, ↓ms_18_b, ↓ml_19_b, ↓ms_19_b, ↓ml_20_b, ↓ms_20_b, ↓ml_21_b, ↓ms_21_b, ↓ml_22_b, ↓ms_22_b, m_cl, mg_0, mp_0, mr_1, mr_2, mr_3, mr_4, mr_5, mg_6, mp_6, mr_7, mr_8, mr_9, mr_10, mr_11, mr_12, mg_13, mp_13, mg_14, mp_14, mg_15, mp_15, mg_16, mp_16, mg_17, mp_17, mr_18, mg_19, mp_19, mg_20, mp_20, mg_21, mp_21, mr_22, mr_23, mr_24, mg_25, mp_25, mg_26, mp_26, mg_27, mp_27, mg_28, mp_28, mr_29, mr_30, mg_31, mp_31, mg_32, mp_32, mr_33, mr_34, mg_35, mp_35, mg_36, mp_36, mg_37, mp_37, mg_38, mp_38, mg_39, mp_39, mg_40, mp_40, mg_41, mp_41, mg_42, mp_42, mg_43, mp_43, mr_44, mr_45, mr_46, ml_1, ms_1, ml_2, ms_2, ml_3, ms_3, ml_4, ms_4, ml_5, ms_5, ml_6, ms_6, ml_7, ms_7, ml_8, ms_8, ml_9, ms_9, ml_10, ms_10, ml_11, ms_11, ml_13, ms_13, ml_14, ms_14, ml_15, ms_15, ml_16, ms_16, ml_17, ms_17, ml_18, ms_18, ml_19, ms_19, ml_20, ms_20, ml_21, ms_21, ml_22, ms_22, h_nI, Int.cast_ofNat_Int, h_b8, Int.bmod_bmod, h_add, h_sub, h_mul, h_neg, h_zero, h_and255, h_and15, h_and3, h_cltT, h_cltF, h_cgeT, h_cgeF, h_cgtT, h_cgtF, h_cleT, h_cleF, h_ceqT, h_ceqF, h_cneT, h_cneF, m_I_uI, m_A_uI, m_I_uA, m_A_uA, m_t1, ↓reduceIte, Option.bind_some, am_ret0, am_ret1, am_ret2, if_true, if_false, true_and, and_true, false_and, and_false, not_true_eq_false, not_false_eq_true, Nat.reduceEqDiff, Nat.reduceAdd, Nat.reduceSub, Nat.reduceMul, Int.reduceAdd, Int.reduceSub, Int.reduceMul, Int.reduceNeg, Int.reduceToNat, Int.reduceLT, Int.reduceLE, Nat.add_left_cancel_iff, j14, B179_227, B179_261, h_fit0]
        · simp only [m_I_uI, m_A_uI, m_I_uA, m_A_uA, Nat.reduceEqDiff, if_false]; exact j14
        · simp only [m_I_uI, m_A_uI, m_I_uA, m_A_uA, Nat.reduceEqDiff, if_false]; exact j15
      | inr y =>
        rw [hz] at r5
        obtain ⟨r1, r2, r3, r4⟩ := r5
        have hy := z_os_up _ _ _ y hz (by omega)
        have hLo : m_Lo s2 T W [] := ⟨(r2.1 31 (by omega)).trans i31, by simp, fun j hj => absurd hj (by simp)⟩
        obtain ⟨s3, k2, e6, r6⟩ := g_ops (M := M) (m := m) (ad := ad) (d := d + 2) (i1 := h_ii k) (O := y.1) (first := first) hX hT (W.length + 1) y.2 (μ := s2) (l := []) (by omega) r4 (hH1.fP r2) ((r2.1 6 (by omega)).trans h61) ((r2.1 19 (by omega)).trans i19) ((r2.1 14 (by omega)).trans i14) r3 hLo
        rw [r1, e6]
        dsimp only
        cases hz2 : z_op T W t first y.1 (W.length + 1) y.2 [] with
        | inl x =>
          rw [hz2] at r6
          obtain ⟨v1, v2, v3, v4⟩ := r6
          refine ⟨m_uI s3 21 k2, ?_, ((f1.trans r2.fR).trans v1.fR).trans (m_fR.uI _ (by omega)), ?_, ?_, by omega⟩
          · rw [B179_195]
            simp (disch := first | assumption | omega | decide | (simp only [m_I_uI, m_A_uI, m_I_uA, m_A_uA] <;> first | assumption | omega) | fail) only [↓mp_0_b, ↓mp_6_b, ↓mp_13_b, ↓mp_14_b, ↓mp_15_b, ↓mp_16_b, ↓mp_17_b, ↓mp_19_b, ↓mp_20_b, ↓mp_21_b, ↓mp_25_b, ↓mp_26_b, ↓mp_27_b, ↓mp_28_b, ↓mp_31_b, ↓mp_32_b, ↓mp_35_b, ↓mp_36_b, ↓mp_37_b, ↓mp_38_b, ↓mp_39_b, ↓mp_40_b, ↓mp_41_b, ↓mp_42_b, ↓mp_43_b, ↓ml_1_b, ↓ms_1_b, ↓ml_2_b, ↓ms_2_b, ↓ml_3_b, ↓ms_3_b, ↓ml_4_b, ↓ms_4_b, ↓ml_5_b, ↓ms_5_b, ↓ml_6_b, ↓ms_6_b, ↓ml_7_b, ↓ms_7_b, ↓ml_8_b, ↓ms_8_b, ↓ml_9_b, ↓ms_9_b, ↓ml_10_b, ↓ms_10_b, ↓ml_11_b, ↓ms_11_b, ↓ml_13_b, ↓ms_13_b, ↓ml_14_b, ↓ms_14_b, ↓ml_15_b, ↓ms_15_b, ↓ml_16_b, ↓ms_16_b, ↓ml_17_b, ↓ms_17_b, ↓ml_18_b, ↓ms_18_b, ↓ml_19_b, ↓ms_19_b, ↓ml_20_b, ↓ms_20_b, ↓ml_21_b, ↓ms_21_b, ↓ml_22_b, ↓ms_22_b, m_cl, mg_0, mp_0, mr_1, mr_2, mr_3, mr_4, mr_5, mg_6, mp_6, mr_7, mr_8, mr_9, mr_10, mr_11, mr_12, mg_13, mp_13, mg_14, mp_14, mg_15, mp_15, mg_16, mp_16, mg_17, mp_17, mr_18, mg_19, mp_19, mg_20, mp_20, mg_21, mp_21, mr_22, mr_23, mr_24, mg_25, mp_25, mg_26, mp_26, mg_27, mp_27, mg_28, mp_28, mr_29, mr_30, mg_31, mp_31, mg_32, mp_32, mr_33, mr_34, mg_35, mp_35, mg_36, mp_36, mg_37, mp_37, mg_38, mp_38, mg_39, mp_39, mg_40, mp_40, mg_41, mp_41, mg_42, mp_42, mg_43, mp_43, mr_44, mr_45, mr_46, ml_1, ms_1, ml_2, ms_2, ml_3, ms_3, ml_4, ms_4, ml_5, ms_5, ml_6, ms_6, ml_7, ms_7, ml_8, ms_8, ml_9, ms_9, ml_10, ms_10, ml_11, ms_11, ml_13, ms_13, ml_14, ms_14, ml_15, ms_15, ml_16, ms_16, ml_17, ms_17, ml_18, ms_18, ml_19, ms_19, ml_20, ms_20, ml_21, ms_21, ml_22, ms_22, h_nI, Int.cast_ofNat_Int, h_b8, Int.bmod_bmod, h_add, h_sub, h_mul, h_neg, h_zero, h_and255, h_and15, h_and3, h_cltT, h_cltF, h_cgeT, h_cgeF, h_cgtT, h_cgtF, h_cleT, h_cleF, h_ceqT, h_ceqF, h_cneT, h_cneF, m_I_uI, m_A_uI, m_I_uA, m_A_uA, m_t1, ↓reduceIte, Option.bind_some, am_ret0, am_ret1, am_ret2, if_true, if_false, true_and, and_true, false_and, and_false, not_true_eq_false, not_false_eq_true, Nat.reduceEqDiff, Nat.reduceAdd, Nat.reduceSub, Nat.reduceMul, Int.reduceAdd, Int.reduceSub, Int.reduceMul, Int.reduceNeg, Int.reduceToNat, Int.reduceLT, Int.reduceLE, Nat.add_left_cancel_iff, v2, B179_227, B179_261, h_fit0]
          · simp only [m_I_uI, m_A_uI, m_I_uA, m_A_uA, Nat.reduceEqDiff, if_false]; exact v2
          · simp only [m_I_uI, m_A_uI, m_I_uA, m_A_uA, Nat.reduceEqDiff, if_false]; exact v3
        | inr x =>
          rw [hz2] at r6
          obtain ⟨v1, v2, v3, v4, v5, v6⟩ := r6
          have hx := z_op_up _ _ _ x hz2 r4 (Nat.zero_le _)
          have f3 := (f1.trans r2.fR).trans v2.fR
          have w19 : s3.I 19 = T := (v2.1 19 (by omega) (by omega) (by omega)).trans ((r2.1 19 (by omega)).trans i19)
          have w20 : s3.I 20 = k := (v2.1 20 (by omega) (by omega) (by omega)).trans ((r2.1 20 (by omega)).trans i20)
          have w15 : s3.I 15 = μ.I 15 := v4.trans ((r2.1 15 (by omega)).trans i15)
          have w8 : s3.A 8 k = x_pla W t k := (v2.2 8 k (by omega) (by omega)).trans ((r2.2 8 k (by omega)).trans a81)
          have w31 := v5.1
          have hP3 : m_Po (m_uI s3 21 x.2) T y.1 := by
            have := r3.fL v2
            obtain ⟨p1, p2, p3, p4, p5⟩ := this
            refine ⟨?_, ?_, ?_, ?_, ?_⟩ <;> simp only [m_I_uI, m_A_uI, m_I_uA, m_A_uA, Nat.reduceEqDiff, if_false]
            · exact p1
            · exact p2
            · exact p3
            · exact p4
            · exact p5
          have e7 := g_wh (M := M) (m := m) (ad := ad) (d := d + 5) (first := first) (μ := m_uI s3 21 x.2) (n := x.1.length) hT (by simp only [m_I_uI, m_A_uI, m_I_uA, m_A_uA, Nat.reduceEqDiff, if_false]; exact w19) (by simp only [m_I_uI, m_A_uI, m_I_uA, m_A_uA, Nat.reduceEqDiff, if_false]; exact w31) hx.2.2 hP3
          have hx20 := v5.2.1
          rw [v1]
          dsimp only
          by_cases q9 : z_wh T first y.1 x.1.length = true
          · rw [if_pos q9]
            rw [q9] at e7
            have : x_01 true = 1 := rfl
            rw [this] at e7
            by_cases q10 : x.1 = []
            · have l0 : x.1.length = 0 := by rw [q10]; rfl
              rw [l0] at w31
              refine ⟨m_uI (m_uA (m_uA (m_uI s3 21 x.2) 17 0 11) 16 0 k) 31 1, ?_, (((f3.trans (m_fR.uI _ (by omega))).trans (m_fR.uA _ (by omega))).trans (m_fR.uA _ (by omega))).trans (m_fR.uI _ (by omega)), ?_, ?_, ?_, ?_, ?_, ?_, ?_, hT, hkl, by dsimp only; omega, by dsimp only; omega⟩
              · rw [B179_195]
                simp (disch := first | assumption | omega | decide | (simp only [m_I_uI, m_A_uI, m_I_uA, m_A_uA] <;> first | assumption | omega) | fail) only [↓mp_0_b, ↓mp_6_b, ↓mp_13_b, ↓mp_14_b, ↓mp_15_b, ↓mp_16_b, ↓mp_17_b, ↓mp_19_b, ↓mp_20_b, ↓mp_21_b, ↓mp_25_b, ↓mp_26_b, ↓mp_27_b, ↓mp_28_b, ↓mp_31_b, ↓mp_32_b, ↓mp_35_b, ↓mp_36_b, ↓mp_37_b, ↓mp_38_b, ↓mp_39_b, ↓mp_40_b, ↓mp_41_b, ↓mp_42_b, ↓mp_43_b, ↓ml_1_b, ↓ms_1_b, ↓ml_2_b, ↓ms_2_b, ↓ml_3_b, ↓ms_3_b, ↓ml_4_b, ↓ms_4_b, ↓ml_5_b, ↓ms_5_b, ↓ml_6_b, ↓ms_6_b, ↓ml_7_b, ↓ms_7_b, ↓ml_8_b, ↓ms_8_b, ↓ml_9_b, ↓ms_9_b, ↓ml_10_b, ↓ms_10_b, ↓ml_11_b, ↓ms_11_b, ↓ml_13_b, ↓ms_13_b, ↓ml_14_b, ↓ms_14_b, ↓ml_15_b, ↓ms_15_b, ↓ml_16_b, ↓ms_16_b, ↓ml_17_b, ↓ms_17_b, ↓ml_18_b, ↓ms_18_b, ↓ml_19_b, ↓ms_19_b, ↓ml_20_b, ↓ms_20_b, ↓ml_21_b, ↓ms_21_b, ↓ml_22_b, ↓ms_22_b, m_cl, mg_0, mp_0, mr_1, mr_2, mr_3, mr_4, mr_5, mg_6, mp_6, mr_7, mr_8, mr_9, mr_10, mr_11, mr_12, mg_13, mp_13, mg_14, mp_14, mg_15, mp_15, mg_16, mp_16, mg_17, mp_17, mr_18, mg_19, mp_19, mg_20, mp_20, mg_21, mp_21, mr_22, mr_23, mr_24, mg_25, mp_25, mg_26, mp_26, mg_27, mp_27, mg_28, mp_28, mr_29, mr_30, mg_31, mp_31, mg_32, mp_32, mr_33, mr_34, mg_35, mp_35, mg_36, mp_36, mg_37, mp_37, mg_38, mp_38, mg_39, mp_39, mg_40, mp_40, mg_41, mp_41, mg_42, mp_42, mg_43, mp_43, mr_44, mr_45, mr_46, ml_1, ms_1, ml_2, ms_2, ml_3, ms_3, ml_4, ms_4, ml_5, ms_5, ml_6, ms_6, ml_7, ms_7, ml_8, ms_8, ml_9, ms_9, ml_10, ms_10, ml_11, ms_11, ml_13, ms_13, ml_14, ms_14, ml_15, ms_15, ml_16, ms_16, ml_17, ms_17, ml_18, ms_18, ml_19, ms_19, ml_20, ms_20, ml_21, ms_21, ml_22, ms_22, h_nI, Int.cast_ofNat_Int, h_b8, Int.bmod_bmod, h_add, h_sub, h_mul, h_neg, h_zero, h_and255, h_and15, h_and3, h_cltT, h_cltF, h_cgeT, h_cgeF, h_cgtT, h_cgtF, h_cleT, h_cleF, h_ceqT, h_ceqF, h_cneT, h_cneF, m_I_uI, m_A_uI, m_I_uA, m_A_uA, m_t1, ↓reduceIte, Option.bind_some, am_ret0, am_ret1, am_ret2, if_true, if_false, true_and, and_true, false_and, and_false, not_true_eq_false, not_false_eq_true, Nat.reduceEqDiff, Nat.reduceAdd, Nat.reduceSub, Nat.reduceMul, Int.reduceAdd, Int.reduceSub, Int.reduceMul, Int.reduceNeg, Int.reduceToNat, Int.reduceLT, Int.reduceLE, Nat.add_left_cancel_iff, v3, e7, B179_227, w31, B179_261, h_fit0, Int.toNat_zero]
              · simp only [m_I_uI, m_A_uI, m_I_uA, m_A_uA, Nat.reduceEqDiff, if_false]; exact v3
              · simp only [m_I_uI, m_A_uI, m_I_uA, m_A_uA, Nat.reduceEqDiff, if_false]; exact w15
              · simp only [m_I_uI, m_A_uI, m_I_uA, m_A_uA, Nat.reduceEqDiff, if_false]; exact w19
              · simp only [m_I_uI, m_A_uI, m_I_uA, m_A_uA, Nat.reduceEqDiff, if_false]; exact w20
              · simp only [m_I_uI, m_A_uI, m_I_uA, m_A_uA, Nat.reduceEqDiff, if_true, if_false]
              · obtain ⟨p1, p2, p3, p4, p5⟩ := hP3
                simp only [m_I_uI, m_A_uI, m_I_uA, m_A_uA, Nat.reduceEqDiff, if_false] at p1 p2 p3 p4 p5
                refine ⟨?_, ?_, ?_, ?_, ?_⟩ <;> simp only [m_I_uI, m_A_uI, m_I_uA, m_A_uA, Nat.reduceEqDiff, false_and, if_false]
                · exact p1
                · exact p2
                · exact p3
                · exact p4
                · exact p5
              · unfold z_l1
                rw [if_pos q10]
                refine ⟨by simp only [m_I_uI, m_A_uI, m_I_uA, m_A_uA, if_true]; rfl, by simp, fun j hj => ?_⟩
                have : j = 0 := by simp at hj; omega
                subst this
                simp only [m_I_uI, m_A_uI, m_I_uA, m_A_uA, Nat.reduceEqDiff, true_and, false_and, if_true, if_false]
                exact ⟨rfl, hkl, fun _ => ⟨rfl, (show (0 : Int) ≤ 10 by decide), (show (10 : Int) ≤ 10 by decide)⟩⟩
            · have l0 : 0 < x.1.length := List.length_pos_iff.2 q10
              refine ⟨m_uI s3 21 x.2, ?_, f3.trans (m_fR.uI _ (by omega)), ?_, ?_, ?_, ?_, ?_, hP3, ?_, hT, hkl, by dsimp only; omega, by dsimp only; omega⟩
              · rw [B179_195]
                simp (disch := first | assumption | omega | decide | (simp only [m_I_uI, m_A_uI, m_I_uA, m_A_uA] <;> first | assumption | omega) | fail) only [↓mp_0_b, ↓mp_6_b, ↓mp_13_b, ↓mp_14_b, ↓mp_15_b, ↓mp_16_b, ↓mp_17_b, ↓mp_19_b, ↓mp_20_b, ↓mp_21_b, ↓mp_25_b, ↓mp_26_b, ↓mp_27_b, ↓mp_28_b, ↓mp_31_b, ↓mp_32_b, ↓mp_35_b, ↓mp_36_b, ↓mp_37_b, ↓mp_38_b, ↓mp_39_b, ↓mp_40_b, ↓mp_41_b, ↓mp_42_b, ↓mp_43_b, ↓ml_1_b, ↓ms_1_b, ↓ml_2_b, ↓ms_2_b, ↓ml_3_b, ↓ms_3_b, ↓ml_4_b, ↓ms_4_b, ↓ml_5_b, ↓ms_5_b, ↓ml_6_b, ↓ms_6_b, ↓ml_7_b, ↓ms_7_b, ↓ml_8_b, ↓ms_8_b, ↓ml_9_b, ↓ms_9_b, ↓ml_10_b, ↓ms_10_b, ↓ml_11_b, ↓ms_11_b, ↓ml_13_b, ↓ms_13_b, ↓ml_14_b, ↓ms_14_b, ↓ml_15_b, ↓ms_15_b, ↓ml_16_b, ↓ms_16_b, ↓ml_17_b, ↓ms_17_b, ↓ml_18_b, ↓ms_18_b, ↓ml_19_b, ↓ms_19_b, ↓ml_20_b, ↓ms_20_b, ↓ml_21_b, ↓ms_21_b, ↓ml_22_b, ↓ms_22_b, m_cl, mg_0, mp_0, mr_1, mr_2, mr_3, mr_4, mr_5, mg_6, mp_6, mr_7, mr_8, mr_9, mr_10, mr_11, mr_12, mg_13, mp_13, mg_14, mp_14, mg_15, mp_15, mg_16, mp_16, mg_17, mp_17, mr_18, mg_19, mp_19, mg_20, mp_20, mg_21, mp_21, mr_22, mr_23, mr_24, mg_25, mp_25, mg_26, mp_26, mg_27, mp_27, mg_28, mp_28, mr_29, mr_30, mg_31, mp_31, mg_32, mp_32, mr_33, mr_34, mg_35, mp_35, mg_36, mp_36, mg_37, mp_37, mg_38, mp_38, mg_39, mp_39, mg_40, mp_40, mg_41, mp_41, mg_42, mp_42, mg_43, mp_43, mr_44, mr_45, mr_46, ml_1, ms_1, ml_2, ms_2, ml_3, ms_3, ml_4, ms_4, ml_5, ms_5, ml_6, ms_6, ml_7, ms_7, ml_8, ms_8, ml_9, ms_9, ml_10, ms_10, ml_11, ms_11, ml_13, ms_13, ml_14, ms_14, ml_15, ms_15, ml_16, ms_16, ml_17, ms_17, ml_18, ms_18, ml_19, ms_19, ml_20, ms_20, ml_21, ms_21, ml_22, ms_22, h_nI, Int.cast_ofNat_Int, h_b8, Int.bmod_bmod, h_add, h_sub, h_mul, h_neg, h_zero, h_and255, h_and15, h_and3, h_cltT, h_cltF, h_cgeT, h_cgeF, h_cgtT, h_cgtF, h_cleT, h_cleF, h_ceqT, h_ceqF, h_cneT, h_cneF, m_I_uI, m_A_uI, m_I_uA, m_A_uA, m_t1, ↓reduceIte, Option.bind_some, am_ret0, am_ret1, am_ret2, if_true, if_false, true_and, and_true, false_and, and_false, not_true_eq_false, not_false_eq_true, Nat.reduceEqDiff, Nat.reduceAdd, Nat.reduceSub, Nat.reduceMul, Int.reduceAdd, Int.reduceSub, Int.reduceMul, Int.reduceNeg, Int.reduceToNat, Int.reduceLT, Int.reduceLE, Nat.add_left_cancel_iff, v3, e7, B179_227, w31, B179_261, h_fit0]
              · simp only [m_I_uI, m_A_uI, m_I_uA, m_A_uA, Nat.reduceEqDiff, if_false]; exact v3
              · simp only [m_I_uI, m_A_uI, m_I_uA, m_A_uA, Nat.reduceEqDiff, if_false]; exact w15
              · simp only [m_I_uI, m_A_uI, m_I_uA, m_A_uA, Nat.reduceEqDiff, if_false]; exact w19
              · simp only [m_I_uI, m_A_uI, m_I_uA, m_A_uA, Nat.reduceEqDiff, if_false]; exact w20
              · simp only [m_I_uI, m_A_uI, m_I_uA, m_A_uA, if_true]
              · unfold z_l1
                rw [if_neg q10]
                obtain ⟨u1, u2, u3⟩ := v5
                refine ⟨by simp only [m_I_uI, m_A_uI, m_I_uA, m_A_uA, Nat.reduceEqDiff, if_false]; exact u1, u2, fun j hj => ?_⟩
                simp only [m_I_uI, m_A_uI, m_I_uA, m_A_uA]
                exact u3 j hj
          · rw [if_neg q9]
            rw [Bool.eq_false_iff.2 q9] at e7
            have : x_01 false = 0 := rfl
            rw [this] at e7
            have e8 := g_flaw (M := M) (m := m) (ad := ad) (d := d + 5) (f := 6) (p := x_pla W t k) (μ := m_uI s3 21 x.2) (by simp only [m_I_uI, m_A_uI, m_I_uA, m_A_uA, Nat.reduceEqDiff, if_false]; exact v3)
            refine ⟨m_uI (m_uI (m_uI s3 21 x.2) 14 6) 15 (x_pla W t k), ?_, ((f3.trans (m_fR.uI _ (by omega))).trans (m_fR.uI _ (by omega))).trans (m_fR.uI _ (by omega)), ?_, ?_, (show 2 ≤ 6 ∧ 6 ≤ 6 by decide)⟩
            · rw [B179_195]
              simp (disch := first | assumption | omega | decide | (simp only [m_I_uI, m_A_uI, m_I_uA, m_A_uA] <;> first | assumption | omega) | fail) only [↓mp_0_b, ↓mp_6_b, ↓mp_13_b, ↓mp_14_b, ↓mp_15_b, ↓mp_16_b, ↓mp_17_b, ↓mp_19_b, ↓mp_20_b, ↓mp_21_b, ↓mp_25_b, ↓mp_26_b, ↓mp_27_b, ↓mp_28_b, ↓mp_31_b, ↓mp_32_b, ↓mp_35_b, ↓mp_36_b, ↓mp_37_b, ↓mp_38_b, ↓mp_39_b, ↓mp_40_b, ↓mp_41_b, ↓mp_42_b, ↓mp_43_b, ↓ml_1_b, ↓ms_1_b, ↓ml_2_b, ↓ms_2_b, ↓ml_3_b, ↓ms_3_b, ↓ml_4_b, ↓ms_4_b, ↓ml_5_b, ↓ms_5_b, ↓ml_6_b, ↓ms_6_b, ↓ml_7_b, ↓ms_7_b, ↓ml_8_b, ↓ms_8_b, ↓ml_9_b, ↓ms_9_b, ↓ml_10_b, ↓ms_10_b, ↓ml_11_b, ↓ms_11_b, ↓ml_13_b, ↓ms_13_b, ↓ml_14_b, ↓ms_14_b, ↓ml_15_b, ↓ms_15_b, ↓ml_16_b, ↓ms_16_b, ↓ml_17_b, ↓ms_17_b, ↓ml_18_b, ↓ms_18_b, ↓ml_19_b, ↓ms_19_b, ↓ml_20_b, ↓ms_20_b, ↓ml_21_b, ↓ms_21_b, ↓ml_22_b, ↓ms_22_b, m_cl, mg_0, mp_0, mr_1, mr_2, mr_3, mr_4, mr_5, mg_6, mp_6, mr_7, mr_8, mr_9, mr_10, mr_11, mr_12, mg_13, mp_13, mg_14, mp_14, mg_15, mp_15, mg_16, mp_16, mg_17, mp_17, mr_18, mg_19, mp_19, mg_20, mp_20, mg_21, mp_21, mr_22, mr_23, mr_24, mg_25, mp_25, mg_26, mp_26, mg_27, mp_27, mg_28, mp_28, mr_29, mr_30, mg_31, mp_31, mg_32, mp_32, mr_33, mr_34, mg_35, mp_35, mg_36, mp_36, mg_37, mp_37, mg_38, mp_38, mg_39, mp_39, mg_40, mp_40, mg_41, mp_41, mg_42, mp_42, mg_43, mp_43, mr_44, mr_45, mr_46, ml_1, ms_1, ml_2, ms_2, ml_3, ms_3, ml_4, ms_4, ml_5, ms_5, ml_6, ms_6, ml_7, ms_7, ml_8, ms_8, ml_9, ms_9, ml_10, ms_10, ml_11, ms_11, ml_13, ms_13, ml_14, ms_14, ml_15, ms_15, ml_16, ms_16, ml_17, ms_17, ml_18, ms_18, ml_19, ms_19, ml_20, ms_20, ml_21, ms_21, ml_22, ms_22, h_nI, Int.cast_ofNat_Int, h_b8, Int.bmod_bmod, h_add, h_sub, h_mul, h_neg, h_zero, h_and255, h_and15, h_and3, h_cltT, h_cltF, h_cgeT, h_cgeF, h_cgtT, h_cgtF, h_cleT, h_cleF, h_ceqT, h_ceqF, h_cneT, h_cneF, m_I_uI, m_A_uI, m_I_uA, m_A_uA, m_t1, ↓reduceIte, Option.bind_some, am_ret0, am_ret1, am_ret2, if_true, if_false, true_and, and_true, false_and, and_false, not_true_eq_false, not_false_eq_true, Nat.reduceEqDiff, Nat.reduceAdd, Nat.reduceSub, Nat.reduceMul, Int.reduceAdd, Int.reduceSub, Int.reduceMul, Int.reduceNeg, Int.reduceToNat, Int.reduceLT, Int.reduceLE, Nat.add_left_cancel_iff, v3, e7, Int.toNat_natCast, w8, e8, B179_227, B179_261, h_fit0]
            · simp only [m_I_uI, m_A_uI, m_I_uA, m_A_uA, Nat.reduceEqDiff, if_true, if_false]; rfl
            · simp only [m_I_uI, m_A_uI, m_I_uA, m_A_uA, if_true]
  · have e3 := g_pla (M := M) (m := m) (ad := ad) (d := d + 5) (k := k) hH hX h6 (by omega)
    have e4 := g_flaw (M := M) (m := m) (ad := ad) (d := d + 5) (f := 2) (p := x_pla W t k) h14
    rw [Bool.eq_false_iff.2 q] at e1
    rw [if_pos (Bool.eq_false_iff.2 q)]
    have : x_01 false = 0 := rfl
    rw [this] at e1
    refine ⟨m_uI (m_uI μ 14 2) 15 (x_pla W t k), ?_, (m_fR.uI μ (by omega)).trans (m_fR.uI _ (by omega)), ?_, ?_, (show 2 ≤ 2 ∧ 2 ≤ 6 by decide)⟩
    · rw [B179_0]
      simp (disch := first | assumption | omega | decide | (simp only [m_I_uI, m_A_uI, m_I_uA, m_A_uA] <;> first | assumption | omega) | fail) only [↓mp_0_b, ↓mp_6_b, ↓mp_13_b, ↓mp_14_b, ↓mp_15_b, ↓mp_16_b, ↓mp_17_b, ↓mp_19_b, ↓mp_20_b, ↓mp_21_b, ↓mp_25_b, ↓mp_26_b, ↓mp_27_b, ↓mp_28_b, ↓mp_31_b, ↓mp_32_b, ↓mp_35_b, ↓mp_36_b, ↓mp_37_b, ↓mp_38_b, ↓mp_39_b, ↓mp_40_b, ↓mp_41_b, ↓mp_42_b, ↓mp_43_b, ↓ml_1_b, ↓ms_1_b, ↓ml_2_b, ↓ms_2_b, ↓ml_3_b, ↓ms_3_b, ↓ml_4_b, ↓ms_4_b, ↓ml_5_b, ↓ms_5_b, ↓ml_6_b, ↓ms_6_b, ↓ml_7_b, ↓ms_7_b, ↓ml_8_b, ↓ms_8_b, ↓ml_9_b, ↓ms_9_b, ↓ml_10_b, ↓ms_10_b, ↓ml_11_b, ↓ms_11_b, ↓ml_13_b, ↓ms_13_b, ↓ml_14_b, ↓ms_14_b, ↓ml_15_b, ↓ms_15_b, ↓ml_16_b, ↓ms_16_b, ↓ml_17_b, ↓ms_17_b, ↓ml_18_b, ↓ms_18_b, ↓ml_19_b, ↓ms_19_b, ↓ml_20_b, ↓ms_20_b, ↓ml_21_b, ↓ms_21_b, ↓ml_22_b, ↓ms_22_b, m_cl, mg_0, mp_0, mr_1, mr_2, mr_3, mr_4, mr_5, mg_6, mp_6, mr_7, mr_8, mr_9, mr_10, mr_11, mr_12, mg_13, mp_13, mg_14, mp_14, mg_15, mp_15, mg_16, mp_16, mg_17, mp_17, mr_18, mg_19, mp_19, mg_20, mp_20, mg_21, mp_21, mr_22, mr_23, mr_24, mg_25, mp_25, mg_26, mp_26, mg_27, mp_27, mg_28, mp_28, mr_29, mr_30, mg_31, mp_31, mg_32, mp_32, mr_33, mr_34, mg_35, mp_35, mg_36, mp_36, mg_37, mp_37, mg_38, mp_38, mg_39, mp_39, mg_40, mp_40, mg_41, mp_41, mg_42, mp_42, mg_43, mp_43, mr_44, mr_45, mr_46, ml_1, ms_1, ml_2, ms_2, ml_3, ms_3, ml_4, ms_4, ml_5, ms_5, ml_6, ms_6, ml_7, ms_7, ml_8, ms_8, ml_9, ms_9, ml_10, ms_10, ml_11, ms_11, ml_13, ms_13, ml_14, ms_14, ml_15, ms_15, ml_16, ms_16, ml_17, ms_17, ml_18, ms_18, ml_19, ms_19, ml_20, ms_20, ml_21, ms_21, ml_22, ms_22, h_nI, Int.cast_ofNat_Int, h_b8, Int.bmod_bmod, h_add, h_sub, h_mul, h_neg, h_zero, h_and255, h_and15, h_and3, h_cltT, h_cltF, h_cgeT, h_cgeF, h_cgtT, h_cgtF, h_cleT, h_cleF, h_ceqT, h_ceqF, h_cneT, h_cneF, m_I_uI, m_A_uI, m_I_uA, m_A_uA, m_t1, ↓reduceIte, Option.bind_some, am_ret0, am_ret1, am_ret2, if_true, if_false, true_and, and_true, false_and, and_false, not_true_eq_false, not_false_eq_true, Nat.reduceEqDiff, Nat.reduceAdd, Nat.reduceSub, Nat.reduceMul, Int.reduceAdd, Int.reduceSub, Int.reduceMul, Int.reduceNeg, Int.reduceToNat, Int.reduceLT, Int.reduceLE, Nat.add_left_cancel_iff, e1, e3, e4]
    · simp only [m_I_uI, m_A_uI, m_I_uA, m_A_uA, Nat.reduceEqDiff, if_true, if_false]; rfl
    · simp only [m_I_uI, m_A_uI, m_I_uA, m_A_uA, if_true]
end MTN
