/-! PASTE: what stands between -/
/-- what is put at a gap; -1 nothing -/
def z_pb (O : z_O) (bs : List Int) (k : Nat) : Int := match O.1 100 with
  | none => 9
  | some z => match x_sep bs z.2 (z.2 + 1) z.1 with
    | none => 9
    | some l => l.getD (k % l.length) 0
theorem x_sep_bd {bs : List Int} {e : Nat} (hU : x_okl bs) : ∀ (n s : Nat) (l : List Int), x_sep bs e n s = some l → ∀ v ∈ l, -1 ≤ v ∧ v < 256
  | 0, s, l, h => by
    unfold x_sep at h
    cases h
  | n + 1, s, l, h => by
    unfold x_sep at h
    split at h
    · cases h
      intro v hv
      cases hv
    · split at h
      · split at h
        next q =>
          cases hr : x_sep bs e n (s + 2) with
          | none => rw [hr] at h; cases h
          | some r =>
            rw [hr] at h
            cases h
            intro v hv
            rcases List.mem_cons.1 hv with w | w
            · have := x_bk_bd (c := bs.getD (s + 1) 0)
              rw [w]
              have hq := q.2
              omega
            · exact x_sep_bd hU n (s + 2) r hr v w
        · cases h
      · cases hr : x_sep bs e n (s + 1) with
        | none => rw [hr] at h; cases h
        | some r =>
          rw [hr] at h
          cases h
          intro v hv
          rcases List.mem_cons.1 hv with w | w
          · have := z_vi (i := s) hU
            rw [w]
            omega
          · exact x_sep_bd hU n (s + 1) r hr v w
section PB
variable {b : Nat} {R : Nat → Option va_E} {σ : c_S b} {ad : Nat → Nat} {d : Nat} {O : z_O} {bs : List Int} {M : am_M} {m : Nat} {μ : m_S}
/-- what is told between fields -/
theorem z_I.sep {z : Nat × Nat} (hI : z_I 7 bs O) (h : O.1 100 = some z) : z.1 < z.2 ∧ z.2 ≤ bs.length ∧ ∃ l, x_sep bs z.2 (z.2 + 1) z.1 = some l ∧ 0 < l.length := by
  obtain ⟨i1, i2, i3⟩ := hI 100 z.1 z.2 h
  obtain ⟨i4, i5, i6⟩ := i3 (by decide)
  have hw : x_want 7 ((100 : Nat) : Int) = 66 := by decide
  unfold z_ok at i6
  rw [if_neg (by omega), if_neg (by omega), if_neg (by omega), if_neg (by omega), if_pos hw] at i6
  unfold x_sps at i6
  rw [Bool.and_eq_true] at i6
  obtain ⟨l, hl⟩ := Option.isSome_iff_exists.1 i6.2
  exact ⟨of_decide_eq_true i6.1, i5, l, hl, x_sep_pos hl (of_decide_eq_true i6.1)⟩
theorem x_mod_lt {k n : Nat} (h : 0 < n) : ((k : Int) % (n : Int)) = ((k % n : Nat) : Int) ∧ k % n < n := ⟨by omega, Nat.mod_lt _ h⟩
theorem h_ne0 {v : Int} (h1 : 0 < v) (h2 : v < 2147483648) : ¬ (h_ii v = h_ii 0) := by
  intro w
  have := congrArg Int32.toInt w
  rw [h_toInt (by omega) (by omega), h_toInt (by omega) (by omega)] at this
  omega
/-- separator -/
theorem k_sepr {k : Nat} (hP : c_P σ 7 bs O) (hI : z_I 7 bs O) (hk : k < 300) (hbl : bs.length ≤ 9000) (hlen : ∀ z l, O.1 100 = some z → x_sep bs z.2 (z.2 + 1) z.1 = some l → l.length ≤ 9000) : am_gg (am_pr ad) (d + 1) 132 0 [some (.ref (b + 8)), some (.int (h_ii k)), none] [] (c_t R σ) = some (.inl (some (.int (h_ii (z_pb O bs k)))), c_t R σ) := by
  have e1 := hP.has (R := R) (ad := ad) (d := d) (c := 100) (v := 100) (by omega) rfl
  unfold z_pb
  cases q : O.1 100 with
  | none =>
    rw [q] at e1
    have h0 : x_01 (none : Option (Nat × Nat)).isSome = 0 := rfl
    rw [h0] at e1
    rw [B132_0]
    simp (disch := first | assumption | omega | exact c_S.hL _ _ | decide | (simp only [c_nx_uI, c_sl_uI, c_ro_uI, c_da_uI, c_dn_uI, c_ba_uI, c_bn_uI, c_ta_uI, c_tn_uI, c_A_uI, c_B_uI, c_T_uI, c_I_uI, c_L_uI, c_P_uI, c_old_uI, c_nx_uA, c_sl_uA, c_ro_uA, c_da_uA, c_dn_uA, c_ba_uA, c_bn_uA, c_ta_uA, c_tn_uA, c_A_uA, c_B_uA, c_T_uA, c_I_uA, c_L_uA, c_P_uA, c_old_uA, c_nx_uB, c_sl_uB, c_ro_uB, c_da_uB, c_dn_uB, c_ba_uB, c_bn_uB, c_ta_uB, c_tn_uB, c_A_uB, c_B_uB, c_T_uB, c_I_uB, c_L_uB, c_P_uB, c_old_uB, c_nx_uT, c_sl_uT, c_ro_uT, c_da_uT, c_dn_uT, c_ba_uT, c_bn_uT, c_ta_uT, c_tn_uT, c_A_uT, c_B_uT, c_T_uT, c_I_uT, c_L_uT, c_P_uT, c_old_uT, c_nx_uP, c_sl_uP, c_ro_uP, c_da_uP, c_dn_uP, c_ba_uP, c_bn_uP, c_ta_uP, c_tn_uP, c_A_uP, c_B_uP, c_T_uP, c_I_uP, c_L_uP, c_P_uP, c_old_uP, c_nx_uL, c_sl_uL, c_ro_uL, c_da_uL, c_dn_uL, c_ba_uL, c_bn_uL, c_ta_uL, c_tn_uL, c_A_uL, c_B_uL, c_T_uL, c_I_uL, c_P_uL, c_old_uL, c_nx_cB, c_sl_cB, c_ro_cB, c_da_cB, c_dn_cB, c_ba_cB, c_bn_cB, c_ta_cB, c_tn_cB, c_A_cB, c_B_cB, c_T_cB, c_I_cB, c_L_cB, c_P_cB, c_old_cB, c_L_uL, c_nx_xB, c_sl_xB, c_I_xB, c_L_xB, c_P_xB, c_da_xB, c_dn_xB, c_A_xB, c_ba_xB, c_bn_xB, c_B_xB, c_ta_xB, c_tn_xB, c_T_xB, c_nx_xT, c_sl_xT, c_I_xT, c_L_xT, c_P_xT, c_da_xT, c_dn_xT, c_A_xT, c_ba_xT, c_bn_xT, c_B_xT, c_ta_xT, c_tn_xT, c_T_xT, c_nx_xD, c_sl_xD, c_I_xD, c_L_xD, c_P_xD, c_da_xD, c_dn_xD, c_A_xD, c_ba_xD, c_bn_xD, c_B_xD, c_ta_xD, c_tn_xD, c_T_xD] <;> first | assumption | omega | exact c_S.hL _ _) | fail) only [↓c_lB_b, ↓c_sB_b, ↓c_nB_b, ↓c_lT_b, ↓c_sT_b, ↓c_nT_b, ↓c_lD_b, ↓c_sD_b, ↓c_nD_b, ↓c_lS_b, ↓c_sS_b, ↓al2_b, ↓al21_b, ↓as2_b, ↓as21_b, ↓r0_0_b, ↓g0_1_b, ↓p0_1_b, ↓r0_2_b, ↓r0_3_b, ↓r0_4_b, ↓r0_5_b, ↓r0_6_b, ↓r0_7_b, ↓r4_0_b, ↓r4_1_b, ↓r4_2_b, ↓r4_3_b, ↓g4_4_b, ↓p4_4_b, ↓g4_5_b, ↓p4_5_b, ↓r4_6_b, ↓r4_7_b, ↓g4_8_b, ↓p4_8_b, ↓r4_9_b, ↓r4_10_b, ↓g4_11_b, ↓p4_11_b, ↓r4_12_b, ↓r4_13_b, ↓r4_14_b, ↓g4_15_b, ↓p4_15_b, ↓g4_16_b, ↓p4_16_b, ↓g4_17_b, ↓p4_17_b, ↓g4_18_b, ↓p4_18_b, ↓r5_0_b, ↓g5_1_b, ↓p5_1_b, ↓g5_2_b, ↓p5_2_b, ↓r5_3_b, ↓g5_4_b, ↓p5_4_b, ↓g5_5_b, ↓p5_5_b, ↓g5_6_b, ↓p5_6_b, ↓g5_7_b, ↓p5_7_b, ↓g5_8_b, ↓p5_8_b, ↓g5_9_b, ↓p5_9_b, ↓r8_0_b, ↓r8_1_b, ↓r8_2_b, ↓r8_3_b, ↓g8_4_b, ↓p8_4_b, ↓r8_5_b, ↓g8_6_b, ↓p8_6_b, ↓g8_7_b, ↓p8_7_b, ↓g8_8_b, ↓p8_8_b, ↓g8_9_b, ↓p8_9_b, ↓g8_10_b, ↓p8_10_b, ↓r8_11_b, ↓r15_0_b, ↓g15_1_b, ↓p15_1_b, ↓g15_2_b, ↓p15_2_b, ↓g15_3_b, ↓p15_3_b, ↓g15_4_b, ↓p15_4_b, ↓g15_5_b, ↓p15_5_b, ↓r28_0_b, ↓r28_1_b, ↓r28_2_b, ↓r28_3_b, ↓r28_4_b, ↓r28_5_b, ↓r28_6_b, ↓r28_7_b, ↓g28_8_b, ↓p28_8_b, ↓r37_0_b, ↓r37_1_b, ↓r44_0_b, ↓r44_1_b, ↓r44_2_b, ↓lr_0_b, ↓lr_1_b, ↓lg_2_b, ↓lp_2_b, ↓lg_3_b, ↓lp_3_b, ↓lg_4_b, ↓lp_4_b, ↓lg_5_b, ↓lp_5_b, ↓q4_3_b, ↓q4_13_b, ↓q4_14_b, ↓q5_0_b, ↓q15_0_b, ↓q28_6_b, ↓q28_7_b, ↓a3_b, ↓w3_b, ↓n3_b, ↓a9_b, ↓w9_b, ↓n9_b, ↓a10_b, ↓w10_b, ↓n10_b, ↓a11_b, ↓w11_b, ↓n11_b, ↓a12_b, ↓w12_b, ↓n12_b, ↓a13_b, ↓w13_b, ↓n13_b, ↓a14_b, ↓w14_b, ↓n14_b, ↓a17_b, ↓w17_b, ↓n17_b, ↓a18_b, ↓w18_b, ↓n18_b, ↓a19_b, ↓w19_b, ↓n19_b, ↓a20_b, ↓w20_b, ↓n20_b, ↓a39_b, ↓w39_b, ↓n39_b, ↓a40_b, ↓w40_b, ↓n40_b, ↓a42_b, ↓w42_b, ↓n42_b, ↓a43_b, ↓w43_b, ↓n43_b, ↓a45_b, ↓w45_b, ↓n45_b, ↓a46_b, ↓w46_b, ↓n46_b, ↓a47_b, ↓w47_b, ↓n47_b, ↓n2_b, ↓n21_b, ↓n38_b, ↓n41_b, r0_0, g0_1, p0_1, r0_2, r0_3, r0_4, r0_5, r0_6, r0_7, r4_0, r4_1, r4_2, r4_3, g4_4, p4_4, g4_5, p4_5, r4_6, r4_7, g4_8, p4_8, r4_9, r4_10, g4_11, p4_11, r4_12, r4_13, r4_14, g4_15, p4_15, g4_16, p4_16, g4_17, p4_17, g4_18, p4_18, r5_0, g5_1, p5_1, g5_2, p5_2, r5_3, g5_4, p5_4, g5_5, p5_5, g5_6, p5_6, g5_7, p5_7, g5_8, p5_8, g5_9, p5_9, r8_0, r8_1, r8_2, r8_3, g8_4, p8_4, r8_5, g8_6, p8_6, g8_7, p8_7, g8_8, p8_8, g8_9, p8_9, g8_10, p8_10, r8_11, r15_0, g15_1, p15_1, g15_2, p15_2, g15_3, p15_3, g15_4, p15_4, g15_5, p15_5, r28_0, r28_1, r28_2, r28_3, r28_4, r28_5, r28_6, r28_7, g28_8, p28_8, r37_0, r37_1, r44_0, r44_1, r44_2, lr_0, lr_1, lg_2, lp_2, lg_3, lp_3, lg_4, lp_4, lg_5, lp_5, cl_0, cl_4, cl_5, cl_8, cl_15, cl_28, cl_37, cl_44, cl_p, q4_3, q4_13, q4_14, q5_0, q15_0, q28_6, q28_7, a3, w3, n3, a9, w9, n9, a10, w10, n10, a11, w11, n11, a12, w12, n12, a13, w13, n13, a14, w14, n14, a17, w17, n17, a18, w18, n18, a19, w19, n19, a20, w20, n20, a39, w39, n39, a40, w40, n40, a42, w42, n42, a43, w43, n43, a45, w45, n45, a46, w46, n46, a47, w47, n47, n2, n21, n38, n41, al2, al21, al38a, al38b, al41a, al41b, as2, as21, c_lB, c_sB, c_nB, c_lT, c_sT, c_nT, c_lD, c_sD, c_nD, c_lS, c_sS, c_cpB, h_nI, Int.cast_ofNat_Int, h_b8, Int.bmod_bmod, h_add, h_sub, h_mul, h_neg, h_zero, h_and255, h_and15, h_and3, h_cltT, h_cltF, h_cgeT, h_cgeF, h_cgtT, h_cgtF, h_cleT, h_cleF, h_ceqT, h_ceqF, h_cneT, h_cneF, c_nx_uI, c_sl_uI, c_ro_uI, c_da_uI, c_dn_uI, c_ba_uI, c_bn_uI, c_ta_uI, c_tn_uI, c_A_uI, c_B_uI, c_T_uI, c_I_uI, c_L_uI, c_P_uI, c_old_uI, c_nx_uA, c_sl_uA, c_ro_uA, c_da_uA, c_dn_uA, c_ba_uA, c_bn_uA, c_ta_uA, c_tn_uA, c_A_uA, c_B_uA, c_T_uA, c_I_uA, c_L_uA, c_P_uA, c_old_uA, c_nx_uB, c_sl_uB, c_ro_uB, c_da_uB, c_dn_uB, c_ba_uB, c_bn_uB, c_ta_uB, c_tn_uB, c_A_uB, c_B_uB, c_T_uB, c_I_uB, c_L_uB, c_P_uB, c_old_uB, c_nx_uT, c_sl_uT, c_ro_uT, c_da_uT, c_dn_uT, c_ba_uT, c_bn_uT, c_ta_uT, c_tn_uT, c_A_uT, c_B_uT, c_T_uT, c_I_uT, c_L_uT, c_P_uT, c_old_uT, c_nx_uP, c_sl_uP, c_ro_uP, c_da_uP, c_dn_uP, c_ba_uP, c_bn_uP, c_ta_uP, c_tn_uP, c_A_uP, c_B_uP, c_T_uP, c_I_uP, c_L_uP, c_P_uP, c_old_uP, c_nx_uL, c_sl_uL, c_ro_uL, c_da_uL, c_dn_uL, c_ba_uL, c_bn_uL, c_ta_uL, c_tn_uL, c_A_uL, c_B_uL, c_T_uL, c_I_uL, c_P_uL, c_old_uL, c_nx_cB, c_sl_cB, c_ro_cB, c_da_cB, c_dn_cB, c_ba_cB, c_bn_cB, c_ta_cB, c_tn_cB, c_A_cB, c_B_cB, c_T_cB, c_I_cB, c_L_cB, c_P_cB, c_old_cB, c_L_uL, c_nx_xB, c_sl_xB, c_I_xB, c_L_xB, c_P_xB, c_da_xB, c_dn_xB, c_A_xB, c_ba_xB, c_bn_xB, c_B_xB, c_ta_xB, c_tn_xB, c_T_xB, c_nx_xT, c_sl_xT, c_I_xT, c_L_xT, c_P_xT, c_da_xT, c_dn_xT, c_A_xT, c_ba_xT, c_bn_xT, c_B_xT, c_ta_xT, c_tn_xT, c_T_xT, c_nx_xD, c_sl_xD, c_I_xD, c_L_xD, c_P_xD, c_da_xD, c_dn_xD, c_A_xD, c_ba_xD, c_bn_xD, c_B_xD, c_ta_xD, c_tn_xD, c_T_xD, c_t1, ↓reduceIte, Option.bind_some, am_ret0, am_ret1, am_ret2, if_true, if_false, true_and, and_true, false_and, and_false, not_true_eq_false, not_false_eq_true, Nat.reduceEqDiff, Nat.reduceAdd, Nat.reduceSub, Nat.reduceMul, Int.reduceAdd, Int.reduceSub, Int.reduceMul, Int.reduceNeg, Int.reduceToNat, Int.reduceLT, Int.reduceLE, Nat.add_left_cancel_iff, e1, B132_21, h_fit0]
  | some z =>
    rw [q] at e1
    have h1 : x_01 (some z).isSome = 1 := rfl
    rw [h1] at e1
    obtain ⟨i1, i2, l, hl, hp⟩ := hI.sep q
    obtain ⟨l', hl', hN1, hN2⟩ := (hP.2.1 100 z.1 z.2 q).2.2.2.1 (by decide)
    have hll : l' = l := by rw [hl] at hl'; exact (Option.some.inj hl').symm
    rw [hll] at hN1 hN2
    have hl9 := hlen z l q hl
    have hm := x_mod_lt (k := k) hp
    have hml : k % l.length ≤ k := Nat.mod_le _ _
    have hA := hN2 (k % l.length) hm.2 (by omega)
    have hn0 := h_ne0 (v := (l.length : Int)) (by omega) (by omega)
    have hrem : (k : Int) - (k : Int) / (l.length : Int) * (l.length : Int) = ((k % l.length : Nat) : Int) := by
      rw [← hm.1, Int.emod_def, Int.mul_comm]
    dsimp only
    rw [hl]
    dsimp only
    rw [B132_0]
    simp (disch := first | assumption | omega | exact c_S.hL _ _ | decide | (simp only [c_nx_uI, c_sl_uI, c_ro_uI, c_da_uI, c_dn_uI, c_ba_uI, c_bn_uI, c_ta_uI, c_tn_uI, c_A_uI, c_B_uI, c_T_uI, c_I_uI, c_L_uI, c_P_uI, c_old_uI, c_nx_uA, c_sl_uA, c_ro_uA, c_da_uA, c_dn_uA, c_ba_uA, c_bn_uA, c_ta_uA, c_tn_uA, c_A_uA, c_B_uA, c_T_uA, c_I_uA, c_L_uA, c_P_uA, c_old_uA, c_nx_uB, c_sl_uB, c_ro_uB, c_da_uB, c_dn_uB, c_ba_uB, c_bn_uB, c_ta_uB, c_tn_uB, c_A_uB, c_B_uB, c_T_uB, c_I_uB, c_L_uB, c_P_uB, c_old_uB, c_nx_uT, c_sl_uT, c_ro_uT, c_da_uT, c_dn_uT, c_ba_uT, c_bn_uT, c_ta_uT, c_tn_uT, c_A_uT, c_B_uT, c_T_uT, c_I_uT, c_L_uT, c_P_uT, c_old_uT, c_nx_uP, c_sl_uP, c_ro_uP, c_da_uP, c_dn_uP, c_ba_uP, c_bn_uP, c_ta_uP, c_tn_uP, c_A_uP, c_B_uP, c_T_uP, c_I_uP, c_L_uP, c_P_uP, c_old_uP, c_nx_uL, c_sl_uL, c_ro_uL, c_da_uL, c_dn_uL, c_ba_uL, c_bn_uL, c_ta_uL, c_tn_uL, c_A_uL, c_B_uL, c_T_uL, c_I_uL, c_P_uL, c_old_uL, c_nx_cB, c_sl_cB, c_ro_cB, c_da_cB, c_dn_cB, c_ba_cB, c_bn_cB, c_ta_cB, c_tn_cB, c_A_cB, c_B_cB, c_T_cB, c_I_cB, c_L_cB, c_P_cB, c_old_cB, c_L_uL, c_nx_xB, c_sl_xB, c_I_xB, c_L_xB, c_P_xB, c_da_xB, c_dn_xB, c_A_xB, c_ba_xB, c_bn_xB, c_B_xB, c_ta_xB, c_tn_xB, c_T_xB, c_nx_xT, c_sl_xT, c_I_xT, c_L_xT, c_P_xT, c_da_xT, c_dn_xT, c_A_xT, c_ba_xT, c_bn_xT, c_B_xT, c_ta_xT, c_tn_xT, c_T_xT, c_nx_xD, c_sl_xD, c_I_xD, c_L_xD, c_P_xD, c_da_xD, c_dn_xD, c_A_xD, c_ba_xD, c_bn_xD, c_B_xD, c_ta_xD, c_tn_xD, c_T_xD] <;> first | assumption | omega | exact c_S.hL _ _) | fail) only [↓c_lB_b, ↓c_sB_b, ↓c_nB_b, ↓c_lT_b, ↓c_sT_b, ↓c_nT_b, ↓c_lD_b, ↓c_sD_b, ↓c_nD_b, ↓c_lS_b, ↓c_sS_b, ↓al2_b, ↓al21_b, ↓as2_b, ↓as21_b, ↓r0_0_b, ↓g0_1_b, ↓p0_1_b, ↓r0_2_b, ↓r0_3_b, ↓r0_4_b, ↓r0_5_b, ↓r0_6_b, ↓r0_7_b, ↓r4_0_b, ↓r4_1_b, ↓r4_2_b, ↓r4_3_b, ↓g4_4_b, ↓p4_4_b, ↓g4_5_b, ↓p4_5_b, ↓r4_6_b, ↓r4_7_b, ↓g4_8_b, ↓p4_8_b, ↓r4_9_b, ↓r4_10_b, ↓g4_11_b, ↓p4_11_b, ↓r4_12_b, ↓r4_13_b, ↓r4_14_b, ↓g4_15_b, ↓p4_15_b, ↓g4_16_b, ↓p4_16_b, ↓g4_17_b, ↓p4_17_b, ↓g4_18_b, ↓p4_18_b, ↓r5_0_b, ↓g5_1_b, ↓p5_1_b, ↓g5_2_b, ↓p5_2_b, ↓r5_3_b, ↓g5_4_b, ↓p5_4_b, ↓g5_5_b, ↓p5_5_b, ↓g5_6_b, ↓p5_6_b, ↓g5_7_b, ↓p5_7_b, ↓g5_8_b, ↓p5_8_b, ↓g5_9_b, ↓p5_9_b, ↓r8_0_b, ↓r8_1_b, ↓r8_2_b, ↓r8_3_b, ↓g8_4_b, ↓p8_4_b, ↓r8_5_b, ↓g8_6_b, ↓p8_6_b, ↓g8_7_b, ↓p8_7_b, ↓g8_8_b, ↓p8_8_b, ↓g8_9_b, ↓p8_9_b, ↓g8_10_b, ↓p8_10_b, ↓r8_11_b, ↓r15_0_b, ↓g15_1_b, ↓p15_1_b, ↓g15_2_b, ↓p15_2_b, ↓g15_3_b, ↓p15_3_b, ↓g15_4_b, ↓p15_4_b, ↓g15_5_b, ↓p15_5_b, ↓r28_0_b, ↓r28_1_b, ↓r28_2_b, ↓r28_3_b, ↓r28_4_b, ↓r28_5_b, ↓r28_6_b, ↓r28_7_b, ↓g28_8_b, ↓p28_8_b, ↓r37_0_b, ↓r37_1_b, ↓r44_0_b, ↓r44_1_b, ↓r44_2_b, ↓lr_0_b, ↓lr_1_b, ↓lg_2_b, ↓lp_2_b, ↓lg_3_b, ↓lp_3_b, ↓lg_4_b, ↓lp_4_b, ↓lg_5_b, ↓lp_5_b, ↓q4_3_b, ↓q4_13_b, ↓q4_14_b, ↓q5_0_b, ↓q15_0_b, ↓q28_6_b, ↓q28_7_b, ↓a3_b, ↓w3_b, ↓n3_b, ↓a9_b, ↓w9_b, ↓n9_b, ↓a10_b, ↓w10_b, ↓n10_b, ↓a11_b, ↓w11_b, ↓n11_b, ↓a12_b, ↓w12_b, ↓n12_b, ↓a13_b, ↓w13_b, ↓n13_b, ↓a14_b, ↓w14_b, ↓n14_b, ↓a17_b, ↓w17_b, ↓n17_b, ↓a18_b, ↓w18_b, ↓n18_b, ↓a19_b, ↓w19_b, ↓n19_b, ↓a20_b, ↓w20_b, ↓n20_b, ↓a39_b, ↓w39_b, ↓n39_b, ↓a40_b, ↓w40_b, ↓n40_b, ↓a42_b, ↓w42_b, ↓n42_b, ↓a43_b, ↓w43_b, ↓n43_b, ↓a45_b, ↓w45_b, ↓n45_b, ↓a46_b, ↓w46_b, ↓n46_b, ↓a47_b, ↓w47_b, ↓n47_b, ↓n2_b, ↓n21_b, ↓n38_b, ↓n41_b, r0_0, g0_1, p0_1, r0_2, r0_3, r0_4, r0_5, r0_6, r0_7, r4_0, r4_1, r4_2, r4_3, g4_4, p4_4, g4_5, p4_5, r4_6, r4_7, g4_8, p4_8, r4_9, r4_10, g4_11, p4_11, r4_12, r4_13, r4_14, g4_15, p4_15, g4_16, p4_16, g4_17, p4_17, g4_18, p4_18, r5_0, g5_1, p5_1, g5_2, p5_2, r5_3, g5_4, p5_4, g5_5, p5_5, g5_6, p5_6, g5_7, p5_7, g5_8, p5_8, g5_9, p5_9, r8_0, r8_1, r8_2, r8_3, g8_4, p8_4, r8_5, g8_6, p8_6, g8_7, p8_7, g8_8, p8_8, g8_9, p8_9, g8_10, p8_10, r8_11, r15_0, g15_1, p15_1, g15_2, p15_2, g15_3, p15_3, g15_4, p15_4, g15_5, p15_5, r28_0, r28_1, r28_2, r28_3, r28_4, r28_5, r28_6, r28_7, g28_8, p28_8, r37_0, r37_1, r44_0, r44_1, r44_2, lr_0, lr_1, lg_2, lp_2, lg_3, lp_3, lg_4, lp_4, lg_5, lp_5, cl_0, cl_4, cl_5, cl_8, cl_15, cl_28, cl_37, cl_44, cl_p, q4_3, q4_13, q4_14, q5_0, q15_0, q28_6, q28_7, a3, w3, n3, a9, w9, n9, a10, w10, n10, a11, w11, n11, a12, w12, n12, a13, w13, n13, a14, w14, n14, a17, w17, n17, a18, w18, n18, a19, w19, n19, a20, w20, n20, a39, w39, n39, a40, w40, n40, a42, w42, n42, a43, w43, n43, a45, w45, n45, a46, w46, n46, a47, w47, n47, n2, n21, n38, n41, al2, al21, al38a, al38b, al41a, al41b, as2, as21, c_lB, c_sB, c_nB, c_lT, c_sT, c_nT, c_lD, c_sD, c_nD, c_lS, c_sS, c_cpB, h_nI, Int.cast_ofNat_Int, h_b8, Int.bmod_bmod, h_add, h_sub, h_mul, h_neg, h_zero, h_and255, h_and15, h_and3, h_cltT, h_cltF, h_cgeT, h_cgeF, h_cgtT, h_cgtF, h_cleT, h_cleF, h_ceqT, h_ceqF, h_cneT, h_cneF, c_nx_uI, c_sl_uI, c_ro_uI, c_da_uI, c_dn_uI, c_ba_uI, c_bn_uI, c_ta_uI, c_tn_uI, c_A_uI, c_B_uI, c_T_uI, c_I_uI, c_L_uI, c_P_uI, c_old_uI, c_nx_uA, c_sl_uA, c_ro_uA, c_da_uA, c_dn_uA, c_ba_uA, c_bn_uA, c_ta_uA, c_tn_uA, c_A_uA, c_B_uA, c_T_uA, c_I_uA, c_L_uA, c_P_uA, c_old_uA, c_nx_uB, c_sl_uB, c_ro_uB, c_da_uB, c_dn_uB, c_ba_uB, c_bn_uB, c_ta_uB, c_tn_uB, c_A_uB, c_B_uB, c_T_uB, c_I_uB, c_L_uB, c_P_uB, c_old_uB, c_nx_uT, c_sl_uT, c_ro_uT, c_da_uT, c_dn_uT, c_ba_uT, c_bn_uT, c_ta_uT, c_tn_uT, c_A_uT, c_B_uT, c_T_uT, c_I_uT, c_L_uT, c_P_uT, c_old_uT, c_nx_uP, c_sl_uP, c_ro_uP, c_da_uP, c_dn_uP, c_ba_uP, c_bn_uP, c_ta_uP, c_tn_uP, c_A_uP, c_B_uP, c_T_uP, c_I_uP, c_L_uP, c_P_uP, c_old_uP, c_nx_uL, c_sl_uL, c_ro_uL, c_da_uL, c_dn_uL, c_ba_uL, c_bn_uL, c_ta_uL, c_tn_uL, c_A_uL, c_B_uL, c_T_uL, c_I_uL, c_P_uL, c_old_uL, c_nx_cB, c_sl_cB, c_ro_cB, c_da_cB, c_dn_cB, c_ba_cB, c_bn_cB, c_ta_cB, c_tn_cB, c_A_cB, c_B_cB, c_T_cB, c_I_cB, c_L_cB, c_P_cB, c_old_cB, c_L_uL, c_nx_xB, c_sl_xB, c_I_xB, c_L_xB, c_P_xB, c_da_xB, c_dn_xB, c_A_xB, c_ba_xB, c_bn_xB, c_B_xB, c_ta_xB, c_tn_xB, c_T_xB, c_nx_xT, c_sl_xT, c_I_xT, c_L_xT, c_P_xT, c_da_xT, c_dn_xT, c_A_xT, c_ba_xT, c_bn_xT, c_B_xT, c_ta_xT, c_tn_xT, c_T_xT, c_nx_xD, c_sl_xD, c_I_xD, c_L_xD, c_P_xD, c_da_xD, c_dn_xD, c_A_xD, c_ba_xD, c_bn_xD, c_B_xD, c_ta_xD, c_tn_xD, c_T_xD, c_t1, ↓reduceIte, Option.bind_some, am_ret0, am_ret1, am_ret2, if_true, if_false, true_and, and_true, false_and, and_false, not_true_eq_false, not_false_eq_true, Nat.reduceEqDiff, Nat.reduceAdd, Nat.reduceSub, Nat.reduceMul, Int.reduceAdd, Int.reduceSub, Int.reduceMul, Int.reduceNeg, Int.reduceToNat, Int.reduceLT, Int.reduceLE, Nat.add_left_cancel_iff, e1, hN1, hn0, h_div, hrem, Int.toNat_natCast, hA, B132_50, h_fit0]
/-- between, in the reference -/
theorem g_btwn {k : Nat} (hP : m_Po μ 7 O) (hI : z_I 7 bs O) (hU : m_U μ bs) (hk : k < 300) : am_gg (am_pr ad) (d + 1) 217 0 [some (.ref m), some (.int (h_ii k)), none, none, none, none, none, none] [] (m_t M m μ) = some (.inl (some (.int (h_ii (z_pb O bs k)))), m_t M m μ) := by
  have a := hP.b13 (c := 100) (by omega)
  unfold z_pb
  cases q : O.1 100 with
  | none =>
    rw [q] at a
    have a0 : μ.A 13 100 = 0 := a
    rw [B217_0]
    simp (disch := first | assumption | omega | decide | (simp only [m_I_uI, m_A_uI, m_I_uA, m_A_uA] <;> first | assumption | omega) | fail) only [↓mp_0_b, ↓mp_6_b, ↓mp_13_b, ↓mp_14_b, ↓mp_15_b, ↓mp_16_b, ↓mp_17_b, ↓mp_19_b, ↓mp_20_b, ↓mp_21_b, ↓mp_25_b, ↓mp_26_b, ↓mp_27_b, ↓mp_28_b, ↓mp_31_b, ↓mp_32_b, ↓mp_35_b, ↓mp_36_b, ↓mp_37_b, ↓mp_38_b, ↓mp_39_b, ↓mp_40_b, ↓mp_41_b, ↓mp_42_b, ↓mp_43_b, ↓ml_1_b, ↓ms_1_b, ↓ml_2_b, ↓ms_2_b, ↓ml_3_b, ↓ms_3_b, ↓ml_4_b, ↓ms_4_b, ↓ml_5_b, ↓ms_5_b, ↓ml_6_b, ↓ms_6_b, ↓ml_7_b, ↓ms_7_b, ↓ml_8_b, ↓ms_8_b, ↓ml_9_b, ↓ms_9_b, ↓ml_10_b, ↓ms_10_b, ↓ml_11_b, ↓ms_11_b, ↓ml_13_b, ↓ms_13_b, ↓ml_14_b, ↓ms_14_b, ↓ml_15_b, ↓ms_15_b, ↓ml_16_b, ↓ms_16_b, ↓ml_17_b, ↓ms_17_b, ↓ml_18_b, ↓ms_18_b, ↓ml_19_b, ↓ms_19_b, ↓ml_20_b, ↓ms_20_b, ↓ml_21_b, ↓ms_21_b, ↓ml_22_b, ↓ms_22_b, m_cl, mg_0, mp_0, mr_1, mr_2, mr_3, mr_4, mr_5, mg_6, mp_6, mr_7, mr_8, mr_9, mr_10, mr_11, mr_12, mg_13, mp_13, mg_14, mp_14, mg_15, mp_15, mg_16, mp_16, mg_17, mp_17, mr_18, mg_19, mp_19, mg_20, mp_20, mg_21, mp_21, mr_22, mr_23, mr_24, mg_25, mp_25, mg_26, mp_26, mg_27, mp_27, mg_28, mp_28, mr_29, mr_30, mg_31, mp_31, mg_32, mp_32, mr_33, mr_34, mg_35, mp_35, mg_36, mp_36, mg_37, mp_37, mg_38, mp_38, mg_39, mp_39, mg_40, mp_40, mg_41, mp_41, mg_42, mp_42, mg_43, mp_43, mr_44, mr_45, mr_46, ml_1, ms_1, ml_2, ms_2, ml_3, ms_3, ml_4, ms_4, ml_5, ms_5, ml_6, ms_6, ml_7, ms_7, ml_8, ms_8, ml_9, ms_9, ml_10, ms_10, ml_11, ms_11, ml_13, ms_13, ml_14, ms_14, ml_15, ms_15, ml_16, ms_16, ml_17, ms_17, ml_18, ms_18, ml_19, ms_19, ml_20, ms_20, ml_21, ms_21, ml_22, ms_22, h_nI, Int.cast_ofNat_Int, h_b8, Int.bmod_bmod, h_add, h_sub, h_mul, h_neg, h_zero, h_and255, h_and15, h_and3, h_cltT, h_cltF, h_cgeT, h_cgeF, h_cgtT, h_cgtF, h_cleT, h_cleF, h_ceqT, h_ceqF, h_cneT, h_cneF, m_I_uI, m_A_uI, m_I_uA, m_A_uA, m_t1, ↓reduceIte, Option.bind_some, am_ret0, am_ret1, am_ret2, if_true, if_false, true_and, and_true, false_and, and_false, not_true_eq_false, not_false_eq_true, Nat.reduceEqDiff, Nat.reduceAdd, Nat.reduceSub, Nat.reduceMul, Int.reduceAdd, Int.reduceSub, Int.reduceMul, Int.reduceNeg, Int.reduceToNat, Int.reduceLT, Int.reduceLE, Nat.add_left_cancel_iff, a0, h_fit0]
  | some z =>
    rw [q] at a
    have a1 : μ.A 13 100 = 1 := a
    obtain ⟨i1, i2, l, hl, hp⟩ := hI.sep q
    obtain ⟨a14, a15⟩ := hP.2.1 100 z.1 z.2 q (by decide)
    have hl9 := hU.1
    have e1 := g_many (M := M) (m := m) (ad := ad) (d := d) (k := (k : Int)) (s0 := z.1) (n0 := z.2 - z.1) (e := z.2) hU (by omega) i2 (by omega) (z.2 + 1) 0 0 (l := l) (o6 := none) (o7 := none) (by omega) (by omega) hl (Nat.le_refl _) (by omega)
    have hm := x_mod_lt (k := k) hp
    rw [Nat.zero_add, hm.1] at e1
    have hml : k % l.length ≤ k := Nat.mod_le _ _
    have e2 := g_nth (M := M) (m := m) (ad := ad) (d := d) (k := (k : Int)) (w4 := (l.length : Int)) (s0 := z.1) (n0 := z.2 - z.1) (e := z.2) hU (by omega) i2 (z.2 + 1) 0 (k % l.length) (l := l) (o7 := none) (by omega) (by omega) hl hm.2 (by omega)
    dsimp only
    rw [hl]
    dsimp only
    rw [B217_0]
    simp (disch := first | assumption | omega | decide | (simp only [m_I_uI, m_A_uI, m_I_uA, m_A_uA] <;> first | assumption | omega) | fail) only [↓mp_0_b, ↓mp_6_b, ↓mp_13_b, ↓mp_14_b, ↓mp_15_b, ↓mp_16_b, ↓mp_17_b, ↓mp_19_b, ↓mp_20_b, ↓mp_21_b, ↓mp_25_b, ↓mp_26_b, ↓mp_27_b, ↓mp_28_b, ↓mp_31_b, ↓mp_32_b, ↓mp_35_b, ↓mp_36_b, ↓mp_37_b, ↓mp_38_b, ↓mp_39_b, ↓mp_40_b, ↓mp_41_b, ↓mp_42_b, ↓mp_43_b, ↓ml_1_b, ↓ms_1_b, ↓ml_2_b, ↓ms_2_b, ↓ml_3_b, ↓ms_3_b, ↓ml_4_b, ↓ms_4_b, ↓ml_5_b, ↓ms_5_b, ↓ml_6_b, ↓ms_6_b, ↓ml_7_b, ↓ms_7_b, ↓ml_8_b, ↓ms_8_b, ↓ml_9_b, ↓ms_9_b, ↓ml_10_b, ↓ms_10_b, ↓ml_11_b, ↓ms_11_b, ↓ml_13_b, ↓ms_13_b, ↓ml_14_b, ↓ms_14_b, ↓ml_15_b, ↓ms_15_b, ↓ml_16_b, ↓ms_16_b, ↓ml_17_b, ↓ms_17_b, ↓ml_18_b, ↓ms_18_b, ↓ml_19_b, ↓ms_19_b, ↓ml_20_b, ↓ms_20_b, ↓ml_21_b, ↓ms_21_b, ↓ml_22_b, ↓ms_22_b, m_cl, mg_0, mp_0, mr_1, mr_2, mr_3, mr_4, mr_5, mg_6, mp_6, mr_7, mr_8, mr_9, mr_10, mr_11, mr_12, mg_13, mp_13, mg_14, mp_14, mg_15, mp_15, mg_16, mp_16, mg_17, mp_17, mr_18, mg_19, mp_19, mg_20, mp_20, mg_21, mp_21, mr_22, mr_23, mr_24, mg_25, mp_25, mg_26, mp_26, mg_27, mp_27, mg_28, mp_28, mr_29, mr_30, mg_31, mp_31, mg_32, mp_32, mr_33, mr_34, mg_35, mp_35, mg_36, mp_36, mg_37, mp_37, mg_38, mp_38, mg_39, mp_39, mg_40, mp_40, mg_41, mp_41, mg_42, mp_42, mg_43, mp_43, mr_44, mr_45, mr_46, ml_1, ms_1, ml_2, ms_2, ml_3, ms_3, ml_4, ms_4, ml_5, ms_5, ml_6, ms_6, ml_7, ms_7, ml_8, ms_8, ml_9, ms_9, ml_10, ms_10, ml_11, ms_11, ml_13, ms_13, ml_14, ms_14, ml_15, ms_15, ml_16, ms_16, ml_17, ms_17, ml_18, ms_18, ml_19, ms_19, ml_20, ms_20, ml_21, ms_21, ml_22, ms_22, h_nI, Int.cast_ofNat_Int, h_b8, Int.bmod_bmod, h_add, h_sub, h_mul, h_neg, h_zero, h_and255, h_and15, h_and3, h_cltT, h_cltF, h_cgeT, h_cgeF, h_cgtT, h_cgtF, h_cleT, h_cleF, h_ceqT, h_ceqF, h_cneT, h_cneF, m_I_uI, m_A_uI, m_I_uA, m_A_uA, m_t1, ↓reduceIte, Option.bind_some, am_ret0, am_ret1, am_ret2, if_true, if_false, true_and, and_true, false_and, and_false, not_true_eq_false, not_false_eq_true, Nat.reduceEqDiff, Nat.reduceAdd, Nat.reduceSub, Nat.reduceMul, Int.reduceAdd, Int.reduceSub, Int.reduceMul, Int.reduceNeg, Int.reduceToNat, Int.reduceLT, Int.reduceLE, Nat.add_left_cancel_iff, a1, a14, a15]
    simp only [Int.ofNat_zero] at e1 e2
    rw [e1]
    exact e2
theorem z_pb_bd {k : Nat} (hU : x_okl bs) (hI : z_I 7 bs O) : -1 ≤ z_pb O bs k ∧ z_pb O bs k < 256 := by
  unfold z_pb
  cases q : O.1 100 with
  | none => dsimp only; omega
  | some z =>
    obtain ⟨i1, i2, l, hl, hp⟩ := hI.sep q
    dsimp only
    rw [hl]
    dsimp only
    have hm := Nat.mod_lt k hp
    have : l.getD (k % l.length) 0 ∈ l := by
      rw [List.getD_eq_getElem?_getD, List.getElem?_eq_getElem hm]
      exact List.getElem_mem hm
    exact x_sep_bd hU _ _ l hl _ this
end PB
