/-! DOTOOL, IN THE CLASS -/
def z_pcT (T : Nat) : Nat := [100, 110, 120, 130, 140, 150, 160, 170, 180, 190, 204, 218, 232].getD T 0
theorem z_pcT_at : ∀ T, T < 13 → ([100, 110, 120, 130, 140, 150, 160, 170, 180, 190, 204, 218, 232] : List Nat)[T]? = some (z_pcT T) := by decide
/-- whether lines fit -/
def z_fb (L : List (List Int)) : Bool := decide (L.length ≤ 300 ∧ ∀ l ∈ L, l.length ≤ 240)
theorem z_fb_t {L : List (List Int)} (h : x_fit L) : z_fb L = true := decide_eq_true h
theorem z_fb_f {L : List (List Int)} (h : ¬ x_fit L) : z_fb L = false := decide_eq_false h
/-- how a tool ends: a fault's code, place, line, side, or the lines that it gives -/
def z_dt (T : Nat) (O : z_O) (t : List Int) (W : List x_T) (l : List (Int × Nat)) (k : Nat) (F : Nat → List (List Int)) (th : Nat → Bool) (Gv : List (List Int)) : (Nat × Nat × Nat × Nat) ⊕ List (List Int) := match z_to th (z_opl T l k) with
  | some q => .inl (7, x_pla W t q, 0, 0)
  | none => match z_tu T O (x_all W) (z_S F Gv (z_opl T l k)) with
    | some u => .inl (8, x_pla W t k, u.1, u.2)
    | none => if z_fb (z_tL0 T O W l (z_S F Gv (z_opl T l k)) (z_opl T l k).length) = true then .inr (z_tL0 T O W l (z_S F Gv (z_opl T l k)) (z_opl T l k).length) else .inl (9, x_pla W t k, 0, 0)
section DO
variable {b : Nat} {R : Nat → Option va_E} {σ σ' : c_S b} {ad gk gv : Nat → Nat} {d : Nat} {t : List Int} {W : List x_T} {T n k k' : Nat} {O : z_O} {l : List (Int × Nat)} {S : Nat → List (List Int)} {F : Nat → List (List Int)} {th : Nat → Bool} {Gv : List (List Int)}
theorem v_tool (hT : T < 13) (h : c_TI σ T O t W l k' n S) (z : z_TI T O t W l k' n) : ∃ σ', am_gg (am_pr ad) (d + 7) 101 (z_pcT T) [some (.ref b)] [] (c_t R σ) = am_gg (am_pr ad) (d + 7) 101 246 [some (.ref b)] [] (c_t R σ') ∧ c_mE σ σ' (z_tu T O (x_all W) S) (z_tL0 T O W l S n) := by
  have hc : T = 0 ∨ T = 1 ∨ T = 2 ∨ T = 3 ∨ T = 4 ∨ T = 5 ∨ T = 6 ∨ T = 7 ∨ T = 8 ∨ T = 9 ∨ T = 10 ∨ T = 11 ∨ T = 12 := by omega
  rcases hc with q | q | q | q | q | q | q | q | q | q | q | q | q <;> subst q
  · exact v_t0 h z
  · exact v_t1 h z
  · exact v_t2 h z
  · exact v_t3 h z
  · exact v_t4 h z
  · exact v_t5 h z
  · exact v_t6 h z
  · exact v_t7 h z
  · exact v_t8 h z
  · exact v_t9 h z
  · exact v_t10 h z
  · exact v_t11 h z
  · exact v_t12 h z
theorem c_Ls.ext (h : c_Ls σ W l) (hI : σ'.I 4 91 = σ.I 4 91) (hA : ∀ z i, z < 29 → σ'.A z i = σ.A z i) : c_Ls σ' W l := by
  obtain ⟨h1, h2, h3⟩ := h
  exact ⟨hI.trans h1, h2, fun j hj => ⟨(hA 19 j (by omega)).trans (h3 j hj).1, (hA 20 j (by omega)).trans (h3 j hj).2⟩⟩
/-- how doTool ends -/
def c_dr (σ' : c_S b) (F : Nat → List (List Int)) (th : Nat → Bool) (r : (Nat × Nat × Nat × Nat) ⊕ List (List Int)) : Prop := match r with
  | .inl x => c_V σ' [] F th x.1 x.2.2.1 x.2.2.2 ∧ σ'.I 4 96 = x.2.1
  | .inr L => c_V σ' [] F th 0 0 0 ∧ c_F σ' (σ'.L 11) L
/-- the switch -/
theorem v_sw {σ : c_S b} (hG : c_gq R b ad gk gv) (hT : T < 13) (hP0 : σ.P 0 = ad T) {s1 s2 : c_S b} (e1 : am_gg (am_pr ad) (d + 6) 102 0 [some (.ref b), none, none] [] (c_t R σ) = some (.inl (some (.int (h_ii 1))), c_t R s1)) (e2 : am_gg (am_pr ad) (d + 6) 24 0 [some (.ref (b + s1.L 12))] [] (c_t R s1) = some (.inl none, c_t R s2)) (hP2 : s2.P 0 = ad T) : am_gg (am_pr ad) (d + 7) 101 0 [some (.ref b)] [] (c_t R σ) = am_gg (am_pr ad) (d + 7) 101 (z_pcT T) [some (.ref b)] [] (c_t R s2) := by
  have hti : (h_ii ((T + 1 : Nat) : Int)).toInt = ((T + 1 : Nat) : Int) := h_toInt (by omega) (by omega)
  have e3 : am_gg (am_pr ad) (d + 6) 103 0 [some (.ref (ad T))] [] (c_t R s2) = some (.inl (some (.int (h_ii T))), c_t R s2) := by
    rw [B103_0, y_ord hG hT, Option.bind_some, if_pos (h_fit0 _)]
  have e4 := y_swm (σ := s2) hG hT
  have e5 := y_Tcls (σ := s2) hG hT
  have h2 : ([100, 110, 120, 130, 140, 150, 160, 170, 180, 190, 204, 218, 232] : List Nat)[(((T + 1 : Nat) : Int) - 1).toNat]? = some (z_pcT T) := by
    rw [show (((T + 1 : Nat) : Int) - 1).toNat = T by omega]
    exact z_pcT_at T hT
  rw [B101_0]
  simp (disch := first | assumption | omega | exact c_S.hL _ _ | decide | (simp only [c_nx_uI, c_sl_uI, c_ro_uI, c_da_uI, c_dn_uI, c_ba_uI, c_bn_uI, c_ta_uI, c_tn_uI, c_A_uI, c_B_uI, c_T_uI, c_I_uI, c_L_uI, c_P_uI, c_old_uI, c_nx_uA, c_sl_uA, c_ro_uA, c_da_uA, c_dn_uA, c_ba_uA, c_bn_uA, c_ta_uA, c_tn_uA, c_A_uA, c_B_uA, c_T_uA, c_I_uA, c_L_uA, c_P_uA, c_old_uA, c_nx_uB, c_sl_uB, c_ro_uB, c_da_uB, c_dn_uB, c_ba_uB, c_bn_uB, c_ta_uB, c_tn_uB, c_A_uB, c_B_uB, c_T_uB, c_I_uB, c_L_uB, c_P_uB, c_old_uB, c_nx_uT, c_sl_uT, c_ro_uT, c_da_uT, c_dn_uT, c_ba_uT, c_bn_uT, c_ta_uT, c_tn_uT, c_A_uT, c_B_uT, c_T_uT, c_I_uT, c_L_uT, c_P_uT, c_old_uT, c_nx_uP, c_sl_uP, c_ro_uP, c_da_uP, c_dn_uP, c_ba_uP, c_bn_uP, c_ta_uP, c_tn_uP, c_A_uP, c_B_uP, c_T_uP, c_I_uP, c_L_uP, c_P_uP, c_old_uP, c_nx_uL, c_sl_uL, c_ro_uL, c_da_uL, c_dn_uL, c_ba_uL, c_bn_uL, c_ta_uL, c_tn_uL, c_A_uL, c_B_uL, c_T_uL, c_I_uL, c_P_uL, c_old_uL, c_nx_cB, c_sl_cB, c_ro_cB, c_da_cB, c_dn_cB, c_ba_cB, c_bn_cB, c_ta_cB, c_tn_cB, c_A_cB, c_B_cB, c_T_cB, c_I_cB, c_L_cB, c_P_cB, c_old_cB, c_L_uL, c_nx_xB, c_sl_xB, c_I_xB, c_L_xB, c_P_xB, c_da_xB, c_dn_xB, c_A_xB, c_ba_xB, c_bn_xB, c_B_xB, c_ta_xB, c_tn_xB, c_T_xB, c_nx_xT, c_sl_xT, c_I_xT, c_L_xT, c_P_xT, c_da_xT, c_dn_xT, c_A_xT, c_ba_xT, c_bn_xT, c_B_xT, c_ta_xT, c_tn_xT, c_T_xT, c_nx_xD, c_sl_xD, c_I_xD, c_L_xD, c_P_xD, c_da_xD, c_dn_xD, c_A_xD, c_ba_xD, c_bn_xD, c_B_xD, c_ta_xD, c_tn_xD, c_T_xD] <;> first | assumption | omega | exact c_S.hL _ _) | fail) only [↓c_lB_b, ↓c_sB_b, ↓c_nB_b, ↓c_lT_b, ↓c_sT_b, ↓c_nT_b, ↓c_lD_b, ↓c_sD_b, ↓c_nD_b, ↓c_lS_b, ↓c_sS_b, ↓al2_b, ↓al21_b, ↓as2_b, ↓as21_b, ↓r0_0_b, ↓g0_1_b, ↓p0_1_b, ↓r0_2_b, ↓r0_3_b, ↓r0_4_b, ↓r0_5_b, ↓r0_6_b, ↓r0_7_b, ↓r4_0_b, ↓r4_1_b, ↓r4_2_b, ↓r4_3_b, ↓g4_4_b, ↓p4_4_b, ↓g4_5_b, ↓p4_5_b, ↓r4_6_b, ↓r4_7_b, ↓g4_8_b, ↓p4_8_b, ↓r4_9_b, ↓r4_10_b, ↓g4_11_b, ↓p4_11_b, ↓r4_12_b, ↓r4_13_b, ↓r4_14_b, ↓g4_15_b, ↓p4_15_b, ↓g4_16_b, ↓p4_16_b, ↓g4_17_b, ↓p4_17_b, ↓g4_18_b, ↓p4_18_b, ↓r5_0_b, ↓g5_1_b, ↓p5_1_b, ↓g5_2_b, ↓p5_2_b, ↓r5_3_b, ↓g5_4_b, ↓p5_4_b, ↓g5_5_b, ↓p5_5_b, ↓g5_6_b, ↓p5_6_b, ↓g5_7_b, ↓p5_7_b, ↓g5_8_b, ↓p5_8_b, ↓g5_9_b, ↓p5_9_b, ↓r8_0_b, ↓r8_1_b, ↓r8_2_b, ↓r8_3_b, ↓g8_4_b, ↓p8_4_b, ↓r8_5_b, ↓g8_6_b, ↓p8_6_b, ↓g8_7_b, ↓p8_7_b, ↓g8_8_b, ↓p8_8_b, ↓g8_9_b, ↓p8_9_b, ↓g8_10_b, ↓p8_10_b, ↓r8_11_b, ↓r15_0_b, ↓g15_1_b, ↓p15_1_b, ↓g15_2_b, ↓p15_2_b, ↓g15_3_b, ↓p15_3_b, ↓g15_4_b, ↓p15_4_b, ↓g15_5_b, ↓p15_5_b, ↓r28_0_b, ↓r28_1_b, ↓r28_2_b, ↓r28_3_b, ↓r28_4_b, ↓r28_5_b, ↓r28_6_b, ↓r28_7_b, ↓g28_8_b, ↓p28_8_b, ↓r37_0_b, ↓r37_1_b, ↓r44_0_b, ↓r44_1_b, ↓r44_2_b, ↓lr_0_b, ↓lr_1_b, ↓lg_2_b, ↓lp_2_b, ↓lg_3_b, ↓lp_3_b, ↓lg_4_b, ↓lp_4_b, ↓lg_5_b, ↓lp_5_b, ↓q4_3_b, ↓q4_13_b, ↓q4_14_b, ↓q5_0_b, ↓q15_0_b, ↓q28_6_b, ↓q28_7_b, ↓a3_b, ↓w3_b, ↓n3_b, ↓a9_b, ↓w9_b, ↓n9_b, ↓a10_b, ↓w10_b, ↓n10_b, ↓a11_b, ↓w11_b, ↓n11_b, ↓a12_b, ↓w12_b, ↓n12_b, ↓a13_b, ↓w13_b, ↓n13_b, ↓a14_b, ↓w14_b, ↓n14_b, ↓a17_b, ↓w17_b, ↓n17_b, ↓a18_b, ↓w18_b, ↓n18_b, ↓a19_b, ↓w19_b, ↓n19_b, ↓a20_b, ↓w20_b, ↓n20_b, ↓a39_b, ↓w39_b, ↓n39_b, ↓a40_b, ↓w40_b, ↓n40_b, ↓a42_b, ↓w42_b, ↓n42_b, ↓a43_b, ↓w43_b, ↓n43_b, ↓a45_b, ↓w45_b, ↓n45_b, ↓a46_b, ↓w46_b, ↓n46_b, ↓a47_b, ↓w47_b, ↓n47_b, ↓n2_b, ↓n21_b, ↓n38_b, ↓n41_b, r0_0, g0_1, p0_1, r0_2, r0_3, r0_4, r0_5, r0_6, r0_7, r4_0, r4_1, r4_2, r4_3, g4_4, p4_4, g4_5, p4_5, r4_6, r4_7, g4_8, p4_8, r4_9, r4_10, g4_11, p4_11, r4_12, r4_13, r4_14, g4_15, p4_15, g4_16, p4_16, g4_17, p4_17, g4_18, p4_18, r5_0, g5_1, p5_1, g5_2, p5_2, r5_3, g5_4, p5_4, g5_5, p5_5, g5_6, p5_6, g5_7, p5_7, g5_8, p5_8, g5_9, p5_9, r8_0, r8_1, r8_2, r8_3, g8_4, p8_4, r8_5, g8_6, p8_6, g8_7, p8_7, g8_8, p8_8, g8_9, p8_9, g8_10, p8_10, r8_11, r15_0, g15_1, p15_1, g15_2, p15_2, g15_3, p15_3, g15_4, p15_4, g15_5, p15_5, r28_0, r28_1, r28_2, r28_3, r28_4, r28_5, r28_6, r28_7, g28_8, p28_8, r37_0, r37_1, r44_0, r44_1, r44_2, lr_0, lr_1, lg_2, lp_2, lg_3, lp_3, lg_4, lp_4, lg_5, lp_5, cl_0, cl_4, cl_5, cl_8, cl_15, cl_28, cl_37, cl_44, cl_p, q4_3, q4_13, q4_14, q5_0, q15_0, q28_6, q28_7, a3, w3, n3, a9, w9, n9, a10, w10, n10, a11, w11, n11, a12, w12, n12, a13, w13, n13, a14, w14, n14, a17, w17, n17, a18, w18, n18, a19, w19, n19, a20, w20, n20, a39, w39, n39, a40, w40, n40, a42, w42, n42, a43, w43, n43, a45, w45, n45, a46, w46, n46, a47, w47, n47, n2, n21, n38, n41, al2, al21, al38a, al38b, al41a, al41b, as2, as21, c_lB, c_sB, c_nB, c_lT, c_sT, c_nT, c_lD, c_sD, c_nD, c_lS, c_sS, c_cpB, h_nI, Int.cast_ofNat_Int, h_b8, Int.bmod_bmod, h_add, h_sub, h_mul, h_neg, h_zero, h_and255, h_and15, h_and3, h_cltT, h_cltF, h_cgeT, h_cgeF, h_cgtT, h_cgtF, h_cleT, h_cleF, h_ceqT, h_ceqF, h_cneT, h_cneF, c_nx_uI, c_sl_uI, c_ro_uI, c_da_uI, c_dn_uI, c_ba_uI, c_bn_uI, c_ta_uI, c_tn_uI, c_A_uI, c_B_uI, c_T_uI, c_I_uI, c_L_uI, c_P_uI, c_old_uI, c_nx_uA, c_sl_uA, c_ro_uA, c_da_uA, c_dn_uA, c_ba_uA, c_bn_uA, c_ta_uA, c_tn_uA, c_A_uA, c_B_uA, c_T_uA, c_I_uA, c_L_uA, c_P_uA, c_old_uA, c_nx_uB, c_sl_uB, c_ro_uB, c_da_uB, c_dn_uB, c_ba_uB, c_bn_uB, c_ta_uB, c_tn_uB, c_A_uB, c_B_uB, c_T_uB, c_I_uB, c_L_uB, c_P_uB, c_old_uB, c_nx_uT, c_sl_uT, c_ro_uT, c_da_uT, c_dn_uT, c_ba_uT, c_bn_uT, c_ta_uT, c_tn_uT, c_A_uT, c_B_uT, c_T_uT, c_I_uT, c_L_uT, c_P_uT, c_old_uT, c_nx_uP, c_sl_uP, c_ro_uP, c_da_uP, c_dn_uP, c_ba_uP, c_bn_uP, c_ta_uP, c_tn_uP, c_A_uP, c_B_uP, c_T_uP, c_I_uP, c_L_uP, c_P_uP, c_old_uP, c_nx_uL, c_sl_uL, c_ro_uL, c_da_uL, c_dn_uL, c_ba_uL, c_bn_uL, c_ta_uL, c_tn_uL, c_A_uL, c_B_uL, c_T_uL, c_I_uL, c_P_uL, c_old_uL, c_nx_cB, c_sl_cB, c_ro_cB, c_da_cB, c_dn_cB, c_ba_cB, c_bn_cB, c_ta_cB, c_tn_cB, c_A_cB, c_B_cB, c_T_cB, c_I_cB, c_L_cB, c_P_cB, c_old_cB, c_L_uL, c_nx_xB, c_sl_xB, c_I_xB, c_L_xB, c_P_xB, c_da_xB, c_dn_xB, c_A_xB, c_ba_xB, c_bn_xB, c_B_xB, c_ta_xB, c_tn_xB, c_T_xB, c_nx_xT, c_sl_xT, c_I_xT, c_L_xT, c_P_xT, c_da_xT, c_dn_xT, c_A_xT, c_ba_xT, c_bn_xT, c_B_xT, c_ta_xT, c_tn_xT, c_T_xT, c_nx_xD, c_sl_xD, c_I_xD, c_L_xD, c_P_xD, c_da_xD, c_dn_xD, c_A_xD, c_ba_xD, c_bn_xD, c_B_xD, c_ta_xD, c_tn_xD, c_T_xD, c_t1, ↓reduceIte, Option.bind_some, am_ret0, am_ret1, am_ret2, if_true, if_false, true_and, and_true, false_and, and_false, not_true_eq_false, not_false_eq_true, Nat.reduceEqDiff, Nat.reduceAdd, Nat.reduceSub, Nat.reduceMul, Int.reduceAdd, Int.reduceSub, Int.reduceMul, Int.reduceNeg, Int.reduceToNat, Int.reduceLT, Int.reduceLE, Nat.add_left_cancel_iff, e1, e2, hP2, e5, e3, e4]
  rw [hti, if_neg (by omega), h2, Option.bind_some]
/-- doTool -/
theorem v_do (hG : c_gq R b ad gk gv) (hT : T < 13) (hV : c_V σ [] F th 0 0 0) (hC : c_cu σ t W k') (hP0 : σ.P 0 = ad T) (h84 : σ.I 4 84 = x_pla W t k) (hP : c_P σ T (x_all W) O) (hLw : c_Lw σ T t W l k) (z : z_TI T O t W l k' (z_opl T l k).length) (hn : 1 ≤ (z_opl T l k).length ∧ (z_opl T l k).length ≤ 20) (hgv : (∃ j, j < (z_opl T l k).length ∧ ((z_opl T l k).getD j z_00).1 = 10) → c_F σ (σ.L 11) Gv) :
    ∃ σ', am_gg (am_pr ad) (d + 7) 101 0 [some (.ref b)] [] (c_t R σ) = some (.inl none, c_t R σ') ∧ c_kT σ σ' ∧ c_dr σ' F th (z_dt T O t W l k F th Gv) := by
  have hX := z.1
  have hpl := x_pla_le (k := k) hX
  have hLo : c_Lo σ t W (z_opl T l k) := by
    unfold z_opl
    by_cases q : T = 12
    · rw [if_pos q]; exact (hLw.1 q).2
    · rw [if_neg q]; exact hLw.2 q
  obtain ⟨s1, f1, -, r1, r2⟩ := v_to2 (R := R) (ad := ad) (d := d + 5) (l := z_opl T l k) (th := th) (z_opl T l k).length 0 (σ := σ) (o2 := none) (by omega) (Nat.zero_le _) hLo hV.2.2.2.1
  rw [List.drop_zero] at r1 r2
  unfold z_dt
  cases hz : z_to th (z_opl T l k) with
  | some q =>
    have e1 := r2 q hz
    have e2 : am_gg (am_pr ad) (d + 6) 102 0 [some (.ref b), none, none] [] (c_t R σ) = some (.inl (some (.int (h_ii 0))), c_t R (c_uI (c_uI s1 4 95 7) 4 96 (x_pla W t q))) := by
      rw [B102_0, h_nI]
      exact e1
    refine ⟨c_uI (c_uI s1 4 95 7) 4 96 (x_pla W t q), ?_, (f1.kT.trans (c_kT.u4 _ (by omega))).trans (c_kT.u4 _ (by omega)), ?_, ?_⟩
    · rw [B101_0]
      simp (disch := first | assumption | omega | exact c_S.hL _ _ | decide | (simp only [c_nx_uI, c_sl_uI, c_ro_uI, c_da_uI, c_dn_uI, c_ba_uI, c_bn_uI, c_ta_uI, c_tn_uI, c_A_uI, c_B_uI, c_T_uI, c_I_uI, c_L_uI, c_P_uI, c_old_uI, c_nx_uA, c_sl_uA, c_ro_uA, c_da_uA, c_dn_uA, c_ba_uA, c_bn_uA, c_ta_uA, c_tn_uA, c_A_uA, c_B_uA, c_T_uA, c_I_uA, c_L_uA, c_P_uA, c_old_uA, c_nx_uB, c_sl_uB, c_ro_uB, c_da_uB, c_dn_uB, c_ba_uB, c_bn_uB, c_ta_uB, c_tn_uB, c_A_uB, c_B_uB, c_T_uB, c_I_uB, c_L_uB, c_P_uB, c_old_uB, c_nx_uT, c_sl_uT, c_ro_uT, c_da_uT, c_dn_uT, c_ba_uT, c_bn_uT, c_ta_uT, c_tn_uT, c_A_uT, c_B_uT, c_T_uT, c_I_uT, c_L_uT, c_P_uT, c_old_uT, c_nx_uP, c_sl_uP, c_ro_uP, c_da_uP, c_dn_uP, c_ba_uP, c_bn_uP, c_ta_uP, c_tn_uP, c_A_uP, c_B_uP, c_T_uP, c_I_uP, c_L_uP, c_P_uP, c_old_uP, c_nx_uL, c_sl_uL, c_ro_uL, c_da_uL, c_dn_uL, c_ba_uL, c_bn_uL, c_ta_uL, c_tn_uL, c_A_uL, c_B_uL, c_T_uL, c_I_uL, c_P_uL, c_old_uL, c_nx_cB, c_sl_cB, c_ro_cB, c_da_cB, c_dn_cB, c_ba_cB, c_bn_cB, c_ta_cB, c_tn_cB, c_A_cB, c_B_cB, c_T_cB, c_I_cB, c_L_cB, c_P_cB, c_old_cB, c_L_uL, c_nx_xB, c_sl_xB, c_I_xB, c_L_xB, c_P_xB, c_da_xB, c_dn_xB, c_A_xB, c_ba_xB, c_bn_xB, c_B_xB, c_ta_xB, c_tn_xB, c_T_xB, c_nx_xT, c_sl_xT, c_I_xT, c_L_xT, c_P_xT, c_da_xT, c_dn_xT, c_A_xT, c_ba_xT, c_bn_xT, c_B_xT, c_ta_xT, c_tn_xT, c_T_xT, c_nx_xD, c_sl_xD, c_I_xD, c_L_xD, c_P_xD, c_da_xD, c_dn_xD, c_A_xD, c_ba_xD, c_bn_xD, c_B_xD, c_ta_xD, c_tn_xD, c_T_xD] <;> first | assumption | omega | exact c_S.hL _ _) | fail) only [↓c_lB_b, ↓c_sB_b, ↓c_nB_b, ↓c_lT_b, ↓c_sT_b, ↓c_nT_b, ↓c_lD_b, ↓c_sD_b, ↓c_nD_b, ↓c_lS_b, ↓c_sS_b, ↓al2_b, ↓al21_b, ↓as2_b, ↓as21_b, ↓r0_0_b, ↓g0_1_b, ↓p0_1_b, ↓r0_2_b, ↓r0_3_b, ↓r0_4_b, ↓r0_5_b, ↓r0_6_b, ↓r0_7_b, ↓r4_0_b, ↓r4_1_b, ↓r4_2_b, ↓r4_3_b, ↓g4_4_b, ↓p4_4_b, ↓g4_5_b, ↓p4_5_b, ↓r4_6_b, ↓r4_7_b, ↓g4_8_b, ↓p4_8_b, ↓r4_9_b, ↓r4_10_b, ↓g4_11_b, ↓p4_11_b, ↓r4_12_b, ↓r4_13_b, ↓r4_14_b, ↓g4_15_b, ↓p4_15_b, ↓g4_16_b, ↓p4_16_b, ↓g4_17_b, ↓p4_17_b, ↓g4_18_b, ↓p4_18_b, ↓r5_0_b, ↓g5_1_b, ↓p5_1_b, ↓g5_2_b, ↓p5_2_b, ↓r5_3_b, ↓g5_4_b, ↓p5_4_b, ↓g5_5_b, ↓p5_5_b, ↓g5_6_b, ↓p5_6_b, ↓g5_7_b, ↓p5_7_b, ↓g5_8_b, ↓p5_8_b, ↓g5_9_b, ↓p5_9_b, ↓r8_0_b, ↓r8_1_b, ↓r8_2_b, ↓r8_3_b, ↓g8_4_b, ↓p8_4_b, ↓r8_5_b, ↓g8_6_b, ↓p8_6_b, ↓g8_7_b, ↓p8_7_b, ↓g8_8_b, ↓p8_8_b, ↓g8_9_b, ↓p8_9_b, ↓g8_10_b, ↓p8_10_b, ↓r8_11_b, ↓r15_0_b, ↓g15_1_b, ↓p15_1_b, ↓g15_2_b, ↓p15_2_b, ↓g15_3_b, ↓p15_3_b, ↓g15_4_b, ↓p15_4_b, ↓g15_5_b, ↓p15_5_b, ↓r28_0_b, ↓r28_1_b, ↓r28_2_b, ↓r28_3_b, ↓r28_4_b, ↓r28_5_b, ↓r28_6_b, ↓r28_7_b, ↓g28_8_b, ↓p28_8_b, ↓r37_0_b, ↓r37_1_b, ↓r44_0_b, ↓r44_1_b, ↓r44_2_b, ↓lr_0_b, ↓lr_1_b, ↓lg_2_b, ↓lp_2_b, ↓lg_3_b, ↓lp_3_b, ↓lg_4_b, ↓lp_4_b, ↓lg_5_b, ↓lp_5_b, ↓q4_3_b, ↓q4_13_b, ↓q4_14_b, ↓q5_0_b, ↓q15_0_b, ↓q28_6_b, ↓q28_7_b, ↓a3_b, ↓w3_b, ↓n3_b, ↓a9_b, ↓w9_b, ↓n9_b, ↓a10_b, ↓w10_b, ↓n10_b, ↓a11_b, ↓w11_b, ↓n11_b, ↓a12_b, ↓w12_b, ↓n12_b, ↓a13_b, ↓w13_b, ↓n13_b, ↓a14_b, ↓w14_b, ↓n14_b, ↓a17_b, ↓w17_b, ↓n17_b, ↓a18_b, ↓w18_b, ↓n18_b, ↓a19_b, ↓w19_b, ↓n19_b, ↓a20_b, ↓w20_b, ↓n20_b, ↓a39_b, ↓w39_b, ↓n39_b, ↓a40_b, ↓w40_b, ↓n40_b, ↓a42_b, ↓w42_b, ↓n42_b, ↓a43_b, ↓w43_b, ↓n43_b, ↓a45_b, ↓w45_b, ↓n45_b, ↓a46_b, ↓w46_b, ↓n46_b, ↓a47_b, ↓w47_b, ↓n47_b, ↓n2_b, ↓n21_b, ↓n38_b, ↓n41_b, r0_0, g0_1, p0_1, r0_2, r0_3, r0_4, r0_5, r0_6, r0_7, r4_0, r4_1, r4_2, r4_3, g4_4, p4_4, g4_5, p4_5, r4_6, r4_7, g4_8, p4_8, r4_9, r4_10, g4_11, p4_11, r4_12, r4_13, r4_14, g4_15, p4_15, g4_16, p4_16, g4_17, p4_17, g4_18, p4_18, r5_0, g5_1, p5_1, g5_2, p5_2, r5_3, g5_4, p5_4, g5_5, p5_5, g5_6, p5_6, g5_7, p5_7, g5_8, p5_8, g5_9, p5_9, r8_0, r8_1, r8_2, r8_3, g8_4, p8_4, r8_5, g8_6, p8_6, g8_7, p8_7, g8_8, p8_8, g8_9, p8_9, g8_10, p8_10, r8_11, r15_0, g15_1, p15_1, g15_2, p15_2, g15_3, p15_3, g15_4, p15_4, g15_5, p15_5, r28_0, r28_1, r28_2, r28_3, r28_4, r28_5, r28_6, r28_7, g28_8, p28_8, r37_0, r37_1, r44_0, r44_1, r44_2, lr_0, lr_1, lg_2, lp_2, lg_3, lp_3, lg_4, lp_4, lg_5, lp_5, cl_0, cl_4, cl_5, cl_8, cl_15, cl_28, cl_37, cl_44, cl_p, q4_3, q4_13, q4_14, q5_0, q15_0, q28_6, q28_7, a3, w3, n3, a9, w9, n9, a10, w10, n10, a11, w11, n11, a12, w12, n12, a13, w13, n13, a14, w14, n14, a17, w17, n17, a18, w18, n18, a19, w19, n19, a20, w20, n20, a39, w39, n39, a40, w40, n40, a42, w42, n42, a43, w43, n43, a45, w45, n45, a46, w46, n46, a47, w47, n47, n2, n21, n38, n41, al2, al21, al38a, al38b, al41a, al41b, as2, as21, c_lB, c_sB, c_nB, c_lT, c_sT, c_nT, c_lD, c_sD, c_nD, c_lS, c_sS, c_cpB, h_nI, Int.cast_ofNat_Int, h_b8, Int.bmod_bmod, h_add, h_sub, h_mul, h_neg, h_zero, h_and255, h_and15, h_and3, h_cltT, h_cltF, h_cgeT, h_cgeF, h_cgtT, h_cgtF, h_cleT, h_cleF, h_ceqT, h_ceqF, h_cneT, h_cneF, c_nx_uI, c_sl_uI, c_ro_uI, c_da_uI, c_dn_uI, c_ba_uI, c_bn_uI, c_ta_uI, c_tn_uI, c_A_uI, c_B_uI, c_T_uI, c_I_uI, c_L_uI, c_P_uI, c_old_uI, c_nx_uA, c_sl_uA, c_ro_uA, c_da_uA, c_dn_uA, c_ba_uA, c_bn_uA, c_ta_uA, c_tn_uA, c_A_uA, c_B_uA, c_T_uA, c_I_uA, c_L_uA, c_P_uA, c_old_uA, c_nx_uB, c_sl_uB, c_ro_uB, c_da_uB, c_dn_uB, c_ba_uB, c_bn_uB, c_ta_uB, c_tn_uB, c_A_uB, c_B_uB, c_T_uB, c_I_uB, c_L_uB, c_P_uB, c_old_uB, c_nx_uT, c_sl_uT, c_ro_uT, c_da_uT, c_dn_uT, c_ba_uT, c_bn_uT, c_ta_uT, c_tn_uT, c_A_uT, c_B_uT, c_T_uT, c_I_uT, c_L_uT, c_P_uT, c_old_uT, c_nx_uP, c_sl_uP, c_ro_uP, c_da_uP, c_dn_uP, c_ba_uP, c_bn_uP, c_ta_uP, c_tn_uP, c_A_uP, c_B_uP, c_T_uP, c_I_uP, c_L_uP, c_P_uP, c_old_uP, c_nx_uL, c_sl_uL, c_ro_uL, c_da_uL, c_dn_uL, c_ba_uL, c_bn_uL, c_ta_uL, c_tn_uL, c_A_uL, c_B_uL, c_T_uL, c_I_uL, c_P_uL, c_old_uL, c_nx_cB, c_sl_cB, c_ro_cB, c_da_cB, c_dn_cB, c_ba_cB, c_bn_cB, c_ta_cB, c_tn_cB, c_A_cB, c_B_cB, c_T_cB, c_I_cB, c_L_cB, c_P_cB, c_old_cB, c_L_uL, c_nx_xB, c_sl_xB, c_I_xB, c_L_xB, c_P_xB, c_da_xB, c_dn_xB, c_A_xB, c_ba_xB, c_bn_xB, c_B_xB, c_ta_xB, c_tn_xB, c_T_xB, c_nx_xT, c_sl_xT, c_I_xT, c_L_xT, c_P_xT, c_da_xT, c_dn_xT, c_A_xT, c_ba_xT, c_bn_xT, c_B_xT, c_ta_xT, c_tn_xT, c_T_xT, c_nx_xD, c_sl_xD, c_I_xD, c_L_xD, c_P_xD, c_da_xD, c_dn_xD, c_A_xD, c_ba_xD, c_bn_xD, c_B_xD, c_ta_xD, c_tn_xD, c_T_xD, c_t1, ↓reduceIte, Option.bind_some, am_ret0, am_ret1, am_ret2, if_true, if_false, true_and, and_true, false_and, and_false, not_true_eq_false, not_false_eq_true, Nat.reduceEqDiff, Nat.reduceAdd, Nat.reduceSub, Nat.reduceMul, Int.reduceAdd, Int.reduceSub, Int.reduceMul, Int.reduceNeg, Int.reduceToNat, Int.reduceLT, Int.reduceLE, Nat.add_left_cancel_iff, e2]
    · exact ((hV.fTk f1).u4 (f := 95) (v := 7)).u4 (f := 96)
    · rw [c_I_uI, if_pos ⟨rfl, rfl⟩]
  | none =>
    obtain ⟨e1, hLs⟩ := r1 hz
    have e1' : am_gg (am_pr ad) (d + 6) 102 0 [some (.ref b), none, none] [] (c_t R σ) = some (.inl (some (.int (h_ii 1))), c_t R s1) := by
      rw [B102_0, h_nI]
      exact e1
    have hth := z_to_none _ hz
    have hV1 := hV.fTk f1
    have hl12 := s1.hL 12
    obtain ⟨s2, e2, f2, w2⟩ := l_clear (R := R) (ad := ad) (d := d + 3) hl12 (hV1.2.2.1 _ hl12)
    have hL2 : s2.L 12 = s1.L 12 := f2.2.2.2.1 12
    have hD1 : c_Dn s1 (z_opl T l k).length (z_S F Gv (z_opl T l k)) := by
      refine c_Dn.take f1 hLo.1 hn (fun i hi => hLs i (Nat.zero_le _) hi) (fun i hi => ?_)
      obtain ⟨_, _, b1, b2⟩ := hLo.2.2 i hi
      have h4 := hth i hi
      unfold z_S z_wl
      by_cases q : ((z_opl T l k).getD i z_00).1 = 10
      · rw [if_pos q, if_pos q]
        refine ⟨fun w => ?_, hgv ⟨i, hi, q⟩⟩
        have := hV.2.1 11 12 (by omega) (by omega) w
        omega
      · rw [if_neg q, if_neg q]
        refine ⟨fun w => ?_, hV.2.2.2.2.1 _ (by omega) ?_⟩
        · have := hV.2.1 _ 12 (by omega) (by omega) w
          omega
        · rcases h4 with w | w
          · exact absurd w q
          · exact w
    have hV2 : c_V s2 [] F th 0 0 0 := hV1.giv f2 w2.1
    have k2 : c_kT σ s2 := f1.kT.trans (f2.fT.kT hl12)
    have hTI : c_TI s2 T O t W l k' (z_opl T l k).length (z_S F Gv (z_opl T l k)) := by
      refine ⟨(hP.fTk f1).fT f2.fT, hD1.fT f2.fT, by rw [hL2]; exact w2, hV2.2.2.2.2.2.2.2, hC.kT k2, ?_, fun q => (hLw.1 q).1.ext ?_ ?_⟩
      · rw [f2.1 4 84 (by omega), f1.i, h84]
        omega
      · rw [f2.1 4 91 (by omega), f1.i]
      · intro y i hy
        rw [f2.2.1 y i (by omega), f1.a]
    obtain ⟨s3, e3, m3⟩ := v_tool (R := R) (ad := ad) (d := d) hT hTI z
    have e0 := v_sw (d := d) hG hT hP0 e1' e2 (by rw [f2.2.2.2.2.1, f1.2.2.2.2.2.2.1]; exact hP0)
    have j84 : s2.I 4 84 = x_pla W t k := by rw [f2.1 4 84 (by omega), f1.i, h84]
    have hl2 := s2.hL 12
    generalize z_S F Gv (z_opl T l k) = Sx at m3 ⊢
    generalize z_tL0 T O W l Sx (z_opl T l k).length = LL at m3 ⊢
    rw [e0, e3]
    dsimp only
    cases hu : z_tu T O (x_all W) Sx with
    | some u =>
      rw [hu] at m3
      obtain ⟨τ, g1, g2, g3⟩ := m3
      have hVt := hV2.fT g1 g2.1
      have h95 : s3.I 4 95 = 8 := by
        rw [g3]
        simp only [c_nx_uI, c_sl_uI, c_ro_uI, c_da_uI, c_dn_uI, c_ba_uI, c_bn_uI, c_ta_uI, c_tn_uI, c_A_uI, c_B_uI, c_T_uI, c_I_uI, c_L_uI, c_P_uI, c_old_uI, c_nx_uA, c_sl_uA, c_ro_uA, c_da_uA, c_dn_uA, c_ba_uA, c_bn_uA, c_ta_uA, c_tn_uA, c_A_uA, c_B_uA, c_T_uA, c_I_uA, c_L_uA, c_P_uA, c_old_uA, c_nx_uB, c_sl_uB, c_ro_uB, c_da_uB, c_dn_uB, c_ba_uB, c_bn_uB, c_ta_uB, c_tn_uB, c_A_uB, c_B_uB, c_T_uB, c_I_uB, c_L_uB, c_P_uB, c_old_uB, c_nx_uT, c_sl_uT, c_ro_uT, c_da_uT, c_dn_uT, c_ba_uT, c_bn_uT, c_ta_uT, c_tn_uT, c_A_uT, c_B_uT, c_T_uT, c_I_uT, c_L_uT, c_P_uT, c_old_uT, c_nx_uP, c_sl_uP, c_ro_uP, c_da_uP, c_dn_uP, c_ba_uP, c_bn_uP, c_ta_uP, c_tn_uP, c_A_uP, c_B_uP, c_T_uP, c_I_uP, c_L_uP, c_P_uP, c_old_uP, c_nx_uL, c_sl_uL, c_ro_uL, c_da_uL, c_dn_uL, c_ba_uL, c_bn_uL, c_ta_uL, c_tn_uL, c_A_uL, c_B_uL, c_T_uL, c_I_uL, c_P_uL, c_old_uL, c_nx_cB, c_sl_cB, c_ro_cB, c_da_cB, c_dn_cB, c_ba_cB, c_bn_cB, c_ta_cB, c_tn_cB, c_A_cB, c_B_cB, c_T_cB, c_I_cB, c_L_cB, c_P_cB, c_old_cB, c_L_uL, c_nx_xB, c_sl_xB, c_I_xB, c_L_xB, c_P_xB, c_da_xB, c_dn_xB, c_A_xB, c_ba_xB, c_bn_xB, c_B_xB, c_ta_xB, c_tn_xB, c_T_xB, c_nx_xT, c_sl_xT, c_I_xT, c_L_xT, c_P_xT, c_da_xT, c_dn_xT, c_A_xT, c_ba_xT, c_bn_xT, c_B_xT, c_ta_xT, c_tn_xT, c_T_xT, c_nx_xD, c_sl_xD, c_I_xD, c_L_xD, c_P_xD, c_da_xD, c_dn_xD, c_A_xD, c_ba_xD, c_bn_xD, c_B_xD, c_ta_xD, c_tn_xD, c_T_xD, Nat.reduceEqDiff, and_false, and_self, if_false, if_true]
      refine ⟨c_sw s3, v_246a h95 (by decide) (by decide), ?_, ?_, ?_⟩
      · refine (k2.trans ((g1.kT hl2).trans ?_)).trans (c_kT.sw s3)
        rw [g3]
        exact (((c_kT.u4 τ (by omega)).trans (c_kT.u4 _ (by omega))).trans (c_kT.u4 _ (by omega))).trans (c_kT.u4 _ (by omega))
      · refine c_V.sw ?_
        rw [g3]
        exact (((hVt.u4 (f := 97) (v := (u.1 : Int))).u4 (f := 98) (v := (u.2 : Int))).u4 (f := 95) (v := 8)).u4 (f := 96)
      · show s3.I 4 96 = _
        rw [g3, c_I_uI, if_pos ⟨rfl, rfl⟩]
        exact j84
    | none =>
      rw [hu] at m3
      obtain ⟨g1, g2⟩ := m3
      have hV3 := hV2.fT g1 g2.1
      have h95 : s3.I 4 95 = 0 := hV3.2.2.2.2.2.2.1.1
      have hL3 : s3.L 12 = s2.L 12 := g1.2.2.2.1 12
      dsimp only
      by_cases q : x_fit LL
      · rw [z_fb_t q, if_pos rfl]
        have h25 : s3.I (s3.L 12) 25 = 0 := by rw [hL3]; exact g2.full0 q
        refine ⟨c_sw s3, v_246b h95 h25, (k2.trans (g1.kT hl2)).trans (c_kT.sw s3), hV3.sw, ?_⟩
        rw [c_sw_L, if_neg (by decide), if_pos rfl, hL3]
        exact ((g2.2.2.1 q).F q).ll (c_ll.sw s3) hl2
      · rw [z_fb_f q, if_neg (by decide)]
        have h25 : s3.I (s3.L 12) 25 = 1 := by rw [hL3]; exact g2.full1 q
        have k84 : s3.I 4 84 = x_pla W t k := (g1.1 4 84 (by omega) (by omega) (by omega) (by omega) (by omega) (by omega)).trans j84
        obtain ⟨s4, hs4⟩ : ∃ s, s = c_uI (c_uI s3 4 95 9) 4 96 (x_pla W t k : Int) := ⟨_, rfl⟩
        have i96 : s4.I 4 96 = x_pla W t k := by rw [hs4, c_I_uI, if_pos ⟨rfl, rfl⟩]
        have V4 : c_V s4 [] F th ((9 : Nat) : Int) 0 0 := by
          rw [hs4]
          exact (hV3.u4 (f := 95) (v := 9)).u4 (f := 96)
        have k4 : c_kT s3 s4 := by
          rw [hs4]
          exact (c_kT.u4 s3 (by omega)).trans (c_kT.u4 _ (by omega))
        have e4 : am_gg (am_pr ad) (d + 7) 101 246 [some (.ref b)] [] (c_t R s3) = some (.inl none, c_t R (c_sw s4)) := by
          rw [hs4]
          exact v_246c h95 h25 k84
        exact ⟨c_sw s4, e4, ((k2.trans (g1.kT hl2)).trans k4).trans (c_kT.sw _), V4.sw, i96⟩
end DO
