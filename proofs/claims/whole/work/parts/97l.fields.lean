/-! PARTS OF A LINE -/
/-- how many stand first for which p holds -/
def x_run (p : Int → Bool) : List Int → Nat
  | [] => 0
  | c :: r => if p c = true then x_run p r + 1 else 0
theorem x_run_le (p : Int → Bool) : ∀ l : List Int, x_run p l ≤ l.length
  | [] => Nat.le_refl _
  | c :: r => by
    have := x_run_le p r
    unfold x_run
    rw [List.length_cons]
    split <;> omega
/-- from a place on as long as p holds -/
def x_ru (p : Int → Bool) (w : List Int) (i : Nat) : Nat := i + x_run p (w.drop i)
theorem x_ru_end {p : Int → Bool} {w : List Int} {i : Nat} (h : w.length ≤ i) : x_ru p w i = i := by
  unfold x_ru
  rw [List.drop_eq_nil_of_le h]
  rfl
theorem x_ru_yes {p : Int → Bool} {w : List Int} {i : Nat} (h : i < w.length) (hp : p (w.getD i 0) = true) : x_ru p w i = x_ru p w (i + 1) := by
  unfold x_ru
  rw [x_drop h, x_run, if_pos hp]
  omega
theorem x_ru_no {p : Int → Bool} {w : List Int} {i : Nat} (h : i < w.length) (hp : p (w.getD i 0) = false) : x_ru p w i = i := by
  unfold x_ru
  rw [x_drop h, x_run, if_neg (by rw [hp]; decide)]
  omega
theorem x_ru_ge (p : Int → Bool) (w : List Int) (i : Nat) : i ≤ x_ru p w i := Nat.le_add_right _ _
theorem x_ru_le {p : Int → Bool} {w : List Int} {i : Nat} (h : i ≤ w.length) : x_ru p w i ≤ w.length := by
  unfold x_ru
  have := x_run_le p (w.drop i)
  rw [List.length_drop] at this
  omega
def x_isb (c : Int) : Bool := decide (c = 32 ∨ c = 9)
/-- behind blanks, behind what are no blanks, behind bytes that are not c -/
def x_bl (w : List Int) (i : Nat) : Nat := x_ru x_isb w i
def x_nb (w : List Int) (i : Nat) : Nat := x_ru (fun c => !x_isb c) w i
def x_nc (c : Int) (w : List Int) (i : Nat) : Nat := x_ru (fun v => decide (v ≠ c)) w i
/-- one step: whether a part is there; from, to, next -/
def z_s1 (w : List Int) (c : Int) (s : Nat × Nat × Nat) : Bool × Nat × Nat × Nat := if 0 ≤ c then (if s.2.2 ≤ w.length then (true, s.2.2, x_nc c w s.2.2, x_nc c w s.2.2 + 1) else (false, s)) else (decide ((if c = -1 then x_bl w s.2.2 else s.2.2) < x_nb w (x_bl w s.2.2)), (if c = -1 then x_bl w s.2.2 else s.2.2), x_nb w (x_bl w s.2.2), x_nb w (x_bl w s.2.2))
def z_sn (w : List Int) (c : Int) : Nat → Nat × Nat × Nat → Bool × Nat × Nat × Nat
  | 0, s => (true, s)
  | n + 1, s => if (z_s1 w c s).1 = true then z_sn w c n (z_s1 w c s).2 else (false, (z_s1 w c s).2)
/-- what is true of a state -/
def z_sb (w : List Int) (s : Nat × Nat × Nat) : Prop := s.1 ≤ s.2.1 ∧ s.2.1 ≤ w.length ∧ s.2.2 ≤ w.length + 1
theorem z_s1_sb {w : List Int} {c : Int} {s : Nat × Nat × Nat} (h : z_sb w s) (hc : c < 0 → s.2.2 ≤ w.length) : z_sb w (z_s1 w c s).2 ∧ (c < 0 → (z_s1 w c s).2.2.2 ≤ w.length) := by
  unfold z_s1
  by_cases q : 0 ≤ c
  · rw [if_pos q]
    by_cases q2 : s.2.2 ≤ w.length
    · rw [if_pos q2]
      have h1 := x_ru_ge (fun v => decide (v ≠ c)) w s.2.2
      have h2 := x_ru_le (p := fun v => decide (v ≠ c)) q2
      refine ⟨⟨?_, ?_, ?_⟩, fun w => by omega⟩ <;> dsimp only <;> unfold x_nc <;> omega
    · rw [if_neg q2]
      exact ⟨h, fun w => by omega⟩
  · rw [if_neg q]
    have hn := hc (by omega)
    have h1 := x_ru_ge x_isb w s.2.2
    have h2 := x_ru_le (p := x_isb) hn
    have h3 := x_ru_ge (fun c => !x_isb c) w (x_ru x_isb w s.2.2)
    have h4 := x_ru_le (p := fun c => !x_isb c) h2
    refine ⟨⟨?_, ?_, ?_⟩, fun _ => ?_⟩ <;> dsimp only <;> unfold x_nb x_bl
    · split <;> omega
    · omega
    · omega
    · omega
section FD
variable {b : Nat} {R : Nat → Option va_E} {σ : c_S b} {ad : Nat → Nat} {d q l : Nat} {S : List (List Int)} {c : Int}
/-- only the parts' object has changed -/
def c_f5 (σ σ' : c_S b) : Prop := (∀ k f, k ≠ 15 → σ'.I k f = σ.I k f) ∧ (∀ z i, σ'.A z i = σ.A z i) ∧ (∀ z, σ'.da z = σ.da z ∧ σ'.dn z = σ.dn z) ∧ (∀ k, σ'.L k = σ.L k) ∧ (∀ k, k ≠ 2 → σ'.P k = σ.P k) ∧ (∀ p, σ'.ba p = σ.ba p ∧ σ'.bn p = σ.bn p ∧ σ'.ta p = σ.ta p ∧ σ'.tn p = σ.tn p ∧ (∀ i, σ'.B p i = σ.B p i) ∧ (∀ i, σ'.T p i = σ.T p i)) ∧ σ'.nx = σ.nx ∧ σ'.sl = σ.sl
theorem c_f5.refl (σ : c_S b) : c_f5 σ σ := ⟨fun _ _ _ => rfl, fun _ _ => rfl, fun _ => ⟨rfl, rfl⟩, fun _ => rfl, fun _ _ => rfl, fun _ => ⟨rfl, rfl, rfl, rfl, fun _ => rfl, fun _ => rfl⟩, rfl, rfl⟩
theorem c_f5.trans {σ σ' σ'' : c_S b} (h : c_f5 σ σ') (h2 : c_f5 σ' σ'') : c_f5 σ σ'' := by
  obtain ⟨a1, a3, a4, a5, a6, a7, a8, a9⟩ := h
  obtain ⟨b1, b3, b4, b5, b6, b7, b8, b9⟩ := h2
  refine ⟨fun k f h => (b1 k f h).trans (a1 k f h), fun z i => (b3 z i).trans (a3 z i), fun z => ⟨(b4 z).1.trans (a4 z).1, (b4 z).2.trans (a4 z).2⟩, fun k => (b5 k).trans (a5 k), fun k h => (b6 k h).trans (a6 k h), fun p => ?_, b8.trans a8, b9.trans a9⟩
  obtain ⟨c1, c2, c3, c4, c5, c6⟩ := a7 p
  obtain ⟨d1, d2, d3, d4, d5, d6⟩ := b7 p
  exact ⟨d1.trans c1, d2.trans c2, d3.trans c3, d4.trans c4, fun i => (d5 i).trans (c5 i), fun i => (d6 i).trans (c6 i)⟩
theorem c_f5.uI {f : Nat} {v : Int} (σ : c_S b) : c_f5 σ (c_uI σ 15 f v) := by
  refine ⟨fun k g h1 => ?_, ?_, ?_, ?_, ?_, ?_, ?_, ?_⟩ <;> simp only [c_nx_uI, c_sl_uI, c_ro_uI, c_da_uI, c_dn_uI, c_ba_uI, c_bn_uI, c_ta_uI, c_tn_uI, c_A_uI, c_B_uI, c_T_uI, c_I_uI, c_L_uI, c_P_uI, c_old_uI, c_nx_uA, c_sl_uA, c_ro_uA, c_da_uA, c_dn_uA, c_ba_uA, c_bn_uA, c_ta_uA, c_tn_uA, c_A_uA, c_B_uA, c_T_uA, c_I_uA, c_L_uA, c_P_uA, c_old_uA, c_nx_uB, c_sl_uB, c_ro_uB, c_da_uB, c_dn_uB, c_ba_uB, c_bn_uB, c_ta_uB, c_tn_uB, c_A_uB, c_B_uB, c_T_uB, c_I_uB, c_L_uB, c_P_uB, c_old_uB, c_nx_uT, c_sl_uT, c_ro_uT, c_da_uT, c_dn_uT, c_ba_uT, c_bn_uT, c_ta_uT, c_tn_uT, c_A_uT, c_B_uT, c_T_uT, c_I_uT, c_L_uT, c_P_uT, c_old_uT, c_nx_uP, c_sl_uP, c_ro_uP, c_da_uP, c_dn_uP, c_ba_uP, c_bn_uP, c_ta_uP, c_tn_uP, c_A_uP, c_B_uP, c_T_uP, c_I_uP, c_L_uP, c_P_uP, c_old_uP, c_nx_uL, c_sl_uL, c_ro_uL, c_da_uL, c_dn_uL, c_ba_uL, c_bn_uL, c_ta_uL, c_tn_uL, c_A_uL, c_B_uL, c_T_uL, c_I_uL, c_P_uL, c_old_uL, c_nx_cB, c_sl_cB, c_ro_cB, c_da_cB, c_dn_cB, c_ba_cB, c_bn_cB, c_ta_cB, c_tn_cB, c_A_cB, c_B_cB, c_T_cB, c_I_cB, c_L_cB, c_P_cB, c_old_cB, c_L_uL, c_nx_xB, c_sl_xB, c_I_xB, c_L_xB, c_P_xB, c_da_xB, c_dn_xB, c_A_xB, c_ba_xB, c_bn_xB, c_B_xB, c_ta_xB, c_tn_xB, c_T_xB, c_nx_xT, c_sl_xT, c_I_xT, c_L_xT, c_P_xT, c_da_xT, c_dn_xT, c_A_xT, c_ba_xT, c_bn_xT, c_B_xT, c_ta_xT, c_tn_xT, c_T_xT, c_nx_xD, c_sl_xD, c_I_xD, c_L_xD, c_P_xD, c_da_xD, c_dn_xD, c_A_xD, c_ba_xD, c_bn_xD, c_B_xD, c_ta_xD, c_tn_xD, c_T_xD] <;> first | (rw [if_neg (by omega)]) | (intros; rfl) | (intro p; exact ⟨rfl, rfl, rfl, rfl, fun _ => rfl, fun _ => rfl⟩) | (intros; trivial) | (intros; simp)
theorem c_f5.uP {v : Nat} (σ : c_S b) : c_f5 σ (c_uP σ 2 v) := by
  refine ⟨fun k g h1 => ?_, ?_, ?_, ?_, fun k hk => ?_, ?_, ?_, ?_⟩ <;> simp only [c_nx_uI, c_sl_uI, c_ro_uI, c_da_uI, c_dn_uI, c_ba_uI, c_bn_uI, c_ta_uI, c_tn_uI, c_A_uI, c_B_uI, c_T_uI, c_I_uI, c_L_uI, c_P_uI, c_old_uI, c_nx_uA, c_sl_uA, c_ro_uA, c_da_uA, c_dn_uA, c_ba_uA, c_bn_uA, c_ta_uA, c_tn_uA, c_A_uA, c_B_uA, c_T_uA, c_I_uA, c_L_uA, c_P_uA, c_old_uA, c_nx_uB, c_sl_uB, c_ro_uB, c_da_uB, c_dn_uB, c_ba_uB, c_bn_uB, c_ta_uB, c_tn_uB, c_A_uB, c_B_uB, c_T_uB, c_I_uB, c_L_uB, c_P_uB, c_old_uB, c_nx_uT, c_sl_uT, c_ro_uT, c_da_uT, c_dn_uT, c_ba_uT, c_bn_uT, c_ta_uT, c_tn_uT, c_A_uT, c_B_uT, c_T_uT, c_I_uT, c_L_uT, c_P_uT, c_old_uT, c_nx_uP, c_sl_uP, c_ro_uP, c_da_uP, c_dn_uP, c_ba_uP, c_bn_uP, c_ta_uP, c_tn_uP, c_A_uP, c_B_uP, c_T_uP, c_I_uP, c_L_uP, c_P_uP, c_old_uP, c_nx_uL, c_sl_uL, c_ro_uL, c_da_uL, c_dn_uL, c_ba_uL, c_bn_uL, c_ta_uL, c_tn_uL, c_A_uL, c_B_uL, c_T_uL, c_I_uL, c_P_uL, c_old_uL, c_nx_cB, c_sl_cB, c_ro_cB, c_da_cB, c_dn_cB, c_ba_cB, c_bn_cB, c_ta_cB, c_tn_cB, c_A_cB, c_B_cB, c_T_cB, c_I_cB, c_L_cB, c_P_cB, c_old_cB, c_L_uL, c_nx_xB, c_sl_xB, c_I_xB, c_L_xB, c_P_xB, c_da_xB, c_dn_xB, c_A_xB, c_ba_xB, c_bn_xB, c_B_xB, c_ta_xB, c_tn_xB, c_T_xB, c_nx_xT, c_sl_xT, c_I_xT, c_L_xT, c_P_xT, c_da_xT, c_dn_xT, c_A_xT, c_ba_xT, c_bn_xT, c_B_xT, c_ta_xT, c_tn_xT, c_T_xT, c_nx_xD, c_sl_xD, c_I_xD, c_L_xD, c_P_xD, c_da_xD, c_dn_xD, c_A_xD, c_ba_xD, c_bn_xD, c_B_xD, c_ta_xD, c_tn_xD, c_T_xD] <;> first | (rw [if_neg (by omega)]) | (intros; rfl) | (intro p; exact ⟨rfl, rfl, rfl, rfl, fun _ => rfl, fun _ => rfl⟩) | (intros; trivial) | (intros; simp)
theorem c_f5.ll {σ' : c_S b} (h : c_f5 σ σ') : c_ll σ σ' := fun p hp => ⟨fun f => h.1 p f (by omega), h.2.2.2.2.2.1 p⟩
/-- the parts' state on line l of the lines q -/
def c_E (σ : c_S b) (q : Nat) (S : List (List Int)) (l : Nat) (c : Int) (s : Nat × Nat × Nat) : Prop := σ.P 2 = σ.ba q ∧ σ.I 15 101 = c ∧ σ.I 15 102 = x_off S l + (S.getD l []).length ∧ σ.I 15 103 = x_off S l + s.2.2 ∧ σ.I 15 104 = x_off S l + s.1 ∧ σ.I 15 105 = x_off S l + s.2.1
theorem x_off1 {S : List (List Int)} {l : Nat} : x_off S (l + 1) = x_off S l + (S.getD l []).length := rfl
/-- open -/
theorem k_open (hq : c_lp q) (hF : c_F σ q S) (hl : l < S.length) : ∃ σ', am_gg (am_pr ad) (d + 1) 120 0 [some (.ref (b + 15)), some (.ref (b + q)), some (.int (h_ii l)), some (.int (h_ii c))] [] (c_t R σ) = some (.inl none, c_t R σ') ∧ c_f5 σ σ' ∧ c_E σ' q S l c (0, 0, 0) := by
  have ho := f_off hF (l + 1) (by omega)
  have h0 := f_off hF l (by omega)
  have hG := hF.1
  have hbn : (x_off S (l + 1) : Int) ≤ σ.bn q := by
    have := hG.2.2.1
    omega
  have hbn2 : σ.bn q ≤ 72000 := hG.2.2.2.2.2.1.2.1
  have f1 : c_f5 σ (c_uI (c_uP σ 2 (σ.ba q)) 15 101 c) := (c_f5.uP σ).trans (c_f5.uI _)
  have f2 : c_f5 σ (c_uI (c_uI (c_uP σ 2 (σ.ba q)) 15 101 c) 15 103 (x_off S l)) := f1.trans (c_f5.uI _)
  have e1 := f_startOf (R := R) (ad := ad) (d := d) hq (hF.ll f1.ll hq) (show l ≤ S.length by omega)
  have e2 := f_stopOf (R := R) (ad := ad) (d := d) hq (hF.ll f2.ll hq) hl
  have e3 := j_min (ad := ad) (d := d) (x := (x_off S (l + 1) : Int)) (y := (σ.bn q : Int)) (M := c_t R (c_uI (c_uI (c_uP σ 2 (σ.ba q)) 15 101 c) 15 103 (x_off S l))) (by omega) (by omega) (by omega) (by omega)
  rw [if_pos hbn] at e3
  refine ⟨c_uI (c_uI (c_uI (c_uI (c_uI (c_uP σ 2 (σ.ba q)) 15 101 c) 15 103 (x_off S l)) 15 102 (x_off S (l + 1))) 15 104 (x_off S l)) 15 105 (x_off S l), ?_, ((f2.trans (c_f5.uI _)).trans (c_f5.uI _)).trans (c_f5.uI _), ?_⟩
  · rw [B120_0]
    simp (disch := first | assumption | omega | exact c_S.hL _ _ | decide | (simp only [c_nx_uI, c_sl_uI, c_ro_uI, c_da_uI, c_dn_uI, c_ba_uI, c_bn_uI, c_ta_uI, c_tn_uI, c_A_uI, c_B_uI, c_T_uI, c_I_uI, c_L_uI, c_P_uI, c_old_uI, c_nx_uA, c_sl_uA, c_ro_uA, c_da_uA, c_dn_uA, c_ba_uA, c_bn_uA, c_ta_uA, c_tn_uA, c_A_uA, c_B_uA, c_T_uA, c_I_uA, c_L_uA, c_P_uA, c_old_uA, c_nx_uB, c_sl_uB, c_ro_uB, c_da_uB, c_dn_uB, c_ba_uB, c_bn_uB, c_ta_uB, c_tn_uB, c_A_uB, c_B_uB, c_T_uB, c_I_uB, c_L_uB, c_P_uB, c_old_uB, c_nx_uT, c_sl_uT, c_ro_uT, c_da_uT, c_dn_uT, c_ba_uT, c_bn_uT, c_ta_uT, c_tn_uT, c_A_uT, c_B_uT, c_T_uT, c_I_uT, c_L_uT, c_P_uT, c_old_uT, c_nx_uP, c_sl_uP, c_ro_uP, c_da_uP, c_dn_uP, c_ba_uP, c_bn_uP, c_ta_uP, c_tn_uP, c_A_uP, c_B_uP, c_T_uP, c_I_uP, c_L_uP, c_P_uP, c_old_uP, c_nx_uL, c_sl_uL, c_ro_uL, c_da_uL, c_dn_uL, c_ba_uL, c_bn_uL, c_ta_uL, c_tn_uL, c_A_uL, c_B_uL, c_T_uL, c_I_uL, c_P_uL, c_old_uL, c_nx_cB, c_sl_cB, c_ro_cB, c_da_cB, c_dn_cB, c_ba_cB, c_bn_cB, c_ta_cB, c_tn_cB, c_A_cB, c_B_cB, c_T_cB, c_I_cB, c_L_cB, c_P_cB, c_old_cB, c_L_uL, c_nx_xB, c_sl_xB, c_I_xB, c_L_xB, c_P_xB, c_da_xB, c_dn_xB, c_A_xB, c_ba_xB, c_bn_xB, c_B_xB, c_ta_xB, c_tn_xB, c_T_xB, c_nx_xT, c_sl_xT, c_I_xT, c_L_xT, c_P_xT, c_da_xT, c_dn_xT, c_A_xT, c_ba_xT, c_bn_xT, c_B_xT, c_ta_xT, c_tn_xT, c_T_xT, c_nx_xD, c_sl_xD, c_I_xD, c_L_xD, c_P_xD, c_da_xD, c_dn_xD, c_A_xD, c_ba_xD, c_bn_xD, c_B_xD, c_ta_xD, c_tn_xD, c_T_xD] <;> first | assumption | omega | exact c_S.hL _ _) | fail) only [↓c_lB_b, ↓c_sB_b, ↓c_nB_b, ↓c_lT_b, ↓c_sT_b, ↓c_nT_b, ↓c_lD_b, ↓c_sD_b, ↓c_nD_b, ↓c_lS_b, ↓c_sS_b, ↓al2_b, ↓al21_b, ↓as2_b, ↓as21_b, ↓r0_0_b, ↓g0_1_b, ↓p0_1_b, ↓r0_2_b, ↓r0_3_b, ↓r0_4_b, ↓r0_5_b, ↓r0_6_b, ↓r0_7_b, ↓r4_0_b, ↓r4_1_b, ↓r4_2_b, ↓r4_3_b, ↓g4_4_b, ↓p4_4_b, ↓g4_5_b, ↓p4_5_b, ↓r4_6_b, ↓r4_7_b, ↓g4_8_b, ↓p4_8_b, ↓r4_9_b, ↓r4_10_b, ↓g4_11_b, ↓p4_11_b, ↓r4_12_b, ↓r4_13_b, ↓r4_14_b, ↓g4_15_b, ↓p4_15_b, ↓g4_16_b, ↓p4_16_b, ↓g4_17_b, ↓p4_17_b, ↓g4_18_b, ↓p4_18_b, ↓r5_0_b, ↓g5_1_b, ↓p5_1_b, ↓g5_2_b, ↓p5_2_b, ↓r5_3_b, ↓g5_4_b, ↓p5_4_b, ↓g5_5_b, ↓p5_5_b, ↓g5_6_b, ↓p5_6_b, ↓g5_7_b, ↓p5_7_b, ↓g5_8_b, ↓p5_8_b, ↓g5_9_b, ↓p5_9_b, ↓r8_0_b, ↓r8_1_b, ↓r8_2_b, ↓r8_3_b, ↓g8_4_b, ↓p8_4_b, ↓r8_5_b, ↓g8_6_b, ↓p8_6_b, ↓g8_7_b, ↓p8_7_b, ↓g8_8_b, ↓p8_8_b, ↓g8_9_b, ↓p8_9_b, ↓g8_10_b, ↓p8_10_b, ↓r8_11_b, ↓r15_0_b, ↓g15_1_b, ↓p15_1_b, ↓g15_2_b, ↓p15_2_b, ↓g15_3_b, ↓p15_3_b, ↓g15_4_b, ↓p15_4_b, ↓g15_5_b, ↓p15_5_b, ↓r28_0_b, ↓r28_1_b, ↓r28_2_b, ↓r28_3_b, ↓r28_4_b, ↓r28_5_b, ↓r28_6_b, ↓r28_7_b, ↓g28_8_b, ↓p28_8_b, ↓r37_0_b, ↓r37_1_b, ↓r44_0_b, ↓r44_1_b, ↓r44_2_b, ↓lr_0_b, ↓lr_1_b, ↓lg_2_b, ↓lp_2_b, ↓lg_3_b, ↓lp_3_b, ↓lg_4_b, ↓lp_4_b, ↓lg_5_b, ↓lp_5_b, ↓q4_3_b, ↓q4_13_b, ↓q4_14_b, ↓q5_0_b, ↓q15_0_b, ↓q28_6_b, ↓q28_7_b, ↓a3_b, ↓w3_b, ↓n3_b, ↓a9_b, ↓w9_b, ↓n9_b, ↓a10_b, ↓w10_b, ↓n10_b, ↓a11_b, ↓w11_b, ↓n11_b, ↓a12_b, ↓w12_b, ↓n12_b, ↓a13_b, ↓w13_b, ↓n13_b, ↓a14_b, ↓w14_b, ↓n14_b, ↓a17_b, ↓w17_b, ↓n17_b, ↓a18_b, ↓w18_b, ↓n18_b, ↓a19_b, ↓w19_b, ↓n19_b, ↓a20_b, ↓w20_b, ↓n20_b, ↓a39_b, ↓w39_b, ↓n39_b, ↓a40_b, ↓w40_b, ↓n40_b, ↓a42_b, ↓w42_b, ↓n42_b, ↓a43_b, ↓w43_b, ↓n43_b, ↓a45_b, ↓w45_b, ↓n45_b, ↓a46_b, ↓w46_b, ↓n46_b, ↓a47_b, ↓w47_b, ↓n47_b, ↓n2_b, ↓n21_b, ↓n38_b, ↓n41_b, r0_0, g0_1, p0_1, r0_2, r0_3, r0_4, r0_5, r0_6, r0_7, r4_0, r4_1, r4_2, r4_3, g4_4, p4_4, g4_5, p4_5, r4_6, r4_7, g4_8, p4_8, r4_9, r4_10, g4_11, p4_11, r4_12, r4_13, r4_14, g4_15, p4_15, g4_16, p4_16, g4_17, p4_17, g4_18, p4_18, r5_0, g5_1, p5_1, g5_2, p5_2, r5_3, g5_4, p5_4, g5_5, p5_5, g5_6, p5_6, g5_7, p5_7, g5_8, p5_8, g5_9, p5_9, r8_0, r8_1, r8_2, r8_3, g8_4, p8_4, r8_5, g8_6, p8_6, g8_7, p8_7, g8_8, p8_8, g8_9, p8_9, g8_10, p8_10, r8_11, r15_0, g15_1, p15_1, g15_2, p15_2, g15_3, p15_3, g15_4, p15_4, g15_5, p15_5, r28_0, r28_1, r28_2, r28_3, r28_4, r28_5, r28_6, r28_7, g28_8, p28_8, r37_0, r37_1, r44_0, r44_1, r44_2, lr_0, lr_1, lg_2, lp_2, lg_3, lp_3, lg_4, lp_4, lg_5, lp_5, cl_0, cl_4, cl_5, cl_8, cl_15, cl_28, cl_37, cl_44, cl_p, q4_3, q4_13, q4_14, q5_0, q15_0, q28_6, q28_7, a3, w3, n3, a9, w9, n9, a10, w10, n10, a11, w11, n11, a12, w12, n12, a13, w13, n13, a14, w14, n14, a17, w17, n17, a18, w18, n18, a19, w19, n19, a20, w20, n20, a39, w39, n39, a40, w40, n40, a42, w42, n42, a43, w43, n43, a45, w45, n45, a46, w46, n46, a47, w47, n47, n2, n21, n38, n41, al2, al21, al38a, al38b, al41a, al41b, as2, as21, c_lB, c_sB, c_nB, c_lT, c_sT, c_nT, c_lD, c_sD, c_nD, c_lS, c_sS, c_cpB, h_nI, Int.cast_ofNat_Int, h_b8, Int.bmod_bmod, h_add, h_sub, h_mul, h_neg, h_zero, h_and255, h_and15, h_and3, h_cltT, h_cltF, h_cgeT, h_cgeF, h_cgtT, h_cgtF, h_cleT, h_cleF, h_ceqT, h_ceqF, h_cneT, h_cneF, c_nx_uI, c_sl_uI, c_ro_uI, c_da_uI, c_dn_uI, c_ba_uI, c_bn_uI, c_ta_uI, c_tn_uI, c_A_uI, c_B_uI, c_T_uI, c_I_uI, c_L_uI, c_P_uI, c_old_uI, c_nx_uA, c_sl_uA, c_ro_uA, c_da_uA, c_dn_uA, c_ba_uA, c_bn_uA, c_ta_uA, c_tn_uA, c_A_uA, c_B_uA, c_T_uA, c_I_uA, c_L_uA, c_P_uA, c_old_uA, c_nx_uB, c_sl_uB, c_ro_uB, c_da_uB, c_dn_uB, c_ba_uB, c_bn_uB, c_ta_uB, c_tn_uB, c_A_uB, c_B_uB, c_T_uB, c_I_uB, c_L_uB, c_P_uB, c_old_uB, c_nx_uT, c_sl_uT, c_ro_uT, c_da_uT, c_dn_uT, c_ba_uT, c_bn_uT, c_ta_uT, c_tn_uT, c_A_uT, c_B_uT, c_T_uT, c_I_uT, c_L_uT, c_P_uT, c_old_uT, c_nx_uP, c_sl_uP, c_ro_uP, c_da_uP, c_dn_uP, c_ba_uP, c_bn_uP, c_ta_uP, c_tn_uP, c_A_uP, c_B_uP, c_T_uP, c_I_uP, c_L_uP, c_P_uP, c_old_uP, c_nx_uL, c_sl_uL, c_ro_uL, c_da_uL, c_dn_uL, c_ba_uL, c_bn_uL, c_ta_uL, c_tn_uL, c_A_uL, c_B_uL, c_T_uL, c_I_uL, c_P_uL, c_old_uL, c_nx_cB, c_sl_cB, c_ro_cB, c_da_cB, c_dn_cB, c_ba_cB, c_bn_cB, c_ta_cB, c_tn_cB, c_A_cB, c_B_cB, c_T_cB, c_I_cB, c_L_cB, c_P_cB, c_old_cB, c_L_uL, c_nx_xB, c_sl_xB, c_I_xB, c_L_xB, c_P_xB, c_da_xB, c_dn_xB, c_A_xB, c_ba_xB, c_bn_xB, c_B_xB, c_ta_xB, c_tn_xB, c_T_xB, c_nx_xT, c_sl_xT, c_I_xT, c_L_xT, c_P_xT, c_da_xT, c_dn_xT, c_A_xT, c_ba_xT, c_bn_xT, c_B_xT, c_ta_xT, c_tn_xT, c_T_xT, c_nx_xD, c_sl_xD, c_I_xD, c_L_xD, c_P_xD, c_da_xD, c_dn_xD, c_A_xD, c_ba_xD, c_bn_xD, c_B_xD, c_ta_xD, c_tn_xD, c_T_xD, c_t1, ↓reduceIte, Option.bind_some, am_ret0, am_ret1, am_ret2, if_true, if_false, true_and, and_true, false_and, and_false, not_true_eq_false, not_false_eq_true, Nat.reduceEqDiff, Nat.reduceAdd, Nat.reduceSub, Nat.reduceMul, Int.reduceAdd, Int.reduceSub, Int.reduceMul, Int.reduceNeg, Int.reduceToNat, Int.reduceLT, Int.reduceLE, Nat.add_left_cancel_iff, e1, e2, e3, h_fit0]
  · rw [x_off1]
    refine ⟨?_, ?_, ?_, ?_, ?_, ?_⟩ <;> simp only [c_nx_uI, c_sl_uI, c_ro_uI, c_da_uI, c_dn_uI, c_ba_uI, c_bn_uI, c_ta_uI, c_tn_uI, c_A_uI, c_B_uI, c_T_uI, c_I_uI, c_L_uI, c_P_uI, c_old_uI, c_nx_uA, c_sl_uA, c_ro_uA, c_da_uA, c_dn_uA, c_ba_uA, c_bn_uA, c_ta_uA, c_tn_uA, c_A_uA, c_B_uA, c_T_uA, c_I_uA, c_L_uA, c_P_uA, c_old_uA, c_nx_uB, c_sl_uB, c_ro_uB, c_da_uB, c_dn_uB, c_ba_uB, c_bn_uB, c_ta_uB, c_tn_uB, c_A_uB, c_B_uB, c_T_uB, c_I_uB, c_L_uB, c_P_uB, c_old_uB, c_nx_uT, c_sl_uT, c_ro_uT, c_da_uT, c_dn_uT, c_ba_uT, c_bn_uT, c_ta_uT, c_tn_uT, c_A_uT, c_B_uT, c_T_uT, c_I_uT, c_L_uT, c_P_uT, c_old_uT, c_nx_uP, c_sl_uP, c_ro_uP, c_da_uP, c_dn_uP, c_ba_uP, c_bn_uP, c_ta_uP, c_tn_uP, c_A_uP, c_B_uP, c_T_uP, c_I_uP, c_L_uP, c_P_uP, c_old_uP, c_nx_uL, c_sl_uL, c_ro_uL, c_da_uL, c_dn_uL, c_ba_uL, c_bn_uL, c_ta_uL, c_tn_uL, c_A_uL, c_B_uL, c_T_uL, c_I_uL, c_P_uL, c_old_uL, c_nx_cB, c_sl_cB, c_ro_cB, c_da_cB, c_dn_cB, c_ba_cB, c_bn_cB, c_ta_cB, c_tn_cB, c_A_cB, c_B_cB, c_T_cB, c_I_cB, c_L_cB, c_P_cB, c_old_cB, c_L_uL, c_nx_xB, c_sl_xB, c_I_xB, c_L_xB, c_P_xB, c_da_xB, c_dn_xB, c_A_xB, c_ba_xB, c_bn_xB, c_B_xB, c_ta_xB, c_tn_xB, c_T_xB, c_nx_xT, c_sl_xT, c_I_xT, c_L_xT, c_P_xT, c_da_xT, c_dn_xT, c_A_xT, c_ba_xT, c_bn_xT, c_B_xT, c_ta_xT, c_tn_xT, c_T_xT, c_nx_xD, c_sl_xD, c_I_xD, c_L_xD, c_P_xD, c_da_xD, c_dn_xD, c_A_xD, c_ba_xD, c_bn_xD, c_B_xD, c_ta_xD, c_tn_xD, c_T_xD, Nat.reduceEqDiff, and_false, and_self, if_false, if_true, Int.ofNat_zero, Int.add_zero] <;> omega
end FD
