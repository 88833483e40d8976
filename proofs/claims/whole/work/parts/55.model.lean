/-! THE REFERENCE'S STATE, AS A RECORD (printed by wip/whole/gen55.py) -/
def m_S : Type := (Nat → Int) × (Nat → Nat → Int)
def m_S.I (μ : m_S) : Nat → Int := Prod.fst μ
def m_S.A (μ : m_S) : Nat → Nat → Int := Prod.snd μ
def m_mk (I : Nat → Int) (A : Nat → Nat → Int) : m_S := (I, A)
def m_tg : List Nat := [0, 0, 1, 1, 2, 0, 0, 2, 1, 1, 1, 0, 3, 2, 1, 1, 1, 1, 1, 1, 1, 1, 2]
def m_ln : List Nat := [0, 936000, 3900, 13, 13, 9000, 9000, 9000, 9002, 9002, 9002, 9002, 13, 128, 128, 128, 24, 24, 3400, 3400, 256, 256, 256]
def m_rx : List Nat := [0, 1, 2, 3, 4, 5, 0, 6, 7, 8, 9, 10, 11, 0, 0, 0, 0, 0, 12, 0, 0, 0, 13, 14, 15, 0, 0, 0, 0, 16, 17, 0, 0, 18, 19, 0, 0, 0, 0, 0, 0, 0, 0, 0, 20, 21, 22]
def m_fv (m : Nat) (μ : m_S) : List Value := (List.range 47).map (fun f => if m_rx.getD f 0 = 0 then .int (h_ii (μ.I f)) else .ref (m + m_rx.getD f 0))
def m_ce (m : Nat) (μ : m_S) (k : Nat) : Option va_E :=
  if k = 0 then some (.inr (9, m_fv m μ))
  else if k = 12 then some (.inl (3, 13, .inr (.inl (fun i => Int64.ofInt (μ.A 12 i)))))
  else some (.inl (m_tg.getD k 0, m_ln.getD k 0, .inl (fun i => h_ii (μ.A k i))))
def m_t (M : am_M) (m : Nat) (μ : m_S) : am_M := (M.1, M.2.1, fun q => if m ≤ q ∧ q < m + 23 then m_ce m μ (q - m) else M.2.2 q)
def m_uI (μ : m_S) (k : Nat) (v : Int) : m_S := m_mk (fun k' => if k' = k then v else μ.I k') μ.A
def m_uA (μ : m_S) (k i : Nat) (v : Int) : m_S := m_mk μ.I (fun k' i' => if k' = k ∧ i' = i then v else μ.A k' i')
theorem m_I_uI (μ : m_S) (k : Nat) (v : Int) (q : Nat) : (m_uI μ k v).I q = if q = k then v else μ.I q := (rfl)
theorem m_A_uI (μ : m_S) (k : Nat) (v : Int) (q j : Nat) : (m_uI μ k v).A q j = μ.A q j := (rfl)
theorem m_I_uA (μ : m_S) (k i : Nat) (v : Int) (q : Nat) : (m_uA μ k i v).I q = μ.I q := (rfl)
theorem m_A_uA (μ : m_S) (k i : Nat) (v : Int) (q j : Nat) : (m_uA μ k i v).A q j = if q = k ∧ j = i then v else μ.A q j := (rfl)
section MT
variable {M : am_M} {m : Nat} {μ : m_S}
theorem m_at {k : Nat} (h : k < 23) : (m_t M m μ).2.2 (m + k) = m_ce m μ k := by
  show (if m ≤ m + k ∧ m + k < m + 23 then m_ce m μ (m + k - m) else M.2.2 (m + k)) = _
  rw [if_pos (by omega), Nat.add_sub_cancel_left]
theorem m_fvat {f : Nat} (h : f < 47) : (m_fv m μ)[f]? = some (if m_rx.getD f 0 = 0 then .int (h_ii (μ.I f)) else .ref (m + m_rx.getD f 0)) := by
  unfold m_fv
  rw [List.getElem?_map, List.getElem?_range h]
  rfl
theorem m_fvl : (m_fv m μ).length = 47 := by simp [m_fv]
theorem m_ob : (m_t M m μ).2.2 m = some (.inr (9, m_fv m μ)) := m_at (k := 0) (by decide)
theorem m_gi {f : Nat} (h : f < 47) (hf : m_rx.getD f 0 = 0) : am_gi (m_t M m μ) m 9 f = some (h_ii (μ.I f)) := by
  simp only [am_gi, am_gv, m_ob, if_true, m_fvat h, if_pos hf]
theorem m_gr {f : Nat} (h : f < 47) (hf : m_rx.getD f 0 ≠ 0) : am_gr (m_t M m μ) m 9 f = some (m + m_rx.getD f 0) := by
  simp only [am_gr, am_gv, m_ob, if_true, m_fvat h, if_neg hf]
theorem m_ue {μ' : m_S} {k : Nat} {e : va_E} (hk : k < 23) (h3 : m_ce m μ' k = some e) (h4 : ∀ j, j ≠ k → m_ce m μ' j = m_ce m μ j) : am_upd (m_t M m μ) (m + k) e = m_t M m μ' := by
  unfold am_upd m_t
  refine congrArg (fun z => (M.1, M.2.1, z)) (funext fun q => ?_)
  show (if q = m + k then some e else if m ≤ q ∧ q < m + 23 then m_ce m μ (q - m) else M.2.2 q) = _
  by_cases h : q = m + k
  · subst h
    rw [if_pos rfl, if_pos (by omega), Nat.add_sub_cancel_left, h3]
  · rw [if_neg h]
    by_cases h2 : m ≤ q ∧ q < m + 23
    · rw [if_pos h2, if_pos h2, h4 _ (by omega)]
    · rw [if_neg h2, if_neg h2]
theorem m_pI {f ty : Nat} {v : Int} (h : f < 47) (hf : m_rx.getD f 0 = 0) (hty : am_fit ty (.int (h_ii v)) = true) : am_pf (m_t M m μ) m 9 f ty (.int (h_ii v)) = some (m_t M m (m_uI μ f v)) := by
  simp only [am_pf, m_ob]
  rw [if_pos ⟨trivial, by decide, by rw [m_fvl]; exact h, hty⟩]
  refine congrArg some (m_ue (k := 0) (by decide) ?_ ?_)
  · unfold m_ce
    rw [if_pos rfl]
    refine congrArg (fun z : List Value => (some (Sum.inr (9, z)) : Option va_E)) ?_
    apply List.ext_getElem?
    intro j
    rw [List.getElem?_set]
    by_cases hj : j < 47
    · rw [m_fvat hj, m_fvat hj]
      by_cases hjk : f = j
      · subst hjk
        rw [if_pos hf]
        simp [m_fvl, hj, m_I_uI]
      · have : ¬ j = f := fun w => hjk w.symm
        simp [hjk, m_I_uI, this]
    · rw [List.getElem?_eq_none (by rw [m_fvl]; omega), List.getElem?_eq_none (by rw [m_fvl]; omega)]
      rw [if_neg (by omega)]
  · intro j hj
    unfold m_ce
    rw [if_neg hj, if_neg hj]
    rfl
theorem m_ar {k t n : Nat} (hk : k < 23) (h0 : k ≠ 0) (h12 : k ≠ 12) (ht : m_tg.getD k 0 = t) (hn : m_ln.getD k 0 = n) : (m_t M m μ).2.2 (m + k) = some (.inl (t, n, .inl (fun i => h_ii (μ.A k i)))) := by
  rw [m_at hk]
  unfold m_ce
  rw [if_neg h0, if_neg h12, ht, hn]
theorem m_uf {k t n : Nat} {i v : Int} (hk : k < 23) (h0 : k ≠ 0) (h12 : k ≠ 12) (ht : m_tg.getD k 0 = t) (hn : m_ln.getD k 0 = n) : am_upd (m_t M m μ) (m + k) (.inl (t, n, .inl (fun j => h_ii (if j = i.toNat then v else μ.A k j)))) = m_t M m (m_uA μ k i.toNat v) := by
  refine m_ue hk ?_ ?_
  · unfold m_ce
    rw [if_neg h0, if_neg h12, ht, hn]
    refine congrArg (fun f : Nat → Int32 => (some (Sum.inl (t, n, Sum.inl f)) : Option va_E)) (funext fun j => ?_)
    rw [m_A_uA]
    by_cases hj : j = i.toNat <;> simp [hj]
  · intro j hj
    unfold m_ce
    have e : ∀ i', (m_uA μ k i.toNat v).A j i' = μ.A j i' := fun i' => by
      rw [m_A_uA, if_neg (fun w => hj w.1)]
    have e2 : ∀ i', (m_uA μ k i.toNat v).A 12 i' = μ.A 12 i' := fun i' => by
      rw [m_A_uA, if_neg (fun w => h12 w.1.symm)]
    simp only [e, e2]
    rfl
theorem m_cl : am_cls (m_t M m μ) m 9 = true := by
  have e := m_ob (M := M) (m := m) (μ := μ)
  simp [am_cls, e]
theorem m_t1 : (m_t M m μ).1 = M.1 := rfl
theorem mg_0 : am_gi (m_t M m μ) m 9 0 = some (h_ii (μ.I 0)) := m_gi (by decide) rfl
theorem mp_0 {v : Int} : am_pf (m_t M m μ) m 9 0 0 (.int (h_ii v)) = some (m_t M m (m_uI μ 0 v)) := m_pI (by decide) rfl rfl
theorem mr_1 : am_gr (m_t M m μ) m 9 1 = some (m + 1) := m_gr (by decide) (by decide)
theorem mr_2 : am_gr (m_t M m μ) m 9 2 = some (m + 2) := m_gr (by decide) (by decide)
theorem mr_3 : am_gr (m_t M m μ) m 9 3 = some (m + 3) := m_gr (by decide) (by decide)
theorem mr_4 : am_gr (m_t M m μ) m 9 4 = some (m + 4) := m_gr (by decide) (by decide)
theorem mr_5 : am_gr (m_t M m μ) m 9 5 = some (m + 5) := m_gr (by decide) (by decide)
theorem mg_6 : am_gi (m_t M m μ) m 9 6 = some (h_ii (μ.I 6)) := m_gi (by decide) rfl
theorem mp_6 {v : Int} : am_pf (m_t M m μ) m 9 6 0 (.int (h_ii v)) = some (m_t M m (m_uI μ 6 v)) := m_pI (by decide) rfl rfl
theorem mr_7 : am_gr (m_t M m μ) m 9 7 = some (m + 6) := m_gr (by decide) (by decide)
theorem mr_8 : am_gr (m_t M m μ) m 9 8 = some (m + 7) := m_gr (by decide) (by decide)
theorem mr_9 : am_gr (m_t M m μ) m 9 9 = some (m + 8) := m_gr (by decide) (by decide)
theorem mr_10 : am_gr (m_t M m μ) m 9 10 = some (m + 9) := m_gr (by decide) (by decide)
theorem mr_11 : am_gr (m_t M m μ) m 9 11 = some (m + 10) := m_gr (by decide) (by decide)
theorem mr_12 : am_gr (m_t M m μ) m 9 12 = some (m + 11) := m_gr (by decide) (by decide)
theorem mg_13 : am_gi (m_t M m μ) m 9 13 = some (h_ii (μ.I 13)) := m_gi (by decide) rfl
theorem mp_13 {v : Int} : am_pf (m_t M m μ) m 9 13 0 (.int (h_ii v)) = some (m_t M m (m_uI μ 13 v)) := m_pI (by decide) rfl rfl
theorem mg_14 : am_gi (m_t M m μ) m 9 14 = some (h_ii (μ.I 14)) := m_gi (by decide) rfl
theorem mp_14 {v : Int} : am_pf (m_t M m μ) m 9 14 0 (.int (h_ii v)) = some (m_t M m (m_uI μ 14 v)) := m_pI (by decide) rfl rfl
theorem mg_15 : am_gi (m_t M m μ) m 9 15 = some (h_ii (μ.I 15)) := m_gi (by decide) rfl
theorem mp_15 {v : Int} : am_pf (m_t M m μ) m 9 15 0 (.int (h_ii v)) = some (m_t M m (m_uI μ 15 v)) := m_pI (by decide) rfl rfl
theorem mg_16 : am_gi (m_t M m μ) m 9 16 = some (h_ii (μ.I 16)) := m_gi (by decide) rfl
theorem mp_16 {v : Int} : am_pf (m_t M m μ) m 9 16 0 (.int (h_ii v)) = some (m_t M m (m_uI μ 16 v)) := m_pI (by decide) rfl rfl
theorem mg_17 : am_gi (m_t M m μ) m 9 17 = some (h_ii (μ.I 17)) := m_gi (by decide) rfl
theorem mp_17 {v : Int} : am_pf (m_t M m μ) m 9 17 0 (.int (h_ii v)) = some (m_t M m (m_uI μ 17 v)) := m_pI (by decide) rfl rfl
theorem mr_18 : am_gr (m_t M m μ) m 9 18 = some (m + 12) := m_gr (by decide) (by decide)
theorem mg_19 : am_gi (m_t M m μ) m 9 19 = some (h_ii (μ.I 19)) := m_gi (by decide) rfl
theorem mp_19 {v : Int} : am_pf (m_t M m μ) m 9 19 0 (.int (h_ii v)) = some (m_t M m (m_uI μ 19 v)) := m_pI (by decide) rfl rfl
theorem mg_20 : am_gi (m_t M m μ) m 9 20 = some (h_ii (μ.I 20)) := m_gi (by decide) rfl
theorem mp_20 {v : Int} : am_pf (m_t M m μ) m 9 20 0 (.int (h_ii v)) = some (m_t M m (m_uI μ 20 v)) := m_pI (by decide) rfl rfl
theorem mg_21 : am_gi (m_t M m μ) m 9 21 = some (h_ii (μ.I 21)) := m_gi (by decide) rfl
theorem mp_21 {v : Int} : am_pf (m_t M m μ) m 9 21 0 (.int (h_ii v)) = some (m_t M m (m_uI μ 21 v)) := m_pI (by decide) rfl rfl
theorem mr_22 : am_gr (m_t M m μ) m 9 22 = some (m + 13) := m_gr (by decide) (by decide)
theorem mr_23 : am_gr (m_t M m μ) m 9 23 = some (m + 14) := m_gr (by decide) (by decide)
theorem mr_24 : am_gr (m_t M m μ) m 9 24 = some (m + 15) := m_gr (by decide) (by decide)
theorem mg_25 : am_gi (m_t M m μ) m 9 25 = some (h_ii (μ.I 25)) := m_gi (by decide) rfl
theorem mp_25 {v : Int} (hv : v = 0 ∨ v = 1) : am_pf (m_t M m μ) m 9 25 1 (.int (h_ii v)) = some (m_t M m (m_uI μ 25 v)) := m_pI (by decide) rfl (by rcases hv with rfl | rfl <;> decide)
theorem mg_26 : am_gi (m_t M m μ) m 9 26 = some (h_ii (μ.I 26)) := m_gi (by decide) rfl
theorem mp_26 {v : Int} (hv : v = 0 ∨ v = 1) : am_pf (m_t M m μ) m 9 26 1 (.int (h_ii v)) = some (m_t M m (m_uI μ 26 v)) := m_pI (by decide) rfl (by rcases hv with rfl | rfl <;> decide)
theorem mg_27 : am_gi (m_t M m μ) m 9 27 = some (h_ii (μ.I 27)) := m_gi (by decide) rfl
theorem mp_27 {v : Int} (hv : v = 0 ∨ v = 1) : am_pf (m_t M m μ) m 9 27 1 (.int (h_ii v)) = some (m_t M m (m_uI μ 27 v)) := m_pI (by decide) rfl (by rcases hv with rfl | rfl <;> decide)
theorem mg_28 : am_gi (m_t M m μ) m 9 28 = some (h_ii (μ.I 28)) := m_gi (by decide) rfl
theorem mp_28 {v : Int} (hv : v = 0 ∨ v = 1) : am_pf (m_t M m μ) m 9 28 1 (.int (h_ii v)) = some (m_t M m (m_uI μ 28 v)) := m_pI (by decide) rfl (by rcases hv with rfl | rfl <;> decide)
theorem mr_29 : am_gr (m_t M m μ) m 9 29 = some (m + 16) := m_gr (by decide) (by decide)
theorem mr_30 : am_gr (m_t M m μ) m 9 30 = some (m + 17) := m_gr (by decide) (by decide)
theorem mg_31 : am_gi (m_t M m μ) m 9 31 = some (h_ii (μ.I 31)) := m_gi (by decide) rfl
theorem mp_31 {v : Int} : am_pf (m_t M m μ) m 9 31 0 (.int (h_ii v)) = some (m_t M m (m_uI μ 31 v)) := m_pI (by decide) rfl rfl
theorem mg_32 : am_gi (m_t M m μ) m 9 32 = some (h_ii (μ.I 32)) := m_gi (by decide) rfl
theorem mp_32 {v : Int} (hv : v = 0 ∨ v = 1) : am_pf (m_t M m μ) m 9 32 1 (.int (h_ii v)) = some (m_t M m (m_uI μ 32 v)) := m_pI (by decide) rfl (by rcases hv with rfl | rfl <;> decide)
theorem mr_33 : am_gr (m_t M m μ) m 9 33 = some (m + 18) := m_gr (by decide) (by decide)
theorem mr_34 : am_gr (m_t M m μ) m 9 34 = some (m + 19) := m_gr (by decide) (by decide)
theorem mg_35 : am_gi (m_t M m μ) m 9 35 = some (h_ii (μ.I 35)) := m_gi (by decide) rfl
theorem mp_35 {v : Int} : am_pf (m_t M m μ) m 9 35 0 (.int (h_ii v)) = some (m_t M m (m_uI μ 35 v)) := m_pI (by decide) rfl rfl
theorem mg_36 : am_gi (m_t M m μ) m 9 36 = some (h_ii (μ.I 36)) := m_gi (by decide) rfl
theorem mp_36 {v : Int} : am_pf (m_t M m μ) m 9 36 0 (.int (h_ii v)) = some (m_t M m (m_uI μ 36 v)) := m_pI (by decide) rfl rfl
theorem mg_37 : am_gi (m_t M m μ) m 9 37 = some (h_ii (μ.I 37)) := m_gi (by decide) rfl
theorem mp_37 {v : Int} : am_pf (m_t M m μ) m 9 37 0 (.int (h_ii v)) = some (m_t M m (m_uI μ 37 v)) := m_pI (by decide) rfl rfl
theorem mg_38 : am_gi (m_t M m μ) m 9 38 = some (h_ii (μ.I 38)) := m_gi (by decide) rfl
theorem mp_38 {v : Int} : am_pf (m_t M m μ) m 9 38 0 (.int (h_ii v)) = some (m_t M m (m_uI μ 38 v)) := m_pI (by decide) rfl rfl
theorem mg_39 : am_gi (m_t M m μ) m 9 39 = some (h_ii (μ.I 39)) := m_gi (by decide) rfl
theorem mp_39 {v : Int} (hv : v = 0 ∨ v = 1) : am_pf (m_t M m μ) m 9 39 1 (.int (h_ii v)) = some (m_t M m (m_uI μ 39 v)) := m_pI (by decide) rfl (by rcases hv with rfl | rfl <;> decide)
theorem mg_40 : am_gi (m_t M m μ) m 9 40 = some (h_ii (μ.I 40)) := m_gi (by decide) rfl
theorem mp_40 {v : Int} : am_pf (m_t M m μ) m 9 40 0 (.int (h_ii v)) = some (m_t M m (m_uI μ 40 v)) := m_pI (by decide) rfl rfl
theorem mg_41 : am_gi (m_t M m μ) m 9 41 = some (h_ii (μ.I 41)) := m_gi (by decide) rfl
theorem mp_41 {v : Int} : am_pf (m_t M m μ) m 9 41 0 (.int (h_ii v)) = some (m_t M m (m_uI μ 41 v)) := m_pI (by decide) rfl rfl
theorem mg_42 : am_gi (m_t M m μ) m 9 42 = some (h_ii (μ.I 42)) := m_gi (by decide) rfl
theorem mp_42 {v : Int} : am_pf (m_t M m μ) m 9 42 0 (.int (h_ii v)) = some (m_t M m (m_uI μ 42 v)) := m_pI (by decide) rfl rfl
theorem mg_43 : am_gi (m_t M m μ) m 9 43 = some (h_ii (μ.I 43)) := m_gi (by decide) rfl
theorem mp_43 {v : Int} : am_pf (m_t M m μ) m 9 43 0 (.int (h_ii v)) = some (m_t M m (m_uI μ 43 v)) := m_pI (by decide) rfl rfl
theorem mr_44 : am_gr (m_t M m μ) m 9 44 = some (m + 20) := m_gr (by decide) (by decide)
theorem mr_45 : am_gr (m_t M m μ) m 9 45 = some (m + 21) := m_gr (by decide) (by decide)
theorem mr_46 : am_gr (m_t M m μ) m 9 46 = some (m + 22) := m_gr (by decide) (by decide)
theorem ml_1 {i : Int} (h0 : 0 ≤ i) (h1 : i < 936000) : am_il (m_t M m μ) (m + 1) (h_ii i) [0, 2, 100] = some (h_ii (μ.A 1 i.toNat)) := c_il (m_ar (k := 1) (t := 0) (n := 936000) (by decide) (by decide) (by decide) rfl rfl) (by decide) h0 h1 (by decide)
theorem ms_1 {i v : Int} (h0 : 0 ≤ i) (h1 : i < 936000) : am_is (m_t M m μ) (m + 1) (h_ii i) [0, 2] (h_ii v) = some (m_t M m (m_uA μ 1 i.toNat (Int.bmod v 256))) := by
  rw [c_is (t := 0) (m_ar (k := 1) (t := 0) (n := 936000) (by decide) (by decide) (by decide) rfl rfl) (by decide) (by show (h_ii v).toInt8.toInt32 = _; exact h_b8 v) h0 h1 (by decide)]
  exact congrArg some (m_uf (k := 1) (by decide) (by decide) (by decide) rfl rfl)
theorem ml_2 {i : Int} (h0 : 0 ≤ i) (h1 : i < 3900) : am_il (m_t M m μ) (m + 2) (h_ii i) [1, 101] = some (h_ii (μ.A 2 i.toNat)) := c_il (m_ar (k := 2) (t := 1) (n := 3900) (by decide) (by decide) (by decide) rfl rfl) (by decide) h0 h1 (by decide)
theorem ms_2 {i v : Int} (h0 : 0 ≤ i) (h1 : i < 3900) : am_is (m_t M m μ) (m + 2) (h_ii i) [1] (h_ii v) = some (m_t M m (m_uA μ 2 i.toNat v)) := by
  rw [c_is (t := 1) (m_ar (k := 2) (t := 1) (n := 3900) (by decide) (by decide) (by decide) rfl rfl) (by decide) rfl h0 h1 (by decide)]
  exact congrArg some (m_uf (k := 2) (by decide) (by decide) (by decide) rfl rfl)
theorem ml_3 {i : Int} (h0 : 0 ≤ i) (h1 : i < 13) : am_il (m_t M m μ) (m + 3) (h_ii i) [1, 101] = some (h_ii (μ.A 3 i.toNat)) := c_il (m_ar (k := 3) (t := 1) (n := 13) (by decide) (by decide) (by decide) rfl rfl) (by decide) h0 h1 (by decide)
theorem ms_3 {i v : Int} (h0 : 0 ≤ i) (h1 : i < 13) : am_is (m_t M m μ) (m + 3) (h_ii i) [1] (h_ii v) = some (m_t M m (m_uA μ 3 i.toNat v)) := by
  rw [c_is (t := 1) (m_ar (k := 3) (t := 1) (n := 13) (by decide) (by decide) (by decide) rfl rfl) (by decide) rfl h0 h1 (by decide)]
  exact congrArg some (m_uf (k := 3) (by decide) (by decide) (by decide) rfl rfl)
theorem ml_4 {i : Int} (h0 : 0 ≤ i) (h1 : i < 13) : am_il (m_t M m μ) (m + 4) (h_ii i) [0, 2, 100] = some (h_ii (μ.A 4 i.toNat)) := c_il (m_ar (k := 4) (t := 2) (n := 13) (by decide) (by decide) (by decide) rfl rfl) (by decide) h0 h1 (by decide)
theorem ms_4 {i v : Int} (hv : v = 0 ∨ v = 1) (h0 : 0 ≤ i) (h1 : i < 13) : am_is (m_t M m μ) (m + 4) (h_ii i) [0, 2] (h_ii v) = some (m_t M m (m_uA μ 4 i.toNat v)) := by
  rw [c_is (t := 2) (m_ar (k := 4) (t := 2) (n := 13) (by decide) (by decide) (by decide) rfl rfl) (by decide) (by rcases hv with rfl | rfl <;> rfl) h0 h1 (by decide), show h_nr 2 v = v by rcases hv with rfl | rfl <;> rfl]
  exact congrArg some (m_uf (k := 4) (by decide) (by decide) (by decide) rfl rfl)
theorem ml_5 {i : Int} (h0 : 0 ≤ i) (h1 : i < 9000) : am_il (m_t M m μ) (m + 5) (h_ii i) [0, 2, 100] = some (h_ii (μ.A 5 i.toNat)) := c_il (m_ar (k := 5) (t := 0) (n := 9000) (by decide) (by decide) (by decide) rfl rfl) (by decide) h0 h1 (by decide)
theorem ms_5 {i v : Int} (h0 : 0 ≤ i) (h1 : i < 9000) : am_is (m_t M m μ) (m + 5) (h_ii i) [0, 2] (h_ii v) = some (m_t M m (m_uA μ 5 i.toNat (Int.bmod v 256))) := by
  rw [c_is (t := 0) (m_ar (k := 5) (t := 0) (n := 9000) (by decide) (by decide) (by decide) rfl rfl) (by decide) (by show (h_ii v).toInt8.toInt32 = _; exact h_b8 v) h0 h1 (by decide)]
  exact congrArg some (m_uf (k := 5) (by decide) (by decide) (by decide) rfl rfl)
theorem ml_6 {i : Int} (h0 : 0 ≤ i) (h1 : i < 9000) : am_il (m_t M m μ) (m + 6) (h_ii i) [0, 2, 100] = some (h_ii (μ.A 6 i.toNat)) := c_il (m_ar (k := 6) (t := 0) (n := 9000) (by decide) (by decide) (by decide) rfl rfl) (by decide) h0 h1 (by decide)
theorem ms_6 {i v : Int} (h0 : 0 ≤ i) (h1 : i < 9000) : am_is (m_t M m μ) (m + 6) (h_ii i) [0, 2] (h_ii v) = some (m_t M m (m_uA μ 6 i.toNat (Int.bmod v 256))) := by
  rw [c_is (t := 0) (m_ar (k := 6) (t := 0) (n := 9000) (by decide) (by decide) (by decide) rfl rfl) (by decide) (by show (h_ii v).toInt8.toInt32 = _; exact h_b8 v) h0 h1 (by decide)]
  exact congrArg some (m_uf (k := 6) (by decide) (by decide) (by decide) rfl rfl)
theorem ml_7 {i : Int} (h0 : 0 ≤ i) (h1 : i < 9000) : am_il (m_t M m μ) (m + 7) (h_ii i) [0, 2, 100] = some (h_ii (μ.A 7 i.toNat)) := c_il (m_ar (k := 7) (t := 2) (n := 9000) (by decide) (by decide) (by decide) rfl rfl) (by decide) h0 h1 (by decide)
theorem ms_7 {i v : Int} (hv : v = 0 ∨ v = 1) (h0 : 0 ≤ i) (h1 : i < 9000) : am_is (m_t M m μ) (m + 7) (h_ii i) [0, 2] (h_ii v) = some (m_t M m (m_uA μ 7 i.toNat v)) := by
  rw [c_is (t := 2) (m_ar (k := 7) (t := 2) (n := 9000) (by decide) (by decide) (by decide) rfl rfl) (by decide) (by rcases hv with rfl | rfl <;> rfl) h0 h1 (by decide), show h_nr 2 v = v by rcases hv with rfl | rfl <;> rfl]
  exact congrArg some (m_uf (k := 7) (by decide) (by decide) (by decide) rfl rfl)
theorem ml_8 {i : Int} (h0 : 0 ≤ i) (h1 : i < 9002) : am_il (m_t M m μ) (m + 8) (h_ii i) [1, 101] = some (h_ii (μ.A 8 i.toNat)) := c_il (m_ar (k := 8) (t := 1) (n := 9002) (by decide) (by decide) (by decide) rfl rfl) (by decide) h0 h1 (by decide)
theorem ms_8 {i v : Int} (h0 : 0 ≤ i) (h1 : i < 9002) : am_is (m_t M m μ) (m + 8) (h_ii i) [1] (h_ii v) = some (m_t M m (m_uA μ 8 i.toNat v)) := by
  rw [c_is (t := 1) (m_ar (k := 8) (t := 1) (n := 9002) (by decide) (by decide) (by decide) rfl rfl) (by decide) rfl h0 h1 (by decide)]
  exact congrArg some (m_uf (k := 8) (by decide) (by decide) (by decide) rfl rfl)
theorem ml_9 {i : Int} (h0 : 0 ≤ i) (h1 : i < 9002) : am_il (m_t M m μ) (m + 9) (h_ii i) [1, 101] = some (h_ii (μ.A 9 i.toNat)) := c_il (m_ar (k := 9) (t := 1) (n := 9002) (by decide) (by decide) (by decide) rfl rfl) (by decide) h0 h1 (by decide)
theorem ms_9 {i v : Int} (h0 : 0 ≤ i) (h1 : i < 9002) : am_is (m_t M m μ) (m + 9) (h_ii i) [1] (h_ii v) = some (m_t M m (m_uA μ 9 i.toNat v)) := by
  rw [c_is (t := 1) (m_ar (k := 9) (t := 1) (n := 9002) (by decide) (by decide) (by decide) rfl rfl) (by decide) rfl h0 h1 (by decide)]
  exact congrArg some (m_uf (k := 9) (by decide) (by decide) (by decide) rfl rfl)
theorem ml_10 {i : Int} (h0 : 0 ≤ i) (h1 : i < 9002) : am_il (m_t M m μ) (m + 10) (h_ii i) [1, 101] = some (h_ii (μ.A 10 i.toNat)) := c_il (m_ar (k := 10) (t := 1) (n := 9002) (by decide) (by decide) (by decide) rfl rfl) (by decide) h0 h1 (by decide)
theorem ms_10 {i v : Int} (h0 : 0 ≤ i) (h1 : i < 9002) : am_is (m_t M m μ) (m + 10) (h_ii i) [1] (h_ii v) = some (m_t M m (m_uA μ 10 i.toNat v)) := by
  rw [c_is (t := 1) (m_ar (k := 10) (t := 1) (n := 9002) (by decide) (by decide) (by decide) rfl rfl) (by decide) rfl h0 h1 (by decide)]
  exact congrArg some (m_uf (k := 10) (by decide) (by decide) (by decide) rfl rfl)
theorem ml_11 {i : Int} (h0 : 0 ≤ i) (h1 : i < 9002) : am_il (m_t M m μ) (m + 11) (h_ii i) [0, 2, 100] = some (h_ii (μ.A 11 i.toNat)) := c_il (m_ar (k := 11) (t := 0) (n := 9002) (by decide) (by decide) (by decide) rfl rfl) (by decide) h0 h1 (by decide)
theorem ms_11 {i v : Int} (h0 : 0 ≤ i) (h1 : i < 9002) : am_is (m_t M m μ) (m + 11) (h_ii i) [0, 2] (h_ii v) = some (m_t M m (m_uA μ 11 i.toNat (Int.bmod v 256))) := by
  rw [c_is (t := 0) (m_ar (k := 11) (t := 0) (n := 9002) (by decide) (by decide) (by decide) rfl rfl) (by decide) (by show (h_ii v).toInt8.toInt32 = _; exact h_b8 v) h0 h1 (by decide)]
  exact congrArg some (m_uf (k := 11) (by decide) (by decide) (by decide) rfl rfl)
theorem ml_13 {i : Int} (h0 : 0 ≤ i) (h1 : i < 128) : am_il (m_t M m μ) (m + 13) (h_ii i) [0, 2, 100] = some (h_ii (μ.A 13 i.toNat)) := c_il (m_ar (k := 13) (t := 2) (n := 128) (by decide) (by decide) (by decide) rfl rfl) (by decide) h0 h1 (by decide)
theorem ms_13 {i v : Int} (hv : v = 0 ∨ v = 1) (h0 : 0 ≤ i) (h1 : i < 128) : am_is (m_t M m μ) (m + 13) (h_ii i) [0, 2] (h_ii v) = some (m_t M m (m_uA μ 13 i.toNat v)) := by
  rw [c_is (t := 2) (m_ar (k := 13) (t := 2) (n := 128) (by decide) (by decide) (by decide) rfl rfl) (by decide) (by rcases hv with rfl | rfl <;> rfl) h0 h1 (by decide), show h_nr 2 v = v by rcases hv with rfl | rfl <;> rfl]
  exact congrArg some (m_uf (k := 13) (by decide) (by decide) (by decide) rfl rfl)
theorem ml_14 {i : Int} (h0 : 0 ≤ i) (h1 : i < 128) : am_il (m_t M m μ) (m + 14) (h_ii i) [1, 101] = some (h_ii (μ.A 14 i.toNat)) := c_il (m_ar (k := 14) (t := 1) (n := 128) (by decide) (by decide) (by decide) rfl rfl) (by decide) h0 h1 (by decide)
theorem ms_14 {i v : Int} (h0 : 0 ≤ i) (h1 : i < 128) : am_is (m_t M m μ) (m + 14) (h_ii i) [1] (h_ii v) = some (m_t M m (m_uA μ 14 i.toNat v)) := by
  rw [c_is (t := 1) (m_ar (k := 14) (t := 1) (n := 128) (by decide) (by decide) (by decide) rfl rfl) (by decide) rfl h0 h1 (by decide)]
  exact congrArg some (m_uf (k := 14) (by decide) (by decide) (by decide) rfl rfl)
theorem ml_15 {i : Int} (h0 : 0 ≤ i) (h1 : i < 128) : am_il (m_t M m μ) (m + 15) (h_ii i) [1, 101] = some (h_ii (μ.A 15 i.toNat)) := c_il (m_ar (k := 15) (t := 1) (n := 128) (by decide) (by decide) (by decide) rfl rfl) (by decide) h0 h1 (by decide)
theorem ms_15 {i v : Int} (h0 : 0 ≤ i) (h1 : i < 128) : am_is (m_t M m μ) (m + 15) (h_ii i) [1] (h_ii v) = some (m_t M m (m_uA μ 15 i.toNat v)) := by
  rw [c_is (t := 1) (m_ar (k := 15) (t := 1) (n := 128) (by decide) (by decide) (by decide) rfl rfl) (by decide) rfl h0 h1 (by decide)]
  exact congrArg some (m_uf (k := 15) (by decide) (by decide) (by decide) rfl rfl)
theorem ml_16 {i : Int} (h0 : 0 ≤ i) (h1 : i < 24) : am_il (m_t M m μ) (m + 16) (h_ii i) [1, 101] = some (h_ii (μ.A 16 i.toNat)) := c_il (m_ar (k := 16) (t := 1) (n := 24) (by decide) (by decide) (by decide) rfl rfl) (by decide) h0 h1 (by decide)
theorem ms_16 {i v : Int} (h0 : 0 ≤ i) (h1 : i < 24) : am_is (m_t M m μ) (m + 16) (h_ii i) [1] (h_ii v) = some (m_t M m (m_uA μ 16 i.toNat v)) := by
  rw [c_is (t := 1) (m_ar (k := 16) (t := 1) (n := 24) (by decide) (by decide) (by decide) rfl rfl) (by decide) rfl h0 h1 (by decide)]
  exact congrArg some (m_uf (k := 16) (by decide) (by decide) (by decide) rfl rfl)
theorem ml_17 {i : Int} (h0 : 0 ≤ i) (h1 : i < 24) : am_il (m_t M m μ) (m + 17) (h_ii i) [1, 101] = some (h_ii (μ.A 17 i.toNat)) := c_il (m_ar (k := 17) (t := 1) (n := 24) (by decide) (by decide) (by decide) rfl rfl) (by decide) h0 h1 (by decide)
theorem ms_17 {i v : Int} (h0 : 0 ≤ i) (h1 : i < 24) : am_is (m_t M m μ) (m + 17) (h_ii i) [1] (h_ii v) = some (m_t M m (m_uA μ 17 i.toNat v)) := by
  rw [c_is (t := 1) (m_ar (k := 17) (t := 1) (n := 24) (by decide) (by decide) (by decide) rfl rfl) (by decide) rfl h0 h1 (by decide)]
  exact congrArg some (m_uf (k := 17) (by decide) (by decide) (by decide) rfl rfl)
theorem ml_18 {i : Int} (h0 : 0 ≤ i) (h1 : i < 3400) : am_il (m_t M m μ) (m + 18) (h_ii i) [1, 101] = some (h_ii (μ.A 18 i.toNat)) := c_il (m_ar (k := 18) (t := 1) (n := 3400) (by decide) (by decide) (by decide) rfl rfl) (by decide) h0 h1 (by decide)
theorem ms_18 {i v : Int} (h0 : 0 ≤ i) (h1 : i < 3400) : am_is (m_t M m μ) (m + 18) (h_ii i) [1] (h_ii v) = some (m_t M m (m_uA μ 18 i.toNat v)) := by
  rw [c_is (t := 1) (m_ar (k := 18) (t := 1) (n := 3400) (by decide) (by decide) (by decide) rfl rfl) (by decide) rfl h0 h1 (by decide)]
  exact congrArg some (m_uf (k := 18) (by decide) (by decide) (by decide) rfl rfl)
theorem ml_19 {i : Int} (h0 : 0 ≤ i) (h1 : i < 3400) : am_il (m_t M m μ) (m + 19) (h_ii i) [1, 101] = some (h_ii (μ.A 19 i.toNat)) := c_il (m_ar (k := 19) (t := 1) (n := 3400) (by decide) (by decide) (by decide) rfl rfl) (by decide) h0 h1 (by decide)
theorem ms_19 {i v : Int} (h0 : 0 ≤ i) (h1 : i < 3400) : am_is (m_t M m μ) (m + 19) (h_ii i) [1] (h_ii v) = some (m_t M m (m_uA μ 19 i.toNat v)) := by
  rw [c_is (t := 1) (m_ar (k := 19) (t := 1) (n := 3400) (by decide) (by decide) (by decide) rfl rfl) (by decide) rfl h0 h1 (by decide)]
  exact congrArg some (m_uf (k := 19) (by decide) (by decide) (by decide) rfl rfl)
theorem ml_20 {i : Int} (h0 : 0 ≤ i) (h1 : i < 256) : am_il (m_t M m μ) (m + 20) (h_ii i) [1, 101] = some (h_ii (μ.A 20 i.toNat)) := c_il (m_ar (k := 20) (t := 1) (n := 256) (by decide) (by decide) (by decide) rfl rfl) (by decide) h0 h1 (by decide)
theorem ms_20 {i v : Int} (h0 : 0 ≤ i) (h1 : i < 256) : am_is (m_t M m μ) (m + 20) (h_ii i) [1] (h_ii v) = some (m_t M m (m_uA μ 20 i.toNat v)) := by
  rw [c_is (t := 1) (m_ar (k := 20) (t := 1) (n := 256) (by decide) (by decide) (by decide) rfl rfl) (by decide) rfl h0 h1 (by decide)]
  exact congrArg some (m_uf (k := 20) (by decide) (by decide) (by decide) rfl rfl)
theorem ml_21 {i : Int} (h0 : 0 ≤ i) (h1 : i < 256) : am_il (m_t M m μ) (m + 21) (h_ii i) [1, 101] = some (h_ii (μ.A 21 i.toNat)) := c_il (m_ar (k := 21) (t := 1) (n := 256) (by decide) (by decide) (by decide) rfl rfl) (by decide) h0 h1 (by decide)
theorem ms_21 {i v : Int} (h0 : 0 ≤ i) (h1 : i < 256) : am_is (m_t M m μ) (m + 21) (h_ii i) [1] (h_ii v) = some (m_t M m (m_uA μ 21 i.toNat v)) := by
  rw [c_is (t := 1) (m_ar (k := 21) (t := 1) (n := 256) (by decide) (by decide) (by decide) rfl rfl) (by decide) rfl h0 h1 (by decide)]
  exact congrArg some (m_uf (k := 21) (by decide) (by decide) (by decide) rfl rfl)
theorem ml_22 {i : Int} (h0 : 0 ≤ i) (h1 : i < 256) : am_il (m_t M m μ) (m + 22) (h_ii i) [0, 2, 100] = some (h_ii (μ.A 22 i.toNat)) := c_il (m_ar (k := 22) (t := 2) (n := 256) (by decide) (by decide) (by decide) rfl rfl) (by decide) h0 h1 (by decide)
theorem ms_22 {i v : Int} (hv : v = 0 ∨ v = 1) (h0 : 0 ≤ i) (h1 : i < 256) : am_is (m_t M m μ) (m + 22) (h_ii i) [0, 2] (h_ii v) = some (m_t M m (m_uA μ 22 i.toNat v)) := by
  rw [c_is (t := 2) (m_ar (k := 22) (t := 2) (n := 256) (by decide) (by decide) (by decide) rfl rfl) (by decide) (by rcases hv with rfl | rfl <;> rfl) h0 h1 (by decide), show h_nr 2 v = v by rcases hv with rfl | rfl <;> rfl]
  exact congrArg some (m_uf (k := 22) (by decide) (by decide) (by decide) rfl rfl)
theorem mp_0_b {v : Int} {K : am_M → Option am_R} : Option.bind (am_pf (m_t M m μ) m 9 0 0 (.int (h_ii v))) K = K (m_t M m (m_uI μ 0 v)) := ob (mp_0 )
theorem mp_6_b {v : Int} {K : am_M → Option am_R} : Option.bind (am_pf (m_t M m μ) m 9 6 0 (.int (h_ii v))) K = K (m_t M m (m_uI μ 6 v)) := ob (mp_6 )
theorem mp_13_b {v : Int} {K : am_M → Option am_R} : Option.bind (am_pf (m_t M m μ) m 9 13 0 (.int (h_ii v))) K = K (m_t M m (m_uI μ 13 v)) := ob (mp_13 )
theorem mp_14_b {v : Int} {K : am_M → Option am_R} : Option.bind (am_pf (m_t M m μ) m 9 14 0 (.int (h_ii v))) K = K (m_t M m (m_uI μ 14 v)) := ob (mp_14 )
theorem mp_15_b {v : Int} {K : am_M → Option am_R} : Option.bind (am_pf (m_t M m μ) m 9 15 0 (.int (h_ii v))) K = K (m_t M m (m_uI μ 15 v)) := ob (mp_15 )
theorem mp_16_b {v : Int} {K : am_M → Option am_R} : Option.bind (am_pf (m_t M m μ) m 9 16 0 (.int (h_ii v))) K = K (m_t M m (m_uI μ 16 v)) := ob (mp_16 )
theorem mp_17_b {v : Int} {K : am_M → Option am_R} : Option.bind (am_pf (m_t M m μ) m 9 17 0 (.int (h_ii v))) K = K (m_t M m (m_uI μ 17 v)) := ob (mp_17 )
theorem mp_19_b {v : Int} {K : am_M → Option am_R} : Option.bind (am_pf (m_t M m μ) m 9 19 0 (.int (h_ii v))) K = K (m_t M m (m_uI μ 19 v)) := ob (mp_19 )
theorem mp_20_b {v : Int} {K : am_M → Option am_R} : Option.bind (am_pf (m_t M m μ) m 9 20 0 (.int (h_ii v))) K = K (m_t M m (m_uI μ 20 v)) := ob (mp_20 )
theorem mp_21_b {v : Int} {K : am_M → Option am_R} : Option.bind (am_pf (m_t M m μ) m 9 21 0 (.int (h_ii v))) K = K (m_t M m (m_uI μ 21 v)) := ob (mp_21 )
theorem mp_25_b {v : Int} (hv : v = 0 ∨ v = 1) {K : am_M → Option am_R} : Option.bind (am_pf (m_t M m μ) m 9 25 1 (.int (h_ii v))) K = K (m_t M m (m_uI μ 25 v)) := ob (mp_25 hv)
theorem mp_26_b {v : Int} (hv : v = 0 ∨ v = 1) {K : am_M → Option am_R} : Option.bind (am_pf (m_t M m μ) m 9 26 1 (.int (h_ii v))) K = K (m_t M m (m_uI μ 26 v)) := ob (mp_26 hv)
theorem mp_27_b {v : Int} (hv : v = 0 ∨ v = 1) {K : am_M → Option am_R} : Option.bind (am_pf (m_t M m μ) m 9 27 1 (.int (h_ii v))) K = K (m_t M m (m_uI μ 27 v)) := ob (mp_27 hv)
theorem mp_28_b {v : Int} (hv : v = 0 ∨ v = 1) {K : am_M → Option am_R} : Option.bind (am_pf (m_t M m μ) m 9 28 1 (.int (h_ii v))) K = K (m_t M m (m_uI μ 28 v)) := ob (mp_28 hv)
theorem mp_31_b {v : Int} {K : am_M → Option am_R} : Option.bind (am_pf (m_t M m μ) m 9 31 0 (.int (h_ii v))) K = K (m_t M m (m_uI μ 31 v)) := ob (mp_31 )
theorem mp_32_b {v : Int} (hv : v = 0 ∨ v = 1) {K : am_M → Option am_R} : Option.bind (am_pf (m_t M m μ) m 9 32 1 (.int (h_ii v))) K = K (m_t M m (m_uI μ 32 v)) := ob (mp_32 hv)
theorem mp_35_b {v : Int} {K : am_M → Option am_R} : Option.bind (am_pf (m_t M m μ) m 9 35 0 (.int (h_ii v))) K = K (m_t M m (m_uI μ 35 v)) := ob (mp_35 )
theorem mp_36_b {v : Int} {K : am_M → Option am_R} : Option.bind (am_pf (m_t M m μ) m 9 36 0 (.int (h_ii v))) K = K (m_t M m (m_uI μ 36 v)) := ob (mp_36 )
theorem mp_37_b {v : Int} {K : am_M → Option am_R} : Option.bind (am_pf (m_t M m μ) m 9 37 0 (.int (h_ii v))) K = K (m_t M m (m_uI μ 37 v)) := ob (mp_37 )
theorem mp_38_b {v : Int} {K : am_M → Option am_R} : Option.bind (am_pf (m_t M m μ) m 9 38 0 (.int (h_ii v))) K = K (m_t M m (m_uI μ 38 v)) := ob (mp_38 )
theorem mp_39_b {v : Int} (hv : v = 0 ∨ v = 1) {K : am_M → Option am_R} : Option.bind (am_pf (m_t M m μ) m 9 39 1 (.int (h_ii v))) K = K (m_t M m (m_uI μ 39 v)) := ob (mp_39 hv)
theorem mp_40_b {v : Int} {K : am_M → Option am_R} : Option.bind (am_pf (m_t M m μ) m 9 40 0 (.int (h_ii v))) K = K (m_t M m (m_uI μ 40 v)) := ob (mp_40 )
theorem mp_41_b {v : Int} {K : am_M → Option am_R} : Option.bind (am_pf (m_t M m μ) m 9 41 0 (.int (h_ii v))) K = K (m_t M m (m_uI μ 41 v)) := ob (mp_41 )
theorem mp_42_b {v : Int} {K : am_M → Option am_R} : Option.bind (am_pf (m_t M m μ) m 9 42 0 (.int (h_ii v))) K = K (m_t M m (m_uI μ 42 v)) := ob (mp_42 )
theorem mp_43_b {v : Int} {K : am_M → Option am_R} : Option.bind (am_pf (m_t M m μ) m 9 43 0 (.int (h_ii v))) K = K (m_t M m (m_uI μ 43 v)) := ob (mp_43 )
theorem ml_1_b {i : Int} (h0 : 0 ≤ i) (h1 : i < 936000) {K : Int32 → Option am_R} : Option.bind (am_il (m_t M m μ) (m + 1) (h_ii i) [0, 2, 100]) K = K (h_ii (μ.A 1 i.toNat)) := ob (ml_1 h0 h1)
theorem ms_1_b {i v : Int} (h0 : 0 ≤ i) (h1 : i < 936000) {K : am_M → Option am_R} : Option.bind (am_is (m_t M m μ) (m + 1) (h_ii i) [0, 2] (h_ii v)) K = K (m_t M m (m_uA μ 1 i.toNat (Int.bmod v 256))) := ob (ms_1 h0 h1)
theorem ml_2_b {i : Int} (h0 : 0 ≤ i) (h1 : i < 3900) {K : Int32 → Option am_R} : Option.bind (am_il (m_t M m μ) (m + 2) (h_ii i) [1, 101]) K = K (h_ii (μ.A 2 i.toNat)) := ob (ml_2 h0 h1)
theorem ms_2_b {i v : Int} (h0 : 0 ≤ i) (h1 : i < 3900) {K : am_M → Option am_R} : Option.bind (am_is (m_t M m μ) (m + 2) (h_ii i) [1] (h_ii v)) K = K (m_t M m (m_uA μ 2 i.toNat v)) := ob (ms_2 h0 h1)
theorem ml_3_b {i : Int} (h0 : 0 ≤ i) (h1 : i < 13) {K : Int32 → Option am_R} : Option.bind (am_il (m_t M m μ) (m + 3) (h_ii i) [1, 101]) K = K (h_ii (μ.A 3 i.toNat)) := ob (ml_3 h0 h1)
theorem ms_3_b {i v : Int} (h0 : 0 ≤ i) (h1 : i < 13) {K : am_M → Option am_R} : Option.bind (am_is (m_t M m μ) (m + 3) (h_ii i) [1] (h_ii v)) K = K (m_t M m (m_uA μ 3 i.toNat v)) := ob (ms_3 h0 h1)
theorem ml_4_b {i : Int} (h0 : 0 ≤ i) (h1 : i < 13) {K : Int32 → Option am_R} : Option.bind (am_il (m_t M m μ) (m + 4) (h_ii i) [0, 2, 100]) K = K (h_ii (μ.A 4 i.toNat)) := ob (ml_4 h0 h1)
theorem ms_4_b {i v : Int} (hv : v = 0 ∨ v = 1) (h0 : 0 ≤ i) (h1 : i < 13) {K : am_M → Option am_R} : Option.bind (am_is (m_t M m μ) (m + 4) (h_ii i) [0, 2] (h_ii v)) K = K (m_t M m (m_uA μ 4 i.toNat v)) := ob (ms_4 hv h0 h1)
theorem ml_5_b {i : Int} (h0 : 0 ≤ i) (h1 : i < 9000) {K : Int32 → Option am_R} : Option.bind (am_il (m_t M m μ) (m + 5) (h_ii i) [0, 2, 100]) K = K (h_ii (μ.A 5 i.toNat)) := ob (ml_5 h0 h1)
theorem ms_5_b {i v : Int} (h0 : 0 ≤ i) (h1 : i < 9000) {K : am_M → Option am_R} : Option.bind (am_is (m_t M m μ) (m + 5) (h_ii i) [0, 2] (h_ii v)) K = K (m_t M m (m_uA μ 5 i.toNat (Int.bmod v 256))) := ob (ms_5 h0 h1)
theorem ml_6_b {i : Int} (h0 : 0 ≤ i) (h1 : i < 9000) {K : Int32 → Option am_R} : Option.bind (am_il (m_t M m μ) (m + 6) (h_ii i) [0, 2, 100]) K = K (h_ii (μ.A 6 i.toNat)) := ob (ml_6 h0 h1)
theorem ms_6_b {i v : Int} (h0 : 0 ≤ i) (h1 : i < 9000) {K : am_M → Option am_R} : Option.bind (am_is (m_t M m μ) (m + 6) (h_ii i) [0, 2] (h_ii v)) K = K (m_t M m (m_uA μ 6 i.toNat (Int.bmod v 256))) := ob (ms_6 h0 h1)
theorem ml_7_b {i : Int} (h0 : 0 ≤ i) (h1 : i < 9000) {K : Int32 → Option am_R} : Option.bind (am_il (m_t M m μ) (m + 7) (h_ii i) [0, 2, 100]) K = K (h_ii (μ.A 7 i.toNat)) := ob (ml_7 h0 h1)
theorem ms_7_b {i v : Int} (hv : v = 0 ∨ v = 1) (h0 : 0 ≤ i) (h1 : i < 9000) {K : am_M → Option am_R} : Option.bind (am_is (m_t M m μ) (m + 7) (h_ii i) [0, 2] (h_ii v)) K = K (m_t M m (m_uA μ 7 i.toNat v)) := ob (ms_7 hv h0 h1)
theorem ml_8_b {i : Int} (h0 : 0 ≤ i) (h1 : i < 9002) {K : Int32 → Option am_R} : Option.bind (am_il (m_t M m μ) (m + 8) (h_ii i) [1, 101]) K = K (h_ii (μ.A 8 i.toNat)) := ob (ml_8 h0 h1)
theorem ms_8_b {i v : Int} (h0 : 0 ≤ i) (h1 : i < 9002) {K : am_M → Option am_R} : Option.bind (am_is (m_t M m μ) (m + 8) (h_ii i) [1] (h_ii v)) K = K (m_t M m (m_uA μ 8 i.toNat v)) := ob (ms_8 h0 h1)
theorem ml_9_b {i : Int} (h0 : 0 ≤ i) (h1 : i < 9002) {K : Int32 → Option am_R} : Option.bind (am_il (m_t M m μ) (m + 9) (h_ii i) [1, 101]) K = K (h_ii (μ.A 9 i.toNat)) := ob (ml_9 h0 h1)
theorem ms_9_b {i v : Int} (h0 : 0 ≤ i) (h1 : i < 9002) {K : am_M → Option am_R} : Option.bind (am_is (m_t M m μ) (m + 9) (h_ii i) [1] (h_ii v)) K = K (m_t M m (m_uA μ 9 i.toNat v)) := ob (ms_9 h0 h1)
theorem ml_10_b {i : Int} (h0 : 0 ≤ i) (h1 : i < 9002) {K : Int32 → Option am_R} : Option.bind (am_il (m_t M m μ) (m + 10) (h_ii i) [1, 101]) K = K (h_ii (μ.A 10 i.toNat)) := ob (ml_10 h0 h1)
theorem ms_10_b {i v : Int} (h0 : 0 ≤ i) (h1 : i < 9002) {K : am_M → Option am_R} : Option.bind (am_is (m_t M m μ) (m + 10) (h_ii i) [1] (h_ii v)) K = K (m_t M m (m_uA μ 10 i.toNat v)) := ob (ms_10 h0 h1)
theorem ml_11_b {i : Int} (h0 : 0 ≤ i) (h1 : i < 9002) {K : Int32 → Option am_R} : Option.bind (am_il (m_t M m μ) (m + 11) (h_ii i) [0, 2, 100]) K = K (h_ii (μ.A 11 i.toNat)) := ob (ml_11 h0 h1)
theorem ms_11_b {i v : Int} (h0 : 0 ≤ i) (h1 : i < 9002) {K : am_M → Option am_R} : Option.bind (am_is (m_t M m μ) (m + 11) (h_ii i) [0, 2] (h_ii v)) K = K (m_t M m (m_uA μ 11 i.toNat (Int.bmod v 256))) := ob (ms_11 h0 h1)
theorem ml_13_b {i : Int} (h0 : 0 ≤ i) (h1 : i < 128) {K : Int32 → Option am_R} : Option.bind (am_il (m_t M m μ) (m + 13) (h_ii i) [0, 2, 100]) K = K (h_ii (μ.A 13 i.toNat)) := ob (ml_13 h0 h1)
theorem ms_13_b {i v : Int} (hv : v = 0 ∨ v = 1) (h0 : 0 ≤ i) (h1 : i < 128) {K : am_M → Option am_R} : Option.bind (am_is (m_t M m μ) (m + 13) (h_ii i) [0, 2] (h_ii v)) K = K (m_t M m (m_uA μ 13 i.toNat v)) := ob (ms_13 hv h0 h1)
theorem ml_14_b {i : Int} (h0 : 0 ≤ i) (h1 : i < 128) {K : Int32 → Option am_R} : Option.bind (am_il (m_t M m μ) (m + 14) (h_ii i) [1, 101]) K = K (h_ii (μ.A 14 i.toNat)) := ob (ml_14 h0 h1)
theorem ms_14_b {i v : Int} (h0 : 0 ≤ i) (h1 : i < 128) {K : am_M → Option am_R} : Option.bind (am_is (m_t M m μ) (m + 14) (h_ii i) [1] (h_ii v)) K = K (m_t M m (m_uA μ 14 i.toNat v)) := ob (ms_14 h0 h1)
theorem ml_15_b {i : Int} (h0 : 0 ≤ i) (h1 : i < 128) {K : Int32 → Option am_R} : Option.bind (am_il (m_t M m μ) (m + 15) (h_ii i) [1, 101]) K = K (h_ii (μ.A 15 i.toNat)) := ob (ml_15 h0 h1)
theorem ms_15_b {i v : Int} (h0 : 0 ≤ i) (h1 : i < 128) {K : am_M → Option am_R} : Option.bind (am_is (m_t M m μ) (m + 15) (h_ii i) [1] (h_ii v)) K = K (m_t M m (m_uA μ 15 i.toNat v)) := ob (ms_15 h0 h1)
theorem ml_16_b {i : Int} (h0 : 0 ≤ i) (h1 : i < 24) {K : Int32 → Option am_R} : Option.bind (am_il (m_t M m μ) (m + 16) (h_ii i) [1, 101]) K = K (h_ii (μ.A 16 i.toNat)) := ob (ml_16 h0 h1)
theorem ms_16_b {i v : Int} (h0 : 0 ≤ i) (h1 : i < 24) {K : am_M → Option am_R} : Option.bind (am_is (m_t M m μ) (m + 16) (h_ii i) [1] (h_ii v)) K = K (m_t M m (m_uA μ 16 i.toNat v)) := ob (ms_16 h0 h1)
theorem ml_17_b {i : Int} (h0 : 0 ≤ i) (h1 : i < 24) {K : Int32 → Option am_R} : Option.bind (am_il (m_t M m μ) (m + 17) (h_ii i) [1, 101]) K = K (h_ii (μ.A 17 i.toNat)) := ob (ml_17 h0 h1)
theorem ms_17_b {i v : Int} (h0 : 0 ≤ i) (h1 : i < 24) {K : am_M → Option am_R} : Option.bind (am_is (m_t M m μ) (m + 17) (h_ii i) [1] (h_ii v)) K = K (m_t M m (m_uA μ 17 i.toNat v)) := ob (ms_17 h0 h1)
theorem ml_18_b {i : Int} (h0 : 0 ≤ i) (h1 : i < 3400) {K : Int32 → Option am_R} : Option.bind (am_il (m_t M m μ) (m + 18) (h_ii i) [1, 101]) K = K (h_ii (μ.A 18 i.toNat)) := ob (ml_18 h0 h1)
theorem ms_18_b {i v : Int} (h0 : 0 ≤ i) (h1 : i < 3400) {K : am_M → Option am_R} : Option.bind (am_is (m_t M m μ) (m + 18) (h_ii i) [1] (h_ii v)) K = K (m_t M m (m_uA μ 18 i.toNat v)) := ob (ms_18 h0 h1)
theorem ml_19_b {i : Int} (h0 : 0 ≤ i) (h1 : i < 3400) {K : Int32 → Option am_R} : Option.bind (am_il (m_t M m μ) (m + 19) (h_ii i) [1, 101]) K = K (h_ii (μ.A 19 i.toNat)) := ob (ml_19 h0 h1)
theorem ms_19_b {i v : Int} (h0 : 0 ≤ i) (h1 : i < 3400) {K : am_M → Option am_R} : Option.bind (am_is (m_t M m μ) (m + 19) (h_ii i) [1] (h_ii v)) K = K (m_t M m (m_uA μ 19 i.toNat v)) := ob (ms_19 h0 h1)
theorem ml_20_b {i : Int} (h0 : 0 ≤ i) (h1 : i < 256) {K : Int32 → Option am_R} : Option.bind (am_il (m_t M m μ) (m + 20) (h_ii i) [1, 101]) K = K (h_ii (μ.A 20 i.toNat)) := ob (ml_20 h0 h1)
theorem ms_20_b {i v : Int} (h0 : 0 ≤ i) (h1 : i < 256) {K : am_M → Option am_R} : Option.bind (am_is (m_t M m μ) (m + 20) (h_ii i) [1] (h_ii v)) K = K (m_t M m (m_uA μ 20 i.toNat v)) := ob (ms_20 h0 h1)
theorem ml_21_b {i : Int} (h0 : 0 ≤ i) (h1 : i < 256) {K : Int32 → Option am_R} : Option.bind (am_il (m_t M m μ) (m + 21) (h_ii i) [1, 101]) K = K (h_ii (μ.A 21 i.toNat)) := ob (ml_21 h0 h1)
theorem ms_21_b {i v : Int} (h0 : 0 ≤ i) (h1 : i < 256) {K : am_M → Option am_R} : Option.bind (am_is (m_t M m μ) (m + 21) (h_ii i) [1] (h_ii v)) K = K (m_t M m (m_uA μ 21 i.toNat v)) := ob (ms_21 h0 h1)
theorem ml_22_b {i : Int} (h0 : 0 ≤ i) (h1 : i < 256) {K : Int32 → Option am_R} : Option.bind (am_il (m_t M m μ) (m + 22) (h_ii i) [0, 2, 100]) K = K (h_ii (μ.A 22 i.toNat)) := ob (ml_22 h0 h1)
theorem ms_22_b {i v : Int} (hv : v = 0 ∨ v = 1) (h0 : 0 ≤ i) (h1 : i < 256) {K : am_M → Option am_R} : Option.bind (am_is (m_t M m μ) (m + 22) (h_ii i) [0, 2] (h_ii v)) K = K (m_t M m (m_uA μ 22 i.toNat v)) := ob (ms_22 hv h0 h1)
end MT
