/-! THE LAW, CALL BY CALL -/
section LW
variable {G : Nat → Option va_E} {b s L : Nat} {xs : Nat → Int32} {ad : Nat → Nat} {o : Int64} {μ : m_S} {σ : c_S b} {t : List Int} {F : Nat → List (List Int)} {th : Nat → Bool} {fc fl fs : Int}
/-- the script's cell -/
def w_S (G : Nat → Option va_E) (b s L : Nat) (xs : Nat → Int32) : Prop := s < b ∧ L ≤ 3072 ∧ G s = some (.inl (101, L, .inl (fun j => if j < L then xs j else 0)))
theorem w_at (h : w_S G b s L xs) : (c_t (w_R G b o μ) σ).2.2 s = some (.inl (101, L, .inl (fun j => if j < L then xs j else 0))) := by
  show c_ce (w_R G b o μ) σ s = _
  unfold c_ce w_R
  rw [if_pos (.inl h.1), if_pos h.1]
  exact h.2.2
theorem w_x (h : w_S G b s L xs) {j : Int} (h0 : 0 ≤ j) (h1 : j < L) : am_il (c_t (w_R G b o μ) σ) s (h_ii j) [1, 101] = some (xs j.toNat) := by
  have hL := h.2.1
  simp only [am_il, w_at h, if_pos (show 101 ∈ [1, 101] by decide), h_ix h0 h1 (by omega), Option.map_some]
  rw [if_pos (by omega)]
theorem w_xk (h : w_S G b s L xs) {i kk : Int} {k : Nat} {K : Int32 → Option am_R} (hk : kk = k) (h0 : 0 ≤ i) (h1 : i + kk < L) : Option.bind (am_il (c_t (w_R G b o μ) σ) s (h_ii i + nI k) [1, 101]) K = K (xs (i + kk).toNat) := by
  rw [h_nI, h_add, ← hk, w_x h (by omega) h1]
  rfl
theorem w_len (h : w_S G b s L xs) : am_len (c_t (w_R G b o μ) σ) s = some (h_ii L) := c_len (w_at h)
theorem w_out : (c_t (w_R G b o μ) σ).2.2 (b + 104) = some (.inl (3, 1, .inr (.inl (fun i => if i = 0 then o else 0)))) := by
  show c_ce (w_R G b o μ) σ (b + 104) = _
  unfold c_ce w_R
  rw [if_pos (by omega), if_neg (by omega), if_pos rfl]
theorem w_ll : am_ll (c_t (w_R G b o μ) σ) (b + 104) (h_ii 0) = some o := by
  simp only [am_ll, w_out]
  rw [if_pos trivial, h_ix (by decide) (by decide) (by decide)]
  rfl
theorem w_ls {v : Int64} : am_ls (c_t (w_R G b o μ) σ) (b + 104) (h_ii 0) v = some (c_t (w_R G b v μ) σ) := by
  simp only [am_ls, w_out]
  rw [if_pos trivial, h_ix (by decide) (by decide) (by decide), Option.map_some]
  refine congrArg some ?_
  unfold am_upd
  refine congrArg (fun z => (σ.nx, σ.sl, z)) (funext fun q => ?_)
  show (if q = b + 104 then _ else c_ce (w_R G b o μ) σ q) = c_ce (w_R G b v μ) σ q
  by_cases h : q = b + 104
  · rw [if_pos h]
    subst h
    unfold c_ce w_R
    rw [if_pos (by omega), if_neg (by omega), if_pos rfl]
    refine congrArg (fun f => some (.inl (3, 1, .inr (.inl f)) : va_E)) (funext fun j => ?_)
    unfold vp_updL
    by_cases hj : j = 0 <;> simp [hj]
  · rw [if_neg h]
    unfold c_ce
    by_cases h2 : q < b ∨ (b + 81 ≤ q ∧ q < b + 105)
    · rw [if_pos h2, if_pos h2]
      unfold w_R
      rw [if_neg h, if_neg h]
    · rw [if_neg h2, if_neg h2]
theorem w_cl9 : am_cls (c_t (w_R G b o μ) σ) (b + 81) 9 = true := by
  rw [← w_m (μ := μ) (μ' := μ)]
  exact m_cl
theorem w_ref {d mi : Nat} {al : am_L} {r : Option Value ⊕ Nat} {μ' : m_S} (h : ∀ M, am_gg (am_pr ad) d mi 0 al [] (m_t M (b + 81) μ) = some (r, m_t M (b + 81) μ')) : am_gg (am_pr ad) d mi 0 al [] (c_t (w_R G b o μ) σ) = some (r, c_t (w_R G b o μ') σ) := by
  have := h (c_t (w_R G b o μ) σ)
  rw [w_m, w_m] at this
  exact this
theorem w_exc {R : Nat → Option va_E} {e : va_E} : (c_t R (c_xE σ 6 e)).2.2 σ.nx = some e := by
  rw [← c_pushE]
  exact if_pos rfl
theorem w_thrown {d : Nat} : am_gg (am_pr ad) d 17 0 [some (.ref (b + 81))] [] (c_t (w_R G b o μ) σ) = some (.inl (some (.int (h_ii (μ.I 0)))), c_t (w_R G b o μ) σ) := w_ref (fun M => n_thrown)
theorem w_cmp (x : Int64) : (am_cond .eq (lg_cmp x x) (h_ii 0) = true) = True := by
  have : lg_cmp x x = 0 := by
    unfold lg_cmp
    rw [if_neg (show ¬ x > x from Int64.lt_irrefl), if_pos rfl]
  rw [this]
  exact eq_true rfl
/-- the states of both agree -/
def w_V (σ : c_S b) (μ : m_S) : Prop := ∃ t F th fc fl fs, c_V σ t F th fc fl fs ∧ m_V μ t F th fc fl fs
/-- what is asked of run -/
def w_run (G : Nat → Option va_E) (ad : Nat → Nat) (b : Nat) : Prop := ∀ (o : Int64) (σ : c_S b) (μ : m_S), w_V σ μ → ∃ (v : Int) (σ' : c_S b) (μ' : m_S), am_gg (am_pr ad) 13 37 0 [some (.ref b), none, none, none, none] [] (c_t (w_R G b o μ) σ) = some (.inl (some (.int (h_ii v))), c_t (w_R G b o μ) σ') ∧ (∀ M, am_gg (am_pr ad) 13 173 0 [some (.ref (b + 81)), none] [] (m_t M (b + 81) μ) = some (.inl (some (.int (h_ii v))), m_t M (b + 81) μ')) ∧ c_rs 0 σ σ' ∧ w_V σ' μ'
/-- one call goes through, and the states agree behind it -/
def w_K (G : Nat → Option va_E) (ad : Nat → Nat) (b s : Nat) (pc : Nat) (i : Int) (o : Int64) (σ : c_S b) (μ : m_S) : Prop := ∀ o5 o6 : Option Value, ∃ (o' : Int64) (σ' : c_S b) (μ' : m_S) (o5' o6' : Option Value), am_gg (am_pr ad) 14 0 pc [some (.ref s), some (.ref b), some (.ref (b + 81)), some (.ref (b + 104)), some (.int (h_ii i)), o5, o6] [] (c_t (w_R G b o μ) σ) = am_gg (am_pr ad) 14 0 615 [some (.ref s), some (.ref b), some (.ref (b + 81)), some (.ref (b + 104)), some (.int (h_ii i)), o5', o6'] [] (c_t (w_R G b o' μ') σ') ∧ c_rs 1 σ σ' ∧ w_V σ' μ'
theorem w_feed {i : Int} (hS : w_S G b s L xs) (h0 : 0 ≤ i) (h1 : i + 5 < L) (h : w_V σ μ) : w_K G ad b s 100 i o σ μ := by
  intro o5 o6
  obtain ⟨t, F, th, fc, fl, fs, hC, hM⟩ := h
  by_cases q : t.length + 20 ≤ 9000
  · obtain ⟨σ', e1, r1, v1⟩ := v_feedW (R := w_R G b o μ) (ad := ad) (d := 6) (x1 := xs (i + 1).toNat) (x2 := xs (i + 2).toNat) (x3 := xs (i + 3).toNat) (x4 := xs (i + 4).toNat) (x5 := xs (i + 5).toNat) hC q
    obtain ⟨μ', e2, c2, v2⟩ := n_feed1 (m := b + 81) (ad := ad) (d := 13) (x1 := xs (i + 1).toNat) (x2 := xs (i + 2).toNat) (x3 := xs (i + 3).toNat) (x4 := xs (i + 4).toNat) (x5 := xs (i + 5).toNat) (M := c_t (w_R G b (h_ii (t.length + 20)).toInt64 μ) σ') hM q
    rw [w_m, w_m] at e2
    have e3 : am_gg (am_pr ad) 13 11 0 [some (.ref b), some (.int (xs (i + 1).toNat)), some (.int (xs (i + 2).toNat)), some (.int (xs (i + 3).toNat)), some (.int (xs (i + 4).toNat)), some (.int (xs (i + 5).toNat)), some (.ref (b + 104)), none] [] (c_t (w_R G b o μ) σ) = some (.inl (some (.int (h_ii 0))), c_t (w_R G b (h_ii (t.length + 20)).toInt64 μ) σ') := by
      rw [B11_0, if_pos cl_0, e1]
      simp (disch := first | omega | decide | fail) only [↓reduceIte, h_nI, Int.cast_ofNat_Int, h_add, h_neg, h_zero, h_cltT, h_cltF, h_cgeT, h_cgeF, h_cgtT, h_cgtF, h_cleT, h_cleF, h_ceqT, h_ceqF, h_cneT, h_cneF, Option.bind_some, am_thr, am_ret0, am_ret1, w_ls, w_ll, w_cl9, cl_0, w_thrown, w_cmp, w_exc, am_hd, h_fit0, if_true, if_false, Nat.reduceEqDiff, B0_201, B0_293, B0_350, B0_356, B0_464, B0_532, B0_612, B11_19, B18_8, B21_12, B21_15, B34_15, B34_19, B253_12, B256_13, B261_15]
    refine ⟨(h_ii (t.length + 20)).toInt64, σ', μ', some (.int (h_ii 0)), some (.int (h_ii (t.length + 20))), ?_, r1.mono (by decide), ⟨_, _, _, _, _, _, v1, v2⟩⟩
    rw [B0_100]
    rw [w_xk (k := 1) (kk := 1) hS rfl h0 (by omega), w_xk (k := 2) (kk := 2) hS rfl h0 (by omega), w_xk (k := 3) (kk := 3) hS rfl h0 (by omega), w_xk (k := 4) (kk := 4) hS rfl h0 (by omega), w_xk (k := 5) (kk := 5) hS rfl h0 (by omega)]
    rw [e3]
    simp only [am_ret1]
    rw [w_xk (k := 1) (kk := 1) hS rfl h0 (by omega), w_xk (k := 2) (kk := 2) hS rfl h0 (by omega), w_xk (k := 3) (kk := 3) hS rfl h0 (by omega), w_xk (k := 4) (kk := 4) hS rfl h0 (by omega), w_xk (k := 5) (kk := 5) hS rfl h0 (by omega)]
    simp (disch := first | omega | decide | fail) only [↓reduceIte, h_nI, Int.cast_ofNat_Int, h_add, h_neg, h_zero, h_cltT, h_cltF, h_cgeT, h_cgeF, h_cgtT, h_cgtF, h_cleT, h_cleF, h_ceqT, h_ceqF, h_cneT, h_cneF, Option.bind_some, am_thr, am_ret0, am_ret1, w_ls, w_ll, w_cl9, cl_0, w_thrown, w_cmp, w_exc, am_hd, h_fit0, if_true, if_false, Nat.reduceEqDiff, B0_201, B0_293, B0_350, B0_356, B0_464, B0_532, B0_612, B11_19, B18_8, B21_12, B21_15, B34_15, B34_19, B253_12, B256_13, B261_15, e2, c2]
  · have e1 := v_feed2 (R := w_R G b o μ) (ad := ad) (d := 6) (x1 := xs (i + 1).toNat) (x2 := xs (i + 2).toNat) (x3 := xs (i + 3).toNat) (x4 := xs (i + 4).toNat) (x5 := xs (i + 5).toNat) hC (by omega)
    have e2 := n_feed2 (m := b + 81) (ad := ad) (d := 13) (x1 := xs (i + 1).toNat) (x2 := xs (i + 2).toNat) (x3 := xs (i + 3).toNat) (x4 := xs (i + 4).toNat) (x5 := xs (i + 5).toNat) (M := c_t (w_R G b o μ) (c_xE σ 6 (.inr (30, [])))) hM (by omega)
    rw [w_m, w_m] at e2
    have e3 : am_gg (am_pr ad) 13 11 0 [some (.ref b), some (.int (xs (i + 1).toNat)), some (.int (xs (i + 2).toNat)), some (.int (xs (i + 3).toNat)), some (.int (xs (i + 4).toNat)), some (.int (xs (i + 5).toNat)), some (.ref (b + 104)), none] [] (c_t (w_R G b o μ) σ) = some (.inl (some (.int (h_ii 1))), c_t (w_R G b o μ) (c_xE σ 6 (.inr (30, [])))) := by
      rw [B11_0, if_pos cl_0, e1]
      simp (disch := first | omega | decide | fail) only [↓reduceIte, h_nI, Int.cast_ofNat_Int, h_add, h_neg, h_zero, h_cltT, h_cltF, h_cgeT, h_cgeF, h_cgtT, h_cgtF, h_cleT, h_cleF, h_ceqT, h_ceqF, h_cneT, h_cneF, Option.bind_some, am_thr, am_ret0, am_ret1, w_ls, w_ll, w_cl9, cl_0, w_thrown, w_cmp, w_exc, am_hd, h_fit0, if_true, if_false, Nat.reduceEqDiff, B0_201, B0_293, B0_350, B0_356, B0_464, B0_532, B0_612, B11_19, B18_8, B21_12, B21_15, B34_15, B34_19, B253_12, B256_13, B261_15]
    refine ⟨o, c_xE σ 6 (.inr (30, [])), m_uI μ 0 1, some (.int (h_ii 1)), some (.int (h_ii 0)), ?_, c_rs.xE σ _, ⟨_, _, _, _, _, _, hC.xE _ _, hM.code 1⟩⟩
    rw [B0_100]
    rw [w_xk (k := 1) (kk := 1) hS rfl h0 (by omega), w_xk (k := 2) (kk := 2) hS rfl h0 (by omega), w_xk (k := 3) (kk := 3) hS rfl h0 (by omega), w_xk (k := 4) (kk := 4) hS rfl h0 (by omega), w_xk (k := 5) (kk := 5) hS rfl h0 (by omega)]
    rw [e3]
    simp only [am_ret1]
    rw [w_xk (k := 1) (kk := 1) hS rfl h0 (by omega), w_xk (k := 2) (kk := 2) hS rfl h0 (by omega), w_xk (k := 3) (kk := 3) hS rfl h0 (by omega), w_xk (k := 4) (kk := 4) hS rfl h0 (by omega), w_xk (k := 5) (kk := 5) hS rfl h0 (by omega)]
    simp (disch := first | omega | decide | fail) only [↓reduceIte, h_nI, Int.cast_ofNat_Int, h_add, h_neg, h_zero, h_cltT, h_cltF, h_cgeT, h_cgeF, h_cgtT, h_cgtF, h_cleT, h_cleF, h_ceqT, h_ceqF, h_cneT, h_cneF, Option.bind_some, am_thr, am_ret0, am_ret1, w_ls, w_ll, w_cl9, cl_0, w_thrown, w_cmp, w_exc, am_hd, h_fit0, if_true, if_false, Nat.reduceEqDiff, B0_201, B0_293, B0_350, B0_356, B0_464, B0_532, B0_612, B11_19, B18_8, B21_12, B21_15, B34_15, B34_19, B253_12, B256_13, B261_15, e2, m_I_uI]
theorem w_end {i : Int} (hS : w_S G b s L xs) (h0 : 0 ≤ i) (h1 : i + 5 < L) (h : w_V σ μ) : w_K G ad b s 204 i o σ μ := by
  intro o5 o6
  obtain ⟨t, F, th, fc, fl, fs, hC, hM⟩ := h
  obtain ⟨z, hz, hb⟩ := v_bd (x := xs (i + 1).toNat)
  by_cases q : 0 ≤ z ∧ z ≤ t.length
  · obtain ⟨e1, v1⟩ := v_end1 (R := w_R G b o μ) (ad := ad) (d := 12) hC q.1 q.2
    obtain ⟨e2, v2⟩ := n_end1 (m := b + 81) (ad := ad) (d := 13) (M := c_t (w_R G b o μ) (c_uI σ 0 1 z)) hM q.1 q.2
    rw [w_m, w_m] at e2
    have e3 : am_gg (am_pr ad) 13 18 0 [some (.ref b), some (.int (h_ii z)), none] [] (c_t (w_R G b o μ) σ) = some (.inl (some (.int (h_ii 0))), c_t (w_R G b o μ) (c_uI σ 0 1 z)) := by
      rw [B18_0, if_pos cl_0, e1]
      simp (disch := first | omega | decide | fail) only [↓reduceIte, h_nI, Int.cast_ofNat_Int, h_add, h_neg, h_zero, h_cltT, h_cltF, h_cgeT, h_cgeF, h_cgtT, h_cgtF, h_cleT, h_cleF, h_ceqT, h_ceqF, h_cneT, h_cneF, Option.bind_some, am_thr, am_ret0, am_ret1, w_ls, w_ll, w_cl9, cl_0, w_thrown, w_cmp, w_exc, am_hd, h_fit0, if_true, if_false, Nat.reduceEqDiff, B0_201, B0_293, B0_350, B0_356, B0_464, B0_532, B0_612, B11_19, B18_8, B21_12, B21_15, B34_15, B34_19, B253_12, B256_13, B261_15]
    refine ⟨o, c_uI σ 0 1 z, m_uI (m_uI μ 0 0) 6 z, some (.int (h_ii 0)), o6, ?_, (c_rs.of (.same rfl rfl (fun _ => rfl) (fun _ => rfl) (fun _ => rfl))).mono (by decide), ⟨_, _, _, _, _, _, v1, v2⟩⟩
    rw [B0_204]
    rw [w_xk (k := 1) (kk := 1) hS rfl h0 (by omega)]
    rw [hz]
    rw [e3]
    simp only [am_ret1]
    rw [w_xk (k := 1) (kk := 1) hS rfl h0 (by omega)]
    rw [hz]
    simp (disch := first | omega | decide | fail) only [↓reduceIte, h_nI, Int.cast_ofNat_Int, h_add, h_neg, h_zero, h_cltT, h_cltF, h_cgeT, h_cgeF, h_cgtT, h_cgtF, h_cleT, h_cleF, h_ceqT, h_ceqF, h_cneT, h_cneF, Option.bind_some, am_thr, am_ret0, am_ret1, w_ls, w_ll, w_cl9, cl_0, w_thrown, w_cmp, w_exc, am_hd, h_fit0, if_true, if_false, Nat.reduceEqDiff, B0_201, B0_293, B0_350, B0_356, B0_464, B0_532, B0_612, B11_19, B18_8, B21_12, B21_15, B34_15, B34_19, B253_12, B256_13, B261_15, e2, m_I_uI]
  · have e1 := v_end2 (R := w_R G b o μ) (ad := ad) (d := 6) hC hb (by omega)
    obtain ⟨μ', e2, c2, v2⟩ := n_end2 (m := b + 81) (ad := ad) (d := 13) (M := c_t (w_R G b o μ) (c_xE σ 6 (.inr (31, [])))) hM hb (by omega)
    rw [w_m, w_m] at e2
    have e3 : am_gg (am_pr ad) 13 18 0 [some (.ref b), some (.int (h_ii z)), none] [] (c_t (w_R G b o μ) σ) = some (.inl (some (.int (h_ii 1))), c_t (w_R G b o μ) (c_xE σ 6 (.inr (31, [])))) := by
      rw [B18_0, if_pos cl_0, e1]
      simp (disch := first | omega | decide | fail) only [↓reduceIte, h_nI, Int.cast_ofNat_Int, h_add, h_neg, h_zero, h_cltT, h_cltF, h_cgeT, h_cgeF, h_cgtT, h_cgtF, h_cleT, h_cleF, h_ceqT, h_ceqF, h_cneT, h_cneF, Option.bind_some, am_thr, am_ret0, am_ret1, w_ls, w_ll, w_cl9, cl_0, w_thrown, w_cmp, w_exc, am_hd, h_fit0, if_true, if_false, Nat.reduceEqDiff, B0_201, B0_293, B0_350, B0_356, B0_464, B0_532, B0_612, B11_19, B18_8, B21_12, B21_15, B34_15, B34_19, B253_12, B256_13, B261_15]
    refine ⟨o, c_xE σ 6 (.inr (31, [])), μ', some (.int (h_ii 1)), o6, ?_, c_rs.xE σ _, ⟨_, _, _, _, _, _, hC.xE _ _, v2⟩⟩
    rw [B0_204]
    rw [w_xk (k := 1) (kk := 1) hS rfl h0 (by omega)]
    rw [hz]
    rw [e3]
    simp only [am_ret1]
    rw [w_xk (k := 1) (kk := 1) hS rfl h0 (by omega)]
    rw [hz]
    simp (disch := first | omega | decide | fail) only [↓reduceIte, h_nI, Int.cast_ofNat_Int, h_add, h_neg, h_zero, h_cltT, h_cltF, h_cgeT, h_cgeF, h_cgtT, h_cgtF, h_cleT, h_cleF, h_ceqT, h_ceqF, h_cneT, h_cneF, Option.bind_some, am_thr, am_ret0, am_ret1, w_ls, w_ll, w_cl9, cl_0, w_thrown, w_cmp, w_exc, am_hd, h_fit0, if_true, if_false, Nat.reduceEqDiff, B0_201, B0_293, B0_350, B0_356, B0_464, B0_532, B0_612, B11_19, B18_8, B21_12, B21_15, B34_15, B34_19, B253_12, B256_13, B261_15, e2, c2]
theorem w_store {i : Int} (hS : w_S G b s L xs) (h0 : 0 ≤ i) (h1 : i + 5 < L) (h : w_V σ μ) : w_K G ad b s 240 i o σ μ := by
  intro o5 o6
  obtain ⟨t, F, th, fc, fl, fs, hC, hM⟩ := h
  obtain ⟨z, hz, hb⟩ := v_bd (x := xs (i + 1).toNat)
  by_cases q : 0 ≤ z ∧ z < 10
  · by_cases hX : x_fit (x_sp t [] [])
    · have hl := hX.1
      obtain ⟨σ', e1, r1, v1⟩ := v_store1 (R := w_R G b o μ) (ad := ad) (d := 6) hC q.1 q.2 hX
      obtain ⟨μ', e2, c2, v2⟩ := n_store1 (m := b + 81) (ad := ad) (d := 12) (M := c_t (w_R G b (h_ii (x_sp t [] []).length).toInt64 μ) σ') hM q.1 q.2 hX
      rw [w_m, w_m] at e2
      have e3 : am_gg (am_pr ad) 13 21 0 [some (.ref b), some (.int (h_ii z)), some (.ref (b + 104)), none] [] (c_t (w_R G b o μ) σ) = some (.inl (some (.int (h_ii 0))), c_t (w_R G b (h_ii (x_sp t [] []).length).toInt64 μ) σ') := by
        rw [B21_0, if_pos cl_0, e1]
        simp (disch := first | omega | decide | fail) only [↓reduceIte, h_nI, Int.cast_ofNat_Int, h_add, h_neg, h_zero, h_cltT, h_cltF, h_cgeT, h_cgeF, h_cgtT, h_cgtF, h_cleT, h_cleF, h_ceqT, h_ceqF, h_cneT, h_cneF, Option.bind_some, am_thr, am_ret0, am_ret1, w_ls, w_ll, w_cl9, cl_0, w_thrown, w_cmp, w_exc, am_hd, h_fit0, if_true, if_false, Nat.reduceEqDiff, B0_201, B0_293, B0_350, B0_356, B0_464, B0_532, B0_612, B11_19, B18_8, B21_12, B21_15, B34_15, B34_19, B253_12, B256_13, B261_15]
      refine ⟨(h_ii (x_sp t [] []).length).toInt64, σ', μ', some (.int (h_ii 0)), some (.int (h_ii (x_sp t [] []).length)), ?_, r1.mono (by decide), ⟨_, _, _, _, _, _, v1, v2⟩⟩
      rw [B0_240]
      rw [w_xk (k := 1) (kk := 1) hS rfl h0 (by omega)]
      rw [hz]
      rw [e3]
      simp only [am_ret1]
      rw [w_xk (k := 1) (kk := 1) hS rfl h0 (by omega)]
      rw [hz]
      simp (disch := first | omega | decide | fail) only [↓reduceIte, h_nI, Int.cast_ofNat_Int, h_add, h_neg, h_zero, h_cltT, h_cltF, h_cgeT, h_cgeF, h_cgtT, h_cgtF, h_cleT, h_cleF, h_ceqT, h_ceqF, h_cneT, h_cneF, Option.bind_some, am_thr, am_ret0, am_ret1, w_ls, w_ll, w_cl9, cl_0, w_thrown, w_cmp, w_exc, am_hd, h_fit0, if_true, if_false, Nat.reduceEqDiff, B0_201, B0_293, B0_350, B0_356, B0_464, B0_532, B0_612, B11_19, B18_8, B21_12, B21_15, B34_15, B34_19, B253_12, B256_13, B261_15, e2, c2]
    · obtain ⟨σ', e1, r1, v1⟩ := v_store2 (R := w_R G b o μ) (ad := ad) (d := 6) hC q.1 q.2 hX
      obtain ⟨μ', e2, c2, v2⟩ := n_store2 (m := b + 81) (ad := ad) (d := 12) (M := c_t (w_R G b o μ) (c_xE σ' 6 (.inr (30, [])))) hM q.1 q.2 hX
      rw [w_m, w_m] at e2
      have e3 : am_gg (am_pr ad) 13 21 0 [some (.ref b), some (.int (h_ii z)), some (.ref (b + 104)), none] [] (c_t (w_R G b o μ) σ) = some (.inl (some (.int (h_ii 2))), c_t (w_R G b o μ) (c_xE σ' 6 (.inr (30, [])))) := by
        rw [B21_0, if_pos cl_0, e1]
        simp (disch := first | omega | decide | fail) only [↓reduceIte, h_nI, Int.cast_ofNat_Int, h_add, h_neg, h_zero, h_cltT, h_cltF, h_cgeT, h_cgeF, h_cgtT, h_cgtF, h_cleT, h_cleF, h_ceqT, h_ceqF, h_cneT, h_cneF, Option.bind_some, am_thr, am_ret0, am_ret1, w_ls, w_ll, w_cl9, cl_0, w_thrown, w_cmp, w_exc, am_hd, h_fit0, if_true, if_false, Nat.reduceEqDiff, B0_201, B0_293, B0_350, B0_356, B0_464, B0_532, B0_612, B11_19, B18_8, B21_12, B21_15, B34_15, B34_19, B253_12, B256_13, B261_15]
      refine ⟨o, c_xE σ' 6 (.inr (30, [])), μ', some (.int (h_ii 2)), some (.int (h_ii 0)), ?_, r1.trans (c_rs.xE σ' _), ⟨_, _, _, _, _, _, v1.xE _ _, v2⟩⟩
      rw [B0_240]
      rw [w_xk (k := 1) (kk := 1) hS rfl h0 (by omega)]
      rw [hz]
      rw [e3]
      simp only [am_ret1]
      rw [w_xk (k := 1) (kk := 1) hS rfl h0 (by omega)]
      rw [hz]
      simp (disch := first | omega | decide | fail) only [↓reduceIte, h_nI, Int.cast_ofNat_Int, h_add, h_neg, h_zero, h_cltT, h_cltF, h_cgeT, h_cgeF, h_cgtT, h_cgtF, h_cleT, h_cleF, h_ceqT, h_ceqF, h_cneT, h_cneF, Option.bind_some, am_thr, am_ret0, am_ret1, w_ls, w_ll, w_cl9, cl_0, w_thrown, w_cmp, w_exc, am_hd, h_fit0, if_true, if_false, Nat.reduceEqDiff, B0_201, B0_293, B0_350, B0_356, B0_464, B0_532, B0_612, B11_19, B18_8, B21_12, B21_15, B34_15, B34_19, B253_12, B256_13, B261_15, e2, c2]
  · have e1 := v_store3 (R := w_R G b o μ) (σ := σ) (ad := ad) (d := 6) hb (by omega)
    have e2 := n_store3 (m := b + 81) (ad := ad) (d := 12) (M := c_t (w_R G b o μ) (c_xE σ 6 (.inr (32, [])))) hM hb (by omega)
    rw [w_m, w_m] at e2
    have e3 : am_gg (am_pr ad) 13 21 0 [some (.ref b), some (.int (h_ii z)), some (.ref (b + 104)), none] [] (c_t (w_R G b o μ) σ) = some (.inl (some (.int (h_ii 1))), c_t (w_R G b o μ) (c_xE σ 6 (.inr (32, [])))) := by
      rw [B21_0, if_pos cl_0, e1]
      simp (disch := first | omega | decide | fail) only [↓reduceIte, h_nI, Int.cast_ofNat_Int, h_add, h_neg, h_zero, h_cltT, h_cltF, h_cgeT, h_cgeF, h_cgtT, h_cgtF, h_cleT, h_cleF, h_ceqT, h_ceqF, h_cneT, h_cneF, Option.bind_some, am_thr, am_ret0, am_ret1, w_ls, w_ll, w_cl9, cl_0, w_thrown, w_cmp, w_exc, am_hd, h_fit0, if_true, if_false, Nat.reduceEqDiff, B0_201, B0_293, B0_350, B0_356, B0_464, B0_532, B0_612, B11_19, B18_8, B21_12, B21_15, B34_15, B34_19, B253_12, B256_13, B261_15]
    refine ⟨o, c_xE σ 6 (.inr (32, [])), m_uI μ 0 1, some (.int (h_ii 1)), some (.int (h_ii 0)), ?_, c_rs.xE σ _, ⟨_, _, _, _, _, _, hC.xE _ _, hM.code 1⟩⟩
    rw [B0_240]
    rw [w_xk (k := 1) (kk := 1) hS rfl h0 (by omega)]
    rw [hz]
    rw [e3]
    simp only [am_ret1]
    rw [w_xk (k := 1) (kk := 1) hS rfl h0 (by omega)]
    rw [hz]
    simp (disch := first | omega | decide | fail) only [↓reduceIte, h_nI, Int.cast_ofNat_Int, h_add, h_neg, h_zero, h_cltT, h_cltF, h_cgeT, h_cgeF, h_cgtT, h_cgtF, h_cleT, h_cleF, h_ceqT, h_ceqF, h_cneT, h_cneF, Option.bind_some, am_thr, am_ret0, am_ret1, w_ls, w_ll, w_cl9, cl_0, w_thrown, w_cmp, w_exc, am_hd, h_fit0, if_true, if_false, Nat.reduceEqDiff, B0_201, B0_293, B0_350, B0_356, B0_464, B0_532, B0_612, B11_19, B18_8, B21_12, B21_15, B34_15, B34_19, B253_12, B256_13, B261_15, e2, m_I_uI]
theorem w_drop {i : Int} (hS : w_S G b s L xs) (h0 : 0 ≤ i) (h1 : i + 5 < L) (h : w_V σ μ) : w_K G ad b s 296 i o σ μ := by
  intro o5 o6
  obtain ⟨t, F, th, fc, fl, fs, hC, hM⟩ := h
  obtain ⟨z, hz, hb⟩ := v_bd (x := xs (i + 1).toNat)
  by_cases q : 0 ≤ z ∧ z < 10
  · obtain ⟨e1, v1⟩ := v_drop1 (R := w_R G b o μ) (ad := ad) (d := 12) hC q.1 q.2
    by_cases qt : th z.toNat = true
    · rw [if_pos qt] at e1
      obtain ⟨μ', e2, c2, v2⟩ := n_drop1 (m := b + 81) (ad := ad) (d := 13) (M := c_t (w_R G b (lN 1) μ) (c_uA σ 3 z.toNat 0)) hM q.1 q.2
      rw [w_m, w_m, if_pos qt] at e2
      have e3 : am_gg (am_pr ad) 13 34 0 [some (.ref b), some (.int (h_ii z)), some (.ref (b + 104)), none] [] (c_t (w_R G b o μ) σ) = some (.inl (some (.int (h_ii 0))), c_t (w_R G b (lN 1) μ) (c_uA σ 3 z.toNat 0)) := by
        rw [B34_0, if_pos cl_0, e1]
        simp (disch := first | omega | decide | fail) only [↓reduceIte, h_nI, Int.cast_ofNat_Int, h_add, h_neg, h_zero, h_cltT, h_cltF, h_cgeT, h_cgeF, h_cgtT, h_cgtF, h_cleT, h_cleF, h_ceqT, h_ceqF, h_cneT, h_cneF, Option.bind_some, am_thr, am_ret0, am_ret1, w_ls, w_ll, w_cl9, cl_0, w_thrown, w_cmp, w_exc, am_hd, h_fit0, if_true, if_false, Nat.reduceEqDiff, B0_201, B0_293, B0_350, B0_356, B0_464, B0_532, B0_612, B11_19, B18_8, B21_12, B21_15, B34_15, B34_19, B253_12, B256_13, B261_15]
      refine ⟨lN 1, c_uA σ 3 z.toNat 0, μ', some (.int (h_ii 0)), some (.int (h_ii 1)), ?_, (c_rs.of (.same rfl rfl (fun _ => rfl) (fun _ => rfl) (fun _ => rfl))).mono (by decide), ⟨_, _, _, _, _, _, v1, v2⟩⟩
      rw [B0_296]
      rw [w_xk (k := 1) (kk := 1) hS rfl h0 (by omega)]
      rw [hz]
      rw [e3]
      simp only [am_ret1]
      rw [w_xk (k := 1) (kk := 1) hS rfl h0 (by omega)]
      rw [hz]
      simp (disch := first | omega | decide | fail) only [↓reduceIte, h_nI, Int.cast_ofNat_Int, h_add, h_neg, h_zero, h_cltT, h_cltF, h_cgeT, h_cgeF, h_cgtT, h_cgtF, h_cleT, h_cleF, h_ceqT, h_ceqF, h_cneT, h_cneF, Option.bind_some, am_thr, am_ret0, am_ret1, w_ls, w_ll, w_cl9, cl_0, w_thrown, w_cmp, w_exc, am_hd, h_fit0, if_true, if_false, Nat.reduceEqDiff, B0_201, B0_293, B0_350, B0_356, B0_464, B0_532, B0_612, B11_19, B18_8, B21_12, B21_15, B34_15, B34_19, B253_12, B256_13, B261_15, e2, c2]
    · rw [if_neg qt] at e1
      obtain ⟨μ', e2, c2, v2⟩ := n_drop1 (m := b + 81) (ad := ad) (d := 13) (M := c_t (w_R G b (lN 0) μ) (c_uA σ 3 z.toNat 0)) hM q.1 q.2
      rw [w_m, w_m, if_neg qt] at e2
      have e3 : am_gg (am_pr ad) 13 34 0 [some (.ref b), some (.int (h_ii z)), some (.ref (b + 104)), none] [] (c_t (w_R G b o μ) σ) = some (.inl (some (.int (h_ii 0))), c_t (w_R G b (lN 0) μ) (c_uA σ 3 z.toNat 0)) := by
        rw [B34_0, if_pos cl_0, e1]
        simp (disch := first | omega | decide | fail) only [↓reduceIte, h_nI, Int.cast_ofNat_Int, h_add, h_neg, h_zero, h_cltT, h_cltF, h_cgeT, h_cgeF, h_cgtT, h_cgtF, h_cleT, h_cleF, h_ceqT, h_ceqF, h_cneT, h_cneF, Option.bind_some, am_thr, am_ret0, am_ret1, w_ls, w_ll, w_cl9, cl_0, w_thrown, w_cmp, w_exc, am_hd, h_fit0, if_true, if_false, Nat.reduceEqDiff, B0_201, B0_293, B0_350, B0_356, B0_464, B0_532, B0_612, B11_19, B18_8, B21_12, B21_15, B34_15, B34_19, B253_12, B256_13, B261_15]
      refine ⟨lN 0, c_uA σ 3 z.toNat 0, μ', some (.int (h_ii 0)), some (.int (h_ii 0)), ?_, (c_rs.of (.same rfl rfl (fun _ => rfl) (fun _ => rfl) (fun _ => rfl))).mono (by decide), ⟨_, _, _, _, _, _, v1, v2⟩⟩
      rw [B0_296]
      rw [w_xk (k := 1) (kk := 1) hS rfl h0 (by omega)]
      rw [hz]
      rw [e3]
      simp only [am_ret1]
      rw [w_xk (k := 1) (kk := 1) hS rfl h0 (by omega)]
      rw [hz]
      simp (disch := first | omega | decide | fail) only [↓reduceIte, h_nI, Int.cast_ofNat_Int, h_add, h_neg, h_zero, h_cltT, h_cltF, h_cgeT, h_cgeF, h_cgtT, h_cgtF, h_cleT, h_cleF, h_ceqT, h_ceqF, h_cneT, h_cneF, Option.bind_some, am_thr, am_ret0, am_ret1, w_ls, w_ll, w_cl9, cl_0, w_thrown, w_cmp, w_exc, am_hd, h_fit0, if_true, if_false, Nat.reduceEqDiff, B0_201, B0_293, B0_350, B0_356, B0_464, B0_532, B0_612, B11_19, B18_8, B21_12, B21_15, B34_15, B34_19, B253_12, B256_13, B261_15, e2, c2]
  · have e1 := v_drop2 (R := w_R G b o μ) (σ := σ) (ad := ad) (d := 6) hb (by omega)
    have e2 := n_drop2 (m := b + 81) (μ := μ) (ad := ad) (d := 13) (M := c_t (w_R G b o μ) (c_xE σ 6 (.inr (32, [])))) hb (by omega)
    rw [w_m, w_m] at e2
    have e3 : am_gg (am_pr ad) 13 34 0 [some (.ref b), some (.int (h_ii z)), some (.ref (b + 104)), none] [] (c_t (w_R G b o μ) σ) = some (.inl (some (.int (h_ii 1))), c_t (w_R G b o μ) (c_xE σ 6 (.inr (32, [])))) := by
      rw [B34_0, if_pos cl_0, e1]
      simp (disch := first | omega | decide | fail) only [↓reduceIte, h_nI, Int.cast_ofNat_Int, h_add, h_neg, h_zero, h_cltT, h_cltF, h_cgeT, h_cgeF, h_cgtT, h_cgtF, h_cleT, h_cleF, h_ceqT, h_ceqF, h_cneT, h_cneF, Option.bind_some, am_thr, am_ret0, am_ret1, w_ls, w_ll, w_cl9, cl_0, w_thrown, w_cmp, w_exc, am_hd, h_fit0, if_true, if_false, Nat.reduceEqDiff, B0_201, B0_293, B0_350, B0_356, B0_464, B0_532, B0_612, B11_19, B18_8, B21_12, B21_15, B34_15, B34_19, B253_12, B256_13, B261_15]
    refine ⟨o, c_xE σ 6 (.inr (32, [])), m_uI μ 0 1, some (.int (h_ii 1)), some (.int (h_ii 0)), ?_, c_rs.xE σ _, ⟨_, _, _, _, _, _, hC.xE _ _, hM.code 1⟩⟩
    rw [B0_296]
    rw [w_xk (k := 1) (kk := 1) hS rfl h0 (by omega)]
    rw [hz]
    rw [e3]
    simp only [am_ret1]
    rw [w_xk (k := 1) (kk := 1) hS rfl h0 (by omega)]
    rw [hz]
    simp (disch := first | omega | decide | fail) only [↓reduceIte, h_nI, Int.cast_ofNat_Int, h_add, h_neg, h_zero, h_cltT, h_cltF, h_cgeT, h_cgeF, h_cgtT, h_cgtF, h_cleT, h_cleF, h_ceqT, h_ceqF, h_cneT, h_cneF, Option.bind_some, am_thr, am_ret0, am_ret1, w_ls, w_ll, w_cl9, cl_0, w_thrown, w_cmp, w_exc, am_hd, h_fit0, if_true, if_false, Nat.reduceEqDiff, B0_201, B0_293, B0_350, B0_356, B0_464, B0_532, B0_612, B11_19, B18_8, B21_12, B21_15, B34_15, B34_19, B253_12, B256_13, B261_15, e2, m_I_uI]
theorem c_rs.refl1 (σ : c_S b) : c_rs 1 σ σ := (c_rs.of (c_rm.refl σ)).mono (by decide)
theorem w_eq (x : Int32) : (am_cond .eq x x = true) = True := by
  show (decide (x = x) = true) = True
  simp
theorem w_runK {i : Int} (hr : w_run G ad b) (h : w_V σ μ) : w_K G ad b s 359 i o σ μ := by
  intro o5 o6
  obtain ⟨v, σ', μ', e1, e2, r1, v1⟩ := hr o σ μ h
  have e2 := e2 (c_t (w_R G b o μ) σ')
  rw [w_m, w_m] at e2
  refine ⟨o, σ', μ', o5, o6, ?_, r1.mono (by decide), v1⟩
  rw [B0_359, if_pos cl_0, e1]
  simp only [am_ret1, if_pos w_cl9, e2, w_eq, if_true]
theorem w_fault {i : Int} (h : w_V σ μ) : w_K G ad b s 372 i o σ μ := by
  intro o5 o6
  obtain ⟨t, F, th, fc, fl, fs, hC, hM⟩ := h
  have e2 := n_fault (m := b + 81) (ad := ad) (d := 13) (M := c_t (w_R G b o μ) σ) hM
  rw [w_m, w_m] at e2
  refine ⟨o, σ, m_uI μ 0 0, o5, o6, ?_, c_rs.refl1 σ, ⟨_, _, _, _, _, _, hC, hM.code 0⟩⟩
  rw [B0_372, if_pos cl_0, v_fault hC]
  simp only [am_ret1, if_pos w_cl9, e2, w_eq, if_true]
theorem w_line {i : Int} (h : w_V σ μ) : w_K G ad b s 385 i o σ μ := by
  intro o5 o6
  obtain ⟨t, F, th, fc, fl, fs, hC, hM⟩ := h
  have e2 := n_line (m := b + 81) (ad := ad) (d := 13) (M := c_t (w_R G b o μ) σ) hM
  rw [w_m, w_m] at e2
  refine ⟨o, σ, m_uI μ 0 0, o5, o6, ?_, c_rs.refl1 σ, ⟨_, _, _, _, _, _, hC, hM.code 0⟩⟩
  rw [B0_385, if_pos cl_0, v_line hC]
  simp only [am_ret1, if_pos w_cl9, e2, w_eq, if_true]
theorem w_side {i : Int} (h : w_V σ μ) : w_K G ad b s 398 i o σ μ := by
  intro o5 o6
  obtain ⟨t, F, th, fc, fl, fs, hC, hM⟩ := h
  have e2 := n_side (m := b + 81) (ad := ad) (d := 13) (M := c_t (w_R G b o μ) σ) hM
  rw [w_m, w_m] at e2
  refine ⟨o, σ, m_uI μ 0 0, o5, o6, ?_, c_rs.refl1 σ, ⟨_, _, _, _, _, _, hC, hM.code 0⟩⟩
  rw [B0_398, if_pos cl_0, v_side hC]
  simp only [am_ret1, if_pos w_cl9, e2, w_eq, if_true]
theorem w_lines {i : Int} (hS : w_S G b s L xs) (h0 : 0 ≤ i) (h1 : i + 5 < L) (h : w_V σ μ) : w_K G ad b s 411 i o σ μ := by
  intro o5 o6
  obtain ⟨t, F, th, fc, fl, fs, hC, hM⟩ := h
  obtain ⟨z, hz, hb⟩ := v_bd (x := xs (i + 1).toNat)
  by_cases q : 0 ≤ z ∧ z < 11
  · have hv : ∃ v : Int, v = (if th z.toNat = true then ((F z.toNat).length : Int) else -1) := ⟨_, rfl⟩
    obtain ⟨v, hv⟩ := hv
    have e1 := v_lines1 (R := w_R G b o μ) (ad := ad) (d := 12) hC q.1 q.2
    have e2 := n_lines1 (m := b + 81) (ad := ad) (d := 13) (M := c_t (w_R G b (h_ii v).toInt64 μ) σ) hM q.1 q.2
    rw [w_m, w_m, ← hv] at e2
    rw [← hv] at e1
    have e3 : am_gg (am_pr ad) 13 253 0 [some (.ref b), some (.int (h_ii z)), some (.ref (b + 104)), none] [] (c_t (w_R G b o μ) σ) = some (.inl (some (.int (h_ii 0))), c_t (w_R G b (h_ii v).toInt64 μ) σ) := by
      rw [B253_0, if_pos cl_0, e1]
      simp (disch := first | omega | decide | fail) only [↓reduceIte, h_nI, Int.cast_ofNat_Int, h_add, h_neg, h_zero, h_cltT, h_cltF, h_cgeT, h_cgeF, h_cgtT, h_cgtF, h_cleT, h_cleF, h_ceqT, h_ceqF, h_cneT, h_cneF, Option.bind_some, am_thr, am_ret0, am_ret1, w_ls, w_ll, w_cl9, cl_0, w_thrown, w_cmp, w_exc, am_hd, h_fit0, if_true, if_false, Nat.reduceEqDiff, B0_201, B0_293, B0_350, B0_356, B0_464, B0_532, B0_612, B11_19, B18_8, B21_12, B21_15, B34_15, B34_19, B253_12, B256_13, B261_15]
    refine ⟨(h_ii v).toInt64, σ, m_uI μ 0 0, some (.int (h_ii 0)), some (.int (h_ii v)), ?_, c_rs.refl1 σ, ⟨_, _, _, _, _, _, hC, hM.code 0⟩⟩
    rw [B0_411]
    rw [w_xk (k := 1) (kk := 1) hS rfl h0 (by omega)]
    rw [hz]
    rw [e3]
    simp only [am_ret1]
    rw [w_xk (k := 1) (kk := 1) hS rfl h0 (by omega)]
    rw [hz]
    simp (disch := first | omega | decide | fail) only [↓reduceIte, h_nI, Int.cast_ofNat_Int, h_add, h_neg, h_zero, h_cltT, h_cltF, h_cgeT, h_cgeF, h_cgtT, h_cgtF, h_cleT, h_cleF, h_ceqT, h_ceqF, h_cneT, h_cneF, Option.bind_some, am_thr, am_ret0, am_ret1, w_ls, w_ll, w_cl9, cl_0, w_thrown, w_cmp, w_exc, am_hd, h_fit0, if_true, if_false, Nat.reduceEqDiff, B0_201, B0_293, B0_350, B0_356, B0_464, B0_532, B0_612, B11_19, B18_8, B21_12, B21_15, B34_15, B34_19, B253_12, B256_13, B261_15, e2, m_I_uI]
  · have e1 := v_lines2 (R := w_R G b o μ) (σ := σ) (ad := ad) (d := 6) hb (by omega)
    have e2 := n_lines2 (m := b + 81) (μ := μ) (ad := ad) (d := 13) (M := c_t (w_R G b o μ) (c_xE σ 6 (.inr (32, [])))) hb (by omega)
    rw [w_m, w_m] at e2
    have e3 : am_gg (am_pr ad) 13 253 0 [some (.ref b), some (.int (h_ii z)), some (.ref (b + 104)), none] [] (c_t (w_R G b o μ) σ) = some (.inl (some (.int (h_ii 1))), c_t (w_R G b o μ) (c_xE σ 6 (.inr (32, [])))) := by
      rw [B253_0, if_pos cl_0, e1]
      simp (disch := first | omega | decide | fail) only [↓reduceIte, h_nI, Int.cast_ofNat_Int, h_add, h_neg, h_zero, h_cltT, h_cltF, h_cgeT, h_cgeF, h_cgtT, h_cgtF, h_cleT, h_cleF, h_ceqT, h_ceqF, h_cneT, h_cneF, Option.bind_some, am_thr, am_ret0, am_ret1, w_ls, w_ll, w_cl9, cl_0, w_thrown, w_cmp, w_exc, am_hd, h_fit0, if_true, if_false, Nat.reduceEqDiff, B0_201, B0_293, B0_350, B0_356, B0_464, B0_532, B0_612, B11_19, B18_8, B21_12, B21_15, B34_15, B34_19, B253_12, B256_13, B261_15]
    refine ⟨o, c_xE σ 6 (.inr (32, [])), m_uI μ 0 1, some (.int (h_ii 1)), some (.int (h_ii 0)), ?_, c_rs.xE σ _, ⟨_, _, _, _, _, _, hC.xE _ _, hM.code 1⟩⟩
    rw [B0_411]
    rw [w_xk (k := 1) (kk := 1) hS rfl h0 (by omega)]
    rw [hz]
    rw [e3]
    simp only [am_ret1]
    rw [w_xk (k := 1) (kk := 1) hS rfl h0 (by omega)]
    rw [hz]
    simp (disch := first | omega | decide | fail) only [↓reduceIte, h_nI, Int.cast_ofNat_Int, h_add, h_neg, h_zero, h_cltT, h_cltF, h_cgeT, h_cgeF, h_cgtT, h_cgtF, h_cleT, h_cleF, h_ceqT, h_ceqF, h_cneT, h_cneF, Option.bind_some, am_thr, am_ret0, am_ret1, w_ls, w_ll, w_cl9, cl_0, w_thrown, w_cmp, w_exc, am_hd, h_fit0, if_true, if_false, Nat.reduceEqDiff, B0_201, B0_293, B0_350, B0_356, B0_464, B0_532, B0_612, B11_19, B18_8, B21_12, B21_15, B34_15, B34_19, B253_12, B256_13, B261_15, e2, m_I_uI]
theorem w_length {i : Int} (hS : w_S G b s L xs) (h0 : 0 ≤ i) (h1 : i + 5 < L) (h : w_V σ μ) : w_K G ad b s 467 i o σ μ := by
  intro o5 o6
  obtain ⟨t, F, th, fc, fl, fs, hC, hM⟩ := h
  obtain ⟨z, hz, hb⟩ := v_bd (x := xs (i + 1).toNat)
  obtain ⟨y, hy, hc⟩ := v_bd (x := xs (i + 2).toNat)
  by_cases q : v_has F th z y
  · have hv : ∃ v : Int, v = (((F z.toNat).getD y.toNat []).length : Int) := ⟨_, rfl⟩
    obtain ⟨v, hv⟩ := hv
    have e1 := v_length1 (R := w_R G b o μ) (ad := ad) (d := 6) hC q
    have e2 := n_length1 (m := b + 81) (ad := ad) (d := 12) (M := c_t (w_R G b (h_ii v).toInt64 μ) σ) hM q
    rw [w_m, w_m, ← hv] at e2
    rw [← hv] at e1
    have e3 : am_gg (am_pr ad) 13 256 0 [some (.ref b), some (.int (h_ii z)), some (.int (h_ii y)), some (.ref (b + 104)), none] [] (c_t (w_R G b o μ) σ) = some (.inl (some (.int (h_ii 0))), c_t (w_R G b (h_ii v).toInt64 μ) σ) := by
      rw [B256_0, if_pos cl_0, e1]
      simp (disch := first | omega | decide | fail) only [↓reduceIte, h_nI, Int.cast_ofNat_Int, h_add, h_neg, h_zero, h_cltT, h_cltF, h_cgeT, h_cgeF, h_cgtT, h_cgtF, h_cleT, h_cleF, h_ceqT, h_ceqF, h_cneT, h_cneF, Option.bind_some, am_thr, am_ret0, am_ret1, w_ls, w_ll, w_cl9, cl_0, w_thrown, w_cmp, w_exc, am_hd, h_fit0, if_true, if_false, Nat.reduceEqDiff, B0_201, B0_293, B0_350, B0_356, B0_464, B0_532, B0_612, B11_19, B18_8, B21_12, B21_15, B34_15, B34_19, B253_12, B256_13, B261_15]
    refine ⟨(h_ii v).toInt64, σ, m_uI μ 0 0, some (.int (h_ii 0)), some (.int (h_ii v)), ?_, c_rs.refl1 σ, ⟨_, _, _, _, _, _, hC, hM.code 0⟩⟩
    rw [B0_467]
    rw [w_xk (k := 1) (kk := 1) hS rfl h0 (by omega), w_xk (k := 2) (kk := 2) hS rfl h0 (by omega)]
    rw [hz, hy]
    rw [e3]
    simp only [am_ret1]
    rw [w_xk (k := 1) (kk := 1) hS rfl h0 (by omega), w_xk (k := 2) (kk := 2) hS rfl h0 (by omega)]
    rw [hz, hy]
    simp (disch := first | omega | decide | fail) only [↓reduceIte, h_nI, Int.cast_ofNat_Int, h_add, h_neg, h_zero, h_cltT, h_cltF, h_cgeT, h_cgeF, h_cgtT, h_cgtF, h_cleT, h_cleF, h_ceqT, h_ceqF, h_cneT, h_cneF, Option.bind_some, am_thr, am_ret0, am_ret1, w_ls, w_ll, w_cl9, cl_0, w_thrown, w_cmp, w_exc, am_hd, h_fit0, if_true, if_false, Nat.reduceEqDiff, B0_201, B0_293, B0_350, B0_356, B0_464, B0_532, B0_612, B11_19, B18_8, B21_12, B21_15, B34_15, B34_19, B253_12, B256_13, B261_15, e2, m_I_uI]
  · have e1 := v_length2 (R := w_R G b o μ) (ad := ad) (d := 6) hC hb hc q
    have e2 := n_length2 (m := b + 81) (ad := ad) (d := 12) (M := c_t (w_R G b o μ) (c_xE σ 6 (.inr (32, [])))) hM hb hc q
    rw [w_m, w_m] at e2
    have e3 : am_gg (am_pr ad) 13 256 0 [some (.ref b), some (.int (h_ii z)), some (.int (h_ii y)), some (.ref (b + 104)), none] [] (c_t (w_R G b o μ) σ) = some (.inl (some (.int (h_ii 1))), c_t (w_R G b o μ) (c_xE σ 6 (.inr (32, [])))) := by
      rw [B256_0, if_pos cl_0, e1]
      simp (disch := first | omega | decide | fail) only [↓reduceIte, h_nI, Int.cast_ofNat_Int, h_add, h_neg, h_zero, h_cltT, h_cltF, h_cgeT, h_cgeF, h_cgtT, h_cgtF, h_cleT, h_cleF, h_ceqT, h_ceqF, h_cneT, h_cneF, Option.bind_some, am_thr, am_ret0, am_ret1, w_ls, w_ll, w_cl9, cl_0, w_thrown, w_cmp, w_exc, am_hd, h_fit0, if_true, if_false, Nat.reduceEqDiff, B0_201, B0_293, B0_350, B0_356, B0_464, B0_532, B0_612, B11_19, B18_8, B21_12, B21_15, B34_15, B34_19, B253_12, B256_13, B261_15]
    refine ⟨o, c_xE σ 6 (.inr (32, [])), m_uI μ 0 1, some (.int (h_ii 1)), some (.int (h_ii 0)), ?_, c_rs.xE σ _, ⟨_, _, _, _, _, _, hC.xE _ _, hM.code 1⟩⟩
    rw [B0_467]
    rw [w_xk (k := 1) (kk := 1) hS rfl h0 (by omega), w_xk (k := 2) (kk := 2) hS rfl h0 (by omega)]
    rw [hz, hy]
    rw [e3]
    simp only [am_ret1]
    rw [w_xk (k := 1) (kk := 1) hS rfl h0 (by omega), w_xk (k := 2) (kk := 2) hS rfl h0 (by omega)]
    rw [hz, hy]
    simp (disch := first | omega | decide | fail) only [↓reduceIte, h_nI, Int.cast_ofNat_Int, h_add, h_neg, h_zero, h_cltT, h_cltF, h_cgeT, h_cgeF, h_cgtT, h_cgtF, h_cleT, h_cleF, h_ceqT, h_ceqF, h_cneT, h_cneF, Option.bind_some, am_thr, am_ret0, am_ret1, w_ls, w_ll, w_cl9, cl_0, w_thrown, w_cmp, w_exc, am_hd, h_fit0, if_true, if_false, Nat.reduceEqDiff, B0_201, B0_293, B0_350, B0_356, B0_464, B0_532, B0_612, B11_19, B18_8, B21_12, B21_15, B34_15, B34_19, B253_12, B256_13, B261_15, e2, m_I_uI]
theorem w_byteAt {i : Int} (hS : w_S G b s L xs) (h0 : 0 ≤ i) (h1 : i + 5 < L) (h : w_V σ μ) : w_K G ad b s 535 i o σ μ := by
  intro o5 o6
  obtain ⟨t, F, th, fc, fl, fs, hC, hM⟩ := h
  obtain ⟨z, hz, hb⟩ := v_bd (x := xs (i + 1).toNat)
  obtain ⟨y, hy, hc⟩ := v_bd (x := xs (i + 2).toNat)
  obtain ⟨x, hx, hd⟩ := v_bd (x := xs (i + 3).toNat)
  by_cases q : v_has F th z y ∧ 0 ≤ x ∧ x < ((F z.toNat).getD y.toNat []).length
  · have hv : ∃ v : Int, v = (((F z.toNat).getD y.toNat []).getD x.toNat 0 : Int) := ⟨_, rfl⟩
    obtain ⟨v, hv⟩ := hv
    have e1 := v_byteAt1 (R := w_R G b o μ) (ad := ad) (d := 6) hC q.1 q.2.1 q.2.2
    have e2 := n_byteAt1 (m := b + 81) (ad := ad) (d := 12) (M := c_t (w_R G b (h_ii v).toInt64 μ) σ) hM q.1 q.2.1 q.2.2
    rw [w_m, w_m, ← hv] at e2
    rw [← hv] at e1
    have e3 : am_gg (am_pr ad) 13 261 0 [some (.ref b), some (.int (h_ii z)), some (.int (h_ii y)), some (.int (h_ii x)), some (.ref (b + 104)), none] [] (c_t (w_R G b o μ) σ) = some (.inl (some (.int (h_ii 0))), c_t (w_R G b (h_ii v).toInt64 μ) σ) := by
      rw [B261_0, if_pos cl_0, e1]
      simp (disch := first | omega | decide | fail) only [↓reduceIte, h_nI, Int.cast_ofNat_Int, h_add, h_neg, h_zero, h_cltT, h_cltF, h_cgeT, h_cgeF, h_cgtT, h_cgtF, h_cleT, h_cleF, h_ceqT, h_ceqF, h_cneT, h_cneF, Option.bind_some, am_thr, am_ret0, am_ret1, w_ls, w_ll, w_cl9, cl_0, w_thrown, w_cmp, w_exc, am_hd, h_fit0, if_true, if_false, Nat.reduceEqDiff, B0_201, B0_293, B0_350, B0_356, B0_464, B0_532, B0_612, B11_19, B18_8, B21_12, B21_15, B34_15, B34_19, B253_12, B256_13, B261_15]
    refine ⟨(h_ii v).toInt64, σ, m_uI μ 0 0, some (.int (h_ii 0)), some (.int (h_ii v)), ?_, c_rs.refl1 σ, ⟨_, _, _, _, _, _, hC, hM.code 0⟩⟩
    rw [B0_535]
    rw [w_xk (k := 1) (kk := 1) hS rfl h0 (by omega), w_xk (k := 2) (kk := 2) hS rfl h0 (by omega), w_xk (k := 3) (kk := 3) hS rfl h0 (by omega)]
    rw [hz, hy, hx]
    rw [e3]
    simp only [am_ret1]
    rw [w_xk (k := 1) (kk := 1) hS rfl h0 (by omega), w_xk (k := 2) (kk := 2) hS rfl h0 (by omega), w_xk (k := 3) (kk := 3) hS rfl h0 (by omega)]
    rw [hz, hy, hx]
    simp (disch := first | omega | decide | fail) only [↓reduceIte, h_nI, Int.cast_ofNat_Int, h_add, h_neg, h_zero, h_cltT, h_cltF, h_cgeT, h_cgeF, h_cgtT, h_cgtF, h_cleT, h_cleF, h_ceqT, h_ceqF, h_cneT, h_cneF, Option.bind_some, am_thr, am_ret0, am_ret1, w_ls, w_ll, w_cl9, cl_0, w_thrown, w_cmp, w_exc, am_hd, h_fit0, if_true, if_false, Nat.reduceEqDiff, B0_201, B0_293, B0_350, B0_356, B0_464, B0_532, B0_612, B11_19, B18_8, B21_12, B21_15, B34_15, B34_19, B253_12, B256_13, B261_15, e2, m_I_uI]
  · have e1 := v_byteAt2 (R := w_R G b o μ) (ad := ad) (d := 6) hC hb hc hd q
    have e2 := n_byteAt2 (m := b + 81) (ad := ad) (d := 12) (M := c_t (w_R G b o μ) (c_xE σ 6 (.inr (32, [])))) hM hb hc hd q
    rw [w_m, w_m] at e2
    have e3 : am_gg (am_pr ad) 13 261 0 [some (.ref b), some (.int (h_ii z)), some (.int (h_ii y)), some (.int (h_ii x)), some (.ref (b + 104)), none] [] (c_t (w_R G b o μ) σ) = some (.inl (some (.int (h_ii 1))), c_t (w_R G b o μ) (c_xE σ 6 (.inr (32, [])))) := by
      rw [B261_0, if_pos cl_0, e1]
      simp (disch := first | omega | decide | fail) only [↓reduceIte, h_nI, Int.cast_ofNat_Int, h_add, h_neg, h_zero, h_cltT, h_cltF, h_cgeT, h_cgeF, h_cgtT, h_cgtF, h_cleT, h_cleF, h_ceqT, h_ceqF, h_cneT, h_cneF, Option.bind_some, am_thr, am_ret0, am_ret1, w_ls, w_ll, w_cl9, cl_0, w_thrown, w_cmp, w_exc, am_hd, h_fit0, if_true, if_false, Nat.reduceEqDiff, B0_201, B0_293, B0_350, B0_356, B0_464, B0_532, B0_612, B11_19, B18_8, B21_12, B21_15, B34_15, B34_19, B253_12, B256_13, B261_15]
    refine ⟨o, c_xE σ 6 (.inr (32, [])), m_uI μ 0 1, some (.int (h_ii 1)), some (.int (h_ii 0)), ?_, c_rs.xE σ _, ⟨_, _, _, _, _, _, hC.xE _ _, hM.code 1⟩⟩
    rw [B0_535]
    rw [w_xk (k := 1) (kk := 1) hS rfl h0 (by omega), w_xk (k := 2) (kk := 2) hS rfl h0 (by omega), w_xk (k := 3) (kk := 3) hS rfl h0 (by omega)]
    rw [hz, hy, hx]
    rw [e3]
    simp only [am_ret1]
    rw [w_xk (k := 1) (kk := 1) hS rfl h0 (by omega), w_xk (k := 2) (kk := 2) hS rfl h0 (by omega), w_xk (k := 3) (kk := 3) hS rfl h0 (by omega)]
    rw [hz, hy, hx]
    simp (disch := first | omega | decide | fail) only [↓reduceIte, h_nI, Int.cast_ofNat_Int, h_add, h_neg, h_zero, h_cltT, h_cltF, h_cgeT, h_cgeF, h_cgtT, h_cgtF, h_cleT, h_cleF, h_ceqT, h_ceqF, h_cneT, h_cneF, Option.bind_some, am_thr, am_ret0, am_ret1, w_ls, w_ll, w_cl9, cl_0, w_thrown, w_cmp, w_exc, am_hd, h_fit0, if_true, if_false, Nat.reduceEqDiff, B0_201, B0_293, B0_350, B0_356, B0_464, B0_532, B0_612, B11_19, B18_8, B21_12, B21_15, B34_15, B34_19, B253_12, B256_13, B261_15, e2, m_I_uI]
end LW
