/-! THE REFERENCE: its object at m, its arrays behind it (printed by wip/whole/gen55.py) -/
/-- field, place behind m, tag, length -/
def m_tb : List (Nat × Nat × Nat × Nat) := [(1, 1, 0, 936000), (2, 2, 1, 3900), (3, 3, 1, 13), (4, 4, 2, 13), (5, 5, 0, 9000), (7, 6, 0, 9000), (8, 7, 2, 9000), (9, 8, 1, 9002), (10, 9, 1, 9002), (11, 10, 1, 9002), (12, 11, 0, 9002), (18, 12, 3, 13), (22, 13, 2, 128), (23, 14, 1, 128), (24, 15, 1, 128), (29, 16, 1, 24), (30, 17, 1, 24), (33, 18, 1, 3400), (34, 19, 1, 3400), (44, 20, 1, 256), (45, 21, 1, 256), (46, 22, 2, 256)]
def m_S0 (kd : Nat → Nat) (R : Nat → Nat → Nat) (N : Nat → Nat) (m : Nat) : Prop := kd m = 10 ∧ ∀ q ∈ m_tb, R m q.1 = m + q.2.1 ∧ kd (m + q.2.1) = 1000 + q.2.2.1 ∧ N (m + q.2.1) = q.2.2.2
def m_S (s : h_S) (m : Nat) : Prop := m_S0 (h_kd s) (h_R s) (h_N s) m
theorem mg_0 {G : Nat → Option va_E} {s : h_S} {m : Nat} (h : m_S s m) : am_gi (h_t G s) m 9 0 = some (h_ii (h_I s m 0)) := g9_0 h.1
theorem mp_0 {G : Nat → Option va_E} {s : h_S} {m : Nat} {v : Int} (h : m_S s m) : am_pf (h_t G s) m 9 0 0 (.int (h_ii v)) = some (h_t G (h_sI s m 0 v)) := p9_0 h.1
theorem mg_6 {G : Nat → Option va_E} {s : h_S} {m : Nat} (h : m_S s m) : am_gi (h_t G s) m 9 6 = some (h_ii (h_I s m 6)) := g9_6 h.1
theorem mp_6 {G : Nat → Option va_E} {s : h_S} {m : Nat} {v : Int} (h : m_S s m) : am_pf (h_t G s) m 9 6 0 (.int (h_ii v)) = some (h_t G (h_sI s m 6 v)) := p9_6 h.1
theorem mg_13 {G : Nat → Option va_E} {s : h_S} {m : Nat} (h : m_S s m) : am_gi (h_t G s) m 9 13 = some (h_ii (h_I s m 13)) := g9_13 h.1
theorem mp_13 {G : Nat → Option va_E} {s : h_S} {m : Nat} {v : Int} (h : m_S s m) : am_pf (h_t G s) m 9 13 0 (.int (h_ii v)) = some (h_t G (h_sI s m 13 v)) := p9_13 h.1
theorem mg_14 {G : Nat → Option va_E} {s : h_S} {m : Nat} (h : m_S s m) : am_gi (h_t G s) m 9 14 = some (h_ii (h_I s m 14)) := g9_14 h.1
theorem mp_14 {G : Nat → Option va_E} {s : h_S} {m : Nat} {v : Int} (h : m_S s m) : am_pf (h_t G s) m 9 14 0 (.int (h_ii v)) = some (h_t G (h_sI s m 14 v)) := p9_14 h.1
theorem mg_15 {G : Nat → Option va_E} {s : h_S} {m : Nat} (h : m_S s m) : am_gi (h_t G s) m 9 15 = some (h_ii (h_I s m 15)) := g9_15 h.1
theorem mp_15 {G : Nat → Option va_E} {s : h_S} {m : Nat} {v : Int} (h : m_S s m) : am_pf (h_t G s) m 9 15 0 (.int (h_ii v)) = some (h_t G (h_sI s m 15 v)) := p9_15 h.1
theorem mg_16 {G : Nat → Option va_E} {s : h_S} {m : Nat} (h : m_S s m) : am_gi (h_t G s) m 9 16 = some (h_ii (h_I s m 16)) := g9_16 h.1
theorem mp_16 {G : Nat → Option va_E} {s : h_S} {m : Nat} {v : Int} (h : m_S s m) : am_pf (h_t G s) m 9 16 0 (.int (h_ii v)) = some (h_t G (h_sI s m 16 v)) := p9_16 h.1
theorem mg_17 {G : Nat → Option va_E} {s : h_S} {m : Nat} (h : m_S s m) : am_gi (h_t G s) m 9 17 = some (h_ii (h_I s m 17)) := g9_17 h.1
theorem mp_17 {G : Nat → Option va_E} {s : h_S} {m : Nat} {v : Int} (h : m_S s m) : am_pf (h_t G s) m 9 17 0 (.int (h_ii v)) = some (h_t G (h_sI s m 17 v)) := p9_17 h.1
theorem mg_19 {G : Nat → Option va_E} {s : h_S} {m : Nat} (h : m_S s m) : am_gi (h_t G s) m 9 19 = some (h_ii (h_I s m 19)) := g9_19 h.1
theorem mp_19 {G : Nat → Option va_E} {s : h_S} {m : Nat} {v : Int} (h : m_S s m) : am_pf (h_t G s) m 9 19 0 (.int (h_ii v)) = some (h_t G (h_sI s m 19 v)) := p9_19 h.1
theorem mg_20 {G : Nat → Option va_E} {s : h_S} {m : Nat} (h : m_S s m) : am_gi (h_t G s) m 9 20 = some (h_ii (h_I s m 20)) := g9_20 h.1
theorem mp_20 {G : Nat → Option va_E} {s : h_S} {m : Nat} {v : Int} (h : m_S s m) : am_pf (h_t G s) m 9 20 0 (.int (h_ii v)) = some (h_t G (h_sI s m 20 v)) := p9_20 h.1
theorem mg_21 {G : Nat → Option va_E} {s : h_S} {m : Nat} (h : m_S s m) : am_gi (h_t G s) m 9 21 = some (h_ii (h_I s m 21)) := g9_21 h.1
theorem mp_21 {G : Nat → Option va_E} {s : h_S} {m : Nat} {v : Int} (h : m_S s m) : am_pf (h_t G s) m 9 21 0 (.int (h_ii v)) = some (h_t G (h_sI s m 21 v)) := p9_21 h.1
theorem mg_25 {G : Nat → Option va_E} {s : h_S} {m : Nat} (h : m_S s m) : am_gi (h_t G s) m 9 25 = some (h_ii (h_I s m 25)) := g9_25 h.1
theorem mp_25 {G : Nat → Option va_E} {s : h_S} {m : Nat} {v : Int} (h : m_S s m) (hv : v = 0 ∨ v = 1) : am_pf (h_t G s) m 9 25 1 (.int (h_ii v)) = some (h_t G (h_sI s m 25 v)) := p9_25 h.1 hv
theorem mg_26 {G : Nat → Option va_E} {s : h_S} {m : Nat} (h : m_S s m) : am_gi (h_t G s) m 9 26 = some (h_ii (h_I s m 26)) := g9_26 h.1
theorem mp_26 {G : Nat → Option va_E} {s : h_S} {m : Nat} {v : Int} (h : m_S s m) (hv : v = 0 ∨ v = 1) : am_pf (h_t G s) m 9 26 1 (.int (h_ii v)) = some (h_t G (h_sI s m 26 v)) := p9_26 h.1 hv
theorem mg_27 {G : Nat → Option va_E} {s : h_S} {m : Nat} (h : m_S s m) : am_gi (h_t G s) m 9 27 = some (h_ii (h_I s m 27)) := g9_27 h.1
theorem mp_27 {G : Nat → Option va_E} {s : h_S} {m : Nat} {v : Int} (h : m_S s m) (hv : v = 0 ∨ v = 1) : am_pf (h_t G s) m 9 27 1 (.int (h_ii v)) = some (h_t G (h_sI s m 27 v)) := p9_27 h.1 hv
theorem mg_28 {G : Nat → Option va_E} {s : h_S} {m : Nat} (h : m_S s m) : am_gi (h_t G s) m 9 28 = some (h_ii (h_I s m 28)) := g9_28 h.1
theorem mp_28 {G : Nat → Option va_E} {s : h_S} {m : Nat} {v : Int} (h : m_S s m) (hv : v = 0 ∨ v = 1) : am_pf (h_t G s) m 9 28 1 (.int (h_ii v)) = some (h_t G (h_sI s m 28 v)) := p9_28 h.1 hv
theorem mg_31 {G : Nat → Option va_E} {s : h_S} {m : Nat} (h : m_S s m) : am_gi (h_t G s) m 9 31 = some (h_ii (h_I s m 31)) := g9_31 h.1
theorem mp_31 {G : Nat → Option va_E} {s : h_S} {m : Nat} {v : Int} (h : m_S s m) : am_pf (h_t G s) m 9 31 0 (.int (h_ii v)) = some (h_t G (h_sI s m 31 v)) := p9_31 h.1
theorem mg_32 {G : Nat → Option va_E} {s : h_S} {m : Nat} (h : m_S s m) : am_gi (h_t G s) m 9 32 = some (h_ii (h_I s m 32)) := g9_32 h.1
theorem mp_32 {G : Nat → Option va_E} {s : h_S} {m : Nat} {v : Int} (h : m_S s m) (hv : v = 0 ∨ v = 1) : am_pf (h_t G s) m 9 32 1 (.int (h_ii v)) = some (h_t G (h_sI s m 32 v)) := p9_32 h.1 hv
theorem mg_35 {G : Nat → Option va_E} {s : h_S} {m : Nat} (h : m_S s m) : am_gi (h_t G s) m 9 35 = some (h_ii (h_I s m 35)) := g9_35 h.1
theorem mp_35 {G : Nat → Option va_E} {s : h_S} {m : Nat} {v : Int} (h : m_S s m) : am_pf (h_t G s) m 9 35 0 (.int (h_ii v)) = some (h_t G (h_sI s m 35 v)) := p9_35 h.1
theorem mg_36 {G : Nat → Option va_E} {s : h_S} {m : Nat} (h : m_S s m) : am_gi (h_t G s) m 9 36 = some (h_ii (h_I s m 36)) := g9_36 h.1
theorem mp_36 {G : Nat → Option va_E} {s : h_S} {m : Nat} {v : Int} (h : m_S s m) : am_pf (h_t G s) m 9 36 0 (.int (h_ii v)) = some (h_t G (h_sI s m 36 v)) := p9_36 h.1
theorem mg_37 {G : Nat → Option va_E} {s : h_S} {m : Nat} (h : m_S s m) : am_gi (h_t G s) m 9 37 = some (h_ii (h_I s m 37)) := g9_37 h.1
theorem mp_37 {G : Nat → Option va_E} {s : h_S} {m : Nat} {v : Int} (h : m_S s m) : am_pf (h_t G s) m 9 37 0 (.int (h_ii v)) = some (h_t G (h_sI s m 37 v)) := p9_37 h.1
theorem mg_38 {G : Nat → Option va_E} {s : h_S} {m : Nat} (h : m_S s m) : am_gi (h_t G s) m 9 38 = some (h_ii (h_I s m 38)) := g9_38 h.1
theorem mp_38 {G : Nat → Option va_E} {s : h_S} {m : Nat} {v : Int} (h : m_S s m) : am_pf (h_t G s) m 9 38 0 (.int (h_ii v)) = some (h_t G (h_sI s m 38 v)) := p9_38 h.1
theorem mg_39 {G : Nat → Option va_E} {s : h_S} {m : Nat} (h : m_S s m) : am_gi (h_t G s) m 9 39 = some (h_ii (h_I s m 39)) := g9_39 h.1
theorem mp_39 {G : Nat → Option va_E} {s : h_S} {m : Nat} {v : Int} (h : m_S s m) (hv : v = 0 ∨ v = 1) : am_pf (h_t G s) m 9 39 1 (.int (h_ii v)) = some (h_t G (h_sI s m 39 v)) := p9_39 h.1 hv
theorem mg_40 {G : Nat → Option va_E} {s : h_S} {m : Nat} (h : m_S s m) : am_gi (h_t G s) m 9 40 = some (h_ii (h_I s m 40)) := g9_40 h.1
theorem mp_40 {G : Nat → Option va_E} {s : h_S} {m : Nat} {v : Int} (h : m_S s m) : am_pf (h_t G s) m 9 40 0 (.int (h_ii v)) = some (h_t G (h_sI s m 40 v)) := p9_40 h.1
theorem mg_41 {G : Nat → Option va_E} {s : h_S} {m : Nat} (h : m_S s m) : am_gi (h_t G s) m 9 41 = some (h_ii (h_I s m 41)) := g9_41 h.1
theorem mp_41 {G : Nat → Option va_E} {s : h_S} {m : Nat} {v : Int} (h : m_S s m) : am_pf (h_t G s) m 9 41 0 (.int (h_ii v)) = some (h_t G (h_sI s m 41 v)) := p9_41 h.1
theorem mg_42 {G : Nat → Option va_E} {s : h_S} {m : Nat} (h : m_S s m) : am_gi (h_t G s) m 9 42 = some (h_ii (h_I s m 42)) := g9_42 h.1
theorem mp_42 {G : Nat → Option va_E} {s : h_S} {m : Nat} {v : Int} (h : m_S s m) : am_pf (h_t G s) m 9 42 0 (.int (h_ii v)) = some (h_t G (h_sI s m 42 v)) := p9_42 h.1
theorem mg_43 {G : Nat → Option va_E} {s : h_S} {m : Nat} (h : m_S s m) : am_gi (h_t G s) m 9 43 = some (h_ii (h_I s m 43)) := g9_43 h.1
theorem mp_43 {G : Nat → Option va_E} {s : h_S} {m : Nat} {v : Int} (h : m_S s m) : am_pf (h_t G s) m 9 43 0 (.int (h_ii v)) = some (h_t G (h_sI s m 43 v)) := p9_43 h.1
theorem ma_1 {s : h_S} {m : Nat} (h : m_S s m) : h_R s m 1 = m + 1 ∧ h_kd s (m + 1) = 1000 ∧ h_N s (m + 1) = 936000 := h.2 (1, 1, 0, 936000) (by decide)
theorem mr_1 {G : Nat → Option va_E} {s : h_S} {m : Nat} (h : m_S s m) : am_gr (h_t G s) m 9 1 = some (m + 1) := by
  rw [r9_1 h.1 (by rw [(ma_1 h).1]; omega), (ma_1 h).1]
theorem ml_1 {G : Nat → Option va_E} {s : h_S} {m : Nat} {i : Int} (h : m_S s m) (h0 : 0 ≤ i) (h1 : i < 936000) : am_il (h_t G s) (m + 1) (h_ii i) [0, 2, 100] = some (h_ii (h_A s (m + 1) i.toNat)) := h_lb (ma_1 h).2.1 h0 (by rw [(ma_1 h).2.2]; exact h1) (by omega)
theorem ms_1 {G : Nat → Option va_E} {s : h_S} {m : Nat} {i v : Int} (h : m_S s m) (h0 : 0 ≤ i) (h1 : i < 936000) : am_is (h_t G s) (m + 1) (h_ii i) [0, 2] (h_ii v) = some (h_t G (h_sA s (m + 1) i.toNat (Int.bmod v 256))) := h_sb (ma_1 h).2.1 h0 (by rw [(ma_1 h).2.2]; exact h1) (by omega)
theorem ma_2 {s : h_S} {m : Nat} (h : m_S s m) : h_R s m 2 = m + 2 ∧ h_kd s (m + 2) = 1001 ∧ h_N s (m + 2) = 3900 := h.2 (2, 2, 1, 3900) (by decide)
theorem mr_2 {G : Nat → Option va_E} {s : h_S} {m : Nat} (h : m_S s m) : am_gr (h_t G s) m 9 2 = some (m + 2) := by
  rw [r9_2 h.1 (by rw [(ma_2 h).1]; omega), (ma_2 h).1]
theorem ml_2 {G : Nat → Option va_E} {s : h_S} {m : Nat} {i : Int} (h : m_S s m) (h0 : 0 ≤ i) (h1 : i < 3900) : am_il (h_t G s) (m + 2) (h_ii i) [1, 101] = some (h_ii (h_A s (m + 2) i.toNat)) := h_l4 (ma_2 h).2.1 h0 (by rw [(ma_2 h).2.2]; exact h1) (by omega)
theorem ms_2 {G : Nat → Option va_E} {s : h_S} {m : Nat} {i v : Int} (h : m_S s m) (h0 : 0 ≤ i) (h1 : i < 3900) : am_is (h_t G s) (m + 2) (h_ii i) [1] (h_ii v) = some (h_t G (h_sA s (m + 2) i.toNat v)) := h_s4 (ma_2 h).2.1 h0 (by rw [(ma_2 h).2.2]; exact h1) (by omega)
theorem ma_3 {s : h_S} {m : Nat} (h : m_S s m) : h_R s m 3 = m + 3 ∧ h_kd s (m + 3) = 1001 ∧ h_N s (m + 3) = 13 := h.2 (3, 3, 1, 13) (by decide)
theorem mr_3 {G : Nat → Option va_E} {s : h_S} {m : Nat} (h : m_S s m) : am_gr (h_t G s) m 9 3 = some (m + 3) := by
  rw [r9_3 h.1 (by rw [(ma_3 h).1]; omega), (ma_3 h).1]
theorem ml_3 {G : Nat → Option va_E} {s : h_S} {m : Nat} {i : Int} (h : m_S s m) (h0 : 0 ≤ i) (h1 : i < 13) : am_il (h_t G s) (m + 3) (h_ii i) [1, 101] = some (h_ii (h_A s (m + 3) i.toNat)) := h_l4 (ma_3 h).2.1 h0 (by rw [(ma_3 h).2.2]; exact h1) (by omega)
theorem ms_3 {G : Nat → Option va_E} {s : h_S} {m : Nat} {i v : Int} (h : m_S s m) (h0 : 0 ≤ i) (h1 : i < 13) : am_is (h_t G s) (m + 3) (h_ii i) [1] (h_ii v) = some (h_t G (h_sA s (m + 3) i.toNat v)) := h_s4 (ma_3 h).2.1 h0 (by rw [(ma_3 h).2.2]; exact h1) (by omega)
theorem ma_4 {s : h_S} {m : Nat} (h : m_S s m) : h_R s m 4 = m + 4 ∧ h_kd s (m + 4) = 1002 ∧ h_N s (m + 4) = 13 := h.2 (4, 4, 2, 13) (by decide)
theorem mr_4 {G : Nat → Option va_E} {s : h_S} {m : Nat} (h : m_S s m) : am_gr (h_t G s) m 9 4 = some (m + 4) := by
  rw [r9_4 h.1 (by rw [(ma_4 h).1]; omega), (ma_4 h).1]
theorem ml_4 {G : Nat → Option va_E} {s : h_S} {m : Nat} {i : Int} (h : m_S s m) (h0 : 0 ≤ i) (h1 : i < 13) : am_il (h_t G s) (m + 4) (h_ii i) [0, 2, 100] = some (h_ii (h_A s (m + 4) i.toNat)) := h_lz (ma_4 h).2.1 h0 (by rw [(ma_4 h).2.2]; exact h1) (by omega)
theorem ms_4 {G : Nat → Option va_E} {s : h_S} {m : Nat} {i v : Int} (hv : v = 0 ∨ v = 1) (h : m_S s m) (h0 : 0 ≤ i) (h1 : i < 13) : am_is (h_t G s) (m + 4) (h_ii i) [0, 2] (h_ii v) = some (h_t G (h_sA s (m + 4) i.toNat v)) := h_sz hv (ma_4 h).2.1 h0 (by rw [(ma_4 h).2.2]; exact h1) (by omega)
theorem ma_5 {s : h_S} {m : Nat} (h : m_S s m) : h_R s m 5 = m + 5 ∧ h_kd s (m + 5) = 1000 ∧ h_N s (m + 5) = 9000 := h.2 (5, 5, 0, 9000) (by decide)
theorem mr_5 {G : Nat → Option va_E} {s : h_S} {m : Nat} (h : m_S s m) : am_gr (h_t G s) m 9 5 = some (m + 5) := by
  rw [r9_5 h.1 (by rw [(ma_5 h).1]; omega), (ma_5 h).1]
theorem ml_5 {G : Nat → Option va_E} {s : h_S} {m : Nat} {i : Int} (h : m_S s m) (h0 : 0 ≤ i) (h1 : i < 9000) : am_il (h_t G s) (m + 5) (h_ii i) [0, 2, 100] = some (h_ii (h_A s (m + 5) i.toNat)) := h_lb (ma_5 h).2.1 h0 (by rw [(ma_5 h).2.2]; exact h1) (by omega)
theorem ms_5 {G : Nat → Option va_E} {s : h_S} {m : Nat} {i v : Int} (h : m_S s m) (h0 : 0 ≤ i) (h1 : i < 9000) : am_is (h_t G s) (m + 5) (h_ii i) [0, 2] (h_ii v) = some (h_t G (h_sA s (m + 5) i.toNat (Int.bmod v 256))) := h_sb (ma_5 h).2.1 h0 (by rw [(ma_5 h).2.2]; exact h1) (by omega)
theorem ma_7 {s : h_S} {m : Nat} (h : m_S s m) : h_R s m 7 = m + 6 ∧ h_kd s (m + 6) = 1000 ∧ h_N s (m + 6) = 9000 := h.2 (7, 6, 0, 9000) (by decide)
theorem mr_7 {G : Nat → Option va_E} {s : h_S} {m : Nat} (h : m_S s m) : am_gr (h_t G s) m 9 7 = some (m + 6) := by
  rw [r9_7 h.1 (by rw [(ma_7 h).1]; omega), (ma_7 h).1]
theorem ml_7 {G : Nat → Option va_E} {s : h_S} {m : Nat} {i : Int} (h : m_S s m) (h0 : 0 ≤ i) (h1 : i < 9000) : am_il (h_t G s) (m + 6) (h_ii i) [0, 2, 100] = some (h_ii (h_A s (m + 6) i.toNat)) := h_lb (ma_7 h).2.1 h0 (by rw [(ma_7 h).2.2]; exact h1) (by omega)
theorem ms_7 {G : Nat → Option va_E} {s : h_S} {m : Nat} {i v : Int} (h : m_S s m) (h0 : 0 ≤ i) (h1 : i < 9000) : am_is (h_t G s) (m + 6) (h_ii i) [0, 2] (h_ii v) = some (h_t G (h_sA s (m + 6) i.toNat (Int.bmod v 256))) := h_sb (ma_7 h).2.1 h0 (by rw [(ma_7 h).2.2]; exact h1) (by omega)
theorem ma_8 {s : h_S} {m : Nat} (h : m_S s m) : h_R s m 8 = m + 7 ∧ h_kd s (m + 7) = 1002 ∧ h_N s (m + 7) = 9000 := h.2 (8, 7, 2, 9000) (by decide)
theorem mr_8 {G : Nat → Option va_E} {s : h_S} {m : Nat} (h : m_S s m) : am_gr (h_t G s) m 9 8 = some (m + 7) := by
  rw [r9_8 h.1 (by rw [(ma_8 h).1]; omega), (ma_8 h).1]
theorem ml_8 {G : Nat → Option va_E} {s : h_S} {m : Nat} {i : Int} (h : m_S s m) (h0 : 0 ≤ i) (h1 : i < 9000) : am_il (h_t G s) (m + 7) (h_ii i) [0, 2, 100] = some (h_ii (h_A s (m + 7) i.toNat)) := h_lz (ma_8 h).2.1 h0 (by rw [(ma_8 h).2.2]; exact h1) (by omega)
theorem ms_8 {G : Nat → Option va_E} {s : h_S} {m : Nat} {i v : Int} (hv : v = 0 ∨ v = 1) (h : m_S s m) (h0 : 0 ≤ i) (h1 : i < 9000) : am_is (h_t G s) (m + 7) (h_ii i) [0, 2] (h_ii v) = some (h_t G (h_sA s (m + 7) i.toNat v)) := h_sz hv (ma_8 h).2.1 h0 (by rw [(ma_8 h).2.2]; exact h1) (by omega)
theorem ma_9 {s : h_S} {m : Nat} (h : m_S s m) : h_R s m 9 = m + 8 ∧ h_kd s (m + 8) = 1001 ∧ h_N s (m + 8) = 9002 := h.2 (9, 8, 1, 9002) (by decide)
theorem mr_9 {G : Nat → Option va_E} {s : h_S} {m : Nat} (h : m_S s m) : am_gr (h_t G s) m 9 9 = some (m + 8) := by
  rw [r9_9 h.1 (by rw [(ma_9 h).1]; omega), (ma_9 h).1]
theorem ml_9 {G : Nat → Option va_E} {s : h_S} {m : Nat} {i : Int} (h : m_S s m) (h0 : 0 ≤ i) (h1 : i < 9002) : am_il (h_t G s) (m + 8) (h_ii i) [1, 101] = some (h_ii (h_A s (m + 8) i.toNat)) := h_l4 (ma_9 h).2.1 h0 (by rw [(ma_9 h).2.2]; exact h1) (by omega)
theorem ms_9 {G : Nat → Option va_E} {s : h_S} {m : Nat} {i v : Int} (h : m_S s m) (h0 : 0 ≤ i) (h1 : i < 9002) : am_is (h_t G s) (m + 8) (h_ii i) [1] (h_ii v) = some (h_t G (h_sA s (m + 8) i.toNat v)) := h_s4 (ma_9 h).2.1 h0 (by rw [(ma_9 h).2.2]; exact h1) (by omega)
theorem ma_10 {s : h_S} {m : Nat} (h : m_S s m) : h_R s m 10 = m + 9 ∧ h_kd s (m + 9) = 1001 ∧ h_N s (m + 9) = 9002 := h.2 (10, 9, 1, 9002) (by decide)
theorem mr_10 {G : Nat → Option va_E} {s : h_S} {m : Nat} (h : m_S s m) : am_gr (h_t G s) m 9 10 = some (m + 9) := by
  rw [r9_10 h.1 (by rw [(ma_10 h).1]; omega), (ma_10 h).1]
theorem ml_10 {G : Nat → Option va_E} {s : h_S} {m : Nat} {i : Int} (h : m_S s m) (h0 : 0 ≤ i) (h1 : i < 9002) : am_il (h_t G s) (m + 9) (h_ii i) [1, 101] = some (h_ii (h_A s (m + 9) i.toNat)) := h_l4 (ma_10 h).2.1 h0 (by rw [(ma_10 h).2.2]; exact h1) (by omega)
theorem ms_10 {G : Nat → Option va_E} {s : h_S} {m : Nat} {i v : Int} (h : m_S s m) (h0 : 0 ≤ i) (h1 : i < 9002) : am_is (h_t G s) (m + 9) (h_ii i) [1] (h_ii v) = some (h_t G (h_sA s (m + 9) i.toNat v)) := h_s4 (ma_10 h).2.1 h0 (by rw [(ma_10 h).2.2]; exact h1) (by omega)
theorem ma_11 {s : h_S} {m : Nat} (h : m_S s m) : h_R s m 11 = m + 10 ∧ h_kd s (m + 10) = 1001 ∧ h_N s (m + 10) = 9002 := h.2 (11, 10, 1, 9002) (by decide)
theorem mr_11 {G : Nat → Option va_E} {s : h_S} {m : Nat} (h : m_S s m) : am_gr (h_t G s) m 9 11 = some (m + 10) := by
  rw [r9_11 h.1 (by rw [(ma_11 h).1]; omega), (ma_11 h).1]
theorem ml_11 {G : Nat → Option va_E} {s : h_S} {m : Nat} {i : Int} (h : m_S s m) (h0 : 0 ≤ i) (h1 : i < 9002) : am_il (h_t G s) (m + 10) (h_ii i) [1, 101] = some (h_ii (h_A s (m + 10) i.toNat)) := h_l4 (ma_11 h).2.1 h0 (by rw [(ma_11 h).2.2]; exact h1) (by omega)
theorem ms_11 {G : Nat → Option va_E} {s : h_S} {m : Nat} {i v : Int} (h : m_S s m) (h0 : 0 ≤ i) (h1 : i < 9002) : am_is (h_t G s) (m + 10) (h_ii i) [1] (h_ii v) = some (h_t G (h_sA s (m + 10) i.toNat v)) := h_s4 (ma_11 h).2.1 h0 (by rw [(ma_11 h).2.2]; exact h1) (by omega)
theorem ma_12 {s : h_S} {m : Nat} (h : m_S s m) : h_R s m 12 = m + 11 ∧ h_kd s (m + 11) = 1000 ∧ h_N s (m + 11) = 9002 := h.2 (12, 11, 0, 9002) (by decide)
theorem mr_12 {G : Nat → Option va_E} {s : h_S} {m : Nat} (h : m_S s m) : am_gr (h_t G s) m 9 12 = some (m + 11) := by
  rw [r9_12 h.1 (by rw [(ma_12 h).1]; omega), (ma_12 h).1]
theorem ml_12 {G : Nat → Option va_E} {s : h_S} {m : Nat} {i : Int} (h : m_S s m) (h0 : 0 ≤ i) (h1 : i < 9002) : am_il (h_t G s) (m + 11) (h_ii i) [0, 2, 100] = some (h_ii (h_A s (m + 11) i.toNat)) := h_lb (ma_12 h).2.1 h0 (by rw [(ma_12 h).2.2]; exact h1) (by omega)
theorem ms_12 {G : Nat → Option va_E} {s : h_S} {m : Nat} {i v : Int} (h : m_S s m) (h0 : 0 ≤ i) (h1 : i < 9002) : am_is (h_t G s) (m + 11) (h_ii i) [0, 2] (h_ii v) = some (h_t G (h_sA s (m + 11) i.toNat (Int.bmod v 256))) := h_sb (ma_12 h).2.1 h0 (by rw [(ma_12 h).2.2]; exact h1) (by omega)
theorem ma_18 {s : h_S} {m : Nat} (h : m_S s m) : h_R s m 18 = m + 12 ∧ h_kd s (m + 12) = 1003 ∧ h_N s (m + 12) = 13 := h.2 (18, 12, 3, 13) (by decide)
theorem mr_18 {G : Nat → Option va_E} {s : h_S} {m : Nat} (h : m_S s m) : am_gr (h_t G s) m 9 18 = some (m + 12) := by
  rw [r9_18 h.1 (by rw [(ma_18 h).1]; omega), (ma_18 h).1]
theorem mL_18 {G : Nat → Option va_E} {s : h_S} {m : Nat} {i : Int} (h : m_S s m) (h0 : 0 ≤ i) (h1 : i < 13) : am_ll (h_t G s) (m + 12) (h_ii i) = some (Int64.ofInt (h_A s (m + 12) i.toNat)) := by
  have e : (h_t G s).2.2 (m + 12) = _ := h_ce_lg (ma_18 h).2.1
  have hn := (ma_18 h).2.2
  simp only [am_ll, e, if_true, h_ix h0 (show i < h_N s (m + 12) by rw [hn]; exact h1) (by omega), Option.map_some]
theorem ma_22 {s : h_S} {m : Nat} (h : m_S s m) : h_R s m 22 = m + 13 ∧ h_kd s (m + 13) = 1002 ∧ h_N s (m + 13) = 128 := h.2 (22, 13, 2, 128) (by decide)
theorem mr_22 {G : Nat → Option va_E} {s : h_S} {m : Nat} (h : m_S s m) : am_gr (h_t G s) m 9 22 = some (m + 13) := by
  rw [r9_22 h.1 (by rw [(ma_22 h).1]; omega), (ma_22 h).1]
theorem ml_22 {G : Nat → Option va_E} {s : h_S} {m : Nat} {i : Int} (h : m_S s m) (h0 : 0 ≤ i) (h1 : i < 128) : am_il (h_t G s) (m + 13) (h_ii i) [0, 2, 100] = some (h_ii (h_A s (m + 13) i.toNat)) := h_lz (ma_22 h).2.1 h0 (by rw [(ma_22 h).2.2]; exact h1) (by omega)
theorem ms_22 {G : Nat → Option va_E} {s : h_S} {m : Nat} {i v : Int} (hv : v = 0 ∨ v = 1) (h : m_S s m) (h0 : 0 ≤ i) (h1 : i < 128) : am_is (h_t G s) (m + 13) (h_ii i) [0, 2] (h_ii v) = some (h_t G (h_sA s (m + 13) i.toNat v)) := h_sz hv (ma_22 h).2.1 h0 (by rw [(ma_22 h).2.2]; exact h1) (by omega)
theorem ma_23 {s : h_S} {m : Nat} (h : m_S s m) : h_R s m 23 = m + 14 ∧ h_kd s (m + 14) = 1001 ∧ h_N s (m + 14) = 128 := h.2 (23, 14, 1, 128) (by decide)
theorem mr_23 {G : Nat → Option va_E} {s : h_S} {m : Nat} (h : m_S s m) : am_gr (h_t G s) m 9 23 = some (m + 14) := by
  rw [r9_23 h.1 (by rw [(ma_23 h).1]; omega), (ma_23 h).1]
theorem ml_23 {G : Nat → Option va_E} {s : h_S} {m : Nat} {i : Int} (h : m_S s m) (h0 : 0 ≤ i) (h1 : i < 128) : am_il (h_t G s) (m + 14) (h_ii i) [1, 101] = some (h_ii (h_A s (m + 14) i.toNat)) := h_l4 (ma_23 h).2.1 h0 (by rw [(ma_23 h).2.2]; exact h1) (by omega)
theorem ms_23 {G : Nat → Option va_E} {s : h_S} {m : Nat} {i v : Int} (h : m_S s m) (h0 : 0 ≤ i) (h1 : i < 128) : am_is (h_t G s) (m + 14) (h_ii i) [1] (h_ii v) = some (h_t G (h_sA s (m + 14) i.toNat v)) := h_s4 (ma_23 h).2.1 h0 (by rw [(ma_23 h).2.2]; exact h1) (by omega)
theorem ma_24 {s : h_S} {m : Nat} (h : m_S s m) : h_R s m 24 = m + 15 ∧ h_kd s (m + 15) = 1001 ∧ h_N s (m + 15) = 128 := h.2 (24, 15, 1, 128) (by decide)
theorem mr_24 {G : Nat → Option va_E} {s : h_S} {m : Nat} (h : m_S s m) : am_gr (h_t G s) m 9 24 = some (m + 15) := by
  rw [r9_24 h.1 (by rw [(ma_24 h).1]; omega), (ma_24 h).1]
theorem ml_24 {G : Nat → Option va_E} {s : h_S} {m : Nat} {i : Int} (h : m_S s m) (h0 : 0 ≤ i) (h1 : i < 128) : am_il (h_t G s) (m + 15) (h_ii i) [1, 101] = some (h_ii (h_A s (m + 15) i.toNat)) := h_l4 (ma_24 h).2.1 h0 (by rw [(ma_24 h).2.2]; exact h1) (by omega)
theorem ms_24 {G : Nat → Option va_E} {s : h_S} {m : Nat} {i v : Int} (h : m_S s m) (h0 : 0 ≤ i) (h1 : i < 128) : am_is (h_t G s) (m + 15) (h_ii i) [1] (h_ii v) = some (h_t G (h_sA s (m + 15) i.toNat v)) := h_s4 (ma_24 h).2.1 h0 (by rw [(ma_24 h).2.2]; exact h1) (by omega)
theorem ma_29 {s : h_S} {m : Nat} (h : m_S s m) : h_R s m 29 = m + 16 ∧ h_kd s (m + 16) = 1001 ∧ h_N s (m + 16) = 24 := h.2 (29, 16, 1, 24) (by decide)
theorem mr_29 {G : Nat → Option va_E} {s : h_S} {m : Nat} (h : m_S s m) : am_gr (h_t G s) m 9 29 = some (m + 16) := by
  rw [r9_29 h.1 (by rw [(ma_29 h).1]; omega), (ma_29 h).1]
theorem ml_29 {G : Nat → Option va_E} {s : h_S} {m : Nat} {i : Int} (h : m_S s m) (h0 : 0 ≤ i) (h1 : i < 24) : am_il (h_t G s) (m + 16) (h_ii i) [1, 101] = some (h_ii (h_A s (m + 16) i.toNat)) := h_l4 (ma_29 h).2.1 h0 (by rw [(ma_29 h).2.2]; exact h1) (by omega)
theorem ms_29 {G : Nat → Option va_E} {s : h_S} {m : Nat} {i v : Int} (h : m_S s m) (h0 : 0 ≤ i) (h1 : i < 24) : am_is (h_t G s) (m + 16) (h_ii i) [1] (h_ii v) = some (h_t G (h_sA s (m + 16) i.toNat v)) := h_s4 (ma_29 h).2.1 h0 (by rw [(ma_29 h).2.2]; exact h1) (by omega)
theorem ma_30 {s : h_S} {m : Nat} (h : m_S s m) : h_R s m 30 = m + 17 ∧ h_kd s (m + 17) = 1001 ∧ h_N s (m + 17) = 24 := h.2 (30, 17, 1, 24) (by decide)
theorem mr_30 {G : Nat → Option va_E} {s : h_S} {m : Nat} (h : m_S s m) : am_gr (h_t G s) m 9 30 = some (m + 17) := by
  rw [r9_30 h.1 (by rw [(ma_30 h).1]; omega), (ma_30 h).1]
theorem ml_30 {G : Nat → Option va_E} {s : h_S} {m : Nat} {i : Int} (h : m_S s m) (h0 : 0 ≤ i) (h1 : i < 24) : am_il (h_t G s) (m + 17) (h_ii i) [1, 101] = some (h_ii (h_A s (m + 17) i.toNat)) := h_l4 (ma_30 h).2.1 h0 (by rw [(ma_30 h).2.2]; exact h1) (by omega)
theorem ms_30 {G : Nat → Option va_E} {s : h_S} {m : Nat} {i v : Int} (h : m_S s m) (h0 : 0 ≤ i) (h1 : i < 24) : am_is (h_t G s) (m + 17) (h_ii i) [1] (h_ii v) = some (h_t G (h_sA s (m + 17) i.toNat v)) := h_s4 (ma_30 h).2.1 h0 (by rw [(ma_30 h).2.2]; exact h1) (by omega)
theorem ma_33 {s : h_S} {m : Nat} (h : m_S s m) : h_R s m 33 = m + 18 ∧ h_kd s (m + 18) = 1001 ∧ h_N s (m + 18) = 3400 := h.2 (33, 18, 1, 3400) (by decide)
theorem mr_33 {G : Nat → Option va_E} {s : h_S} {m : Nat} (h : m_S s m) : am_gr (h_t G s) m 9 33 = some (m + 18) := by
  rw [r9_33 h.1 (by rw [(ma_33 h).1]; omega), (ma_33 h).1]
theorem ml_33 {G : Nat → Option va_E} {s : h_S} {m : Nat} {i : Int} (h : m_S s m) (h0 : 0 ≤ i) (h1 : i < 3400) : am_il (h_t G s) (m + 18) (h_ii i) [1, 101] = some (h_ii (h_A s (m + 18) i.toNat)) := h_l4 (ma_33 h).2.1 h0 (by rw [(ma_33 h).2.2]; exact h1) (by omega)
theorem ms_33 {G : Nat → Option va_E} {s : h_S} {m : Nat} {i v : Int} (h : m_S s m) (h0 : 0 ≤ i) (h1 : i < 3400) : am_is (h_t G s) (m + 18) (h_ii i) [1] (h_ii v) = some (h_t G (h_sA s (m + 18) i.toNat v)) := h_s4 (ma_33 h).2.1 h0 (by rw [(ma_33 h).2.2]; exact h1) (by omega)
theorem ma_34 {s : h_S} {m : Nat} (h : m_S s m) : h_R s m 34 = m + 19 ∧ h_kd s (m + 19) = 1001 ∧ h_N s (m + 19) = 3400 := h.2 (34, 19, 1, 3400) (by decide)
theorem mr_34 {G : Nat → Option va_E} {s : h_S} {m : Nat} (h : m_S s m) : am_gr (h_t G s) m 9 34 = some (m + 19) := by
  rw [r9_34 h.1 (by rw [(ma_34 h).1]; omega), (ma_34 h).1]
theorem ml_34 {G : Nat → Option va_E} {s : h_S} {m : Nat} {i : Int} (h : m_S s m) (h0 : 0 ≤ i) (h1 : i < 3400) : am_il (h_t G s) (m + 19) (h_ii i) [1, 101] = some (h_ii (h_A s (m + 19) i.toNat)) := h_l4 (ma_34 h).2.1 h0 (by rw [(ma_34 h).2.2]; exact h1) (by omega)
theorem ms_34 {G : Nat → Option va_E} {s : h_S} {m : Nat} {i v : Int} (h : m_S s m) (h0 : 0 ≤ i) (h1 : i < 3400) : am_is (h_t G s) (m + 19) (h_ii i) [1] (h_ii v) = some (h_t G (h_sA s (m + 19) i.toNat v)) := h_s4 (ma_34 h).2.1 h0 (by rw [(ma_34 h).2.2]; exact h1) (by omega)
theorem ma_44 {s : h_S} {m : Nat} (h : m_S s m) : h_R s m 44 = m + 20 ∧ h_kd s (m + 20) = 1001 ∧ h_N s (m + 20) = 256 := h.2 (44, 20, 1, 256) (by decide)
theorem mr_44 {G : Nat → Option va_E} {s : h_S} {m : Nat} (h : m_S s m) : am_gr (h_t G s) m 9 44 = some (m + 20) := by
  rw [r9_44 h.1 (by rw [(ma_44 h).1]; omega), (ma_44 h).1]
theorem ml_44 {G : Nat → Option va_E} {s : h_S} {m : Nat} {i : Int} (h : m_S s m) (h0 : 0 ≤ i) (h1 : i < 256) : am_il (h_t G s) (m + 20) (h_ii i) [1, 101] = some (h_ii (h_A s (m + 20) i.toNat)) := h_l4 (ma_44 h).2.1 h0 (by rw [(ma_44 h).2.2]; exact h1) (by omega)
theorem ms_44 {G : Nat → Option va_E} {s : h_S} {m : Nat} {i v : Int} (h : m_S s m) (h0 : 0 ≤ i) (h1 : i < 256) : am_is (h_t G s) (m + 20) (h_ii i) [1] (h_ii v) = some (h_t G (h_sA s (m + 20) i.toNat v)) := h_s4 (ma_44 h).2.1 h0 (by rw [(ma_44 h).2.2]; exact h1) (by omega)
theorem ma_45 {s : h_S} {m : Nat} (h : m_S s m) : h_R s m 45 = m + 21 ∧ h_kd s (m + 21) = 1001 ∧ h_N s (m + 21) = 256 := h.2 (45, 21, 1, 256) (by decide)
theorem mr_45 {G : Nat → Option va_E} {s : h_S} {m : Nat} (h : m_S s m) : am_gr (h_t G s) m 9 45 = some (m + 21) := by
  rw [r9_45 h.1 (by rw [(ma_45 h).1]; omega), (ma_45 h).1]
theorem ml_45 {G : Nat → Option va_E} {s : h_S} {m : Nat} {i : Int} (h : m_S s m) (h0 : 0 ≤ i) (h1 : i < 256) : am_il (h_t G s) (m + 21) (h_ii i) [1, 101] = some (h_ii (h_A s (m + 21) i.toNat)) := h_l4 (ma_45 h).2.1 h0 (by rw [(ma_45 h).2.2]; exact h1) (by omega)
theorem ms_45 {G : Nat → Option va_E} {s : h_S} {m : Nat} {i v : Int} (h : m_S s m) (h0 : 0 ≤ i) (h1 : i < 256) : am_is (h_t G s) (m + 21) (h_ii i) [1] (h_ii v) = some (h_t G (h_sA s (m + 21) i.toNat v)) := h_s4 (ma_45 h).2.1 h0 (by rw [(ma_45 h).2.2]; exact h1) (by omega)
theorem ma_46 {s : h_S} {m : Nat} (h : m_S s m) : h_R s m 46 = m + 22 ∧ h_kd s (m + 22) = 1002 ∧ h_N s (m + 22) = 256 := h.2 (46, 22, 2, 256) (by decide)
theorem mr_46 {G : Nat → Option va_E} {s : h_S} {m : Nat} (h : m_S s m) : am_gr (h_t G s) m 9 46 = some (m + 22) := by
  rw [r9_46 h.1 (by rw [(ma_46 h).1]; omega), (ma_46 h).1]
theorem ml_46 {G : Nat → Option va_E} {s : h_S} {m : Nat} {i : Int} (h : m_S s m) (h0 : 0 ≤ i) (h1 : i < 256) : am_il (h_t G s) (m + 22) (h_ii i) [0, 2, 100] = some (h_ii (h_A s (m + 22) i.toNat)) := h_lz (ma_46 h).2.1 h0 (by rw [(ma_46 h).2.2]; exact h1) (by omega)
theorem ms_46 {G : Nat → Option va_E} {s : h_S} {m : Nat} {i v : Int} (hv : v = 0 ∨ v = 1) (h : m_S s m) (h0 : 0 ≤ i) (h1 : i < 256) : am_is (h_t G s) (m + 22) (h_ii i) [0, 2] (h_ii v) = some (h_t G (h_sA s (m + 22) i.toNat v)) := h_sz hv (ma_46 h).2.1 h0 (by rw [(ma_46 h).2.2]; exact h1) (by omega)
theorem m_cl {G : Nat → Option va_E} {s : h_S} {m : Nat} (h : m_S s m) : am_cls (h_t G s) m 9 = true := h_cl h.1 (by decide)
