/-! arraycopy, and what else the typed heap wants -/
theorem h_t1 (G : Nat → Option va_E) (s : h_S) : (h_t G s).1 = h_nx s := rfl
theorem h_cpr {G : Nat → Option va_E} {s : h_S} {a b t : Nat} {sp dp n : Int} (ht : t < 2) (ha : h_kd s a = 1000 + t) (hb : h_kd s b = 1000 + t) (h0 : 0 ≤ sp) (h1 : 0 ≤ dp) (h2 : 0 ≤ n) (h3 : sp + n ≤ h_N s a) (h4 : dp + n ≤ h_N s b) (h5 : sp + n < 2147483648) (h6 : dp + n < 2147483648) :
    am_cpy (h_t G s) a (h_ii sp) b (h_ii dp) (h_ii n) = some (h_t G (h_cp s a sp.toNat b dp.toNat n.toNat)) := by
  have ea : (h_t G s).2.2 a = _ := h_ce_ar ha (by omega)
  have eb : (h_t G s).2.2 b = _ := h_ce_ar hb (by omega)
  have q1 : (h_ii sp).toInt = sp := h_toInt (by omega) (by omega)
  have q2 : (h_ii dp).toInt = dp := h_toInt (by omega) (by omega)
  have q3 : (h_ii n).toInt = n := h_toInt (by omega) (by omega)
  have c1 : (h_ii sp).toNatClampNeg = sp.toNat := by unfold Int32.toNatClampNeg; rw [q1]
  have c2 : (h_ii dp).toNatClampNeg = dp.toNat := by unfold Int32.toNatClampNeg; rw [q2]
  have c3 : (h_ii n).toNatClampNeg = n.toNat := by unfold Int32.toNatClampNeg; rw [q3]
  have z : (0 : Int32).toInt = 0 := rfl
  simp only [am_cpy, ea, eb, c1, c2, c3]
  rw [if_pos ⟨trivial, ht, by rw [Int32.lt_iff_toInt_lt, q1, z]; omega, by rw [Int32.lt_iff_toInt_lt, q2, z]; omega, by rw [Int32.lt_iff_toInt_lt, q3, z]; omega, by omega, by omega⟩]
  refine congrArg some (h_upd rfl rfl ?_ ?_)
  · rw [h_ce_ar (s := h_cp s a sp.toNat b dp.toNat n.toNat) (t := t) hb (by omega)]
    refine congrArg (fun f : Nat → Int32 => (some (Sum.inl (t, h_N s b, Sum.inl f)) : Option va_E)) (funext fun j => ?_)
    show h_ii (if b = b ∧ dp.toNat ≤ j ∧ j < dp.toNat + n.toNat then h_A s a (sp.toNat + (j - dp.toNat)) else h_A s b j) = va_cpy (fun i => h_ii (h_A s a i)) (fun i => h_ii (h_A s b i)) sp.toNat dp.toNat n.toNat j
    unfold va_cpy
    by_cases hj : dp.toNat ≤ j ∧ j < dp.toNat + n.toNat <;> simp [hj]
  · intro q hq
    unfold h_ce
    have hA : h_A (h_cp s a sp.toNat b dp.toNat n.toNat) q = h_A s q := by
      funext j
      show (if q = b ∧ dp.toNat ≤ j ∧ j < dp.toNat + n.toNat then h_A s a (sp.toNat + (j - dp.toNat)) else h_A s q j) = h_A s q j
      rw [if_neg (fun w => hq w.1)]
    rw [hA]
    rfl
theorem h_cpb {G : Nat → Option va_E} {s : h_S} {a b : Nat} {sp dp n : Int} (ha : h_kd s a = 1000) (hb : h_kd s b = 1000) (h0 : 0 ≤ sp) (h1 : 0 ≤ dp) (h2 : 0 ≤ n) (h3 : sp + n ≤ h_N s a) (h4 : dp + n ≤ h_N s b) (h5 : sp + n < 2147483648) (h6 : dp + n < 2147483648) :
    am_cpy (h_t G s) a (h_ii sp) b (h_ii dp) (h_ii n) = some (h_t G (h_cp s a sp.toNat b dp.toNat n.toNat)) := h_cpr (t := 0) (by decide) ha hb h0 h1 h2 h3 h4 h5 h6
theorem h_cp4 {G : Nat → Option va_E} {s : h_S} {a b : Nat} {sp dp n : Int} (ha : h_kd s a = 1001) (hb : h_kd s b = 1001) (h0 : 0 ≤ sp) (h1 : 0 ≤ dp) (h2 : 0 ≤ n) (h3 : sp + n ≤ h_N s a) (h4 : dp + n ≤ h_N s b) (h5 : sp + n < 2147483648) (h6 : dp + n < 2147483648) :
    am_cpy (h_t G s) a (h_ii sp) b (h_ii dp) (h_ii n) = some (h_t G (h_cp s a sp.toNat b dp.toNat n.toNat)) := h_cpr (t := 1) (by decide) ha hb h0 h1 h2 h3 h4 h5 h6
