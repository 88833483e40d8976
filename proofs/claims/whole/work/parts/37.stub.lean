theorem am_program (ad : Nat → Nat) {v1 v2 : Value} (hv1 : v1.isRef = true) (hv2 : v2.isRef = true) : am_prog am_Ts (am_Fd ad v1 v2) (am_pr ad) am_mt ∧ am_meths am_Ts (am_pr ad) am_mt := sorry
