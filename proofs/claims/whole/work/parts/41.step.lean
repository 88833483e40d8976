/-- one step, out of a table -/
theorem am_gP {ad : Nat → Nat} {mi pc d : Nat} {al : am_L} {st : List Value} {M : am_M} {cl : List (Nat × am_T)} (hm : am_code mi = cl) {i : Instr} {len : Nat} {tg : List Nat} {r : Option am_R} (h : am_find cl pc = some (i, len, tg)) (hr : am_exec (am_gg (am_pr ad)) (am_pr ad) d mi pc al st M i len tg = r) : am_gg (am_pr ad) d mi pc al st M = r := by
  rw [am_gg_eq]
  show (match am_find (am_code mi) pc with
    | none => none
    | some (i, len, tg) => am_exec (am_gg (am_pr ad)) (am_pr ad) d mi pc al st M i len tg) = r
  rw [hm, h]
  exact hr
