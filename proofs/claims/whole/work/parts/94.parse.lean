/-! A COMMAND READ: what its words say, as plain functions -/
/-- letters of a word, from a place on: a fault, or the options told and the next token -/
def z_ow (T : Nat) (W : List x_T) (t : List Int) (k : Nat) : Nat → Nat → z_O → (Nat × Nat) ⊕ (z_O × Nat)
  | 0, _, O => .inr (O, k + 1)
  | n + 1, q, O => if x_want T ((x_all W).getD q 0) = 63 then .inl (4, x_pla W t k) else if x_want T ((x_all W).getD q 0) = 45 then z_ow T W t k n (q + 1) (z_up O ((x_all W).getD q 0).toNat 0 0) else if 0 < n then (if z_ok T (x_all W) ((x_all W).getD q 0).toNat (q + 1) (x_fo W (k + 1)) = true then .inr (z_set T (x_all W) O ((x_all W).getD q 0).toNat (q + 1) (x_fo W (k + 1)), k + 1) else .inl (5, x_pla W t k)) else if x_isw W (k + 1) = true ∧ z_ok T (x_all W) ((x_all W).getD q 0).toNat (x_fo W (k + 1)) (x_fo W (k + 2)) = true then .inr (z_set T (x_all W) O ((x_all W).getD q 0).toNat (x_fo W (k + 1)) (x_fo W (k + 2)), k + 2) else .inl (5, x_pla W t (k + 1))
/-- whether a token is a word of options -/
def z_iso (W : List x_T) (k : Nat) : Bool := x_isw W k && (x_pl (W.getD k x_0).2.2 && (decide (1 < (W.getD k x_0).2.2.length) && decide ((x_all W).getD (x_fo W k) 0 = 45)))
def z_os (T : Nat) (W : List x_T) (t : List Int) : Nat → Nat → z_O → (Nat × Nat) ⊕ (z_O × Nat)
  | 0, k, O => .inr (O, k)
  | f + 1, k, O => if z_iso W k = true then (match z_ow T W t k ((W.getD k x_0).2.2.length - 1) (x_fo W k + 1) O with
    | .inl x => .inl x
    | .inr r => z_os T W t f r.2 r.1) else .inr (O, k)
/-- a set of tr -/
def z_st (bs : List Int) (e : Nat) : Nat → Nat → Bool
  | 0, _ => true
  | n + 1, i => if e ≤ i then true else if i + 2 < e ∧ bs.getD (i + 1) 0 = 45 then decide (bs.getD i 0 ≤ bs.getD (i + 2) 0) && z_st bs e n (i + 3) else z_st bs e n (i + 1)
def z_ss (bs : List Int) (s e : Nat) : Bool := decide (s < e) && z_st bs e (e + 1) s
/-- a file's number, 10 what the tool before gave, -1 none -/
def z_sl (l : List Int) : Int := if l = [45] then 10 else x_fil l
def z_mo (T : Nat) (O : z_O) : Nat := if T = 12 ∧ (O.1 100).isSome = true ∧ (O.1 115).isSome = false then 1 else x_most T
def z_op (T : Nat) (W : List x_T) (t : List Int) (first : Bool) (O : z_O) : Nat → Nat → List (Int × Nat) → (Nat × Nat) ⊕ (List (Int × Nat) × Nat)
  | 0, k, l => .inr (l, k)
  | f + 1, k, l => if x_isw W k = true then (if T = 12 then (if z_mo T O ≤ l.length then .inl (6, x_pla W t k) else if z_ss (x_all W) (x_fo W k) (x_fo W (k + 1)) = true then z_op T W t first O f (k + 1) (l ++ [(0, k)]) else .inl (5, x_pla W t k))
    else if z_sl (x_sub (x_all W) (x_fo W k) (x_fo W (k + 1))) = -1 ∨ (z_sl (x_sub (x_all W) (x_fo W k) (x_fo W (k + 1))) = 10 ∧ (first = true ∨ ∃ z ∈ l, z.1 = 10)) ∨ z_mo T O ≤ l.length then .inl (6, x_pla W t k) else z_op T W t first O f (k + 1) (l ++ [(z_sl (x_sub (x_all W) (x_fo W k) (x_fo W (k + 1))), k)])) else .inr (l, k)
/-- whether options and operands go together -/
def z_tg (O : z_O) : Bool := if (O.1 102).isSome = true then !(O.1 98).isSome else (O.1 98).isSome && !(O.1 100).isSome && !(O.1 115).isSome
def z_wh (T : Nat) (first : Bool) (O : z_O) (n : Nat) : Bool := if T = 12 then !first && decide ((if (O.1 100).isSome = (O.1 115).isSome then 2 else 1) ≤ n) else !(decide (n = 0) && first) && (decide (x_least T ≤ n) && (decide (T ≠ 6) || z_tg O))
/-- the tool of a name, 13 none -/
def z_nf (l : List Int) : Nat → Nat → Nat
  | 0, u => u
  | n + 1, u => if l = x_sb (x_tt u) then u else z_nf l n (u + 1)
def z_nm (l : List Int) : Nat := z_nf l 13 0
theorem z_nf_eq {l : List Int} : ∀ (n u r : Nat), u ≤ r → r ≤ u + n → (∀ v, u ≤ v → v < r → l ≠ x_sb (x_tt v)) → (r < u + n → l = x_sb (x_tt r)) → z_nf l n u = r
  | 0, u, r, h1, h2, _, _ => by unfold z_nf; omega
  | n + 1, u, r, h1, h2, h3, h4 => by
    unfold z_nf
    by_cases q : u = r
    · subst q
      rw [if_pos (h4 (by omega))]
    · rw [if_neg (h3 u (Nat.le_refl _) (by omega))]
      exact z_nf_eq n (u + 1) r (by omega) (by omega) (fun v a b => h3 v (by omega) b) (fun a => h4 (by omega))
theorem z_nm_eq {l : List Int} {r : Nat} (h : r ≤ 13) (h1 : ∀ u, u < r → l ≠ x_sb (x_tt u)) (h2 : r < 13 → l = x_sb (x_tt r)) : z_nm l = r := z_nf_eq 13 0 r (by omega) (by omega) (fun v _ b => h1 v b) (fun a => h2 (by omega))
/-- a tool read: a fault, or the tool, its options, its operands, the token behind it -/
def z_rt (W : List x_T) (t : List Int) (k : Nat) (first : Bool) : (Nat × Nat) ⊕ (Nat × z_O × List (Int × Nat) × Nat) :=
  if x_isw W k = false then .inl (2, x_pla W t k) else if z_nm (x_sub (x_all W) (x_fo W k) (x_fo W (k + 1))) = 13 then .inl (3, x_pla W t k)
  else match z_os (z_nm (x_sub (x_all W) (x_fo W k) (x_fo W (k + 1)))) W t (W.length + 1) (k + 1) z_no with
    | .inl x => .inl x
    | .inr r => match z_op (z_nm (x_sub (x_all W) (x_fo W k) (x_fo W (k + 1)))) W t first r.1 (W.length + 1) r.2 [] with
      | .inl x => .inl x
      | .inr y => if z_wh (z_nm (x_sub (x_all W) (x_fo W k) (x_fo W (k + 1)))) first r.1 y.1.length = true then .inr (z_nm (x_sub (x_all W) (x_fo W k) (x_fo W (k + 1))), r.1, y.1, y.2) else .inl (6, x_pla W t k)
theorem x_isw_lt {W : List x_T} {k : Nat} (h : x_isw W k = true) : k < W.length := by
  unfold x_isw at h
  rw [Bool.and_eq_true] at h
  exact of_decide_eq_true h.1
theorem x_isw_kk {W : List x_T} {k : Nat} : x_isw W k = decide (x_kk W k = 0) := by
  unfold x_isw x_kk
  by_cases q : k < W.length
  · rw [if_pos q, decide_eq_true q, Bool.true_and]
  · rw [if_neg q, decide_eq_false q]
    rfl
theorem x_pla_le {W : List x_T} {t : List Int} {k : Nat} (h : x_tok t W) : x_pla W t k ≤ 9000 := by
  unfold x_pla
  have := h.1
  by_cases q : k < W.length
  · rw [if_pos q]
    have := h.2.2.2.1 k q
    omega
  · rw [if_neg q]
    omega
theorem z_ow_up {T : Nat} {W : List x_T} {t : List Int} {k : Nat} : ∀ (n q : Nat) (O : z_O) (r : z_O × Nat), z_ow T W t k n q O = .inr r → k < W.length → k < r.2 ∧ r.2 ≤ W.length
  | 0, q, O, r, h, hk => by
    unfold z_ow at h
    cases h
    dsimp only
    omega
  | n + 1, q, O, r, h, hk => by
    unfold z_ow at h
    split at h
    · cases h
    · split at h
      · exact z_ow_up n _ _ r h hk
      · split at h
        · split at h
          · cases h
            dsimp only
            omega
          · cases h
        · split at h
          next w =>
            have := x_isw_lt w.1
            cases h
            dsimp only
            omega
          · cases h
theorem z_ow_code {T : Nat} {W : List x_T} {t : List Int} {k : Nat} : ∀ (n q : Nat) (O : z_O) {x : Nat × Nat}, z_ow T W t k n q O = .inl x → x.1 = 4 ∨ x.1 = 5
  | 0, q, O, x, h => by
    unfold z_ow at h
    cases h
  | n + 1, q, O, x, h => by
    unfold z_ow at h
    split at h
    · cases h
      exact .inl rfl
    · split at h
      · exact z_ow_code n _ _ h
      · split at h
        · split at h
          · cases h
          · cases h
            exact .inr rfl
        · split at h
          · cases h
          · cases h
            exact .inr rfl
