/-! WHAT EACH TOOL GIVES -/
/-- the lists that cut takes -/
def z_cr (O : z_O) (bs : List Int) : List (Int × Int) := match O.1 (if (O.1 102).isSome = true then 102 else 98) with
  | none => []
  | some z => (x_lst bs z.2 (z.2 + 1) z.1).getD []
/-- what is not sorted -/
def z_tu (T : Nat) (O : z_O) (bs : List Int) (S : Nat → List (List Int)) : Option (Nat × Nat) := if T = 10 then z_u2 (z_jK (-1) 0 0) S else if T = 11 then z_u2 (z_jK (z_byt O bs 116 (-1)) (z_num O bs 49 1).toNat (z_num O bs 50 1).toNat) S else none
/-- what a tool gives -/
def z_tL0 (T : Nat) (O : z_O) (W : List x_T) (l : List (Int × Nat)) (S : Nat → List (List Int)) (n : Nat) : List (List Int) :=
  if T = 0 then z_cat S n 0 else if T < 5 then z_some T O (x_all W) (S 0) else if T = 5 then [z_wc O (S 0)] else if T = 6 then z_cu (z_cr O (x_all W)) (z_byt O (x_all W) 100 9) (O.1 102).isSome (O.1 115).isSome (S 0) (S 0).length 0 else if T = 7 then z_pa O (x_all W) S n else if T = 8 then z_uc O (x_all W) (S 0) (S 0).length 0 1 else if T = 9 then z_sort O (x_all W) S n else if T = 10 then z_co O S ((S 0).length + (S 1).length) 0 0 else if T = 11 then z_jn O (z_jK (z_byt O (x_all W) 116 (-1)) (z_num O (x_all W) 49 1).toNat (z_num O (x_all W) 50 1).toNat) S (z_jr O (x_all W) (z_byt O (x_all W) 116 (-1)) (z_byt O (x_all W) 116 32) (z_num O (x_all W) 49 1).toNat (z_num O (x_all W) 50 1).toNat) ((S 0).length + (S 1).length) 0 0 else z_tr O (x_all W) l.length (x_fo W (l.getD 0 z_00).2) (x_fo W ((l.getD 0 z_00).2 + 1)) (x_fo W (l.getD 1 z_00).2) (x_fo W ((l.getD 1 z_00).2 + 1)) (S 0)
/-- what is true of a tool that is to be done -/
def z_TI (T : Nat) (O : z_O) (t : List Int) (W : List x_T) (l : List (Int × Nat)) (k' n : Nat) : Prop := x_tok t W ∧ z_I T (x_all W) O ∧ z_Ie O (x_fo W k') ∧ (∀ z ∈ l, z.2 < k' ∧ (T = 12 → z_ss (x_all W) (x_fo W z.2) (x_fo W (z.2 + 1)) = true)) ∧ (T = 9 → n ≤ 11) ∧ (T = 10 ∨ T = 11 → n = 2) ∧ (T = 12 → 1 ≤ l.length ∧ l.length ≤ 2) ∧ (T = 6 → z_tg O = true) ∧ k' ≤ W.length
theorem z_num1 {T c : Nat} {bs : List Int} {O : z_O} (hI : z_I T bs O) (hw : x_want T c = 78) : ((z_num O bs c 1).toNat : Int) = z_num O bs c 1 ∧ 1 ≤ (z_num O bs c 1).toNat ∧ (z_num O bs c 1).toNat ≤ 99999 := by
  have hb := z_num_bd (O := O) (bs := bs) (c := c) (u := 1) (by omega)
  have h1 : 1 ≤ z_num O bs c 1 := by
    unfold z_num
    cases h : O.1 c with
    | none => exact Int.le_refl _
    | some z =>
      obtain ⟨s, e⟩ := z
      obtain ⟨_, _, h3⟩ := hI c s e h
      have h4 := (h3 (by rw [hw]; decide)).2.2
      unfold z_ok at h4
      rw [if_pos hw] at h4
      exact of_decide_eq_true h4
  omega
/-- what is true of join -/
theorem z_TI.js {O : z_O} {t : List Int} {W : List x_T} {l : List (Int × Nat)} {k' n : Nat} (h : z_TI 11 O t W l k' n) : z_JS O (x_all W) (z_byt O (x_all W) 116 (-1)) (z_byt O (x_all W) 116 32) (z_num O (x_all W) 49 1).toNat (z_num O (x_all W) 50 1).toNat := by
  obtain ⟨hX, hI, _⟩ := h
  have hU := hX.2.2.2.2.1
  have a := z_num1 hI (c := 49) (by decide +kernel)
  have e := z_num1 hI (c := 50) (by decide +kernel)
  exact ⟨hI, rfl, rfl, z_byt_b hU (by decide), a.1.symm, e.1.symm, a.2, e.2⟩
/-- the list of cut, told by one option alone -/
theorem z_TI.cut {O : z_O} {t : List Int} {W : List x_T} {l : List (Int × Nat)} {k' n : Nat} (h : z_TI 6 O t W l k' n) : (O.1 98).isSome = !(O.1 102).isSome ∧ ∃ s e, O.1 (if (O.1 102).isSome = true then 102 else 98) = some (s, e) ∧ s ≤ e ∧ e ≤ (x_all W).length ∧ x_lst (x_all W) e (e + 1) s = some (z_cr O (x_all W)) := by
  obtain ⟨_, hI, _, _, _, _, _, h6, _⟩ := h
  have hg := h6 rfl
  have hbf : (O.1 98).isSome = !(O.1 102).isSome := by
    unfold z_tg at hg
    cases q : (O.1 102).isSome with
    | true =>
      rw [q, if_pos rfl] at hg
      cases q2 : (O.1 98).isSome with
      | true => rw [q2] at hg; exact absurd hg (by decide)
      | false => rfl
    | false =>
      rw [q, if_neg (by decide), Bool.and_eq_true, Bool.and_eq_true] at hg
      rw [hg.1.1]; rfl
  refine ⟨hbf, ?_⟩
  have hs : (O.1 (if (O.1 102).isSome = true then 102 else 98)).isSome = true := by
    cases q : (O.1 102).isSome with
    | true => rw [if_pos rfl]; exact q
    | false => rw [if_neg (by decide), hbf, q]; rfl
  have hw : x_want 6 ((if (O.1 102).isSome = true then 102 else 98 : Nat) : Int) = 76 := by
    cases q : (O.1 102).isSome with
    | true => rw [if_pos rfl]; decide +kernel
    | false => rw [if_neg (by decide)]; decide +kernel
  unfold z_cr
  generalize (if (O.1 102).isSome = true then 102 else 98) = c at hs hw ⊢
  cases hc : O.1 c with
  | none => rw [hc] at hs; cases hs
  | some z =>
    obtain ⟨s, e⟩ := z
    obtain ⟨_, _, h3⟩ := hI c s e hc
    obtain ⟨h4, h5, h7⟩ := h3 (by rw [hw]; decide)
    refine ⟨s, e, rfl, h4, h5, ?_⟩
    unfold z_ok at h7
    rw [hw, if_neg (by decide), if_neg (by decide), if_neg (by decide), if_pos rfl] at h7
    dsimp only
    cases hx : x_lst (x_all W) e (e + 1) s with
    | none => rw [hx] at h7; cases h7
    | some rs => rfl
