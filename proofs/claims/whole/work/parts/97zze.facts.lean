/-! WHAT IS TRUE OF A TOOL THAT WAS READ -/
def z_Ie (O : z_O) (p : Nat) : Prop := ∀ c s e, O.1 c = some (s, e) → e ≤ p
theorem z_Ie.mono {O : z_O} {p q : Nat} (h : z_Ie O p) (hq : p ≤ q) : z_Ie O q := fun c s e w => Nat.le_trans (h c s e w) hq
theorem z_Ie.up {O O' : z_O} {c s e p : Nat} (h : z_Ie O p) (h1 : O'.1 = (z_up O c s e).1) (he : e ≤ p) : z_Ie O' p := by
  intro c' s' e' w
  rw [h1] at w
  unfold z_up at w
  dsimp only at w
  split at w
  · cases w; exact he
  · exact h c' s' e' w
section FA
variable {T : Nat} {W : List x_T} {t : List Int} {first : Bool} {O : z_O}
theorem z_ow_I {k : Nat} (hX : x_tok t W) (hT : T < 13) (hk : k < W.length) : ∀ (n q : Nat) (O : z_O) (r : z_O × Nat), z_ow T W t k n q O = .inr r → q + n = x_fo W (k + 1) → z_I T (x_all W) O → z_Ie O (x_fo W (k + 1)) → z_I T (x_all W) r.1 ∧ z_Ie r.1 (x_fo W r.2)
  | 0, q, O, r, h, hq, hI, hE => by
    unfold z_ow at h
    cases h
    exact ⟨hI, hE⟩
  | n + 1, q, O, r, h, hq, hI, hE => by
    have hl1 := x_fo_len (W := W) (k := k + 1)
    have hl2 := x_fo_len (W := W) (k := k + 2)
    have hle := x_fo_le W (show k + 1 ≤ k + 2 by omega)
    unfold z_ow at h
    split at h
    · cases h
    next q63 =>
      have hb := x_want_lt hT q63
      generalize hc : (x_all W).getD q 0 = c at h q63 hb
      obtain ⟨c', rfl⟩ : ∃ c' : Nat, c = c' := ⟨c.toNat, by omega⟩
      rw [Int.toNat_natCast] at h
      split at h
      next q45 =>
        exact z_ow_I hX hT hk n _ _ r h (by omega) (z_I_up hI rfl (by omega) q63 (fun w => absurd q45 w)) (hE.up rfl (Nat.zero_le _))
      next q45 =>
        split at h
        · split at h
          next qk =>
            cases h
            exact ⟨z_I_up hI z_set1 (by omega) q63 (fun _ => ⟨by omega, by omega, qk⟩), hE.up z_set1 (Nat.le_refl _)⟩
          · cases h
        · split at h
          next qk =>
            cases h
            exact ⟨z_I_up hI z_set1 (by omega) q63 (fun _ => ⟨by omega, by omega, qk.2⟩), (hE.mono hle).up z_set1 (Nat.le_refl _)⟩
          · cases h
theorem z_os_I (hX : x_tok t W) (hT : T < 13) : ∀ (f k : Nat) (O : z_O) (r : z_O × Nat), z_os T W t f k O = .inr r → k ≤ W.length → z_I T (x_all W) O → z_Ie O (x_fo W k) → z_I T (x_all W) r.1 ∧ z_Ie r.1 (x_fo W r.2)
  | 0, k, O, r, h, hk, hI, hE => by
    unfold z_os at h
    cases h
    exact ⟨hI, hE⟩
  | f + 1, k, O, r, h, hk, hI, hE => by
    unfold z_os at h
    split at h
    next q =>
      have hl2 : 1 < (W.getD k x_0).2.2.length := by
        unfold z_iso at q
        simp only [Bool.and_eq_true, decide_eq_true_eq] at q
        exact q.2.2.1
      have hkl : k < W.length := by
        unfold z_iso at q
        rw [Bool.and_eq_true] at q
        exact x_isw_lt q.1
      have hf1 : x_fo W (k + 1) = x_fo W k + (W.getD k x_0).2.2.length := rfl
      cases hz : z_ow T W t k ((W.getD k x_0).2.2.length - 1) (x_fo W k + 1) O with
      | inl x => rw [hz] at h; cases h
      | inr y =>
        rw [hz] at h
        have hy := z_ow_up _ _ _ y hz hkl
        obtain ⟨a1, a2⟩ := z_ow_I hX hT hkl _ _ _ y hz (by omega) hI (hE.mono (by omega))
        exact z_os_I hX hT f y.2 y.1 r h hy.2 a1 a2
    · cases h
      exact ⟨hI, hE⟩
/-- what is true of an operand -/
def z_oI (T : Nat) (W : List x_T) (first : Bool) (k : Nat) (z : Int × Nat) : Prop := z.2 < k ∧ (T = 12 → z_ss (x_all W) (x_fo W z.2) (x_fo W (z.2 + 1)) = true) ∧ (T ≠ 12 → first = true → z.1 ≠ 10)
theorem z_op_I : ∀ (f k : Nat) (l : List (Int × Nat)) (r : List (Int × Nat) × Nat), z_op T W t first O f k l = .inr r → (∀ z ∈ l, z_oI T W first k z) → ∀ z ∈ r.1, z_oI T W first r.2 z
  | 0, k, l, r, h, hl => by
    unfold z_op at h
    cases h
    exact hl
  | f + 1, k, l, r, h, hl => by
    rw [z_op_step] at h
    split at h
    next q =>
      cases hz : z_o1 T W t first O k l with
      | inl x => rw [hz] at h; cases h
      | inr y =>
        rw [hz] at h
        refine z_op_I f (k + 1) y r h ?_
        unfold z_o1 at hz
        split at hz
        next q12 =>
          split at hz
          · cases hz
          · split at hz
            next qs =>
              cases hz
              intro z hz
              rcases List.mem_append.1 hz with w | w
              · obtain ⟨b1, b2, b3⟩ := hl z w
                exact ⟨by omega, b2, b3⟩
              · rw [List.mem_singleton] at w
                subst w
                exact ⟨Nat.lt_succ_self k, fun _ => qs, fun w => absurd q12 w⟩
            · cases hz
        next q12 =>
          split at hz
          · cases hz
          next qs =>
            cases hz
            intro z hz
            rcases List.mem_append.1 hz with w | w
            · obtain ⟨b1, b2, b3⟩ := hl z w
              exact ⟨by omega, b2, b3⟩
            · rw [List.mem_singleton] at w
              subst w
              exact ⟨Nat.lt_succ_self k, fun w => absurd w q12, fun _ hf w => qs (.inr (.inl ⟨w, .inl hf⟩))⟩
    · cases h
      exact hl
theorem z_rt_I {k : Nat} {y : Nat × z_O × List (Int × Nat) × Nat} (hX : x_tok t W) (h : z_rt W t k first = .inr y) : z_I y.1 (x_all W) y.2.1 ∧ z_Ie y.2.1 (x_fo W y.2.2.2) ∧ (∀ z ∈ y.2.2.1, z_oI y.1 W first y.2.2.2 z) ∧ z_wh y.1 first y.2.1 y.2.2.1.length = true ∧ y.2.2.1.length ≤ z_mo y.1 y.2.1 := by
  unfold z_rt at h
  split at h
  · cases h
  next q =>
    have q' : x_isw W k = true := by
      cases w : x_isw W k with
      | false => exact absurd w q
      | true => rfl
    have hkl := x_isw_lt q'
    split at h
    · cases h
    next q2 =>
      have hn := (z_nm_sp (l := x_sub (x_all W) (x_fo W k) (x_fo W (k + 1)))).1
      generalize z_nm (x_sub (x_all W) (x_fo W k) (x_fo W (k + 1))) = T at h q2 hn
      cases hz : z_os T W t (W.length + 1) (k + 1) z_no with
      | inl x => rw [hz] at h; cases h
      | inr r =>
        rw [hz] at h
        dsimp only at h
        have hr := z_os_up _ _ _ r hz (by omega)
        obtain ⟨i1, i2⟩ := z_os_I hX (by omega) _ _ _ r hz (by omega) z_I_no (fun c s e w => absurd w (by simp [z_no]))
        cases hz2 : z_op T W t first r.1 (W.length + 1) r.2 [] with
        | inl x => rw [hz2] at h; cases h
        | inr x =>
          rw [hz2] at h
          dsimp only at h
          have hx := z_op_up _ _ _ x hz2 hr.2 (Nat.zero_le _)
          have hw := z_op_I _ _ _ x hz2 (fun z hz => absurd hz (by simp))
          split at h
          next qw =>
            cases h
            exact ⟨i1, i2.mono (x_fo_le W hx.1), hw, qw, hx.2.2⟩
          · cases h
end FA
/-- the operands that the class takes -/
def z_opl (T : Nat) (l : List (Int × Nat)) (k : Nat) : List (Int × Nat) := if T = 12 then [(10, k)] else z_l1 l k
/-- what they hold -/
def z_S (F : Nat → List (List Int)) (Gv : List (List Int)) (l : List (Int × Nat)) (j : Nat) : List (List Int) := if (l.getD j z_00).1 = 10 then Gv else F (l.getD j z_00).1.toNat
theorem z_to_none {th : Nat → Bool} : ∀ (l : List (Int × Nat)), z_to th l = none → ∀ i, i < l.length → (l.getD i z_00).1 = 10 ∨ th (l.getD i z_00).1.toNat = true
  | [], _, i, hi => absurd hi (by simp)
  | z :: l, h, i, hi => by
    unfold z_to at h
    split at h
    next q =>
      cases i with
      | zero => exact q
      | succ i => exact z_to_none l h i (by simpa using hi)
    · cases h
/-- the number of operands -/
theorem z_wh_n {T : Nat} {first : Bool} {O : z_O} {n : Nat} (h : z_wh T first O n = true) : (T = 12 → first = false ∧ 1 ≤ n) ∧ (T ≠ 12 → (n = 0 → first = false) ∧ x_least T ≤ n) ∧ (T = 6 → z_tg O = true) := by
  unfold z_wh at h
  refine ⟨fun q => ?_, fun q => ?_, fun q => ?_⟩
  · rw [if_pos q, Bool.and_eq_true, decide_eq_true_eq] at h
    refine ⟨by cases first <;> simp_all, ?_⟩
    have := h.2
    split at this <;> omega
  · rw [if_neg q, Bool.and_eq_true, Bool.and_eq_true, decide_eq_true_eq] at h
    refine ⟨fun w => ?_, h.2.1⟩
    have := h.1
    rw [decide_eq_true w] at this
    cases first <;> simp_all
  · rw [if_neg (by omega), Bool.and_eq_true, Bool.and_eq_true, decide_eq_true_eq, Bool.or_eq_true, decide_eq_true_eq] at h
    rcases h.2.2 with w | w
    · exact absurd q w
    · exact w
theorem z_opl_n {T : Nat} {first : Bool} {O : z_O} {l : List (Int × Nat)} {k : Nat} (hT : T < 13) (h : z_wh T first O l.length = true) (hm : l.length ≤ z_mo T O) : 1 ≤ (z_opl T l k).length ∧ (z_opl T l k).length ≤ 20 ∧ (T = 9 → (z_opl T l k).length ≤ 11) ∧ (T = 10 ∨ T = 11 → (z_opl T l k).length = 2 ∧ z_opl T l k = l) ∧ (T = 12 → 1 ≤ l.length ∧ l.length ≤ 2) := by
  obtain ⟨h1, h2, h3⟩ := z_wh_n h
  have hb := z_mo_bd (O := O) hT
  have hc : x_most 9 ≤ 11 ∧ x_least 10 = 2 ∧ x_most 10 = 2 ∧ x_least 11 = 2 ∧ x_most 11 = 2 ∧ x_most 12 ≤ 2 := by decide +kernel
  have hlen : T ≠ 12 → (z_opl T l k).length = (if l = [] then 1 else l.length) := by
    intro q
    unfold z_opl z_l1
    rw [if_neg q]
    split <;> rfl
  have hpos : l ≠ [] → 0 < l.length := fun q => List.length_pos_iff.2 q
  by_cases q : T = 12
  · have e : z_opl T l k = [(10, k)] := by unfold z_opl; rw [if_pos q]
    rw [e]
    refine ⟨by simp, by simp, fun _ => by simp, fun w => by omega, fun _ => ⟨(h1 q).2, ?_⟩⟩
    unfold z_mo at hm
    subst q
    split at hm <;> omega
  · have hm' : l.length ≤ x_most T := by
      unfold z_mo at hm
      rw [if_neg (fun w => q w.1)] at hm
      exact hm
    refine ⟨?_, ?_, ?_, ?_, fun w => absurd w q⟩
    · rw [hlen q]; split
      · omega
      next w => exact hpos w
    · rw [hlen q]; split <;> omega
    · intro w
      subst w
      rw [hlen q]; split <;> omega
    · intro w
      have h2' := (h2 q).2
      have hne : l ≠ [] := by
        intro w2
        rw [w2] at h2'
        rcases w with w | w <;> subst w <;> simp at h2' <;> omega
      refine ⟨?_, ?_⟩
      · rw [hlen q, if_neg hne]
        rcases w with w | w <;> subst w <;> omega
      · unfold z_opl z_l1
        rw [if_neg q, if_neg hne]
theorem z_tr_take {bs : List Int} {p ns s0 e0 s1 e1 : Nat} {O : z_O} {S : List (List Int)} (h0 : e0 ≤ p) (h1 : e1 ≤ p) : z_tr O (bs.take p) ns s0 e0 s1 e1 S = z_tr O bs ns s0 e0 s1 e1 S := by
  unfold z_tr
  rw [z_ex_take h0, z_ex_take h1]
