/-! VALUES OF OPTIONS -/
theorem x_sub_take {bs : List Int} {s e p : Nat} (h : e ≤ p) : x_sub (bs.take p) s e = x_sub bs s e := by
  unfold x_sub
  rw [List.drop_take, List.take_take]
  congr 1
  omega
theorem x_at_take {bs : List Int} {i p : Nat} (h : i < p) : (bs.take p).getD i 0 = bs.getD i 0 := by
  rw [List.getD_eq_getElem?_getD, List.getD_eq_getElem?_getD, List.getElem?_take, if_pos h]
theorem x_cm_take {bs : List Int} {c : Int} {s e p : Nat} (h : e ≤ p) : x_cm (bs.take p) c s e = x_cm bs c s e := by
  unfold x_cm
  rw [x_sub_take h]
theorem x_cm_up {bs : List Int} {c : Int} {s e : Nat} (hs : s ≤ e) (he : e ≤ bs.length) : x_cm bs c s e ≤ e := (x_cm_le hs he).2
theorem x_part_take {bs : List Int} {s e p : Nat} (h : e ≤ p) (hs : s ≤ e) (he : e ≤ bs.length) : x_part (bs.take p) s e = x_part bs s e := by
  have hc := x_cm_up (c := 45) hs he
  unfold x_cm at hc
  unfold x_part
  rw [x_sub_take h, x_sub_take (show s + x_ix (x_sub bs s e) 45 ≤ p by omega), x_sub_take h]
theorem x_lst_take {bs : List Int} {e p : Nat} (h : e ≤ p) (he : e ≤ bs.length) : ∀ (n s : Nat), s ≤ e → x_lst (bs.take p) e n s = x_lst bs e n s
  | 0, s, hs => rfl
  | n + 1, s, hs => by
    have hc := x_cm_le (c := 44) hs he
    unfold x_lst
    rw [x_cm_take h, x_part_take (show x_cm bs 44 s e ≤ p by omega) hc.1 (by omega)]
    by_cases q : x_cm bs 44 s e = e
    · simp only [if_pos q]
    · rw [x_lst_take h he n _ (by omega)]
theorem x_key_take {bs : List Int} {s e p : Nat} (h : e ≤ p) (hs : s ≤ e) (he : e ≤ bs.length) : x_klo (bs.take p) s e = x_klo bs s e ∧ x_khi (bs.take p) s e = x_khi bs s e ∧ x_key (bs.take p) s e = x_key bs s e := by
  have hc := x_cm_le (c := 44) hs he
  have h1 : x_klo (bs.take p) s e = x_klo bs s e := by
    unfold x_klo
    rw [x_cm_take h, x_sub_take (show x_cm bs 44 s e ≤ p by omega)]
  have h2 : x_khi (bs.take p) s e = x_khi bs s e := by
    unfold x_khi
    rw [x_cm_take h, x_sub_take h]
  refine ⟨h1, h2, ?_⟩
  unfold x_key
  rw [h1, h2, x_cm_take h]
theorem x_sep_take {bs : List Int} {e p : Nat} (h : e ≤ p) : ∀ (n s : Nat), x_sep (bs.take p) e n s = x_sep bs e n s
  | 0, s => rfl
  | n + 1, s => by
    unfold x_sep
    by_cases q : e ≤ s
    · rw [if_pos q, if_pos q]
    · rw [if_neg q, if_neg q, x_at_take (show s < p by omega), x_sep_take h n (s + 1), x_sep_take h n (s + 2)]
      by_cases q2 : s + 1 < e
      · rw [x_at_take (show s + 1 < p by omega)]
      · simp only [q2, false_and, if_false]
theorem x_sps_take {bs : List Int} {s e p : Nat} (h : e ≤ p) : x_sps (bs.take p) s e = x_sps bs s e := by
  unfold x_sps
  rw [x_sep_take h]
theorem x_po_take {bs : List Int} {s e p : Nat} (h : e ≤ p) : x_po (bs.take p) s e = x_po bs s e := by
  unfold x_po
  rw [x_sub_take h]
  by_cases q : s < e
  · rw [x_at_take (show s < p by omega)]
    by_cases q2 : s + 1 < e
    · rw [x_at_take (show s + 1 < p by omega)]
    · by_cases q3 : e = s + 1 ∧ bs.getD s 0 = 48
      · rw [if_pos q3, if_pos q3]
      · rw [if_neg q3, if_neg q3, if_neg (fun w => by omega), if_neg (fun w => by omega)]
  · rw [if_neg (fun w => by omega), if_neg (fun w => by omega), if_neg (fun w => by omega), if_neg (fun w => by omega)]
theorem x_prt_take {bs : List Int} {e p : Nat} (h : e ≤ p) (he : e ≤ bs.length) : ∀ (n s : Nat), s ≤ e → x_prt (bs.take p) e n s = x_prt bs e n s
  | 0, s, hs => rfl
  | n + 1, s, hs => by
    have hc := x_cm_le (c := 44) hs he
    unfold x_prt
    rw [x_cm_take h, x_po_take (show x_cm bs 44 s e ≤ p by omega)]
    by_cases q : x_cm bs 44 s e = e
    · simp only [if_pos q]
    · rw [x_prt_take h he n _ (by omega)]
/-- options told: where each one's value stands; whether lonely lines of a side are given -/
abbrev z_O : Type := (Nat → Option (Nat × Nat)) × Bool × Bool
def z_no : z_O := (fun _ => none, false, false)
def z_up (O : z_O) (c s e : Nat) : z_O := (fun j => if j = c then some (s, e) else O.1 j, O.2)
/-- whether a value is good -/
def z_ok (T : Nat) (bs : List Int) (c : Nat) (s e : Nat) : Bool :=
  if x_want T c = 78 then decide (1 ≤ x_nm (x_sub bs s e)) else if x_want T c = 70 then decide (1 ≤ x_nm (x_sub bs s e) ∧ x_nm (x_sub bs s e) ≤ 2) else if x_want T c = 67 then decide (e = s + 1) else if x_want T c = 76 then (x_lst bs e (e + 1) s).isSome else if x_want T c = 66 then x_sps bs s e else if x_want T c = 75 then x_key bs s e else if x_want T c = 80 then (x_prt bs e (e + 1) s).isSome else true
def z_set (T : Nat) (bs : List Int) (O : z_O) (c : Nat) (s e : Nat) : z_O := if x_want T c = 70 then ((z_up O c s e).1, O.2.1 || decide (x_nm (x_sub bs s e) = 1), O.2.2 || decide (x_nm (x_sub bs s e) = 2)) else z_up O c s e
theorem z_set1 {T : Nat} {bs : List Int} {O : z_O} {c s e : Nat} : (z_set T bs O c s e).1 = (z_up O c s e).1 := by
  unfold z_set
  split <;> rfl
/-- what is true of the options told -/
def z_I (T : Nat) (bs : List Int) (O : z_O) : Prop := ∀ c s e, O.1 c = some (s, e) → c < 128 ∧ x_want T c ≠ 63 ∧ (x_want T c ≠ 45 → s ≤ e ∧ e ≤ bs.length ∧ z_ok T bs c s e = true)
theorem z_I_no {T : Nat} {bs : List Int} : z_I T bs z_no := fun c s e h => absurd h (by simp [z_no])
theorem z_I_up {T : Nat} {bs : List Int} {O O' : z_O} {c s e : Nat} (h : z_I T bs O) (h1 : O'.1 = (z_up O c s e).1) (hc : c < 128) (hw : x_want T c ≠ 63) (hv : x_want T c ≠ 45 → s ≤ e ∧ e ≤ bs.length ∧ z_ok T bs c s e = true) : z_I T bs O' := by
  intro j s' e' hj
  rw [h1] at hj
  unfold z_up at hj
  dsimp only at hj
  by_cases q : j = c
  · rw [if_pos q] at hj
    cases hj
    subst q
    exact ⟨hc, hw, hv⟩
  · rw [if_neg q] at hj
    exact h j s' e' hj
theorem x_want_lt {T : Nat} {c : Int} (hT : T < 13) (h : x_want T c ≠ 63) : 0 ≤ c ∧ c < 128 := by
  unfold x_want at h
  split at h
  next q =>
    have e := x_ix_eq q
    have := x_sb_bd (i := x_tl T) (j := x_ix (x_sb (x_tl T)) c) (x_tbd hT).2.1
    rw [e] at this
    exact this
  next q => exact absurd rfl h
def x_wl : List (List (Int × Int)) := [[], [], [], [(110, 78)], [(110, 78)], [(108, 45), (119, 45), (99, 45)], [(102, 76), (100, 67), (115, 45), (98, 76)], [(115, 45), (100, 66)], [(99, 45), (100, 45), (117, 45), (102, 78)], [(114, 45), (110, 45), (117, 45), (116, 67), (107, 75)], [(49, 45), (50, 45), (51, 45)], [(116, 67), (49, 78), (50, 78), (97, 70), (118, 70), (101, 83), (111, 80)], [(100, 45), (115, 45)]]
theorem x_want_wl : ∀ T, T < 13 → x_wl.getD T [] = (x_sb (x_tl T)).zip (x_sb (x_tw T)) := by decide
theorem x_zip_ix : ∀ (l w : List Int) (c : Int), l.length = w.length → x_ix l c < l.length → (c, w.getD (x_ix l c) 0) ∈ l.zip w
  | [], w, c, _, h => absurd h (by simp)
  | x :: l, [], c, h, _ => absurd h (by simp)
  | x :: l, y :: w, c, hl, h => by
    unfold x_ix at h ⊢
    split at h
    next q => 
      rw [if_pos q]
      simp [q]
    next q =>
      rw [if_neg q]
      have := x_zip_ix l w c (by simpa using hl) (by simpa using h)
      simp only [List.zip_cons_cons, List.getD_cons_succ]
      exact List.mem_cons_of_mem _ this
theorem x_want_mem {T : Nat} {c : Int} (hT : T < 13) (h : x_want T c ≠ 63) : (c, x_want T c) ∈ x_wl.getD T [] := by
  rw [x_want_wl T hT]
  unfold x_want at h ⊢
  split
  next q => exact x_zip_ix _ _ _ (x_tbd hT).2.2.2.2.2 q
  next q => rw [if_neg q] at h; exact absurd rfl h
theorem x_wl_uni : ∀ T, T < 13 → ∀ z ∈ x_wl.getD T [], ∀ y ∈ x_wl.getD T [], (z.2 = y.2 ∧ (z.2 = 66 ∨ z.2 = 75 ∨ z.2 = 83 ∨ z.2 = 80)) → z.1 = y.1 := by decide
theorem x_wl_L : ∀ T, T < 13 → ∀ z ∈ x_wl.getD T [], z.2 = 76 → T = 6 ∧ (z.1 = 98 ∨ z.1 = 102) := by decide
theorem x_wl_all : ∀ T, T < 13 → ∀ z ∈ x_wl.getD T [], z.2 = 45 ∨ z.2 = 78 ∨ z.2 = 70 ∨ z.2 = 67 ∨ z.2 = 76 ∨ z.2 = 66 ∨ z.2 = 75 ∨ z.2 = 83 ∨ z.2 = 80 := by decide
theorem x_want_uni {T : Nat} {c c' : Nat} (hT : T < 13) (w : Int) (hw : w = 66 ∨ w = 75 ∨ w = 83 ∨ w = 80) (h : x_want T c = w) (h' : x_want T c' = w) : c = c' := by
  have a := x_want_mem (c := c) hT (by omega)
  have a' := x_want_mem (c := c') hT (by omega)
  have := x_wl_uni T hT _ a _ a' (by dsimp only; omega)
  dsimp only at this
  omega
theorem x_want_L {T : Nat} {c : Nat} (hT : T < 13) (h : x_want T c = 76) : T = 6 ∧ (c = 98 ∨ c = 102) := by
  have a := x_want_mem (c := c) hT (by omega)
  have := x_wl_L T hT _ a h
  dsimp only at this
  omega
theorem x_want_all {T : Nat} {c : Int} (hT : T < 13) (h : x_want T c ≠ 63) : x_want T c = 45 ∨ x_want T c = 78 ∨ x_want T c = 70 ∨ x_want T c = 67 ∨ x_want T c = 76 ∨ x_want T c = 66 ∨ x_want T c = 75 ∨ x_want T c = 83 ∨ x_want T c = 80 := x_wl_all T hT _ (x_want_mem hT h)
