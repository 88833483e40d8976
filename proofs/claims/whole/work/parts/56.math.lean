/-! CONDITIONS THAT ARE DECIDED -/
theorem h_cltT {a b : Int} (h : a < b) (h1 : -2147483648 ≤ a) (h2 : a < 2147483648) (h3 : -2147483648 ≤ b) (h4 : b < 2147483648) : (am_cond .lt (h_ii a) (h_ii b) = true) = True := by
  rw [h_clt h1 h2 h3 h4]
  exact eq_true (by omega)
theorem h_cltF {a b : Int} (h : b ≤ a) (h1 : -2147483648 ≤ a) (h2 : a < 2147483648) (h3 : -2147483648 ≤ b) (h4 : b < 2147483648) : (am_cond .lt (h_ii a) (h_ii b) = true) = False := by
  rw [h_clt h1 h2 h3 h4]
  exact eq_false (by omega)
theorem h_cgeT {a b : Int} (h : b ≤ a) (h1 : -2147483648 ≤ a) (h2 : a < 2147483648) (h3 : -2147483648 ≤ b) (h4 : b < 2147483648) : (am_cond .ge (h_ii a) (h_ii b) = true) = True := by
  rw [h_cge h1 h2 h3 h4]
  exact eq_true (by omega)
theorem h_cgeF {a b : Int} (h : a < b) (h1 : -2147483648 ≤ a) (h2 : a < 2147483648) (h3 : -2147483648 ≤ b) (h4 : b < 2147483648) : (am_cond .ge (h_ii a) (h_ii b) = true) = False := by
  rw [h_cge h1 h2 h3 h4]
  exact eq_false (by omega)
theorem h_cgtT {a b : Int} (h : b < a) (h1 : -2147483648 ≤ a) (h2 : a < 2147483648) (h3 : -2147483648 ≤ b) (h4 : b < 2147483648) : (am_cond .gt (h_ii a) (h_ii b) = true) = True := by
  rw [h_cgt h1 h2 h3 h4]
  exact eq_true (by omega)
theorem h_cgtF {a b : Int} (h : a ≤ b) (h1 : -2147483648 ≤ a) (h2 : a < 2147483648) (h3 : -2147483648 ≤ b) (h4 : b < 2147483648) : (am_cond .gt (h_ii a) (h_ii b) = true) = False := by
  rw [h_cgt h1 h2 h3 h4]
  exact eq_false (by omega)
theorem h_cleT {a b : Int} (h : a ≤ b) (h1 : -2147483648 ≤ a) (h2 : a < 2147483648) (h3 : -2147483648 ≤ b) (h4 : b < 2147483648) : (am_cond .le (h_ii a) (h_ii b) = true) = True := by
  rw [h_cle h1 h2 h3 h4]
  exact eq_true (by omega)
theorem h_cleF {a b : Int} (h : b < a) (h1 : -2147483648 ≤ a) (h2 : a < 2147483648) (h3 : -2147483648 ≤ b) (h4 : b < 2147483648) : (am_cond .le (h_ii a) (h_ii b) = true) = False := by
  rw [h_cle h1 h2 h3 h4]
  exact eq_false (by omega)
theorem h_ceqT {a b : Int} (h : a = b) (h1 : -2147483648 ≤ a) (h2 : a < 2147483648) (h3 : -2147483648 ≤ b) (h4 : b < 2147483648) : (am_cond .eq (h_ii a) (h_ii b) = true) = True := by
  rw [h_ceq h1 h2 h3 h4]
  exact eq_true (by omega)
theorem h_ceqF {a b : Int} (h : ¬ a = b) (h1 : -2147483648 ≤ a) (h2 : a < 2147483648) (h3 : -2147483648 ≤ b) (h4 : b < 2147483648) : (am_cond .eq (h_ii a) (h_ii b) = true) = False := by
  rw [h_ceq h1 h2 h3 h4]
  exact eq_false (by omega)
theorem h_cneT {a b : Int} (h : ¬ a = b) (h1 : -2147483648 ≤ a) (h2 : a < 2147483648) (h3 : -2147483648 ≤ b) (h4 : b < 2147483648) : (am_cond .ne (h_ii a) (h_ii b) = true) = True := by
  rw [h_cne h1 h2 h3 h4]
  exact eq_true (by omega)
theorem h_cneF {a b : Int} (h : a = b) (h1 : -2147483648 ≤ a) (h2 : a < 2147483648) (h3 : -2147483648 ≤ b) (h4 : b < 2147483648) : (am_cond .ne (h_ii a) (h_ii b) = true) = False := by
  rw [h_cne h1 h2 h3 h4]
  exact eq_false (by omega)
/-! LINES, AS LISTS -/
def x_fit (L : List (List Int)) : Prop := L.length ≤ 300 ∧ ∀ l ∈ L, l.length ≤ 240
def x_okl (l : List Int) : Prop := ∀ x ∈ l, 0 ≤ x ∧ x < 256
def x_ok (L : List (List Int)) : Prop := ∀ l ∈ L, x_okl l
theorem x_fit_at {L : List (List Int)} (h : x_fit L) (k : Nat) : (L.getD k []).length ≤ 240 := by
  rw [List.getD_eq_getElem?_getD]
  cases hk : L[k]? with
  | none => exact Nat.zero_le _
  | some l => exact h.2 l (List.mem_of_getElem? hk)
theorem x_getD_app {L : List (List Int)} {c : List Int} {k : Nat} (hk : k < L.length + 1) : (L ++ [c]).getD k [] = if k < L.length then L.getD k [] else c := by
  rw [List.getD_eq_getElem?_getD]
  split
  · rename_i h
    rw [List.getElem?_append_left h, List.getD_eq_getElem?_getD]
  · rename_i h
    have : k = L.length := by omega
    subst this
    rw [List.getElem?_append_right (Nat.le_refl _), Nat.sub_self]
    rfl
theorem x_getD_one {c : List Int} {b : Int} {i : Nat} (hi : i < c.length + 1) : (c ++ [b]).getD i 0 = if i < c.length then c.getD i 0 else b := by
  rw [List.getD_eq_getElem?_getD]
  split
  · rename_i h
    rw [List.getElem?_append_left h, List.getD_eq_getElem?_getD]
  · rename_i h
    have : i = c.length := by omega
    subst this
    rw [List.getElem?_append_right (Nat.le_refl _), Nat.sub_self]
    rfl
theorem x_fit_app {L : List (List Int)} {c : List Int} : x_fit (L ++ [c]) ↔ L.length < 300 ∧ (∀ l ∈ L, l.length ≤ 240) ∧ c.length ≤ 240 := by
  unfold x_fit
  rw [List.length_append]
  constructor
  · rintro ⟨h1, h2⟩
    exact ⟨by simp at h1; omega, fun l hl => h2 l (List.mem_append_left _ hl), h2 c (by simp)⟩
  · rintro ⟨h1, h2, h3⟩
    refine ⟨by simp; omega, fun l hl => ?_⟩
    rcases List.mem_append.mp hl with q | q
    · exact h2 l q
    · rw [List.mem_singleton.mp q]; exact h3
/-- where a line begins in the row of all bytes -/
def x_off (L : List (List Int)) : Nat → Nat
  | 0 => 0
  | l + 1 => x_off L l + (L.getD l []).length
theorem x_getD_left {L M : List (List Int)} {l : Nat} (h : l < L.length) : (L ++ M).getD l [] = L.getD l [] := by
  rw [List.getD_eq_getElem?_getD, List.getElem?_append_left h, List.getD_eq_getElem?_getD]
theorem x_getD_mid {L : List (List Int)} {c : List Int} : (L ++ [c]).getD L.length [] = c := by
  rw [List.getD_eq_getElem?_getD, List.getElem?_append_right (Nat.le_refl _), Nat.sub_self]
  rfl
theorem x_off_app {L M : List (List Int)} : ∀ {l : Nat}, l ≤ L.length → x_off (L ++ M) l = x_off L l
  | 0, _ => rfl
  | l + 1, h => by
    show x_off (L ++ M) l + ((L ++ M).getD l []).length = x_off L l + (L.getD l []).length
    rw [x_off_app (by omega), x_getD_left (by omega)]
theorem x_off_last {L : List (List Int)} {c : List Int} : x_off (L ++ [c]) (L.length + 1) = x_off L L.length + c.length := by
  show x_off (L ++ [c]) L.length + ((L ++ [c]).getD L.length []).length = _
  rw [x_off_app (Nat.le_refl _), x_getD_mid]
theorem x_off_mono {L : List (List Int)} {a b : Nat} (h : a ≤ b) : x_off L a ≤ x_off L b := by
  induction b with
  | zero => rw [Nat.le_zero.mp h]; exact Nat.le_refl _
  | succ b ih =>
    rcases Nat.lt_or_ge a (b + 1) with q | q
    · exact Nat.le_trans (ih (by omega)) (Nat.le_add_right _ _)
    · rw [show a = b + 1 by omega]; exact Nat.le_refl _
theorem x_off_lt {L : List (List Int)} {l i m : Nat} (h : l < m) (hi : i < (L.getD l []).length) : x_off L l + i < x_off L m := by
  have := x_off_mono (L := L) (a := l + 1) (b := m) h
  have e : x_off L (l + 1) = x_off L l + (L.getD l []).length := rfl
  omega
theorem x_off_le {L : List (List Int)} (h : ∀ l ∈ L, l.length ≤ 240) : ∀ n, x_off L n ≤ 240 * n
  | 0 => Nat.le_refl _
  | n + 1 => by
    have := x_off_le h n
    have h2 : (L.getD n []).length ≤ 240 := by
      rw [List.getD_eq_getElem?_getD]
      cases hk : L[n]? with
      | none => exact Nat.zero_le _
      | some l => exact h l (List.mem_of_getElem? hk)
    show x_off L n + _ ≤ _
    omega
/-- what fits while a line is open -/
def x_fitc (L : List (List Int)) (c : List Int) : Prop := (∀ l ∈ L, l.length ≤ 240) ∧ L.length ≤ 300 ∧ c.length ≤ 240 ∧ (L.length = 300 → c = [])
theorem x_fitc_put {L : List (List Int)} {c p : List Int} : x_fitc L (c ++ p) ↔ x_fitc L c ∧ (p = [] ∨ (c.length + p.length ≤ 240 ∧ L.length < 300)) := by
  unfold x_fitc
  rw [List.length_append]
  constructor
  · rintro ⟨h1, h2, h3, h4⟩
    refine ⟨⟨h1, h2, by omega, fun q => ?_⟩, ?_⟩
    · exact (List.append_eq_nil_iff.mp (h4 q)).1
    · by_cases hp : p = []
      · exact .inl hp
      · refine .inr ⟨by omega, ?_⟩
        rcases Nat.lt_or_ge L.length 300 with q | q
        · exact q
        · exact absurd (List.append_eq_nil_iff.mp (h4 (by omega))).2 hp
  · rintro ⟨⟨h1, h2, h3, h4⟩, h5⟩
    rcases h5 with rfl | ⟨h5, h6⟩
    · exact ⟨h1, h2, by simp; omega, fun q => by rw [h4 q]; rfl⟩
    · exact ⟨h1, h2, h5, fun q => absurd q (by omega)⟩
theorem x_fitc_end {L : List (List Int)} {c : List Int} : x_fitc (L ++ [c]) [] ↔ x_fitc L c ∧ L.length < 300 := by
  unfold x_fitc
  rw [List.length_append]
  constructor
  · rintro ⟨h1, h2, h3, h4⟩
    have h2' : L.length + 1 ≤ 300 := h2
    exact ⟨⟨fun l hl => h1 l (List.mem_append_left _ hl), by omega, h1 c (by simp), fun q => by omega⟩, by omega⟩
  · rintro ⟨⟨h1, h2, h3, h4⟩, h5⟩
    refine ⟨fun l hl => ?_, by show L.length + 1 ≤ 300; omega, by simp, fun _ => rfl⟩
    rcases List.mem_append.mp hl with q | q
    · exact h1 l q
    · rw [List.mem_singleton.mp q]; exact h3
theorem x_fitc_nil : x_fitc [] [] := ⟨by simp, by simp, by simp, fun _ => rfl⟩
theorem x_fitc_fit {L : List (List Int)} : x_fitc L [] ↔ x_fit L := by
  unfold x_fitc x_fit
  constructor
  · rintro ⟨h1, h2, _, _⟩; exact ⟨h2, h1⟩
  · rintro ⟨h1, h2⟩; exact ⟨h2, h1, by simp, fun _ => rfl⟩
theorem h_bm3 (v : Int) : Int.bmod v 256 = Int.bmod (v % 256) 256 := by
  unfold Int.bmod
  have : v % 256 % ((256 : Nat) : Int) = v % ((256 : Nat) : Int) := by
    show v % 256 % 256 = v % 256
    omega
  rw [this]
theorem x_okl_one {c : List Int} {v : Int} (h : x_okl c) : x_okl (c ++ [v % 256]) := by
  intro x hx
  rcases List.mem_append.mp hx with w | w
  · exact h x w
  · rw [List.mem_singleton.mp w]; omega
theorem x_ok_app {L : List (List Int)} {c : List Int} (h : x_ok L) (h2 : x_okl c) : x_ok (L ++ [c]) := by
  intro l hl
  rcases List.mem_append.mp hl with w | w
  · exact h l w
  · rw [List.mem_singleton.mp w]; exact h2
theorem x_ok_at {L : List (List Int)} (h : x_ok L) (k : Nat) : x_okl (L.getD k []) := by
  rw [List.getD_eq_getElem?_getD]
  cases hk : L[k]? with
  | none => exact fun x hx => absurd hx (by simp)
  | some l => exact h l (List.mem_of_getElem? hk)
theorem x_okl_at {l : List Int} (h : x_okl l) (k : Nat) : 0 ≤ l.getD k 0 ∧ l.getD k 0 < 256 := by
  rw [List.getD_eq_getElem?_getD]
  cases hk : l[k]? with
  | none => exact ⟨Int.le_refl _, by decide⟩
  | some x => exact h x (List.mem_of_getElem? hk)
theorem x_cons {w : List Int} {s n : Nat} (h : s < w.length) : (w.drop s).take (n + 1) = w.getD s 0 :: (w.drop (s + 1)).take n := by
  rw [List.drop_eq_getElem_cons h, List.take_succ_cons, List.getD_eq_getElem?_getD, List.getElem?_eq_getElem h]
  rfl
theorem x_cons2 {w : List Int} {s e : Nat} (h : s < e) (he : e ≤ w.length) : (w.drop s).take (e - s) = w.getD s 0 :: (w.drop (s + 1)).take (e - (s + 1)) := by
  rw [show e - s = (e - (s + 1)) + 1 by omega, x_cons (by omega)]
/-- a tape, cut into lines -/
def x_sp : List Int → List (List Int) → List Int → List (List Int)
  | [], L, c => if c = [] then L else L ++ [c]
  | v :: t, L, c => if v = 10 then x_sp t (L ++ [c]) [] else x_sp t L (c ++ [v])
theorem x_sp_fit : ∀ {t : List Int} {L : List (List Int)} {c : List Int}, x_fit (x_sp t L c) → x_fitc L c
  | [], L, c, h => by
    unfold x_sp at h
    split at h
    · rename_i q; subst q; exact x_fitc_fit.mpr h
    · exact (x_fitc_end.mp (x_fitc_fit.mpr h)).1
  | v :: t, L, c, h => by
    unfold x_sp at h
    split at h
    · exact (x_fitc_end.mp (x_sp_fit h)).1
    · exact (x_fitc_put.mp (x_sp_fit h)).1
theorem x_sp_ok : ∀ {t : List Int} {L : List (List Int)} {c : List Int}, x_okl t → x_ok L → x_okl c → x_ok (x_sp t L c)
  | [], L, c, _, h1, h2 => by
    unfold x_sp
    split
    · exact h1
    · exact x_ok_app h1 h2
  | v :: t, L, c, h, h1, h2 => by
    have ht : x_okl t := fun x hx => h x (List.mem_cons_of_mem _ hx)
    have hv := h v (by simp)
    unfold x_sp
    split
    · exact x_sp_ok ht (x_ok_app h1 h2) (fun x hx => absurd hx (by simp))
    · refine x_sp_ok ht h1 ?_
      have := x_okl_one (v := v) h2
      rw [Int.emod_eq_of_lt hv.1 hv.2] at this
      exact this
theorem x_drop {w : List Int} {i : Nat} (h : i < w.length) : w.drop i = w.getD i 0 :: w.drop (i + 1) := by
  rw [List.drop_eq_getElem_cons h, List.getD_eq_getElem?_getD, List.getElem?_eq_getElem h]
  rfl
theorem x_bm10 {v k : Int} (h0 : 0 ≤ v) (h1 : v < 256) (k0 : 0 ≤ k) (k1 : k < 128) : (Int.bmod v 256 = k) ↔ v = k := by
  unfold Int.bmod
  have : v % ((256 : Nat) : Int) = v := Int.emod_eq_of_lt h0 h1
  rw [this]
  show (if v < 128 then v else v - 256) = k ↔ v = k
  split <;> omega
