/-! LINES, AS LISTS -/
def x_fit (L : List (List Int)) : Prop := L.length ≤ 300 ∧ ∀ l ∈ L, l.length ≤ 240
def x_okl (l : List Int) : Prop := ∀ x ∈ l, 0 ≤ x ∧ x < 256
def x_ok (L : List (List Int)) : Prop := ∀ l ∈ L, x_okl l
theorem x_fit_at {L : List (List Int)} (h : x_fit L) (k : Nat) : (L.getD k []).length ≤ 240 := by
  rw [List.getD_eq_getElem?_getD]
  cases hk : L[k]? with
  | none => exact Nat.zero_le _
  | some l => exact h.2 l (List.mem_of_getElem? hk)
theorem x_getD_app {L : List (List Int)} {c : List Int} {k : Nat} (hk : k < L.length + 1) : (L ++ [c]).getD k [] = if k < L.length then L.getD k [] else c := by
  rw [List.getD_eq_getElem?_getD]
  split
  · rename_i h
    rw [List.getElem?_append_left h, List.getD_eq_getElem?_getD]
  · rename_i h
    have : k = L.length := by omega
    subst this
    rw [List.getElem?_append_right (Nat.le_refl _), Nat.sub_self]
    rfl
theorem x_getD_one {c : List Int} {b : Int} {i : Nat} (hi : i < c.length + 1) : (c ++ [b]).getD i 0 = if i < c.length then c.getD i 0 else b := by
  rw [List.getD_eq_getElem?_getD]
  split
  · rename_i h
    rw [List.getElem?_append_left h, List.getD_eq_getElem?_getD]
  · rename_i h
    have : i = c.length := by omega
    subst this
    rw [List.getElem?_append_right (Nat.le_refl _), Nat.sub_self]
    rfl
theorem x_fit_app {L : List (List Int)} {c : List Int} : x_fit (L ++ [c]) ↔ L.length < 300 ∧ (∀ l ∈ L, l.length ≤ 240) ∧ c.length ≤ 240 := by
  unfold x_fit
  rw [List.length_append]
  constructor
  · rintro ⟨h1, h2⟩
    exact ⟨by simp at h1; omega, fun l hl => h2 l (List.mem_append_left _ hl), h2 c (by simp)⟩
  · rintro ⟨h1, h2, h3⟩
    refine ⟨by simp; omega, fun l hl => ?_⟩
    rcases List.mem_append.mp hl with q | q
    · exact h2 l q
    · rw [List.mem_singleton.mp q]; exact h3
