/-! WORDS OF A COMMAND -/
/-- a row of bytes and quotes: its bytes and whether each stood outside quotes, how far it reaches, whether a quote is open at its end -/
def x_rw : List Int → Bool → List (Int × Bool) × Nat × Bool
  | [], q => ([], 0, q)
  | v :: r, q => if v = 39 then ((x_rw r (!q)).1, (x_rw r (!q)).2.1 + 1, (x_rw r (!q)).2.2) else if q = false ∧ (v = 32 ∨ v = 124 ∨ v = 62) then ([], 0, q) else ((v, !q) :: (x_rw r q).1, (x_rw r q).2.1 + 1, (x_rw r q).2.2)
theorem x_rw_le : ∀ (r : List Int) (q : Bool), (x_rw r q).1.length ≤ (x_rw r q).2.1 ∧ (x_rw r q).2.1 ≤ r.length
  | [], q => ⟨Nat.le_refl _, Nat.le_refl _⟩
  | v :: r, q => by
    have h1 := x_rw_le r (!q)
    have h2 := x_rw_le r q
    unfold x_rw
    split
    · show _ ≤ _ ∧ _ ≤ r.length + 1
      dsimp only
      omega
    · split
      · exact ⟨Nat.le_refl _, Nat.zero_le _⟩
      · show (_ :: _).length ≤ _ ∧ _ ≤ r.length + 1
        rw [List.length_cons]
        dsimp only
        omega
/-- a token: its kind (0 a word, 1 a bar, 2 an arrow), its place, its bytes -/
abbrev x_T : Type := Nat × Nat × List (Int × Bool)
def x_tk : Nat → List Int → Nat → List x_T
  | 0, _, _ => []
  | _ + 1, [], _ => []
  | n + 1, v :: r, i => if v = 32 then x_tk n r (i + 1) else if v = 124 then (1, i, []) :: x_tk n r (i + 1) else if v = 62 then (2, i, []) :: x_tk n r (i + 1) else (0, i, (x_rw (v :: r) false).1) :: x_tk n ((v :: r).drop (x_rw (v :: r) false).2.1) (i + (x_rw (v :: r) false).2.1)
theorem x_rw_pos {v : Int} {r : List Int} (h1 : v ≠ 32) (h2 : v ≠ 124) (h3 : v ≠ 62) : 1 ≤ (x_rw (v :: r) false).2.1 := by
  unfold x_rw
  split
  · exact Nat.le_add_left _ _
  · rw [if_neg (by omega)]
    exact Nat.le_add_left _ _
/-- where an open quote stands -/
def x_lq : List Int → Nat → Int → Int
  | [], _, q => q
  | v :: r, i, q => x_lq r (i + 1) (if v = 39 then (if q = -1 then (i : Int) else -1) else q)
theorem x_tk_fuel : ∀ (m m' : Nat) (r : List Int) (i : Nat), r.length < m → r.length < m' → x_tk m r i = x_tk m' r i
  | 0, _, _, _, h, _ => absurd h (by omega)
  | _ + 1, 0, _, _, _, h => absurd h (by omega)
  | m + 1, m' + 1, [], i, _, _ => rfl
  | m + 1, m' + 1, v :: r, i, h, h' => by
    have h1 : r.length < m := by simp at h; omega
    have h2 : r.length < m' := by simp at h'; omega
    unfold x_tk
    rw [x_tk_fuel m m' r (i + 1) h1 h2]
    by_cases q1 : v = 32
    · rw [if_pos q1, if_pos q1]
    · rw [if_neg q1, if_neg q1]
      by_cases q2 : v = 124
      · rw [if_pos q2, if_pos q2]
      · rw [if_neg q2, if_neg q2]
        by_cases q3 : v = 62
        · rw [if_pos q3, if_pos q3]
        · rw [if_neg q3, if_neg q3]
          have hp := x_rw_pos (r := r) q1 q2 q3
          have hl : ((v :: r).drop (x_rw (v :: r) false).2.1).length ≤ r.length := by
            rw [List.length_drop, List.length_cons]
            omega
          rw [x_tk_fuel m m' _ _ (by omega) (by omega)]
/-- the tokens from a place on -/
def x_W (t : List Int) (n : Nat) : List x_T := x_tk ((t.drop n).length + 1) (t.drop n) n
theorem x_W_end {t : List Int} {n : Nat} (h : t.length ≤ n) : x_W t n = [] := by
  unfold x_W
  rw [List.drop_eq_nil_of_le h]
  rfl
theorem x_W_cons {t : List Int} {n : Nat} (h : n < t.length) : x_W t n = if t.getD n 0 = 32 then x_W t (n + 1) else if t.getD n 0 = 124 then (1, n, []) :: x_W t (n + 1) else if t.getD n 0 = 62 then (2, n, []) :: x_W t (n + 1) else (0, n, (x_rw (t.drop n) false).1) :: x_W t (n + (x_rw (t.drop n) false).2.1) := by
  have e : t.drop n = t.getD n 0 :: t.drop (n + 1) := x_drop h
  have l1 : (t.drop n).length = (t.drop (n + 1)).length + 1 := by rw [e, List.length_cons]
  have e0 : x_W t n = x_tk ((t.drop (n + 1)).length + 1 + 1) (t.getD n 0 :: t.drop (n + 1)) n := by
    unfold x_W
    rw [l1, ← e]
  rw [e0, x_tk]
  by_cases q1 : t.getD n 0 = 32
  · rw [if_pos q1, if_pos q1]; rfl
  · rw [if_neg q1, if_neg q1]
    by_cases q2 : t.getD n 0 = 124
    · rw [if_pos q2, if_pos q2]; rfl
    · rw [if_neg q2, if_neg q2]
      by_cases q3 : t.getD n 0 = 62
      · rw [if_pos q3, if_pos q3]; rfl
      · rw [if_neg q3, if_neg q3, ← e]
        have hp := x_rw_pos (r := t.drop (n + 1)) q1 q2 q3
        rw [← e] at hp
        unfold x_W
        rw [List.drop_drop]
        refine congrArg (fun z => _ :: z) (x_tk_fuel _ _ _ _ ?_ ?_)
        · rw [List.length_drop, List.length_drop]; omega
        · exact Nat.lt_succ_self _
def x_0 : x_T := (0, 0, [])
/-- where a token's bytes begin -/
def x_fo (W : List x_T) : Nat → Nat
  | 0 => 0
  | k + 1 => x_fo W k + (W.getD k x_0).2.2.length
theorem x_0l {W V : List x_T} {k : Nat} (h : k < W.length) : (W ++ V).getD k x_0 = W.getD k x_0 := by
  rw [List.getD_eq_getElem?_getD, List.getElem?_append_left h, List.getD_eq_getElem?_getD]
theorem x_0m {W : List x_T} {z : x_T} : (W ++ [z]).getD W.length x_0 = z := by
  rw [List.getD_eq_getElem?_getD, List.getElem?_append_right (Nat.le_refl _), Nat.sub_self]
  rfl
theorem x_fo_app {W V : List x_T} : ∀ {k : Nat}, k ≤ W.length → x_fo (W ++ V) k = x_fo W k
  | 0, _ => rfl
  | k + 1, h => by
    show x_fo (W ++ V) k + ((W ++ V).getD k x_0).2.2.length = x_fo W k + (W.getD k x_0).2.2.length
    rw [x_fo_app (by omega), x_0l (by omega)]
theorem x_fo_last {W : List x_T} {z : x_T} : x_fo (W ++ [z]) (W.length + 1) = x_fo W W.length + z.2.2.length := by
  show x_fo (W ++ [z]) W.length + ((W ++ [z]).getD W.length x_0).2.2.length = _
  rw [x_fo_app (Nat.le_refl _), x_0m]
/-- the tokens that are still to come: within a row that begins at a place with some bytes, or outside -/
def x_rs (t : List Int) (i : Nat) (o : Option (Nat × List (Int × Bool))) (q : Bool) : List x_T := match o with
  | none => x_W t i
  | some (p, l) => (0, p, l ++ (x_rw (t.drop i) q).1) :: x_W t (i + (x_rw (t.drop i) q).2.1)
def x_bb (W : List x_T) : List (Int × Bool) := W.flatMap (fun z => z.2.2)
theorem x_bb_app {W V : List x_T} : x_bb (W ++ V) = x_bb W ++ x_bb V := List.flatMap_append
theorem x_bb_one {z : x_T} : x_bb [z] = z.2.2 := by simp [x_bb]
def x_ol (o : Option (Nat × List (Int × Bool))) : List (Int × Bool) := match o with
  | none => []
  | some (_, l) => l
theorem x_rs_q39 {t : List Int} {i p : Nat} {l : List (Int × Bool)} {q : Bool} (h : i < t.length) (hv : t.getD i 0 = 39) : x_rs t i (some (p, l)) q = x_rs t (i + 1) (some (p, l)) (!q) := by
  unfold x_rs
  dsimp only
  rw [x_drop h, x_rw.eq_2, if_pos hv]
  dsimp only
  rw [show i + ((x_rw (t.drop (i + 1)) (!q)).2.1 + 1) = i + 1 + (x_rw (t.drop (i + 1)) (!q)).2.1 by omega]
theorem x_rs_byte {t : List Int} {i p : Nat} {l : List (Int × Bool)} {q : Bool} (h : i < t.length) (hv : t.getD i 0 ≠ 39) (hq : ¬ (q = false ∧ (t.getD i 0 = 32 ∨ t.getD i 0 = 124 ∨ t.getD i 0 = 62))) : x_rs t i (some (p, l)) q = x_rs t (i + 1) (some (p, l ++ [(t.getD i 0, !q)])) q := by
  unfold x_rs
  dsimp only
  rw [x_drop h, x_rw.eq_2, if_neg hv, if_neg hq]
  dsimp only
  rw [show i + ((x_rw (t.drop (i + 1)) q).2.1 + 1) = i + 1 + (x_rw (t.drop (i + 1)) q).2.1 by omega, List.append_assoc]
  rfl
theorem x_rs_stop {t : List Int} {i p : Nat} {l : List (Int × Bool)} (h : i < t.length) (hq : t.getD i 0 = 32 ∨ t.getD i 0 = 124 ∨ t.getD i 0 = 62) : x_rs t i (some (p, l)) false = (0, p, l) :: x_rs t i none false := by
  unfold x_rs
  dsimp only
  rw [x_drop h, x_rw.eq_2, if_neg (by omega), if_pos ⟨rfl, hq⟩]
  dsimp only
  rw [List.append_nil, Nat.add_zero]
theorem x_rs_open {t : List Int} {i : Nat} (h : i < t.length) (h1 : t.getD i 0 ≠ 32) (h2 : t.getD i 0 ≠ 124) (h3 : t.getD i 0 ≠ 62) : x_rs t i none false = x_rs t i (some (i, [])) false := by
  unfold x_rs
  dsimp only
  rw [x_W_cons h, if_neg h1, if_neg h2, if_neg h3]
  rfl
def x_cl (o : Option (Nat × List (Int × Bool))) : List x_T := match o with
  | none => []
  | some (p, l) => [(0, p, l)]
