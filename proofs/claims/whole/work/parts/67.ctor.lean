/-! THE CONSTRUCTORS, ONE BY ONE -/
section KC
variable {G : Nat → Option va_E} {base : Nat} {ds tl : List va_E} {sl : Nat} {ad : Nat → Nat} {d : Nat}
theorem k_pfA {c f ty : Nat} {fs : List Value} {v : Value} (hc : c < 100) (hf : f < fs.length) (hv : am_fit ty v = true) : am_pf (k_mk G base (ds ++ .inr (c, fs) :: tl) sl) (base + ds.length) c f ty v = some (k_mk G base (ds ++ .inr (c, fs.set f v) :: tl) sl) := by
  have h1 : (ds ++ .inr (c, fs) :: tl)[ds.length]? = some (.inr (c, fs)) := by
    rw [List.getElem?_append_right (Nat.le_refl _), Nat.sub_self]
    rfl
  have e := (k_at (G := G) (base := base) (cs := ds ++ .inr (c, fs) :: tl) (sl := sl) (k := ds.length)).trans h1
  simp only [am_pf, e]
  rw [if_pos ⟨trivial, hc, hf, hv⟩, k_upd (by simp)]
  congr 2
  rw [List.set_append_right _ _ (Nat.le_refl _), Nat.sub_self]
  rfl
def k_ba (n : Nat) : va_E := .inl (0, n, .inl (fun _ => 0))
def k_ia (n : Nat) : va_E := .inl (1, n, .inl (fun _ => 0))
def k_za (n : Nat) : va_E := .inl (2, n, .inl (fun _ => 0))
theorem k_nab {n : Nat} (hn : n < 60000000) : am_na (k_mk G base ds sl) 0 (nI n) = some (k_mk G base (ds ++ [k_ba n]) (sl + n)) := k_na (by decide) hn
theorem k_nai {n : Nat} (hn : n < 60000000) : am_na (k_mk G base ds sl) 1 (nI n) = some (k_mk G base (ds ++ [k_ia n]) (sl + n)) := k_na (by decide) hn
theorem k_naz {n : Nat} (hn : n < 60000000) : am_na (k_mk G base ds sl) 2 (nI n) = some (k_mk G base (ds ++ [k_za n]) (sl + n)) := k_na (by decide) hn
def k_ro (a : Nat) : va_E := .inl (5, 2, .inr (.inr (.inr (.inr (fun i => if i < 2 then some (a + 1 + i) else none)))))
theorem k_mn2 : am_mna (k_mk G base ds sl) 2 300 = k_mk G base (ds ++ [k_ro (base + ds.length), k_ia 300, k_ia 300]) (sl + 602) := k_mna
theorem k_fit2 {a : Nat} : am_fit 2 (.ref a) = true := (rfl)
theorem k_fit3 {a : Nat} : am_fit 3 (.ref a) = true := (rfl)
theorem K3 : am_gg (am_pr ad) (d + 1) 3 0 [some (.ref (k_mk G base ds sl).1)] [] (am_push (k_mk G base ds sl) 10 (.inr (2, [.null, .int 0, .int 0, .null, .int 0, .int 0, .int 0, .int 0, .int 0, .int 0]))) = some (.inl none, k_mk G base (ds ++ [.inr (2, [.ref (base + (ds.length + 1)), .int 0, .int 0, .ref (base + (ds.length + 2)), .int 0, .int 0, .int 0, .int 0, .int 0, .int 0]), k_ba 0, k_ba 0]) (sl + 10)) := by
  rw [k_push, k_1, B3_0]
  simp (disch := first | decide | (simp only [List.length_cons, List.length_nil, Nat.reduceAdd, Nat.reduceLT, k_fit2, k_fit3] ; done) | fail) only [k_nab, k_nai, k_naz, k_na3, k_na4, k_mn2, k_push, k_1, k_pfA, List.append_assoc, List.cons_append, List.nil_append, List.length_append, List.length_cons, List.length_nil, Nat.add_assoc, Nat.reduceAdd, Nat.add_zero, Nat.zero_add, Option.bind_some, am_ret0, List.set_cons_zero, List.set_cons_succ]
theorem K4 : am_gg (am_pr ad) (d + 1) 4 0 [some (.ref (k_mk G base ds sl).1)] [] (am_push (k_mk G base ds sl) 12 (.inr (3, [.null, .null, .null, .null, .int 0, .null, .int 0, .int 0, .int 0, .int 0, .int 0, .null]))) = some (.inl none, k_mk G base (ds ++ [.inr (3, [.ref (base + (ds.length + 1)), .ref (base + (ds.length + 2)), .ref (base + (ds.length + 3)), .ref (base + (ds.length + 4)), .int 0, .ref (base + (ds.length + 5)), .int 0, .int 0, .int 0, .int 0, .int 0, .ref (base + (ds.length + 6))]), k_za 128, k_ia 128, k_za 242, k_ia 300, k_ia 242, k_za 3]) (sl + 1055)) := by
  rw [k_push, k_1, B4_0]
  simp (disch := first | decide | (simp only [List.length_cons, List.length_nil, Nat.reduceAdd, Nat.reduceLT, k_fit2, k_fit3] ; done) | fail) only [k_nab, k_nai, k_naz, k_na3, k_na4, k_mn2, k_push, k_1, k_pfA, List.append_assoc, List.cons_append, List.nil_append, List.length_append, List.length_cons, List.length_nil, Nat.add_assoc, Nat.reduceAdd, Nat.add_zero, Nat.zero_add, Option.bind_some, am_ret0, List.set_cons_zero, List.set_cons_succ]
theorem K5 : am_gg (am_pr ad) (d + 1) 5 0 [some (.ref (k_mk G base ds sl).1)] [] (am_push (k_mk G base ds sl) 6 (.inr (5, [.null, .int 0, .int 0, .int 0, .int 0, .int 0]))) = some (.inl none, k_mk G base (ds ++ [.inr (5, [.ref (base + (ds.length + 1)), .int 0, .int 0, .int 0, .int 0, .int 0]), k_ba 0]) (sl + 6)) := by
  rw [k_push, k_1, B5_0]
  simp (disch := first | decide | (simp only [List.length_cons, List.length_nil, Nat.reduceAdd, Nat.reduceLT, k_fit2, k_fit3] ; done) | fail) only [k_nab, k_nai, k_naz, k_na3, k_na4, k_mn2, k_push, k_1, k_pfA, List.append_assoc, List.cons_append, List.nil_append, List.length_append, List.length_cons, List.length_nil, Nat.add_assoc, Nat.reduceAdd, Nat.add_zero, Nat.zero_add, Option.bind_some, am_ret0, List.set_cons_zero, List.set_cons_succ]
theorem K6 : am_gg (am_pr ad) (d + 1) 6 0 [some (.ref (k_mk G base ds sl).1)] [] (am_push (k_mk G base ds sl) 6 (.inr (1, [.null, .null, .int 0, .int 0, .int 0, .int 0]))) = some (.inl none, k_mk G base (ds ++ [.inr (1, [.ref (base + (ds.length + 1)), .ref (base + (ds.length + 2)), .int 0, .int 0, .int 0, .int 0]), k_ba 0, k_ia 0]) (sl + 6)) := by
  rw [k_push, k_1, B6_0]
  simp (disch := first | decide | (simp only [List.length_cons, List.length_nil, Nat.reduceAdd, Nat.reduceLT, k_fit2, k_fit3] ; done) | fail) only [k_nab, k_nai, k_naz, k_na3, k_na4, k_mn2, k_push, k_1, k_pfA, List.append_assoc, List.cons_append, List.nil_append, List.length_append, List.length_cons, List.length_nil, Nat.add_assoc, Nat.reduceAdd, Nat.add_zero, Nat.zero_add, Option.bind_some, am_ret0, List.set_cons_zero, List.set_cons_succ]
theorem K7 : am_gg (am_pr ad) (d + 1) 7 0 [some (.ref (k_mk G base ds sl).1)] [] (am_push (k_mk G base ds sl) 9 (.inr (6, [.null, .null, .null, .null, .null, .null, .null, .null, .int 0]))) = some (.inl none, k_mk G base (ds ++ [.inr (6, [.ref (base + (ds.length + 1)), .ref (base + (ds.length + 2)), .ref (base + (ds.length + 3)), .ref (base + (ds.length + 4)), .ref (base + (ds.length + 5)), .ref (base + (ds.length + 6)), .ref (base + (ds.length + 7)), .ref (base + (ds.length + 8)), .int 0]), k_ia 0, k_ia 0, k_ia 0, k_ia 0, k_ia 0, k_ia 0, k_ia 0, k_ia 0]) (sl + 9)) := by
  rw [k_push, k_1, B7_0]
  simp (disch := first | decide | (simp only [List.length_cons, List.length_nil, Nat.reduceAdd, Nat.reduceLT, k_fit2, k_fit3] ; done) | fail) only [k_nab, k_nai, k_naz, k_na3, k_na4, k_mn2, k_push, k_1, k_pfA, List.append_assoc, List.cons_append, List.nil_append, List.length_append, List.length_cons, List.length_nil, Nat.add_assoc, Nat.reduceAdd, Nat.add_zero, Nat.zero_add, Option.bind_some, am_ret0, List.set_cons_zero, List.set_cons_succ]
theorem K8 : am_gg (am_pr ad) (d + 1) 8 0 [some (.ref (k_mk G base ds sl).1)] [] (am_push (k_mk G base ds sl) 2 (.inr (7, [.null, .null]))) = some (.inl none, k_mk G base (ds ++ [.inr (7, [.ref (base + (ds.length + 1)), .ref (base + (ds.length + 4))]), k_ro (base + (ds.length + 1)), k_ia 300, k_ia 300, k_ro (base + (ds.length + 4)), k_ia 300, k_ia 300]) (sl + 1206)) := by
  rw [k_push, k_1, B8_0, if_pos (by decide)]
  simp (disch := first | decide | (simp only [List.length_cons, List.length_nil, Nat.reduceAdd, Nat.reduceLT, k_fit2, k_fit3] ; done) | fail) only [k_nab, k_nai, k_naz, k_na3, k_na4, k_mn2, k_push, k_1, k_pfA, List.append_assoc, List.cons_append, List.nil_append, List.length_append, List.length_cons, List.length_nil, Nat.add_assoc, Nat.reduceAdd, Nat.add_zero, Nat.zero_add, Option.bind_some, am_ret0, List.set_cons_zero, List.set_cons_succ, if_pos (show (nI 2) = nI 2 ∧ (nI 300) = nI 300 ∧ 2 < 1000 ∧ 300 < 1000 from ⟨rfl, rfl, by decide, by decide⟩), true_and, Nat.reduceLT, and_self, if_true]
theorem K9 : am_gg (am_pr ad) (d + 1) 9 0 [some (.ref (k_mk G base ds sl).1)] [] (am_push (k_mk G base ds sl) 3 (.inr (8, [.null, .null, .null]))) = some (.inl none, k_mk G base (ds ++ [.inr (8, [.ref (base + (ds.length + 1)), .ref (base + (ds.length + 2)), .ref (base + (ds.length + 3))]), k_ia 256, k_ia 256, k_za 256]) (sl + 771)) := by
  rw [k_push, k_1, B9_0]
  simp (disch := first | decide | (simp only [List.length_cons, List.length_nil, Nat.reduceAdd, Nat.reduceLT, k_fit2, k_fit3] ; done) | fail) only [k_nab, k_nai, k_naz, k_na3, k_na4, k_mn2, k_push, k_1, k_pfA, List.append_assoc, List.cons_append, List.nil_append, List.length_append, List.length_cons, List.length_nil, Nat.add_assoc, Nat.reduceAdd, Nat.add_zero, Nat.zero_add, Option.bind_some, am_ret0, List.set_cons_zero, List.set_cons_succ]
def k_ra (n : Nat) (f : Nat → Option Nat) : va_E := .inl (4, n, .inr (.inr (.inr (.inr f))))
theorem k_nar {n : Nat} (hn : n < 60000000) : am_na (k_mk G base ds sl) 4 (nI n) = some (k_mk G base (ds ++ [k_ra n (fun _ => none)]) (sl + n)) := k_na4 hn
section KL
variable {cs : List va_E}
theorem k_gr {k c f x : Nat} {fs : List Value} (h : cs[k]? = some (.inr (c, fs))) (hf : fs[f]? = some (.ref x)) : am_gr (k_mk G base cs sl) (base + k) c f = some x := by
  have e := (k_at (G := G) (base := base) (cs := cs) (sl := sl) (k := k)).trans h
  simp only [am_gr, am_gv, e, if_true, hf]
theorem k_ln {k t n : Nat} {r} (h : cs[k]? = some (.inl (t, n, r))) : am_len (k_mk G base cs sl) (base + k) = some (h_ii n) := c_len ((k_at (G := G) (base := base) (cs := cs) (sl := sl) (k := k)).trans h)
theorem k_lnr {k n : Nat} {f : Nat → Option Nat} (h : cs[k]? = some (k_ra n f)) : am_len (k_mk G base cs sl) (base + k) = some (h_ii n) := k_ln h
theorem k_as {k k2 n : Nat} {f : Nat → Option Nat} {fs : List Value} {i : Int} (h : cs[k]? = some (k_ra n f)) (h2 : cs[k2]? = some (.inr (1, fs))) (h0 : 0 ≤ i) (h1 : i < n) (h3 : n < 60000000) : am_as (k_mk G base cs sl) (base + k) (h_ii i) (base + k2) = some (k_mk G base (cs.set k (k_ra n (va_up f i.toNat (some (base + k2))))) sl) := by
  have e := (k_at (G := G) (base := base) (cs := cs) (sl := sl) (k := k)).trans h
  have e2 := (k_at (G := G) (base := base) (cs := cs) (sl := sl) (k := k2)).trans h2
  unfold k_ra at e
  simp only [am_as, e, e2]
  rw [if_pos ⟨trivial, trivial⟩, h_ix h0 h1 (by omega), Option.map_some, k_upd (List.getElem?_eq_some_iff.mp h).1]
  rfl
/-- taken[k] = given, for all k -/
theorem k_taken {k k1 k2 : Nat} {ws fs : List Value} (h : cs[k]? = some (.inr (4, ws))) (h12 : ws[12]? = some (.ref (base + k1))) (h13 : ws[13]? = some (.ref (base + k2))) (hk2 : cs[k2]? = some (.inr (1, fs))) (hkk : k1 ≠ k) (hkk2 : k1 ≠ k2) : ∀ (n i : Nat) (f : Nat → Option Nat), 20 - i = n → i ≤ 20 → k1 < cs.length →
    am_gg (am_pr ad) d 2 107 [some (.ref (base + k)), some (.int (h_ii i))] [] (k_mk G base (cs.set k1 (k_ra 20 f)) sl) = some (.inl none, k_mk G base (cs.set k1 (k_ra 20 (fun j => if i ≤ j ∧ j < 20 then some (base + k2) else f j))) sl)
  | 0, i, f, hn, hi, hl => by
    have hi2 : i = 20 := by omega
    subst hi2
    have e1 : (cs.set k1 (k_ra 20 f))[k]? = some (.inr (4, ws)) := by rw [List.getElem?_set_ne hkk]; exact h
    have e2 : (cs.set k1 (k_ra 20 f))[k1]? = some (k_ra 20 f) := by rw [List.getElem?_set_self hl]
    rw [B2_107, k_gr e1 h12]
    simp only [Option.bind_some, k_ln e2]
    rw [if_pos (of_eq_true (h_cgeT (by omega) (by omega) (by omega) (by omega) (by omega)))]
    congr 4
    refine congrArg (k_ra 20) (funext fun j => ?_)
    rw [if_neg (by omega)]
  | n + 1, i, f, hn, hi, hl => by
    have e1 : (cs.set k1 (k_ra 20 f))[k]? = some (.inr (4, ws)) := by rw [List.getElem?_set_ne hkk]; exact h
    have e2 : (cs.set k1 (k_ra 20 f))[k1]? = some (k_ra 20 f) := by rw [List.getElem?_set_self hl]
    have e3 : (cs.set k1 (k_ra 20 f))[k2]? = some (.inr (1, fs)) := by rw [List.getElem?_set_ne hkk2]; exact hk2
    rw [B2_107, k_gr e1 h12]
    simp only [Option.bind_some, k_ln e2]
    rw [if_neg (of_eq_false (h_cgeF (by omega) (by omega) (by omega) (by omega) (by omega))), k_gr e1 h13]
    simp only [Option.bind_some]
    rw [k_as e2 e3 (by omega) (by omega) (by omega), List.set_set]
    simp only [Option.bind_some, h_nI, h_add]
    have ih := k_taken h h12 h13 hk2 hkk hkk2 n (i + 1) (va_up f (i : Int).toNat (some (base + k2))) (by omega) (by omega) hl
    rw [show ((i : Int) + ((1 : Nat) : Int)) = ((i + 1 : Nat) : Int) by omega, ih]
    congr 4
    refine congrArg (k_ra 20) (funext fun j => ?_)
    unfold va_up
    by_cases q1 : i ≤ j ∧ j < 20
    · rw [if_pos q1]
      by_cases q2 : j = i
      · rw [if_neg (by omega), if_pos (by omega)]
      · rw [if_pos (by omega)]
    · rw [if_neg q1, if_neg (by omega), if_neg (by omega)]
theorem k_set_self {α : Type} {l : List α} {k : Nat} {e : α} (h : l[k]? = some e) : l.set k e = l := by
  obtain ⟨h1, h2⟩ := List.getElem?_eq_some_iff.mp h
  rw [← h2, List.set_getElem_self]
theorem k_taken0 {k k1 k2 : Nat} {ws fs : List Value} (h : cs[k]? = some (.inr (4, ws))) (h12 : ws[12]? = some (.ref (base + k1))) (h13 : ws[13]? = some (.ref (base + k2))) (hk2 : cs[k2]? = some (.inr (1, fs))) (hkk : k1 ≠ k) (hkk2 : k1 ≠ k2) (h0 : cs[k1]? = some (k_ra 20 (fun _ => none))) :
    am_gg (am_pr ad) d 2 107 [some (.ref (base + k)), some (.int (nI 0))] [] (k_mk G base cs sl) = some (.inl none, k_mk G base (cs.set k1 (k_ra 20 (fun j => if j < 20 then some (base + k2) else none))) sl) := by
  have := k_taken (G := G) (base := base) (sl := sl) (ad := ad) (d := d) h h12 h13 hk2 hkk hkk2 20 0 (fun _ => none) rfl (by decide) (List.getElem?_eq_some_iff.mp h0).1
  rw [k_set_self h0] at this
  simp only [Nat.zero_le, true_and] at this
  exact this
theorem k_apr {α : Type} {l t : List α} {j : Nat} : (l ++ t)[l.length + j]? = t[j]? := by
  rw [List.getElem?_append_right (Nat.le_add_right _ _), Nat.add_sub_cancel_left]
theorem k_apr0 {α : Type} {l t : List α} : (l ++ t)[l.length]? = t[0]? := by
  rw [List.getElem?_append_right (Nat.le_refl _), Nat.sub_self]
theorem k_aps {α : Type} {l t : List α} {j : Nat} {e : α} : (l ++ t).set (l.length + j) e = l ++ t.set j e := by
  rw [List.set_append_right _ _ (Nat.le_add_right _ _), Nat.add_sub_cancel_left]
end KL
theorem K2 : am_gg (am_pr ad) (d + 2) 2 0 [some (.ref (k_mk G base ds sl).1), none] [] (am_push (k_mk G base ds sl) 19 (.inr (4, [.null, .null, .null, .null, .int 0, .int 0, .null, .null, .int 0, .null, .null, .int 0, .null, .null, .null, .int 0, .int 0, .int 0, .int 0]))) = some (.inl none, k_mk G base (ds ++ [.inr (4, [.ref (base + (ds.length + 1)), .ref (base + (ds.length + 4)), .ref (base + (ds.length + 11)), .ref (ad 0), .int 0, .int 0, .ref (base + (ds.length + 13)), .ref (base + (ds.length + 14)), .int 0, .ref (base + (ds.length + 15)), .ref (base + (ds.length + 16)), .int 0, .ref (base + (ds.length + 17)), .ref (base + (ds.length + 18)), .ref (base + (ds.length + 21)), .int 0, .int 0, .int 0, .int 0]),
    .inr (2, [.ref (base + (ds.length + 2)), .int 0, .int 0, .ref (base + (ds.length + 3)), .int 0, .int 0, .int 0, .int 0, .int 0, .int 0]), k_ba 0, k_ba 0,
    .inr (3, [.ref (base + (ds.length + 5)), .ref (base + (ds.length + 6)), .ref (base + (ds.length + 7)), .ref (base + (ds.length + 8)), .int 0, .ref (base + (ds.length + 9)), .int 0, .int 0, .int 0, .int 0, .int 0, .ref (base + (ds.length + 10))]), k_za 128, k_ia 128, k_za 242, k_ia 300, k_ia 242, k_za 3,
    .inr (5, [.ref (base + (ds.length + 12)), .int 0, .int 0, .int 0, .int 0, .int 0]), k_ba 0,
    k_ia 20, k_ia 20, k_ia 2, k_ia 2, k_ra 20 (fun j => if j < 20 then some (base + (ds.length + 18)) else none),
    .inr (1, [.ref (base + (ds.length + 19)), .ref (base + (ds.length + 20)), .int 0, .int 0, .int 0, .int 0]), k_ba 0, k_ia 0,
    .inr (1, [.ref (base + (ds.length + 22)), .ref (base + (ds.length + 23)), .int 0, .int 0, .int 0, .int 0]), k_ba 0, k_ia 0]) (sl + 1166)) := by
  rw [k_push, k_1, B2_0, K3]
  simp only [am_ret0]
  simp (disch := first | decide | (simp only [List.length_cons, List.length_nil, Nat.reduceAdd, Nat.reduceLT, k_fit2, k_fit3] ; done) | fail) only [k_nab, k_nai, k_naz, k_na3, k_na4, k_mn2, k_pfA, List.append_assoc, List.cons_append, List.nil_append, List.length_append, List.length_cons, List.length_nil, Nat.add_assoc, Nat.reduceAdd, Nat.add_zero, Nat.zero_add, Option.bind_some, am_ret0, List.set_cons_zero, List.set_cons_succ]
  rw [K4]
  simp only [am_ret0]
  simp (disch := first | decide | (simp only [List.length_cons, List.length_nil, Nat.reduceAdd, Nat.reduceLT, k_fit2, k_fit3] ; done) | fail) only [k_nab, k_nai, k_naz, k_na3, k_na4, k_mn2, k_pfA, List.append_assoc, List.cons_append, List.nil_append, List.length_append, List.length_cons, List.length_nil, Nat.add_assoc, Nat.reduceAdd, Nat.add_zero, Nat.zero_add, Option.bind_some, am_ret0, List.set_cons_zero, List.set_cons_succ]
  rw [K5]
  simp only [am_ret0]
  simp (disch := first | decide | (simp only [List.length_cons, List.length_nil, Nat.reduceAdd, Nat.reduceLT, k_fit2, k_fit3] ; done) | fail) only [k_nab, k_nai, k_naz, k_na3, k_na4, k_mn2, k_pfA, List.append_assoc, List.cons_append, List.nil_append, List.length_append, List.length_cons, List.length_nil, Nat.add_assoc, Nat.reduceAdd, Nat.add_zero, Nat.zero_add, Option.bind_some, am_ret0, List.set_cons_zero, List.set_cons_succ, k_nar]
  rw [K6]
  simp only [am_ret0]
  simp (disch := first | decide | (simp only [List.length_cons, List.length_nil, Nat.reduceAdd, Nat.reduceLT, k_fit2, k_fit3] ; done) | fail) only [k_nab, k_nai, k_naz, k_na3, k_na4, k_mn2, k_pfA, List.append_assoc, List.cons_append, List.nil_append, List.length_append, List.length_cons, List.length_nil, Nat.add_assoc, Nat.reduceAdd, Nat.add_zero, Nat.zero_add, Option.bind_some, am_ret0, List.set_cons_zero, List.set_cons_succ]
  rw [K6]
  simp only [am_ret0]
  simp (disch := first | decide | (simp only [List.length_cons, List.length_nil, Nat.reduceAdd, Nat.reduceLT, k_fit2, k_fit3] ; done) | fail) only [k_nab, k_nai, k_naz, k_na3, k_na4, k_mn2, k_push, k_1, k_pfA, List.append_assoc, List.cons_append, List.nil_append, List.length_append, List.length_cons, List.length_nil, Nat.add_assoc, Nat.reduceAdd, Nat.add_zero, Nat.zero_add, Option.bind_some, am_ret0, List.set_cons_zero, List.set_cons_succ]
  refine (k_taken0 (k := ds.length) (k1 := ds.length + 17) (k2 := ds.length + 18) (k_apr0.trans rfl) rfl rfl (k_apr.trans rfl) (by omega) (by omega) (k_apr.trans rfl)).trans ?_
  rw [k_aps]
  rfl
/-- rows of lines, as they are made -/
def k_lo (a : Nat) : va_E := .inr (1, [.ref (a + 1), .ref (a + 2), .int 0, .int 0, .int 0, .int 0])
def k_lns (a : Nat) : Nat → List va_E
  | 0 => []
  | i + 1 => k_lns a i ++ [k_lo (a + 3 * i), k_ba 0, k_ia 0]
theorem k_lns_len {a : Nat} : ∀ n, (k_lns a n).length = 3 * n
  | 0 => rfl
  | n + 1 => by
    show (k_lns a n ++ _).length = _
    rw [List.length_append, k_lns_len n]
    simp
    omega
section KF
variable {cs : List va_E}
theorem k_is {k t n : Nat} {f : Nat → Int32} {i : Int} {ts : List Nat} {x : Int32} (h : cs[k]? = some (.inl (t, n, .inl f))) (ht : t ∈ ts) (h0 : 0 ≤ i) (h1 : i < n) (h2 : n < 60000000) : am_is (k_mk G base cs sl) (base + k) (h_ii i) ts x = some (k_mk G base (cs.set k (.inl (t, n, .inl (upd f i.toNat (am_nar t x))))) sl) := by
  have e := (k_at (G := G) (base := base) (cs := cs) (sl := sl) (k := k)).trans h
  simp only [am_is, e, if_pos ht, h_ix h0 h1 (by omega), Option.map_some]
  rw [k_upd (List.getElem?_eq_some_iff.mp h).1]
/-- files[i] = new Lines(), for all i -/
theorem k_files {k k1 k3 : Nat} {ws : List Value} (h : cs[k]? = some (.inr (0, ws))) (h2 : ws[2]? = some (.ref (base + k1))) (h3 : ws[3]? = some (.ref (base + k3))) (hkk : k1 ≠ k) (hk3 : k3 ≠ k1) {f3 : Nat → Int32} (hc3 : cs[k3]? = some (.inl (2, 11, .inl f3))) (hl : k1 < cs.length) : ∀ (n i : Nat), 11 - i = n → i ≤ 11 →
    am_gg (am_pr ad) (d + 2) 1 74 [some (.ref (base + k)), some (.int (h_ii i))] [] (k_mk G base (cs.set k1 (k_ra 11 (fun j => if j < i then some (base + cs.length + 3 * j) else none)) ++ k_lns (base + cs.length) i) (sl + 6 * i)) = some (.inl none, k_mk G base ((cs.set k1 (k_ra 11 (fun j => if j < 11 then some (base + cs.length + 3 * j) else none)) ++ k_lns (base + cs.length) 11).set k3 (.inl (2, 11, .inl (upd f3 10 (am_nar 2 (nI 1)))))) (sl + 66))
  | 0, i, hn, hi => by
    have hi2 : i = 11 := by omega
    subst hi2
    have hkl : k < cs.length := (List.getElem?_eq_some_iff.mp h).1
    have hk3l : k3 < cs.length := (List.getElem?_eq_some_iff.mp hc3).1
    have e1 : ∀ e, (cs.set k1 e ++ k_lns (base + cs.length) 11)[k]? = some (.inr (0, ws)) := fun e => by rw [List.getElem?_append_left (by simpa using hkl), List.getElem?_set_ne hkk]; exact h
    have e2 : ∀ e, (cs.set k1 e ++ k_lns (base + cs.length) 11)[k1]? = some e := fun e => by rw [List.getElem?_append_left (by simpa using hl), List.getElem?_set_self hl]
    have e3 : ∀ e, (cs.set k1 e ++ k_lns (base + cs.length) 11)[k3]? = some (.inl (2, 11, .inl f3)) := fun e => by rw [List.getElem?_append_left (by simpa using hk3l), List.getElem?_set_ne (fun w => hk3 w.symm)]; exact hc3
    rw [B1_74, k_gr (e1 _) h2]
    simp only [Option.bind_some]
    rw [k_lnr (e2 _)]
    simp only [Option.bind_some]
    rw [if_pos (of_eq_true (h_cgeT (by omega) (by omega) (by omega) (by omega) (by omega))), k_gr (e1 _) h3]
    simp only [Option.bind_some]
    rw [h_nI, k_is (e3 _) (by decide) (by decide) (by decide) (by decide)]
    rfl
  | n + 1, i, hn, hi => by
    have hkl : k < cs.length := (List.getElem?_eq_some_iff.mp h).1
    have e1 : ∀ e (t : List va_E), (cs.set k1 e ++ t)[k]? = some (.inr (0, ws)) := fun e t => by rw [List.getElem?_append_left (by simpa using hkl), List.getElem?_set_ne hkk]; exact h
    have e2 : ∀ e (t : List va_E), (cs.set k1 e ++ t)[k1]? = some e := fun e t => by rw [List.getElem?_append_left (by simpa using hl), List.getElem?_set_self hl]
    rw [B1_74, k_gr (e1 _ _) h2]
    simp only [Option.bind_some]
    rw [k_lnr (e2 _ _)]
    simp only [Option.bind_some]
    rw [if_neg (of_eq_false (h_cgeF (by omega) (by omega) (by omega) (by omega) (by omega)))]
    rw [K6]
    simp only [am_ret0, k_1]
    have hlen : ∀ e, (cs.set k1 e ++ k_lns (base + cs.length) i).length = cs.length + 3 * i := fun e => by rw [List.length_append, List.length_set, k_lns_len]
    simp only [hlen, List.append_assoc]
    have hL : ∀ e, (cs.set k1 e ++ (k_lns (base + cs.length) i ++ [.inr (1, [.ref (base + (cs.length + 3 * i + 1)), .ref (base + (cs.length + 3 * i + 2)), .int 0, .int 0, .int 0, .int 0]), k_ba 0, k_ia 0]))[cs.length + 3 * i]? = some (.inr (1, [.ref (base + (cs.length + 3 * i + 1)), .ref (base + (cs.length + 3 * i + 2)), .int 0, .int 0, .int 0, .int 0])) := fun e => by
      rw [← List.append_assoc, List.getElem?_append_right (by rw [hlen]; exact Nat.le_refl _), hlen, Nat.sub_self]
      rfl
    rw [k_as (e2 _ _) (hL _) (by omega) (by omega) (by decide)]
    simp only [Option.bind_some, h_nI, h_add]
    have ih := k_files h h2 h3 hkk hk3 hc3 hl n (i + 1) (by omega) (by omega)
    rw [show ((i : Int) + ((1 : Nat) : Int)) = ((i + 1 : Nat) : Int) by omega]
    refine Eq.trans ?_ ih
    have hset : ∀ e e' (t : List va_E), (cs.set k1 e ++ t).set k1 e' = cs.set k1 e' ++ t := fun e e' t => by
      rw [List.set_append_left _ _ (by simpa using hl), List.set_set]
    rw [hset, show sl + 6 * i + 6 = sl + 6 * (i + 1) by omega]
    have hf : (va_up (fun j => if j < i then some (base + cs.length + 3 * j) else none) (i : Int).toNat (some (base + (cs.length + 3 * i)))) = (fun j => if j < i + 1 then some (base + cs.length + 3 * j) else none) := by
      funext j
      unfold va_up
      by_cases q : j = i
      · rw [if_pos (by omega), if_pos (by omega), q, Nat.add_assoc]
      · rw [if_neg (by omega)]
        dsimp only
        by_cases q2 : j < i
        · rw [if_pos q2, if_pos (by omega)]
        · rw [if_neg q2, if_neg (by omega)]
    rw [hf]
    show _ = am_gg (am_pr ad) (d + 2) 1 74 _ [] (k_mk G base (_ ++ (k_lns (base + cs.length) i ++ [k_lo (base + cs.length + 3 * i), k_ba 0, k_ia 0])) _)
    rw [show k_lo (base + cs.length + 3 * i) = .inr (1, [.ref (base + (cs.length + 3 * i + 1)), .ref (base + (cs.length + 3 * i + 2)), .int 0, .int 0, .int 0, .int 0]) by
      unfold k_lo
      simp only [Nat.add_assoc]]
theorem k_files0 {k k1 k3 : Nat} {ws : List Value} (h : cs[k]? = some (.inr (0, ws))) (h2 : ws[2]? = some (.ref (base + k1))) (h3 : ws[3]? = some (.ref (base + k3))) (hkk : k1 ≠ k) (hk3 : k3 ≠ k1) {f3 : Nat → Int32} (hc3 : cs[k3]? = some (.inl (2, 11, .inl f3))) (h0 : cs[k1]? = some (k_ra 11 (fun _ => none))) :
    am_gg (am_pr ad) (d + 2) 1 74 [some (.ref (base + k)), some (.int (nI 0))] [] (k_mk G base cs sl) = some (.inl none, k_mk G base ((cs.set k1 (k_ra 11 (fun j => if j < 11 then some (base + cs.length + 3 * j) else none)) ++ k_lns (base + cs.length) 11).set k3 (.inl (2, 11, .inl (upd f3 10 (am_nar 2 (nI 1)))))) (sl + 66)) := by
  have := k_files (G := G) (base := base) (sl := sl) (ad := ad) (d := d) h h2 h3 hkk hk3 hc3 (List.getElem?_eq_some_iff.mp h0).1 11 0 rfl (by decide)
  have e : (fun j => if j < 0 then some (base + cs.length + 3 * j) else none) = (fun _ : Nat => (none : Option Nat)) := by
    funext j
    rw [if_neg (by omega)]
  rw [e, k_set_self h0] at this
  have e2 : cs ++ k_lns (base + cs.length) 0 = cs := List.append_nil cs
  rw [e2] at this
  exact this
end KF
def k_X (base : Nat) (ad : Nat → Nat) : List va_E := [.inr (0, [.ref (base + 1), .int 0, .ref (base + 2), .ref (base + 3), .ref (base + 4), .ref (base + 28), .ref (base + 37), .ref (base + 44)]), k_ba 0, k_ra 11 (fun j => if j < 11 then some (base + 48 + 3 * j) else none), .inl (2, 11, .inl (upd (fun _ => 0) 10 (am_nar 2 (nI 1)))),
  .inr (4, [.ref (base + 5), .ref (base + 8), .ref (base + 15), .ref (ad 0), .int 0, .int 0, .ref (base + 17), .ref (base + 18), .int 0, .ref (base + 19), .ref (base + 20), .int 0, .ref (base + 21), .ref (base + 22), .ref (base + 25), .int 0, .int 0, .int 0, .int 0]),
  .inr (2, [.ref (base + 6), .int 0, .int 0, .ref (base + 7), .int 0, .int 0, .int 0, .int 0, .int 0, .int 0]), k_ba 0, k_ba 0,
  .inr (3, [.ref (base + 9), .ref (base + 10), .ref (base + 11), .ref (base + 12), .int 0, .ref (base + 13), .int 0, .int 0, .int 0, .int 0, .int 0, .ref (base + 14)]), k_za 128, k_ia 128, k_za 242, k_ia 300, k_ia 242, k_za 3,
  .inr (5, [.ref (base + 16), .int 0, .int 0, .int 0, .int 0, .int 0]), k_ba 0,
  k_ia 20, k_ia 20, k_ia 2, k_ia 2, k_ra 20 (fun j => if j < 20 then some (base + 22) else none),
  .inr (1, [.ref (base + 23), .ref (base + 24), .int 0, .int 0, .int 0, .int 0]), k_ba 0, k_ia 0,
  .inr (1, [.ref (base + 26), .ref (base + 27), .int 0, .int 0, .int 0, .int 0]), k_ba 0, k_ia 0,
  .inr (6, [.ref (base + 29), .ref (base + 30), .ref (base + 31), .ref (base + 32), .ref (base + 33), .ref (base + 34), .ref (base + 35), .ref (base + 36), .int 0]), k_ia 0, k_ia 0, k_ia 0, k_ia 0, k_ia 0, k_ia 0, k_ia 0, k_ia 0,
  .inr (7, [.ref (base + 38), .ref (base + 41)]), k_ro (base + 38), k_ia 300, k_ia 300, k_ro (base + 41), k_ia 300, k_ia 300,
  .inr (8, [.ref (base + 45), .ref (base + 46), .ref (base + 47)]), k_ia 256, k_ia 256, k_za 256] ++ k_lns (base + 48) 11
theorem K1 : am_gg (am_pr ad) (d + 3) 1 0 [some (.ref (k_mk G base [] sl).1), none] [] (am_push (k_mk G base [] sl) 8 (.inr (0, [.null, .int 0, .null, .null, .null, .null, .null, .null]))) = some (.inl none, k_mk G base (k_X base ad) (sl + 3248)) := by
  generalize hds : ([] : List va_E) = ds
  have hd0 : ds.length = 0 := by rw [← hds]; rfl
  rw [k_push, k_1, B1_0]
  simp (disch := first | decide | (simp only [List.length_cons, List.length_nil, Nat.reduceAdd, Nat.reduceLT, k_fit2, k_fit3] ; done) | fail) only [k_nab, k_nai, k_naz, k_na3, k_na4, k_mn2, k_pfA, List.append_assoc, List.cons_append, List.nil_append, List.length_append, List.length_cons, List.length_nil, Nat.add_assoc, Nat.reduceAdd, Nat.add_zero, Nat.zero_add, Option.bind_some, am_ret0, List.set_cons_zero, List.set_cons_succ, k_nar]
  rw [K2]
  simp only [am_ret0]
  simp (disch := first | decide | (simp only [List.length_cons, List.length_nil, Nat.reduceAdd, Nat.reduceLT, k_fit2, k_fit3] ; done) | fail) only [k_nab, k_nai, k_naz, k_na3, k_na4, k_mn2, k_pfA, List.append_assoc, List.cons_append, List.nil_append, List.length_append, List.length_cons, List.length_nil, Nat.add_assoc, Nat.reduceAdd, Nat.add_zero, Nat.zero_add, Option.bind_some, am_ret0, List.set_cons_zero, List.set_cons_succ]
  rw [K7]
  simp only [am_ret0]
  simp (disch := first | decide | (simp only [List.length_cons, List.length_nil, Nat.reduceAdd, Nat.reduceLT, k_fit2, k_fit3] ; done) | fail) only [k_nab, k_nai, k_naz, k_na3, k_na4, k_mn2, k_pfA, List.append_assoc, List.cons_append, List.nil_append, List.length_append, List.length_cons, List.length_nil, Nat.add_assoc, Nat.reduceAdd, Nat.add_zero, Nat.zero_add, Option.bind_some, am_ret0, List.set_cons_zero, List.set_cons_succ]
  rw [K8]
  simp only [am_ret0]
  simp (disch := first | decide | (simp only [List.length_cons, List.length_nil, Nat.reduceAdd, Nat.reduceLT, k_fit2, k_fit3] ; done) | fail) only [k_nab, k_nai, k_naz, k_na3, k_na4, k_mn2, k_pfA, List.append_assoc, List.cons_append, List.nil_append, List.length_append, List.length_cons, List.length_nil, Nat.add_assoc, Nat.reduceAdd, Nat.add_zero, Nat.zero_add, Option.bind_some, am_ret0, List.set_cons_zero, List.set_cons_succ]
  rw [K9]
  simp only [am_ret0]
  simp (disch := first | decide | (simp only [List.length_cons, List.length_nil, Nat.reduceAdd, Nat.reduceLT, k_fit2, k_fit3] ; done) | fail) only [k_nab, k_nai, k_naz, k_na3, k_na4, k_mn2, k_push, k_1, k_pfA, List.append_assoc, List.cons_append, List.nil_append, List.length_append, List.length_cons, List.length_nil, Nat.add_assoc, Nat.reduceAdd, Nat.add_zero, Nat.zero_add, Option.bind_some, am_ret0, List.set_cons_zero, List.set_cons_succ]
  subst hds
  exact k_files0 (k := 0) (k1 := 2) (k3 := 3) rfl rfl rfl (by decide) (by decide) rfl rfl
end KC
