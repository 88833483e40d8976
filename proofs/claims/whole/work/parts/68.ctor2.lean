section KC2
variable {G : Nat → Option va_E} {base : Nat} {ds tl : List va_E} {sl : Nat} {ad : Nat → Nat} {d : Nat}
theorem k_lsA {n sl' : Nat} {f : Nat → Int64} {i : Nat} {x : Int64} (h1 : i < n) (h2 : n < 60000000) : am_ls (k_mk G base (ds ++ [.inl (3, n, .inr (.inl f))]) sl) (k_mk G base ds sl').1 (nI i) x = some (k_mk G base (ds ++ [.inl (3, n, .inr (.inl (vp_updL f i x)))]) sl) := by
  have h : (ds ++ [(.inl (3, n, .inr (.inl f)) : va_E)])[ds.length]? = some (.inl (3, n, .inr (.inl f))) := k_apr0
  have e := (k_at (G := G) (base := base) (sl := sl) (k := ds.length)).trans h
  rw [k_1]
  simp only [am_ls, e]
  rw [if_pos trivial, h_nI, h_ix (by omega) (by omega) (by omega), Option.map_some, k_upd (by simp), List.set_append_right _ _ (Nat.le_refl _), Nat.sub_self, Int.toNat_natCast]
  rfl
def k_fs (g : Nat → Value) : List Value := (List.range 47).map g
def k_g0 : Nat → Value := fun f => if m_rx.getD f 0 = 0 then .int 0 else .null
theorem k_fs0 : ([.int 0, .null, .null, .null, .null, .null, .int 0, .null, .null, .null, .null, .null, .null, .int 0, .int 0, .int 0, .int 0, .int 0, .null, .int 0, .int 0, .int 0, .null, .null, .null, .int 0, .int 0, .int 0, .int 0, .null, .null, .int 0, .int 0, .null, .null, .int 0, .int 0, .int 0, .int 0, .int 0, .int 0, .int 0, .int 0, .int 0, .null, .null, .null] : List Value) = k_fs k_g0 := rfl
theorem k_pf9 {g : Nat → Value} {f x : Nat} (hf : f < 47) : am_pf (k_mk G base (ds ++ .inr (9, k_fs g) :: tl) sl) (base + ds.length) 9 f 3 (.ref x) = some (k_mk G base (ds ++ .inr (9, k_fs (va_up g f (.ref x))) :: tl) sl) := by
  rw [k_pfA (by decide) (by simp [k_fs]; exact hf) rfl]
  congr 6
  unfold k_fs
  apply List.ext_getElem?
  intro j
  rw [List.getElem?_set]
  by_cases hj : j < 47
  · rw [List.getElem?_map, List.getElem?_map, List.getElem?_range hj]
    unfold va_up
    by_cases hjk : f = j
    · subst hjk
      simp [hf]
    · have : ¬ j = f := fun w => hjk w.symm
      simp [hjk, this]
  · rw [List.getElem?_eq_none (by simp; omega), List.getElem?_eq_none (by simp; omega), if_neg (by omega)]
theorem k_two9 {g : Nat → Value} {t n f : Nat} {K : am_M → Option am_R} (ht : t < 3) (hn : n < 60000000) (hf : f < 47) : Option.bind (am_na (k_mk G base (ds ++ .inr (9, k_fs g) :: tl) sl) t (nI n)) (fun M1 => Option.bind (am_pf M1 (base + ds.length) 9 f 3 (.ref (k_mk G base (ds ++ .inr (9, k_fs g) :: tl) sl).1)) K) = K (k_mk G base (ds ++ .inr (9, k_fs (va_up g f (.ref (base + ds.length + (tl.length + 1))))) :: (tl ++ [.inl (t, n, .inl (fun _ => 0))])) (sl + n)) := by
  rw [k_na ht hn]
  simp only [Option.bind_some]
  rw [List.append_assoc, List.cons_append, k_pf9 hf, k_1]
  simp only [Option.bind_some, List.length_append, List.length_cons, Nat.add_assoc]
/-- the names, as they are written -/
def k_nm : Nat → Int64 := vp_updL (vp_updL (vp_updL (vp_updL (vp_updL (vp_updL (vp_updL (vp_updL (vp_updL (vp_updL (vp_updL (vp_updL (vp_updL (fun _ => 0) 0 (lN 6513012)) 1 (lN 7627107)) 2 (lN 7497078)) 3 (lN 1751474532)) 4 (lN 1952541036)) 5 (lN 30563)) 6 (lN 6518132)) 7 (lN 482671293541)) 8 (lN 1970170225)) 9 (lN 1936683636)) 10 (lN 1668246893)) 11 (lN 1785686382)) 12 (lN 29810)
def k_M (m : Nat) : List va_E := [.inr (9, [.int 0, .ref (m + 1), .ref (m + 2), .ref (m + 3), .ref (m + 4), .ref (m + 5), .int 0, .ref (m + 6), .ref (m + 7), .ref (m + 8), .ref (m + 9), .ref (m + 10), .ref (m + 11), .int 0, .int 0, .int 0, .int 0, .int 0, .ref (m + 12), .int 0, .int 0, .int 0, .ref (m + 13), .ref (m + 14), .ref (m + 15), .int 0, .int 0, .int 0, .int 0, .ref (m + 16), .ref (m + 17), .int 0, .int 0, .ref (m + 18), .ref (m + 19), .int 0, .int 0, .int 0, .int 0, .int 0, .int 0, .int 0, .int 0, .int 0, .ref (m + 20), .ref (m + 21), .ref (m + 22)]), k_ba 936000, k_ia 3900, k_ia 13, .inl (2, 13, .inl (upd (upd (fun _ => 0) 10 (am_nar 2 (nI 1))) 11 (am_nar 2 (nI 1)))), k_ba 9000, k_ba 9000, k_za 9000, k_ia 9002, k_ia 9002, k_ia 9002, k_ba 9002, .inl (3, 13, .inr (.inl k_nm)), k_za 128, k_ia 128, k_ia 128, k_ia 24, k_ia 24, k_ia 3400, k_ia 3400, k_ia 256, k_ia 256, k_za 256]
theorem K10 : am_gg (am_pr ad) (d + 1) 10 0 [some (.ref (k_mk G base ds sl).1)] [] (am_push (k_mk G base ds sl) 47 (.inr (9, [.int 0, .null, .null, .null, .null, .null, .int 0, .null, .null, .null, .null, .null, .null, .int 0, .int 0, .int 0, .int 0, .int 0, .null, .int 0, .int 0, .int 0, .null, .null, .null, .int 0, .int 0, .int 0, .int 0, .null, .null, .int 0, .int 0, .null, .null, .int 0, .int 0, .int 0, .int 0, .int 0, .int 0, .int 0, .int 0, .int 0, .null, .null, .null]))) = some (.inl none, k_mk G base (ds ++ k_M (base + ds.length)) (sl + 1010994)) := by
  have hL : ∀ (e : va_E) (t : List va_E), (ds ++ e :: t).length = ds.length + (t.length + 1) := fun e t => by rw [List.length_append, List.length_cons]
  rw [k_push, k_1, B10_0, k_fs0, show ds ++ [(.inr (9, k_fs k_g0) : va_E)] = ds ++ .inr (9, k_fs k_g0) :: [] from rfl]
  rw [k_two9 (t := 0) (n := 936000) (f := 1) (by decide) (by decide) (by decide)]
  rw [k_two9 (t := 1) (n := 3900) (f := 2) (by decide) (by decide) (by decide)]
  rw [k_two9 (t := 1) (n := 13) (f := 3) (by decide) (by decide) (by decide)]
  rw [k_two9 (t := 2) (n := 13) (f := 4) (by decide) (by decide) (by decide)]
  rw [k_two9 (t := 0) (n := 9000) (f := 5) (by decide) (by decide) (by decide)]
  rw [k_two9 (t := 0) (n := 9000) (f := 7) (by decide) (by decide) (by decide)]
  rw [k_two9 (t := 2) (n := 9000) (f := 8) (by decide) (by decide) (by decide)]
  rw [k_two9 (t := 1) (n := 9002) (f := 9) (by decide) (by decide) (by decide)]
  rw [k_two9 (t := 1) (n := 9002) (f := 10) (by decide) (by decide) (by decide)]
  rw [k_two9 (t := 1) (n := 9002) (f := 11) (by decide) (by decide) (by decide)]
  rw [k_two9 (t := 0) (n := 9002) (f := 12) (by decide) (by decide) (by decide)]
  rw [k_na3 (n := 13) (by decide), Option.bind_some]
  rw [k_lsA (i := 0) (by decide) (by decide), Option.bind_some]
  rw [k_lsA (i := 1) (by decide) (by decide), Option.bind_some]
  rw [k_lsA (i := 2) (by decide) (by decide), Option.bind_some]
  rw [k_lsA (i := 3) (by decide) (by decide), Option.bind_some]
  rw [k_lsA (i := 4) (by decide) (by decide), Option.bind_some]
  rw [k_lsA (i := 5) (by decide) (by decide), Option.bind_some]
  rw [k_lsA (i := 6) (by decide) (by decide), Option.bind_some]
  rw [k_lsA (i := 7) (by decide) (by decide), Option.bind_some]
  rw [k_lsA (i := 8) (by decide) (by decide), Option.bind_some]
  rw [k_lsA (i := 9) (by decide) (by decide), Option.bind_some]
  rw [k_lsA (i := 10) (by decide) (by decide), Option.bind_some]
  rw [k_lsA (i := 11) (by decide) (by decide), Option.bind_some]
  rw [k_lsA (i := 12) (by decide) (by decide), Option.bind_some]
  rw [List.append_assoc, List.cons_append, k_1, hL, k_pf9 (f := 18) (by decide), Option.bind_some]
  rw [k_two9 (t := 2) (n := 128) (f := 22) (by decide) (by decide) (by decide)]
  rw [k_two9 (t := 1) (n := 128) (f := 23) (by decide) (by decide) (by decide)]
  rw [k_two9 (t := 1) (n := 128) (f := 24) (by decide) (by decide) (by decide)]
  rw [k_two9 (t := 1) (n := 24) (f := 29) (by decide) (by decide) (by decide)]
  rw [k_two9 (t := 1) (n := 24) (f := 30) (by decide) (by decide) (by decide)]
  rw [k_two9 (t := 1) (n := 3400) (f := 33) (by decide) (by decide) (by decide)]
  rw [k_two9 (t := 1) (n := 3400) (f := 34) (by decide) (by decide) (by decide)]
  rw [k_two9 (t := 1) (n := 256) (f := 44) (by decide) (by decide) (by decide)]
  rw [k_two9 (t := 1) (n := 256) (f := 45) (by decide) (by decide) (by decide)]
  rw [k_two9 (t := 2) (n := 256) (f := 46) (by decide) (by decide) (by decide)]
  rw [k_gr (k := ds.length) (c := 9) (f := 4) (x := base + (ds.length + 4)) (k_apr0.trans rfl) rfl, Option.bind_some]
  rw [h_nI 10]
  rw [k_is (k := ds.length + 4) (t := 2) (n := 13) (k_apr.trans rfl) (by decide) (by decide) (by decide) (by decide), Option.bind_some, k_aps]
  rw [k_gr (k := ds.length) (c := 9) (f := 4) (x := base + (ds.length + 4)) (k_apr0.trans rfl) rfl, Option.bind_some]
  rw [h_nI 11]
  rw [k_is (k := ds.length + 4) (t := 2) (n := 13) (k_apr.trans rfl) (by decide) (by decide) (by decide) (by decide), Option.bind_some, k_aps]
  refine congrArg (fun z => some (Sum.inl none, z)) ?_
  unfold k_M
  refine congr (congrArg (fun a b => k_mk G base (ds ++ a) b) ?_) ?_
  · refine congr (congrArg List.cons ?_) ?_
    · refine congrArg (fun z => (.inr (9, z) : va_E)) ?_
      apply List.ext_getElem?
      intro j
      match j with
      | 0 => rfl
      | 1 => rfl
      | 2 => rfl
      | 3 => rfl
      | 4 => rfl
      | 5 => rfl
      | 6 => rfl
      | 7 => rfl
      | 8 => rfl
      | 9 => rfl
      | 10 => rfl
      | 11 => rfl
      | 12 => rfl
      | 13 => rfl
      | 14 => rfl
      | 15 => rfl
      | 16 => rfl
      | 17 => rfl
      | 18 => rfl
      | 19 => rfl
      | 20 => rfl
      | 21 => rfl
      | 22 => rfl
      | 23 => rfl
      | 24 => rfl
      | 25 => rfl
      | 26 => rfl
      | 27 => rfl
      | 28 => rfl
      | 29 => rfl
      | 30 => rfl
      | 31 => rfl
      | 32 => rfl
      | 33 => rfl
      | 34 => rfl
      | 35 => rfl
      | 36 => rfl
      | 37 => rfl
      | 38 => rfl
      | 39 => rfl
      | 40 => rfl
      | 41 => rfl
      | 42 => rfl
      | 43 => rfl
      | 44 => rfl
      | 45 => rfl
      | 46 => rfl
      | n + 47 => rfl
    · repeat (refine congr (congrArg List.cons ?_) ?_; · rfl)
      rfl
  · omega
end KC2
