/-! THE TYPED HEAP (printed by wip/whole/gen50.py) -/
def h_ii (z : Int) : Int32 := Int32.ofInt z
/-- next address; slots; kinds (0 the ground's, c + 1 an object's, 1000 + t an array's); whole fields; references; lengths; elements -/
abbrev h_S : Type := Nat × Nat × (Nat → Nat) × (Nat → Nat → Int) × (Nat → Nat → Nat) × (Nat → Nat) × (Nat → Nat → Int)
def h_nx (s : h_S) : Nat := s.1
def h_sl (s : h_S) : Nat := s.2.1
def h_kd (s : h_S) : Nat → Nat := s.2.2.1
def h_I (s : h_S) : Nat → Nat → Int := s.2.2.2.1
def h_R (s : h_S) : Nat → Nat → Nat := s.2.2.2.2.1
def h_N (s : h_S) : Nat → Nat := s.2.2.2.2.2.1
def h_A (s : h_S) : Nat → Nat → Int := s.2.2.2.2.2.2
def h_rf (r : Nat) : Value := if r = 0 then .null else .ref r
/-- which fields are references -/
def h_fk : List (List Bool) := [[true, false, true, true, true, true, true, true], [true, true, false, false, false, false], [true, false, false, true, false, false, false, false, false, false], [true, true, true, true, false, true, false, false, false, false, false, true], [true, true, true, true, false, false, true, true, false, true, true, false, true, true, true, false, false, false, false], [true, false, false, false, false, false], [true, true, true, true, true, true, true, true, false], [true, true], [true, true, true], [false, true, true, true, true, true, false, true, true, true, true, true, true, false, false, false, false, false, true, false, false, false, true, true, true, false, false, false, false, true, true, false, false, true, true, false, false, false, false, false, false, false, false, false, true, true, true]]
def h_fv (I : Nat → Int) (R : Nat → Nat) (c : Nat) : List Value := (List.range (h_fk.getD c []).length).map (fun k => if (h_fk.getD c []).getD k false = true then h_rf (R k) else .int (h_ii (I k)))
def h_ce (G : Nat → Option va_E) (s : h_S) (q : Nat) : Option va_E :=
  if h_kd s q = 0 then G q
  else if h_kd s q < 1000 then some (.inr (h_kd s q - 1, h_fv (h_I s q) (h_R s q) (h_kd s q - 1)))
  else if h_kd s q ≤ 1002 then some (.inl (h_kd s q - 1000, h_N s q, .inl (fun i => h_ii (h_A s q i))))
  else if h_kd s q = 1003 then some (.inl (3, h_N s q, .inr (.inl (fun i => Int64.ofInt (h_A s q i)))))
  else some (.inl (h_kd s q - 1000, h_N s q, .inr (.inr (.inr (.inr (fun i => if h_R s q i = 0 then none else some (h_R s q i)))))))
/-- the memory of a typed heap over a ground -/
def h_t (G : Nat → Option va_E) (s : h_S) : am_M := (h_nx s, h_sl s, h_ce G s)
def h_sI (s : h_S) (a k : Nat) (v : Int) : h_S := (h_nx s, h_sl s, h_kd s, fun a' k' => if a' = a ∧ k' = k then v else h_I s a' k', h_R s, h_N s, h_A s)
def h_sR (s : h_S) (a k : Nat) (r : Nat) : h_S := (h_nx s, h_sl s, h_kd s, h_I s, fun a' k' => if a' = a ∧ k' = k then r else h_R s a' k', h_N s, h_A s)
def h_sA (s : h_S) (a i : Nat) (v : Int) : h_S := (h_nx s, h_sl s, h_kd s, h_I s, h_R s, h_N s, fun a' i' => if a' = a ∧ i' = i then v else h_A s a' i')
/-- a new object of class c with k fields; a new array of tag t, n long -/
def h_no (s : h_S) (c k : Nat) : h_S := (h_nx s + 1, h_sl s + k, fun q => if q = h_nx s then c + 1 else h_kd s q, fun q j => if q = h_nx s then 0 else h_I s q j, fun q j => if q = h_nx s then 0 else h_R s q j, h_N s, h_A s)
def h_na (s : h_S) (t n : Nat) : h_S := (h_nx s + 1, h_sl s + n, fun q => if q = h_nx s then 1000 + t else h_kd s q, h_I s, fun q j => if q = h_nx s then 0 else h_R s q j, fun q => if q = h_nx s then n else h_N s q, fun q j => if q = h_nx s then 0 else h_A s q j)
/-- arraycopy -/
def h_cp (s : h_S) (a sp b dp n : Nat) : h_S := (h_nx s, h_sl s, h_kd s, h_I s, h_R s, h_N s, fun q i => if q = b ∧ dp ≤ i ∧ i < dp + n then h_A s a (sp + (i - dp)) else h_A s q i)
theorem h_nx_sI (s : h_S) (a k : Nat) (v : Int) : h_nx (h_sI s a k v) = h_nx s := rfl
theorem h_sl_sI (s : h_S) (a k : Nat) (v : Int) : h_sl (h_sI s a k v) = h_sl s := rfl
theorem h_kd_sI (s : h_S) (a k : Nat) (v : Int) (q : Nat) : h_kd (h_sI s a k v) q = h_kd s q := rfl
theorem h_I_sI (s : h_S) (a k : Nat) (v : Int) (q j : Nat) : h_I (h_sI s a k v) q j = if q = a ∧ j = k then v else h_I s q j := rfl
theorem h_R_sI (s : h_S) (a k : Nat) (v : Int) (q j : Nat) : h_R (h_sI s a k v) q j = h_R s q j := rfl
theorem h_N_sI (s : h_S) (a k : Nat) (v : Int) (q : Nat) : h_N (h_sI s a k v) q = h_N s q := rfl
theorem h_A_sI (s : h_S) (a k : Nat) (v : Int) (q j : Nat) : h_A (h_sI s a k v) q j = h_A s q j := rfl
theorem h_nx_sR (s : h_S) (a k r : Nat) : h_nx (h_sR s a k r) = h_nx s := rfl
theorem h_sl_sR (s : h_S) (a k r : Nat) : h_sl (h_sR s a k r) = h_sl s := rfl
theorem h_kd_sR (s : h_S) (a k r : Nat) (q : Nat) : h_kd (h_sR s a k r) q = h_kd s q := rfl
theorem h_I_sR (s : h_S) (a k r : Nat) (q j : Nat) : h_I (h_sR s a k r) q j = h_I s q j := rfl
theorem h_R_sR (s : h_S) (a k r : Nat) (q j : Nat) : h_R (h_sR s a k r) q j = if q = a ∧ j = k then r else h_R s q j := rfl
theorem h_N_sR (s : h_S) (a k r : Nat) (q : Nat) : h_N (h_sR s a k r) q = h_N s q := rfl
theorem h_A_sR (s : h_S) (a k r : Nat) (q j : Nat) : h_A (h_sR s a k r) q j = h_A s q j := rfl
theorem h_nx_sA (s : h_S) (a i : Nat) (v : Int) : h_nx (h_sA s a i v) = h_nx s := rfl
theorem h_sl_sA (s : h_S) (a i : Nat) (v : Int) : h_sl (h_sA s a i v) = h_sl s := rfl
theorem h_kd_sA (s : h_S) (a i : Nat) (v : Int) (q : Nat) : h_kd (h_sA s a i v) q = h_kd s q := rfl
theorem h_I_sA (s : h_S) (a i : Nat) (v : Int) (q j : Nat) : h_I (h_sA s a i v) q j = h_I s q j := rfl
theorem h_R_sA (s : h_S) (a i : Nat) (v : Int) (q j : Nat) : h_R (h_sA s a i v) q j = h_R s q j := rfl
theorem h_N_sA (s : h_S) (a i : Nat) (v : Int) (q : Nat) : h_N (h_sA s a i v) q = h_N s q := rfl
theorem h_A_sA (s : h_S) (a i : Nat) (v : Int) (q j : Nat) : h_A (h_sA s a i v) q j = if q = a ∧ j = i then v else h_A s q j := rfl
theorem h_nx_no (s : h_S) (c n : Nat) : h_nx (h_no s c n) = h_nx s + 1 := rfl
theorem h_sl_no (s : h_S) (c n : Nat) : h_sl (h_no s c n) = h_sl s + n := rfl
theorem h_kd_no (s : h_S) (c n : Nat) (q : Nat) : h_kd (h_no s c n) q = if q = h_nx s then c + 1 else h_kd s q := rfl
theorem h_I_no (s : h_S) (c n : Nat) (q j : Nat) : h_I (h_no s c n) q j = if q = h_nx s then 0 else h_I s q j := rfl
theorem h_R_no (s : h_S) (c n : Nat) (q j : Nat) : h_R (h_no s c n) q j = if q = h_nx s then 0 else h_R s q j := rfl
theorem h_N_no (s : h_S) (c n : Nat) (q : Nat) : h_N (h_no s c n) q = h_N s q := rfl
theorem h_A_no (s : h_S) (c n : Nat) (q j : Nat) : h_A (h_no s c n) q j = h_A s q j := rfl
theorem h_nx_na (s : h_S) (t n : Nat) : h_nx (h_na s t n) = h_nx s + 1 := rfl
theorem h_sl_na (s : h_S) (t n : Nat) : h_sl (h_na s t n) = h_sl s + n := rfl
theorem h_kd_na (s : h_S) (t n : Nat) (q : Nat) : h_kd (h_na s t n) q = if q = h_nx s then 1000 + t else h_kd s q := rfl
theorem h_I_na (s : h_S) (t n : Nat) (q j : Nat) : h_I (h_na s t n) q j = h_I s q j := rfl
theorem h_R_na (s : h_S) (t n : Nat) (q j : Nat) : h_R (h_na s t n) q j = if q = h_nx s then 0 else h_R s q j := rfl
theorem h_N_na (s : h_S) (t n : Nat) (q : Nat) : h_N (h_na s t n) q = if q = h_nx s then n else h_N s q := rfl
theorem h_A_na (s : h_S) (t n : Nat) (q j : Nat) : h_A (h_na s t n) q j = if q = h_nx s then 0 else h_A s q j := rfl
theorem h_nx_cp (s : h_S) (a sp b dp n : Nat) : h_nx (h_cp s a sp b dp n) = h_nx s := rfl
theorem h_sl_cp (s : h_S) (a sp b dp n : Nat) : h_sl (h_cp s a sp b dp n) = h_sl s := rfl
theorem h_kd_cp (s : h_S) (a sp b dp n : Nat) (q : Nat) : h_kd (h_cp s a sp b dp n) q = h_kd s q := rfl
theorem h_I_cp (s : h_S) (a sp b dp n : Nat) (q j : Nat) : h_I (h_cp s a sp b dp n) q j = h_I s q j := rfl
theorem h_R_cp (s : h_S) (a sp b dp n : Nat) (q j : Nat) : h_R (h_cp s a sp b dp n) q j = h_R s q j := rfl
theorem h_N_cp (s : h_S) (a sp b dp n : Nat) (q : Nat) : h_N (h_cp s a sp b dp n) q = h_N s q := rfl
theorem h_A_cp (s : h_S) (a sp b dp n : Nat) (q j : Nat) : h_A (h_cp s a sp b dp n) q j = if q = b ∧ dp ≤ j ∧ j < dp + n then h_A s a (sp + (j - dp)) else h_A s q j := rfl
theorem h_fv_at {I : Nat → Int} {R : Nat → Nat} {c k : Nat} {b : Bool} (h : (h_fk.getD c [])[k]? = some b) : (h_fv I R c)[k]? = some (if b = true then h_rf (R k) else .int (h_ii (I k))) := by
  have hk := (List.getElem?_eq_some_iff.mp h).1
  unfold h_fv
  rw [List.getElem?_map, List.getElem?_range hk]
  simp only [Option.map_some]
  rw [List.getD_eq_getElem?_getD, h]
  rfl
theorem h_fv_len {I : Nat → Int} {R : Nat → Nat} {c : Nat} : (h_fv I R c).length = (h_fk.getD c []).length := by simp [h_fv]
theorem h_ce_ob {G : Nat → Option va_E} {s : h_S} {a c : Nat} (h : h_kd s a = c + 1) (hc : c < 900) : h_ce G s a = some (.inr (c, h_fv (h_I s a) (h_R s a) c)) := by
  unfold h_ce
  rw [if_neg (by omega), if_pos (by omega), h]
  rfl
theorem h_ce_ar {G : Nat → Option va_E} {s : h_S} {a t : Nat} (h : h_kd s a = 1000 + t) (ht : t < 3) : h_ce G s a = some (.inl (t, h_N s a, .inl (fun i => h_ii (h_A s a i)))) := by
  unfold h_ce
  rw [if_neg (by omega), if_neg (by omega), if_pos (by omega), h]
  rw [show 1000 + t - 1000 = t by omega]
theorem h_ce_rf {G : Nat → Option va_E} {s : h_S} {a t : Nat} (h : h_kd s a = 1000 + t) (ht : 3 < t) : h_ce G s a = some (.inl (t, h_N s a, .inr (.inr (.inr (.inr (fun i => if h_R s a i = 0 then none else some (h_R s a i))))))) := by
  unfold h_ce
  rw [if_neg (by omega), if_neg (by omega), if_neg (by omega), if_neg (by omega), h]
  rw [show 1000 + t - 1000 = t by omega]
theorem h_ce_lg {G : Nat → Option va_E} {s : h_S} {a : Nat} (h : h_kd s a = 1003) : h_ce G s a = some (.inl (3, h_N s a, .inr (.inl (fun i => Int64.ofInt (h_A s a i))))) := by
  unfold h_ce
  rw [if_neg (by omega), if_neg (by omega), if_neg (by omega), if_pos (by omega)]
theorem h_ce_gr {G : Nat → Option va_E} {s : h_S} {a : Nat} (h : h_kd s a = 0) : h_ce G s a = G a := by
  unfold h_ce
  rw [if_pos h]
section HT
variable {G : Nat → Option va_E} {s : h_S}
theorem h_gi {a c k : Nat} (hf : (h_fk.getD c [])[k]? = some false) (hc : c < 900) (h : h_kd s a = c + 1) : am_gi (h_t G s) a c k = some (h_ii (h_I s a k)) := by
  have e : (h_t G s).2.2 a = some (.inr (c, h_fv (h_I s a) (h_R s a) c)) := h_ce_ob h hc
  simp only [am_gi, am_gv, e, if_true, h_fv_at hf]
  rfl
theorem h_gr {a c k : Nat} (hf : (h_fk.getD c [])[k]? = some true) (hc : c < 900) (h : h_kd s a = c + 1) (hr : h_R s a k ≠ 0) : am_gr (h_t G s) a c k = some (h_R s a k) := by
  have e : (h_t G s).2.2 a = some (.inr (c, h_fv (h_I s a) (h_R s a) c)) := h_ce_ob h hc
  simp only [am_gr, am_gv, e, if_true, h_fv_at hf, h_rf, if_neg hr]
theorem h_upd {a : Nat} {e : va_E} {s' : h_S} (h1 : h_nx s' = h_nx s) (h2 : h_sl s' = h_sl s) (h3 : h_ce G s' a = some e) (h4 : ∀ q, q ≠ a → h_ce G s' q = h_ce G s q) : am_upd (h_t G s) a e = h_t G s' := by
  unfold am_upd h_t
  rw [h1, h2]
  congr 2
  funext q
  show (if q = a then some e else h_ce G s q) = h_ce G s' q
  split
  · rename_i hq; rw [hq, h3]
  · rename_i hq; rw [h4 q hq]
theorem h_psh {n : Nat} {e : va_E} {s' : h_S} (h1 : h_nx s' = h_nx s + 1) (h2 : h_sl s' = h_sl s + n) (h3 : h_ce G s' (h_nx s) = some e) (h4 : ∀ q, q ≠ h_nx s → h_ce G s' q = h_ce G s q) : am_push (h_t G s) n e = h_t G s' := by
  unfold am_push h_t
  rw [h1, h2]
  show (h_nx s + 1, h_sl s + n, _) = _
  congr 2
  funext q
  show (if q = h_nx s then some e else h_ce G s q) = h_ce G s' q
  split
  · rename_i hq; rw [hq, h3]
  · rename_i hq; rw [h4 q hq]
theorem h_fv_setI {I : Nat → Int} {R : Nat → Nat} {c k : Nat} {v : Int} (hf : (h_fk.getD c [])[k]? = some false) : (h_fv I R c).set k (.int (h_ii v)) = h_fv (fun k' => if k' = k then v else I k') R c := by
  apply List.ext_getElem?
  intro j
  rw [List.getElem?_set]
  by_cases hj : j < (h_fk.getD c []).length
  · have hb : (h_fk.getD c [])[j]? = some ((h_fk.getD c [])[j]'hj) := List.getElem?_eq_getElem hj
    rw [h_fv_at (I := fun k' => if k' = k then v else I k') hb, h_fv_at (I := I) hb]
    by_cases hjk : k = j
    · subst hjk
      have hb2 : (h_fk.getD c [])[k]'hj = false := Option.some.inj (hb.symm.trans hf)
      rw [if_pos rfl, if_pos (by rw [h_fv_len]; exact hj), hb2]
      simp
    · rw [if_neg hjk]
      have : ¬ j = k := fun q => hjk q.symm
      simp only [if_neg this]
  · rw [List.getElem?_eq_none (by rw [h_fv_len]; omega), List.getElem?_eq_none (by rw [h_fv_len]; omega)]
    have hk := (List.getElem?_eq_some_iff.mp hf).1
    rw [if_neg (by omega)]
theorem h_fv_setR {I : Nat → Int} {R : Nat → Nat} {c k r : Nat} (hf : (h_fk.getD c [])[k]? = some true) : (h_fv I R c).set k (h_rf r) = h_fv I (fun k' => if k' = k then r else R k') c := by
  apply List.ext_getElem?
  intro j
  rw [List.getElem?_set]
  by_cases hj : j < (h_fk.getD c []).length
  · have hb : (h_fk.getD c [])[j]? = some ((h_fk.getD c [])[j]'hj) := List.getElem?_eq_getElem hj
    rw [h_fv_at (R := fun k' => if k' = k then r else R k') hb, h_fv_at (R := R) hb]
    by_cases hjk : k = j
    · subst hjk
      have hb2 : (h_fk.getD c [])[k]'hj = true := Option.some.inj (hb.symm.trans hf)
      rw [if_pos rfl, if_pos (by rw [h_fv_len]; exact hj), hb2]
      simp
    · rw [if_neg hjk]
      have : ¬ j = k := fun q => hjk q.symm
      simp only [if_neg this]
  · rw [List.getElem?_eq_none (by rw [h_fv_len]; omega), List.getElem?_eq_none (by rw [h_fv_len]; omega)]
    have hk := (List.getElem?_eq_some_iff.mp hf).1
    rw [if_neg (by omega)]
theorem h_pfI {a c k ty : Nat} {v : Int} (hf : (h_fk.getD c [])[k]? = some false) (hc : c < 100) (h : h_kd s a = c + 1) (hty : am_fit ty (.int (h_ii v)) = true) : am_pf (h_t G s) a c k ty (.int (h_ii v)) = some (h_t G (h_sI s a k v)) := by
  have e : (h_t G s).2.2 a = some (.inr (c, h_fv (h_I s a) (h_R s a) c)) := h_ce_ob h (by omega)
  have hk := (List.getElem?_eq_some_iff.mp hf).1
  simp only [am_pf, e]
  rw [if_pos ⟨trivial, hc, by rw [h_fv_len]; exact hk, hty⟩, h_fv_setI hf]
  refine congrArg some (h_upd rfl rfl ?_ ?_)
  · rw [h_ce_ob (s := h_sI s a k v) (c := c) h (by omega)]
    congr 4
    funext k'
    show (if a = a ∧ k' = k then v else h_I s a k') = _
    simp
  · intro q hq
    unfold h_ce
    have hI : h_I (h_sI s a k v) q = h_I s q := by
      funext j
      show (if q = a ∧ j = k then v else h_I s q j) = h_I s q j
      rw [if_neg (fun z => hq z.1)]
    rw [hI]
    rfl
theorem h_pfR {a c k ty r : Nat} (hf : (h_fk.getD c [])[k]? = some true) (hc : c < 100) (h : h_kd s a = c + 1) (hty : ty = 2 ∨ ty = 3) (hr : r ≠ 0) : am_pf (h_t G s) a c k ty (.ref r) = some (h_t G (h_sR s a k r)) := by
  have e : (h_t G s).2.2 a = some (.inr (c, h_fv (h_I s a) (h_R s a) c)) := h_ce_ob h (by omega)
  have hk := (List.getElem?_eq_some_iff.mp hf).1
  have hfit : am_fit ty (.ref r) = true := by rcases hty with rfl | rfl <;> rfl
  simp only [am_pf, e]
  rw [if_pos ⟨trivial, hc, by rw [h_fv_len]; exact hk, hfit⟩, show Value.ref r = h_rf r by simp [h_rf, hr], h_fv_setR hf]
  refine congrArg some (h_upd rfl rfl ?_ ?_)
  · rw [h_ce_ob (s := h_sR s a k r) (c := c) h (by omega)]
    congr 4
    funext k'
    show (if a = a ∧ k' = k then r else h_R s a k') = _
    simp
  · intro q hq
    unfold h_ce
    have hR : h_R (h_sR s a k r) q = h_R s q := by
      funext j
      show (if q = a ∧ j = k then r else h_R s q j) = h_R s q j
      rw [if_neg (fun z => hq z.1)]
    rw [hR]
    rfl
theorem h_toInt {z : Int} (h1 : -2147483648 ≤ z) (h2 : z < 2147483648) : (h_ii z).toInt = z := Int32.toInt_ofInt_of_le (by simpa using h1) (by simpa using h2)
theorem h_ix {i : Int} {n : Nat} (h0 : 0 ≤ i) (h1 : i < n) (h2 : i < 2147483648) : am_ix (h_ii i) n = some i.toNat := by
  have hn : (h_ii i).toInt = i := h_toInt (by omega) h2
  have hc : (h_ii i).toNatClampNeg = i.toNat := by unfold Int32.toNatClampNeg; rw [hn]
  unfold am_ix
  rw [if_neg, hc]
  rintro (q | q)
  · rw [Int32.lt_iff_toInt_lt, hn] at q
    have : (0 : Int32).toInt = 0 := rfl
    omega
  · rw [hc] at q; omega
theorem h_il {a t : Nat} {i : Int} {ts : List Nat} (ht : t ∈ ts) (h3 : t < 3) (h : h_kd s a = 1000 + t) (h0 : 0 ≤ i) (h1 : i < h_N s a) (h2 : i < 2147483648) : am_il (h_t G s) a (h_ii i) ts = some (h_ii (h_A s a i.toNat)) := by
  have e : (h_t G s).2.2 a = _ := h_ce_ar h h3
  simp only [am_il, e, if_pos ht, h_ix h0 h1 h2, Option.map_some]
theorem h_lb {a : Nat} {i : Int} (h : h_kd s a = 1000) (h0 : 0 ≤ i) (h1 : i < h_N s a) (h2 : i < 2147483648) : am_il (h_t G s) a (h_ii i) [0, 2, 100] = some (h_ii (h_A s a i.toNat)) := h_il (t := 0) (by decide) (by decide) h h0 h1 h2
theorem h_lz {a : Nat} {i : Int} (h : h_kd s a = 1002) (h0 : 0 ≤ i) (h1 : i < h_N s a) (h2 : i < 2147483648) : am_il (h_t G s) a (h_ii i) [0, 2, 100] = some (h_ii (h_A s a i.toNat)) := h_il (t := 2) (by decide) (by decide) h h0 h1 h2
theorem h_l4 {a : Nat} {i : Int} (h : h_kd s a = 1001) (h0 : 0 ≤ i) (h1 : i < h_N s a) (h2 : i < 2147483648) : am_il (h_t G s) a (h_ii i) [1, 101] = some (h_ii (h_A s a i.toNat)) := h_il (t := 1) (by decide) (by decide) h h0 h1 h2
theorem h_len {a t : Nat} (h : h_kd s a = 1000 + t) : am_len (h_t G s) a = some (h_ii (h_N s a)) := by
  have : ∃ r, (h_t G s).2.2 a = some (.inl (t, h_N s a, r)) := by
    rcases Nat.lt_trichotomy t 3 with q | q | q
    · exact ⟨_, h_ce_ar h q⟩
    · subst q; exact ⟨_, h_ce_lg h⟩
    · exact ⟨_, h_ce_rf h q⟩
  obtain ⟨r, hr⟩ := this
  simp only [am_len, hr]
  rfl
theorem h_lnb {a : Nat} (h : h_kd s a = 1000) : am_len (h_t G s) a = some (h_ii (h_N s a)) := h_len (t := 0) h
theorem h_lni {a : Nat} (h : h_kd s a = 1001) : am_len (h_t G s) a = some (h_ii (h_N s a)) := h_len (t := 1) h
theorem h_lnz {a : Nat} (h : h_kd s a = 1002) : am_len (h_t G s) a = some (h_ii (h_N s a)) := h_len (t := 2) h
theorem h_lnr {a : Nat} (h : h_kd s a = 1004) : am_len (h_t G s) a = some (h_ii (h_N s a)) := h_len (t := 4) h
theorem h_al {a t : Nat} {i : Int} (ht : t = 4 ∨ t = 5) (h : h_kd s a = 1000 + t) (h0 : 0 ≤ i) (h1 : i < h_N s a) (h2 : i < 2147483648) (hr : h_R s a i.toNat ≠ 0) : am_al (h_t G s) a (h_ii i) = some (h_R s a i.toNat) := by
  have e : (h_t G s).2.2 a = _ := h_ce_rf h (by omega)
  simp only [am_al, e]
  rw [if_pos (by rcases ht with rfl | rfl <;> simp), h_ix h0 h1 h2]
  simp [hr]
theorem h_al4 {a : Nat} {i : Int} (h : h_kd s a = 1004) (h0 : 0 ≤ i) (h1 : i < h_N s a) (h2 : i < 2147483648) (hr : h_R s a i.toNat ≠ 0) : am_al (h_t G s) a (h_ii i) = some (h_R s a i.toNat) := h_al (t := 4) (.inl rfl) h h0 h1 h2 hr
theorem h_al5 {a : Nat} {i : Int} (h : h_kd s a = 1005) (h0 : 0 ≤ i) (h1 : i < h_N s a) (h2 : i < 2147483648) (hr : h_R s a i.toNat ≠ 0) : am_al (h_t G s) a (h_ii i) = some (h_R s a i.toNat) := h_al (t := 5) (.inr rfl) h h0 h1 h2 hr
theorem h_cl {a c : Nat} (h : h_kd s a = c + 1) (hc : c < 900) : am_cls (h_t G s) a c = true := by
  have e : (h_t G s).2.2 a = _ := h_ce_ob h hc
  simp [am_cls, e]
/-- what is stored into an array -/
def h_nr (t : Nat) (v : Int) : Int := if t = 0 then Int.bmod v 256 else if t = 2 then v % 2 else v
theorem h_b8 (v : Int) : (h_ii v).toInt8.toInt32 = h_ii (Int.bmod v 256) := by
  have h1 : -(128 : Int) ≤ Int.bmod v 256 := by have := @Int.le_bmod v 256 (by decide); omega
  have h2 : Int.bmod v 256 < 128 := by have := @Int.bmod_lt v 256 (by decide); omega
  apply Int32.toInt_inj.mp
  rw [h_toInt (z := Int.bmod v 256) (by omega) (by omega), Int8.toInt_toInt32, Int32.toInt_toInt8]
  unfold h_ii
  rw [Int32.toInt_ofInt]
  exact Int.bmod_bmod_of_dvd (by decide)
theorem h_is {a t : Nat} {i v : Int} {ts : List Nat} (ht : t ∈ ts) (h3 : t < 3) (hn : am_nar t (h_ii v) = h_ii (h_nr t v)) (h : h_kd s a = 1000 + t) (h0 : 0 ≤ i) (h1 : i < h_N s a) (h2 : i < 2147483648) : am_is (h_t G s) a (h_ii i) ts (h_ii v) = some (h_t G (h_sA s a i.toNat (h_nr t v))) := by
  have e : (h_t G s).2.2 a = _ := h_ce_ar h h3
  simp only [am_is, e, if_pos ht, h_ix h0 h1 h2, Option.map_some, hn]
  refine congrArg some (h_upd rfl rfl ?_ ?_)
  · rw [h_ce_ar (s := h_sA s a i.toNat (h_nr t v)) (t := t) h h3]
    refine congrArg (fun f : Nat → Int32 => (some (Sum.inl (t, h_N s a, Sum.inl f)) : Option va_E)) (funext fun j => ?_)
    show h_ii (if a = a ∧ j = i.toNat then h_nr t v else h_A s a j) = upd (fun i => h_ii (h_A s a i)) i.toNat (h_ii (h_nr t v)) j
    unfold upd
    by_cases hj : j = i.toNat <;> simp [hj]
  · intro q hq
    unfold h_ce
    have hA : h_A (h_sA s a i.toNat (h_nr t v)) q = h_A s q := by
      funext j
      show (if q = a ∧ j = i.toNat then h_nr t v else h_A s q j) = h_A s q j
      rw [if_neg (fun z => hq z.1)]
    rw [hA]
    rfl
theorem h_sb {a : Nat} {i v : Int} (h : h_kd s a = 1000) (h0 : 0 ≤ i) (h1 : i < h_N s a) (h2 : i < 2147483648) : am_is (h_t G s) a (h_ii i) [0, 2] (h_ii v) = some (h_t G (h_sA s a i.toNat (Int.bmod v 256))) := h_is (t := 0) (by decide) (by decide) (by show (h_ii v).toInt8.toInt32 = _; exact h_b8 v) h h0 h1 h2
theorem h_s4 {a : Nat} {i v : Int} (h : h_kd s a = 1001) (h0 : 0 ≤ i) (h1 : i < h_N s a) (h2 : i < 2147483648) : am_is (h_t G s) a (h_ii i) [1] (h_ii v) = some (h_t G (h_sA s a i.toNat v)) := h_is (t := 1) (by decide) (by decide) rfl h h0 h1 h2
theorem h_sz {a : Nat} {i v : Int} (hv : v = 0 ∨ v = 1) (h : h_kd s a = 1002) (h0 : 0 ≤ i) (h1 : i < h_N s a) (h2 : i < 2147483648) : am_is (h_t G s) a (h_ii i) [0, 2] (h_ii v) = some (h_t G (h_sA s a i.toNat v)) := by
  have := h_is (G := G) (s := s) (a := a) (t := 2) (i := i) (v := v) (ts := [0, 2]) (by decide) (by decide) (by rcases hv with rfl | rfl <;> rfl) h h0 h1 h2
  rw [show h_nr 2 v = v by rcases hv with rfl | rfl <;> rfl] at this
  exact this
theorem h_sas {a q : Nat} {i : Int} (h : h_kd s a = 1004) (hq : h_kd s q = 2) (h0 : 0 ≤ i) (h1 : i < h_N s a) (h2 : i < 2147483648) (hr : q ≠ 0) : am_as (h_t G s) a (h_ii i) q = some (h_t G (h_sR s a i.toNat q)) := by
  have e : (h_t G s).2.2 a = _ := h_ce_rf (t := 4) h (by decide)
  have e2 : (h_t G s).2.2 q = _ := h_ce_ob (c := 1) hq (by decide)
  simp only [am_as, e, e2]
  rw [if_pos ⟨trivial, trivial⟩, h_ix h0 h1 h2, Option.map_some]
  refine congrArg some (h_upd rfl rfl ?_ ?_)
  · rw [h_ce_rf (s := h_sR s a i.toNat q) (t := 4) h (by decide)]
    refine congrArg (fun f : Nat → Option Nat => (some (Sum.inl (4, h_N s a, Sum.inr (Sum.inr (Sum.inr (Sum.inr f))))) : Option va_E)) (funext fun j => ?_)
    show (if (if a = a ∧ j = i.toNat then q else h_R s a j) = 0 then none else some (if a = a ∧ j = i.toNat then q else h_R s a j)) = va_up (fun i => if h_R s a i = 0 then none else some (h_R s a i)) i.toNat (some q) j
    unfold va_up
    by_cases hj : j = i.toNat <;> simp [hj, hr]
  · intro z hz
    unfold h_ce
    have hR : h_R (h_sR s a i.toNat q) z = h_R s z := by
      funext j
      show (if z = a ∧ j = i.toNat then q else h_R s z j) = h_R s z j
      rw [if_neg (fun w => hz w.1)]
    rw [hR]
    rfl
theorem h_nar {t : Nat} {n : Int} (ht : t < 3 ∨ t = 4) (h0 : 0 ≤ n) (h1 : n < 60000000) : am_na (h_t G s) t (h_ii n) = some (h_t G (h_na s t n.toNat)) := by
  have hn : (h_ii n).toInt = n := h_toInt (by omega) (by omega)
  have hc : (h_ii n).toNatClampNeg = n.toNat := by unfold Int32.toNatClampNeg; rw [hn]
  unfold am_na
  rw [hc, if_neg (by
    rintro (q | q)
    · rw [Int32.lt_iff_toInt_lt, hn] at q
      have : (0 : Int32).toInt = 0 := rfl
      omega
    · omega)]
  have hoth : ∀ q, q ≠ h_nx s → h_ce G (h_na s t n.toNat) q = h_ce G s q := by
    intro q hq
    unfold h_ce
    simp only [h_kd_na, if_neg hq, h_N_na]
    have e1 : h_R (h_na s t n.toNat) q = h_R s q := by funext j; simp only [h_R_na, if_neg hq]
    have e2 : h_A (h_na s t n.toNat) q = h_A s q := by funext j; simp only [h_A_na, if_neg hq]
    rw [e1, e2]
    rfl
  rcases ht with ht | rfl
  · rw [if_pos (by omega)]
    refine congrArg some (h_psh rfl rfl ?_ hoth)
    rw [h_ce_ar (t := t) (by simp only [h_kd_na, if_true]) ht]
    simp only [h_N_na, if_true, h_A_na]
    rfl
  · rw [if_neg (by decide), if_neg (by decide), if_pos rfl]
    refine congrArg some (h_psh rfl rfl ?_ hoth)
    rw [h_ce_rf (t := 4) (by simp only [h_kd_na, if_true]) (by decide)]
    simp only [h_N_na, if_true, h_R_na]
theorem h_nb {n : Int} (h0 : 0 ≤ n) (h1 : n < 60000000) : am_na (h_t G s) 0 (h_ii n) = some (h_t G (h_na s 0 n.toNat)) := h_nar (.inl (by decide)) h0 h1
theorem h_n4 {n : Int} (h0 : 0 ≤ n) (h1 : n < 60000000) : am_na (h_t G s) 1 (h_ii n) = some (h_t G (h_na s 1 n.toNat)) := h_nar (.inl (by decide)) h0 h1
theorem h_nz {n : Int} (h0 : 0 ≤ n) (h1 : n < 60000000) : am_na (h_t G s) 2 (h_ii n) = some (h_t G (h_na s 2 n.toNat)) := h_nar (.inl (by decide)) h0 h1
theorem h_nq {n : Int} (h0 : 0 ≤ n) (h1 : n < 60000000) : am_na (h_t G s) 4 (h_ii n) = some (h_t G (h_na s 4 n.toNat)) := h_nar (.inr rfl) h0 h1
theorem h_pu {c k : Nat} {fs : List Value} (hc : c < 900) (hf : fs = h_fv (fun _ => 0) (fun _ => 0) c) : am_push (h_t G s) k (.inr (c, fs)) = h_t G (h_no s c k) := by
  refine h_psh rfl rfl ?_ ?_
  · rw [h_ce_ob (c := c) (by simp only [h_kd_no, if_true]) hc, hf]
    congr 4
    · funext j; simp only [h_I_no, if_true]
    · funext j; simp only [h_R_no, if_true]
  · intro q hq
    unfold h_ce
    simp only [h_kd_no, if_neg hq, h_N_no]
    have e1 : h_R (h_no s c k) q = h_R s q := by funext j; simp only [h_R_no, if_neg hq]
    have e2 : h_I (h_no s c k) q = h_I s q := by funext j; simp only [h_I_no, if_neg hq]
    rw [e1, e2]
    rfl
end HT
theorem r0_0 {G : Nat → Option va_E} {s : h_S} {a : Nat} (h : h_kd s a = 1) (hr : h_R s a 0 ≠ 0) : am_gr (h_t G s) a 0 0 = some (h_R s a 0) := h_gr rfl (by decide) h hr
theorem q0_0 {G : Nat → Option va_E} {s : h_S} {a r : Nat} (h : h_kd s a = 1) (hr : r ≠ 0) : am_pf (h_t G s) a 0 0 3 (.ref r) = some (h_t G (h_sR s a 0 r)) := h_pfR rfl (by decide) h (by decide) hr
theorem g0_1 {G : Nat → Option va_E} {s : h_S} {a : Nat} (h : h_kd s a = 1) : am_gi (h_t G s) a 0 1 = some (h_ii (h_I s a 1)) := h_gi rfl (by decide) h
theorem p0_1 {G : Nat → Option va_E} {s : h_S} {a : Nat} {v : Int} (h : h_kd s a = 1) : am_pf (h_t G s) a 0 1 0 (.int (h_ii v)) = some (h_t G (h_sI s a 1 v)) := h_pfI rfl (by decide) h rfl
theorem r0_2 {G : Nat → Option va_E} {s : h_S} {a : Nat} (h : h_kd s a = 1) (hr : h_R s a 2 ≠ 0) : am_gr (h_t G s) a 0 2 = some (h_R s a 2) := h_gr rfl (by decide) h hr
theorem q0_2 {G : Nat → Option va_E} {s : h_S} {a r : Nat} (h : h_kd s a = 1) (hr : r ≠ 0) : am_pf (h_t G s) a 0 2 3 (.ref r) = some (h_t G (h_sR s a 2 r)) := h_pfR rfl (by decide) h (by decide) hr
theorem r0_3 {G : Nat → Option va_E} {s : h_S} {a : Nat} (h : h_kd s a = 1) (hr : h_R s a 3 ≠ 0) : am_gr (h_t G s) a 0 3 = some (h_R s a 3) := h_gr rfl (by decide) h hr
theorem q0_3 {G : Nat → Option va_E} {s : h_S} {a r : Nat} (h : h_kd s a = 1) (hr : r ≠ 0) : am_pf (h_t G s) a 0 3 3 (.ref r) = some (h_t G (h_sR s a 3 r)) := h_pfR rfl (by decide) h (by decide) hr
theorem r0_4 {G : Nat → Option va_E} {s : h_S} {a : Nat} (h : h_kd s a = 1) (hr : h_R s a 4 ≠ 0) : am_gr (h_t G s) a 0 4 = some (h_R s a 4) := h_gr rfl (by decide) h hr
theorem q0_4 {G : Nat → Option va_E} {s : h_S} {a r : Nat} (h : h_kd s a = 1) (hr : r ≠ 0) : am_pf (h_t G s) a 0 4 2 (.ref r) = some (h_t G (h_sR s a 4 r)) := h_pfR rfl (by decide) h (by decide) hr
theorem r0_5 {G : Nat → Option va_E} {s : h_S} {a : Nat} (h : h_kd s a = 1) (hr : h_R s a 5 ≠ 0) : am_gr (h_t G s) a 0 5 = some (h_R s a 5) := h_gr rfl (by decide) h hr
theorem q0_5 {G : Nat → Option va_E} {s : h_S} {a r : Nat} (h : h_kd s a = 1) (hr : r ≠ 0) : am_pf (h_t G s) a 0 5 2 (.ref r) = some (h_t G (h_sR s a 5 r)) := h_pfR rfl (by decide) h (by decide) hr
theorem r0_6 {G : Nat → Option va_E} {s : h_S} {a : Nat} (h : h_kd s a = 1) (hr : h_R s a 6 ≠ 0) : am_gr (h_t G s) a 0 6 = some (h_R s a 6) := h_gr rfl (by decide) h hr
theorem q0_6 {G : Nat → Option va_E} {s : h_S} {a r : Nat} (h : h_kd s a = 1) (hr : r ≠ 0) : am_pf (h_t G s) a 0 6 2 (.ref r) = some (h_t G (h_sR s a 6 r)) := h_pfR rfl (by decide) h (by decide) hr
theorem r0_7 {G : Nat → Option va_E} {s : h_S} {a : Nat} (h : h_kd s a = 1) (hr : h_R s a 7 ≠ 0) : am_gr (h_t G s) a 0 7 = some (h_R s a 7) := h_gr rfl (by decide) h hr
theorem q0_7 {G : Nat → Option va_E} {s : h_S} {a r : Nat} (h : h_kd s a = 1) (hr : r ≠ 0) : am_pf (h_t G s) a 0 7 2 (.ref r) = some (h_t G (h_sR s a 7 r)) := h_pfR rfl (by decide) h (by decide) hr
theorem r1_0 {G : Nat → Option va_E} {s : h_S} {a : Nat} (h : h_kd s a = 2) (hr : h_R s a 0 ≠ 0) : am_gr (h_t G s) a 1 0 = some (h_R s a 0) := h_gr rfl (by decide) h hr
theorem q1_0 {G : Nat → Option va_E} {s : h_S} {a r : Nat} (h : h_kd s a = 2) (hr : r ≠ 0) : am_pf (h_t G s) a 1 0 3 (.ref r) = some (h_t G (h_sR s a 0 r)) := h_pfR rfl (by decide) h (by decide) hr
theorem r1_1 {G : Nat → Option va_E} {s : h_S} {a : Nat} (h : h_kd s a = 2) (hr : h_R s a 1 ≠ 0) : am_gr (h_t G s) a 1 1 = some (h_R s a 1) := h_gr rfl (by decide) h hr
theorem q1_1 {G : Nat → Option va_E} {s : h_S} {a r : Nat} (h : h_kd s a = 2) (hr : r ≠ 0) : am_pf (h_t G s) a 1 1 3 (.ref r) = some (h_t G (h_sR s a 1 r)) := h_pfR rfl (by decide) h (by decide) hr
theorem g1_2 {G : Nat → Option va_E} {s : h_S} {a : Nat} (h : h_kd s a = 2) : am_gi (h_t G s) a 1 2 = some (h_ii (h_I s a 2)) := h_gi rfl (by decide) h
theorem p1_2 {G : Nat → Option va_E} {s : h_S} {a : Nat} {v : Int} (h : h_kd s a = 2) : am_pf (h_t G s) a 1 2 0 (.int (h_ii v)) = some (h_t G (h_sI s a 2 v)) := h_pfI rfl (by decide) h rfl
theorem g1_3 {G : Nat → Option va_E} {s : h_S} {a : Nat} (h : h_kd s a = 2) : am_gi (h_t G s) a 1 3 = some (h_ii (h_I s a 3)) := h_gi rfl (by decide) h
theorem p1_3 {G : Nat → Option va_E} {s : h_S} {a : Nat} {v : Int} (h : h_kd s a = 2) : am_pf (h_t G s) a 1 3 0 (.int (h_ii v)) = some (h_t G (h_sI s a 3 v)) := h_pfI rfl (by decide) h rfl
theorem g1_4 {G : Nat → Option va_E} {s : h_S} {a : Nat} (h : h_kd s a = 2) : am_gi (h_t G s) a 1 4 = some (h_ii (h_I s a 4)) := h_gi rfl (by decide) h
theorem p1_4 {G : Nat → Option va_E} {s : h_S} {a : Nat} {v : Int} (h : h_kd s a = 2) : am_pf (h_t G s) a 1 4 0 (.int (h_ii v)) = some (h_t G (h_sI s a 4 v)) := h_pfI rfl (by decide) h rfl
theorem g1_5 {G : Nat → Option va_E} {s : h_S} {a : Nat} (h : h_kd s a = 2) : am_gi (h_t G s) a 1 5 = some (h_ii (h_I s a 5)) := h_gi rfl (by decide) h
theorem p1_5 {G : Nat → Option va_E} {s : h_S} {a : Nat} {v : Int} (h : h_kd s a = 2) (hv : v = 0 ∨ v = 1) : am_pf (h_t G s) a 1 5 1 (.int (h_ii v)) = some (h_t G (h_sI s a 5 v)) := h_pfI rfl (by decide) h (by rcases hv with rfl | rfl <;> decide)
theorem r2_0 {G : Nat → Option va_E} {s : h_S} {a : Nat} (h : h_kd s a = 3) (hr : h_R s a 0 ≠ 0) : am_gr (h_t G s) a 2 0 = some (h_R s a 0) := h_gr rfl (by decide) h hr
theorem q2_0 {G : Nat → Option va_E} {s : h_S} {a r : Nat} (h : h_kd s a = 3) (hr : r ≠ 0) : am_pf (h_t G s) a 2 0 3 (.ref r) = some (h_t G (h_sR s a 0 r)) := h_pfR rfl (by decide) h (by decide) hr
theorem g2_1 {G : Nat → Option va_E} {s : h_S} {a : Nat} (h : h_kd s a = 3) : am_gi (h_t G s) a 2 1 = some (h_ii (h_I s a 1)) := h_gi rfl (by decide) h
theorem p2_1 {G : Nat → Option va_E} {s : h_S} {a : Nat} {v : Int} (h : h_kd s a = 3) : am_pf (h_t G s) a 2 1 0 (.int (h_ii v)) = some (h_t G (h_sI s a 1 v)) := h_pfI rfl (by decide) h rfl
theorem g2_2 {G : Nat → Option va_E} {s : h_S} {a : Nat} (h : h_kd s a = 3) : am_gi (h_t G s) a 2 2 = some (h_ii (h_I s a 2)) := h_gi rfl (by decide) h
theorem p2_2 {G : Nat → Option va_E} {s : h_S} {a : Nat} {v : Int} (h : h_kd s a = 3) : am_pf (h_t G s) a 2 2 0 (.int (h_ii v)) = some (h_t G (h_sI s a 2 v)) := h_pfI rfl (by decide) h rfl
theorem r2_3 {G : Nat → Option va_E} {s : h_S} {a : Nat} (h : h_kd s a = 3) (hr : h_R s a 3 ≠ 0) : am_gr (h_t G s) a 2 3 = some (h_R s a 3) := h_gr rfl (by decide) h hr
theorem q2_3 {G : Nat → Option va_E} {s : h_S} {a r : Nat} (h : h_kd s a = 3) (hr : r ≠ 0) : am_pf (h_t G s) a 2 3 3 (.ref r) = some (h_t G (h_sR s a 3 r)) := h_pfR rfl (by decide) h (by decide) hr
theorem g2_4 {G : Nat → Option va_E} {s : h_S} {a : Nat} (h : h_kd s a = 3) : am_gi (h_t G s) a 2 4 = some (h_ii (h_I s a 4)) := h_gi rfl (by decide) h
theorem p2_4 {G : Nat → Option va_E} {s : h_S} {a : Nat} {v : Int} (h : h_kd s a = 3) : am_pf (h_t G s) a 2 4 0 (.int (h_ii v)) = some (h_t G (h_sI s a 4 v)) := h_pfI rfl (by decide) h rfl
theorem g2_5 {G : Nat → Option va_E} {s : h_S} {a : Nat} (h : h_kd s a = 3) : am_gi (h_t G s) a 2 5 = some (h_ii (h_I s a 5)) := h_gi rfl (by decide) h
theorem p2_5 {G : Nat → Option va_E} {s : h_S} {a : Nat} {v : Int} (h : h_kd s a = 3) (hv : v = 0 ∨ v = 1) : am_pf (h_t G s) a 2 5 1 (.int (h_ii v)) = some (h_t G (h_sI s a 5 v)) := h_pfI rfl (by decide) h (by rcases hv with rfl | rfl <;> decide)
theorem g2_6 {G : Nat → Option va_E} {s : h_S} {a : Nat} (h : h_kd s a = 3) : am_gi (h_t G s) a 2 6 = some (h_ii (h_I s a 6)) := h_gi rfl (by decide) h
theorem p2_6 {G : Nat → Option va_E} {s : h_S} {a : Nat} {v : Int} (h : h_kd s a = 3) : am_pf (h_t G s) a 2 6 0 (.int (h_ii v)) = some (h_t G (h_sI s a 6 v)) := h_pfI rfl (by decide) h rfl
theorem g2_7 {G : Nat → Option va_E} {s : h_S} {a : Nat} (h : h_kd s a = 3) : am_gi (h_t G s) a 2 7 = some (h_ii (h_I s a 7)) := h_gi rfl (by decide) h
theorem p2_7 {G : Nat → Option va_E} {s : h_S} {a : Nat} {v : Int} (h : h_kd s a = 3) : am_pf (h_t G s) a 2 7 0 (.int (h_ii v)) = some (h_t G (h_sI s a 7 v)) := h_pfI rfl (by decide) h rfl
theorem g2_8 {G : Nat → Option va_E} {s : h_S} {a : Nat} (h : h_kd s a = 3) : am_gi (h_t G s) a 2 8 = some (h_ii (h_I s a 8)) := h_gi rfl (by decide) h
theorem p2_8 {G : Nat → Option va_E} {s : h_S} {a : Nat} {v : Int} (h : h_kd s a = 3) : am_pf (h_t G s) a 2 8 0 (.int (h_ii v)) = some (h_t G (h_sI s a 8 v)) := h_pfI rfl (by decide) h rfl
theorem g2_9 {G : Nat → Option va_E} {s : h_S} {a : Nat} (h : h_kd s a = 3) : am_gi (h_t G s) a 2 9 = some (h_ii (h_I s a 9)) := h_gi rfl (by decide) h
theorem p2_9 {G : Nat → Option va_E} {s : h_S} {a : Nat} {v : Int} (h : h_kd s a = 3) : am_pf (h_t G s) a 2 9 0 (.int (h_ii v)) = some (h_t G (h_sI s a 9 v)) := h_pfI rfl (by decide) h rfl
theorem r3_0 {G : Nat → Option va_E} {s : h_S} {a : Nat} (h : h_kd s a = 4) (hr : h_R s a 0 ≠ 0) : am_gr (h_t G s) a 3 0 = some (h_R s a 0) := h_gr rfl (by decide) h hr
theorem q3_0 {G : Nat → Option va_E} {s : h_S} {a r : Nat} (h : h_kd s a = 4) (hr : r ≠ 0) : am_pf (h_t G s) a 3 0 3 (.ref r) = some (h_t G (h_sR s a 0 r)) := h_pfR rfl (by decide) h (by decide) hr
theorem r3_1 {G : Nat → Option va_E} {s : h_S} {a : Nat} (h : h_kd s a = 4) (hr : h_R s a 1 ≠ 0) : am_gr (h_t G s) a 3 1 = some (h_R s a 1) := h_gr rfl (by decide) h hr
theorem q3_1 {G : Nat → Option va_E} {s : h_S} {a r : Nat} (h : h_kd s a = 4) (hr : r ≠ 0) : am_pf (h_t G s) a 3 1 3 (.ref r) = some (h_t G (h_sR s a 1 r)) := h_pfR rfl (by decide) h (by decide) hr
theorem r3_2 {G : Nat → Option va_E} {s : h_S} {a : Nat} (h : h_kd s a = 4) (hr : h_R s a 2 ≠ 0) : am_gr (h_t G s) a 3 2 = some (h_R s a 2) := h_gr rfl (by decide) h hr
theorem q3_2 {G : Nat → Option va_E} {s : h_S} {a r : Nat} (h : h_kd s a = 4) (hr : r ≠ 0) : am_pf (h_t G s) a 3 2 3 (.ref r) = some (h_t G (h_sR s a 2 r)) := h_pfR rfl (by decide) h (by decide) hr
theorem r3_3 {G : Nat → Option va_E} {s : h_S} {a : Nat} (h : h_kd s a = 4) (hr : h_R s a 3 ≠ 0) : am_gr (h_t G s) a 3 3 = some (h_R s a 3) := h_gr rfl (by decide) h hr
theorem q3_3 {G : Nat → Option va_E} {s : h_S} {a r : Nat} (h : h_kd s a = 4) (hr : r ≠ 0) : am_pf (h_t G s) a 3 3 3 (.ref r) = some (h_t G (h_sR s a 3 r)) := h_pfR rfl (by decide) h (by decide) hr
theorem g3_4 {G : Nat → Option va_E} {s : h_S} {a : Nat} (h : h_kd s a = 4) : am_gi (h_t G s) a 3 4 = some (h_ii (h_I s a 4)) := h_gi rfl (by decide) h
theorem p3_4 {G : Nat → Option va_E} {s : h_S} {a : Nat} {v : Int} (h : h_kd s a = 4) : am_pf (h_t G s) a 3 4 0 (.int (h_ii v)) = some (h_t G (h_sI s a 4 v)) := h_pfI rfl (by decide) h rfl
theorem r3_5 {G : Nat → Option va_E} {s : h_S} {a : Nat} (h : h_kd s a = 4) (hr : h_R s a 5 ≠ 0) : am_gr (h_t G s) a 3 5 = some (h_R s a 5) := h_gr rfl (by decide) h hr
theorem q3_5 {G : Nat → Option va_E} {s : h_S} {a r : Nat} (h : h_kd s a = 4) (hr : r ≠ 0) : am_pf (h_t G s) a 3 5 3 (.ref r) = some (h_t G (h_sR s a 5 r)) := h_pfR rfl (by decide) h (by decide) hr
theorem g3_6 {G : Nat → Option va_E} {s : h_S} {a : Nat} (h : h_kd s a = 4) : am_gi (h_t G s) a 3 6 = some (h_ii (h_I s a 6)) := h_gi rfl (by decide) h
theorem p3_6 {G : Nat → Option va_E} {s : h_S} {a : Nat} {v : Int} (h : h_kd s a = 4) : am_pf (h_t G s) a 3 6 0 (.int (h_ii v)) = some (h_t G (h_sI s a 6 v)) := h_pfI rfl (by decide) h rfl
theorem g3_7 {G : Nat → Option va_E} {s : h_S} {a : Nat} (h : h_kd s a = 4) : am_gi (h_t G s) a 3 7 = some (h_ii (h_I s a 7)) := h_gi rfl (by decide) h
theorem p3_7 {G : Nat → Option va_E} {s : h_S} {a : Nat} {v : Int} (h : h_kd s a = 4) : am_pf (h_t G s) a 3 7 0 (.int (h_ii v)) = some (h_t G (h_sI s a 7 v)) := h_pfI rfl (by decide) h rfl
theorem g3_8 {G : Nat → Option va_E} {s : h_S} {a : Nat} (h : h_kd s a = 4) : am_gi (h_t G s) a 3 8 = some (h_ii (h_I s a 8)) := h_gi rfl (by decide) h
theorem p3_8 {G : Nat → Option va_E} {s : h_S} {a : Nat} {v : Int} (h : h_kd s a = 4) : am_pf (h_t G s) a 3 8 0 (.int (h_ii v)) = some (h_t G (h_sI s a 8 v)) := h_pfI rfl (by decide) h rfl
theorem g3_9 {G : Nat → Option va_E} {s : h_S} {a : Nat} (h : h_kd s a = 4) : am_gi (h_t G s) a 3 9 = some (h_ii (h_I s a 9)) := h_gi rfl (by decide) h
theorem p3_9 {G : Nat → Option va_E} {s : h_S} {a : Nat} {v : Int} (h : h_kd s a = 4) : am_pf (h_t G s) a 3 9 0 (.int (h_ii v)) = some (h_t G (h_sI s a 9 v)) := h_pfI rfl (by decide) h rfl
theorem g3_10 {G : Nat → Option va_E} {s : h_S} {a : Nat} (h : h_kd s a = 4) : am_gi (h_t G s) a 3 10 = some (h_ii (h_I s a 10)) := h_gi rfl (by decide) h
theorem p3_10 {G : Nat → Option va_E} {s : h_S} {a : Nat} {v : Int} (h : h_kd s a = 4) : am_pf (h_t G s) a 3 10 0 (.int (h_ii v)) = some (h_t G (h_sI s a 10 v)) := h_pfI rfl (by decide) h rfl
theorem r3_11 {G : Nat → Option va_E} {s : h_S} {a : Nat} (h : h_kd s a = 4) (hr : h_R s a 11 ≠ 0) : am_gr (h_t G s) a 3 11 = some (h_R s a 11) := h_gr rfl (by decide) h hr
theorem q3_11 {G : Nat → Option va_E} {s : h_S} {a r : Nat} (h : h_kd s a = 4) (hr : r ≠ 0) : am_pf (h_t G s) a 3 11 3 (.ref r) = some (h_t G (h_sR s a 11 r)) := h_pfR rfl (by decide) h (by decide) hr
theorem r4_0 {G : Nat → Option va_E} {s : h_S} {a : Nat} (h : h_kd s a = 5) (hr : h_R s a 0 ≠ 0) : am_gr (h_t G s) a 4 0 = some (h_R s a 0) := h_gr rfl (by decide) h hr
theorem q4_0 {G : Nat → Option va_E} {s : h_S} {a r : Nat} (h : h_kd s a = 5) (hr : r ≠ 0) : am_pf (h_t G s) a 4 0 2 (.ref r) = some (h_t G (h_sR s a 0 r)) := h_pfR rfl (by decide) h (by decide) hr
theorem r4_1 {G : Nat → Option va_E} {s : h_S} {a : Nat} (h : h_kd s a = 5) (hr : h_R s a 1 ≠ 0) : am_gr (h_t G s) a 4 1 = some (h_R s a 1) := h_gr rfl (by decide) h hr
theorem q4_1 {G : Nat → Option va_E} {s : h_S} {a r : Nat} (h : h_kd s a = 5) (hr : r ≠ 0) : am_pf (h_t G s) a 4 1 2 (.ref r) = some (h_t G (h_sR s a 1 r)) := h_pfR rfl (by decide) h (by decide) hr
theorem r4_2 {G : Nat → Option va_E} {s : h_S} {a : Nat} (h : h_kd s a = 5) (hr : h_R s a 2 ≠ 0) : am_gr (h_t G s) a 4 2 = some (h_R s a 2) := h_gr rfl (by decide) h hr
theorem q4_2 {G : Nat → Option va_E} {s : h_S} {a r : Nat} (h : h_kd s a = 5) (hr : r ≠ 0) : am_pf (h_t G s) a 4 2 2 (.ref r) = some (h_t G (h_sR s a 2 r)) := h_pfR rfl (by decide) h (by decide) hr
theorem r4_3 {G : Nat → Option va_E} {s : h_S} {a : Nat} (h : h_kd s a = 5) (hr : h_R s a 3 ≠ 0) : am_gr (h_t G s) a 4 3 = some (h_R s a 3) := h_gr rfl (by decide) h hr
theorem q4_3 {G : Nat → Option va_E} {s : h_S} {a r : Nat} (h : h_kd s a = 5) (hr : r ≠ 0) : am_pf (h_t G s) a 4 3 2 (.ref r) = some (h_t G (h_sR s a 3 r)) := h_pfR rfl (by decide) h (by decide) hr
theorem g4_4 {G : Nat → Option va_E} {s : h_S} {a : Nat} (h : h_kd s a = 5) : am_gi (h_t G s) a 4 4 = some (h_ii (h_I s a 4)) := h_gi rfl (by decide) h
theorem p4_4 {G : Nat → Option va_E} {s : h_S} {a : Nat} {v : Int} (h : h_kd s a = 5) : am_pf (h_t G s) a 4 4 0 (.int (h_ii v)) = some (h_t G (h_sI s a 4 v)) := h_pfI rfl (by decide) h rfl
theorem g4_5 {G : Nat → Option va_E} {s : h_S} {a : Nat} (h : h_kd s a = 5) : am_gi (h_t G s) a 4 5 = some (h_ii (h_I s a 5)) := h_gi rfl (by decide) h
theorem p4_5 {G : Nat → Option va_E} {s : h_S} {a : Nat} {v : Int} (h : h_kd s a = 5) : am_pf (h_t G s) a 4 5 0 (.int (h_ii v)) = some (h_t G (h_sI s a 5 v)) := h_pfI rfl (by decide) h rfl
theorem r4_6 {G : Nat → Option va_E} {s : h_S} {a : Nat} (h : h_kd s a = 5) (hr : h_R s a 6 ≠ 0) : am_gr (h_t G s) a 4 6 = some (h_R s a 6) := h_gr rfl (by decide) h hr
theorem q4_6 {G : Nat → Option va_E} {s : h_S} {a r : Nat} (h : h_kd s a = 5) (hr : r ≠ 0) : am_pf (h_t G s) a 4 6 3 (.ref r) = some (h_t G (h_sR s a 6 r)) := h_pfR rfl (by decide) h (by decide) hr
theorem r4_7 {G : Nat → Option va_E} {s : h_S} {a : Nat} (h : h_kd s a = 5) (hr : h_R s a 7 ≠ 0) : am_gr (h_t G s) a 4 7 = some (h_R s a 7) := h_gr rfl (by decide) h hr
theorem q4_7 {G : Nat → Option va_E} {s : h_S} {a r : Nat} (h : h_kd s a = 5) (hr : r ≠ 0) : am_pf (h_t G s) a 4 7 3 (.ref r) = some (h_t G (h_sR s a 7 r)) := h_pfR rfl (by decide) h (by decide) hr
theorem g4_8 {G : Nat → Option va_E} {s : h_S} {a : Nat} (h : h_kd s a = 5) : am_gi (h_t G s) a 4 8 = some (h_ii (h_I s a 8)) := h_gi rfl (by decide) h
theorem p4_8 {G : Nat → Option va_E} {s : h_S} {a : Nat} {v : Int} (h : h_kd s a = 5) : am_pf (h_t G s) a 4 8 0 (.int (h_ii v)) = some (h_t G (h_sI s a 8 v)) := h_pfI rfl (by decide) h rfl
theorem r4_9 {G : Nat → Option va_E} {s : h_S} {a : Nat} (h : h_kd s a = 5) (hr : h_R s a 9 ≠ 0) : am_gr (h_t G s) a 4 9 = some (h_R s a 9) := h_gr rfl (by decide) h hr
theorem q4_9 {G : Nat → Option va_E} {s : h_S} {a r : Nat} (h : h_kd s a = 5) (hr : r ≠ 0) : am_pf (h_t G s) a 4 9 3 (.ref r) = some (h_t G (h_sR s a 9 r)) := h_pfR rfl (by decide) h (by decide) hr
theorem r4_10 {G : Nat → Option va_E} {s : h_S} {a : Nat} (h : h_kd s a = 5) (hr : h_R s a 10 ≠ 0) : am_gr (h_t G s) a 4 10 = some (h_R s a 10) := h_gr rfl (by decide) h hr
theorem q4_10 {G : Nat → Option va_E} {s : h_S} {a r : Nat} (h : h_kd s a = 5) (hr : r ≠ 0) : am_pf (h_t G s) a 4 10 3 (.ref r) = some (h_t G (h_sR s a 10 r)) := h_pfR rfl (by decide) h (by decide) hr
theorem g4_11 {G : Nat → Option va_E} {s : h_S} {a : Nat} (h : h_kd s a = 5) : am_gi (h_t G s) a 4 11 = some (h_ii (h_I s a 11)) := h_gi rfl (by decide) h
theorem p4_11 {G : Nat → Option va_E} {s : h_S} {a : Nat} {v : Int} (h : h_kd s a = 5) : am_pf (h_t G s) a 4 11 0 (.int (h_ii v)) = some (h_t G (h_sI s a 11 v)) := h_pfI rfl (by decide) h rfl
theorem r4_12 {G : Nat → Option va_E} {s : h_S} {a : Nat} (h : h_kd s a = 5) (hr : h_R s a 12 ≠ 0) : am_gr (h_t G s) a 4 12 = some (h_R s a 12) := h_gr rfl (by decide) h hr
theorem q4_12 {G : Nat → Option va_E} {s : h_S} {a r : Nat} (h : h_kd s a = 5) (hr : r ≠ 0) : am_pf (h_t G s) a 4 12 3 (.ref r) = some (h_t G (h_sR s a 12 r)) := h_pfR rfl (by decide) h (by decide) hr
theorem r4_13 {G : Nat → Option va_E} {s : h_S} {a : Nat} (h : h_kd s a = 5) (hr : h_R s a 13 ≠ 0) : am_gr (h_t G s) a 4 13 = some (h_R s a 13) := h_gr rfl (by decide) h hr
theorem q4_13 {G : Nat → Option va_E} {s : h_S} {a r : Nat} (h : h_kd s a = 5) (hr : r ≠ 0) : am_pf (h_t G s) a 4 13 2 (.ref r) = some (h_t G (h_sR s a 13 r)) := h_pfR rfl (by decide) h (by decide) hr
theorem r4_14 {G : Nat → Option va_E} {s : h_S} {a : Nat} (h : h_kd s a = 5) (hr : h_R s a 14 ≠ 0) : am_gr (h_t G s) a 4 14 = some (h_R s a 14) := h_gr rfl (by decide) h hr
theorem q4_14 {G : Nat → Option va_E} {s : h_S} {a r : Nat} (h : h_kd s a = 5) (hr : r ≠ 0) : am_pf (h_t G s) a 4 14 2 (.ref r) = some (h_t G (h_sR s a 14 r)) := h_pfR rfl (by decide) h (by decide) hr
theorem g4_15 {G : Nat → Option va_E} {s : h_S} {a : Nat} (h : h_kd s a = 5) : am_gi (h_t G s) a 4 15 = some (h_ii (h_I s a 15)) := h_gi rfl (by decide) h
theorem p4_15 {G : Nat → Option va_E} {s : h_S} {a : Nat} {v : Int} (h : h_kd s a = 5) : am_pf (h_t G s) a 4 15 0 (.int (h_ii v)) = some (h_t G (h_sI s a 15 v)) := h_pfI rfl (by decide) h rfl
theorem g4_16 {G : Nat → Option va_E} {s : h_S} {a : Nat} (h : h_kd s a = 5) : am_gi (h_t G s) a 4 16 = some (h_ii (h_I s a 16)) := h_gi rfl (by decide) h
theorem p4_16 {G : Nat → Option va_E} {s : h_S} {a : Nat} {v : Int} (h : h_kd s a = 5) : am_pf (h_t G s) a 4 16 0 (.int (h_ii v)) = some (h_t G (h_sI s a 16 v)) := h_pfI rfl (by decide) h rfl
theorem g4_17 {G : Nat → Option va_E} {s : h_S} {a : Nat} (h : h_kd s a = 5) : am_gi (h_t G s) a 4 17 = some (h_ii (h_I s a 17)) := h_gi rfl (by decide) h
theorem p4_17 {G : Nat → Option va_E} {s : h_S} {a : Nat} {v : Int} (h : h_kd s a = 5) : am_pf (h_t G s) a 4 17 0 (.int (h_ii v)) = some (h_t G (h_sI s a 17 v)) := h_pfI rfl (by decide) h rfl
theorem g4_18 {G : Nat → Option va_E} {s : h_S} {a : Nat} (h : h_kd s a = 5) : am_gi (h_t G s) a 4 18 = some (h_ii (h_I s a 18)) := h_gi rfl (by decide) h
theorem p4_18 {G : Nat → Option va_E} {s : h_S} {a : Nat} {v : Int} (h : h_kd s a = 5) : am_pf (h_t G s) a 4 18 0 (.int (h_ii v)) = some (h_t G (h_sI s a 18 v)) := h_pfI rfl (by decide) h rfl
theorem r5_0 {G : Nat → Option va_E} {s : h_S} {a : Nat} (h : h_kd s a = 6) (hr : h_R s a 0 ≠ 0) : am_gr (h_t G s) a 5 0 = some (h_R s a 0) := h_gr rfl (by decide) h hr
theorem q5_0 {G : Nat → Option va_E} {s : h_S} {a r : Nat} (h : h_kd s a = 6) (hr : r ≠ 0) : am_pf (h_t G s) a 5 0 3 (.ref r) = some (h_t G (h_sR s a 0 r)) := h_pfR rfl (by decide) h (by decide) hr
theorem g5_1 {G : Nat → Option va_E} {s : h_S} {a : Nat} (h : h_kd s a = 6) : am_gi (h_t G s) a 5 1 = some (h_ii (h_I s a 1)) := h_gi rfl (by decide) h
theorem p5_1 {G : Nat → Option va_E} {s : h_S} {a : Nat} {v : Int} (h : h_kd s a = 6) : am_pf (h_t G s) a 5 1 0 (.int (h_ii v)) = some (h_t G (h_sI s a 1 v)) := h_pfI rfl (by decide) h rfl
theorem g5_2 {G : Nat → Option va_E} {s : h_S} {a : Nat} (h : h_kd s a = 6) : am_gi (h_t G s) a 5 2 = some (h_ii (h_I s a 2)) := h_gi rfl (by decide) h
theorem p5_2 {G : Nat → Option va_E} {s : h_S} {a : Nat} {v : Int} (h : h_kd s a = 6) : am_pf (h_t G s) a 5 2 0 (.int (h_ii v)) = some (h_t G (h_sI s a 2 v)) := h_pfI rfl (by decide) h rfl
theorem g5_3 {G : Nat → Option va_E} {s : h_S} {a : Nat} (h : h_kd s a = 6) : am_gi (h_t G s) a 5 3 = some (h_ii (h_I s a 3)) := h_gi rfl (by decide) h
theorem p5_3 {G : Nat → Option va_E} {s : h_S} {a : Nat} {v : Int} (h : h_kd s a = 6) : am_pf (h_t G s) a 5 3 0 (.int (h_ii v)) = some (h_t G (h_sI s a 3 v)) := h_pfI rfl (by decide) h rfl
theorem g5_4 {G : Nat → Option va_E} {s : h_S} {a : Nat} (h : h_kd s a = 6) : am_gi (h_t G s) a 5 4 = some (h_ii (h_I s a 4)) := h_gi rfl (by decide) h
theorem p5_4 {G : Nat → Option va_E} {s : h_S} {a : Nat} {v : Int} (h : h_kd s a = 6) : am_pf (h_t G s) a 5 4 0 (.int (h_ii v)) = some (h_t G (h_sI s a 4 v)) := h_pfI rfl (by decide) h rfl
theorem g5_5 {G : Nat → Option va_E} {s : h_S} {a : Nat} (h : h_kd s a = 6) : am_gi (h_t G s) a 5 5 = some (h_ii (h_I s a 5)) := h_gi rfl (by decide) h
theorem p5_5 {G : Nat → Option va_E} {s : h_S} {a : Nat} {v : Int} (h : h_kd s a = 6) : am_pf (h_t G s) a 5 5 0 (.int (h_ii v)) = some (h_t G (h_sI s a 5 v)) := h_pfI rfl (by decide) h rfl
theorem r6_0 {G : Nat → Option va_E} {s : h_S} {a : Nat} (h : h_kd s a = 7) (hr : h_R s a 0 ≠ 0) : am_gr (h_t G s) a 6 0 = some (h_R s a 0) := h_gr rfl (by decide) h hr
theorem q6_0 {G : Nat → Option va_E} {s : h_S} {a r : Nat} (h : h_kd s a = 7) (hr : r ≠ 0) : am_pf (h_t G s) a 6 0 3 (.ref r) = some (h_t G (h_sR s a 0 r)) := h_pfR rfl (by decide) h (by decide) hr
theorem r6_1 {G : Nat → Option va_E} {s : h_S} {a : Nat} (h : h_kd s a = 7) (hr : h_R s a 1 ≠ 0) : am_gr (h_t G s) a 6 1 = some (h_R s a 1) := h_gr rfl (by decide) h hr
theorem q6_1 {G : Nat → Option va_E} {s : h_S} {a r : Nat} (h : h_kd s a = 7) (hr : r ≠ 0) : am_pf (h_t G s) a 6 1 3 (.ref r) = some (h_t G (h_sR s a 1 r)) := h_pfR rfl (by decide) h (by decide) hr
theorem r6_2 {G : Nat → Option va_E} {s : h_S} {a : Nat} (h : h_kd s a = 7) (hr : h_R s a 2 ≠ 0) : am_gr (h_t G s) a 6 2 = some (h_R s a 2) := h_gr rfl (by decide) h hr
theorem q6_2 {G : Nat → Option va_E} {s : h_S} {a r : Nat} (h : h_kd s a = 7) (hr : r ≠ 0) : am_pf (h_t G s) a 6 2 3 (.ref r) = some (h_t G (h_sR s a 2 r)) := h_pfR rfl (by decide) h (by decide) hr
theorem r6_3 {G : Nat → Option va_E} {s : h_S} {a : Nat} (h : h_kd s a = 7) (hr : h_R s a 3 ≠ 0) : am_gr (h_t G s) a 6 3 = some (h_R s a 3) := h_gr rfl (by decide) h hr
theorem q6_3 {G : Nat → Option va_E} {s : h_S} {a r : Nat} (h : h_kd s a = 7) (hr : r ≠ 0) : am_pf (h_t G s) a 6 3 3 (.ref r) = some (h_t G (h_sR s a 3 r)) := h_pfR rfl (by decide) h (by decide) hr
theorem r6_4 {G : Nat → Option va_E} {s : h_S} {a : Nat} (h : h_kd s a = 7) (hr : h_R s a 4 ≠ 0) : am_gr (h_t G s) a 6 4 = some (h_R s a 4) := h_gr rfl (by decide) h hr
theorem q6_4 {G : Nat → Option va_E} {s : h_S} {a r : Nat} (h : h_kd s a = 7) (hr : r ≠ 0) : am_pf (h_t G s) a 6 4 3 (.ref r) = some (h_t G (h_sR s a 4 r)) := h_pfR rfl (by decide) h (by decide) hr
theorem r6_5 {G : Nat → Option va_E} {s : h_S} {a : Nat} (h : h_kd s a = 7) (hr : h_R s a 5 ≠ 0) : am_gr (h_t G s) a 6 5 = some (h_R s a 5) := h_gr rfl (by decide) h hr
theorem q6_5 {G : Nat → Option va_E} {s : h_S} {a r : Nat} (h : h_kd s a = 7) (hr : r ≠ 0) : am_pf (h_t G s) a 6 5 3 (.ref r) = some (h_t G (h_sR s a 5 r)) := h_pfR rfl (by decide) h (by decide) hr
theorem r6_6 {G : Nat → Option va_E} {s : h_S} {a : Nat} (h : h_kd s a = 7) (hr : h_R s a 6 ≠ 0) : am_gr (h_t G s) a 6 6 = some (h_R s a 6) := h_gr rfl (by decide) h hr
theorem q6_6 {G : Nat → Option va_E} {s : h_S} {a r : Nat} (h : h_kd s a = 7) (hr : r ≠ 0) : am_pf (h_t G s) a 6 6 3 (.ref r) = some (h_t G (h_sR s a 6 r)) := h_pfR rfl (by decide) h (by decide) hr
theorem r6_7 {G : Nat → Option va_E} {s : h_S} {a : Nat} (h : h_kd s a = 7) (hr : h_R s a 7 ≠ 0) : am_gr (h_t G s) a 6 7 = some (h_R s a 7) := h_gr rfl (by decide) h hr
theorem q6_7 {G : Nat → Option va_E} {s : h_S} {a r : Nat} (h : h_kd s a = 7) (hr : r ≠ 0) : am_pf (h_t G s) a 6 7 3 (.ref r) = some (h_t G (h_sR s a 7 r)) := h_pfR rfl (by decide) h (by decide) hr
theorem g6_8 {G : Nat → Option va_E} {s : h_S} {a : Nat} (h : h_kd s a = 7) : am_gi (h_t G s) a 6 8 = some (h_ii (h_I s a 8)) := h_gi rfl (by decide) h
theorem p6_8 {G : Nat → Option va_E} {s : h_S} {a : Nat} {v : Int} (h : h_kd s a = 7) : am_pf (h_t G s) a 6 8 0 (.int (h_ii v)) = some (h_t G (h_sI s a 8 v)) := h_pfI rfl (by decide) h rfl
theorem r7_0 {G : Nat → Option va_E} {s : h_S} {a : Nat} (h : h_kd s a = 8) (hr : h_R s a 0 ≠ 0) : am_gr (h_t G s) a 7 0 = some (h_R s a 0) := h_gr rfl (by decide) h hr
theorem q7_0 {G : Nat → Option va_E} {s : h_S} {a r : Nat} (h : h_kd s a = 8) (hr : r ≠ 0) : am_pf (h_t G s) a 7 0 3 (.ref r) = some (h_t G (h_sR s a 0 r)) := h_pfR rfl (by decide) h (by decide) hr
theorem r7_1 {G : Nat → Option va_E} {s : h_S} {a : Nat} (h : h_kd s a = 8) (hr : h_R s a 1 ≠ 0) : am_gr (h_t G s) a 7 1 = some (h_R s a 1) := h_gr rfl (by decide) h hr
theorem q7_1 {G : Nat → Option va_E} {s : h_S} {a r : Nat} (h : h_kd s a = 8) (hr : r ≠ 0) : am_pf (h_t G s) a 7 1 3 (.ref r) = some (h_t G (h_sR s a 1 r)) := h_pfR rfl (by decide) h (by decide) hr
theorem r8_0 {G : Nat → Option va_E} {s : h_S} {a : Nat} (h : h_kd s a = 9) (hr : h_R s a 0 ≠ 0) : am_gr (h_t G s) a 8 0 = some (h_R s a 0) := h_gr rfl (by decide) h hr
theorem q8_0 {G : Nat → Option va_E} {s : h_S} {a r : Nat} (h : h_kd s a = 9) (hr : r ≠ 0) : am_pf (h_t G s) a 8 0 3 (.ref r) = some (h_t G (h_sR s a 0 r)) := h_pfR rfl (by decide) h (by decide) hr
theorem r8_1 {G : Nat → Option va_E} {s : h_S} {a : Nat} (h : h_kd s a = 9) (hr : h_R s a 1 ≠ 0) : am_gr (h_t G s) a 8 1 = some (h_R s a 1) := h_gr rfl (by decide) h hr
theorem q8_1 {G : Nat → Option va_E} {s : h_S} {a r : Nat} (h : h_kd s a = 9) (hr : r ≠ 0) : am_pf (h_t G s) a 8 1 3 (.ref r) = some (h_t G (h_sR s a 1 r)) := h_pfR rfl (by decide) h (by decide) hr
theorem r8_2 {G : Nat → Option va_E} {s : h_S} {a : Nat} (h : h_kd s a = 9) (hr : h_R s a 2 ≠ 0) : am_gr (h_t G s) a 8 2 = some (h_R s a 2) := h_gr rfl (by decide) h hr
theorem q8_2 {G : Nat → Option va_E} {s : h_S} {a r : Nat} (h : h_kd s a = 9) (hr : r ≠ 0) : am_pf (h_t G s) a 8 2 3 (.ref r) = some (h_t G (h_sR s a 2 r)) := h_pfR rfl (by decide) h (by decide) hr
theorem g9_0 {G : Nat → Option va_E} {s : h_S} {a : Nat} (h : h_kd s a = 10) : am_gi (h_t G s) a 9 0 = some (h_ii (h_I s a 0)) := h_gi rfl (by decide) h
theorem p9_0 {G : Nat → Option va_E} {s : h_S} {a : Nat} {v : Int} (h : h_kd s a = 10) : am_pf (h_t G s) a 9 0 0 (.int (h_ii v)) = some (h_t G (h_sI s a 0 v)) := h_pfI rfl (by decide) h rfl
theorem r9_1 {G : Nat → Option va_E} {s : h_S} {a : Nat} (h : h_kd s a = 10) (hr : h_R s a 1 ≠ 0) : am_gr (h_t G s) a 9 1 = some (h_R s a 1) := h_gr rfl (by decide) h hr
theorem q9_1 {G : Nat → Option va_E} {s : h_S} {a r : Nat} (h : h_kd s a = 10) (hr : r ≠ 0) : am_pf (h_t G s) a 9 1 3 (.ref r) = some (h_t G (h_sR s a 1 r)) := h_pfR rfl (by decide) h (by decide) hr
theorem r9_2 {G : Nat → Option va_E} {s : h_S} {a : Nat} (h : h_kd s a = 10) (hr : h_R s a 2 ≠ 0) : am_gr (h_t G s) a 9 2 = some (h_R s a 2) := h_gr rfl (by decide) h hr
theorem q9_2 {G : Nat → Option va_E} {s : h_S} {a r : Nat} (h : h_kd s a = 10) (hr : r ≠ 0) : am_pf (h_t G s) a 9 2 3 (.ref r) = some (h_t G (h_sR s a 2 r)) := h_pfR rfl (by decide) h (by decide) hr
theorem r9_3 {G : Nat → Option va_E} {s : h_S} {a : Nat} (h : h_kd s a = 10) (hr : h_R s a 3 ≠ 0) : am_gr (h_t G s) a 9 3 = some (h_R s a 3) := h_gr rfl (by decide) h hr
theorem q9_3 {G : Nat → Option va_E} {s : h_S} {a r : Nat} (h : h_kd s a = 10) (hr : r ≠ 0) : am_pf (h_t G s) a 9 3 3 (.ref r) = some (h_t G (h_sR s a 3 r)) := h_pfR rfl (by decide) h (by decide) hr
theorem r9_4 {G : Nat → Option va_E} {s : h_S} {a : Nat} (h : h_kd s a = 10) (hr : h_R s a 4 ≠ 0) : am_gr (h_t G s) a 9 4 = some (h_R s a 4) := h_gr rfl (by decide) h hr
theorem q9_4 {G : Nat → Option va_E} {s : h_S} {a r : Nat} (h : h_kd s a = 10) (hr : r ≠ 0) : am_pf (h_t G s) a 9 4 3 (.ref r) = some (h_t G (h_sR s a 4 r)) := h_pfR rfl (by decide) h (by decide) hr
theorem r9_5 {G : Nat → Option va_E} {s : h_S} {a : Nat} (h : h_kd s a = 10) (hr : h_R s a 5 ≠ 0) : am_gr (h_t G s) a 9 5 = some (h_R s a 5) := h_gr rfl (by decide) h hr
theorem q9_5 {G : Nat → Option va_E} {s : h_S} {a r : Nat} (h : h_kd s a = 10) (hr : r ≠ 0) : am_pf (h_t G s) a 9 5 3 (.ref r) = some (h_t G (h_sR s a 5 r)) := h_pfR rfl (by decide) h (by decide) hr
theorem g9_6 {G : Nat → Option va_E} {s : h_S} {a : Nat} (h : h_kd s a = 10) : am_gi (h_t G s) a 9 6 = some (h_ii (h_I s a 6)) := h_gi rfl (by decide) h
theorem p9_6 {G : Nat → Option va_E} {s : h_S} {a : Nat} {v : Int} (h : h_kd s a = 10) : am_pf (h_t G s) a 9 6 0 (.int (h_ii v)) = some (h_t G (h_sI s a 6 v)) := h_pfI rfl (by decide) h rfl
theorem r9_7 {G : Nat → Option va_E} {s : h_S} {a : Nat} (h : h_kd s a = 10) (hr : h_R s a 7 ≠ 0) : am_gr (h_t G s) a 9 7 = some (h_R s a 7) := h_gr rfl (by decide) h hr
theorem q9_7 {G : Nat → Option va_E} {s : h_S} {a r : Nat} (h : h_kd s a = 10) (hr : r ≠ 0) : am_pf (h_t G s) a 9 7 3 (.ref r) = some (h_t G (h_sR s a 7 r)) := h_pfR rfl (by decide) h (by decide) hr
theorem r9_8 {G : Nat → Option va_E} {s : h_S} {a : Nat} (h : h_kd s a = 10) (hr : h_R s a 8 ≠ 0) : am_gr (h_t G s) a 9 8 = some (h_R s a 8) := h_gr rfl (by decide) h hr
theorem q9_8 {G : Nat → Option va_E} {s : h_S} {a r : Nat} (h : h_kd s a = 10) (hr : r ≠ 0) : am_pf (h_t G s) a 9 8 3 (.ref r) = some (h_t G (h_sR s a 8 r)) := h_pfR rfl (by decide) h (by decide) hr
theorem r9_9 {G : Nat → Option va_E} {s : h_S} {a : Nat} (h : h_kd s a = 10) (hr : h_R s a 9 ≠ 0) : am_gr (h_t G s) a 9 9 = some (h_R s a 9) := h_gr rfl (by decide) h hr
theorem q9_9 {G : Nat → Option va_E} {s : h_S} {a r : Nat} (h : h_kd s a = 10) (hr : r ≠ 0) : am_pf (h_t G s) a 9 9 3 (.ref r) = some (h_t G (h_sR s a 9 r)) := h_pfR rfl (by decide) h (by decide) hr
theorem r9_10 {G : Nat → Option va_E} {s : h_S} {a : Nat} (h : h_kd s a = 10) (hr : h_R s a 10 ≠ 0) : am_gr (h_t G s) a 9 10 = some (h_R s a 10) := h_gr rfl (by decide) h hr
theorem q9_10 {G : Nat → Option va_E} {s : h_S} {a r : Nat} (h : h_kd s a = 10) (hr : r ≠ 0) : am_pf (h_t G s) a 9 10 3 (.ref r) = some (h_t G (h_sR s a 10 r)) := h_pfR rfl (by decide) h (by decide) hr
theorem r9_11 {G : Nat → Option va_E} {s : h_S} {a : Nat} (h : h_kd s a = 10) (hr : h_R s a 11 ≠ 0) : am_gr (h_t G s) a 9 11 = some (h_R s a 11) := h_gr rfl (by decide) h hr
theorem q9_11 {G : Nat → Option va_E} {s : h_S} {a r : Nat} (h : h_kd s a = 10) (hr : r ≠ 0) : am_pf (h_t G s) a 9 11 3 (.ref r) = some (h_t G (h_sR s a 11 r)) := h_pfR rfl (by decide) h (by decide) hr
theorem r9_12 {G : Nat → Option va_E} {s : h_S} {a : Nat} (h : h_kd s a = 10) (hr : h_R s a 12 ≠ 0) : am_gr (h_t G s) a 9 12 = some (h_R s a 12) := h_gr rfl (by decide) h hr
theorem q9_12 {G : Nat → Option va_E} {s : h_S} {a r : Nat} (h : h_kd s a = 10) (hr : r ≠ 0) : am_pf (h_t G s) a 9 12 3 (.ref r) = some (h_t G (h_sR s a 12 r)) := h_pfR rfl (by decide) h (by decide) hr
theorem g9_13 {G : Nat → Option va_E} {s : h_S} {a : Nat} (h : h_kd s a = 10) : am_gi (h_t G s) a 9 13 = some (h_ii (h_I s a 13)) := h_gi rfl (by decide) h
theorem p9_13 {G : Nat → Option va_E} {s : h_S} {a : Nat} {v : Int} (h : h_kd s a = 10) : am_pf (h_t G s) a 9 13 0 (.int (h_ii v)) = some (h_t G (h_sI s a 13 v)) := h_pfI rfl (by decide) h rfl
theorem g9_14 {G : Nat → Option va_E} {s : h_S} {a : Nat} (h : h_kd s a = 10) : am_gi (h_t G s) a 9 14 = some (h_ii (h_I s a 14)) := h_gi rfl (by decide) h
theorem p9_14 {G : Nat → Option va_E} {s : h_S} {a : Nat} {v : Int} (h : h_kd s a = 10) : am_pf (h_t G s) a 9 14 0 (.int (h_ii v)) = some (h_t G (h_sI s a 14 v)) := h_pfI rfl (by decide) h rfl
theorem g9_15 {G : Nat → Option va_E} {s : h_S} {a : Nat} (h : h_kd s a = 10) : am_gi (h_t G s) a 9 15 = some (h_ii (h_I s a 15)) := h_gi rfl (by decide) h
theorem p9_15 {G : Nat → Option va_E} {s : h_S} {a : Nat} {v : Int} (h : h_kd s a = 10) : am_pf (h_t G s) a 9 15 0 (.int (h_ii v)) = some (h_t G (h_sI s a 15 v)) := h_pfI rfl (by decide) h rfl
theorem g9_16 {G : Nat → Option va_E} {s : h_S} {a : Nat} (h : h_kd s a = 10) : am_gi (h_t G s) a 9 16 = some (h_ii (h_I s a 16)) := h_gi rfl (by decide) h
theorem p9_16 {G : Nat → Option va_E} {s : h_S} {a : Nat} {v : Int} (h : h_kd s a = 10) : am_pf (h_t G s) a 9 16 0 (.int (h_ii v)) = some (h_t G (h_sI s a 16 v)) := h_pfI rfl (by decide) h rfl
theorem g9_17 {G : Nat → Option va_E} {s : h_S} {a : Nat} (h : h_kd s a = 10) : am_gi (h_t G s) a 9 17 = some (h_ii (h_I s a 17)) := h_gi rfl (by decide) h
theorem p9_17 {G : Nat → Option va_E} {s : h_S} {a : Nat} {v : Int} (h : h_kd s a = 10) : am_pf (h_t G s) a 9 17 0 (.int (h_ii v)) = some (h_t G (h_sI s a 17 v)) := h_pfI rfl (by decide) h rfl
theorem r9_18 {G : Nat → Option va_E} {s : h_S} {a : Nat} (h : h_kd s a = 10) (hr : h_R s a 18 ≠ 0) : am_gr (h_t G s) a 9 18 = some (h_R s a 18) := h_gr rfl (by decide) h hr
theorem q9_18 {G : Nat → Option va_E} {s : h_S} {a r : Nat} (h : h_kd s a = 10) (hr : r ≠ 0) : am_pf (h_t G s) a 9 18 3 (.ref r) = some (h_t G (h_sR s a 18 r)) := h_pfR rfl (by decide) h (by decide) hr
theorem g9_19 {G : Nat → Option va_E} {s : h_S} {a : Nat} (h : h_kd s a = 10) : am_gi (h_t G s) a 9 19 = some (h_ii (h_I s a 19)) := h_gi rfl (by decide) h
theorem p9_19 {G : Nat → Option va_E} {s : h_S} {a : Nat} {v : Int} (h : h_kd s a = 10) : am_pf (h_t G s) a 9 19 0 (.int (h_ii v)) = some (h_t G (h_sI s a 19 v)) := h_pfI rfl (by decide) h rfl
theorem g9_20 {G : Nat → Option va_E} {s : h_S} {a : Nat} (h : h_kd s a = 10) : am_gi (h_t G s) a 9 20 = some (h_ii (h_I s a 20)) := h_gi rfl (by decide) h
theorem p9_20 {G : Nat → Option va_E} {s : h_S} {a : Nat} {v : Int} (h : h_kd s a = 10) : am_pf (h_t G s) a 9 20 0 (.int (h_ii v)) = some (h_t G (h_sI s a 20 v)) := h_pfI rfl (by decide) h rfl
theorem g9_21 {G : Nat → Option va_E} {s : h_S} {a : Nat} (h : h_kd s a = 10) : am_gi (h_t G s) a 9 21 = some (h_ii (h_I s a 21)) := h_gi rfl (by decide) h
theorem p9_21 {G : Nat → Option va_E} {s : h_S} {a : Nat} {v : Int} (h : h_kd s a = 10) : am_pf (h_t G s) a 9 21 0 (.int (h_ii v)) = some (h_t G (h_sI s a 21 v)) := h_pfI rfl (by decide) h rfl
theorem r9_22 {G : Nat → Option va_E} {s : h_S} {a : Nat} (h : h_kd s a = 10) (hr : h_R s a 22 ≠ 0) : am_gr (h_t G s) a 9 22 = some (h_R s a 22) := h_gr rfl (by decide) h hr
theorem q9_22 {G : Nat → Option va_E} {s : h_S} {a r : Nat} (h : h_kd s a = 10) (hr : r ≠ 0) : am_pf (h_t G s) a 9 22 3 (.ref r) = some (h_t G (h_sR s a 22 r)) := h_pfR rfl (by decide) h (by decide) hr
theorem r9_23 {G : Nat → Option va_E} {s : h_S} {a : Nat} (h : h_kd s a = 10) (hr : h_R s a 23 ≠ 0) : am_gr (h_t G s) a 9 23 = some (h_R s a 23) := h_gr rfl (by decide) h hr
theorem q9_23 {G : Nat → Option va_E} {s : h_S} {a r : Nat} (h : h_kd s a = 10) (hr : r ≠ 0) : am_pf (h_t G s) a 9 23 3 (.ref r) = some (h_t G (h_sR s a 23 r)) := h_pfR rfl (by decide) h (by decide) hr
theorem r9_24 {G : Nat → Option va_E} {s : h_S} {a : Nat} (h : h_kd s a = 10) (hr : h_R s a 24 ≠ 0) : am_gr (h_t G s) a 9 24 = some (h_R s a 24) := h_gr rfl (by decide) h hr
theorem q9_24 {G : Nat → Option va_E} {s : h_S} {a r : Nat} (h : h_kd s a = 10) (hr : r ≠ 0) : am_pf (h_t G s) a 9 24 3 (.ref r) = some (h_t G (h_sR s a 24 r)) := h_pfR rfl (by decide) h (by decide) hr
theorem g9_25 {G : Nat → Option va_E} {s : h_S} {a : Nat} (h : h_kd s a = 10) : am_gi (h_t G s) a 9 25 = some (h_ii (h_I s a 25)) := h_gi rfl (by decide) h
theorem p9_25 {G : Nat → Option va_E} {s : h_S} {a : Nat} {v : Int} (h : h_kd s a = 10) (hv : v = 0 ∨ v = 1) : am_pf (h_t G s) a 9 25 1 (.int (h_ii v)) = some (h_t G (h_sI s a 25 v)) := h_pfI rfl (by decide) h (by rcases hv with rfl | rfl <;> decide)
theorem g9_26 {G : Nat → Option va_E} {s : h_S} {a : Nat} (h : h_kd s a = 10) : am_gi (h_t G s) a 9 26 = some (h_ii (h_I s a 26)) := h_gi rfl (by decide) h
theorem p9_26 {G : Nat → Option va_E} {s : h_S} {a : Nat} {v : Int} (h : h_kd s a = 10) (hv : v = 0 ∨ v = 1) : am_pf (h_t G s) a 9 26 1 (.int (h_ii v)) = some (h_t G (h_sI s a 26 v)) := h_pfI rfl (by decide) h (by rcases hv with rfl | rfl <;> decide)
theorem g9_27 {G : Nat → Option va_E} {s : h_S} {a : Nat} (h : h_kd s a = 10) : am_gi (h_t G s) a 9 27 = some (h_ii (h_I s a 27)) := h_gi rfl (by decide) h
theorem p9_27 {G : Nat → Option va_E} {s : h_S} {a : Nat} {v : Int} (h : h_kd s a = 10) (hv : v = 0 ∨ v = 1) : am_pf (h_t G s) a 9 27 1 (.int (h_ii v)) = some (h_t G (h_sI s a 27 v)) := h_pfI rfl (by decide) h (by rcases hv with rfl | rfl <;> decide)
theorem g9_28 {G : Nat → Option va_E} {s : h_S} {a : Nat} (h : h_kd s a = 10) : am_gi (h_t G s) a 9 28 = some (h_ii (h_I s a 28)) := h_gi rfl (by decide) h
theorem p9_28 {G : Nat → Option va_E} {s : h_S} {a : Nat} {v : Int} (h : h_kd s a = 10) (hv : v = 0 ∨ v = 1) : am_pf (h_t G s) a 9 28 1 (.int (h_ii v)) = some (h_t G (h_sI s a 28 v)) := h_pfI rfl (by decide) h (by rcases hv with rfl | rfl <;> decide)
theorem r9_29 {G : Nat → Option va_E} {s : h_S} {a : Nat} (h : h_kd s a = 10) (hr : h_R s a 29 ≠ 0) : am_gr (h_t G s) a 9 29 = some (h_R s a 29) := h_gr rfl (by decide) h hr
theorem q9_29 {G : Nat → Option va_E} {s : h_S} {a r : Nat} (h : h_kd s a = 10) (hr : r ≠ 0) : am_pf (h_t G s) a 9 29 3 (.ref r) = some (h_t G (h_sR s a 29 r)) := h_pfR rfl (by decide) h (by decide) hr
theorem r9_30 {G : Nat → Option va_E} {s : h_S} {a : Nat} (h : h_kd s a = 10) (hr : h_R s a 30 ≠ 0) : am_gr (h_t G s) a 9 30 = some (h_R s a 30) := h_gr rfl (by decide) h hr
theorem q9_30 {G : Nat → Option va_E} {s : h_S} {a r : Nat} (h : h_kd s a = 10) (hr : r ≠ 0) : am_pf (h_t G s) a 9 30 3 (.ref r) = some (h_t G (h_sR s a 30 r)) := h_pfR rfl (by decide) h (by decide) hr
theorem g9_31 {G : Nat → Option va_E} {s : h_S} {a : Nat} (h : h_kd s a = 10) : am_gi (h_t G s) a 9 31 = some (h_ii (h_I s a 31)) := h_gi rfl (by decide) h
theorem p9_31 {G : Nat → Option va_E} {s : h_S} {a : Nat} {v : Int} (h : h_kd s a = 10) : am_pf (h_t G s) a 9 31 0 (.int (h_ii v)) = some (h_t G (h_sI s a 31 v)) := h_pfI rfl (by decide) h rfl
theorem g9_32 {G : Nat → Option va_E} {s : h_S} {a : Nat} (h : h_kd s a = 10) : am_gi (h_t G s) a 9 32 = some (h_ii (h_I s a 32)) := h_gi rfl (by decide) h
theorem p9_32 {G : Nat → Option va_E} {s : h_S} {a : Nat} {v : Int} (h : h_kd s a = 10) (hv : v = 0 ∨ v = 1) : am_pf (h_t G s) a 9 32 1 (.int (h_ii v)) = some (h_t G (h_sI s a 32 v)) := h_pfI rfl (by decide) h (by rcases hv with rfl | rfl <;> decide)
theorem r9_33 {G : Nat → Option va_E} {s : h_S} {a : Nat} (h : h_kd s a = 10) (hr : h_R s a 33 ≠ 0) : am_gr (h_t G s) a 9 33 = some (h_R s a 33) := h_gr rfl (by decide) h hr
theorem q9_33 {G : Nat → Option va_E} {s : h_S} {a r : Nat} (h : h_kd s a = 10) (hr : r ≠ 0) : am_pf (h_t G s) a 9 33 3 (.ref r) = some (h_t G (h_sR s a 33 r)) := h_pfR rfl (by decide) h (by decide) hr
theorem r9_34 {G : Nat → Option va_E} {s : h_S} {a : Nat} (h : h_kd s a = 10) (hr : h_R s a 34 ≠ 0) : am_gr (h_t G s) a 9 34 = some (h_R s a 34) := h_gr rfl (by decide) h hr
theorem q9_34 {G : Nat → Option va_E} {s : h_S} {a r : Nat} (h : h_kd s a = 10) (hr : r ≠ 0) : am_pf (h_t G s) a 9 34 3 (.ref r) = some (h_t G (h_sR s a 34 r)) := h_pfR rfl (by decide) h (by decide) hr
theorem g9_35 {G : Nat → Option va_E} {s : h_S} {a : Nat} (h : h_kd s a = 10) : am_gi (h_t G s) a 9 35 = some (h_ii (h_I s a 35)) := h_gi rfl (by decide) h
theorem p9_35 {G : Nat → Option va_E} {s : h_S} {a : Nat} {v : Int} (h : h_kd s a = 10) : am_pf (h_t G s) a 9 35 0 (.int (h_ii v)) = some (h_t G (h_sI s a 35 v)) := h_pfI rfl (by decide) h rfl
theorem g9_36 {G : Nat → Option va_E} {s : h_S} {a : Nat} (h : h_kd s a = 10) : am_gi (h_t G s) a 9 36 = some (h_ii (h_I s a 36)) := h_gi rfl (by decide) h
theorem p9_36 {G : Nat → Option va_E} {s : h_S} {a : Nat} {v : Int} (h : h_kd s a = 10) : am_pf (h_t G s) a 9 36 0 (.int (h_ii v)) = some (h_t G (h_sI s a 36 v)) := h_pfI rfl (by decide) h rfl
theorem g9_37 {G : Nat → Option va_E} {s : h_S} {a : Nat} (h : h_kd s a = 10) : am_gi (h_t G s) a 9 37 = some (h_ii (h_I s a 37)) := h_gi rfl (by decide) h
theorem p9_37 {G : Nat → Option va_E} {s : h_S} {a : Nat} {v : Int} (h : h_kd s a = 10) : am_pf (h_t G s) a 9 37 0 (.int (h_ii v)) = some (h_t G (h_sI s a 37 v)) := h_pfI rfl (by decide) h rfl
theorem g9_38 {G : Nat → Option va_E} {s : h_S} {a : Nat} (h : h_kd s a = 10) : am_gi (h_t G s) a 9 38 = some (h_ii (h_I s a 38)) := h_gi rfl (by decide) h
theorem p9_38 {G : Nat → Option va_E} {s : h_S} {a : Nat} {v : Int} (h : h_kd s a = 10) : am_pf (h_t G s) a 9 38 0 (.int (h_ii v)) = some (h_t G (h_sI s a 38 v)) := h_pfI rfl (by decide) h rfl
theorem g9_39 {G : Nat → Option va_E} {s : h_S} {a : Nat} (h : h_kd s a = 10) : am_gi (h_t G s) a 9 39 = some (h_ii (h_I s a 39)) := h_gi rfl (by decide) h
theorem p9_39 {G : Nat → Option va_E} {s : h_S} {a : Nat} {v : Int} (h : h_kd s a = 10) (hv : v = 0 ∨ v = 1) : am_pf (h_t G s) a 9 39 1 (.int (h_ii v)) = some (h_t G (h_sI s a 39 v)) := h_pfI rfl (by decide) h (by rcases hv with rfl | rfl <;> decide)
theorem g9_40 {G : Nat → Option va_E} {s : h_S} {a : Nat} (h : h_kd s a = 10) : am_gi (h_t G s) a 9 40 = some (h_ii (h_I s a 40)) := h_gi rfl (by decide) h
theorem p9_40 {G : Nat → Option va_E} {s : h_S} {a : Nat} {v : Int} (h : h_kd s a = 10) : am_pf (h_t G s) a 9 40 0 (.int (h_ii v)) = some (h_t G (h_sI s a 40 v)) := h_pfI rfl (by decide) h rfl
theorem g9_41 {G : Nat → Option va_E} {s : h_S} {a : Nat} (h : h_kd s a = 10) : am_gi (h_t G s) a 9 41 = some (h_ii (h_I s a 41)) := h_gi rfl (by decide) h
theorem p9_41 {G : Nat → Option va_E} {s : h_S} {a : Nat} {v : Int} (h : h_kd s a = 10) : am_pf (h_t G s) a 9 41 0 (.int (h_ii v)) = some (h_t G (h_sI s a 41 v)) := h_pfI rfl (by decide) h rfl
theorem g9_42 {G : Nat → Option va_E} {s : h_S} {a : Nat} (h : h_kd s a = 10) : am_gi (h_t G s) a 9 42 = some (h_ii (h_I s a 42)) := h_gi rfl (by decide) h
theorem p9_42 {G : Nat → Option va_E} {s : h_S} {a : Nat} {v : Int} (h : h_kd s a = 10) : am_pf (h_t G s) a 9 42 0 (.int (h_ii v)) = some (h_t G (h_sI s a 42 v)) := h_pfI rfl (by decide) h rfl
theorem g9_43 {G : Nat → Option va_E} {s : h_S} {a : Nat} (h : h_kd s a = 10) : am_gi (h_t G s) a 9 43 = some (h_ii (h_I s a 43)) := h_gi rfl (by decide) h
theorem p9_43 {G : Nat → Option va_E} {s : h_S} {a : Nat} {v : Int} (h : h_kd s a = 10) : am_pf (h_t G s) a 9 43 0 (.int (h_ii v)) = some (h_t G (h_sI s a 43 v)) := h_pfI rfl (by decide) h rfl
theorem r9_44 {G : Nat → Option va_E} {s : h_S} {a : Nat} (h : h_kd s a = 10) (hr : h_R s a 44 ≠ 0) : am_gr (h_t G s) a 9 44 = some (h_R s a 44) := h_gr rfl (by decide) h hr
theorem q9_44 {G : Nat → Option va_E} {s : h_S} {a r : Nat} (h : h_kd s a = 10) (hr : r ≠ 0) : am_pf (h_t G s) a 9 44 3 (.ref r) = some (h_t G (h_sR s a 44 r)) := h_pfR rfl (by decide) h (by decide) hr
theorem r9_45 {G : Nat → Option va_E} {s : h_S} {a : Nat} (h : h_kd s a = 10) (hr : h_R s a 45 ≠ 0) : am_gr (h_t G s) a 9 45 = some (h_R s a 45) := h_gr rfl (by decide) h hr
theorem q9_45 {G : Nat → Option va_E} {s : h_S} {a r : Nat} (h : h_kd s a = 10) (hr : r ≠ 0) : am_pf (h_t G s) a 9 45 3 (.ref r) = some (h_t G (h_sR s a 45 r)) := h_pfR rfl (by decide) h (by decide) hr
theorem r9_46 {G : Nat → Option va_E} {s : h_S} {a : Nat} (h : h_kd s a = 10) (hr : h_R s a 46 ≠ 0) : am_gr (h_t G s) a 9 46 = some (h_R s a 46) := h_gr rfl (by decide) h hr
theorem q9_46 {G : Nat → Option va_E} {s : h_S} {a r : Nat} (h : h_kd s a = 10) (hr : r ≠ 0) : am_pf (h_t G s) a 9 46 3 (.ref r) = some (h_t G (h_sR s a 46 r)) := h_pfR rfl (by decide) h (by decide) hr
