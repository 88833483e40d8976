/-! THE TYPED HEAP (printed by wip/whole/gen50.py) -/
def h_ii (z : Int) : Int32 := Int32.ofInt z
/-- next address; slots; kinds (0 the ground's, c + 1 an object's, 1000 + t an array's); whole fields; references; lengths; elements -/
abbrev h_S : Type := Nat × Nat × (Nat → Nat) × (Nat → Nat → Int) × (Nat → Nat → Nat) × (Nat → Nat) × (Nat → Nat → Int)
def h_nx (s : h_S) : Nat := s.1
def h_sl (s : h_S) : Nat := s.2.1
def h_kd (s : h_S) : Nat → Nat := s.2.2.1
def h_I (s : h_S) : Nat → Nat → Int := s.2.2.2.1
def h_R (s : h_S) : Nat → Nat → Nat := s.2.2.2.2.1
def h_N (s : h_S) : Nat → Nat := s.2.2.2.2.2.1
def h_A (s : h_S) : Nat → Nat → Int := s.2.2.2.2.2.2
def h_rf (r : Nat) : Value := if r = 0 then .null else .ref r
/-- which fields are references -/
def h_fk : List (List Bool) := [[true, false, true, true, true, true, true, true], [true, true, false, false, false, false], [true, false, false, true, false, false, false, false, false, false], [true, true, true, true, false, true, false, false, false, false, false, true], [true, true, true, true, false, false, true, true, false, true, true, false, true, true, true, false, false, false, false], [true, false, false, false, false, false], [true, true, true, true, true, true, true, true, false], [true, true], [true, true, true], [false, true, true, true, true, true, false, true, true, true, true, true, true, false, false, false, false, false, true, false, false, false, true, true, true, false, false, false, false, true, true, false, false, true, true, false, false, false, false, false, false, false, false, false, true, true, true]]
def h_fv (I : Nat → Int) (R : Nat → Nat) (c : Nat) : List Value := (List.range (h_fk.getD c []).length).map (fun k => if (h_fk.getD c []).getD k false = true then h_rf (R k) else .int (h_ii (I k)))
def h_ce (G : Nat → Option va_E) (s : h_S) (q : Nat) : Option va_E :=
  if h_kd s q = 0 then G q
  else if h_kd s q < 1000 then some (.inr (h_kd s q - 1, h_fv (h_I s q) (h_R s q) (h_kd s q - 1)))
  else if h_kd s q ≤ 1002 then some (.inl (h_kd s q - 1000, h_N s q, .inl (fun i => h_ii (h_A s q i))))
  else if h_kd s q = 1003 then some (.inl (3, h_N s q, .inr (.inl (fun i => Int64.ofInt (h_A s q i)))))
  else some (.inl (h_kd s q - 1000, h_N s q, .inr (.inr (.inr (.inr (fun i => if h_R s q i = 0 then none else some (h_R s q i)))))))
/-- the memory of a typed heap over a ground -/
def h_t (G : Nat → Option va_E) (s : h_S) : am_M := (h_nx s, h_sl s, h_ce G s)
def h_sI (s : h_S) (a k : Nat) (v : Int) : h_S := (h_nx s, h_sl s, h_kd s, fun a' k' => if a' = a ∧ k' = k then v else h_I s a' k', h_R s, h_N s, h_A s)
def h_sR (s : h_S) (a k : Nat) (r : Nat) : h_S := (h_nx s, h_sl s, h_kd s, h_I s, fun a' k' => if a' = a ∧ k' = k then r else h_R s a' k', h_N s, h_A s)
def h_sA (s : h_S) (a i : Nat) (v : Int) : h_S := (h_nx s, h_sl s, h_kd s, h_I s, h_R s, h_N s, fun a' i' => if a' = a ∧ i' = i then v else h_A s a' i')
/-- a new object of class c with k fields; a new array of tag t, n long -/
def h_no (s : h_S) (c k : Nat) : h_S := (h_nx s + 1, h_sl s + k, fun q => if q = h_nx s then c + 1 else h_kd s q, fun q j => if q = h_nx s then 0 else h_I s q j, fun q j => if q = h_nx s then 0 else h_R s q j, h_N s, h_A s)
def h_na (s : h_S) (t n : Nat) : h_S := (h_nx s + 1, h_sl s + n, fun q => if q = h_nx s then 1000 + t else h_kd s q, h_I s, fun q j => if q = h_nx s then 0 else h_R s q j, fun q => if q = h_nx s then n else h_N s q, fun q j => if q = h_nx s then 0 else h_A s q j)
/-- arraycopy -/
def h_cp (s : h_S) (a sp b dp n : Nat) : h_S := (h_nx s, h_sl s, h_kd s, h_I s, h_R s, h_N s, fun q i => if q = b ∧ dp ≤ i ∧ i < dp + n then h_A s a (sp + (i - dp)) else h_A s q i)
theorem h_nx_sI (s : h_S) (a k : Nat) (v : Int) : h_nx (h_sI s a k v) = h_nx s := rfl
theorem h_sl_sI (s : h_S) (a k : Nat) (v : Int) : h_sl (h_sI s a k v) = h_sl s := rfl
theorem h_kd_sI (s : h_S) (a k : Nat) (v : Int) (q : Nat) : h_kd (h_sI s a k v) q = h_kd s q := rfl
theorem h_I_sI (s : h_S) (a k : Nat) (v : Int) (q j : Nat) : h_I (h_sI s a k v) q j = if q = a ∧ j = k then v else h_I s q j := rfl
theorem h_R_sI (s : h_S) (a k : Nat) (v : Int) (q j : Nat) : h_R (h_sI s a k v) q j = h_R s q j := rfl
theorem h_N_sI (s : h_S) (a k : Nat) (v : Int) (q : Nat) : h_N (h_sI s a k v) q = h_N s q := rfl
theorem h_A_sI (s : h_S) (a k : Nat) (v : Int) (q j : Nat) : h_A (h_sI s a k v) q j = h_A s q j := rfl
theorem h_nx_sR (s : h_S) (a k r : Nat) : h_nx (h_sR s a k r) = h_nx s := rfl
theorem h_sl_sR (s : h_S) (a k r : Nat) : h_sl (h_sR s a k r) = h_sl s := rfl
theorem h_kd_sR (s : h_S) (a k r : Nat) (q : Nat) : h_kd (h_sR s a k r) q = h_kd s q := rfl
theorem h_I_sR (s : h_S) (a k r : Nat) (q j : Nat) : h_I (h_sR s a k r) q j = h_I s q j := rfl
theorem h_R_sR (s : h_S) (a k r : Nat) (q j : Nat) : h_R (h_sR s a k r) q j = if q = a ∧ j = k then r else h_R s q j := rfl
theorem h_N_sR (s : h_S) (a k r : Nat) (q : Nat) : h_N (h_sR s a k r) q = h_N s q := rfl
theorem h_A_sR (s : h_S) (a k r : Nat) (q j : Nat) : h_A (h_sR s a k r) q j = h_A s q j := rfl
theorem h_nx_sA (s : h_S) (a i : Nat) (v : Int) : h_nx (h_sA s a i v) = h_nx s := rfl
theorem h_sl_sA (s : h_S) (a i : Nat) (v : Int) : h_sl (h_sA s a i v) = h_sl s := rfl
theorem h_kd_sA (s : h_S) (a i : Nat) (v : Int) (q : Nat) : h_kd (h_sA s a i v) q = h_kd s q := rfl
theorem h_I_sA (s : h_S) (a i : Nat) (v : Int) (q j : Nat) : h_I (h_sA s a i v) q j = h_I s q j := rfl
theorem h_R_sA (s : h_S) (a i : Nat) (v : Int) (q j : Nat) : h_R (h_sA s a i v) q j = h_R s q j := rfl
theorem h_N_sA (s : h_S) (a i : Nat) (v : Int) (q : Nat) : h_N (h_sA s a i v) q = h_N s q := rfl
theorem h_A_sA (s : h_S) (a i : Nat) (v : Int) (q j : Nat) : h_A (h_sA s a i v) q j = if q = a ∧ j = i then v else h_A s q j := rfl
theorem h_nx_no (s : h_S) (c n : Nat) : h_nx (h_no s c n) = h_nx s + 1 := rfl
theorem h_sl_no (s : h_S) (c n : Nat) : h_sl (h_no s c n) = h_sl s + n := rfl
theorem h_kd_no (s : h_S) (c n : Nat) (q : Nat) : h_kd (h_no s c n) q = if q = h_nx s then c + 1 else h_kd s q := rfl
theorem h_I_no (s : h_S) (c n : Nat) (q j : Nat) : h_I (h_no s c n) q j = if q = h_nx s then 0 else h_I s q j := rfl
theorem h_R_no (s : h_S) (c n : Nat) (q j : Nat) : h_R (h_no s c n) q j = if q = h_nx s then 0 else h_R s q j := rfl
theorem h_N_no (s : h_S) (c n : Nat) (q : Nat) : h_N (h_no s c n) q = h_N s q := rfl
theorem h_A_no (s : h_S) (c n : Nat) (q j : Nat) : h_A (h_no s c n) q j = h_A s q j := rfl
theorem h_nx_na (s : h_S) (t n : Nat) : h_nx (h_na s t n) = h_nx s + 1 := rfl
theorem h_sl_na (s : h_S) (t n : Nat) : h_sl (h_na s t n) = h_sl s + n := rfl
theorem h_kd_na (s : h_S) (t n : Nat) (q : Nat) : h_kd (h_na s t n) q = if q = h_nx s then 1000 + t else h_kd s q := rfl
theorem h_I_na (s : h_S) (t n : Nat) (q j : Nat) : h_I (h_na s t n) q j = h_I s q j := rfl
theorem h_R_na (s : h_S) (t n : Nat) (q j : Nat) : h_R (h_na s t n) q j = if q = h_nx s then 0 else h_R s q j := rfl
theorem h_N_na (s : h_S) (t n : Nat) (q : Nat) : h_N (h_na s t n) q = if q = h_nx s then n else h_N s q := rfl
theorem h_A_na (s : h_S) (t n : Nat) (q j : Nat) : h_A (h_na s t n) q j = if q = h_nx s then 0 else h_A s q j := rfl
theorem h_nx_cp (s : h_S) (a sp b dp n : Nat) : h_nx (h_cp s a sp b dp n) = h_nx s := rfl
theorem h_sl_cp (s : h_S) (a sp b dp n : Nat) : h_sl (h_cp s a sp b dp n) = h_sl s := rfl
theorem h_kd_cp (s : h_S) (a sp b dp n : Nat) (q : Nat) : h_kd (h_cp s a sp b dp n) q = h_kd s q := rfl
theorem h_I_cp (s : h_S) (a sp b dp n : Nat) (q j : Nat) : h_I (h_cp s a sp b dp n) q j = h_I s q j := rfl
theorem h_R_cp (s : h_S) (a sp b dp n : Nat) (q j : Nat) : h_R (h_cp s a sp b dp n) q j = h_R s q j := rfl
theorem h_N_cp (s : h_S) (a sp b dp n : Nat) (q : Nat) : h_N (h_cp s a sp b dp n) q = h_N s q := rfl
theorem h_A_cp (s : h_S) (a sp b dp n : Nat) (q j : Nat) : h_A (h_cp s a sp b dp n) q j = if q = b ∧ dp ≤ j ∧ j < dp + n then h_A s a (sp + (j - dp)) else h_A s q j := rfl
theorem h_fv_at {I : Nat → Int} {R : Nat → Nat} {c k : Nat} {b : Bool} (h : (h_fk.getD c [])[k]? = some b) : (h_fv I R c)[k]? = some (if b = true then h_rf (R k) else .int (h_ii (I k))) := by
  have hk := (List.getElem?_eq_some_iff.mp h).1
  unfold h_fv
  rw [List.getElem?_map, List.getElem?_range hk]
  simp only [Option.map_some]
  rw [List.getD_eq_getElem?_getD, h]
  rfl
theorem h_fv_len {I : Nat → Int} {R : Nat → Nat} {c : Nat} : (h_fv I R c).length = (h_fk.getD c []).length := by simp [h_fv]
theorem h_ce_ob {G : Nat → Option va_E} {s : h_S} {a c : Nat} (h : h_kd s a = c + 1) (hc : c < 900) : h_ce G s a = some (.inr (c, h_fv (h_I s a) (h_R s a) c)) := by
  unfold h_ce
  rw [if_neg (by omega), if_pos (by omega), h]
  rfl
theorem h_ce_ar {G : Nat → Option va_E} {s : h_S} {a t : Nat} (h : h_kd s a = 1000 + t) (ht : t < 3) : h_ce G s a = some (.inl (t, h_N s a, .inl (fun i => h_ii (h_A s a i)))) := by
  unfold h_ce
  rw [if_neg (by omega), if_neg (by omega), if_pos (by omega), h]
  rw [show 1000 + t - 1000 = t by omega]
theorem h_ce_rf {G : Nat → Option va_E} {s : h_S} {a t : Nat} (h : h_kd s a = 1000 + t) (ht : 3 < t) : h_ce G s a = some (.inl (t, h_N s a, .inr (.inr (.inr (.inr (fun i => if h_R s a i = 0 then none else some (h_R s a i))))))) := by
  unfold h_ce
  rw [if_neg (by omega), if_neg (by omega), if_neg (by omega), if_neg (by omega), h]
  rw [show 1000 + t - 1000 = t by omega]
theorem h_ce_lg {G : Nat → Option va_E} {s : h_S} {a : Nat} (h : h_kd s a = 1003) : h_ce G s a = some (.inl (3, h_N s a, .inr (.inl (fun i => Int64.ofInt (h_A s a i))))) := by
  unfold h_ce
  rw [if_neg (by omega), if_neg (by omega), if_neg (by omega), if_pos (by omega)]
theorem h_ce_gr {G : Nat → Option va_E} {s : h_S} {a : Nat} (h : h_kd s a = 0) : h_ce G s a = G a := by
  unfold h_ce
  rw [if_pos h]
section HT
variable {G : Nat → Option va_E} {s : h_S}
theorem h_gi {a c k : Nat} (hf : (h_fk.getD c [])[k]? = some false) (hc : c < 900) (h : h_kd s a = c + 1) : am_gi (h_t G s) a c k = some (h_ii (h_I s a k)) := by
  have e : (h_t G s).2.2 a = some (.inr (c, h_fv (h_I s a) (h_R s a) c)) := h_ce_ob h hc
  simp only [am_gi, am_gv, e, if_true, h_fv_at hf]
  rfl
theorem h_gr {a c k : Nat} (hf : (h_fk.getD c [])[k]? = some true) (hc : c < 900) (h : h_kd s a = c + 1) (hr : h_R s a k ≠ 0) : am_gr (h_t G s) a c k = some (h_R s a k) := by
  have e : (h_t G s).2.2 a = some (.inr (c, h_fv (h_I s a) (h_R s a) c)) := h_ce_ob h hc
  simp only [am_gr, am_gv, e, if_true, h_fv_at hf, h_rf, if_neg hr]
theorem h_upd {a : Nat} {e : va_E} {s' : h_S} (h1 : h_nx s' = h_nx s) (h2 : h_sl s' = h_sl s) (h3 : h_ce G s' a = some e) (h4 : ∀ q, q ≠ a → h_ce G s' q = h_ce G s q) : am_upd (h_t G s) a e = h_t G s' := by
  unfold am_upd h_t
  rw [h1, h2]
  congr 2
  funext q
  show (if q = a then some e else h_ce G s q) = h_ce G s' q
  split
  · rename_i hq; rw [hq, h3]
  · rename_i hq; rw [h4 q hq]
theorem h_psh {n : Nat} {e : va_E} {s' : h_S} (h1 : h_nx s' = h_nx s + 1) (h2 : h_sl s' = h_sl s + n) (h3 : h_ce G s' (h_nx s) = some e) (h4 : ∀ q, q ≠ h_nx s → h_ce G s' q = h_ce G s q) : am_push (h_t G s) n e = h_t G s' := by
  unfold am_push h_t
  rw [h1, h2]
  show (h_nx s + 1, h_sl s + n, _) = _
  congr 2
  funext q
  show (if q = h_nx s then some e else h_ce G s q) = h_ce G s' q
  split
  · rename_i hq; rw [hq, h3]
  · rename_i hq; rw [h4 q hq]
theorem h_fv_setI {I : Nat → Int} {R : Nat → Nat} {c k : Nat} {v : Int} (hf : (h_fk.getD c [])[k]? = some false) : (h_fv I R c).set k (.int (h_ii v)) = h_fv (fun k' => if k' = k then v else I k') R c := by
  apply List.ext_getElem?
  intro j
  rw [List.getElem?_set]
  by_cases hj : j < (h_fk.getD c []).length
  · have hb : (h_fk.getD c [])[j]? = some ((h_fk.getD c [])[j]'hj) := List.getElem?_eq_getElem hj
    rw [h_fv_at (I := fun k' => if k' = k then v else I k') hb, h_fv_at (I := I) hb]
    by_cases hjk : k = j
    · subst hjk
      have hb2 : (h_fk.getD c [])[k]'hj = false := Option.some.inj (hb.symm.trans hf)
      rw [if_pos rfl, if_pos (by rw [h_fv_len]; exact hj), hb2]
      simp
    · rw [if_neg hjk]
      have : ¬ j = k := fun q => hjk q.symm
      simp only [if_neg this]
  · rw [List.getElem?_eq_none (by rw [h_fv_len]; omega), List.getElem?_eq_none (by rw [h_fv_len]; omega)]
    have hk := (List.getElem?_eq_some_iff.mp hf).1
    rw [if_neg (by omega)]
theorem h_fv_setR {I : Nat → Int} {R : Nat → Nat} {c k r : Nat} (hf : (h_fk.getD c [])[k]? = some true) : (h_fv I R c).set k (h_rf r) = h_fv I (fun k' => if k' = k then r else R k') c := by
  apply List.ext_getElem?
  intro j
  rw [List.getElem?_set]
  by_cases hj : j < (h_fk.getD c []).length
  · have hb : (h_fk.getD c [])[j]? = some ((h_fk.getD c [])[j]'hj) := List.getElem?_eq_getElem hj
    rw [h_fv_at (R := fun k' => if k' = k then r else R k') hb, h_fv_at (R := R) hb]
    by_cases hjk : k = j
    · subst hjk
      have hb2 : (h_fk.getD c [])[k]'hj = true := Option.some.inj (hb.symm.trans hf)
      rw [if_pos rfl, if_pos (by rw [h_fv_len]; exact hj), hb2]
      simp
    · rw [if_neg hjk]
      have : ¬ j = k := fun q => hjk q.symm
      simp only [if_neg this]
  · rw [List.getElem?_eq_none (by rw [h_fv_len]; omega), List.getElem?_eq_none (by rw [h_fv_len]; omega)]
    have hk := (List.getElem?_eq_some_iff.mp hf).1
    rw [if_neg (by omega)]
theorem h_pfI {a c k ty : Nat} {v : Int} (hf : (h_fk.getD c [])[k]? = some false) (hc : c < 100) (h : h_kd s a = c + 1) (hty : am_fit ty (.int (h_ii v)) = true) : am_pf (h_t G s) a c k ty (.int (h_ii v)) = some (h_t G (h_sI s a k v)) := by
  have e : (h_t G s).2.2 a = some (.inr (c, h_fv (h_I s a) (h_R s a) c)) := h_ce_ob h (by omega)
  have hk := (List.getElem?_eq_some_iff.mp hf).1
  simp only [am_pf, e]
  rw [if_pos ⟨trivial, hc, by rw [h_fv_len]; exact hk, hty⟩, h_fv_setI hf]
  refine congrArg some (h_upd rfl rfl ?_ ?_)
  · rw [h_ce_ob (s := h_sI s a k v) (c := c) h (by omega)]
    congr 4
    funext k'
    show (if a = a ∧ k' = k then v else h_I s a k') = _
    simp
  · intro q hq
    unfold h_ce
    have hI : h_I (h_sI s a k v) q = h_I s q := by
      funext j
      show (if q = a ∧ j = k then v else h_I s q j) = h_I s q j
      rw [if_neg (fun z => hq z.1)]
    rw [hI]
    rfl
theorem h_pfR {a c k ty r : Nat} (hf : (h_fk.getD c [])[k]? = some true) (hc : c < 100) (h : h_kd s a = c + 1) (hty : ty = 2 ∨ ty = 3) (hr : r ≠ 0) : am_pf (h_t G s) a c k ty (.ref r) = some (h_t G (h_sR s a k r)) := by
  have e : (h_t G s).2.2 a = some (.inr (c, h_fv (h_I s a) (h_R s a) c)) := h_ce_ob h (by omega)
  have hk := (List.getElem?_eq_some_iff.mp hf).1
  have hfit : am_fit ty (.ref r) = true := by rcases hty with rfl | rfl <;> rfl
  simp only [am_pf, e]
  rw [if_pos ⟨trivial, hc, by rw [h_fv_len]; exact hk, hfit⟩, show Value.ref r = h_rf r by simp [h_rf, hr], h_fv_setR hf]
  refine congrArg some (h_upd rfl rfl ?_ ?_)
  · rw [h_ce_ob (s := h_sR s a k r) (c := c) h (by omega)]
    congr 4
    funext k'
    show (if a = a ∧ k' = k then r else h_R s a k') = _
    simp
  · intro q hq
    unfold h_ce
    have hR : h_R (h_sR s a k r) q = h_R s q := by
      funext j
      show (if q = a ∧ j = k then r else h_R s q j) = h_R s q j
      rw [if_neg (fun z => hq z.1)]
    rw [hR]
    rfl
theorem h_toInt {z : Int} (h1 : -2147483648 ≤ z) (h2 : z < 2147483648) : (h_ii z).toInt = z := Int32.toInt_ofInt_of_le (by simpa using h1) (by simpa using h2)
theorem h_ix {i : Int} {n : Nat} (h0 : 0 ≤ i) (h1 : i < n) (h2 : i < 2147483648) : am_ix (h_ii i) n = some i.toNat := by
  have hn : (h_ii i).toInt = i := h_toInt (by omega) h2
  have hc : (h_ii i).toNatClampNeg = i.toNat := by unfold Int32.toNatClampNeg; rw [hn]
  unfold am_ix
  rw [if_neg, hc]
  rintro (q | q)
  · rw [Int32.lt_iff_toInt_lt, hn] at q
    have : (0 : Int32).toInt = 0 := rfl
    omega
  · rw [hc] at q; omega
theorem h_il {a t : Nat} {i : Int} {ts : List Nat} (ht : t ∈ ts) (h3 : t < 3) (h : h_kd s a = 1000 + t) (h0 : 0 ≤ i) (h1 : i < h_N s a) (h2 : i < 2147483648) : am_il (h_t G s) a (h_ii i) ts = some (h_ii (h_A s a i.toNat)) := by
  have e : (h_t G s).2.2 a = _ := h_ce_ar h h3
  simp only [am_il, e, if_pos ht, h_ix h0 h1 h2, Option.map_some]
theorem h_lb {a : Nat} {i : Int} (h : h_kd s a = 1000) (h0 : 0 ≤ i) (h1 : i < h_N s a) (h2 : i < 2147483648) : am_il (h_t G s) a (h_ii i) [0, 2, 100] = some (h_ii (h_A s a i.toNat)) := h_il (t := 0) (by decide) (by decide) h h0 h1 h2
theorem h_lz {a : Nat} {i : Int} (h : h_kd s a = 1002) (h0 : 0 ≤ i) (h1 : i < h_N s a) (h2 : i < 2147483648) : am_il (h_t G s) a (h_ii i) [0, 2, 100] = some (h_ii (h_A s a i.toNat)) := h_il (t := 2) (by decide) (by decide) h h0 h1 h2
theorem h_l4 {a : Nat} {i : Int} (h : h_kd s a = 1001) (h0 : 0 ≤ i) (h1 : i < h_N s a) (h2 : i < 2147483648) : am_il (h_t G s) a (h_ii i) [1, 101] = some (h_ii (h_A s a i.toNat)) := h_il (t := 1) (by decide) (by decide) h h0 h1 h2
theorem h_len {a t : Nat} (h : h_kd s a = 1000 + t) : am_len (h_t G s) a = some (h_ii (h_N s a)) := by
  have : ∃ r, (h_t G s).2.2 a = some (.inl (t, h_N s a, r)) := by
    rcases Nat.lt_trichotomy t 3 with q | q | q
    · exact ⟨_, h_ce_ar h q⟩
    · subst q; exact ⟨_, h_ce_lg h⟩
    · exact ⟨_, h_ce_rf h q⟩
  obtain ⟨r, hr⟩ := this
  simp only [am_len, hr]
  rfl
theorem h_lnb {a : Nat} (h : h_kd s a = 1000) : am_len (h_t G s) a = some (h_ii (h_N s a)) := h_len (t := 0) h
theorem h_lni {a : Nat} (h : h_kd s a = 1001) : am_len (h_t G s) a = some (h_ii (h_N s a)) := h_len (t := 1) h
theorem h_lnz {a : Nat} (h : h_kd s a = 1002) : am_len (h_t G s) a = some (h_ii (h_N s a)) := h_len (t := 2) h
theorem h_lnr {a : Nat} (h : h_kd s a = 1004) : am_len (h_t G s) a = some (h_ii (h_N s a)) := h_len (t := 4) h
theorem h_al {a t : Nat} {i : Int} (ht : t = 4 ∨ t = 5) (h : h_kd s a = 1000 + t) (h0 : 0 ≤ i) (h1 : i < h_N s a) (h2 : i < 2147483648) (hr : h_R s a i.toNat ≠ 0) : am_al (h_t G s) a (h_ii i) = some (h_R s a i.toNat) := by
  have e : (h_t G s).2.2 a = _ := h_ce_rf h (by omega)
  simp only [am_al, e]
  rw [if_pos (by rcases ht with rfl | rfl <;> simp), h_ix h0 h1 h2]
  simp [hr]
theorem h_al4 {a : Nat} {i : Int} (h : h_kd s a = 1004) (h0 : 0 ≤ i) (h1 : i < h_N s a) (h2 : i < 2147483648) (hr : h_R s a i.toNat ≠ 0) : am_al (h_t G s) a (h_ii i) = some (h_R s a i.toNat) := h_al (t := 4) (.inl rfl) h h0 h1 h2 hr
theorem h_al5 {a : Nat} {i : Int} (h : h_kd s a = 1005) (h0 : 0 ≤ i) (h1 : i < h_N s a) (h2 : i < 2147483648) (hr : h_R s a i.toNat ≠ 0) : am_al (h_t G s) a (h_ii i) = some (h_R s a i.toNat) := h_al (t := 5) (.inr rfl) h h0 h1 h2 hr
theorem h_cl {a c : Nat} (h : h_kd s a = c + 1) (hc : c < 900) : am_cls (h_t G s) a c = true := by
  have e : (h_t G s).2.2 a = _ := h_ce_ob h hc
  simp [am_cls, e]
/-- what is stored into an array -/
def h_nr (t : Nat) (v : Int) : Int := if t = 0 then Int.bmod v 256 else if t = 2 then v % 2 else v
theorem h_b8 (v : Int) : (h_ii v).toInt8.toInt32 = h_ii (Int.bmod v 256) := by
  have h1 : -(128 : Int) ≤ Int.bmod v 256 := by have := @Int.le_bmod v 256 (by decide); omega
  have h2 : Int.bmod v 256 < 128 := by have := @Int.bmod_lt v 256 (by decide); omega
  apply Int32.toInt_inj.mp
  rw [h_toInt (z := Int.bmod v 256) (by omega) (by omega), Int8.toInt_toInt32, Int32.toInt_toInt8]
  unfold h_ii
  rw [Int32.toInt_ofInt]
  exact Int.bmod_bmod_of_dvd (by decide)
theorem h_is {a t : Nat} {i v : Int} {ts : List Nat} (ht : t ∈ ts) (h3 : t < 3) (hn : am_nar t (h_ii v) = h_ii (h_nr t v)) (h : h_kd s a = 1000 + t) (h0 : 0 ≤ i) (h1 : i < h_N s a) (h2 : i < 2147483648) : am_is (h_t G s) a (h_ii i) ts (h_ii v) = some (h_t G (h_sA s a i.toNat (h_nr t v))) := by
  have e : (h_t G s).2.2 a = _ := h_ce_ar h h3
  simp only [am_is, e, if_pos ht, h_ix h0 h1 h2, Option.map_some, hn]
  refine congrArg some (h_upd rfl rfl ?_ ?_)
  · rw [h_ce_ar (s := h_sA s a i.toNat (h_nr t v)) (t := t) h h3]
    refine congrArg (fun f : Nat → Int32 => (some (Sum.inl (t, h_N s a, Sum.inl f)) : Option va_E)) (funext fun j => ?_)
    show h_ii (if a = a ∧ j = i.toNat then h_nr t v else h_A s a j) = upd (fun i => h_ii (h_A s a i)) i.toNat (h_ii (h_nr t v)) j
    unfold upd
    by_cases hj : j = i.toNat <;> simp [hj]
  · intro q hq
    unfold h_ce
    have hA : h_A (h_sA s a i.toNat (h_nr t v)) q = h_A s q := by
      funext j
      show (if q = a ∧ j = i.toNat then h_nr t v else h_A s q j) = h_A s q j
      rw [if_neg (fun z => hq z.1)]
    rw [hA]
    rfl
theorem h_sb {a : Nat} {i v : Int} (h : h_kd s a = 1000) (h0 : 0 ≤ i) (h1 : i < h_N s a) (h2 : i < 2147483648) : am_is (h_t G s) a (h_ii i) [0, 2] (h_ii v) = some (h_t G (h_sA s a i.toNat (Int.bmod v 256))) := h_is (t := 0) (by decide) (by decide) (by show (h_ii v).toInt8.toInt32 = _; exact h_b8 v) h h0 h1 h2
theorem h_s4 {a : Nat} {i v : Int} (h : h_kd s a = 1001) (h0 : 0 ≤ i) (h1 : i < h_N s a) (h2 : i < 2147483648) : am_is (h_t G s) a (h_ii i) [1] (h_ii v) = some (h_t G (h_sA s a i.toNat v)) := h_is (t := 1) (by decide) (by decide) rfl h h0 h1 h2
theorem h_sz {a : Nat} {i v : Int} (hv : v = 0 ∨ v = 1) (h : h_kd s a = 1002) (h0 : 0 ≤ i) (h1 : i < h_N s a) (h2 : i < 2147483648) : am_is (h_t G s) a (h_ii i) [0, 2] (h_ii v) = some (h_t G (h_sA s a i.toNat v)) := by
  have := h_is (G := G) (s := s) (a := a) (t := 2) (i := i) (v := v) (ts := [0, 2]) (by decide) (by decide) (by rcases hv with rfl | rfl <;> rfl) h h0 h1 h2
  rw [show h_nr 2 v = v by rcases hv with rfl | rfl <;> rfl] at this
  exact this
theorem h_sas {a q : Nat} {i : Int} (h : h_kd s a = 1004) (hq : h_kd s q = 2) (h0 : 0 ≤ i) (h1 : i < h_N s a) (h2 : i < 2147483648) (hr : q ≠ 0) : am_as (h_t G s) a (h_ii i) q = some (h_t G (h_sR s a i.toNat q)) := by
  have e : (h_t G s).2.2 a = _ := h_ce_rf (t := 4) h (by decide)
  have e2 : (h_t G s).2.2 q = _ := h_ce_ob (c := 1) hq (by decide)
  simp only [am_as, e, e2]
  rw [if_pos ⟨trivial, trivial⟩, h_ix h0 h1 h2, Option.map_some]
  refine congrArg some (h_upd rfl rfl ?_ ?_)
  · rw [h_ce_rf (s := h_sR s a i.toNat q) (t := 4) h (by decide)]
    refine congrArg (fun f : Nat → Option Nat => (some (Sum.inl (4, h_N s a, Sum.inr (Sum.inr (Sum.inr (Sum.inr f))))) : Option va_E)) (funext fun j => ?_)
    show (if (if a = a ∧ j = i.toNat then q else h_R s a j) = 0 then none else some (if a = a ∧ j = i.toNat then q else h_R s a j)) = va_up (fun i => if h_R s a i = 0 then none else some (h_R s a i)) i.toNat (some q) j
    unfold va_up
    by_cases hj : j = i.toNat <;> simp [hj, hr]
  · intro z hz
    unfold h_ce
    have hR : h_R (h_sR s a i.toNat q) z = h_R s z := by
      funext j
      show (if z = a ∧ j = i.toNat then q else h_R s z j) = h_R s z j
      rw [if_neg (fun w => hz w.1)]
    rw [hR]
    rfl
theorem h_nar {t : Nat} {n : Int} (ht : t < 3 ∨ t = 4) (h0 : 0 ≤ n) (h1 : n < 60000000) : am_na (h_t G s) t (h_ii n) = some (h_t G (h_na s t n.toNat)) := by
  have hn : (h_ii n).toInt = n := h_toInt (by omega) (by omega)
  have hc : (h_ii n).toNatClampNeg = n.toNat := by unfold Int32.toNatClampNeg; rw [hn]
  unfold am_na
  rw [hc, if_neg (by
    rintro (q | q)
    · rw [Int32.lt_iff_toInt_lt, hn] at q
      have : (0 : Int32).toInt = 0 := rfl
      omega
    · omega)]
  have hoth : ∀ q, q ≠ h_nx s → h_ce G (h_na s t n.toNat) q = h_ce G s q := by
    intro q hq
    unfold h_ce
    simp only [h_kd_na, if_neg hq, h_N_na]
    have e1 : h_R (h_na s t n.toNat) q = h_R s q := by funext j; simp only [h_R_na, if_neg hq]
    have e2 : h_A (h_na s t n.toNat) q = h_A s q := by funext j; simp only [h_A_na, if_neg hq]
    rw [e1, e2]
    rfl
  rcases ht with ht | rfl
  · rw [if_pos (by omega)]
    refine congrArg some (h_psh rfl rfl ?_ hoth)
    rw [h_ce_ar (t := t) (by simp only [h_kd_na, if_true]) ht]
    simp only [h_N_na, if_true, h_A_na]
    rfl
  · rw [if_neg (by decide), if_neg (by decide), if_pos rfl]
    refine congrArg some (h_psh rfl rfl ?_ hoth)
    rw [h_ce_rf (t := 4) (by simp only [h_kd_na, if_true]) (by decide)]
    simp only [h_N_na, if_true, h_R_na]
theorem h_nb {n : Int} (h0 : 0 ≤ n) (h1 : n < 60000000) : am_na (h_t G s) 0 (h_ii n) = some (h_t G (h_na s 0 n.toNat)) := h_nar (.inl (by decide)) h0 h1
theorem h_n4 {n : Int} (h0 : 0 ≤ n) (h1 : n < 60000000) : am_na (h_t G s) 1 (h_ii n) = some (h_t G (h_na s 1 n.toNat)) := h_nar (.inl (by decide)) h0 h1
theorem h_nz {n : Int} (h0 : 0 ≤ n) (h1 : n < 60000000) : am_na (h_t G s) 2 (h_ii n) = some (h_t G (h_na s 2 n.toNat)) := h_nar (.inl (by decide)) h0 h1
theorem h_nq {n : Int} (h0 : 0 ≤ n) (h1 : n < 60000000) : am_na (h_t G s) 4 (h_ii n) = some (h_t G (h_na s 4 n.toNat)) := h_nar (.inr rfl) h0 h1
theorem h_pu {c k : Nat} {fs : List Value} (hc : c < 900) (hf : fs = h_fv (fun _ => 0) (fun _ => 0) c) : am_push (h_t G s) k (.inr (c, fs)) = h_t G (h_no s c k) := by
  refine h_psh rfl rfl ?_ ?_
  · rw [h_ce_ob (c := c) (by simp only [h_kd_no, if_true]) hc, hf]
    congr 4
    · funext j; simp only [h_I_no, if_true]
    · funext j; simp only [h_R_no, if_true]
  · intro q hq
    unfold h_ce
    simp only [h_kd_no, if_neg hq, h_N_no]
    have e1 : h_R (h_no s c k) q = h_R s q := by funext j; simp only [h_R_no, if_neg hq]
    have e2 : h_I (h_no s c k) q = h_I s q := by funext j; simp only [h_I_no, if_neg hq]
    rw [e1, e2]
    rfl
end HT
