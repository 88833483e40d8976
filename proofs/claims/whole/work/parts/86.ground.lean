/-! THE GROUND: texts and tools -/
theorem S44_47 {ad : Nat → Nat} {d : Nat} {M : am_M} {r0 r1 r : Nat} {o2 o3 o4 : Option Value} : am_gg (am_pr ad) d 44 47 [some (.ref r0), some (.ref r1), o2, o3, o4] [.ref r] M = am_gg (am_pr ad) d 44 62 [some (.ref r0), some (.ref r1), some (.ref r), o3, o4] [] M := by
  have h1 : am_gg (am_pr ad) d 44 47 [some (.ref r0), some (.ref r1), o2, o3, o4] [.ref r] M = am_gg (am_pr ad) d 44 48 [some (.ref r0), some (.ref r1), some (.ref r), o3, o4] [] M := am_gP am_h44 (i := .astore_n 2) (len := 1) (tg := []) rfl rfl
  have h2 : am_gg (am_pr ad) d 44 48 [some (.ref r0), some (.ref r1), some (.ref r), o3, o4] [] M = am_gg (am_pr ad) d 44 49 [some (.ref r0), some (.ref r1), some (.ref r), o3, o4] [.ref r] M := am_gP am_h44 (i := .aload_n 2) (len := 1) (tg := []) rfl rfl
  have h3 : am_gg (am_pr ad) d 44 49 [some (.ref r0), some (.ref r1), some (.ref r), o3, o4] [.ref r] M = am_gg (am_pr ad) d 44 62 [some (.ref r0), some (.ref r1), some (.ref r), o3, o4] [] M := am_gP am_h44 (i := .ifnonnull 13) (len := 3) (tg := [62]) rfl rfl
  rw [h1, h2, h3]
theorem S44_47n {ad : Nat → Nat} {d : Nat} {M : am_M} {r0 r1 : Nat} {o2 o3 o4 : Option Value} : am_gg (am_pr ad) d 44 47 [some (.ref r0), some (.ref r1), o2, o3, o4] [.null] M = am_gg (am_pr ad) d 44 52 [some (.ref r0), some (.ref r1), some .null, o3, o4] [] M := by
  have h1 : am_gg (am_pr ad) d 44 47 [some (.ref r0), some (.ref r1), o2, o3, o4] [.null] M = am_gg (am_pr ad) d 44 48 [some (.ref r0), some (.ref r1), some .null, o3, o4] [] M := am_gP am_h44 (i := .astore_n 2) (len := 1) (tg := []) rfl rfl
  have h2 : am_gg (am_pr ad) d 44 48 [some (.ref r0), some (.ref r1), some .null, o3, o4] [] M = am_gg (am_pr ad) d 44 49 [some (.ref r0), some (.ref r1), some .null, o3, o4] [.null] M := am_gP am_h44 (i := .aload_n 2) (len := 1) (tg := []) rfl rfl
  have h3 : am_gg (am_pr ad) d 44 49 [some (.ref r0), some (.ref r1), some .null, o3, o4] [.null] M = am_gg (am_pr ad) d 44 52 [some (.ref r0), some (.ref r1), some .null, o3, o4] [] M := am_gP am_h44 (i := .ifnonnull 13) (len := 3) (tg := [62]) rfl rfl
  rw [h1, h2, h3]
theorem S44_63 {ad : Nat → Nat} {d : Nat} {M : am_M} {r0 r1 r s : Nat} {o3 o4 : Option Value} : am_gg (am_pr ad) (d + 1) 44 63 [some (.ref r0), some (.ref r1), some (.ref r), o3, o4] [.ref s] M = if am_cls M s 4 = true then am_ret0 (am_gg (am_pr ad) d 58 0 [some (.ref s), some (.ref r)] [] M) (fun M1 => am_gg (am_pr ad) (d + 1) 44 67 [some (.ref r0), some (.ref r1), some (.ref r), o3, o4] [] M1) else none := by
  have h1 : am_gg (am_pr ad) (d + 1) 44 63 [some (.ref r0), some (.ref r1), some (.ref r), o3, o4] [.ref s] M = am_gg (am_pr ad) (d + 1) 44 64 [some (.ref r0), some (.ref r1), some (.ref r), o3, o4] [.ref r, .ref s] M := am_gP am_h44 (i := .aload_n 2) (len := 1) (tg := []) rfl rfl
  have h2 : am_gg (am_pr ad) (d + 1) 44 64 [some (.ref r0), some (.ref r1), some (.ref r), o3, o4] [.ref r, .ref s] M = if am_cls M s 4 = true then am_ret0 (am_gg (am_pr ad) d 58 0 [some (.ref s), some (.ref r)] [] M) (fun M1 => am_gg (am_pr ad) (d + 1) 44 67 [some (.ref r0), some (.ref r1), some (.ref r), o3, o4] [] M1) else none := am_gP am_h44 (i := .invokevirtual 44) (len := 3) (tg := [58, 2, 0, 4]) rfl rfl
  rw [h1, h2]
theorem S44_72 {ad : Nat → Nat} {d : Nat} {M : am_M} {r0 r1 r2 : Nat} {x : Int32} {o3 o4 : Option Value} : am_gg (am_pr ad) d 44 72 [some (.ref r0), some (.ref r1), some (.ref r2), o3, o4] [.int x] M = am_gg (am_pr ad) d 44 73 [some (.ref r0), some (.ref r1), some (.ref r2), some (.int x), o4] [] M := am_gP am_h44 (i := .istore_n 3) (len := 1) (tg := []) rfl rfl
theorem S44_99 {ad : Nat → Nat} {d : Nat} {M : am_M} {r0 r1 r2 : Nat} {x : Int32} {o3 o4 : Option Value} : am_gg (am_pr ad) d 44 99 [some (.ref r0), some (.ref r1), some (.ref r2), o3, o4] [.int x] M = am_gg (am_pr ad) d 44 100 [some (.ref r0), some (.ref r1), some (.ref r2), some (.int x), o4] [] M := am_gP am_h44 (i := .istore_n 3) (len := 1) (tg := []) rfl rfl
theorem S48_38 {ad : Nat → Nat} {d : Nat} {M : am_M} {r0 : Nat} {i1 : Int32} : am_gg (am_pr ad) d 48 38 [some (.ref r0), some (.int i1)] [.null] M = some (.inl (some .null), M) := am_gP am_h48 (i := .areturn) (len := 1) (tg := []) rfl rfl
/-- checkIndex -/
theorem j_ci57 {ad : Nat → Nat} {d : Nat} {M : am_M} {i n : Int} {v : Option Value} (h0 : 0 ≤ i) (h1 : i < n) (h2 : n < 2147483648) : am_gg (am_pr ad) d 57 0 [some (.int (h_ii i)), some (.int (h_ii n)), v] [] M = some (.inl (some (.int (h_ii i))), M) := by
  have s0 : am_gg (am_pr ad) d 57 0 [some (.int (h_ii i)), some (.int (h_ii n)), v] [] M = am_gg (am_pr ad) d 57 1 [some (.int (h_ii i)), some (.int (h_ii n)), v] [.int (h_ii i)] M := am_gP am_h57 (i := .iload_n 0) (len := 1) (tg := []) rfl rfl
  have s1 : am_gg (am_pr ad) d 57 1 [some (.int (h_ii i)), some (.int (h_ii n)), v] [.int (h_ii i)] M = if am_cond .lt (h_ii i) 0 = true then am_gg (am_pr ad) d 57 9 [some (.int (h_ii i)), some (.int (h_ii n)), v] [] M else am_gg (am_pr ad) d 57 4 [some (.int (h_ii i)), some (.int (h_ii n)), v] [] M := am_gP am_h57 (i := .ifCond .lt 8) (len := 3) (tg := [9]) rfl rfl
  have s4 : am_gg (am_pr ad) d 57 4 [some (.int (h_ii i)), some (.int (h_ii n)), v] [] M = am_gg (am_pr ad) d 57 5 [some (.int (h_ii i)), some (.int (h_ii n)), v] [.int (h_ii i)] M := am_gP am_h57 (i := .iload_n 0) (len := 1) (tg := []) rfl rfl
  have s5 : am_gg (am_pr ad) d 57 5 [some (.int (h_ii i)), some (.int (h_ii n)), v] [.int (h_ii i)] M = am_gg (am_pr ad) d 57 6 [some (.int (h_ii i)), some (.int (h_ii n)), v] [.int (h_ii n), .int (h_ii i)] M := am_gP am_h57 (i := .iload_n 1) (len := 1) (tg := []) rfl rfl
  have s6 : am_gg (am_pr ad) d 57 6 [some (.int (h_ii i)), some (.int (h_ii n)), v] [.int (h_ii n), .int (h_ii i)] M = if am_cond .lt (h_ii i) (h_ii n) = true then am_gg (am_pr ad) d 57 16 [some (.int (h_ii i)), some (.int (h_ii n)), v] [] M else am_gg (am_pr ad) d 57 9 [some (.int (h_ii i)), some (.int (h_ii n)), v] [] M := am_gP am_h57 (i := .if_icmp .lt 10) (len := 3) (tg := [16]) rfl rfl
  have s16 : am_gg (am_pr ad) d 57 16 [some (.int (h_ii i)), some (.int (h_ii n)), v] [] M = am_gg (am_pr ad) d 57 17 [some (.int (h_ii i)), some (.int (h_ii n)), v] [.int (h_ii i)] M := am_gP am_h57 (i := .iload_n 0) (len := 1) (tg := []) rfl rfl
  have s17 : am_gg (am_pr ad) d 57 17 [some (.int (h_ii i)), some (.int (h_ii n)), v] [.int (h_ii i)] M = some (.inl (some (.int (h_ii i))), M) := am_gP am_h57 (i := .ireturn) (len := 1) (tg := []) rfl rfl
  rw [s0, s1, h_zero]
  simp (disch := omega) only [h_cltF, h_cltT, if_false, if_true, s4, s5, s6, s16, s17]
theorem j_ci {ad : Nat → Nat} {d : Nat} {M : am_M} {i n : Int} (h0 : 0 ≤ i) (h1 : i < n) (h2 : n < 2147483648) : am_gg (am_pr ad) (d + 1) 56 0 [some (.int (h_ii i)), some (.int (h_ii n))] [] M = some (.inl none, M) := by
  have s2 : am_gg (am_pr ad) (d + 1) 56 2 [some (.int (h_ii i)), some (.int (h_ii n))] [.int (h_ii n), .int (h_ii i)] M = am_gg (am_pr ad) (d + 1) 56 5 [some (.int (h_ii i)), some (.int (h_ii n))] [am_zv ad 16, .int (h_ii n), .int (h_ii i)] M := am_gP am_h56 (i := .getstatic 1053) (len := 3) (tg := [16, 0, 0]) rfl rfl
  have s5 : am_gg (am_pr ad) (d + 1) 56 5 [some (.int (h_ii i)), some (.int (h_ii n))] [am_zv ad 16, .int (h_ii n), .int (h_ii i)] M = am_ret1 (am_gg (am_pr ad) d 57 0 [some (.int (h_ii i)), some (.int (h_ii n)), some (am_zv ad 16)] [] M) (fun x M1 => am_gg (am_pr ad) (d + 1) 56 8 [some (.int (h_ii i)), some (.int (h_ii n))] [.int x] M1) := by
    unfold am_zv
    by_cases w : ad (16 + 1) = 0
    · rw [if_pos w]
      exact am_gP am_h56 (i := .invokestatic 1059) (len := 3) (tg := [57, 3, 1]) rfl rfl
    · rw [if_neg w]
      exact am_gP am_h56 (i := .invokestatic 1059) (len := 3) (tg := [57, 3, 1]) rfl rfl
  have s8 : ∀ x M1, am_gg (am_pr ad) (d + 1) 56 8 [some (.int (h_ii i)), some (.int (h_ii n))] [.int x] M1 = am_gg (am_pr ad) (d + 1) 56 9 [some (.int (h_ii i)), some (.int (h_ii n))] [] M1 := fun x M1 => am_gP am_h56 (i := .pop) (len := 1) (tg := []) rfl rfl
  have s9 : am_gg (am_pr ad) (d + 1) 56 9 [some (.int (h_ii i)), some (.int (h_ii n))] [] M = some (.inl none, M) := am_gP am_h56 (i := .return_) (len := 1) (tg := []) rfl rfl
  rw [S56_0, S56_1, s2, s5, j_ci57 h0 h1 h2]
  simp only [am_ret1, s8, s9]
/-- what the class knows of the ground -/
def c_gq (R : Nat → Option va_E) (b : Nat) (ad gk gv : Nat → Nat) : Prop := (∀ t, t < 13 → ad t < b ∧ R (ad t) = some (am_eT gk t)) ∧ (∀ i, i < 32 → gk i < b ∧ R (gk i) = some (am_eS gv i)) ∧ (∀ i, i < 32 → gv i < b ∧ R (gv i) = some (am_eB i)) ∧ (ad 13 < b ∧ R (ad 13) = some (am_eA ad)) ∧ (ad 14 < b ∧ R (ad 14) = some am_eW) ∧ ad 15 = gk 31 ∧ (∀ t u, t < 13 → u < 13 → ad t = ad u → t = u)
/-- a text of the ground, as bytes -/
def x_sb (i : Nat) : List Int := (am_sb i).map (fun n : Nat => (n : Int))
theorem x_sb_ok {i : Nat} (h : i < 32) : ∀ x ∈ x_sb i, 0 ≤ x ∧ x < 128 := by
  have : (List.range 32).all (fun i => (x_sb i).all (fun x => decide (0 ≤ x ∧ x < 128))) = true := by decide +kernel
  intro x hx
  exact of_decide_eq_true (List.all_eq_true.mp (List.all_eq_true.mp this i (List.mem_range.mpr h)) x hx)
theorem x_sb_le {i : Nat} (h : i < 32) : (x_sb i).length ≤ 7 := by
  have : (List.range 32).all (fun i => decide ((x_sb i).length ≤ 7)) = true := by decide +kernel
  exact of_decide_eq_true (List.all_eq_true.mp this i (List.mem_range.mpr h))
theorem x_sb_at {i j : Nat} : ((am_sb i).getD j 0 : Int) = (x_sb i).getD j 0 := by
  unfold x_sb
  rw [List.getD_eq_getElem?_getD, List.getD_eq_getElem?_getD, List.getElem?_map]
  cases (am_sb i)[j]? <;> rfl
theorem x_sb_bd {i j : Nat} (h : i < 32) : 0 ≤ (x_sb i).getD j 0 ∧ (x_sb i).getD j 0 < 128 := by
  rw [List.getD_eq_getElem?_getD]
  cases hx : (x_sb i)[j]? with
  | none => exact ⟨by decide, by decide⟩
  | some v => exact x_sb_ok h v (List.mem_of_getElem? hx)
def x_tt (t : Nat) : Nat := (am_tln t).2.1
def x_tl (t : Nat) : Nat := (am_tln t).2.2.1
def x_tw (t : Nat) : Nat := (am_tln t).2.2.2.1
def x_least (t : Nat) : Nat := (am_tln t).2.2.2.2.1
def x_most (t : Nat) : Nat := (am_tln t).2.2.2.2.2
theorem x_tbd {t : Nat} (h : t < 13) : x_tt t < 32 ∧ x_tl t < 32 ∧ x_tw t < 32 ∧ x_least t ≤ 2 ∧ x_most t ≤ 20 ∧ (x_sb (x_tl t)).length = (x_sb (x_tw t)).length := by
  have : (List.range 13).all (fun t => decide (x_tt t < 32 ∧ x_tl t < 32 ∧ x_tw t < 32 ∧ x_least t ≤ 2 ∧ x_most t ≤ 20 ∧ (x_sb (x_tl t)).length = (x_sb (x_tw t)).length)) = true := by decide +kernel
  exact of_decide_eq_true (List.all_eq_true.mp this t (List.mem_range.mpr h))
section GR
variable {b : Nat} {R : Nat → Option va_E} {ad gk gv : Nat → Nat} {d : Nat} {σ : c_S b} {bs : List Int}
theorem c_gd {a : Nat} (h : a < b) : (c_t R σ).2.2 a = R a := by
  show c_ce R σ a = R a
  unfold c_ce
  rw [if_pos (.inl h)]
theorem y_T {t : Nat} (h : c_gq R b ad gk gv) (ht : t < 13) : (c_t R σ).2.2 (ad t) = some (am_eT gk t) := by rw [c_gd (h.1 t ht).1, (h.1 t ht).2]
theorem y_S {i : Nat} (h : c_gq R b ad gk gv) (hi : i < 32) : (c_t R σ).2.2 (gk i) = some (am_eS gv i) := by rw [c_gd (h.2.1 i hi).1, (h.2.1 i hi).2]
theorem y_B {i : Nat} (h : c_gq R b ad gk gv) (hi : i < 32) : (c_t R σ).2.2 (gv i) = some (am_eB i) := by rw [c_gd (h.2.2.1 i hi).1, (h.2.2.1 i hi).2]
theorem y_A (h : c_gq R b ad gk gv) : (c_t R σ).2.2 (ad 13) = some (am_eA ad) := by rw [c_gd h.2.2.2.1.1, h.2.2.2.1.2]
theorem y_W (h : c_gq R b ad gk gv) : (c_t R σ).2.2 (ad 14) = some am_eW := by rw [c_gd h.2.2.2.2.1.1, h.2.2.2.2.1.2]
theorem y_Tcls {t : Nat} (h : c_gq R b ad gk gv) (ht : t < 13) : am_cls (c_t R σ) (ad t) 100 = true := by simp only [am_cls, y_T h ht, am_eT]; rfl
theorem y_title {t : Nat} (h : c_gq R b ad gk gv) (ht : t < 13) : am_gr (c_t R σ) (ad t) 100 0 = some (gk (x_tt t)) := by simp only [am_gr, am_gv, y_T h ht, am_eT]; rfl
theorem y_letters {t : Nat} (h : c_gq R b ad gk gv) (ht : t < 13) : am_gr (c_t R σ) (ad t) 100 1 = some (gk (x_tl t)) := by simp only [am_gr, am_gv, y_T h ht, am_eT]; rfl
theorem y_wants {t : Nat} (h : c_gq R b ad gk gv) (ht : t < 13) : am_gr (c_t R σ) (ad t) 100 2 = some (gk (x_tw t)) := by simp only [am_gr, am_gv, y_T h ht, am_eT]; rfl
theorem y_least {t : Nat} (h : c_gq R b ad gk gv) (ht : t < 13) : am_gi (c_t R σ) (ad t) 100 3 = some (h_ii (x_least t)) := by rw [← h_nI]; simp only [am_gi, am_gv, y_T h ht, am_eT]; rfl
theorem y_most {t : Nat} (h : c_gq R b ad gk gv) (ht : t < 13) : am_gi (c_t R σ) (ad t) 100 4 = some (h_ii (x_most t)) := by rw [← h_nI]; simp only [am_gi, am_gv, y_T h ht, am_eT]; rfl
theorem y_ord {t : Nat} (h : c_gq R b ad gk gv) (ht : t < 13) : am_gi (c_t R σ) (ad t) 100 5 = some (h_ii t) := by rw [← h_nI]; simp only [am_gi, am_gv, y_T h ht, am_eT]; rfl
theorem y_Scls {i : Nat} (h : c_gq R b ad gk gv) (hi : i < 32) : am_cls (c_t R σ) (gk i) 101 = true := by simp only [am_cls, y_S h hi, am_eS]; rfl
theorem y_val {i : Nat} (h : c_gq R b ad gk gv) (hi : i < 32) : am_gr (c_t R σ) (gk i) 101 0 = some (gv i) := by simp only [am_gr, am_gv, y_S h hi, am_eS]; rfl
theorem y_cod {i : Nat} (h : c_gq R b ad gk gv) (hi : i < 32) : am_gi (c_t R σ) (gk i) 101 1 = some (h_ii 0) := by simp only [am_gi, am_gv, y_S h hi, am_eS]; rfl
theorem y_blen {i : Nat} (h : c_gq R b ad gk gv) (hi : i < 32) : am_len (c_t R σ) (gv i) = some (h_ii (x_sb i).length) := by simp only [am_len, y_B h hi, am_eB]; rw [h_nI]; simp [x_sb]
theorem y_bat {i : Nat} {j : Int} (h : c_gq R b ad gk gv) (hi : i < 32) (h0 : 0 ≤ j) (h1 : j < (x_sb i).length) : am_il (c_t R σ) (gv i) (h_ii j) [0, 2, 100] = some (h_ii ((x_sb i).getD j.toNat 0)) := by
  have hl := x_sb_le hi
  have e : (am_sb i).length = (x_sb i).length := by simp [x_sb]
  simp only [am_il, y_B h hi, am_eB]
  rw [if_pos (by decide), e, h_ix h0 h1 (by omega), Option.map_some, h_nI, x_sb_at]
theorem y_alen (h : c_gq R b ad gk gv) : am_len (c_t R σ) (ad 13) = some (h_ii 13) := by simp only [am_len, y_A h, am_eA]; rfl
theorem y_aat {t : Nat} (h : c_gq R b ad gk gv) (ht : t < 13) : am_al (c_t R σ) (ad 13) (h_ii t) = some (ad t) := by
  simp only [am_al, y_A h, am_eA]
  rw [if_pos (by decide), h_ix (by omega) (by omega) (by omega)]
  rfl
theorem y_swm {t : Nat} (h : c_gq R b ad gk gv) (ht : t < 13) : am_il (c_t R σ) (ad 14) (h_ii t) [1, 101] = some (h_ii (t + 1 : Nat)) := by
  simp only [am_il, y_W h, am_eW]
  rw [if_pos (by decide), h_ix (by omega) (by omega) (by omega), Option.map_some, ← h_nI]
  show some (if ((t : Int)).toNat < 13 then nI (((t : Int)).toNat + 1) else 0) = _
  rw [Int.toNat_natCast, if_pos ht]
theorem y_shr (x : Int32) : x >>> (h_ii 0 &&& 31) = x := by
  show x >>> ((0 : Int32) &&& 31) = x
  simp
theorem y_chr {c : Int} (h0 : 0 ≤ c) (h1 : c < 65536) : ((h_ii c).toUInt32 % 65536).toInt32 = h_ii c := by
  apply Int32.toBitVec_inj.mp
  apply BitVec.eq_of_toNat_eq
  have : (BitVec.ofInt 32 c).toNat = c.toNat := by
    rw [BitVec.toNat_ofInt, Int.emod_eq_of_lt (by omega) (by omega)]
  show (BitVec.ofInt 32 c % 65536#32).toNat = (BitVec.ofInt 32 c).toNat
  rw [BitVec.toNat_umod, this]
  show c.toNat % 65536 = c.toNat
  omega
theorem y_fit6 {c : Int} (h0 : 0 ≤ c) (h1 : c < 65536) : am_fit 6 (.int (h_ii c)) = true := by
  refine decide_eq_true ?_
  apply Int32.toBitVec_inj.mp
  apply BitVec.eq_of_toNat_eq
  have : (BitVec.ofInt 32 c).toNat = c.toNat := by
    rw [BitVec.toNat_ofInt, Int.emod_eq_of_lt (by omega) (by omega)]
  show (((BitVec.ofInt 32 c).setWidth 16).setWidth 32).toNat = (BitVec.ofInt 32 c).toNat
  rw [BitVec.toNat_setWidth, BitVec.toNat_setWidth, this]
  omega
end GR
