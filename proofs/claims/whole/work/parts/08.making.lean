/-! MAKING, STATICS, COPIES -/
section AMN
variable {p : Program} {l : Launch} {e : Env} {R : Room} {s : State} {m : MethodId} {args : Array Value} {below : List Frame} {meth : Method} {c : Code} {Q : State → Prop} {E : am_E} {F : am_F} {c0 s0 pc : Nat} {al : am_L} {st : List Value} {M : am_M} {cc : ByteArray} {Ts : List Cond} {own : String}
theorem am_S_push {A : Nat → Prop} {H0 H : Heap} {locs : List Loc} (ce : Cell) (h : va_S A H0 H locs) : va_S A H0 (H.push ce) locs :=
  ⟨Nat.le_trans h.1 (by simp), fun q h1 h2 => by rw [Array.getElem?_push, if_neg (by have := h.1; omega)]; exact h.2.1 q h1 h2, h.2.2⟩
theorem am_W_push {H : Heap} {locs : List Loc} {ls : Array Slot} {n : Nat} (h1 : c0 ≤ M.1) (h2 : s0 ≤ M.2.1) {pc2 : Nat} {st2 : List Value} (k : W p l e R s m args below meth c H locs (M.1 + 1 - c0) (M.2.1 + n - s0) Q (F0 m pc2 ls st2)) : W p l e R s m args below meth c H locs (M.1 - c0 + 1) (M.2.1 - s0 + n) Q (F0 m pc2 ls st2) :=
  W.cs (by omega) (by omega) k
theorem am_kA {t : Nat} (hK : am_K E F s) (ht : t < 4) {cA : ClassId} (h : s.vm.findClass ("[" ++ (am_ty t).toString) = some cA) : cA = E.2.1 t := by
  have h0 : (am_tys E.2.1)[t]? = some (E.2.1 t, am_ty t) := by simp [am_tys, show t < 6 by omega]
  have h2 := (hK.2 t _ h0).2
  have h3 : s.vm.findClass ("[" ++ (am_ty t).toString) = some (E.2.1 t) := by
    rcases (show t = 0 ∨ t = 1 ∨ t = 2 ∨ t = 3 by omega) with rfl | rfl | rfl | rfl <;> exact h2
  exact Option.some.inj (h.symm.trans h3)
def am_aty : Nat → ArrayType
  | 0 => .byte
  | 1 => .int
  | 2 => .boolean
  | _ => .long
theorem am_na_spec {t : Nat} {x : Int32} {M1 : am_M} (h : am_na M t x = some M1) : ¬ x < 0 ∧ x.toNatClampNeg < 60000000 ∧
    ((t ≤ 2 ∧ M1 = am_push M x.toNatClampNeg (.inl (t, x.toNatClampNeg, .inl (fun _ => 0)))) ∨ (t = 3 ∧ M1 = am_push M x.toNatClampNeg (.inl (t, x.toNatClampNeg, .inr (.inl (fun _ => 0))))) ∨ (t = 4 ∧ M1 = am_push M x.toNatClampNeg (.inl (t, x.toNatClampNeg, .inr (.inr (.inr (.inr (fun _ => none)))))))) := by
  unfold am_na at h
  split at h
  · cases h
  · rename_i q
    refine ⟨fun w => q (.inl w), Nat.not_le.mp (fun w => q (.inr w)), ?_⟩
    split at h
    · rename_i ht; exact .inl ⟨ht, (Option.some.inj h).symm⟩
    · split at h
      · rename_i ht; exact .inr (.inl ⟨ht, (Option.some.inj h).symm⟩)
      · split at h
        · rename_i ht; exact .inr (.inr ⟨ht, (Option.some.inj h).symm⟩)
        · cases h
theorem am_s_newa (hx : p.tables.exec = Jvm.exec) (hb : c.code = cc) (hts : ∀ w ∈ Ts, w.before args s = true) (hK : am_K E F s) {t : Nat} {x : Int32} {M1 : am_M} (ht : t < 4) (hw : Cond.arrayClass (newarray.typeOf (am_aty t)) ∈ Ts) (hv : am_na M t x = some M1) (hd : decode cc pc = .ok (.newarray (am_aty t), 2))
    (hrc : M1.1 - c0 ≤ R.cells) (hrs : M1.2.1 - s0 ≤ R.slots)
    (kk : am_G p l e R s m args below meth c Q E F c0 s0 (pc + 2) al (.ref M.1 :: st) M1) : am_G p l e R s m args below meth c Q E F c0 s0 pc al (.int x :: st) M := by
  intro H locs ls hM hS hl hn h1 h2
  obtain ⟨hx0, hx1, hM1⟩ := am_na_spec hv
  have hty : newarray.typeOf (am_aty t) = am_ty t := by rcases (show t = 0 ∨ t = 1 ∨ t = 2 ∨ t = 3 by omega) with rfl | rfl | rfl | rfl <;> rfl
  have hM1a : M1.1 = M.1 + 1 ∧ M1.2.1 = M.2.1 + x.toNatClampNeg := by rcases hM1 with ⟨-, rfl⟩ | ⟨-, rfl⟩ | ⟨-, rfl⟩ <;> exact ⟨rfl, rfl⟩
  rw [hM1a.1] at hrc
  rw [hM1a.2] at hrs
  refine W.newa hx hb (hts _ hw) rfl hd rfl hx0 (Nat.le_trans (Nat.mul_le_mul (Nat.le_of_lt hx1) (show componentBytes (newarray.typeOf (am_aty t)) ≤ 8 by rcases (show t = 0 ∨ t = 1 ∨ t = 2 ∨ t = 3 by omega) with rfl | rfl | rfl | rfl <;> decide)) (by decide)) (by omega) (by omega) fun cA kA comp f1 f2 f3 => ?_
  rw [hty] at f1
  have hcA := am_kA hK ht f1
  subst hcA
  refine am_W_push h1 h2 ?_
  rw [hM.1]
  have key : am_rel E F s M1 (H.push { cls := E.2.1 t, slots := Array.replicate x.toNatClampNeg (defaultValue (newarray.typeOf (am_aty t))), vm := .none }) := by
    rcases hM1 with ⟨h3, rfl⟩ | ⟨h3, rfl⟩ | ⟨h3, -⟩
    · refine hM.push (.inl ⟨by show t < 100; omega, by rw [← hM.1]; exact Nat.le_trans hM.2.1 (by rw [hM.1]; exact Nat.le_refl _), ?_, h3, fun j _ => ?_⟩)
      · rw [← hM.1, Array.getElem?_push_size, arrV_new, hty]
        rcases (show t = 0 ∨ t = 1 ∨ t = 2 by omega) with rfl | rfl | rfl <;> rfl
      · rcases (show t = 0 ∨ t = 1 ∨ t = 2 by omega) with rfl | rfl | rfl <;> (show fits _ (Value.int 0) = true; decide)
    · subst h3
      refine hM.push (.inl ⟨by decide, by rw [← hM.1]; exact Nat.le_trans hM.2.1 (by rw [hM.1]; exact Nat.le_refl _), ?_, rfl⟩)
      rw [← hM.1, Array.getElem?_push_size, arrV_new]
      rfl
    · omega
  rw [← hM1a.1, ← hM1a.2]
  exact kk _ _ ls key (am_S_push _ hS) hl hn (by omega) (by omega)
theorem am_s_anew (hx : p.tables.exec = Jvm.exec) (hb : c.code = cc) (hown : s.vm.findClass own = some m.cls) (hts : ∀ w ∈ Ts, w.before args s = true) (hK : am_K E F s) {idx : Nat} {x : Int32} {M1 : am_M} (hw1 : Cond.classLink own idx "TextTools$Lines" ∈ Ts) (hw2 : Cond.arrayOver (.object "TextTools$Lines") ∈ Ts) (hv : am_na M 4 x = some M1) (hd : decode cc pc = .ok (.anewarray idx, 3))
    (hrc : M1.1 - c0 ≤ R.cells) (hrs : M1.2.1 - s0 ≤ R.slots)
    (kk : am_G p l e R s m args below meth c Q E F c0 s0 (pc + 3) al (.ref M.1 :: st) M1) : am_G p l e R s m args below meth c Q E F c0 s0 pc al (.int x :: st) M := by
  intro H locs ls hM hS hl hn h1 h2
  obtain ⟨hx0, hx1, hM1⟩ := am_na_spec hv
  have hM1 : M1 = am_push M x.toNatClampNeg (.inl (4, x.toNatClampNeg, .inr (.inr (.inr (.inr (fun _ => none)))))) := by rcases hM1 with ⟨w, -⟩ | ⟨w, -⟩ | ⟨-, w⟩; omega; omega; exact w
  subst hM1
  have hrc : M.1 + 1 - c0 ≤ R.cells := hrc
  have hrs : M.2.1 + x.toNatClampNeg - s0 ≤ R.slots := hrs
  refine W.anew hx hb hown (hts _ hw1) (hts _ hw2) rfl hd rfl hx0 (by omega) (by omega) (by omega) fun cA kA comp f1 f2 f3 f4 => ?_
  have h0 : (am_tys E.2.1)[4]? = some (E.2.1 4, am_ty 4) := by simp [am_tys]
  obtain ⟨kA', comp', g1, g2, g3, g4⟩ := (hK.2 4 _ h0).2
  have hcA : cA = E.2.1 4 := Option.some.inj (f1.symm.trans g4)
  subst hcA
  refine am_W_push h1 h2 ?_
  rw [hM.1]
  refine kk _ _ ls (hM.push (.inl ⟨by decide, hM.2.1, ?_, .inl rfl⟩)) (am_S_push _ hS) hl hn (by show c0 ≤ M.1 + 1; omega) (by show s0 ≤ M.2.1 + _; omega)
  rw [← hM.1, Array.getElem?_push_size, arrV_new]
  rfl
/-- a new object of the world -/
theorem am_s_new (hx : p.tables.exec = Jvm.exec) (hb : c.code = cc) (hown : s.vm.findClass own = some m.cls) (hts : ∀ w ∈ Ts, w.before args s = true) (hK : am_K E F s) {idx ci : Nat} {r : vw_C} {fs : List Value} (hci : ci < 20) (hc : F.1[ci]? = some r) (hok : am_cok Ts r) (hw1 : Cond.classLink own idx r.1 ∈ Ts) (hw2 : Cond.instantiable r.1 r.2.2 ∈ Ts) (hw3 : Cond.initialized r.1 ∈ Ts) (hfl : fs.length = r.2.2)
    (hfs : ∀ k ty, k < r.2.2 → parseFieldDescriptor (r.2.1 k).2.2.1 = some ty → fs[k]? = some (defaultValue ty)) (hd : decode cc pc = .ok (.new idx, 3))
    (hrc : M.1 + 1 - c0 ≤ R.cells) (hrs : M.2.1 + r.2.2 - s0 ≤ R.slots)
    (kk : am_G p l e R s m args below meth c Q E F c0 s0 (pc + 3) al (.ref M.1 :: st) (am_push M r.2.2 (.inr (ci, fs)))) : am_G p l e R s m args below meth c Q E F c0 s0 pc al st M := by
  intro H locs ls hM hS hl hn h1 h2
  obtain ⟨C, T, N⟩ := r
  have hKn := hK.1 ci _ hc
  refine W.newc hx hb hown (hts _ hw1) (hts _ hw2) (hts _ hw3) rfl hd (by omega) (by have : M.2.1 + N - s0 ≤ R.slots := hrs; omega) fun cC kC f1 f2 f3 f4 => ?_
  have hcC : cC = E.1.1 ci := Option.some.inj (f1.symm.trans hKn.2.1)
  subst hcC
  refine am_W_push h1 h2 ?_
  rw [hM.1]
  obtain ⟨hin, ⟨ty0, hty0⟩, -⟩ := hok
  refine kk _ _ ls (hM.push (.inl ⟨hci, hM.2.1, _, hc, hfl, ?_⟩)) (am_S_push _ hS) hl hn (by show c0 ≤ M.1 + 1; omega) (by show s0 ≤ M.2.1 + _; omega)
  refine (u_born ty0 hts hin hKn f2 (o := M.1) (H := H.push (blank (E.1.1 ci) kC)) (by rw [← hM.1, Array.getElem?_push_size]) hty0).to (fun k hk => ?_)
  show _ = fs.getD k .null
  rw [List.getD_eq_getElem?_getD, hfs k (ty0 k) hk (hty0 k hk)]
  rfl
/-- a new exception -/
theorem am_s_newX (hx : p.tables.exec = Jvm.exec) (hb : c.code = cc) (hown : s.vm.findClass own = some m.cls) (hts : ∀ w ∈ Ts, w.before args s = true) {idx ci : Nat} {fs : List Value} (hci : 20 ≤ ci) (hci2 : ci < 30) (hw1 : Cond.classLink own idx (F.2.2.1 (ci - 20)) ∈ Ts) (hw2 : Cond.instantiable (F.2.2.1 (ci - 20)) 6 ∈ Ts) (hw3 : Cond.initialized (F.2.2.1 (ci - 20)) ∈ Ts)
    (hd : decode cc pc = .ok (.new idx, 3)) (hrc : M.1 + 1 - c0 ≤ R.cells) (hrs : M.2.1 + 6 - s0 ≤ R.slots)
    (kk : am_G p l e R s m args below meth c Q E F c0 s0 (pc + 3) al (.ref M.1 :: st) (am_push M 6 (.inr (ci, fs)))) : am_G p l e R s m args below meth c Q E F c0 s0 pc al st M := by
  intro H locs ls hM hS hl hn h1 h2
  refine W.newc hx hb hown (hts _ hw1) (hts _ hw2) (hts _ hw3) rfl hd (by omega) (by omega) fun cC kC f1 f2 f3 f4 => ?_
  refine am_W_push h1 h2 ?_
  rw [hM.1]
  exact kk _ _ ls (hM.push (.inr (.inl ⟨hci, hci2, hM.2.1, cC, kC, f1, f2, by rw [← hM.1, Array.getElem?_push_size]⟩))) (am_S_push _ hS) hl hn (by show c0 ≤ M.1 + 1; omega) (by show s0 ≤ M.2.1 + _; omega)
theorem am_s_gets (hx : p.tables.exec = Jvm.exec) (hb : c.code = cc) (hown : s.vm.findClass own = some m.cls) (hts : ∀ w ∈ Ts, w.before args s = true) {idx : Nat} {z : String × String × String × Value} (hz : z ∈ F.2.2.2.2.1) (hw : Cond.fieldLink own idx z.1 z.2.1 z.2.2.1 ∈ Ts ∨ ∃ host, Cond.fieldLinkNest own idx z.1 z.2.1 z.2.2.1 host ∈ Ts) (hd : decode cc pc = .ok (.getstatic idx, 3))
    (kk : am_G p l e R s m args below meth c Q E F c0 s0 (pc + 3) al (z.2.2.2 :: st) M) : am_G p l e R s m args below meth c Q E F c0 s0 pc al st M := by
  intro H locs ls hM hS hl hn h1 h2
  obtain ⟨cf, kf, fi, f, a, ce, -, g1, g2, g3, g4, g5, g6, -, -, -, g7, -⟩ := hM.2.2.2 z hz
  rcases hw with hw | ⟨host, hw⟩
  · exact W.gets hx hb hown (hts _ hw) g1 g2 g3 g4 g5 (fun w => by rw [w] at g6; cases g6) g7 rfl hd (kk H locs ls hM hS hl hn h1 h2)
  · exact va_WgetsN hx hb hown (hts _ hw) g1 g2 g3 g4 g5 (fun w => by rw [w] at g6; cases g6) g7 rfl hd (kk H locs ls hM hS hl hn h1 h2)
end AMN
