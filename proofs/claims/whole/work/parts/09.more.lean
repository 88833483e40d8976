/-! REFERENCES INTO ARRAYS, TWO DIMENSIONS, arraycopy, Object's constructor, texts -/
section AMM
variable {p : Program} {l : Launch} {e : Env} {R : Room} {s : State} {m : MethodId} {args : Array Value} {below : List Frame} {meth : Method} {c : Code} {Q : State → Prop} {E : am_E} {F : am_F} {c0 s0 pc : Nat} {al : am_L} {st : List Value} {M : am_M} {cc : ByteArray} {Ts : List Cond} {own : String}
theorem am_s_ast (hx : p.tables.exec = Jvm.exec) (hb : c.code = cc) (hK : am_K E F s) {a q : Nat} {i : Int32} {M1 : am_M} {r : vw_C} (hc : F.1[1]? = some r) (hr : r.1 = "TextTools$Lines") (hv : am_as M a i q = some M1) (hd : decode cc pc = .ok (.aastore, 1))
    (kk : am_G p l e R s m args below meth c Q E F c0 s0 (pc + 1) al st M1) : am_G p l e R s m args below meth c Q E F c0 s0 pc al (.ref q :: .int i :: .ref a :: st) M := by
  intro H locs ls hM hS hl hn h1 h2
  unfold am_as at hv
  split at hv
  · rename_i t n f ci fs hcell hcq
    split at hv
    · rename_i ht
      obtain ⟨ht, hci⟩ := ht
      subst ht; subst hci
      obtain ⟨j, hj, rfl⟩ := Option.map_eq_some_iff.mp hv
      obtain ⟨hba, q1, hfit⟩ := am_own (by decide) (hM.2.2.1 a _ hcell)
      obtain ⟨e1, e2, e3⟩ := am_ix_spec hj
      rcases hM.2.2.1 q _ hcq with ⟨-, hbq, r', hr', hlen, ce, g1, g2, g3, g4⟩ | ⟨w, -⟩ | ⟨w, -⟩ | ⟨w, -⟩
      · cases Option.some.inj (hr'.symm.trans hc)
        have hcls := (hK.1 1 _ hc).2
        have h0 : (am_tys E.2.1)[4]? = some (E.2.1 4, am_ty 4) := by simp [am_tys]
        obtain ⟨kA, comp, k1, k2, k3, -⟩ := (hK.2 4 _ h0).2
        have hcomp : comp = E.1.1 1 := by
          have w := hcls.1
          rw [hr] at w
          exact Option.some.inj (k3.symm.trans w)
        subst hcomp
        obtain ⟨kC, hkC, -⟩ := hcls.2
        refine W.aast hx hb q1 (fun q h => by cases h) (fun h => by cases h) k1 k2 rfl hkC ⟨e3, by rw [am_vp_size, ← e1]; exact e2⟩ g1 (fun q h => by rw [g3] at h; cases h) (by rw [g2]; exact hkC) (by rw [g2]; exact va_assign hcls) rfl rfl hd fun H' w1 w2 w3 => ?_
        refine kk H' _ ls (hM.upd hba (.inl ⟨by decide, hba, ?_, .inl rfl⟩) w2 w3) (hS.put w2 w3 hba) hl hn h1 h2
        rw [w1, ← e1]
        rw [vp_cell_q, vp_cell_q, arrV_store]
        congr 2
        funext z
        by_cases hz : z = j
        · subst hz; simp [updV, va_up, va_rf]
        · simp [updV, va_up, hz]
      · omega
      · omega
      · omega
    · cases hv
  · cases hv
theorem am_s_objInit (hx : p.tables.exec = Jvm.exec) (hb : c.code = cc) (hown : s.vm.findClass own = some m.cls) (hts : ∀ w ∈ Ts, w.before args s = true) {idx a : Nat} (hw1 : Cond.methodLink own idx objectInit ∈ Ts) (hw2 : Cond.instanceMethod objectInit ∈ Ts) (hw3 : Cond.code objectInit ⟨#[0xb1]⟩ 1 none ∈ Ts) (hd : decode cc pc = .ok (.invokespecial idx, 3)) (hfr : 1 ≤ R.frames) (hlo : (st.map fun v => v.category).sum + 12 ≤ R.locals)
    (kk : am_G p l e R s m args below meth c Q E F c0 s0 (pc + 3) al st M) : am_G p l e R s m args below meth c Q E F c0 s0 pc al (.ref a :: st) M := by
  intro H locs ls hM hS hl hn h1 h2
  refine W.objInit hx hb hown (hts _ hw1) (hts _ hw2) (hts _ hw3) rfl (by rw [hn]; exact hl.1) rfl hd hfr (by show 2 * 0 + _ + 12 ≤ _; omega) ?_
  exact kk H locs ls hM hS hl hn h1 h2
theorem am_s_ldcS (hx : p.tables.exec = Jvm.exec) (hb : c.code = cc) (hown : s.vm.findClass own = some m.cls) {idx a : Nat} {tx : String} (hz : vk_R own idx tx a s) (hd : decode cc pc = .ok (.ldc idx, 2))
    (kk : am_G p l e R s m args below meth c Q E F c0 s0 (pc + 2) al (.ref a :: st) M) : am_G p l e R s m args below meth c Q E F c0 s0 pc al st M := fun H locs ls hM hS hl hn h1 h2 => va_ldcS hx hb hown hz hd (kk H locs ls hM hS hl hn h1 h2)
end AMM
section AMCP
variable {p : Program} {l : Launch} {e : Env} {R : Room} {s : State} {m : MethodId} {args : Array Value} {below : List Frame} {meth : Method} {c : Code} {Q : State → Prop} {E : am_E} {F : am_F} {c0 s0 pc : Nat} {al : am_L} {st : List Value} {M : am_M} {cc : ByteArray} {Ts : List Cond} {own : String}
theorem am_pos {z : Int32} (hz : ¬ z < 0) : z.toInt = (z.toNatClampNeg : Int) := by
  obtain ⟨j, hj, rfl⟩ := nI_of hz
  rw [nI_clamp hj, nI_toInt hj]
theorem am_cpy_spec {a b : Nat} {sp dp n : Int32} {M1 : am_M} (h : am_cpy M a sp b dp n = some M1) : ∃ (t n0 n1 : Nat) (f g : Nat → Int32), M.2.2 a = some (.inl (t, n0, .inl f)) ∧ M.2.2 b = some (.inl (t, n1, .inl g)) ∧ t < 2 ∧ ¬ sp < 0 ∧ ¬ dp < 0 ∧ ¬ n < 0 ∧ sp.toNatClampNeg + n.toNatClampNeg ≤ n0 ∧ dp.toNatClampNeg + n.toNatClampNeg ≤ n1 ∧ M1 = am_upd M b (.inl (t, n1, .inl (va_cpy f g sp.toNatClampNeg dp.toNatClampNeg n.toNatClampNeg))) := by
  unfold am_cpy at h
  split at h
  · rename_i t n0 f t1 n1 g hca hcb
    split at h
    · rename_i q
      obtain ⟨e, q0, q1, q2, q3, q4, q5⟩ := q
      subst e
      exact ⟨t, n0, n1, f, g, hca, hcb, q0, q1, q2, q3, q4, q5, (Option.some.inj h).symm⟩
    · cases h
  · cases h
theorem am_s_cpy (hx : p.tables.exec = Jvm.exec) (hb : c.code = cc) (hown : s.vm.findClass own = some m.cls) (hts : ∀ w ∈ Ts, w.before args s = true) (hK : am_K E F s) {idx a b : Nat} {sp dp n : Int32} {M1 : am_M} (hw1 : Cond.methodLink own idx arraycopyName ∈ Ts) (hw2 : Cond.native arraycopyName ∈ Ts) (hw3 : Cond.static arraycopyName ∈ Ts) (hw4 : Cond.initialized "java/lang/System" ∈ Ts)
    (hv : am_cpy M a sp b dp n = some M1) (hd : decode cc pc = .ok (.invokestatic idx, 3)) (hfr : 1 ≤ R.frames) (hlo : (st.map fun v => v.category).sum + (nativeFrameWords "java/lang/System" "arraycopy" 5 + 11) ≤ R.locals)
    (kk : am_G p l e R s m args below meth c Q E F c0 s0 (pc + 3) al st M1) : am_G p l e R s m args below meth c Q E F c0 s0 pc al (.int n :: .int dp :: .ref b :: .int sp :: .ref a :: st) M := by
  intro H locs ls hM hS hl hn h1 h2
  obtain ⟨t, n0, n1, f, g, hca, hcb, q0, q1, q2, q3, q4, q5, rfl⟩ := am_cpy_spec hv
  obtain ⟨hba, w1, hfa⟩ := am_own (show t < 100 by omega) (hM.2.2.1 a _ hca)
  obtain ⟨hbb, w2, hfb⟩ := am_own (show t < 100 by omega) (hM.2.2.1 b _ hcb)
  have h0 : (am_tys E.2.1)[t]? = some (E.2.1 t, am_ty t) := by simp [am_tys, show t < 6 by omega]
  obtain ⟨-, k0, hk0, cm0, hkk0⟩ := (hK.2 t _ h0).1 n0 (fun j => .int (f j))
  have hprim : refKind (am_ty t) = false := by rcases (show t = 0 ∨ t = 1 by omega) with e | e <;> (rw [e]; rfl)
  intro T hT X
  obtain ⟨vm', X', step⟩ := X.arraycopy hx hown (hts _ hw1) (hts _ hw2) (hts _ hw3) (hts _ hw4) (src := a) (dst := b) (cs := vp_cell (E.2.1 t) (n0, .inl f)) (cd := vp_cell (E.2.1 t) (n1, .inl g)) (srcPos := sp) (destPos := dp) (n := n) (by rw [hT]; exact w1) (by rw [hT]; exact w2)
    (fun _ h => by rw [am_vp_vm] at h; cases h) (fun _ h => by rw [am_vp_vm] at h; cases h) (by rw [am_vp_vm]; exact fun h => by cases h) (by rw [am_vp_vm]; exact fun h => by cases h) hk0 hk0 hkk0 hkk0 (by simp [hprim]) q1 q2 q3
    (by rw [am_vp_size, am_pos q1, am_pos q3]; show ¬ _ > ((n0 : Nat) : Int); omega) (by rw [am_vp_size, am_pos q2, am_pos q3]; show ¬ _ > ((n1 : Nat) : Int); omega)
    (fun vm₁ _ i hi => by
      have e1 : (vp_cell (E.2.1 t) (n0, .inl f)).slots.getD (sp.toNatClampNeg + i) .null = .int (f (sp.toNatClampNeg + i)) := by
        rw [Array.getD_eq_getD_getElem?, am_vp_at _ _ (show sp.toNatClampNeg + i < n0 by omega)]; rfl
      rw [e1]
      exact ⟨hfa.2 _ (show sp.toNatClampNeg + i < n0 by omega), trivial⟩)
    (g := F0 m pc ls (.int n :: .int dp :: .ref b :: .int sp :: .ref a :: st)) rfl (by rw [hn]; exact hl.1) (rest := st) rfl (by rw [hb]; exact hd) hfr (by show 2 * 0 + _ + _ ≤ _; omega)
  have e1 : copied (vp_cell (E.2.1 t) (n0, .inl f)) (vp_cell (E.2.1 t) (n1, .inl g)) sp dp n = vp_cell (E.2.1 t) (n1, .inl (va_cpy f g sp.toNatClampNeg dp.toNatClampNeg n.toNatClampNeg)) := va_copied (fun z => .int z) _ _ f g q4
  rw [e1] at X' step
  have hlb : b < H.size := (Array.getElem?_eq_some_iff.mp w2).1
  have oq : ∀ q : Nat, q ≠ b → (H.setIfInBounds b (vp_cell (E.2.1 t) (n1, .inl (va_cpy f g sp.toNatClampNeg dp.toNatClampNeg n.toNatClampNeg))))[q]? = H[q]? := fun q hq => by simp [Array.getElem?_setIfInBounds, Ne.symm hq]
  have hrel : am_rel E F s (am_upd M b (.inl (t, n1, .inl (va_cpy f g sp.toNatClampNeg dp.toNatClampNeg n.toNatClampNeg)))) (H.setIfInBounds b (vp_cell (E.2.1 t) (n1, .inl (va_cpy f g sp.toNatClampNeg dp.toNatClampNeg n.toNatClampNeg)))) := by
    refine hM.upd hbb (.inl ⟨show t < 100 by omega, hbb, by simp [Array.getElem?_setIfInBounds, hlb], hfb.1, fun j hj => ?_⟩) (by simp) oq
    show fits (am_ty t) (.int (va_cpy f g _ _ _ j)) = true
    unfold va_cpy
    split
    · rename_i hj2; exact hfa.2 _ (show _ < n0 by omega)
    · exact hfb.2 j hj
  have hgo := fun (L : List Loc) (hL : ∀ q ∈ L, q.base = b) (X9 : Stand p l e R s m args below meth c ((T.setVm vm').setCell b (vp_cell (E.2.1 t) (n1, .inl (va_cpy f g sp.toNatClampNeg dp.toNatClampNeg n.toNatClampNeg)))) (locs ++ L) (M.1 - c0) (M.2.1 - s0)) =>
    kk _ (locs ++ L) ls hrel ⟨by simpa using hS.1, fun q g1 g2 => by rw [oq q (fun e => g2 (by rw [e]; exact hbb))]; exact hS.2.1 q g1 g2, fun q hq => by
      rcases List.mem_append.mp hq with h | h
      · exact hS.2.2 q h
      · rw [hL q h]; exact hbb⟩ hl hn h1 h2 _ (show ((T.setVm vm').setCell b _).heap = _ by rw [← hT]; rfl) X9
  obtain ⟨t9, a1, b1⟩ := hgo _ (fun q hq => by
    obtain ⟨z, -, hz⟩ := List.mem_map.mp hq
    rw [← hz]) X'
  exact ⟨t9, step t9 a1, b1⟩
end AMCP
