/-! REFERENCES INTO ARRAYS, TWO DIMENSIONS, arraycopy, Object's constructor, texts -/
section AMM
variable {p : Program} {l : Launch} {e : Env} {R : Room} {s : State} {m : MethodId} {args : Array Value} {below : List Frame} {meth : Method} {c : Code} {Q : State → Prop} {E : am_E} {F : am_F} {c0 s0 pc : Nat} {al : am_L} {st : List Value} {M : am_M} {cc : ByteArray} {Ts : List Cond} {own : String}
theorem am_s_ast (hx : p.tables.exec = Jvm.exec) (hb : c.code = cc) (hK : am_K E F s) {a q : Nat} {i : Int32} {M1 : am_M} {r : vw_C} (hc : F.1[1]? = some r) (hr : r.1 = "TextTools$Lines") (hv : am_as M a i q = some M1) (hd : decode cc pc = .ok (.aastore, 1))
    (kk : am_G p l e R s m args below meth c Q E F c0 s0 (pc + 1) al st M1) : am_G p l e R s m args below meth c Q E F c0 s0 pc al (.ref q :: .int i :: .ref a :: st) M := by
  intro H locs ls hM hS hl hn h1 h2
  unfold am_as at hv
  split at hv
  · rename_i t n f ci fs hcell hcq
    split at hv
    · rename_i ht
      obtain ⟨ht, hci⟩ := ht
      subst ht; subst hci
      obtain ⟨j, hj, rfl⟩ := Option.map_eq_some_iff.mp hv
      obtain ⟨hba, q1, hfit⟩ := am_own (by decide) (hM.2.2.1 a _ hcell)
      obtain ⟨e1, e2, e3⟩ := am_ix_spec hj
      rcases hM.2.2.1 q _ hcq with ⟨-, hbq, r', hr', hlen, ce, g1, g2, g3, g4⟩ | ⟨w, -⟩ | ⟨w, -⟩ | ⟨w, -⟩
      · cases Option.some.inj (hr'.symm.trans hc)
        have hcls := (hK.1 1 _ hc).2
        have h0 : (am_tys E.2.1)[4]? = some (E.2.1 4, am_ty 4) := by simp [am_tys]
        obtain ⟨kA, comp, k1, k2, k3, -⟩ := (hK.2 4 _ h0).2
        have hcomp : comp = E.1.1 1 := by
          have w := hcls.1
          rw [hr] at w
          exact Option.some.inj (k3.symm.trans w)
        subst hcomp
        obtain ⟨kC, hkC, -⟩ := hcls.2
        refine W.aast hx hb q1 (fun q h => by cases h) (fun h => by cases h) k1 k2 rfl hkC ⟨e3, by rw [am_vp_size, ← e1]; exact e2⟩ g1 (fun q h => by rw [g3] at h; cases h) (by rw [g2]; exact hkC) (by rw [g2]; exact va_assign hcls) rfl rfl hd fun H' w1 w2 w3 => ?_
        refine kk H' _ ls (hM.upd hba (.inl ⟨by decide, hba, ?_, .inl rfl⟩) w2 w3) (hS.put w2 w3 hba) hl hn h1 h2
        rw [w1, ← e1]
        rw [vp_cell_q, vp_cell_q, arrV_store]
        congr 2
        funext z
        by_cases hz : z = j
        · subst hz; simp [updV, va_up, va_rf]
        · simp [updV, va_up, hz]
      · omega
      · omega
      · omega
    · cases hv
  · cases hv
theorem am_s_objInit (hx : p.tables.exec = Jvm.exec) (hb : c.code = cc) (hown : s.vm.findClass own = some m.cls) (hts : ∀ w ∈ Ts, w.before args s = true) {idx a : Nat} (hw1 : Cond.methodLink own idx objectInit ∈ Ts) (hw2 : Cond.instanceMethod objectInit ∈ Ts) (hw3 : Cond.code objectInit ⟨#[0xb1]⟩ 1 none ∈ Ts) (hd : decode cc pc = .ok (.invokespecial idx, 3)) (hfr : 1 ≤ R.frames) (hlo : (st.map fun v => v.category).sum + 12 ≤ R.locals)
    (kk : am_G p l e R s m args below meth c Q E F c0 s0 (pc + 3) al st M) : am_G p l e R s m args below meth c Q E F c0 s0 pc al (.ref a :: st) M := by
  intro H locs ls hM hS hl hn h1 h2
  refine W.objInit hx hb hown (hts _ hw1) (hts _ hw2) (hts _ hw3) rfl (by rw [hn]; exact hl.1) rfl hd hfr (by show 2 * 0 + _ + 12 ≤ _; omega) ?_
  exact kk H locs ls hM hS hl hn h1 h2
theorem am_s_ldcS (hx : p.tables.exec = Jvm.exec) (hb : c.code = cc) (hown : s.vm.findClass own = some m.cls) {idx a : Nat} {tx : String} (hz : vk_R own idx tx a s) (hd : decode cc pc = .ok (.ldc idx, 2))
    (kk : am_G p l e R s m args below meth c Q E F c0 s0 (pc + 2) al (.ref a :: st) M) : am_G p l e R s m args below meth c Q E F c0 s0 pc al st M := fun H locs ls hM hS hl hn h1 h2 => va_ldcS hx hb hown hz hd (kk H locs ls hM hS hl hn h1 h2)
end AMM
