/-! INSTRUCTIONS ON THE HEAP -/
/-- what is fixed of a class of the world -/
def am_cok (Ts : List Cond) (r : vw_C) : Prop := (∀ w ∈ u_ws r.1 r.2.1 r.2.2, w ∈ Ts) ∧ (∃ ty : Nat → FieldType, ∀ k, k < r.2.2 → parseFieldDescriptor (r.2.1 k).2.2.1 = some (ty k)) ∧ ∀ a, a < r.2.2 → ∀ b, b < r.2.2 → a ≠ b → (r.2.1 a).2.1 ≠ (r.2.1 b).2.1
/-- kinds of fields by number -/
def am_tyk (k : Nat) (ty : FieldType) : Prop := (k = 0 ∧ ty = .int) ∨ (k = 1 ∧ ty = .boolean) ∨ (k = 2 ∧ ∃ C, ty = .object C) ∨ (k = 3 ∧ ∃ t, ty = .array t) ∨ (k = 4 ∧ ty = .long) ∨ (k = 5 ∧ ty = .byte) ∨ (k = 6 ∧ ty = .char)
theorem am_and1 (x : Int32) (h : x = 0 ∨ x = 1) : x &&& 1 = x := by rcases h with rfl | rfl <;> decide
theorem am_fit_ok {k : Nat} {v : Value} {ty : FieldType} (hf : am_fit k v = true) (hk : am_tyk k ty) : narrow ty v = v ∧ fits ty v = true := by
  rcases hk with ⟨rfl, rfl⟩ | ⟨rfl, rfl⟩ | ⟨rfl, C, rfl⟩ | ⟨rfl, t, rfl⟩ | ⟨rfl, rfl⟩ | ⟨rfl, rfl⟩ | ⟨rfl, rfl⟩
  · cases v <;> simp [am_fit, narrow, fits] at hf ⊢
  · cases v <;> simp [am_fit, narrow, fits] at hf ⊢
    exact ⟨am_and1 _ hf, hf⟩
  · cases v <;> simp [am_fit, narrow, fits] at hf ⊢
  · cases v <;> simp [am_fit, narrow, fits] at hf ⊢
  · cases v <;> simp [am_fit, narrow, fits] at hf ⊢
  · cases v <;> simp [am_fit, narrow] at hf ⊢
    refine ⟨hf, ?_⟩
    have := sb_fitB
    rw [← hf]
    exact pk_fb _
  · cases v <;> simp [am_fit, narrow] at hf ⊢
    refine ⟨hf, ?_⟩
    rw [← hf]
    have h := pk_fc (x := ‹Int32›)
    simpa [UInt32.toUInt16] using h
section AMH
variable {p : Program} {l : Launch} {e : Env} {R : Room} {s : State} {m : MethodId} {args : Array Value} {below : List Frame} {meth : Method} {c : Code} {Q : State → Prop} {E : am_E} {F : am_F} {c0 s0 pc : Nat} {al : am_L} {st : List Value} {M : am_M} {cc : ByteArray} {Ts : List Cond} {own : String}
theorem am_gv_spec {a ci k : Nat} {v : Value} (h : am_gv M a ci k = some v) : ∃ fs, M.2.2 a = some (.inr (ci, fs)) ∧ fs[k]? = some v := by
  unfold am_gv at h
  split at h
  · rename_i c fs hc
    split at h
    · rename_i e1; subst e1; exact ⟨fs, hc, h⟩
    · cases h
  · cases h
/-- a field of an object of the world -/
theorem am_s_get (hx : p.tables.exec = Jvm.exec) (hb : c.code = cc) (hown : s.vm.findClass own = some m.cls) (hts : ∀ w ∈ Ts, w.before args s = true) (hK : am_K E F s) {a ci k idx : Nat} {v : Value} {r : vw_C} (hci : ci < 20) (hc : F.1[ci]? = some r) (hok : am_cok Ts r) (hk : k < r.2.2)
    (hlink : Cond.fieldLink own idx (r.2.1 k).1 (r.2.1 k).2.1 (r.2.1 k).2.2.1 ∈ Ts ∨ ∃ host, Cond.fieldLinkNest own idx (r.2.1 k).1 (r.2.1 k).2.1 (r.2.1 k).2.2.1 host ∈ Ts) (hv : am_gv M a ci k = some v) (hd : decode cc pc = .ok (.getfield idx, 3))
    (kk : am_G p l e R s m args below meth c Q E F c0 s0 (pc + 3) al (v :: st) M) : am_G p l e R s m args below meth c Q E F c0 s0 pc al (.ref a :: st) M := by
  intro H locs ls hM hS hl hn h1 h2
  obtain ⟨fs, hcell, hfv⟩ := am_gv_spec hv
  obtain ⟨C, T, N⟩ := r
  rcases hM.2.2.1 a _ hcell with ⟨-, hba, r', hr', -, ce, q1, q2, q3, q4⟩ | ⟨w, -⟩ | ⟨w, -⟩ | ⟨w, -⟩
  · cases Option.some.inj (hr'.symm.trans hc)
    obtain ⟨hSl, hfc, kC, hkC, hkind⟩ := hK.1 ci _ hc
    obtain ⟨cf, kf, fi, f, hi, hsl⟩ := hSl k hk
    have hst := (u_facts hfc hkC (u_lays hts hok.1 hk) hi).1
    have hvs : ce.slots[f.slot]? = some v := by rw [hsl, q4 k hk]; simp [vp_V, hfv]
    rcases hlink with hlink | ⟨host, hlink⟩
    · exact W.getf hx hb hown (hts _ hlink) hi hst q1 (by rw [q3]; exact fun h => by cases h) hvs rfl rfl hd (kk H locs ls hM hS hl hn h1 h2)
    · exact va_Wgetf hx hb hown (hts _ hlink) hi hst q1 (by rw [q3]; exact fun h => by cases h) hvs rfl rfl hd (kk H locs ls hM hS hl hn h1 h2)
  · omega
  · omega
  · omega
/-- a field of a ground object -/
theorem am_s_getG (hx : p.tables.exec = Jvm.exec) (hb : c.code = cc) (hown : s.vm.findClass own = some m.cls) (hts : ∀ w ∈ Ts, w.before args s = true) {a ci k idx : Nat} {v : Value} (hci : 100 ≤ ci)
    (hlink : Cond.fieldLink own idx (F.2.1 ci k).1 (F.2.1 ci k).2.1 (F.2.1 ci k).2.2 ∈ Ts) (hv : am_gv M a ci k = some v) (hd : decode cc pc = .ok (.getfield idx, 3))
    (kk : am_G p l e R s m args below meth c Q E F c0 s0 (pc + 3) al (v :: st) M) : am_G p l e R s m args below meth c Q E F c0 s0 pc al (.ref a :: st) M := by
  intro H locs ls hM hS hl hn h1 h2
  obtain ⟨fs, hcell, hfv⟩ := am_gv_spec hv
  rcases hM.2.2.1 a _ hcell with ⟨w, -⟩ | ⟨-, w, -⟩ | ⟨-, w, -⟩ | ⟨-, hba, -, hf⟩
  · omega
  · omega
  · omega
  · obtain ⟨cf, kf, fi, f, ce, g1, g2, g3, g4, g5, -⟩ := hf k v hfv
    exact W.getf hx hb hown (hts _ hlink) g1 g2 g3 g4 g5 rfl rfl hd (kk H locs ls hM hS hl hn h1 h2)
theorem am_pf_spec {a ci k ty : Nat} {v : Value} {M1 : am_M} (h : am_pf M a ci k ty v = some M1) : ∃ fs, M.2.2 a = some (.inr (ci, fs)) ∧ k < fs.length ∧ am_fit ty v = true ∧ M1 = am_upd M a (.inr (ci, fs.set k v)) := by
  unfold am_pf at h
  split at h
  · rename_i c fs hc
    split at h
    · rename_i e1; obtain ⟨e1, e2, e3, e4⟩ := e1; subst e1; exact ⟨fs, hc, e3, e4, (Option.some.inj h).symm⟩
    · cases h
  · cases h
theorem am_s_put (hx : p.tables.exec = Jvm.exec) (hb : c.code = cc) (hown : s.vm.findClass own = some m.cls) (hts : ∀ w ∈ Ts, w.before args s = true) (hK : am_K E F s) {a ci k tk idx : Nat} {v : Value} {r : vw_C} {M1 : am_M} (hci : ci < 20) (hc : F.1[ci]? = some r) (hok : am_cok Ts r) (hk : k < r.2.2)
    (hlink : Cond.fieldLink own idx (r.2.1 k).1 (r.2.1 k).2.1 (r.2.1 k).2.2.1 ∈ Ts) (hty : ∃ ty, parseFieldDescriptor (r.2.1 k).2.2.1 = some ty ∧ am_tyk tk ty) (hfin : (r.2.1 k).2.2.2 = false ∨ (meth.name = "<init>" ∧ (r.2.1 k).1 = own)) (hv : am_pf M a ci k tk v = some M1) (hd : decode cc pc = .ok (.putfield idx, 3))
    (kk : am_G p l e R s m args below meth c Q E F c0 s0 (pc + 3) al st M1) : am_G p l e R s m args below meth c Q E F c0 s0 pc al (v :: .ref a :: st) M := by
  intro H locs ls hM hS hl hn h1 h2
  obtain ⟨fs, hcell, hkl, hfit, rfl⟩ := am_pf_spec hv
  obtain ⟨C, T, N⟩ := r
  obtain ⟨ty, hdesc, htk⟩ := hty
  obtain ⟨hna, hfi⟩ := am_fit_ok hfit htk
  obtain ⟨hin, ⟨ty0, hty0⟩, hnm⟩ := hok
  rcases hM.2.2.1 a _ hcell with ⟨-, hba, r', hr', hlen, ce, q1, q2, q3, q4⟩ | ⟨w, -⟩ | ⟨w, -⟩ | ⟨w, -⟩
  · cases Option.some.inj (hr'.symm.trans hc)
    have hap := va_apart (own := own) hts hin ty0 hty0 hnm hK hc
    obtain ⟨hSl, hfc, kC, hkC, hkind⟩ := hK.1 ci _ hc
    obtain ⟨cf, kf, fi, f, hi, hsl⟩ := hSl k hk
    have hlay := hts _ (hin _ (u_in_lay hk))
    unfold u_lay at hlay
    have hst := (u_facts hfc hkC (u_lays hts hin hk) hi).1
    have fin : ∀ H' : Heap, H'[a]? = some (ce.setSlot f.slot v) → H'.size = H.size → (∀ q, q ≠ a → H'[q]? = H[q]?) → W p l e R s m args below meth c H' (locs ++ [⟨a, f.slot⟩]) (M.1 - c0) (M.2.1 - s0) Q (F0 m (pc + 3) ls st) := by
      intro H' e1 e2 e3
      rw [hsl] at e1
      refine kk H' _ ls (hM.upd hba (.inl ⟨hci, hba, _, hc, by rw [List.length_set]; exact hlen, t_OB.to (V := updV (vp_V fs) k v) ⟨_, e1, q2, q3, t_set q4 hap hk v⟩ (fun j _ => vp_updV_set hkl v j)⟩) e2 e3) (hS.put e2 e3 hba) hl hn h1 h2
    by_cases hff : (T k).2.2.2 = true
    · rw [if_pos hff] at hlay
      have hin2 : meth.name = "<init>" ∧ (T k).1 = own := by
        rcases hfin with w | w
        · rw [hff] at w; cases w
        · exact w
      have hcf : m.cls = cf := by
        obtain ⟨_, _, c', _, _, _, -, -, hf', -, -, -, hown2, -⟩ := Cond.laysFinal_spec hlay
        have e1 : c' = cf := by have := hi.symm.trans hf'; simp at this; exact this.1.symm
        rw [hin2.2] at hown2
        rw [← e1]; exact Option.some.inj (hown.symm.trans hown2)
      have h6 := u_fits hfc hkC hkind (Or.inr hlay) hi hdesc hna hfi
      exact W.putFinK hx hb hown (hts _ hlink) hi hst hcf hin2.1 (by rw [q2]; exact h6) q1 q3 (by rw [hsl]; exact k2_hasslot (q4 k hk)) rfl rfl hd fin
    · rw [if_neg hff] at hlay
      have h6 := u_store hfc hkC hkind hlay hi hdesc hna hfi
      exact W.putK hx hb (f := f) ⟨hown, hts _ hlink, ⟨_, _, _, hi⟩, hst⟩ (by rw [q2]; exact h6) q1 q3 (by rw [hsl]; exact k2_hasslot (q4 k hk)) rfl rfl hd fin
  · omega
  · omega
  · omega
end AMH
