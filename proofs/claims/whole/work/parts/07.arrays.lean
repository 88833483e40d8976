/-! ARRAYS -/
theorem am_ix_spec {i : Int32} {n j : Nat} (h : am_ix i n = some j) : j = i.toNatClampNeg ∧ j < n ∧ ¬ i < 0 := by
  unfold am_ix at h
  split at h
  · cases h
  · rename_i q
    have h := Option.some.inj h
    exact ⟨h.symm, by rw [← h]; exact Nat.not_le.mp (fun w => q (.inr w)), fun w => q (.inl w)⟩
theorem am_ix_out {i : Int32} {n j N : Nat} (h : am_ix i n = some j) (hN : n ≤ N) : ¬ (i < 0 ∨ N ≤ i.toNatClampNeg) := by
  obtain ⟨h1, h2, h3⟩ := am_ix_spec h
  rintro (q | q)
  · exact h3 q
  · rw [← h1] at q; omega
theorem am_il_spec {M : am_M} {a : Nat} {i x : Int32} {ts : List Nat} (h : am_il M a i ts = some x) : ∃ (t n : Nat) (f : Nat → Int32) (j : Nat), M.2.2 a = some (.inl (t, n, .inl f)) ∧ t ∈ ts ∧ am_ix i n = some j ∧ x = f j := by
  unfold am_il at h
  split at h
  · rename_i t n f hc
    split at h
    · rename_i ht
      obtain ⟨j, hj, e⟩ := Option.map_eq_some_iff.mp h
      exact ⟨t, n, f, j, hc, ht, hj, e.symm⟩
    · cases h
  · cases h
section AMA
variable {p : Program} {l : Launch} {e : Env} {R : Room} {s : State} {m : MethodId} {args : Array Value} {below : List Frame} {meth : Method} {c : Code} {Q : State → Prop} {E : am_E} {F : am_F} {c0 s0 pc : Nat} {al : am_L} {st : List Value} {M : am_M} {cc : ByteArray} {Ts : List Cond} {own : String}
theorem am_s_iald (hx : p.tables.exec = Jvm.exec) (hb : c.code = cc) (hK : am_K E F s) {a : Nat} {i x : Int32} (hv : am_il M a i [1, 101] = some x) (hd : decode cc pc = .ok (.iaload, 1))
    (kk : am_G p l e R s m args below meth c Q E F c0 s0 (pc + 1) al (.int x :: st) M) : am_G p l e R s m args below meth c Q E F c0 s0 pc al (.int i :: .ref a :: st) M := by
  intro H locs ls hM hS hl hn h1 h2
  obtain ⟨t, n, f, j, hcell, ht, hj, rfl⟩ := am_il_spec hv
  obtain ⟨ce, q1, q2, q3, q4, q5, q6⟩ := (hM.2.2.1 a _ hcell).arr hK
  have hty : am_ty t = .int := by simp at ht; rcases ht with rfl | rfl <;> rfl
  rw [hty] at q2
  obtain ⟨e1, e2, -⟩ := am_ix_spec hj
  exact W.iald hx hb q1 q2 q3 (am_ix_out hj q4) (v := .int (f j)) (by rw [← e1]; exact q6 j e2) rfl rfl hd (kk H locs ls hM hS hl hn h1 h2)
theorem am_s_bald (hx : p.tables.exec = Jvm.exec) (hb : c.code = cc) (hK : am_K E F s) {a : Nat} {i x : Int32} (hv : am_il M a i [0, 2, 100] = some x) (hd : decode cc pc = .ok (.baload, 1))
    (kk : am_G p l e R s m args below meth c Q E F c0 s0 (pc + 1) al (.int x :: st) M) : am_G p l e R s m args below meth c Q E F c0 s0 pc al (.int i :: .ref a :: st) M := by
  intro H locs ls hM hS hl hn h1 h2
  obtain ⟨t, n, f, j, hcell, ht, hj, rfl⟩ := am_il_spec hv
  obtain ⟨ce, q1, q2, q3, q4, q5, q6⟩ := (hM.2.2.1 a _ hcell).arr hK
  obtain ⟨e1, e2, -⟩ := am_ix_spec hj
  by_cases htz : t = 2
  · subst htz
    exact W.zald hx hb q1 q2 q3 (am_ix_out hj q4) (v := .int (f j)) (by rw [← e1]; exact q6 j e2) rfl rfl hd (kk H locs ls hM hS hl hn h1 h2)
  · have hty : am_ty t = .byte := by simp at ht; rcases ht with rfl | rfl | rfl <;> first | rfl | exact absurd rfl htz
    rw [hty] at q2
    exact W.bald hx hb q1 q2 q3 (am_ix_out hj q4) (v := .int (f j)) (by rw [← e1]; exact q6 j e2) rfl rfl hd (kk H locs ls hM hS hl hn h1 h2)
theorem am_s_lald (hx : p.tables.exec = Jvm.exec) (hb : c.code = cc) (hK : am_K E F s) {a : Nat} {i : Int32} {x : Int64} (hv : am_ll M a i = some x) (hd : decode cc pc = .ok (.laload, 1))
    (kk : am_G p l e R s m args below meth c Q E F c0 s0 (pc + 1) al (.long x :: st) M) : am_G p l e R s m args below meth c Q E F c0 s0 pc al (.int i :: .ref a :: st) M := by
  intro H locs ls hM hS hl hn h1 h2
  unfold am_ll at hv
  split at hv
  · rename_i t n f hcell
    split at hv
    · rename_i ht
      subst ht
      obtain ⟨j, hj, rfl⟩ := Option.map_eq_some_iff.mp hv
      obtain ⟨ce, q1, q2, q3, q4, q5, q6⟩ := (hM.2.2.1 a _ hcell).arr hK
      obtain ⟨e1, e2, -⟩ := am_ix_spec hj
      exact W.lald hx hb q1 q2 q3 (am_ix_out hj q4) (v := .long (f j)) (by rw [← e1]; exact q6 j e2) rfl rfl hd (kk H locs ls hM hS hl hn h1 h2)
    · cases hv
  · cases hv
theorem am_s_aald (hx : p.tables.exec = Jvm.exec) (hb : c.code = cc) (hK : am_K E F s) {a x : Nat} {i : Int32} (hv : am_al M a i = some x) (hd : decode cc pc = .ok (.aaload, 1))
    (kk : am_G p l e R s m args below meth c Q E F c0 s0 (pc + 1) al (.ref x :: st) M) : am_G p l e R s m args below meth c Q E F c0 s0 pc al (.int i :: .ref a :: st) M := by
  intro H locs ls hM hS hl hn h1 h2
  unfold am_al at hv
  split at hv
  · rename_i t n f hcell
    split at hv
    · rename_i ht
      obtain ⟨j, hj, hf⟩ := Option.bind_eq_some_iff.mp hv
      obtain ⟨ce, q1, q2, q3, q4, q5, q6⟩ := (hM.2.2.1 a _ hcell).arr hK
      obtain ⟨e1, e2, -⟩ := am_ix_spec hj
      refine W.aald hx hb q1 q2 ?_ q3 (am_ix_out hj q4) (v := .ref x) ?_ rfl rfl hd (kk H locs ls hM hS hl hn h1 h2)
      · rcases ht with rfl | rfl | rfl <;> rfl
      · rw [← e1, q6 j e2]
        simp [am_el, hf, va_rf]
    · cases hv
  · cases hv
theorem am_s_alen (hx : p.tables.exec = Jvm.exec) (hb : c.code = cc) (hK : am_K E F s) {a : Nat} {x : Int32} (hv : am_len M a = some x) (hd : decode cc pc = .ok (.arraylength, 1))
    (kk : am_G p l e R s m args below meth c Q E F c0 s0 (pc + 1) al (.int x :: st) M) : am_G p l e R s m args below meth c Q E F c0 s0 pc al (.ref a :: st) M := by
  intro H locs ls hM hS hl hn h1 h2
  unfold am_len at hv
  split at hv
  · rename_i t n f hcell
    obtain ⟨ce, q1, q2, q3, q4, q5, q6⟩ := (hM.2.2.1 a _ hcell).arr hK
    have hv := Option.some.inj hv
    exact W.alen hx hb q1 q2 (n := x) (by rw [q5, ← hv]; rfl) rfl rfl hd (kk H locs ls hM hS hl hn h1 h2)
  · cases hv
/-- an array of the world -/
theorem am_own {U : State} {a t : Nat} {r : vp_A} {H : Heap} (ht : t < 100) (h : am_at E F U a (.inl (t, r)) H) : E.2.2 ≤ a ∧ H[a]? = some (vp_cell (E.2.1 t) r) ∧ am_fitA t r := by
  rcases h with ⟨h1, h2, h3, h4⟩ | ⟨h1, -⟩
  · exact ⟨h2, h3, h4⟩
  · exact absurd ht (Nat.not_lt.mpr h1)
theorem am_is_spec {a : Nat} {i x : Int32} {ts : List Nat} {M1 : am_M} (h : am_is M a i ts x = some M1) : ∃ (t n : Nat) (f : Nat → Int32) (j : Nat), M.2.2 a = some (.inl (t, n, .inl f)) ∧ t ∈ ts ∧ am_ix i n = some j ∧ M1 = am_upd M a (.inl (t, n, .inl (upd f j (am_nar t x)))) := by
  unfold am_is at h
  split at h
  · rename_i t n f hc
    split at h
    · rename_i ht
      obtain ⟨j, hj, e⟩ := Option.map_eq_some_iff.mp h
      exact ⟨t, n, f, j, hc, ht, hj, e.symm⟩
    · cases h
  · cases h
theorem am_nar_ok {t : Nat} (ht : t ≤ 2) (x : Int32) : narrow (am_ty t) (.int x) = .int (am_nar t x) ∧ fits (am_ty t) (.int (am_nar t x)) = true := by
  rcases (show t = 0 ∨ t = 1 ∨ t = 2 by omega) with rfl | rfl | rfl
  · exact ⟨rfl, pk_fb x⟩
  · exact ⟨rfl, rfl⟩
  · refine ⟨rfl, ?_⟩
    show (((x &&& 1) == 0) || ((x &&& 1) == 1)) = true
    obtain ⟨j, hj, e⟩ := pk_andE x (m := 1) 1 (by decide)
    have e' : x &&& 1 = nI j := e
    rw [e']
    rcases (show j = 0 ∨ j = 1 by omega) with rfl | rfl <;> decide
theorem am_fit_upd {t n j : Nat} {f : Nat → Int32} {x : Int32} (h : am_fitA t (n, .inl f)) : am_fitA t (n, .inl (upd f j (am_nar t x))) := by
  refine ⟨h.1, fun k hk => ?_⟩
  by_cases hkj : k = j
  · subst hkj
    simp only [upd, if_pos]
    exact (am_nar_ok h.1 x).2
  · simp only [upd, if_neg hkj]
    exact h.2 k hk
theorem am_s_ist (hx : p.tables.exec = Jvm.exec) (hb : c.code = cc) (hK : am_K E F s) {a : Nat} {i x : Int32} {M1 : am_M} (hv : am_is M a i [1] x = some M1) (hd : decode cc pc = .ok (.iastore, 1))
    (kk : am_G p l e R s m args below meth c Q E F c0 s0 (pc + 1) al st M1) : am_G p l e R s m args below meth c Q E F c0 s0 pc al (.int x :: .int i :: .ref a :: st) M := by
  intro H locs ls hM hS hl hn h1 h2
  obtain ⟨t, n, f, j, hcell, ht, hj, rfl⟩ := am_is_spec hv
  have ht : t = 1 := by simpa using ht
  subst ht
  obtain ⟨hba, q1, hfit⟩ := am_own (by decide) (hM.2.2.1 a _ hcell)
  obtain ⟨e1, e2, -⟩ := am_ix_spec hj
  refine W.iast hx hb q1 (am_vp_is hK (by decide) _) (by rw [am_vp_vm]; exact fun h => by cases h) (am_ix_out hj (by rw [am_vp_size]; exact Nat.le_refl _)) rfl rfl hd fun H' g1 g2 g3 => ?_
  refine kk H' _ ls (hM.upd hba (.inl ⟨by decide, hba, ?_, am_fit_upd hfit⟩) g2 g3) (hS.put g2 g3 hba) hl hn h1 h2
  rw [g1, ← e1]
  show some ((arrV (E.2.1 1) n (fun j => .int (f j))).setSlot j (.int x)) = some (arrV (E.2.1 1) n (fun k => .int (upd f j (am_nar 1 x) k)))
  rw [arrV_store]
  refine congrArg some (congrArg (arrV _ n) (funext fun k => ?_))
  by_cases hk : k = j <;> simp [updV, upd, hk, am_nar]
theorem am_s_bst (hx : p.tables.exec = Jvm.exec) (hb : c.code = cc) (hK : am_K E F s) {a : Nat} {i x : Int32} {M1 : am_M} (hv : am_is M a i [0, 2] x = some M1) (hd : decode cc pc = .ok (.bastore, 1))
    (kk : am_G p l e R s m args below meth c Q E F c0 s0 (pc + 1) al st M1) : am_G p l e R s m args below meth c Q E F c0 s0 pc al (.int x :: .int i :: .ref a :: st) M := by
  intro H locs ls hM hS hl hn h1 h2
  obtain ⟨t, n, f, j, hcell, ht, hj, rfl⟩ := am_is_spec hv
  have ht : t = 0 ∨ t = 2 := by simpa using ht
  obtain ⟨hba, q1, hfit⟩ := am_own (by omega) (hM.2.2.1 a _ hcell)
  obtain ⟨e1, e2, -⟩ := am_ix_spec hj
  have hv1 := am_vp_is hK (t := t) (by omega) (n, .inl f)
  have ht100 : t < 100 := by omega
  have fin : ∀ H' : Heap, H'[a]? = some ((vp_cell (E.2.1 t) (n, .inl f)).setSlot i.toNatClampNeg (narrow (am_ty t) (.int x))) → H'.size = H.size → (∀ q, q ≠ a → H'[q]? = H[q]?) → W p l e R s m args below meth c H' (locs ++ [⟨a, i.toNatClampNeg⟩]) (M.1 - c0) (M.2.1 - s0) Q (F0 m (pc + 1) ls st) := by
    intro H' g1 g2 g3
    refine kk H' _ ls (hM.upd hba (.inl ⟨ht100, hba, ?_, am_fit_upd hfit⟩) g2 g3) (hS.put g2 g3 hba) hl hn h1 h2
    rw [g1, ← e1, (am_nar_ok (show t ≤ 2 by omega) x).1]
    show some ((arrV (E.2.1 t) n (fun j => .int (f j))).setSlot j (.int (am_nar t x))) = some (arrV (E.2.1 t) n (fun k => .int (upd f j (am_nar t x) k)))
    rw [arrV_store]
    refine congrArg some (congrArg (arrV _ n) (funext fun k => ?_))
    by_cases hk : k = j <;> simp [updV, upd, hk]
  rcases ht with rfl | rfl
  · exact W.bast hx hb q1 hv1 (by rw [am_vp_vm]; exact fun h => by cases h) (am_ix_out hj (by rw [am_vp_size]; exact Nat.le_refl _)) rfl rfl hd fin
  · exact W.zast hx hb q1 hv1 (by rw [am_vp_vm]; exact fun h => by cases h) (am_ix_out hj (by rw [am_vp_size]; exact Nat.le_refl _)) rfl rfl hd fin
theorem am_s_lst (hx : p.tables.exec = Jvm.exec) (hb : c.code = cc) (hK : am_K E F s) {a : Nat} {i : Int32} {x : Int64} {M1 : am_M} (hv : am_ls M a i x = some M1) (hd : decode cc pc = .ok (.lastore, 1))
    (kk : am_G p l e R s m args below meth c Q E F c0 s0 (pc + 1) al st M1) : am_G p l e R s m args below meth c Q E F c0 s0 pc al (.long x :: .int i :: .ref a :: st) M := by
  intro H locs ls hM hS hl hn h1 h2
  unfold am_ls at hv
  split at hv
  · rename_i t n f hcell
    split at hv
    · rename_i ht
      subst ht
      obtain ⟨j, hj, rfl⟩ := Option.map_eq_some_iff.mp hv
      obtain ⟨hba, q1, hfit⟩ := am_own (by decide) (hM.2.2.1 a _ hcell)
      obtain ⟨e1, e2, -⟩ := am_ix_spec hj
      refine W.last hx hb q1 (am_vp_is hK (by decide) _) (by rw [am_vp_vm]; exact fun h => by cases h) (am_ix_out hj (by rw [am_vp_size]; exact Nat.le_refl _)) rfl rfl hd fun H' g1 g2 g3 => ?_
      refine kk H' _ ls (hM.upd hba (.inl ⟨by decide, hba, ?_, rfl⟩) g2 g3) (hS.put g2 g3 hba) hl hn h1 h2
      rw [g1, ← e1]
      show some ((arrV (E.2.1 3) n (fun j => .long (f j))).setSlot j (.long x)) = some (arrV (E.2.1 3) n (fun k => .long (vp_updL f j x k)))
      rw [arrV_store]
      refine congrArg some (congrArg (arrV _ n) (funext fun k => ?_))
      by_cases hk : k = j <;> simp [updV, vp_updL, hk]
    · cases hv
  · cases hv
end AMA
