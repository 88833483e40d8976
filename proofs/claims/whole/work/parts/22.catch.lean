/-! A CATCH BY NAME, the classes of the rows cold or warm -/
theorem am_cat {l : Launch} {E : am_E} {F : am_F} {Ts : List Cond} : am_Cat l E F Ts := by
  intro i p e R s m args below meth c pc x ci hp hs fs M2 rest V locs1 ls k0 n0 hcx hhok hhd hcell hM X
  obtain ⟨hx, hb, hown, hts, hK, hX, hret, hlocks, hname, hex, hst⟩ := hcx
  obtain ⟨w1, w2, pre, h, rest2, e1, e2, e3, e4, e5, e6, e7, e8⟩ := hhok ci hp hhd
  rcases hM.2.2.1 x _ hcell with ⟨w, -⟩ | ⟨-, w, -⟩ | ⟨-, -, hbx, ce, g1, g2, g3⟩ | ⟨w, -⟩
  · omega
  · omega
  · have hpl : e.platform.magicAccessors = ({} : Platform).magicAccessors := by rw [X.admits.platform]
    obtain ⟨c3, c4, hc3, hc4, hasg⟩ := Cond.castable_spec (hts _ e7)
    cases Option.some.inj (hc3.symm.trans hc4)
    have hce : c3 = ce.cls := Option.some.inj (hc3.symm.trans g3)
    subst hce
    -- the rows of the table
    have hsp : ∃ pre' x' rest', c.exceptionTable.toList = pre' ++ x' :: rest' ∧ pre'.map (fun h => (h.startPc, h.endPc, h.handlerPc, h.catchType)) = pre ∧ (x'.startPc, x'.endPc, x'.handlerPc, x'.catchType) = h := by
      rw [e1] at hex
      obtain ⟨l1, l2, q1, q2, q3⟩ := List.map_eq_append_iff.mp hex
      obtain ⟨x', l3, q4, q5, q6⟩ := List.map_eq_cons_iff.mp q3
      exact ⟨l1, x', l3, by rw [q1, q4], q2, q5⟩
    obtain ⟨pre', x', rest', hsplit, hpre', hx'⟩ := hsp
    subst hx'
    dsimp only at e2 e3 e4 e5 e6
    obtain ⟨hcatch, hk0⟩ := X.catches_of_link hown e5 (hts _ e6) hc3 hasg
    have hpass : ∀ y ∈ pre', RowPassed e.platform s m.cls pc ce.cls y := by
      intro y hy
      have hy2 : (y.startPc, y.endPc, y.handlerPc, y.catchType) ∈ pre := by rw [← hpre']; exact List.mem_map.mpr ⟨y, hy, rfl⟩
      obtain ⟨z1, D, z2, z3⟩ := e8 _ hy2
      exact RowPassed.of_words hpl hown z1 (hts _ z2) hc3 (hts _ z3)
    obtain ⟨vm', X2, hst2⟩ := X.caughtThrough x (g := F0 m pc ls rest) rfl g1 (by rw [g2]; rfl) hk0 pre' x' rest' hsplit hpass (by simp [covers, e2, e3]) hcatch
    refine ⟨vm', X2, fun target ht => ?_⟩
    have := hst2 target (by rw [e4]; exact ht)
    rw [← X.pushThrowing_eq] at this
    exact this
  · omega
