theorem am_gi_spec {M : am_M} {a ci k : Nat} {x : Int32} (h : am_gi M a ci k = some x) : am_gv M a ci k = some (.int x) := by
  unfold am_gi at h
  split at h
  · rename_i w; cases Option.some.inj h; exact w
  · cases h
theorem am_gr_spec {M : am_M} {a ci k x : Nat} (h : am_gr M a ci k = some x) : am_gv M a ci k = some (.ref x) := by
  unfold am_gr at h
  split at h
  · rename_i w; cases Option.some.inj h; exact w
  · cases h
section AMS
variable {p : Program} {l : Launch} {e : Env} {R : Room} {s : State} {m : MethodId} {args : Array Value} {below : List Frame} {meth : Method} {c : Code} {Q : State → Prop} {E : am_E} {F : am_F} {c0 s0 pc : Nat} {al : am_L} {st : List Value} {M : am_M} {cc : ByteArray} {Ts : List Cond} {own : String} {P : am_P}
set_option maxHeartbeats 4000000 in
theorem am_ins_sound (hx : p.tables.exec = Jvm.exec) (hb : c.code = cc) (hown : s.vm.findClass own = some m.cls) (hts : ∀ w ∈ Ts, w.before args s = true) (hK : am_K E F s) (hXs : am_X F s) {i : Instr} {len : Nat} {tg : List Nat} (hd : decode cc pc = .ok (i, len)) (hok : am_ok Ts F P own (meth.name = "<init>") i len pc tg) {k : Nat → am_L → List Value → am_M → Option am_R} {r : am_R}
    (hmono : ∀ pc2 al2 st2 M2, k pc2 al2 st2 M2 = some r → M2.1 ≤ r.2.1 ∧ M2.2.1 ≤ r.2.2.1) (hrc : r.2.1 - c0 ≤ R.cells) (hrs : r.2.2.1 - s0 ≤ R.slots)
    (kk : ∀ pc2 al2 st2 M2, k pc2 al2 st2 M2 = some r → am_G p l e R s m args below meth c Q E F c0 s0 pc2 al2 st2 M2) (h : am_ins P i len tg pc al st M k = some r) : am_G p l e R s m args below meth c Q E F c0 s0 pc al st M := by
  unfold am_ins at h
  split at h
  all_goals try (cases h; done)
  case h_1 =>
    obtain ⟨rfl, e1⟩ := hok
    rw [e1] at h
    exact am_s_iconst hx hb hd rfl (kk _ _ _ _ h)
  case h_2 =>
    obtain ⟨rfl, e1⟩ := hok
    rw [e1] at h
    exact am_s_bipush hx hb hd rfl (kk _ _ _ _ h)
  case h_3 =>
    obtain ⟨rfl, e1⟩ := hok
    rw [e1] at h
    exact am_s_sipush hx hb hd rfl (kk _ _ _ _ h)
  case h_4 =>
    obtain ⟨rfl, e1⟩ := hok
    split at h
    · exact am_s_lconst hx hb hd (e1 _ rfl) (kk _ _ _ _ h)
    · cases h
  case h_5 =>
    obtain ⟨rfl, e1, e2⟩ := hok
    split at h
    · exact am_s_ldc hx hb hown (hts _ (e1 _ rfl)) hd (kk _ _ _ _ h)
    · obtain ⟨tx, hz⟩ := e2 _ _ _ rfl
      exact am_s_ldcS hx hb hown (hXs _ hz) hd (kk _ _ _ _ h)
    · cases h
  case h_6 =>
    obtain ⟨rfl, e1⟩ := hok
    split at h
    · exact am_s_ldc2_w hx hb hown (hts _ (e1 _ rfl)) hd (kk _ _ _ _ h)
    · cases h
  case h_7 =>
    have hok : len = 1 := hok
    subst hok
    exact am_s_null hx hb hd (kk _ _ _ _ h)
  case h_8 =>
    have hok : len = 1 := hok
    subst hok
    split at h
    · rename_i hal; exact am_s_iload_n hx hb hd hal (kk _ _ _ _ h)
    · cases h
  case h_9 =>
    have hok : len = 2 := hok
    subst hok
    split at h
    · rename_i hal; exact am_s_iload hx hb hd hal (kk _ _ _ _ h)
    · cases h
  case h_10 =>
    have hok : len = 1 := hok
    subst hok
    split at h
    · rename_i hal; exact am_s_lload_n hx hb hd hal (kk _ _ _ _ h)
    · cases h
  case h_12 =>
    have hok : len = 2 := hok
    subst hok
    split at h
    · rename_i hal; exact am_s_aload hx hb hd hal (kk _ _ _ _ h)
    · cases h
  case h_11 =>
    have hok : len = 1 := hok
    subst hok
    split at h
    · rename_i hal; exact am_s_aload_n hx hb hd hal (kk _ _ _ _ h)
    · rename_i hal; exact am_s_aloadN hx hb hd hal (kk _ _ _ _ h)
    · cases h
  case h_13 =>
    have hok : len = 1 := hok
    subst hok
    split at h
    · split at h
      · rename_i hlt; exact am_s_istore_n hx hb hd hlt (kk _ _ _ _ h)
      · cases h
    · cases h
  case h_14 =>
    have hok : len = 2 := hok
    subst hok
    split at h
    · split at h
      · rename_i hlt; exact am_s_istore hx hb hd hlt (kk _ _ _ _ h)
      · cases h
    · cases h
  case h_15 =>
    have hok : len = 1 := hok
    subst hok
    split at h
    · split at h
      · rename_i hlt; exact am_s_lstore_n hx hb hd hlt (kk _ _ _ _ h)
      · cases h
    · cases h
  case h_17 =>
    have hok : len = 2 := hok
    subst hok
    split at h
    · split at h
      · rename_i hlt; exact am_s_astore hx hb hd hlt (kk _ _ _ _ h)
      · cases h
    · cases h
  case h_16 =>
    have hok : len = 1 := hok
    subst hok
    split at h
    · split at h
      · rename_i hlt; exact am_s_astore_n hx hb hd hlt (kk _ _ _ _ h)
      · cases h
    · split at h
      · rename_i hlt; exact am_s_astoreN hx hb hd hlt (kk _ _ _ _ h)
      · cases h
    · cases h
  case h_18 =>
    obtain ⟨rfl, e1⟩ := hok
    split at h
    · rename_i hal
      rw [e1] at h
      exact am_s_iinc hx hb hd hal rfl (kk _ _ _ _ h)
    · cases h
  case h_19 =>
    have hok : len = 1 := hok
    subst hok
    split at h
    · exact am_s_iadd hx hb hd (kk _ _ _ _ h)
    · cases h
  case h_20 =>
    have hok : len = 1 := hok
    subst hok
    split at h
    · exact am_s_isub hx hb hd (kk _ _ _ _ h)
    · cases h
  case h_21 =>
    have hok : len = 1 := hok
    subst hok
    split at h
    · exact am_s_imul hx hb hd (kk _ _ _ _ h)
    · cases h
  case h_22 =>
    have hok : len = 1 := hok
    subst hok
    split at h
    · exact am_s_iand hx hb hd (kk _ _ _ _ h)
    · cases h
  case h_25 =>
    have hok : len = 1 := hok
    subst hok
    split at h
    · exact am_s_ineg hx hb hd (kk _ _ _ _ h)
    · cases h
  case h_26 =>
    have hok : len = 1 := hok
    subst hok
    split at h
    · exact am_s_ishl hx hb hd (kk _ _ _ _ h)
    · cases h
  case h_27 =>
    have hok : len = 1 := hok
    subst hok
    split at h
    · exact am_s_ishr hx hb hd (kk _ _ _ _ h)
    · cases h
  case h_28 =>
    have hok : len = 1 := hok
    subst hok
    split at h
    · exact am_s_iushr hx hb hd (kk _ _ _ _ h)
    · cases h
  case h_29 =>
    have hok : len = 1 := hok
    subst hok
    split at h
    · exact am_s_lshl hx hb hd (kk _ _ _ _ h)
    · cases h
  case h_30 =>
    have hok : len = 1 := hok
    subst hok
    split at h
    · exact am_s_lor hx hb hd (kk _ _ _ _ h)
    · cases h
  case h_31 =>
    have hok : len = 1 := hok
    subst hok
    split at h
    · exact am_s_lcmp hx hb hd (kk _ _ _ _ h)
    · cases h
  case h_32 =>
    have hok : len = 1 := hok
    subst hok
    split at h
    · exact am_s_i2l hx hb hd (kk _ _ _ _ h)
    · cases h
  case h_33 =>
    have hok : len = 1 := hok
    subst hok
    split at h
    · exact am_s_i2b hx hb hd (kk _ _ _ _ h)
    · cases h
  case h_34 =>
    have hok : len = 1 := hok
    subst hok
    split at h
    · exact am_s_i2c hx hb hd (kk _ _ _ _ h)
    · cases h
  case h_23 =>
    have hok : len = 1 := hok
    subst hok
    split at h
    · split at h
      · cases h
      · rename_i hne; exact am_s_idiv hx hb hd hne (kk _ _ _ _ h)
    · cases h
  case h_24 =>
    have hok : len = 1 := hok
    subst hok
    split at h
    · split at h
      · cases h
      · rename_i hne; exact am_s_irem hx hb hd hne (kk _ _ _ _ h)
    · cases h
  case h_35 =>
    have hok : len = 1 := hok
    subst hok
    split at h
    · exact am_s_dup hx hb hd rfl (kk _ _ _ _ h)
    · exact am_s_dup hx hb hd rfl (kk _ _ _ _ h)
    · cases h
  case h_36 =>
    have hok : len = 1 := hok
    subst hok
    split at h
    · exact am_s_pop hx hb hd rfl (kk _ _ _ _ h)
    · cases h
  case h_37 =>
    have hok : len = 1 := hok
    subst hok
    split at h
    · exact am_s_dup_x1 hx hb hd rfl rfl (kk _ _ _ _ h)
    · cases h
  case h_38 =>
    have hok : len = 1 := hok
    subst hok
    split at h
    · exact am_s_dup2 hx hb hd rfl rfl (kk _ _ _ _ h)
    · cases h
  case h_39 =>
    obtain ⟨rfl, e1⟩ := hok
    split at h
    · exact am_s_goto hx hb hd (e1 _ rfl) (kk _ _ _ _ h)
    · cases h
  case h_40 =>
    obtain ⟨rfl, e1⟩ := hok
    split at h
    · refine am_s_ifCond hx hb hd (e1 _ rfl) (fun q => ?_) (fun q => ?_)
      · rw [if_pos q] at h; exact kk _ _ _ _ h
      · rw [if_neg q] at h; exact kk _ _ _ _ h
    · cases h
  case h_41 =>
    obtain ⟨rfl, e1⟩ := hok
    split at h
    · refine am_s_if_icmp hx hb hd (e1 _ rfl) (fun q => ?_) (fun q => ?_)
      · rw [if_pos q] at h; exact kk _ _ _ _ h
      · rw [if_neg q] at h; exact kk _ _ _ _ h
    · cases h
  case h_42 =>
    obtain ⟨rfl, e1⟩ := hok
    split at h
    · refine am_s_acmp_ne hx hb hd (e1 _ rfl) (fun q => ?_) (fun q => ?_)
      · rw [if_pos q] at h; exact kk _ _ _ _ h
      · rw [if_neg q] at h; exact kk _ _ _ _ h
    · cases h
  case h_43 =>
    obtain ⟨rfl, e1⟩ := hok
    split at h
    · refine am_s_acmp_eq hx hb hd (e1 _ rfl) (fun q => ?_) (fun q => ?_)
      · rw [if_pos q] at h; exact kk _ _ _ _ h
      · rw [if_neg q] at h; exact kk _ _ _ _ h
    · cases h
  case h_44 =>
    obtain ⟨rfl, e1⟩ := hok
    split at h
    · exact am_s_ifnonnull hx hb hd (e1 _ rfl) (kk _ _ _ _ h)
    · exact am_s_ifnonnullN hx hb hd (kk _ _ _ _ h)
    · cases h
  case h_45 =>
    split at h
    · obtain ⟨e1, e2⟩ := hok _ _ rfl
      split at h
      · rename_i q; exact am_s_tableOut hx hb hd q e1 (kk _ _ _ _ h)
      · rename_i q
        obtain ⟨u, hu, h⟩ := Option.bind_eq_some_iff.mp h
        obtain ⟨off, ho, ht⟩ := e2 _ _ hu
        exact am_s_tableIn hx hb hd q ho ht (kk _ _ _ _ h)
    · cases h
  case h_46 =>
    split at h
    · obtain ⟨e1, e2⟩ := hok _ _ rfl
      exact am_s_lookup hx hb hd e1 rfl (e2 _) (kk _ _ _ _ h)
    · cases h
  case h_47 =>
    obtain ⟨rfl, e1⟩ := hok
    split at h
    · obtain ⟨x, hg, h⟩ := Option.bind_eq_some_iff.mp h
      have hg := am_gi_spec hg
      rcases e1 _ _ _ rfl with ⟨a1, r9, a2, a3, a4, a5⟩ | ⟨a1, a2⟩
      · exact am_s_get hx hb hown hts hK a1 a2 a3 a4 a5 hg hd (kk _ _ _ _ h)
      · exact am_s_getG hx hb hown hts a1 a2 hg hd (kk _ _ _ _ h)
    · obtain ⟨x, hg, h⟩ := Option.bind_eq_some_iff.mp h
      have hg := am_gr_spec hg
      rcases e1 _ _ _ rfl with ⟨a1, r9, a2, a3, a4, a5⟩ | ⟨a1, a2⟩
      · exact am_s_get hx hb hown hts hK a1 a2 a3 a4 a5 hg hd (kk _ _ _ _ h)
      · exact am_s_getG hx hb hown hts a1 a2 hg hd (kk _ _ _ _ h)
    · cases h
  case h_48 =>
    obtain ⟨rfl, e1⟩ := hok
    split at h
    · obtain ⟨M1, hg, h⟩ := Option.bind_eq_some_iff.mp h
      obtain ⟨a1, r9, a2, a3, a4, a5, a6, a7⟩ := e1 _ _ _ rfl
      exact am_s_put hx hb hown hts hK a1 a2 a3 a4 a5 a6 a7 hg hd (kk _ _ _ _ h)
    · cases h
  case h_49 =>
    obtain ⟨rfl, e1, e2, e3⟩ := hok
    split at h
    · obtain ⟨z, hz, ez, hw⟩ := e1 _ rfl
      have h9 := am_s_gets (c0 := c0) (s0 := s0) (Q := Q) (al := al) (st := st) (M := M) (R := R) (l := l) (e := e) (below := below) (meth := meth) (E := E) hx hb hown hts hz hw hd
      rw [ez] at h9
      exact h9 (kk _ _ _ _ h)
    · obtain ⟨z, hz, ez, hw⟩ := e2 _ _ rfl
      have h9 := am_s_gets (c0 := c0) (s0 := s0) (Q := Q) (al := al) (st := st) (M := M) (R := R) (l := l) (e := e) (below := below) (meth := meth) (E := E) hx hb hown hts hz hw hd
      rw [ez] at h9
      exact h9 (kk _ _ _ _ h)
    · obtain ⟨z, hz, ez, hw⟩ := e3 _ _ _ rfl
      have h9 := am_s_gets (c0 := c0) (s0 := s0) (Q := Q) (al := al) (st := st) (M := M) (R := R) (l := l) (e := e) (below := below) (meth := meth) (E := E) hx hb hown hts hz hw hd
      rw [ez] at h9
      exact h9 (kk _ _ _ _ h)
    · cases h
  case h_50 =>
    have hok : len = 1 := hok
    subst hok
    split at h
    · obtain ⟨x, hg, h⟩ := Option.bind_eq_some_iff.mp h
      exact am_s_alen hx hb hK hg hd (kk _ _ _ _ h)
    · cases h
  case h_51 =>
    have hok : len = 1 := hok
    subst hok
    split at h
    · obtain ⟨x, hg, h⟩ := Option.bind_eq_some_iff.mp h
      exact am_s_iald hx hb hK hg hd (kk _ _ _ _ h)
    · cases h
  case h_52 =>
    have hok : len = 1 := hok
    subst hok
    split at h
    · obtain ⟨x, hg, h⟩ := Option.bind_eq_some_iff.mp h
      exact am_s_bald hx hb hK hg hd (kk _ _ _ _ h)
    · cases h
  case h_53 =>
    have hok : len = 1 := hok
    subst hok
    split at h
    · obtain ⟨x, hg, h⟩ := Option.bind_eq_some_iff.mp h
      exact am_s_lald hx hb hK hg hd (kk _ _ _ _ h)
    · cases h
  case h_54 =>
    have hok : len = 1 := hok
    subst hok
    split at h
    · obtain ⟨x, hg, h⟩ := Option.bind_eq_some_iff.mp h
      exact am_s_aald hx hb hK hg hd (kk _ _ _ _ h)
    · cases h
  case h_55 =>
    have hok : len = 1 := hok
    subst hok
    split at h
    · obtain ⟨x, hg, h⟩ := Option.bind_eq_some_iff.mp h
      exact am_s_ist hx hb hK hg hd (kk _ _ _ _ h)
    · cases h
  case h_56 =>
    have hok : len = 1 := hok
    subst hok
    split at h
    · obtain ⟨x, hg, h⟩ := Option.bind_eq_some_iff.mp h
      exact am_s_bst hx hb hK hg hd (kk _ _ _ _ h)
    · cases h
  case h_57 =>
    have hok : len = 1 := hok
    subst hok
    split at h
    · obtain ⟨x, hg, h⟩ := Option.bind_eq_some_iff.mp h
      exact am_s_lst hx hb hK hg hd (kk _ _ _ _ h)
    · cases h
  case h_58 =>
    obtain ⟨rfl, r9, e1, e2⟩ := hok
    split at h
    · obtain ⟨x, hg, h⟩ := Option.bind_eq_some_iff.mp h
      exact am_s_ast hx hb hK e1 e2 hg hd (kk _ _ _ _ h)
    · cases h
  case h_59 =>
    obtain ⟨rfl, e1⟩ := hok
    split at h
    · obtain ⟨M1, hg, h⟩ := Option.bind_eq_some_iff.mp h
      obtain ⟨a1, rfl, a2⟩ := e1 _ rfl
      obtain ⟨m1, m2⟩ := hmono _ _ _ _ h
      exact am_s_newa hx hb hts hK a1 a2 hg hd (by omega) (by omega) (kk _ _ _ _ h)
    · cases h
  case h_60 =>
    obtain ⟨rfl, e1⟩ := hok
    split at h
    · obtain ⟨rfl, a1, a2⟩ := e1 _ rfl
      obtain ⟨M1, hg, h⟩ := Option.bind_eq_some_iff.mp h
      obtain ⟨m1, m2⟩ := hmono _ _ _ _ h
      exact am_s_anew hx hb hown hts hK a1 a2 hg hd (by omega) (by omega) (kk _ _ _ _ h)
    · cases h
  case h_61 =>
    obtain ⟨rfl, rfl, a1, a2, a3⟩ := hok
    split at h
    · split at h
      · rename_i q
        obtain ⟨rfl, rfl, q1, q2⟩ := q
        obtain ⟨m1, m2⟩ := hmono _ _ _ _ h
        exact am_s_mna hx hb hown hts hK q1 q2 a1 a2 a3 hd (by omega) (by omega) (kk _ _ _ _ h)
      · cases h
    · cases h
end AMS
