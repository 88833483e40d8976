theorem am_w_append (a b : List Value) : am_w (a ++ b) = am_w a + am_w b := by
  induction a with
  | nil => simp [am_w]
  | cons v t ih => simp only [List.cons_append, am_w, ih]; omega
theorem am_w_reverse (a : List Value) : am_w a.reverse = am_w a := by
  induction a with
  | nil => rfl
  | cons v t ih => rw [List.reverse_cons, am_w_append, ih]; simp only [am_w]; omega
theorem am_run_row {n : Nat} {P : am_P} {d mi pc : Nat} {al : am_L} {st : List Value} {M : am_M} {r : am_R} (h : am_run n P d mi pc al st M = some r) : ∃ row, P.1 mi pc = some row := by
  cases n with
  | zero => cases h
  | succ n =>
    unfold am_run at h
    split at h
    · cases h
    · rename_i q; exact ⟨_, q⟩
/-- soundness of runs of a fuel -/
def am_Snd (l : Launch) (E : am_E) (F : am_F) (Ts : List Cond) (P : am_P) (mt : Nat → am_I) (n : Nat) : Prop :=
  ∀ (d mi pc : Nat) (al : am_L) (st : List Value) (M : am_M) (r : Option Value ⊕ Nat) (M2 : am_M), am_run n P d mi pc al st M = some (r, M2) → ∀ (p : Program) (e : Env) (R : Room) (s : State) (m : MethodId) (args : Array Value) (below : List Frame) (meth : Method) (c : Code) (c0 s0 : Nat), am_cx F E Ts (mt mi) p e s m args meth c → d ≤ R.frames → 42 * d ≤ R.locals → M2.1 - c0 ≤ R.cells → M2.2.1 - s0 ≤ R.slots →
    am_G p l e R s m args below meth c (am_MQ below (am_Qc E F r M2) args s (M2.1 - c0) (M2.2.1 - s0) (fun q : Nat => E.2.2 ≤ q)) E F c0 s0 pc al st M
section AMZ
variable {l : Launch} {E : am_E} {F : am_F} {Ts : List Cond} {P : am_P} {mt : Nat → am_I}
theorem am_callee {n d2 m2 : Nat} {aL : List Value} {M M1 : am_M} {r1 : Option Value ⊕ Nat} (htr : ∀ e, l.admits e → e.platform.stackTraces = false) (hmeths : am_meths Ts P mt) (ih : am_Snd l E F Ts P mt n) (hone : am_w aL = aL.length) (hle : aL.length ≤ (P.2.2.2 m2).1)
    (h : am_run n P d2 m2 0 (am_ent aL (P.2.2.2 m2).1) [] M = some (r1, M1)) : am_S l E F Ts d2 (mt m2).1 aL M r1 M1 ∧ am_cw (mt m2).1 (mt m2).2.1 (mt m2).2.2.1 (mt m2).2.2.2.1 (mt m2).2.2.2.2 ∈ Ts ∧ (mt m2).2.2.1 ≤ 23 := by
  obtain ⟨row, hrow⟩ := am_run_row h
  obtain ⟨g1, g2, g3, g4, g5⟩ := hmeths m2 0 row hrow
  rw [g3] at h hle
  exact ⟨am_toS htr g1 g2 hone hle (fun p e s m below meth c hcx => ih d2 m2 0 _ _ _ _ _ h p e _ s m _ below meth c M.1 M.2.1 hcx (Nat.le_refl _) (Nat.le_refl _) (Nat.le_refl _) (Nat.le_refl _)), g2, g4⟩
/-- the catch, out of the tables -/
def am_Cat (l : Launch) (E : am_E) (F : am_F) (Ts : List Cond) : Prop :=
  ∀ (i : am_I) (p : Program) (e : Env) (R : Room) (s : State) (m : MethodId) (args : Array Value) (below : List Frame) (meth : Method) (c : Code) (pc x ci hp : Nat) (hs : List Nat) (fs : List Value) (M2 : am_M) (rest : List Value) (V : State) (locs1 : List Loc) (ls : Array Slot) (k0 n0 : Nat), am_cx F E Ts i p e s m args meth c → am_hok Ts F i.1.cls pc i.2.2.2.2 hs → am_hd ci hs = some hp → M2.2.2 x = some (.inr (ci, fs)) →
    am_rel E F s M2 V.heap → Stand p l e R s m args below meth c V locs1 k0 n0 → ∃ vm', Stand p l e R s m args below meth c (V.setVm vm') locs1 k0 n0 ∧ ∀ target, Steps p.tables e below ((V.setVm vm').setTop (F0 m hp ls [.ref x])) target → Steps p.tables e below ((V.setTop (F0 m pc ls rest)).pushFrame (.throwing x)) target
set_option maxHeartbeats 4000000 in
theorem am_sound (htr : ∀ e, l.admits e → e.platform.stackTraces = false) (hcat : am_Cat l E F Ts) (hgood : am_good Ts) (hprog : am_prog Ts F P mt) (hmeths : am_meths Ts P mt) : ∀ n, am_Snd l E F Ts P mt n := by
  intro n
  induction n with
  | zero => intro d mi pc al st M r M2 h; cases h
  | succ n ih =>
    intro d mi pc al st M r M2 h p e R s m args below meth c c0 s0 hcx hdf hdl hrc hrs
    obtain ⟨hx, hb, hown, hts, hK, hX, hret, hlocks, hname, hex, hst⟩ := id hcx
    unfold am_run at h
    split at h
    · cases h
    · rename_i i len tg hrow
      obtain ⟨hd, hokP, hokL, hokI, hokN⟩ := hprog mi pc i len tg hrow
      obtain ⟨g1, g2, g3, g4, g5⟩ := hmeths mi pc _ hrow
      unfold am_exec at h
      split at h
      · -- ireturn
        have hl1 : len = 1 := by simpa using hokL rfl
        subst hl1
        split at h
        · split at h
          · rename_i hfit
            cases h
            rcases g5 with ⟨w, -⟩ | ⟨w, ty, hty, hk⟩ | ⟨w, ty, hty, hk⟩ | ⟨w, -⟩ | ⟨w, -⟩
            · rw [w] at hfit; cases hfit
            · exact am_s_zret hx hb hlocks (hret.trans hty) (am_fit_ok hfit hk).1 hd
            · exact am_s_zret hx hb hlocks (hret.trans hty) (am_fit_ok hfit hk).1 hd
            · rw [w] at hfit; cases hfit
            · rw [w] at hfit; cases hfit
          · cases h
        · cases h
      · -- areturn
        have hl1 : len = 1 := by simpa using hokL rfl
        subst hl1
        have hty : 2 ≤ (P.2.2.2 mi).2 ∧ (P.2.2.2 mi).2 ≤ 3 → ∃ ty, (mt mi).2.2.2.1 = some ty ∧ ((∃ n, ty = .object n) ∨ ∃ t, ty = .array t) := by
          intro hq
          rcases g5 with ⟨w, -⟩ | ⟨w, -⟩ | ⟨w, -⟩ | ⟨w, C, hC⟩ | ⟨w, t, ht⟩
          · omega
          · omega
          · omega
          · exact ⟨_, hC, .inl ⟨_, rfl⟩⟩
          · exact ⟨_, ht, .inr ⟨_, rfl⟩⟩
        split at h
        · split at h
          · rename_i hq
            cases h
            obtain ⟨ty, t1, t2⟩ := hty hq
            exact am_s_aret hx hb hlocks (hret.trans t1) t2 (.inr ⟨_, rfl⟩) hd
          · cases h
        · split at h
          · rename_i hq
            cases h
            obtain ⟨ty, t1, t2⟩ := hty hq
            exact am_s_aret hx hb hlocks (hret.trans t1) t2 (.inl rfl) hd
          · cases h
        · cases h
      · -- return
        have hl1 : len = 1 := by simpa using hokL rfl
        subst hl1
        split at h
        · split at h
          · rename_i hq
            cases h
            have hn : (mt mi).2.2.2.1 = none := by
              rcases g5 with ⟨-, w⟩ | ⟨w, -⟩ | ⟨w, -⟩ | ⟨w, -⟩ | ⟨w, -⟩
              · exact w
              · omega
              · omega
              · omega
              · omega
            exact am_s_vret hx hb hlocks (hret.trans hn) hd
          · cases h
        · cases h
      · -- new
        have hl3 : len = 3 := by simpa using hokL rfl
        subst hl3
        split at h
        · split at h
          · rename_i hw
            cases h
            obtain ⟨a1, a2, a3, a4, a5, a6, a7, a8, a9, ic, names, b1, b2, b3, b4⟩ := hokI _ _ _ rfl
            have hout : c.exceptionTable.toList = [] := by
              rw [a3] at hex
              exact List.map_eq_nil_iff.mp hex
            exact am_s_throw hx hb hown hts hgood hst hlocks rfl a1 a2 a4 a5 a6 a7 b3 b4 hd a8 b1 a9 hout hrc hrs (by omega) (by omega)
          · cases h
        · obtain ⟨a1, r9, a2, a3, a4, a5, a6, a7, a8, a9⟩ := hokN _ _ rfl
          obtain ⟨m1, m2⟩ := am_run_mono n h
          subst a4
          have m1 : M.1 + 1 ≤ M2.1 := m1
          have m2 : M.2.1 + r9.2.2 ≤ M2.2.1 := m2
          exact am_s_new hx hb hown hts hK a1 a2 a3 a5 a6 a7 a8 a9 hd (by omega) (by omega) (ih _ _ _ _ _ _ _ _ h p e R s m args below meth c c0 s0 hcx hdf hdl hrc hrs)
        · cases h
      · -- invokevirtual
        have hl3 : len = 3 := by simpa using hokL rfl
        subst hl3
        split at h
        · rename_i m2 na rk ci hs d2
          obtain ⟨a1, a2, a3, a4, a5, a6, C, a7, a8⟩ := hokI _ _ _ _ _ rfl
          split at h
          · rename_i hq
            obtain ⟨q1, q2, q3, q4⟩ := hq
            split at h
            · rename_i a rest hdrop
              obtain ⟨s1, s2, s3⟩ := am_split hdrop
              rw [Nat.sub_add_cancel a1] at s2 s3
              have haL : (st.take na).reverse = .ref a :: (st.take (na - 1)).reverse := by rw [s2, List.reverse_append]; rfl
              have hone : am_w (st.take na).reverse = (st.take na).reverse.length := by rw [am_w_reverse, List.length_reverse, List.length_take, q3]; omega
              have hle : (st.take na).reverse.length ≤ (P.2.2.2 m2).1 := by rw [List.length_reverse, List.length_take]; omega
              rw [s3] at q2
              split at h
              · rename_i hcls
                have hrecv := am_recv (E := E) (s := s) hK a7 hcls
                have hlen : ∀ sig, parseMethodDescriptor (mt m2).1.desc = some sig → ((st.take (na - 1)).reverse).length = sig.parameters.length := fun sig hsig => by
                  rw [List.length_reverse, List.length_take, ← a2 sig hsig]; omega
                have hInv : ∀ (cw : am_cw (mt m2).1 (mt m2).2.1 (mt m2).2.2.1 (mt m2).2.2.2.1 (mt m2).2.2.2.2 ∈ Ts), am_Inv p l e R s m args below meth c E F M pc (mt m2).1 (st.take na).reverse rest st := by
                  intro cw
                  rw [haL]
                  have key : am_Inv p l e R s m args below meth c E F M pc (mt m2).1 (.ref a :: (st.take (na - 1)).reverse) rest (((st.take (na - 1)).reverse).reverse ++ .ref a :: rest) := by
                    rcases a8 with ⟨b1, b2⟩ | ⟨b1, b2, b3⟩
                    · exact am_invV hx hb hown hts b1 a5 b2 cw a3 hlen hrecv hd
                    · exact am_invU (x := ⟨C, (mt m2).1.name, (mt m2).1.desc⟩) hx hb hown hts ⟨rfl, rfl⟩ b1 b2 a5 b3 cw a3 hlen hrecv hd
                  rw [List.reverse_reverse, ← s1] at key
                  exact key
                have ret : ∀ (v : Option Value) (M1 : am_M), am_run n P d2 m2 0 (am_ent (st.take na).reverse (P.2.2.2 m2).1) [] M = some (.inl v, M1) → am_run n P (d2 + 1) mi (pc + 3) al (v.toList ++ rest) M1 = some (r, M2) → am_G p l e R s m args below meth c (am_MQ below (am_Qc E F r M2) args s (M2.1 - c0) (M2.2.1 - s0) (fun q : Nat => E.2.2 ≤ q)) E F c0 s0 pc al st M := by
                  intro v M1 h1 h2
                  obtain ⟨hC, cw, hmx⟩ := am_callee htr hmeths ih hone hle h1
                  obtain ⟨m1, m2'⟩ := am_run_mono n h1
                  obtain ⟨m3, m4⟩ := am_run_mono n h2
                  dsimp only at m1 m2' m3 m4
                  exact am_s_ret hK hX hts hgood (hInv cw) hC cw a4 hmx hdf hdl m1 m2' (by omega) (by omega) q2 (ih _ _ _ _ _ _ _ _ h2 p e R s m args below meth c c0 s0 hcx hdf hdl hrc hrs)
                split at h
                · obtain ⟨v, M1, h1, h2⟩ := am_back_some h
                  exact ret v M1 h1 h2
                · rcases am_thr_some h with ⟨x, M1, c9, fs, hp, h1, hc9, hhd, h2⟩ | h
                  · obtain ⟨hC, cw, hmx⟩ := am_callee htr hmeths ih hone hle h1
                    obtain ⟨m1, m2'⟩ := am_run_mono n h1
                    obtain ⟨m3, m4⟩ := am_run_mono n h2
                    dsimp only at m1 m2' m3 m4
                    exact am_s_thr hK hX hts hgood (hInv cw) hC cw a4 hmx hdf hdl m1 m2' (by omega) (by omega) q2 (fun V locs1 ls hM1 X1 => hcat (mt mi) p e R s m args below meth c pc x c9 hp hs fs M1 rest V locs1 ls _ _ hcx a6 hhd hc9 hM1 X1) (ih _ _ _ _ _ _ _ _ h2 p e R s m args below meth c c0 s0 hcx hdf hdl hrc hrs)
                  · obtain ⟨v, M1, h1, h2⟩ := am_back_some h
                    exact ret v M1 h1 h2
              · cases h
            · cases h
          · cases h
        · cases h
      · -- invokestatic
        have hl3 : len = 3 := by simpa using hokL rfl
        subst hl3
        split at h
        · split at h
          · split at h
            · rename_i hw
              obtain ⟨M1, h1, h2⟩ := Option.bind_eq_some_iff.mp h
              obtain ⟨b1, b2, b3, b4⟩ := hokI.1 rfl
              refine am_s_cpy hx hb hown hts hK b1 b2 b3 b4 h1 hd (by omega) ?_ (ih _ _ _ _ _ _ _ _ h2 p e R s m args below meth c c0 s0 hcx hdf hdl hrc hrs)
              rw [am_w_cat]
              have : nativeFrameWords "java/lang/System" "arraycopy" 5 + 11 ≤ 34 := by decide +kernel
              omega
            · cases h
          · cases h
        · rename_i m2 na rk d2
          obtain ⟨a2, a3, a4, a5, a6⟩ := hokI.2 _ _ _ rfl
          split at h
          · rename_i hq
            obtain ⟨q1, q2, q3, q4⟩ := hq
            have hone : am_w (st.take na).reverse = (st.take na).reverse.length := by rw [am_w_reverse, List.length_reverse, List.length_take, q3]; omega
            have hle : (st.take na).reverse.length ≤ (P.2.2.2 m2).1 := by rw [List.length_reverse, List.length_take]; omega
            have hlen : ∀ sig, parseMethodDescriptor (mt m2).1.desc = some sig → ((st.take na).reverse).length = sig.parameters.length := fun sig hsig => by
              rw [List.length_reverse, List.length_take, ← a2 sig hsig]; omega
            obtain ⟨v, M1, h1, h2⟩ := am_back_some h
            obtain ⟨hC, cw, hmx⟩ := am_callee htr hmeths ih hone hle h1
            obtain ⟨m1, m2'⟩ := am_run_mono n h1
            obtain ⟨m3, m4⟩ := am_run_mono n h2
            dsimp only at m1 m2' m3 m4
            have hInv : am_Inv p l e R s m args below meth c E F M pc (mt m2).1 (st.take na).reverse (st.drop na) st := by
              have key := am_invS (p := p) (l := l) (e := e) (R := R) (s := s) (m := m) (args := args) (below := below) (meth := meth) (c := c) (E := E) (F := F) (M := M) (pc := pc) (rest := st.drop na) hx hb hown hts a6 a5 a4 cw a3 hlen hd
              rw [List.reverse_reverse, List.take_append_drop] at key
              exact key
            exact am_s_ret hK hX hts hgood hInv hC cw a4 hmx hdf hdl m1 m2' (by omega) (by omega) q2 (ih _ _ _ _ _ _ _ _ h2 p e R s m args below meth c c0 s0 hcx hdf hdl hrc hrs)
          · cases h
        · cases h
      · -- invokespecial
        have hl3 : len = 3 := by simpa using hokL rfl
        subst hl3
        split at h
        · split at h
          · split at h
            · rename_i hw
              obtain ⟨b1, b2, b3⟩ := hokI.1 rfl
              exact am_s_objInit hx hb hown hts b1 b2 b3 hd (by omega) (by rw [am_w_cat]; omega) (ih _ _ _ _ _ _ _ _ h p e R s m args below meth c c0 s0 hcx hdf hdl hrc hrs)
            · cases h
          · cases h
        · rename_i m2 na d2
          obtain ⟨a1, a2, a3, a4, a5, a6, a7, a8, a9⟩ := hokI.2 _ _ rfl
          split at h
          · rename_i hq
            obtain ⟨q1, q2, q3, q4⟩ := hq
            split at h
            · rename_i a rest hdrop
              obtain ⟨s1, s2, s3⟩ := am_split hdrop
              rw [Nat.sub_add_cancel a1] at s2 s3
              have haL : (st.take na).reverse = .ref a :: (st.take (na - 1)).reverse := by rw [s2, List.reverse_append]; rfl
              have hone : am_w (st.take na).reverse = (st.take na).reverse.length := by rw [am_w_reverse, List.length_reverse, List.length_take, q3]; omega
              have hle : (st.take na).reverse.length ≤ (P.2.2.2 m2).1 := by rw [List.length_reverse, List.length_take]; omega
              rw [s3] at q2
              have hlen : ∀ sig, parseMethodDescriptor (mt m2).1.desc = some sig → ((st.take (na - 1)).reverse).length = sig.parameters.length := fun sig hsig => by
                rw [List.length_reverse, List.length_take, ← a2 sig hsig]; omega
              obtain ⟨M1, h1, h2⟩ := am_ret0_some h
              obtain ⟨hC, cw, hmx⟩ := am_callee htr hmeths ih hone hle h1
              obtain ⟨m1, m2'⟩ := am_run_mono n h1
              obtain ⟨m3, m4⟩ := am_run_mono n h2
              dsimp only at m1 m2' m3 m4
              have hInv : am_Inv p l e R s m args below meth c E F M pc (mt m2).1 (st.take na).reverse rest st := by
                rw [haL]
                have cw2 := cw
                rw [a5, a6] at cw2
                have key := am_invI (p := p) (l := l) (e := e) (R := R) (s := s) (m := m) (args := args) (below := below) (meth := meth) (c := c) (E := E) (F := F) (M := M) (pc := pc) (b := a) (rest := rest) hx hb hown hts a9 a8 cw2 a4 a3 hlen hd
                rw [List.reverse_reverse, ← s1] at key
                exact key
              exact am_s_ret (v := none) hK hX hts hgood hInv hC cw a7 hmx hdf hdl m1 m2' (by omega) (by omega) q2 (ih _ _ _ _ _ _ _ _ h2 p e R s m args below meth c c0 s0 hcx hdf hdl hrc hrs)
            · cases h
          · cases h
        · cases h
      · -- a plain one
        rename_i i9 n1 n2 n3 n4 n5 n6 n7
        have hnc : am_isC i = false := by
          cases i <;> first | rfl | (exfalso; first | exact n1 rfl | exact n2 rfl | exact n3 rfl | exact n4 _ rfl | exact n5 _ rfl | exact n6 _ rfl | exact n7 _ rfl)
        have hok := hokP hnc
        rw [← hname] at hok
        exact am_ins_sound hx hb hown hts hK hX hd hok (r := (r, M2)) (fun pc2 al2 st2 M3 hk => am_run_mono n hk) hrc hrs (fun pc2 al2 st2 M3 hk => ih _ _ _ _ _ _ _ _ hk p e R s m args below meth c c0 s0 hcx hdf hdl hrc hrs) h
end AMZ
