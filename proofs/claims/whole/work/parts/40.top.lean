/-! FROM THE CLAIM ABOUT THE SMALL MACHINE TO THE STATEMENT -/
noncomputable def am_G0 (ad gk gv : Nat → Nat) (b L : Nat) (xs : Nat → Int32) (a : Nat) : Option va_E := Classical.epsilon (fun o : Option va_E => ∀ e, o = some e ↔ am_GP ad gk gv b L xs a e)
theorem am_G0_iff {ad gk gv : Nat → Nat} {b L : Nat} {xs : Nat → Int32} (hfun : ∀ a e e', am_GP ad gk gv b L xs a e → am_GP ad gk gv b L xs a e' → e = e') (a : Nat) (e : va_E) : am_G0 ad gk gv b L xs a = some e ↔ am_GP ad gk gv b L xs a e := by
  have h : ∃ o : Option va_E, ∀ e, o = some e ↔ am_GP ad gk gv b L xs a e := by
    by_cases hn : ∃ e, am_GP ad gk gv b L xs a e
    · obtain ⟨e, he⟩ := hn
      refine ⟨some e, fun e2 => ⟨fun q => ?_, fun q => ?_⟩⟩
      · cases q; exact he
      · rw [hfun a e e2 he q]
    · exact ⟨none, fun e2 => ⟨fun q => (by cases q), fun q => absurd ⟨e2, q⟩ hn⟩⟩
  exact Classical.epsilon_spec h e
/-- the ground, as the small machine sees it -/
def am_gnd (G : Nat → Option va_E) (ad gk gv : Nat → Nat) (b L : Nat) (xs : Nat → Int32) (base : Nat) : Prop :=
  (∀ a e, G a = some e ↔ am_GP ad gk gv b L xs a e) ∧ (∀ a e, G a = some e → a < base) ∧ (∀ t u, t < 13 → u < 13 → ad t = ad u → t = u) ∧ ad 15 = gk 31
/-- WHAT IS LEFT: the law's run over the small machine -/
def am_claim : Prop := ∀ (G : Nat → Option va_E) (ad gk gv : Nat → Nat) (b L : Nat) (xs : Nat → Int32) (base : Nat), L ≤ 3072 → am_gnd G ad gk gv b L xs base →
  ∃ M2 : am_M, am_gg (am_pr ad) 14 0 0 [some (.ref b), none, none, none, none, none, none] [] (base, 0, G) = some (.inl (some (.int 1)), M2) ∧ M2.1 ≤ base + 601024 ∧ M2.2.1 ≤ 7293034
theorem am_OFlt {o n d : String} {v : Value} {t : Nat} {A : Nat → Prop} {U : State} {H : Heap} (h : va_OF o n d v t A U H) : t < H.size := by
  obtain ⟨cf, k, i, f, ce, -, -, h3, -⟩ := h
  exact (Array.getElem?_eq_some_iff.mp h3).1
theorem am_Tlt {ty : FieldType} {t N : Nat} {f : Nat → Value} {A : Nat → Prop} {U : State} {H : Heap} (h : va_T ty t N f A U H) : t < H.size := by
  obtain ⟨ce, h1, -⟩ := h
  exact (Array.getElem?_eq_some_iff.mp h1).1
theorem am_GP_at {E : am_E} {ad gk gv : Nat → Nat} {v1 v2 : Value} {b L : Nat} {xs : Nat → Int32} {s : State} (hE : E.2.2 = s.heap.size) (h : am_GS ad gk gv b L xs (fun q => s.heap.size ≤ q) s) {a : Nat} {e : va_E} (hg : am_GP ad gk gv b L xs a e) : a < s.heap.size ∧ am_at E (am_Fd ad v1 v2) s a e s.heap := by
  obtain ⟨hT, hS, hA, hW, hX, -⟩ := h
  rcases hg with ⟨t, ht, rfl, rfl⟩ | ⟨i, hi, rfl, rfl⟩ | ⟨i, hi, rfl, rfl⟩ | ⟨rfl, rfl⟩ | ⟨rfl, rfl⟩ | ⟨rfl, rfl⟩
  · obtain ⟨g0, g1, g2, g3, g4, g5, g6⟩ := hT t ht
    have hlt := am_OFlt g1
    refine ⟨hlt, .inr (.inr (.inr ⟨Nat.le_refl _, by rw [hE]; exact hlt, by rw [hE]; exact g0, fun k v hv => ?_⟩))⟩
    rw [hE]
    match k, hv with
    | 0, hv => cases Option.some.inj hv; exact g1
    | 1, hv => cases Option.some.inj hv; exact g2
    | 2, hv => cases Option.some.inj hv; exact g3
    | 3, hv => cases Option.some.inj hv; exact g4
    | 4, hv => cases Option.some.inj hv; exact g5
    | 5, hv => cases Option.some.inj hv; exact g6
  · obtain ⟨g0, g1, g2, g3⟩ := hS i hi
    have hlt := am_OFlt g1
    refine ⟨hlt, .inr (.inr (.inr ⟨by decide, by rw [hE]; exact hlt, by rw [hE]; exact g0, fun k v hv => ?_⟩))⟩
    rw [hE]
    match k, hv with
    | 0, hv => cases Option.some.inj hv; exact g1
    | 1, hv => cases Option.some.inj hv; exact g2
  · have g3 := (hS i hi).2.2.2
    have hlt := am_Tlt g3
    obtain ⟨ce, q1, q2, q3, q4, q5, q6, -⟩ := g3
    exact ⟨hlt, .inr ⟨Nat.le_refl _, by rw [hE]; exact hlt, ce, q1, q2, q3, q4, q5, q6⟩⟩
  · have hlt := am_Tlt hA
    obtain ⟨ce, q1, q2, q3, q4, q5, q6, -⟩ := hA
    exact ⟨hlt, .inr ⟨by decide, by rw [hE]; exact hlt, ce, q1, q2, q3, q4, q5, q6⟩⟩
  · have hlt := am_Tlt hW
    obtain ⟨ce, q1, q2, q3, q4, q5, q6, -⟩ := hW
    refine ⟨hlt, .inr ⟨by decide, by rw [hE]; exact hlt, ce, q1, q2, q3, q4, q5, fun j hj => ?_⟩⟩
    rw [q6 j hj]
    show some (Value.int (nI (j + 1))) = some (.int (if j < 13 then nI (j + 1) else 0))
    rw [if_pos hj]
  · obtain ⟨ce, q1, q2, q3, q4, q5⟩ := hX
    have hlt := (Array.getElem?_eq_some_iff.mp q1).1
    refine ⟨hlt, .inr ⟨by decide, by rw [hE]; exact hlt, ce, q1, q2, q3, Nat.le_of_eq q4.symm, by rw [q4], fun j hj => ?_⟩⟩
    rw [q5 j hj]
    show some (Value.int (xs j)) = some (.int (if j < L then xs j else 0))
    rw [if_pos hj]
def lw_P (b : Addr) (xs : List Int32) (args : Array Value) (s : State) : Prop := args = #[.ref b] ∧ s.IntsAt b xs ∧ xs.length ≤ 3072 ∧ (Jvm.Cond.and given_1 narrow_1).before args s = true
def lw_Q (_ : Array Value) (s : State) (o : Outcome) (t : State) : Prop := o = .returned (some (.int 1)) ∧ Framed s o t [] 601024 7293034
theorem lw_pre_spec {args : Array Value} {s : State} (h : (Jvm.Cond.and given_1 narrow_1).before args s = true) (hr : rest_1_c.before args s = true) : ∃ (b : Addr) (xs : List Int32), lw_P b xs args s := by
  have hs := flat_of_before _ h
  have hq := flat_of_before _ hr
  have hc : (Cond.count 1).before args s = true := hs _ (by decide +kernel)
  have harr : (Cond.arrayOf (.arg 0) .int).before args s = true := hs _ (by decide +kernel)
  have hle : (Cond.le (.length (.arg 0)) (.int 3072)).before args s = true := hs _ (by decide +kernel)
  have hlen : (Cond.isInt (.length (.arg 0))).before args s = true := hq _ (by decide +kernel)
  have hall : (Cond.all (.arg 0) (.isInt (.elem (.arg 0) (.index 0)))).before args s = true := hq _ (by decide +kernel)
  obtain ⟨b, xs, hb, hx⟩ := State.ints_of_pre rfl harr hlen hall
  have hsm : xs.length < 2 ^ 31 := hx.choose_spec.2.2.2
  have hev : (Term.length (.arg 0)).eval args s none [] s = some (.int xs.length.toInt32) := hx.length_eval hb
  have hv := Cond.le_ints hev (show (Term.int 3072).eval args s none [] s = some (.int 3072) from rfl)
  have hd : xs.length.toInt32 ≤ 3072 := by
    simpa [Cond.before, Cond.holds, hv] using hle
  have hN : xs.length ≤ 3072 := (Int32.ofNat_le_ofNat hsm (by decide)).mp (show Int32.ofNat xs.length ≤ Int32.ofNat 3072 from hd)
  exact ⟨b, xs, Cond.one_arg hc (show args[0]? = some (.ref b) from hb), hx, hN, h⟩
set_option maxHeartbeats 2000000 in
theorem am_comes (hcl : am_claim) (l : Launch) (htr : ∀ e, l.admits e → e.platform.stackTraces = false) : Comes l x (Jvm.Cond.code x code maxLocals ret :: tables_1) room_1 (fun tb e args s => Calls_1 tb e args s ∧ rest_1 tb e args s ∧ Pre_1 tb e args s)
    (fun _ _ args s o t => lw_Q args s o t) := by
  intro p e ha hc hk s m args below hf hfit hheap happ hpre
  obtain ⟨b, ys, rfl, hx, hbd, hgv⟩ := lw_pre_spec hpre.2.2 hpre.2.1
  have happL := ((Spec.applies_iff_loose hf).mp happ).1
  obtain ⟨a1, a2, a3, a4, a5, a6, a7, a8⟩ := (Spec.appliesLoose_iff hf).mp happL
  have hts0 : ∀ c ∈ (Jvm.Cond.code x code maxLocals ret :: tables_1), c.before #[Value.ref b] s = true := atoms_spec (ws := Jvm.Cond.code x code maxLocals ret :: tables_1) a8
  have hts : ∀ w ∈ lw_tbl, w.before #[Value.ref b] s = true := k2_hts_sels lw_privs (fun w hw => hts0 w (List.mem_cons_of_mem _ hw)) lw_privs_ok
  have hN : ∀ w, am_inN w = true → w.before #[Value.ref b] s = true := fun w h => am_tin_ok _ h hgv
  have n6 := am_n6
  simp only [Bool.and_eq_true] at n6
  obtain ⟨⟨⟨⟨-, z1⟩, z2⟩, z3⟩, z4⟩ := n6
  have hTs : ∀ w ∈ am_Ts, w.before #[Value.ref b] s = true := by
    intro w hw
    rcases List.mem_append.mp hw with h | h
    · exact hts w (List.mem_filter.mp h).1
    · rcases List.mem_cons.mp h with rfl | h
      · exact hN _ z4
      · rw [List.mem_singleton.mp h]; exact hts0 _ List.mem_cons_self
  obtain ⟨scr, harrAt, hlist, hof, hsmall⟩ := hx
  obtain ⟨hcb, hkn, -, -⟩ := State.arrayAt?_spec harrAt
  have hsz : scr.slots.size = ys.length := by rw [← Array.length_toList, hlist, List.length_map]
  have hval : ∀ j : Nat, j < ys.length → scr.slots[j]? = some (.int (ys.getD j 0)) := fun j hj => by
    rw [← Array.getElem?_toList, hlist]
    simp [hj]
  have hX : va_X b ys.length (fun j => ys.getD j 0) s s.heap := ⟨scr, hcb, hof, hkn, hsz, hval⟩
  obtain ⟨v3, hv3, hr3⟩ := am_isRefOf (hN _ am_n9)
  have hz3 : ∃ u16 u17 : Nat, v3 = if u17 = 0 then Value.null else .ref u16 := by
    cases v3 with
    | null => exact ⟨0, 0, rfl⟩
    | ref a => exact ⟨a, 1, rfl⟩
    | _ => exact absurd hr3 (by simp [Value.isRef])
  obtain ⟨u16, u17, hz3⟩ := hz3
  obtain ⟨ad, gk, gv, hGS, hst, had15, hst31, had16, had17⟩ := am_GS_of u16 u17 hN hX
  have hzv : am_zv ad 16 = v3 := by
    unfold am_zv
    rw [hz3, had16, had17]
  obtain ⟨E, hE, hK⟩ := am_K_of hts hTs
  have hfun : ∀ a e e', am_GP ad gk gv b ys.length (fun j => ys.getD j 0) a e → am_GP ad gk gv b ys.length (fun j => ys.getD j 0) a e' → e = e' := fun a e e' h1 h2 => am_GP_fun hheap hbd hGS h1 h2
  have hiff := am_G0_iff hfun
  obtain ⟨v1, hv1, hr1⟩ := am_isRefOf (hN _ z2)
  obtain ⟨v2, hv2, hr2⟩ := am_isRefOf (hN _ z3)
  obtain ⟨M2, hgo, hm1, hm2⟩ := hcl (am_G0 ad gk gv b ys.length (fun j => ys.getD j 0)) ad gk gv b ys.length (fun j => ys.getD j 0) s.heap.size hbd ⟨hiff, fun a e h => (am_GP_at (v1 := v1) (v2 := v2) hE hGS ((hiff a e).mp h)).1, hGS.2.2.2.2.2, had15⟩
  obtain ⟨n, hrun⟩ := am_gg_iff.mp hgo
  obtain ⟨hprog, hmeths⟩ := am_program ad hr1 hr2
  have hsnd := am_sound (l := l) (E := E) htr am_cat am_Ts_good hprog hmeths n
  have hinf : (am_pr ad).2.2.2 0 = (7, 1) := rfl
  have hS : am_S l E (am_Fd ad v1 v2) am_Ts 14 (am_mt 0).1 [Value.ref b] (s.heap.size, 0, am_G0 ad gk gv b ys.length (fun j => ys.getD j 0)) (.inl (some (.int 1))) M2 :=
    (am_callee (aL := [Value.ref b]) (m2 := 0) htr hmeths hsnd rfl (by rw [hinf]; exact (by decide : 1 ≤ 7)) (by rw [hinf]; exact hrun)).1
  have n7 := am_n7
  simp only [Bool.and_eq_true, decide_eq_true_eq] at n7
  obtain ⟨⟨⟨⟨⟨y0, y1⟩, y2⟩, y3⟩, y4⟩, y5⟩ := n7
  have hzs : ∀ z ∈ am_zs ad v1 v2, am_Zx z.1 z.2.1 z.2.2.1 z.2.2.2 s.heap.size s s.heap := by
    intro z hz
    rcases List.mem_append.mp hz with h | h
    · obtain ⟨q, hq, rfl⟩ := List.mem_map.mp h
      have hq := List.mem_range.mp hq
      have hmem : am_zn.getD q ("", "", "") ∈ am_zn := by
        rw [List.getD_eq_getElem?_getD, List.getElem?_eq_getElem hq]
        exact List.getElem_mem _
      have := List.all_eq_true.mp y0 _ hmem
      simp only [Bool.and_eq_true, decide_eq_true_eq] at this
      exact am_Zof (hts _ this.1) (hts _ this.2) (hst q hq)
    · rcases List.mem_cons.mp h with rfl | h
      · exact am_Zof (hts _ y1) (hts _ y2) (va_eqt (hN _ z1))
      · rcases List.mem_cons.mp h with rfl | h
        · exact am_Zof (hts _ y3) (hts _ y5) hv1
        · rcases List.mem_cons.mp h with rfl | h
          · exact am_Zof (hts _ y4) (hts _ y5) hv2
          · rw [List.mem_singleton.mp h]
            have n10 := am_n10
            simp only [Bool.and_eq_true, decide_eq_true_eq] at n10
            exact am_Zof (hts _ n10.1) (hts _ n10.2) (by rw [hzv]; exact hv3)
  have n8 := am_n8
  simp only [Bool.and_eq_true, decide_eq_true_eq] at n8
  have happ2 : (headSpec am_Ts (am_rm 14 (M2.1 - s.heap.size) (M2.2.1 - 0))).appliesLoose (am_mt 0).1 e.platform s = true := by
    refine (Spec.appliesLoose_iff hf).mpr ⟨a1, a2, a3, a4, a5, a6, ?_, atoms_intro hTs⟩
    unfold State.hasRoom at a7 ⊢
    simp only [Bool.and_eq_true, decide_eq_true_eq] at a7 ⊢
    obtain ⟨⟨⟨⟨r1, r2, r3, r4, r5, r6⟩, r7⟩, r8⟩, r9⟩ := a7
    have e1 : (headSpec (Jvm.Cond.code x code maxLocals ret :: tables_1) room_1).room = room_1 := rfl
    have e2 : (headSpec am_Ts (am_rm 14 (M2.1 - s.heap.size) (M2.2.1 - 0))).room = am_rm 14 (M2.1 - s.heap.size) (M2.2.1 - 0) := rfl
    rw [e1] at r1 r2 r3 r4 r5 r7 r8
    rw [e2]
    have f1 : room_1.locals = 600 := rfl
    have f2 : room_1.frames = 14 := rfl
    have f3 : room_1.cells = 601024 := rfl
    have f4 : room_1.slots = 7293034 := rfl
    have g1 : (am_rm 14 (M2.1 - s.heap.size) (M2.2.1 - 0)).locals = 588 := rfl
    have g2 : (am_rm 14 (M2.1 - s.heap.size) (M2.2.1 - 0)).frames = 14 := rfl
    have g3 : (am_rm 14 (M2.1 - s.heap.size) (M2.2.1 - 0)).cells = M2.1 - s.heap.size := rfl
    have g4 : (am_rm 14 (M2.1 - s.heap.size) (M2.2.1 - 0)).slots = M2.2.1 - 0 := rfl
    rw [f1] at r1 r4 r5
    rw [f2] at r2 r3
    rw [f3] at r7
    rw [f4] at r8
    rw [g1, g2, g3, g4]
    exact ⟨⟨⟨⟨by omega, by omega, by omega, by omega, by omega, r6⟩, by omega⟩, by omega⟩, r9⟩
  obtain ⟨k, o, h1, h2, h3, ⟨h4, h5, h6⟩, LL, h7, h8, h9⟩ := hS p e ha hc hk s m #[Value.ref b] below hf happ2
    ⟨rfl, ⟨rfl, Nat.le_of_eq hE, fun a e' h => (am_GP_at hE hGS ((hiff a e').mp h)).2, by rw [hE]; exact hzs⟩, hK, fun z hz => by
      rw [List.mem_singleton.mp hz]
      exact vk_R.of (hts _ n8.2) (by rw [had15]; exact hst31)⟩ trivial
  refine ⟨k, o, h1, h2, h3, h4, ⟨_, h4⟩, h7, ?_⟩
  obtain ⟨u1, u2, u3, u4, u5, u6⟩ := h8
  refine ⟨u1, u2, Nat.le_trans u3 (by show _ + (M2.1 - s.heap.size) ≤ _; omega), u4, Nat.le_trans u5 (by show M2.2.1 - 0 ≤ _; omega), fun a c hac => ?_⟩
  obtain ⟨c', w1, w2, w3, w4⟩ := u6 a c hac
  refine ⟨c', w1, w2, w3, fun i _ => w4 i (fun hmem => ?_)⟩
  have h10 := h9 _ hmem
  rw [hE] at h10
  have h11 : a < s.heap.size := (Array.getElem?_eq_some_iff.mp hac).1
  exact absurd h10 (Nat.not_le.mpr h11)
theorem am_limb (hcl : am_claim) (L : Cond) (hL : ∀ (args : Array Value) (s t : State), L.after args s (.returned (some (.int 1))) t = true) :
    ArmFor flags0 classFile x code maxLocals ret World_1 tables_1 room_1 Calls_1 rest_1 Pre_1
      (fun tb e a s o t => postC L tb e a s o t ∧ Framed s o t (fieldLocs frame_1_writes a s ++ arrayLocs frame_1_arrays a s ++ staticLocs frame_1_statics s) 601024 7293034) := by
  intro l hfl _ _ p e ha hc hk s m args below hf hfit hheap happ hpre
  have htr : ∀ e, l.admits e → e.platform.stackTraces = false := by
    intro e he
    rw [he.platform]
    show l.stackTraces = false
    unfold Launch.stackTraces
    rw [hfl]
    decide +kernel
  obtain ⟨k, o, h1, h2, h3, rfl, hF⟩ := am_comes hcl l htr p e ha hc hk s m args below hf hfit hheap happ hpre
  exact ⟨k, _, h1, h2, h3, hL args s _, hF⟩
/-- THE STATEMENT, OUT OF THE CLAIM ABOUT THE SMALL MACHINE -/
theorem am_ivc (hcl : am_claim) : Claimed_1_1 ∧ Claimed_1_2 := ⟨am_limb hcl limb_1_1 (fun args s t => by simp [limb_1_1, Cond.after, Cond.holds, Cond.value]), am_limb hcl limb_1_2 (fun args s t => Cond.after_iff.mpr (by
  first | (rw [show limb_1_2 = Cond.eq .result (.int 1) from rfl, Cond.eq_ints (x := 1) (y := 1) rfl rfl]; simp; done) | (simp [limb_1_2, Cond.value, Term.eval]; done)))⟩
