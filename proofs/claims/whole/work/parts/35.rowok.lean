/-! WHAT THE CHECKS SAY -/
theorem am_cl_at {ci : Nat} (h : ci < 10) : ∃ r, am_cl[ci]? = some r ∧ r.2.1 = am_T0 ci ∧ am_cl.getD ci ("", am_T0 0, 0) = r ∧ am_cok am_Ts r ∧ am_nm ci = r.1 := by
  have hl : am_cl.length = 10 := rfl
  have h1 : am_cl[ci]? = some (am_cl[ci]'(by omega)) := List.getElem?_eq_getElem (by omega)
  have h2 : am_cl.getD ci ("", am_T0 0, 0) = am_cl[ci]'(by omega) := by rw [List.getD_eq_getElem?_getD, h1]; rfl
  refine ⟨_, h1, ?_, h2, am_cokb_ok (am_classes _ (List.getElem_mem _)), ?_⟩
  · have : ∀ i : Nat, i < 10 → (am_cl.getD i ("", am_T0 0, 0)).2.1 = am_T0 i := by
      intro i hi
      match i, hi with
      | 0, _ => rfl
      | 1, _ => rfl
      | 2, _ => rfl
      | 3, _ => rfl
      | 4, _ => rfl
      | 5, _ => rfl
      | 6, _ => rfl
      | 7, _ => rfl
      | 8, _ => rfl
      | 9, _ => rfl
      | n + 10, h => omega
    rw [← h2]; exact this ci h
  · unfold am_nm
    rw [if_pos (by omega), h2]
theorem am_pp0 {own : String} {idx ci k b : Nat} (h : am_ppb own 0 idx [ci, k, b] = true) : (ci < 20 ∧ ∃ r, am_cl[ci]? = some r ∧ am_cok am_Ts r ∧ k < r.2.2 ∧ (Cond.fieldLink own idx (r.2.1 k).1 (r.2.1 k).2.1 (r.2.1 k).2.2.1 ∈ am_Ts ∨ ∃ host, Cond.fieldLinkNest own idx (r.2.1 k).1 (r.2.1 k).2.1 (r.2.1 k).2.2.1 host ∈ am_Ts)) ∨ (100 ≤ ci ∧ Cond.fieldLink own idx (am_gT ci k).1 (am_gT ci k).2.1 (am_gT ci k).2.2 ∈ am_Ts) := by
  simp only [am_ppb, Bool.or_eq_true, Bool.and_eq_true, decide_eq_true_eq] at h
  rcases h with ⟨⟨h1, h2⟩, h3⟩ | ⟨h1, h2⟩
  · obtain ⟨r, q1, q2, q3, q4, -⟩ := am_cl_at h1
    rw [q3] at h2
    refine .inl ⟨by omega, r, q1, q4, h2, ?_⟩
    rw [q2]
    rcases h3 with h3 | h3
    · exact .inl (am_mem_ok h3)
    · exact .inr ⟨_, am_mem_ok h3⟩
  · exact .inr ⟨h1, am_mem_ok h2⟩
theorem am_pp1 {own : String} {idx ci k tk : Nat} (h : am_ppb own 1 idx [ci, k, tk] = true) : ci < 20 ∧ ∃ r, am_cl[ci]? = some r ∧ r.2.1 = am_T0 ci ∧ am_cok am_Ts r ∧ k < r.2.2 ∧ Cond.fieldLink own idx (r.2.1 k).1 (r.2.1 k).2.1 (r.2.1 k).2.2.1 ∈ am_Ts ∧ (∃ ty, parseFieldDescriptor (r.2.1 k).2.2.1 = some ty ∧ am_tyk tk ty) := by
  simp only [am_ppb, Bool.and_eq_true, decide_eq_true_eq] at h
  obtain ⟨⟨⟨h1, h2⟩, h3⟩, h4⟩ := h
  obtain ⟨r, q1, q2, q3, q4, -⟩ := am_cl_at h1
  rw [q3] at h2
  refine ⟨by omega, r, q1, q2, q4, h2, ?_, ?_⟩
  · rw [q2]; exact am_mem_ok h3
  · rw [q2]; exact am_tykb_ok h4
theorem am_zs_at (ad : Nat → Nat) (v1 v2 : Value) {q : Nat} (h : q < am_zn.length) : ((am_zn.getD q ("", "", "")).1, (am_zn.getD q ("", "", "")).2.1, (am_zn.getD q ("", "", "")).2.2, Value.ref (ad q)) ∈ am_zs ad v1 v2 :=
  List.mem_append_left _ (List.mem_map.mpr ⟨q, List.mem_range.mpr h, rfl⟩)
theorem am_pp2 {own : String} {idx q : Nat} {ad : Nat → Nat} {v1 v2 : Value} (h : am_ppb own 2 idx [q] = true) : ∃ z ∈ am_zs ad v1 v2, z.2.2.2 = .ref (ad q) ∧ (Cond.fieldLink own idx z.1 z.2.1 z.2.2.1 ∈ am_Ts ∨ ∃ host, Cond.fieldLinkNest own idx z.1 z.2.1 z.2.2.1 host ∈ am_Ts) := by
  simp only [am_ppb, Bool.and_eq_true, decide_eq_true_eq] at h
  exact ⟨_, am_zs_at ad v1 v2 h.1, rfl, .inl (am_mem_ok h.2)⟩
theorem am_pp2' {own : String} {idx n b : Nat} {ad : Nat → Nat} {v1 v2 : Value} (h : am_ppb own 2 idx [n, b] = true) : ∃ z ∈ am_zs ad v1 v2, z.2.2.2 = .int (nI n) ∧ (Cond.fieldLink own idx z.1 z.2.1 z.2.2.1 ∈ am_Ts ∨ ∃ host, Cond.fieldLinkNest own idx z.1 z.2.1 z.2.2.1 host ∈ am_Ts) := by
  simp only [am_ppb, Bool.and_eq_true, decide_eq_true_eq] at h
  obtain ⟨rfl, h2⟩ := h
  exact ⟨("java/lang/String", "COMPACT_STRINGS", "Z", .int (nI 1)), List.mem_append_right _ List.mem_cons_self, rfl, .inl (am_mem_ok h2)⟩
theorem am_pp2z {own : String} {idx q b c : Nat} {ad : Nat → Nat} {v1 v2 : Value} (h : am_ppb own 2 idx [q, b, c] = true) : ∃ z ∈ am_zs ad v1 v2, z.2.2.2 = am_zv ad q ∧ (Cond.fieldLink own idx z.1 z.2.1 z.2.2.1 ∈ am_Ts ∨ ∃ host, Cond.fieldLinkNest own idx z.1 z.2.1 z.2.2.1 host ∈ am_Ts) := by
  simp only [am_ppb, Bool.and_eq_true, decide_eq_true_eq] at h
  obtain ⟨rfl, h2⟩ := h
  exact ⟨("jdk/internal/util/Preconditions", "SIOOBE_FORMATTER", "Ljava/util/function/BiFunction;", am_zv ad 16), List.mem_append_right _ (List.mem_cons_of_mem _ (List.mem_cons_of_mem _ (List.mem_cons_of_mem _ List.mem_cons_self))), rfl, .inl (am_mem_ok h2)⟩
theorem am_par_ok {y : MethodName} {n : Nat} (h : (parseMethodDescriptor y.desc).map (fun s => s.parameters.length) = some n) : am_par y n := by
  intro sig hs
  rw [hs] at h
  exact (Option.some.inj h).symm
theorem am_cn_ok {ci : Nat} {ad : Nat → Nat} {v1 v2 : Value} (h : ci < 10 ∨ 100 ≤ ci) : am_cn (am_Fd ad v1 v2) ci (am_nm ci) := by
  rcases h with h | h
  · obtain ⟨r, q1, -, -, -, q5⟩ := am_cl_at h
    exact .inl ⟨by omega, r, q1, q5.symm⟩
  · refine .inr ⟨h, ?_⟩
    show am_gC ci = _
    unfold am_nm
    rw [if_neg (by omega)]
def am_pok : Prop := ∀ oc, am_ppt oc 0 = true
theorem am_pok.use (h : am_pok) {oc kind idx : Nat} {tg : List Nat} {own : String} (ho : am_ocn.getD oc "" = own) (hi : am_inp oc kind idx tg = true) : am_ppb own kind idx tg = true := by
  have h1 := h oc
  unfold am_ppt at h1
  rw [List.drop_zero] at h1
  have h2 := List.all_eq_true.mp h1 _ (of_decide_eq_true hi)
  rw [ho] at h2
  exact h2
theorem am_arrs : ∀ t, t < 4 → Cond.arrayClass (newarray.typeOf (am_aty t)) ∈ am_Ts := by
  have h : (List.range 4).all (fun t => am_mem (.arrayClass (newarray.typeOf (am_aty t)))) = true := by decide +kernel
  intro t ht
  exact am_mem_ok (List.all_eq_true.mp h t (List.mem_range.mpr ht))
theorem am_okb_ok (hp : am_pok) {ad : Nat → Nat} {v1 v2 : Value} {own nm : String} {oc : Nat} {i : Instr} {len pc : Nat} {tg : List Nat} (ho : am_ocn.getD oc "" = own) (h : am_okb own (decide (nm = "<init>")) oc i len pc tg = true) : am_ok am_Ts (am_Fd ad v1 v2) (am_pr ad) own (nm = "<init>") i len pc tg := by
  have hj : ∀ off : Int, decide (len = 3) = true ∧ am_jmp pc off tg = true → len = 3 ∧ ∀ t, tg = [t] → (pc : Int) + off = (t : Int) := by
    intro off ⟨a1, a2⟩
    refine ⟨of_decide_eq_true a1, fun t ht => ?_⟩
    subst ht
    exact of_decide_eq_true a2
  unfold am_okb at h
  unfold am_ok
  split at h <;> (try simp only [Bool.and_eq_true] at h)
  · exact ⟨of_decide_eq_true h.1, of_decide_eq_true h.2⟩
  · exact ⟨of_decide_eq_true h.1, of_decide_eq_true h.2⟩
  · exact ⟨of_decide_eq_true h.1, of_decide_eq_true h.2⟩
  · refine ⟨of_decide_eq_true h.1, fun k hk => ?_⟩
    subst hk
    exact of_decide_eq_true h.2
  · have h2 := hp.use ho h.2
    refine ⟨of_decide_eq_true h.1, fun n hn => ?_, fun q a b hq => ?_⟩
    · subst hn
      exact am_mem_ok h2
    · subst hq
      simp only [am_ppb, Bool.and_eq_true, decide_eq_true_eq] at h2
      obtain ⟨⟨rfl, rfl⟩, rfl⟩ := h2
      exact ⟨"-", List.mem_cons_self⟩
  · have h2 := hp.use ho h.2
    refine ⟨of_decide_eq_true h.1, fun n hn => ?_⟩
    subst hn
    exact am_mem_ok h2
  · exact of_decide_eq_true h
  · exact of_decide_eq_true h
  · exact of_decide_eq_true h
  · exact of_decide_eq_true h
  · exact ⟨of_decide_eq_true h.1, of_decide_eq_true h.2⟩
  · exact hj _ h
  · exact hj _ h
  · exact hj _ h
  · exact hj _ h
  · exact hj _ h
  · intro t ts ht
    subst ht
    simp only [Bool.and_eq_true] at h
    refine ⟨of_decide_eq_true h.1, fun k u hu => ?_⟩
    have hk : k < ts.length := (List.getElem?_eq_some_iff.mp hu).1
    have := List.all_eq_true.mp h.2 k (List.mem_range.mpr hk)
    simp only [hu] at this
    split at this
    · rename_i u' off hu' ho'
      cases Option.some.inj hu'
      exact ⟨off, ho', of_decide_eq_true this⟩
    · cases this
  · intro t ts ht
    subst ht
    simp only [Bool.and_eq_true] at h
    exact ⟨h.1, fun x => am_lks_ok h.2 x.toInt⟩
  · refine ⟨of_decide_eq_true h.1, fun ci k b ht => ?_⟩
    subst ht
    exact am_pp0 (hp.use ho h.2)
  · refine ⟨of_decide_eq_true h.1.1, fun ci k tk ht => ?_⟩
    subst ht
    obtain ⟨q1, r, q2, q3, q4, q5, q6, q7⟩ := am_pp1 (hp.use ho h.1.2)
    refine ⟨q1, r, q2, q4, q5, q6, q7, ?_⟩
    have h3 := h.2
    simp only [Bool.or_eq_true, Bool.and_eq_true, decide_eq_true_eq, Bool.not_eq_true'] at h3
    rw [q3]
    exact h3
  · have h2 := hp.use ho h.2
    refine ⟨of_decide_eq_true h.1, fun q hq => ?_, fun n b hn => ?_, fun q b c hn => ?_⟩
    · subst hq
      exact am_pp2 h2
    · subst hn
      exact am_pp2' h2
    · subst hn
      exact am_pp2z h2
  · refine ⟨of_decide_eq_true h.1, fun t ht => ?_⟩
    subst ht
    have h3 := h.2
    simp only [Bool.and_eq_true, decide_eq_true_eq] at h3
    exact ⟨h3.1, h3.2, am_arrs t h3.1⟩
  · have h2 := hp.use ho h.2
    refine ⟨of_decide_eq_true h.1, fun t ht => ?_⟩
    subst ht
    simp only [am_ppb, Bool.and_eq_true, decide_eq_true_eq] at h2
    exact ⟨h2.1.1, am_mem_ok h2.1.2, am_mem_ok h2.2⟩
  · have h2 := hp.use ho h.1.2
    have h3 : tg.length = 2 := of_decide_eq_true h.2
    match tg, h3, h2 with
    | [a, b], _, h2 =>
      simp only [am_ppb, Bool.and_eq_true] at h2
      exact ⟨of_decide_eq_true h.1.1.1, of_decide_eq_true h.1.1.2, am_mem_ok h2.1.1, am_mem_ok h2.1.2, am_mem_ok h2.2⟩
  · split
    all_goals first | exact of_decide_eq_true h | exact ⟨of_decide_eq_true h, _, rfl, rfl⟩ | (exfalso; simp_all; done) | (exfalso; simp_all; rename_i x; exact x _ _ _ _ rfl rfl rfl rfl)
theorem am_hkb_ok {ad : Nat → Nat} {v1 v2 : Value} {own : String} {pc : Nat} {hh : List (Nat × Nat × Nat × Nat)} : ∀ {hs : List Nat}, am_hkb own pc hh hs = true → am_hok am_Ts (am_Fd ad v1 v2) own pc hh hs
  | a :: b :: t, h => by
    simp only [am_hkb, Bool.and_eq_true, decide_eq_true_eq] at h
    obtain ⟨⟨⟨h1, h2⟩, h3⟩, h4⟩ := h
    intro c hp hc
    unfold am_hd at hc
    split at hc
    · rename_i hac
      subst hac
      cases Option.some.inj hc
      refine ⟨h1, h2, ?_⟩
      obtain ⟨k, hk, h3⟩ := List.any_eq_true.mp h3
      split at h3
      · rename_i g hg
        simp only [Bool.and_eq_true, decide_eq_true_eq] at h3
        obtain ⟨⟨⟨⟨⟨⟨k1, k2⟩, k3⟩, k4⟩, k5⟩, k6⟩, k7⟩ := h3
        have hkl := (List.getElem?_eq_some_iff.mp hg).1
        have hge := (List.getElem?_eq_some_iff.mp hg).2
        refine ⟨hh.take k, g, hh.drop (k + 1), ?_, k1, k2, k3, k4, am_mem_ok k5, am_mem_ok k6, fun g2 hg2 => ?_⟩
        · rw [← hge, List.getElem_cons_drop, List.take_append_drop]
        · have := List.all_eq_true.mp k7 g2 hg2
          simp only [Bool.and_eq_true, decide_eq_true_eq] at this
          refine ⟨this.1, ?_⟩
          obtain ⟨i, hi, h5⟩ := List.any_eq_true.mp this.2
          simp only [Bool.and_eq_true, decide_eq_true_eq] at h5
          exact ⟨_, am_mem_ok h5.1, List.mem_append_right _ h5.2⟩
      · cases h3
    · exact am_hkb_ok h4 c hp hc
  | [], h => by intro c hp hc; simp [am_hd] at hc
  | [a], h => by intro c hp hc; simp [am_hd] at hc
def am_cok2 : Prop := ∀ q ∈ am_cts, am_ctb "TextTools" q.1 q.2 = true
theorem am_icb_ok (hp : am_pok) (hc : am_cok2) {ad : Nat → Nat} {v1 v2 : Value} (hv1 : v1.isRef = true) (hv2 : v2.isRef = true) {own : String} {oc : Nat} {cc : ByteArray} {hh : List (Nat × Nat × Nat × Nat)} {i : Instr} {pc : Nat} {tg : List Nat} (ho : am_ocn.getD oc "" = own) (h : am_icb own oc cc hh i pc tg = true) : am_okI am_Ts (am_Fd ad v1 v2) am_mt own pc hh cc i tg ∧ am_okN am_Ts (am_Fd ad v1 v2) (am_pr ad) own i tg := by
  unfold am_icb at h
  split at h
  · refine ⟨?_, trivial⟩
    intro m2 na rk ci hs ht
    subst ht
    simp only [Bool.and_eq_true] at h
    have h1 := hp.use ho h.1
    simp only [am_ppb, Bool.and_eq_true, Bool.or_eq_true, decide_eq_true_eq] at h1
    obtain ⟨⟨⟨⟨⟨⟨⟨a1, a2⟩, a3⟩, a4⟩, a5⟩, a6⟩, a7⟩, a8⟩ := h1
    refine ⟨a1, am_par_ok a2, ⟨a6, a7⟩, am_mem_ok a3, am_mem_ok a4, am_hkb_ok h.2, am_nm ci, am_cn_ok a5, ?_⟩
    rcases a8 with a8 | a8
    · exact .inl ⟨am_mem_ok a8.1, am_mem_ok a8.2⟩
    · exact .inr ⟨am_mem_ok a8.1.1, am_mem_ok a8.1.2, am_mem_ok a8.2⟩
  · refine ⟨⟨fun ht => ?_, fun m2 na rk ht => ?_⟩, trivial⟩
    · subst ht
      have h1 := hp.use ho h
      simp only [am_ppb, Bool.and_eq_true] at h1
      exact ⟨am_mem_ok h1.1.1.1, am_mem_ok h1.1.1.2, am_mem_ok h1.1.2, am_mem_ok h1.2⟩
    · subst ht
      have h1 := hp.use ho h
      simp only [am_ppb, Bool.and_eq_true, decide_eq_true_eq] at h1
      obtain ⟨⟨⟨⟨⟨a1, a2⟩, a3⟩, a4⟩, a5⟩, a6⟩ := h1
      exact ⟨am_par_ok a1, ⟨a5, a6⟩, am_mem_ok a2, am_mem_ok a3, am_mem_ok a4⟩
  · refine ⟨⟨fun ht => ?_, fun m2 na ht => ?_⟩, trivial⟩
    · subst ht
      have h1 := hp.use ho h
      simp only [am_ppb, Bool.and_eq_true] at h1
      exact ⟨am_mem_ok h1.1.1, am_mem_ok h1.1.2, am_mem_ok h1.2⟩
    · subst ht
      have h1 := hp.use ho h
      simp only [am_ppb, Bool.and_eq_true, Bool.or_eq_true, decide_eq_true_eq] at h1
      obtain ⟨⟨⟨⟨⟨⟨⟨⟨⟨a1, a2⟩, a3⟩, a4⟩, a5⟩, a6⟩, a7⟩, a8⟩, a9⟩, a10⟩ := h1
      refine ⟨a1, am_par_ok a2, ⟨a9, a10⟩, a5, a6, a7, am_mem_ok a3, am_mem_ok a4, ?_⟩
      rcases a8 with a8 | a8
      · exact .inl (am_mem_ok a8)
      · exact .inr ⟨_, am_mem_ok a8⟩
  · refine ⟨fun ci a b ht => ?_, fun ci k ht => ?_⟩
    · subst ht
      simp only [Bool.and_eq_true, decide_eq_true_eq] at h
      obtain ⟨⟨⟨⟨⟨b1, b2⟩, b3⟩, b4⟩, b5⟩, b6⟩ := h
      have h1 := hp.use ho b1
      simp only [am_ppb, Bool.and_eq_true, decide_eq_true_eq] at h1
      obtain ⟨⟨⟨⟨⟨a1, a2⟩, a3⟩, a4⟩, a5⟩, a6⟩ := h1
      obtain ⟨q, hq, b6⟩ := List.any_eq_true.mp b6
      simp only [Bool.and_eq_true, decide_eq_true_eq] at b6
      have how : own = "TextTools" := by rw [← ho, b2]; rfl
      refine ⟨a1, by omega, b3, am_mem_ok a3, am_mem_ok a4, am_mem_ok a5, a6, b4, b5, q.1, am_chain, b6.2, by decide, by decide +kernel, fun w hw => ?_⟩
      have h2 := hc q hq
      rw [b6.1] at h2
      rw [how] at hw
      have h3 := List.all_eq_true.mp h2 w hw
      rw [Bool.or_eq_true] at h3
      rcases h3 with h3 | h3
      · exact .inl (am_mem_ok h3)
      · refine .inr ?_
        unfold am_zsb at h3
        simp only [Bool.or_eq_true, decide_eq_true_eq] at h3
        rcases h3 with ((h3 | h3) | h3) | h3
        · exact ⟨(Bundle.tN, "UNASSIGNED_STACK", Bundle.steD, v1), List.mem_append_right _ (List.mem_cons_of_mem _ List.mem_cons_self), .inl ⟨h3, hv1⟩⟩
        · exact ⟨(Bundle.tN, "SUPPRESSED_SENTINEL", Bundle.listD, v2), List.mem_append_right _ (List.mem_cons_of_mem _ (List.mem_cons_of_mem _ List.mem_cons_self)), .inl ⟨h3, hv2⟩⟩
        · exact ⟨(Bundle.tN, "UNASSIGNED_STACK", Bundle.steD, v1), List.mem_append_right _ (List.mem_cons_of_mem _ List.mem_cons_self), .inr h3⟩
        · exact ⟨(Bundle.tN, "SUPPRESSED_SENTINEL", Bundle.listD, v2), List.mem_append_right _ (List.mem_cons_of_mem _ (List.mem_cons_of_mem _ List.mem_cons_self)), .inr h3⟩
    · subst ht
      have h1 := hp.use ho h
      simp only [am_ppb, Bool.and_eq_true, decide_eq_true_eq] at h1
      obtain ⟨⟨⟨⟨⟨⟨a1, a2⟩, a3⟩, a4⟩, a5⟩, a6⟩, a7⟩ := h1
      obtain ⟨r, q1, q2, q3, q4, q5⟩ := am_cl_at a1
      rw [q3] at a2 a4 a6 a7
      rw [q5] at a3 a4 a5
      refine ⟨by omega, r, q1, q4, a2, am_mem_ok a3, am_mem_ok a4, am_mem_ok a5, a6, fun j ty hj hty => ?_⟩
      have := List.all_eq_true.mp a7 j (List.mem_range.mpr hj)
      simp only [decide_eq_true_eq] at this
      rw [q2] at hty
      rw [hty] at this
      exact this.symm
  · rename_i n1 n2 n3 n4
    constructor
    · unfold am_okI
      split <;> first | trivial | (exfalso; simp_all; done)
    · unfold am_okN
      split <;> first | trivial | (exfalso; simp_all; done)
def am_rok : Prop := ∀ mi, (am_code mi).all (am_rowm mi) = true
def am_mok : Prop := ∀ mi, mi < 264 → am_metb mi = true
theorem am_code_ge {mi : Nat} (h : 264 ≤ mi) : am_code mi = [] := by
  unfold am_code
  rw [List.getD_eq_getElem?_getD, List.getElem?_eq_none (by rw [show am_codes.length = 264 by decide +kernel]; exact h)]
  rfl
theorem am_find_mem : ∀ {l : List (Nat × am_T)} {pc : Nat} {r : am_T}, am_find l pc = some r → (pc, r) ∈ l
  | [], pc, r, h => by simp [am_find] at h
  | (k, x) :: t, pc, r, h => by
    unfold am_find at h
    cases hk : k.beq pc with
    | true =>
      rw [hk] at h
      have hk := Nat.eq_of_beq_eq_true hk
      subst hk
      cases Option.some.inj h
      exact List.mem_cons_self
    | false =>
      rw [hk] at h
      exact List.mem_cons_of_mem _ (am_find_mem h)
theorem am_metb_ok (hm : am_mok) {ad : Nat → Nat} {mi pc : Nat} {row : am_T} (h : (am_pr ad).1 mi pc = some row) : am_ocn.getD (am_oc.getD mi 0) "" = (am_mt mi).1.cls ∧ plainFor (am_mt mi).1 = true ∧ am_cw (am_mt mi).1 (am_mt mi).2.1 (am_mt mi).2.2.1 (am_mt mi).2.2.2.1 (am_mt mi).2.2.2.2 ∈ am_Ts ∧ ((am_pr ad).2.2.2 mi).1 = (am_mt mi).2.2.1 ∧ (am_mt mi).2.2.1 ≤ 23 ∧ am_rk ((am_pr ad).2.2.2 mi).2 (am_mt mi).2.2.2.1 := by
  have hlt : mi < 264 := by
    rcases Nat.lt_or_ge mi 264 with q | q
    · exact q
    · have h' : am_find (am_code mi) pc = some row := h
      rw [am_code_ge q] at h'
      simp [am_find] at h'
  have h1 := hm mi hlt
  simp only [am_metb, Bool.and_eq_true, decide_eq_true_eq] at h1
  obtain ⟨⟨⟨⟨⟨a1, a2⟩, a3⟩, a4⟩, a5⟩, a6⟩ := h1
  refine ⟨a1, a2, am_mem_ok a3, a4, a5, ?_⟩
  show am_rk (am_inf.getD mi (0, 0)).2 _
  unfold am_rkb at a6
  unfold am_rk
  split at a6
  · exact .inl ⟨by assumption, by assumption⟩
  · rename_i g1 g2
    rw [g1, g2]; exact .inr (.inl ⟨by decide, _, rfl, .inl ⟨rfl, rfl⟩⟩)
  · rename_i g1 g2
    rw [g1, g2]; exact .inr (.inl ⟨by decide, _, rfl, .inr (.inl ⟨rfl, rfl⟩)⟩)
  · rename_i g1 g2
    rw [g1, g2]; exact .inr (.inr (.inl ⟨.inl rfl, _, rfl, .inr (.inr (.inr (.inr (.inr (.inl ⟨rfl, rfl⟩)))))⟩))
  · rename_i g1 g2
    rw [g1, g2]; exact .inr (.inr (.inl ⟨.inr rfl, _, rfl, .inr (.inr (.inr (.inr (.inr (.inr ⟨rfl, rfl⟩)))))⟩))
  · rename_i g1 g2
    rw [g1, g2]; exact .inr (.inr (.inr (.inl ⟨rfl, _, rfl⟩)))
  · rename_i g1 g2
    rw [g1, g2]; exact .inr (.inr (.inr (.inr ⟨rfl, _, rfl⟩)))
  · cases a6
theorem am_meths_of (hm : am_mok) (ad : Nat → Nat) : am_meths am_Ts (am_pr ad) am_mt := by
  intro mi pc row h
  obtain ⟨-, a2, a3, a4, a5, a6⟩ := am_metb_ok hm h
  exact ⟨a2, a3, a4, a5, a6⟩
theorem am_prog_of (hp : am_pok) (hc : am_cok2) (hr : am_rok) (hm : am_mok) (ad : Nat → Nat) {v1 v2 : Value} (hv1 : v1.isRef = true) (hv2 : v2.isRef = true) : am_prog am_Ts (am_Fd ad v1 v2) (am_pr ad) am_mt := by
  intro mi pc i len tg h
  obtain ⟨ho, -⟩ := am_metb_ok hm h
  have h1 := List.all_eq_true.mp (hr mi) _ (am_find_mem (show am_find (am_code mi) pc = _ from h))
  simp only [am_rowm, am_rowb, Bool.and_eq_true] at h1
  obtain ⟨⟨a1, a2⟩, a3⟩ := h1
  obtain ⟨b1, b2⟩ := am_icb_ok hp hc (ad := ad) hv1 hv2 ho a3
  refine ⟨of_decide_eq_true a1, fun hi => ?_, fun hi => ?_, b1, b2⟩
  · rw [if_neg (by rw [hi]; decide)] at a2
    exact am_okb_ok hp ho a2
  · rw [if_pos hi] at a2
    unfold am_lnb at a2
    split at a2
    · rw [if_pos (.inl rfl)]; exact of_decide_eq_true a2
    · rw [if_pos (.inr (.inl rfl))]; exact of_decide_eq_true a2
    · rw [if_pos (.inr (.inr rfl))]; exact of_decide_eq_true a2
    · rename_i n1 n2 n3
      rw [if_neg]
      · exact of_decide_eq_true a2
      · rintro (q | q | q)
        · exact n1 q
        · exact n2 q
        · exact n3 q
