/-! CHECKS, AS PROGRAMS -/
def am_mem (w : Cond) : Bool := (decide (w ∈ lw_tbl) && am_stab w) || decide (w ∈ am_nots)
theorem am_mem_ok {w : Cond} (h : am_mem w = true) : w ∈ am_Ts := by
  unfold am_mem at h
  rw [Bool.or_eq_true, Bool.and_eq_true] at h
  rcases h with h | h
  · exact am_in (by simpa using h.1) h.2
  · exact am_in2 (by simpa using h)
/-- a class of the world -/
def am_cokb (r : vw_C) : Bool := (u_ws r.1 r.2.1 r.2.2).all am_mem && (List.range r.2.2).all (fun k => (parseFieldDescriptor (r.2.1 k).2.2.1).isSome) && (List.range r.2.2).all (fun a => (List.range r.2.2).all (fun b => decide (a = b) || decide ((r.2.1 a).2.1 ≠ (r.2.1 b).2.1)))
theorem am_cokb_ok {r : vw_C} (h : am_cokb r = true) : am_cok am_Ts r := by
  unfold am_cokb at h
  rw [Bool.and_eq_true, Bool.and_eq_true] at h
  obtain ⟨⟨h1, h2⟩, h3⟩ := h
  refine ⟨fun w hw => am_mem_ok (List.all_eq_true.mp h1 w hw), ⟨fun k => (parseFieldDescriptor (r.2.1 k).2.2.1).getD .int, fun k hk => ?_⟩, fun a ha b hb hab => ?_⟩
  · have := List.all_eq_true.mp h2 k (List.mem_range.mpr hk)
    obtain ⟨x, hx⟩ := Option.isSome_iff_exists.mp this
    show _ = some ((parseFieldDescriptor _).getD .int)
    rw [hx]; rfl
  · have := List.all_eq_true.mp (List.all_eq_true.mp h3 a (List.mem_range.mpr ha)) b (List.mem_range.mpr hb)
    simpa [hab] using this
theorem am_classes : ∀ r ∈ am_cl, am_cokb r = true := by decide +kernel
def am_tykb (k : Nat) (ty : Option FieldType) : Bool := match k, ty with
  | 0, some .int => true
  | 1, some .boolean => true
  | 2, some (.object _) => true
  | 3, some (.array _) => true
  | 4, some .long => true
  | 5, some .byte => true
  | 6, some .char => true
  | _, _ => false
theorem am_tykb_ok {k : Nat} {o : Option FieldType} (h : am_tykb k o = true) : ∃ ty, o = some ty ∧ am_tyk k ty := by
  unfold am_tykb at h
  split at h
  · exact ⟨_, rfl, .inl ⟨rfl, rfl⟩⟩
  · exact ⟨_, rfl, .inr (.inl ⟨rfl, rfl⟩)⟩
  · exact ⟨_, rfl, .inr (.inr (.inl ⟨rfl, _, rfl⟩))⟩
  · exact ⟨_, rfl, .inr (.inr (.inr (.inl ⟨rfl, _, rfl⟩)))⟩
  · exact ⟨_, rfl, .inr (.inr (.inr (.inr (.inl ⟨rfl, rfl⟩))))⟩
  · exact ⟨_, rfl, .inr (.inr (.inr (.inr (.inr (.inl ⟨rfl, rfl⟩)))))⟩
  · exact ⟨_, rfl, .inr (.inr (.inr (.inr (.inr (.inr ⟨rfl, rfl⟩)))))⟩
  · cases h
def am_nm (ci : Nat) : String := if ci < 20 then (am_cl.getD ci ("", am_T0 0, 0)).1 else am_gC ci
/-- an entry of a class's pool -/
def am_ppb (own : String) (kind idx : Nat) (tg : List Nat) : Bool := match kind, tg with
  | 0, [ci, k, _] => (decide (ci < 10) && decide (k < (am_cl.getD ci ("", am_T0 0, 0)).2.2) && (am_mem (.fieldLink own idx (am_T0 ci k).1 (am_T0 ci k).2.1 (am_T0 ci k).2.2.1) || am_mem (.fieldLinkNest own idx (am_T0 ci k).1 (am_T0 ci k).2.1 (am_T0 ci k).2.2.1 "TextTools"))) || (decide (100 ≤ ci) && am_mem (.fieldLink own idx (am_gT ci k).1 (am_gT ci k).2.1 (am_gT ci k).2.2))
  | 1, [ci, k, tk] => decide (ci < 10) && decide (k < (am_cl.getD ci ("", am_T0 0, 0)).2.2) && am_mem (.fieldLink own idx (am_T0 ci k).1 (am_T0 ci k).2.1 (am_T0 ci k).2.2.1) && am_tykb tk (parseFieldDescriptor (am_T0 ci k).2.2.1)
  | 2, [q] => decide (q < am_zn.length) && am_mem (.fieldLink own idx (am_zn.getD q ("", "", "")).1 (am_zn.getD q ("", "", "")).2.1 (am_zn.getD q ("", "", "")).2.2)
  | 2, [n, _] => decide (n = 1) && am_mem (.fieldLink own idx "java/lang/String" "COMPACT_STRINGS" "Z")
  | 2, [q, _, _] => decide (q = 16) && am_mem (.fieldLink own idx "jdk/internal/util/Preconditions" "SIOOBE_FORMATTER" "Ljava/util/function/BiFunction;")
  | 3, m2 :: na :: _ :: ci :: _ => decide (1 ≤ na) && decide ((parseMethodDescriptor (am_mt m2).1.desc).map (fun s => s.parameters.length) = some (na - 1)) && am_mem (.initialized (am_mt m2).1.cls) && am_mem (.instanceMethod (am_mt m2).1) && (decide (ci < 10) || decide (100 ≤ ci)) && decide ((am_mt m2).1.cls ≠ "java/lang/invoke/MethodHandle") && decide ((am_mt m2).1.cls ≠ "java/lang/invoke/VarHandle") &&
      ((am_mem (.methodLink own idx (am_mt m2).1) && am_mem (.selects (am_nm ci) (am_mt m2).1 (am_mt m2).1)) || (am_mem (.methodLink own idx ⟨am_nm ci, (am_mt m2).1.name, (am_mt m2).1.desc⟩) && am_mem (.sameMethod (am_nm ci) (am_mt m2).1.cls (am_mt m2).1.name (am_mt m2).1.desc) && am_mem (.selects (am_nm ci) ⟨am_nm ci, (am_mt m2).1.name, (am_mt m2).1.desc⟩ (am_mt m2).1)))
  | 4, [] => am_mem (.methodLink own idx arraycopyName) && am_mem (.native arraycopyName) && am_mem (.static arraycopyName) && am_mem (.initialized "java/lang/System")
  | 4, [m2, na, _] => decide ((parseMethodDescriptor (am_mt m2).1.desc).map (fun s => s.parameters.length) = some na) && am_mem (.initialized (am_mt m2).1.cls) && am_mem (.static (am_mt m2).1) && am_mem (.methodLink own idx (am_mt m2).1) && decide ((am_mt m2).1.cls ≠ "java/lang/invoke/MethodHandle") && decide ((am_mt m2).1.cls ≠ "java/lang/invoke/VarHandle")
  | 5, [] => am_mem (.methodLink own idx objectInit) && am_mem (.instanceMethod objectInit) && am_mem (.code objectInit ⟨#[0xb1]⟩ 1 none)
  | 5, [m2, na] => decide (1 ≤ na) && decide ((parseMethodDescriptor (am_mt m2).1.desc).map (fun s => s.parameters.length) = some (na - 1)) && am_mem (.initialized (am_mt m2).1.cls) && am_mem (.instanceMethod (am_mt m2).1) && decide ((am_mt m2).1.name = "<init>") && decide ((am_mt m2).2.2.2.1 = none) && decide ((am_mt m2).2.2.2.2 = []) && (am_mem (.methodLink own idx (am_mt m2).1) || am_mem (.methodLinkNest own idx (am_mt m2).1 "TextTools")) && decide ((am_mt m2).1.cls ≠ "java/lang/invoke/MethodHandle") && decide ((am_mt m2).1.cls ≠ "java/lang/invoke/VarHandle")
  | 6, [ci, k] => decide (ci < 10) && decide (k = (am_cl.getD ci ("", am_T0 0, 0)).2.2) && am_mem (.classLink own idx (am_nm ci)) && am_mem (.instantiable (am_nm ci) (am_cl.getD ci ("", am_T0 0, 0)).2.2) && am_mem (.initialized (am_nm ci)) && decide ((am_dv.getD ci []).length = (am_cl.getD ci ("", am_T0 0, 0)).2.2) && (List.range (am_cl.getD ci ("", am_T0 0, 0)).2.2).all (fun j => decide ((parseFieldDescriptor (am_T0 ci j).2.2.1).map defaultValue = (am_dv.getD ci [])[j]?))
  | 6, [ci, _, _] => decide (20 ≤ ci) && decide (ci < 23) && am_mem (.classLink own idx (am_xc (ci - 20))) && am_mem (.instantiable (am_xc (ci - 20)) 6) && am_mem (.initialized (am_xc (ci - 20))) && Bundle.fit (am_xc (ci - 20))
  | 7, [n] => am_mem (.constant own idx (nI n))
  | 7, [q, _, _] => decide (own = "TextTools$Parser") && decide (idx = 112) && decide (q = 15)
  | 8, [n] => am_mem (.constantLong own idx (lN n))
  | 9, [t] => decide (t = 4) && am_mem (.classLink own idx "TextTools$Lines") && am_mem (.arrayOver (.object "TextTools$Lines"))
  | 10, [_, _] => am_mem (.classLink own idx "[[I") && am_mem (.arrayOver (.array .int)) && am_mem (.arrayClass .int)
  | _, _ => true
def am_ppl (oc : Nat) : Bool := (am_pls.getD oc []).all (fun q => am_ppb (am_ocn.getD oc "") q.1 q.2.1 q.2.2)
def am_ppc (oc a b : Nat) : Bool := (((am_pls.getD oc []).drop a).take b).all (fun q => am_ppb (am_ocn.getD oc "") q.1 q.2.1 q.2.2)
