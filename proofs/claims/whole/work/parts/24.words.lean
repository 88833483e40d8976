/-! THE WORDS, AND THAT THEY STAY TRUE -/
theorem am_over {t : FieldType} {a a' : Array Value} {s U : State} (hW : s.WarmedH U.vm) (h : (Cond.arrayOver (.array t)).before a s = true) : (Cond.arrayOver (.array t)).before a' U = true := by
  obtain ⟨comp, c, k, h1, h2, h3, h4, h5⟩ := arrayOverA_spec h
  have hvm := hW.alike
  obtain ⟨k', hk', he⟩ := hvm.2.2 _ _ h3
  have hi : (U.vm.classes.findIdx? fun (x : Class) => match x.kind with | .array component _ => component == comp | _ => false) = some c := by
    have hbq : U.vm.bare = s.vm.bare := by first | exact hvm.bare_eq | exact hvm.bare_eq.symm
    refine (va_idx_bare U.vm comp).symm.trans ?_
    rw [hbq]
    exact (va_idx_bare s.vm comp).trans h2
  have hkind : k'.kind = .array comp (.array t) := by rw [he]; exact h4
  have f1 : U.vm.findClass (FieldType.array t).toString = some comp := by rw [hvm.findClass]; exact h1
  have f2 : U.vm.findClass ("[" ++ (FieldType.array t).toString) = some c := by rw [hvm.findClass]; exact h5
  unfold Cond.before Cond.holds
  simp only [Cond.value, f1, Option.bind_some]
  refine (congrArg (fun o : Option Nat => (o.bind (fun c => (U.vm.classes[c]?).map fun (k : Class) => match k.kind with | .array _ ty => decide (ty = FieldType.array t) && decide (U.vm.findClass ("[" ++ (FieldType.array t).toString) = some c) | _ => false) == some true)) hi).trans ?_
  simp [hk', hkind, f2]
def am_stab (w : Cond) : Bool := goodWord w || match w with
  | .methodLinkNest .. => true
  | .fieldLinkNest .. => true
  | .declares _ => true
  | .castable .. => true
  | .arrayOver (.object _) => true
  | .arrayOver (.array _) => true
  | .not (.castable ..) => true
  | _ => false
theorem am_stab_ok {w : Cond} (h : am_stab w = true) (s U : State) (a a' : Array Value) (hW : s.WarmedH U.vm) (hb : w.before a s = true) : w.before a' U = true := by
  unfold am_stab at h
  rw [Bool.or_eq_true] at h
  rcases h with h | h
  · exact word_at hW (good_of_word h) hb
  · split at h
    · exact va_Nw.use rfl (va_Nw.warmM hW (va_Nw.of rfl hb))
    · exact va_Nw.use rfl (va_Nw.warmF hW (va_Nw.of rfl hb))
    · exact va_Nw.use rfl (va_Nw.warmD hW (va_Nw.of rfl hb))
    · exact va_Nw.use rfl (va_Nw.warmC hW (va_Nw.of rfl hb))
    · exact va_AO.use (va_AO.moved hW.alike (va_AO.of hb))
    · exact am_over hW hb
    · obtain ⟨c, t, h1, h2, h3⟩ := (va_Nc.of hb).moved hW.alike
      unfold Cond.before Cond.holds
      simp [Cond.value, h1, h2, h3]
    · cases h
def am_nots : List Cond := [.not (.castable "java/lang/UnsupportedOperationException" "java/lang/IndexOutOfBoundsException"), .code x code maxLocals ret]
def am_Ts : List Cond := lw_tbl.filter am_stab ++ am_nots
theorem am_Ts_good : am_good am_Ts := by
  intro w hw s U a a' hW hb
  rcases List.mem_append.mp hw with h | h
  · exact am_stab_ok (List.mem_filter.mp h).2 s U a a' hW hb
  · refine am_stab_ok ?_ s U a a' hW hb
    rcases List.mem_cons.mp h with h | h
    · rw [h]; decide
    · rw [List.mem_singleton.mp h]; rfl
theorem am_in {w : Cond} (h : w ∈ lw_tbl) (hs : am_stab w = true) : w ∈ am_Ts := List.mem_append_left _ (List.mem_filter.mpr ⟨h, hs⟩)
theorem am_in2 {w : Cond} (h : w ∈ am_nots) : w ∈ am_Ts := List.mem_append_right _ h
