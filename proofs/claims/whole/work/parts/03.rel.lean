/-! WHAT THE SMALL MACHINE'S MEMORY SAYS OF THE HEAP -/
/-- class numbers and slots; array classes by tag; where the world begins -/
abbrev am_E : Type := va_G × (Nat → ClassId) × Nat
/-- what is fixed of the program: the classes of the world; fields of ground objects by class and number; exception classes; ground classes; statics; texts -/
abbrev am_F : Type := List vw_C × (Nat → Nat → String × String × String) × (Nat → String) × (Nat → String) × List (String × String × String × Value) × List (String × Nat × String × Nat)
def am_ty : Nat → FieldType
  | 0 => .byte
  | 1 => .int
  | 2 => .boolean
  | 3 => .long
  | 4 => .object "TextTools$Lines"
  | 5 => .array .int
  | 100 => .byte
  | 101 => .int
  | _ => .object "TextTools$Tool"
def am_tys (kA : Nat → ClassId) : List (ClassId × FieldType) := (List.range 6).map (fun t => (kA t, am_ty t))
def am_el (r : vp_A) (j : Nat) : Value := match r.2 with
  | .inl f => .int (f j)
  | .inr (.inl f) => .long (f j)
  | .inr (.inr (.inl f)) => .float (f j)
  | .inr (.inr (.inr (.inl f))) => .double (f j)
  | .inr (.inr (.inr (.inr f))) => va_rf (f j)
/-- what an array of a tag may hold -/
def am_fitA (t : Nat) (r : vp_A) : Prop := match r.2 with
  | .inl f => t ≤ 2 ∧ ∀ j, j < r.1 → fits (am_ty t) (.int (f j)) = true
  | .inr (.inl _) => t = 3
  | .inr (.inr (.inr (.inr _))) => t = 4 ∨ t = 5
  | _ => False
def am_gA (t : Nat) (r : vp_A) (U : State) (a : Nat) (H : Heap) : Prop := ∃ cell : Cell, H[a]? = some cell ∧ U.isArrayOf cell (am_ty t) ∧ cell.vm ≠ .unknown ∧ r.1 ≤ cell.slots.size ∧ cell.slots.size.toInt32 = Int32.ofNat r.1 ∧ ∀ j : Nat, j < r.1 → cell.slots[j]? = some (am_el r j)
/-- a new exception: as it was born -/
def am_xn (C : String) (U : State) (a : Nat) (H : Heap) : Prop := ∃ (cX : ClassId) (kX : Class), U.vm.findClass C = some cX ∧ U.vm.classes[cX]? = some kX ∧ H[a]? = some { cls := cX, slots := kX.instanceTypes.map defaultValue, vm := .none }
/-- an exception that was thrown -/
def am_xt (C : String) (U : State) (a : Nat) (H : Heap) : Prop := ∃ cell : Cell, H[a]? = some cell ∧ cell.vm = .none ∧ U.vm.findClass C = some cell.cls
def am_at (E : am_E) (F : am_F) (U : State) (a : Nat) (e : va_E) (H : Heap) : Prop := match e with
  | .inl (t, r) => (t < 100 ∧ E.2.2 ≤ a ∧ H[a]? = some (vp_cell (E.2.1 t) r) ∧ am_fitA t r) ∨ (100 ≤ t ∧ a < E.2.2 ∧ am_gA t r U a H)
  | .inr (ci, fs) => (ci < 20 ∧ E.2.2 ≤ a ∧ ∃ r, F.1[ci]? = some r ∧ fs.length = r.2.2 ∧ t_OB a (E.1.1 ci) r.2.2 (E.1.2 ci) H (vp_V fs)) ∨
      (20 ≤ ci ∧ ci < 30 ∧ E.2.2 ≤ a ∧ am_xn (F.2.2.1 (ci - 20)) U a H) ∨ (30 ≤ ci ∧ ci < 40 ∧ E.2.2 ≤ a ∧ am_xt (F.2.2.1 (ci - 30)) U a H) ∨
      (100 ≤ ci ∧ a < E.2.2 ∧ va_O (F.2.2.2.1 ci) a (fun q => E.2.2 ≤ q) U H ∧ ∀ k v, fs[k]? = some v → va_OF (F.2.1 ci k).1 (F.2.1 ci k).2.1 (F.2.1 ci k).2.2 v a (fun q => E.2.2 ≤ q) U H)
/-- a static field: what it holds, and how its cell is laid -/
def am_Zx (C n d : String) (v : Value) (b : Nat) (U : State) (H : Heap) : Prop := ∃ (cf : ClassId) (kf : Class) (fi : Nat) (f : Field) (a : Nat) (ce : Cell), U.vm.findClass C = some cf ∧ U.fieldFound? C n d = some (cf, kf, fi, f) ∧ f.isStatic = true ∧ kf.init = .initialized ∧ kf.statics = some a ∧ H[a]? = some ce ∧ ce.vm.isStatics = true ∧ ce.cls = cf ∧ f.slot < ce.slots.size ∧ kf.staticTypes[f.slot]? = some f.type ∧ ce.slots[f.slot]? = some v ∧ a < b
theorem am_Zx.kept {C n d : String} {v : Value} {b : Nat} {U : State} {H H1 : Heap} (h : am_Zx C n d v b U H) (hq : ∀ a : Nat, a < H.size → a < b → H1[a]? = H[a]?) : am_Zx C n d v b U H1 := by
  obtain ⟨cf, kf, fi, f, a, ce, g0, g1, g2, g3, g4, g5, g6, g7, g8, g9, g10, g11⟩ := h
  exact ⟨cf, kf, fi, f, a, ce, g0, g1, g2, g3, g4, by rw [hq a (Array.getElem?_eq_some_iff.mp g5).1 g11]; exact g5, g6, g7, g8, g9, g10, g11⟩
theorem am_Zx.moved {C n d : String} {v : Value} {b : Nat} {u U : State} {H : Heap} (hvm : u.vm.Alike U.vm) (h : am_Zx C n d v b u H) : am_Zx C n d v b U H := by
  obtain ⟨cf, kf, fi, f, a, ce, g0, g1, g2, g3, g4, g5, g6, g7, g8, g9, g10, g11⟩ := h
  obtain ⟨k', hi', he⟩ := State.fieldFound?_setVm hvm g1
  exact ⟨cf, k', fi, f, a, ce, by rw [hvm.findClass]; exact g0, hi', g2, by rw [he]; exact g3, by rw [he]; exact g4, g5, g6, g7, g8, by rw [he]; exact g9, g10, g11⟩
def am_rel (E : am_E) (F : am_F) (U : State) (M : am_M) (H : Heap) : Prop := H.size = M.1 ∧ E.2.2 ≤ M.1 ∧ (∀ a e, M.2.2 a = some e → am_at E F U a e H) ∧ ∀ z ∈ F.2.2.2.2.1, am_Zx z.1 z.2.1 z.2.2.1 z.2.2.2 E.2.2 U H
def am_K (E : am_E) (F : am_F) (U : State) : Prop := va_K E.1 F.1 (am_tys E.2.1) U
/-- the texts -/
def am_X (F : am_F) (U : State) : Prop := ∀ z ∈ F.2.2.2.2.2, vk_R z.1 z.2.1 z.2.2.1 z.2.2.2 U
theorem am_at.kept {E : am_E} {F : am_F} {U : State} {a : Nat} {e : va_E} {H H1 : Heap} (h : am_at E F U a e H) (hq : H1[a]? = H[a]?) : am_at E F U a e H1 := by
  match e, h with
  | .inl (t, r), .inl ⟨h1, h2, h3, h4⟩ => exact .inl ⟨h1, h2, by rw [hq]; exact h3, h4⟩
  | .inl (t, r), .inr ⟨h1, h2, ce, h3, h4⟩ => exact .inr ⟨h1, h2, ce, by rw [hq]; exact h3, h4⟩
  | .inr (ci, fs), .inl ⟨h1, h2, r, h3, h4, h5⟩ => exact .inl ⟨h1, h2, r, h3, h4, h5.kept hq⟩
  | .inr (ci, fs), .inr (.inl ⟨h1, h2, h3, cX, kX, h4, h5, h6⟩) => exact .inr (.inl ⟨h1, h2, h3, cX, kX, h4, h5, by rw [hq]; exact h6⟩)
  | .inr (ci, fs), .inr (.inr (.inl ⟨h1, h2, h3, ce, h4, h5⟩)) => exact .inr (.inr (.inl ⟨h1, h2, h3, ce, by rw [hq]; exact h4, h5⟩))
  | .inr (ci, fs), .inr (.inr (.inr ⟨h1, h2, ⟨ce, h3, h4⟩, h5⟩)) =>
    refine .inr (.inr (.inr ⟨h1, h2, ⟨ce, by rw [hq]; exact h3, h4⟩, fun k v hv => ?_⟩))
    obtain ⟨cf, kk, i, f, ce, g1, g2, g3, g4⟩ := h5 k v hv
    exact ⟨cf, kk, i, f, ce, g1, g2, by rw [hq]; exact g3, g4⟩
theorem am_at.moved {E : am_E} {F : am_F} {u U : State} {a : Nat} {e : va_E} {H : Heap} (hvm : u.vm.Alike U.vm) (h : am_at E F u a e H) : am_at E F U a e H := by
  match e, h with
  | .inl (t, r), .inl h => exact .inl h
  | .inl (t, r), .inr ⟨h1, h2, ce, h3, h4, h5⟩ => exact .inr ⟨h1, h2, ce, h3, State.isArrayOf_alike hvm h4, h5⟩
  | .inr (ci, fs), .inl h => exact .inl h
  | .inr (ci, fs), .inr (.inl ⟨h1, h2, h3, cX, kX, h4, h5, h6⟩) =>
    obtain ⟨k', hk', he⟩ := hvm.2.2 _ _ h5
    refine .inr (.inl ⟨h1, h2, h3, cX, k', by rw [hvm.findClass]; exact h4, hk', ?_⟩)
    rw [show k'.instanceTypes = kX.instanceTypes by rw [he]]; exact h6
  | .inr (ci, fs), .inr (.inr (.inl ⟨h1, h2, h3, ce, h4, h5, h6⟩)) => exact .inr (.inr (.inl ⟨h1, h2, h3, ce, h4, h5, by rw [hvm.findClass]; exact h6⟩))
  | .inr (ci, fs), .inr (.inr (.inr ⟨h1, h2, h3, h5⟩)) => exact .inr (.inr (.inr ⟨h1, h2, h3.moved hvm, fun k v hv => (h5 k v hv).moved hvm⟩))
theorem am_rel.moved {E : am_E} {F : am_F} {u U : State} {M : am_M} {H : Heap} (hvm : u.vm.Alike U.vm) (h : am_rel E F u M H) : am_rel E F U M H :=
  ⟨h.1, h.2.1, fun a e he => (h.2.2.1 a e he).moved hvm, fun z hz => (h.2.2.2 z hz).moved hvm⟩
theorem am_at.lt {E : am_E} {F : am_F} {U : State} {a : Nat} {e : va_E} {H : Heap} (h : am_at E F U a e H) : a < H.size := by
  match e, h with
  | .inl (t, r), .inl ⟨h1, h2, h3, h4⟩ => exact (Array.getElem?_eq_some_iff.mp h3).1
  | .inl (t, r), .inr ⟨h1, h2, ce, h3, h4⟩ => exact (Array.getElem?_eq_some_iff.mp h3).1
  | .inr (ci, fs), .inl ⟨h1, h2, r, h3, h4, ce, h5, h6⟩ => exact (Array.getElem?_eq_some_iff.mp h5).1
  | .inr (ci, fs), .inr (.inl ⟨h1, h2, h3, cX, kX, h4, h5, h6⟩) => exact (Array.getElem?_eq_some_iff.mp h6).1
  | .inr (ci, fs), .inr (.inr (.inl ⟨h1, h2, h3, ce, h4, h5⟩)) => exact (Array.getElem?_eq_some_iff.mp h4).1
  | .inr (ci, fs), .inr (.inr (.inr ⟨h1, h2, ⟨ce, h3, h4⟩, h5⟩)) => exact (Array.getElem?_eq_some_iff.mp h3).1
/-- a ce of the world is written -/
theorem am_rel.upd {E : am_E} {F : am_F} {U : State} {M : am_M} {H H1 : Heap} {a : Nat} {e : va_E} (h : am_rel E F U M H) (hb : E.2.2 ≤ a) (he : am_at E F U a e H1) (hz : H1.size = H.size) (ho : ∀ q, q ≠ a → H1[q]? = H[q]?) : am_rel E F U (am_upd M a e) H1 := by
  refine ⟨hz.trans h.1, h.2.1, fun q e2 hq => ?_, fun z hz => (h.2.2.2 z hz).kept (fun q _ hq => ho q (fun w => by omega))⟩
  by_cases hqa : q = a
  · subst hqa
    have : some e = some e2 := by simpa [am_upd] using hq
    cases this; exact he
  · have : M.2.2 q = some e2 := by simpa [am_upd, hqa] using hq
    exact (h.2.2.1 q e2 this).kept (ho q hqa)
/-- a ce is made -/
theorem am_rel.push {E : am_E} {F : am_F} {U : State} {M : am_M} {H : Heap} {n : Nat} {e : va_E} {ce : Cell} (h : am_rel E F U M H) (he : am_at E F U M.1 e (H.push ce)) : am_rel E F U (am_push M n e) (H.push ce) := by
  refine ⟨by simp [am_push, h.1], by show E.2.2 ≤ M.1 + 1; have := h.2.1; omega, fun q e2 hq => ?_, fun z hz => (h.2.2.2 z hz).kept (fun q hl _ => by rw [Array.getElem?_push, if_neg (by omega)])⟩
  by_cases hqa : q = M.1
  · subst hqa
    have : some e = some e2 := by simpa [am_push] using hq
    cases this; exact he
  · have hq' : M.2.2 q = some e2 := by simpa [am_push, hqa] using hq
    have hl := (h.2.2.1 q e2 hq').lt
    exact (h.2.2.1 q e2 hq').kept (by rw [Array.getElem?_push, if_neg (by omega)])
theorem am_vp_size (c : ClassId) (r : vp_A) : (vp_cell c r).slots.size = r.1 := by
  obtain ⟨n, r⟩ := r
  rcases r with f | f | f | f | f <;> simp [vp_cell, arrV_size]
theorem am_vp_at (c : ClassId) (r : vp_A) {j : Nat} (hj : j < r.1) : (vp_cell c r).slots[j]? = some (am_el r j) := by
  obtain ⟨n, r⟩ := r
  rcases r with f | f | f | f | f <;> exact arrV_read _ _ hj
theorem am_vp_vm (c : ClassId) (r : vp_A) : (vp_cell c r).vm = .none := by
  obtain ⟨n, r⟩ := r
  rcases r with f | f | f | f | f <;> rfl
theorem am_vp_is {E : am_E} {F : am_F} {U : State} (hK : am_K E F U) {t : Nat} (ht : t < 6) (r : vp_A) : U.isArrayOf (vp_cell (E.2.1 t) r) (am_ty t) := by
  have h : (am_tys E.2.1)[t]? = some (E.2.1 t, am_ty t) := by simp [am_tys, ht]
  have h2 := (hK.2 t _ h).1
  obtain ⟨n, r⟩ := r
  rcases r with f | f | f | f | f <;> exact h2 _ _
theorem am_fitA.lt {t : Nat} {r : vp_A} (h : am_fitA t r) : t < 6 := by
  obtain ⟨n, r⟩ := r
  rcases r with f | f | f | f | f
  · exact Nat.lt_of_le_of_lt h.1 (by decide)
  · have : t = 3 := h
    omega
  · cases h
  · cases h
  · have : t = 4 ∨ t = 5 := h
    omega
/-- an array, of the world or of the ground -/
theorem am_at.arr {E : am_E} {F : am_F} {U : State} {a t : Nat} {r : vp_A} {H : Heap} (hK : am_K E F U) (h : am_at E F U a (.inl (t, r)) H) :
    ∃ ce : Cell, H[a]? = some ce ∧ U.isArrayOf ce (am_ty t) ∧ ce.vm ≠ .unknown ∧ r.1 ≤ ce.slots.size ∧ ce.slots.size.toInt32 = Int32.ofNat r.1 ∧ ∀ j : Nat, j < r.1 → ce.slots[j]? = some (am_el r j) := by
  rcases h with ⟨h1, h2, h3, h4⟩ | ⟨h1, h2, h3⟩
  · exact ⟨_, h3, am_vp_is hK h4.lt r, (by rw [am_vp_vm]; exact fun h => by cases h), (by rw [am_vp_size]; exact Nat.le_refl _), (by rw [am_vp_size]), fun j hj => am_vp_at _ _ hj⟩
  · exact h3
