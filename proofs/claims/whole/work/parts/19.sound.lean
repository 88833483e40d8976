/-! THE SMALL MACHINE IS SOUND -/
/-- a method: its name, code, locals, answer, handlers -/
abbrev am_I : Type := MethodName × ByteArray × Nat × Option FieldType × List (Nat × Nat × Nat × Nat)
def am_rk (k : Nat) (ret : Option FieldType) : Prop := (k = 9 ∧ ret = none) ∨ (k < 2 ∧ ∃ ty, ret = some ty ∧ am_tyk k ty) ∨ ((k = 5 ∨ k = 6) ∧ ∃ ty, ret = some ty ∧ am_tyk k ty) ∨ (k = 2 ∧ ∃ C, ret = some (.object C)) ∨ (k = 3 ∧ ∃ t, ret = some (.array t))
/-- the class of a receiver -/
def am_cn (F : am_F) (ci : Nat) (C : String) : Prop := (ci < 20 ∧ ∃ r, F.1[ci]? = some r ∧ r.1 = C) ∨ (100 ≤ ci ∧ F.2.2.2.1 ci = C)
def am_nmh (y : MethodName) : Prop := y.cls ≠ "java/lang/invoke/MethodHandle" ∧ y.cls ≠ "java/lang/invoke/VarHandle"
def am_par (y : MethodName) (n : Nat) : Prop := ∀ sig, parseMethodDescriptor y.desc = some sig → n = sig.parameters.length
/-- the handlers of a call, out of the method's table: class number of what was thrown, handler -/
def am_hok (Ts : List Cond) (F : am_F) (own : String) (pc : Nat) (hh : List (Nat × Nat × Nat × Nat)) (hs : List Nat) : Prop := ∀ c hp, am_hd c hs = some hp → 30 ≤ c ∧ c < 40 ∧ ∃ pre h rest, hh = pre ++ h :: rest ∧ h.1 ≤ pc ∧ pc < h.2.1 ∧ h.2.2.1 = hp ∧ h.2.2.2 ≠ 0 ∧ Cond.classLink own h.2.2.2 (F.2.2.1 (c - 30)) ∈ Ts ∧ Cond.castable (F.2.2.1 (c - 30)) (F.2.2.1 (c - 30)) ∈ Ts ∧ ∀ g ∈ pre, g.2.2.2 ≠ 0 ∧ ∃ D, Cond.classLink own g.2.2.2 D ∈ Ts ∧ Cond.not (.castable (F.2.2.1 (c - 30)) D) ∈ Ts
/-- a row of a call -/
def am_okI (Ts : List Cond) (F : am_F) (mt : Nat → am_I) (own : String) (pc : Nat) (hh : List (Nat × Nat × Nat × Nat)) (cc : ByteArray) (i : Instr) (tg : List Nat) : Prop :=
  match i with
  | .invokevirtual idx => ∀ m2 na rk ci hs, tg = m2 :: na :: rk :: ci :: hs → 1 ≤ na ∧ am_par (mt m2).1 (na - 1) ∧ am_nmh (mt m2).1 ∧ Cond.initialized (mt m2).1.cls ∈ Ts ∧ Cond.instanceMethod (mt m2).1 ∈ Ts ∧ am_hok Ts F own pc hh hs ∧
      ∃ C, am_cn F ci C ∧ ((Cond.methodLink own idx (mt m2).1 ∈ Ts ∧ Cond.selects C (mt m2).1 (mt m2).1 ∈ Ts) ∨ (Cond.methodLink own idx ⟨C, (mt m2).1.name, (mt m2).1.desc⟩ ∈ Ts ∧ Cond.sameMethod C (mt m2).1.cls (mt m2).1.name (mt m2).1.desc ∈ Ts ∧ Cond.selects C ⟨C, (mt m2).1.name, (mt m2).1.desc⟩ (mt m2).1 ∈ Ts))
  | .invokestatic idx => (tg = [] → Cond.methodLink own idx arraycopyName ∈ Ts ∧ Cond.native arraycopyName ∈ Ts ∧ Cond.static arraycopyName ∈ Ts ∧ Cond.initialized "java/lang/System" ∈ Ts) ∧
      ∀ m2 na rk, tg = [m2, na, rk] → am_par (mt m2).1 na ∧ am_nmh (mt m2).1 ∧ Cond.initialized (mt m2).1.cls ∈ Ts ∧ Cond.static (mt m2).1 ∈ Ts ∧ Cond.methodLink own idx (mt m2).1 ∈ Ts
  | .invokespecial idx => (tg = [] → Cond.methodLink own idx objectInit ∈ Ts ∧ Cond.instanceMethod objectInit ∈ Ts ∧ Cond.code objectInit ⟨#[0xb1]⟩ 1 none ∈ Ts) ∧
      ∀ m2 na, tg = [m2, na] → 1 ≤ na ∧ am_par (mt m2).1 (na - 1) ∧ am_nmh (mt m2).1 ∧ (mt m2).1.name = "<init>" ∧ (mt m2).2.2.2.1 = none ∧ (mt m2).2.2.2.2 = [] ∧ Cond.initialized (mt m2).1.cls ∈ Ts ∧ Cond.instanceMethod (mt m2).1 ∈ Ts ∧ (Cond.methodLink own idx (mt m2).1 ∈ Ts ∨ ∃ host, Cond.methodLinkNest own idx (mt m2).1 host ∈ Ts)
  | .new idx => (∀ ci a b, tg = [ci, a, b] → 20 ≤ ci ∧ ci < 30 ∧ hh = [] ∧ Cond.classLink own idx (F.2.2.1 (ci - 20)) ∈ Ts ∧ Cond.instantiable (F.2.2.1 (ci - 20)) 6 ∈ Ts ∧ Cond.initialized (F.2.2.1 (ci - 20)) ∈ Ts ∧ Bundle.fit (F.2.2.1 (ci - 20)) = true ∧ decode cc (pc + 3) = .ok (.dup, 1) ∧ decode cc (pc + 7) = .ok (.athrow, 1) ∧
        ∃ ic names, decode cc (pc + 4) = .ok (.invokespecial ic, 3) ∧ names.length ≤ 2 ∧ (∀ n ∈ names, Bundle.fit n = true) ∧ ∀ w ∈ Bundle.ownAtoms0 own ic (F.2.2.1 (ci - 20)) names, w ∈ Ts ∨ ∃ z ∈ F.2.2.2.2.1, (w = .isRef (.static z.1 z.2.1 z.2.2.1) ∧ z.2.2.2.isRef = true) ∨ w = .laysStatic z.1 z.2.1 z.2.2.1)
  | _ => True
/-- the objects of a class, as they are made -/
def am_okN (Ts : List Cond) (F : am_F) (P : am_P) (own : String) (i : Instr) (tg : List Nat) : Prop := match i with
  | .new idx => ∀ ci k, tg = [ci, k] → ci < 20 ∧ ∃ r, F.1[ci]? = some r ∧ am_cok Ts r ∧ k = r.2.2 ∧ Cond.classLink own idx r.1 ∈ Ts ∧ Cond.instantiable r.1 r.2.2 ∈ Ts ∧ Cond.initialized r.1 ∈ Ts ∧ (P.2.2.1 ci).length = r.2.2 ∧ ∀ j ty, j < r.2.2 → parseFieldDescriptor (r.2.1 j).2.2.1 = some ty → (P.2.2.1 ci)[j]? = some (defaultValue ty)
  | _ => True
def am_isC : Instr → Bool
  | .ireturn | .areturn | .return_ | .new _ | .invokevirtual _ | .invokestatic _ | .invokespecial _ => true
  | _ => false
/-- the program is what the tables say -/
def am_prog (Ts : List Cond) (F : am_F) (P : am_P) (mt : Nat → am_I) : Prop := ∀ mi pc i len tg, P.1 mi pc = some (i, len, tg) →
  decode (mt mi).2.1 pc = .ok (i, len) ∧ (am_isC i = false → am_ok Ts F P (mt mi).1.cls ((mt mi).1.name = "<init>") i len pc tg) ∧ (am_isC i = true → (len = if i = .ireturn ∨ i = .areturn ∨ i = .return_ then 1 else 3)) ∧ am_okI Ts F mt (mt mi).1.cls pc (mt mi).2.2.2.2 (mt mi).2.1 i tg ∧ am_okN Ts F P (mt mi).1.cls i tg
def am_meths (Ts : List Cond) (P : am_P) (mt : Nat → am_I) : Prop := ∀ mi pc row, P.1 mi pc = some row → plainFor (mt mi).1 = true ∧ am_cw (mt mi).1 (mt mi).2.1 (mt mi).2.2.1 (mt mi).2.2.2.1 (mt mi).2.2.2.2 ∈ Ts ∧ (P.2.2.2 mi).1 = (mt mi).2.2.1 ∧ (mt mi).2.2.1 ≤ 23 ∧ am_rk (P.2.2.2 mi).2 (mt mi).2.2.2.1
theorem am_ent_length (aL : List Value) (n : Nat) (h : aL.length ≤ n) : (am_ent aL n).length = n := by
  simp [am_ent]; omega
theorem am_w_one {aL : List Value} (h : am_w aL = aL.length) : ∀ v ∈ aL, v.category = 1 := by
  induction aL with
  | nil => intro v hv; cases hv
  | cons a t ih =>
    have hge : ∀ t : List Value, t.length ≤ am_w t := by
      intro t
      induction t with
      | nil => exact Nat.le_refl _
      | cons b t ih2 => simp only [am_w, List.length_cons]; split <;> omega
    simp only [am_w, List.length_cons] at h
    have h2 := hge t
    by_cases ha : am_two a = true
    · rw [if_pos ha] at h; omega
    · rw [if_neg ha] at h
      intro v hv
      rcases List.mem_cons.mp hv with rfl | hv
      · rcases lv_cat v with q | q
        · exact q
        · exact absurd (am_two_cat.mpr q) ha
      · exact ih (by omega) v hv
theorem am_args_mem {aL : List Value} (hc : ∀ v ∈ aL, v.category = 1) : ∀ (k j : Nat) (v : Value), aL[j]? = some v → (k + j, v) ∈ lv_args k aL := by
  induction aL with
  | nil => intro k j v h; simp at h
  | cons a t ih =>
    intro k j v h
    have ha : a.category = 1 := hc a List.mem_cons_self
    simp only [lv_args]
    rw [if_neg (by omega)]
    cases j with
    | zero => simp at h; subst h; exact List.mem_cons_self
    | succ j =>
      have := ih (fun v hv => hc v (List.mem_cons_of_mem _ hv)) (k + 1) j v (by simpa using h)
      rw [show k + (j + 1) = k + 1 + j by omega]
      exact List.mem_cons_of_mem _ this
theorem am_sl_length {aL : List Value} (hc : ∀ v ∈ aL, v.category = 1) : (lg_sl aL).length = aL.length := by
  induction aL with
  | nil => rfl
  | cons a t ih =>
    have ha : a.category = 1 := hc a List.mem_cons_self
    have := ih (fun v hv => hc v (List.mem_cons_of_mem _ hv))
    unfold lg_sl at this ⊢
    rw [List.flatMap_cons, if_neg (by omega)]
    simp [this]
theorem am_entry {aL : List Value} {n : Nat} (hc : ∀ v ∈ aL, v.category = 1) (hn : aL.length ≤ n) : lv_has ((lg_sl aL ++ List.replicate (n - (lg_sl aL).length) Slot.unset).toArray) n (am_lv 0 (am_ent aL n)) := by
  have h := lv_entry aL (n := n) (by rw [am_sl_length hc]; exact hn)
  refine ⟨h.1, h.2.1, fun q hq => ?_⟩
  obtain ⟨j, w⟩ := q
  obtain ⟨-, hq⟩ := am_lv_mem.mp hq
  rw [Nat.sub_zero] at hq
  have hj : aL[j]? = some w := by
    unfold am_ent at hq
    by_cases hj : j < aL.length
    · rw [List.getElem?_append_left (by simpa using hj)] at hq
      simpa using hq
    · rw [List.getElem?_append_right (by simpa using Nat.not_lt.mp hj)] at hq
      have := List.eq_of_mem_replicate (List.mem_of_getElem? hq)
      cases this
  have := am_args_mem hc 0 j w hj
  rw [Nat.zero_add] at this
  exact h.2.2 _ this
theorem am_split {st rest : List Value} {k : Nat} {v : Value} (h : st.drop k = v :: rest) : st = st.take k ++ v :: rest ∧ st.take (k + 1) = st.take k ++ [v] ∧ st.drop (k + 1) = rest := by
  refine ⟨by rw [← h, List.take_append_drop], ?_, ?_⟩
  · have h1 : st[k]? = some v := by
      have := congrArg (fun l => l[0]?) h
      simpa [List.getElem?_drop] using this
    rw [List.take_succ, h1]; rfl
  · rw [← List.drop_drop, h]; rfl
