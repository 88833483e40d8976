/-! ROWS, AS PROGRAMS -/
def am_ppt (oc a : Nat) : Bool := ((am_pls.getD oc []).drop a).all (fun q => am_ppb (am_ocn.getD oc "") q.1 q.2.1 q.2.2)
theorem am_ppt_cons {oc a : Nat} (h : am_ppc oc a 5 = true) (h2 : am_ppt oc (a + 5) = true) : am_ppt oc a = true := by
  unfold am_ppc at h
  unfold am_ppt at h2 ⊢
  rw [← List.drop_drop] at h2
  rw [← List.take_append_drop 5 ((am_pls.getD oc []).drop a), List.all_append, h, h2]
  rfl
def am_inp (oc kind idx : Nat) (tg : List Nat) : Bool := decide ((kind, idx, tg) ∈ am_pls.getD oc [])
def am_jmp (pc : Nat) (off : Int) (tg : List Nat) : Bool := match tg with
  | [t] => decide ((pc : Int) + off = (t : Int))
  | _ => true
def am_lks (pc : Nat) (d : Int) (t : Nat) : List (Int × Int) → List Nat → Bool
  | [], _ => decide ((pc : Int) + d = (t : Int))
  | (_, o) :: r, u :: us => decide ((pc : Int) + o = (u : Int)) && am_lks pc d t r us
  | _ :: _, [] => false
theorem am_lks_ok {pc : Nat} {d : Int} {t : Nat} : ∀ {ps : List (Int × Int)} {ts : List Nat}, am_lks pc d t ps ts = true → ∀ k : Int, (pc : Int) + Op.lookupswitch.offset ps d k = (((ps.zip ts).find? (fun q => decide (q.1.1 = k))).elim t (fun q => q.2) : Nat)
  | [], ts, h, k => by
    have h1 : (pc : Int) + d = (t : Int) := by simpa [am_lks] using h
    simpa [Op.lookupswitch.offset_nil] using h1
  | (a, o) :: r, [], h, k => by simp [am_lks] at h
  | (a, o) :: r, u :: us, h, k => by
    have h1 : (pc : Int) + o = (u : Int) ∧ am_lks pc d t r us = true := by simpa [am_lks] using h
    rw [Op.lookupswitch.offset_cons, List.zip_cons_cons, List.find?_cons]
    by_cases hk : a = k
    · simp [hk, h1.1]
    · simp only [hk, decide_false, if_false]
      exact am_lks_ok h1.2 k
def am_okb (own : String) (isInit : Bool) (oc : Nat) (i : Instr) (len pc : Nat) (tg : List Nat) : Bool := match i with
  | .iconst n => decide (len = 1) && decide (am_cv tg = some (Int32.ofInt n))
  | .bipush n => decide (len = 2) && decide (am_cv tg = some (Int8.ofInt n).toInt32)
  | .sipush n => decide (len = 3) && decide (am_cv tg = some (Int16.ofInt n).toInt32)
  | .lconst n => decide (len = 1) && (match tg with
    | [k] => decide (Int64.ofNat n.val = lN k)
    | _ => true)
  | .ldc x => decide (len = 2) && am_inp oc 7 x tg
  | .ldc2_w x => decide (len = 3) && am_inp oc 8 x tg
  | .iload _ | .aload _ | .istore _ | .astore _ => decide (len = 2)
  | .iinc _ n => decide (len = 3) && decide (am_cv tg = some (Int32.ofInt n))
  | .goto off | .ifCond _ off | .if_icmp _ off | .if_acmp _ off | .ifnonnull off => decide (len = 3) && am_jmp pc off tg
  | .tableswitch d _ _ offs => match tg with
    | t :: ts => decide ((pc : Int) + d = (t : Int)) && (List.range ts.length).all (fun k => match ts[k]?, offs[k]? with
      | some u, some off => decide ((pc : Int) + off = (u : Int))
      | _, _ => false)
    | [] => true
  | .lookupswitch d ps => match tg with
    | t :: ts => (ps.toList.zip (ps.toList.drop 1)).all (fun (a, next) => a.1 < next.1) && am_lks pc d t ps.toList ts
    | [] => true
  | .getfield idx => decide (len = 3) && am_inp oc 0 idx tg
  | .putfield idx => decide (len = 3) && am_inp oc 1 idx tg && (match tg with
    | [ci, k, _] => !(am_T0 ci k).2.2.2 || (isInit && decide ((am_T0 ci k).1 = own))
    | _ => true)
  | .getstatic idx => decide (len = 3) && am_inp oc 2 idx tg
  | .newarray at_ => decide (len = 2) && (match tg with
    | [t] => decide (t < 4) && decide (at_ = am_aty t)
    | _ => true)
  | .anewarray idx => decide (len = 3) && am_inp oc 9 idx tg
  | .multianewarray idx n => decide (len = 4) && decide (n = 2) && am_inp oc 10 idx tg && decide (tg.length = 2)
  | _ => decide (len = 1)
def am_hkb (own : String) (pc : Nat) (hh : List (Nat × Nat × Nat × Nat)) : List Nat → Bool
  | a :: b :: t => decide (30 ≤ a) && decide (a < 40) && (List.range hh.length).any (fun k => match hh[k]? with
      | some h => decide (h.1 ≤ pc) && decide (pc < h.2.1) && decide (h.2.2.1 = b) && decide (h.2.2.2 ≠ 0) && am_mem (.classLink own h.2.2.2 (am_xc (a - 30))) && am_mem (.castable (am_xc (a - 30)) (am_xc (a - 30))) && (hh.take k).all (fun g => decide (g.2.2.2 ≠ 0) && (List.range 3).any (fun i => am_mem (.classLink own g.2.2.2 (am_xc i)) && decide (Cond.not (.castable (am_xc (a - 30)) (am_xc i)) ∈ am_nots)))
      | none => false) && am_hkb own pc hh t
  | _ => true
def am_chain : List String := ["java/lang/RuntimeException", "java/lang/Exception"]
def am_zsb (w : Cond) : Bool := decide (w = .isRef (.static Bundle.tN "UNASSIGNED_STACK" Bundle.steD)) || decide (w = .isRef (.static Bundle.tN "SUPPRESSED_SENTINEL" Bundle.listD)) || decide (w = .laysStatic Bundle.tN "UNASSIGNED_STACK" Bundle.steD) || decide (w = .laysStatic Bundle.tN "SUPPRESSED_SENTINEL" Bundle.listD)
def am_ctb (own : String) (ic ci : Nat) : Bool := (Bundle.ownAtoms0 own ic (am_xc (ci - 20)) am_chain).all (fun w => am_mem w || am_zsb w)
def am_cts : List (Nat × Nat) := [(58, 20), (77, 21), (80, 22)]
def am_icb (own : String) (oc : Nat) (cc : ByteArray) (hh : List (Nat × Nat × Nat × Nat)) (i : Instr) (pc : Nat) (tg : List Nat) : Bool := match i with
  | .invokevirtual idx => match tg with
    | m2 :: na :: rk :: ci :: hs => am_inp oc 3 idx [m2, na, rk, ci] && am_hkb own pc hh hs
    | _ => true
  | .invokestatic idx => match tg with
    | [] => am_inp oc 4 idx tg
    | [_, _, _] => am_inp oc 4 idx tg
    | _ => true
  | .invokespecial idx => match tg with
    | [] => am_inp oc 5 idx tg
    | [_, _] => am_inp oc 5 idx tg
    | _ => true
  | .new idx => match tg with
    | [_, _] => am_inp oc 6 idx tg
    | [ci, _, _] => am_inp oc 6 idx tg && decide (oc = 1) && decide (hh = []) && decide (decode cc (pc + 3) = .ok (.dup, 1)) && decide (decode cc (pc + 7) = .ok (.athrow, 1)) && am_cts.any (fun q => decide (q.2 = ci) && decide (decode cc (pc + 4) = .ok (.invokespecial q.1, 3)))
    | _ => true
  | _ => true
def am_lnb (i : Instr) (len : Nat) : Bool := match i with
  | .ireturn | .areturn | .return_ => decide (len = 1)
  | _ => decide (len = 3)
def am_rowb (own nm : String) (oc : Nat) (cc : ByteArray) (hh : List (Nat × Nat × Nat × Nat)) (q : Nat × am_T) : Bool :=
  decide (decode cc q.1 = .ok (q.2.1, q.2.2.1)) && (if am_isC q.2.1 = true then am_lnb q.2.1 q.2.2.1 else am_okb own (decide (nm = "<init>")) oc q.2.1 q.2.2.1 q.1 q.2.2.2) && am_icb own oc cc hh q.2.1 q.1 q.2.2.2
def am_rowm (mi : Nat) (q : Nat × am_T) : Bool := am_rowb (am_mt mi).1.cls (am_mt mi).1.name (am_oc.getD mi 0) (am_mt mi).2.1 (am_mt mi).2.2.2.2 q
def am_rkb (k : Nat) (ret : Option FieldType) : Bool := match k, ret with
  | 9, none => true
  | 0, some .int => true
  | 1, some .boolean => true
  | 5, some .byte => true
  | 6, some .char => true
  | 2, some (.object _) => true
  | 3, some (.array _) => true
  | _, _ => false
def am_metb (mi : Nat) : Bool := decide (am_ocn.getD (am_oc.getD mi 0) "" = (am_mt mi).1.cls) && plainFor (am_mt mi).1 && am_mem (am_cw (am_mt mi).1 (am_mt mi).2.1 (am_mt mi).2.2.1 (am_mt mi).2.2.2.1 (am_mt mi).2.2.2.2) && decide ((am_inf.getD mi (0, 0)).1 = (am_mt mi).2.2.1) && decide ((am_mt mi).2.2.1 ≤ 23) && am_rkb (am_inf.getD mi (0, 0)).2 (am_mt mi).2.2.2.1
