/-! WHAT A ROW OF A TABLE MUST BE, AND THE SOUNDNESS OF A PLAIN INSTRUCTION -/
theorem am_pf_mono {M M1 : am_M} {a ci k ty : Nat} {v : Value} (h : am_pf M a ci k ty v = some M1) : M1.1 = M.1 ∧ M1.2.1 = M.2.1 := by
  obtain ⟨fs, -, -, -, rfl⟩ := am_pf_spec h
  exact ⟨rfl, rfl⟩
theorem am_is_mono {M M1 : am_M} {a : Nat} {i x : Int32} {ts : List Nat} (h : am_is M a i ts x = some M1) : M1.1 = M.1 ∧ M1.2.1 = M.2.1 := by
  obtain ⟨t, n, f, j, -, -, -, rfl⟩ := am_is_spec h
  exact ⟨rfl, rfl⟩
theorem am_ls_mono {M M1 : am_M} {a : Nat} {i : Int32} {x : Int64} (h : am_ls M a i x = some M1) : M1.1 = M.1 ∧ M1.2.1 = M.2.1 := by
  unfold am_ls at h
  split at h
  · split at h
    · obtain ⟨j, -, rfl⟩ := Option.map_eq_some_iff.mp h
      exact ⟨rfl, rfl⟩
    · cases h
  · cases h
theorem am_as_mono {M M1 : am_M} {a q : Nat} {i : Int32} (h : am_as M a i q = some M1) : M1.1 = M.1 ∧ M1.2.1 = M.2.1 := by
  unfold am_as at h
  split at h
  · split at h
    · obtain ⟨j, -, rfl⟩ := Option.map_eq_some_iff.mp h
      exact ⟨rfl, rfl⟩
    · cases h
  · cases h
theorem am_na_mono {M M1 : am_M} {t : Nat} {x : Int32} (h : am_na M t x = some M1) : M1.1 = M.1 + 1 ∧ M.2.1 ≤ M1.2.1 := by
  obtain ⟨-, -, h⟩ := am_na_spec h
  rcases h with ⟨-, rfl⟩ | ⟨-, rfl⟩ | ⟨-, rfl⟩ <;> exact ⟨rfl, Nat.le_add_right _ _⟩
theorem am_cpy_mono {M M1 : am_M} {a b : Nat} {sp dp n : Int32} (h : am_cpy M a sp b dp n = some M1) : M1.1 = M.1 ∧ M1.2.1 = M.2.1 := by
  unfold am_cpy at h
  split at h
  · split at h
    · cases Option.some.inj h
      exact ⟨rfl, rfl⟩
    · cases h
  · cases h
/-- a row: what it is resolved to is so -/
def am_ok (Ts : List Cond) (F : am_F) (P : am_P) (own : String) (isInit : Prop) (i : Instr) (len pc : Nat) (tg : List Nat) : Prop :=
  match i with
  | .iconst n => len = 1 ∧ am_cv tg = some (Int32.ofInt n)
  | .bipush n => len = 2 ∧ am_cv tg = some (Int8.ofInt n).toInt32
  | .sipush n => len = 3 ∧ am_cv tg = some (Int16.ofInt n).toInt32
  | .lconst n => len = 1 ∧ ∀ k, tg = [k] → Int64.ofNat n.val = lN k
  | .ldc x => len = 2 ∧ (∀ n, tg = [n] → Cond.constant own x (nI n) ∈ Ts) ∧ ∀ q a b, tg = [q, a, b] → ∃ tx, (own, x, tx, P.2.1 q) ∈ F.2.2.2.2.2
  | .ldc2_w x => len = 3 ∧ ∀ n, tg = [n] → Cond.constantLong own x (lN n) ∈ Ts
  | .iload _ | .aload _ | .istore _ | .astore _ => len = 2
  | .iinc _ n => len = 3 ∧ am_cv tg = some (Int32.ofInt n)
  | .goto off | .ifCond _ off | .if_icmp _ off | .if_acmp _ off | .ifnonnull off => len = 3 ∧ ∀ t, tg = [t] → (pc : Int) + off = (t : Int)
  | .tableswitch d _ _ offs => ∀ t ts, tg = t :: ts → (pc : Int) + d = (t : Int) ∧ ∀ k u : Nat, ts[k]? = some u → ∃ off, offs[k]? = some off ∧ (pc : Int) + off = (u : Int)
  | .lookupswitch d ps => ∀ t ts, tg = t :: ts → (ps.toList.zip (ps.toList.drop 1)).all (fun (a, next) => a.1 < next.1) = true ∧ ∀ x : Int32, (pc : Int) + Op.lookupswitch.offset ps.toList d x.toInt = (((ps.toList.zip ts).find? (fun q => decide (q.1.1 = x.toInt))).elim t (fun q => q.2) : Nat)
  | .getfield idx => len = 3 ∧ ∀ ci k b, tg = [ci, k, b] → (ci < 20 ∧ ∃ r, F.1[ci]? = some r ∧ am_cok Ts r ∧ k < r.2.2 ∧ (Cond.fieldLink own idx (r.2.1 k).1 (r.2.1 k).2.1 (r.2.1 k).2.2.1 ∈ Ts ∨ ∃ host, Cond.fieldLinkNest own idx (r.2.1 k).1 (r.2.1 k).2.1 (r.2.1 k).2.2.1 host ∈ Ts)) ∨ (100 ≤ ci ∧ Cond.fieldLink own idx (F.2.1 ci k).1 (F.2.1 ci k).2.1 (F.2.1 ci k).2.2 ∈ Ts)
  | .putfield idx => len = 3 ∧ ∀ ci k tk, tg = [ci, k, tk] → ci < 20 ∧ ∃ r, F.1[ci]? = some r ∧ am_cok Ts r ∧ k < r.2.2 ∧ Cond.fieldLink own idx (r.2.1 k).1 (r.2.1 k).2.1 (r.2.1 k).2.2.1 ∈ Ts ∧ (∃ ty, parseFieldDescriptor (r.2.1 k).2.2.1 = some ty ∧ am_tyk tk ty) ∧ ((r.2.1 k).2.2.2 = false ∨ (isInit ∧ (r.2.1 k).1 = own))
  | .getstatic idx => len = 3 ∧ (∀ q, tg = [q] → ∃ z ∈ F.2.2.2.2.1, z.2.2.2 = .ref (P.2.1 q) ∧ (Cond.fieldLink own idx z.1 z.2.1 z.2.2.1 ∈ Ts ∨ ∃ host, Cond.fieldLinkNest own idx z.1 z.2.1 z.2.2.1 host ∈ Ts)) ∧ (∀ n b, tg = [n, b] → ∃ z ∈ F.2.2.2.2.1, z.2.2.2 = .int (nI n) ∧ (Cond.fieldLink own idx z.1 z.2.1 z.2.2.1 ∈ Ts ∨ ∃ host, Cond.fieldLinkNest own idx z.1 z.2.1 z.2.2.1 host ∈ Ts)) ∧ ∀ q b c, tg = [q, b, c] → ∃ z ∈ F.2.2.2.2.1, z.2.2.2 = am_zv P.2.1 q ∧ (Cond.fieldLink own idx z.1 z.2.1 z.2.2.1 ∈ Ts ∨ ∃ host, Cond.fieldLinkNest own idx z.1 z.2.1 z.2.2.1 host ∈ Ts)
  | .newarray at_ => len = 2 ∧ ∀ t, tg = [t] → t < 4 ∧ at_ = am_aty t ∧ Cond.arrayClass (newarray.typeOf (am_aty t)) ∈ Ts
  | .anewarray idx => len = 3 ∧ ∀ t, tg = [t] → t = 4 ∧ Cond.classLink own idx "TextTools$Lines" ∈ Ts ∧ Cond.arrayOver (.object "TextTools$Lines") ∈ Ts
  | .multianewarray idx n => len = 4 ∧ n = 2 ∧ Cond.classLink own idx "[[I" ∈ Ts ∧ Cond.arrayOver (.array .int) ∈ Ts ∧ Cond.arrayClass .int ∈ Ts
  | .aastore => len = 1 ∧ ∃ r, F.1[1]? = some r ∧ r.1 = "TextTools$Lines"
  | _ => len = 1
