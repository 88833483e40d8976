/-- a plain instruction, and what goes on behind it -/
def am_ins (P : am_P) (i : Instr) (len : Nat) (tg : List Nat) (pc : Nat) (al : am_L) (st : List Value) (M : am_M) (k : Nat → am_L → List Value → am_M → Option am_R) : Option am_R :=
  match i with
  | .iconst _ => (am_cv tg).bind (fun x => k (pc + len) al (.int x :: st) M)
  | .bipush _ => (am_cv tg).bind (fun x => k (pc + len) al (.int x :: st) M)
  | .sipush _ => (am_cv tg).bind (fun x => k (pc + len) al (.int x :: st) M)
  | .lconst _ => match tg with
    | [n] => k (pc + len) al (.long (lN n) :: st) M
    | _ => none
  | .ldc _ => match tg with
    | [n] => k (pc + len) al (.int (nI n) :: st) M
    | [q, _, _] => k (pc + len) al (.ref (P.2.1 q) :: st) M
    | _ => none
  | .ldc2_w _ => match tg with
    | [n] => k (pc + len) al (.long (lN n) :: st) M
    | _ => none
  | .aconst_null => k (pc + len) al (.null :: st) M
  | .iload_n n => match al[n.val]? with
    | some (some (.int x)) => k (pc + len) al (.int x :: st) M
    | _ => none
  | .iload n => match al[n]? with
    | some (some (.int x)) => k (pc + len) al (.int x :: st) M
    | _ => none
  | .lload_n n => match al[n.val]? with
    | some (some (.long x)) => k (pc + len) al (.long x :: st) M
    | _ => none
  | .aload_n n => match al[n.val]? with
    | some (some (.ref x)) => k (pc + len) al (.ref x :: st) M
    | some (some .null) => k (pc + len) al (.null :: st) M
    | _ => none
  | .aload n => match al[n]? with
    | some (some (.ref x)) => k (pc + len) al (.ref x :: st) M
    | _ => none
  | .istore_n n => match st with
    | .int x :: st => if n.val < al.length then k (pc + len) (am_set al n.val (.int x)) st M else none
    | _ => none
  | .istore n => match st with
    | .int x :: st => if n < al.length then k (pc + len) (am_set al n (.int x)) st M else none
    | _ => none
  | .lstore_n n => match st with
    | .long x :: st => if n.val + 1 < al.length then k (pc + len) (am_set al n.val (.long x)) st M else none
    | _ => none
  | .astore_n n => match st with
    | .ref x :: st => if n.val < al.length then k (pc + len) (am_set al n.val (.ref x)) st M else none
    | .null :: st => if n.val < al.length then k (pc + len) (am_set al n.val .null) st M else none
    | _ => none
  | .astore n => match st with
    | .ref x :: st => if n < al.length then k (pc + len) (am_set al n (.ref x)) st M else none
    | _ => none
  | .iinc n _ => match al[n]? with
    | some (some (.int x)) => (am_cv tg).bind (fun c => k (pc + len) (am_set al n (.int (x + c))) st M)
    | _ => none
  | .iadd => match st with
    | .int y :: .int x :: st => k (pc + len) al (.int (x + y) :: st) M
    | _ => none
  | .isub => match st with
    | .int y :: .int x :: st => k (pc + len) al (.int (x - y) :: st) M
    | _ => none
  | .imul => match st with
    | .int y :: .int x :: st => k (pc + len) al (.int (x * y) :: st) M
    | _ => none
  | .iand => match st with
    | .int y :: .int x :: st => k (pc + len) al (.int (x &&& y) :: st) M
    | _ => none
  | .idiv => match st with
    | .int y :: .int x :: st => if y = 0 then none else k (pc + len) al (.int (x / y) :: st) M
    | _ => none
  | .irem => match st with
    | .int y :: .int x :: st => if y = 0 then none else k (pc + len) al (.int (x - x / y * y) :: st) M
    | _ => none
  | .ineg => match st with
    | .int x :: st => k (pc + len) al (.int (-x) :: st) M
    | _ => none
  | .ishl => match st with
    | .int y :: .int x :: st => k (pc + len) al (.int (x <<< (y &&& 31)) :: st) M
    | _ => none
  | .ishr => match st with
    | .int y :: .int x :: st => k (pc + len) al (.int (x >>> (y &&& 31)) :: st) M
    | _ => none
  | .iushr => match st with
    | .int y :: .int x :: st => k (pc + len) al (.int (x.toUInt32 >>> (y.toUInt32 &&& Int32.toUInt32 31)).toInt32 :: st) M
    | _ => none
  | .lshl => match st with
    | .int y :: .long x :: st => k (pc + len) al (.long (x <<< (y.toInt64 &&& 63)) :: st) M
    | _ => none
  | .lor => match st with
    | .long y :: .long x :: st => k (pc + len) al (.long (x ||| y) :: st) M
    | _ => none
  | .lcmp => match st with
    | .long y :: .long x :: st => k (pc + len) al (.int (lg_cmp x y) :: st) M
    | _ => none
  | .i2l => match st with
    | .int x :: st => k (pc + len) al (.long x.toInt64 :: st) M
    | _ => none
  | .i2b => match st with
    | .int x :: st => k (pc + len) al (.int x.toInt8.toInt32 :: st) M
    | _ => none
  | .i2c => match st with
    | .int x :: st => k (pc + len) al (.int (x.toUInt32 % 65536).toInt32 :: st) M
    | _ => none
  | .dup => match st with
    | .ref x :: st => k (pc + len) al (.ref x :: .ref x :: st) M
    | .int x :: st => k (pc + len) al (.int x :: .int x :: st) M
    | _ => none
  | .pop => match st with
    | .int _ :: st => k (pc + len) al st M
    | _ => none
  | .dup_x1 => match st with
    | .int x :: .ref y :: st => k (pc + len) al (.int x :: .ref y :: .int x :: st) M
    | _ => none
  | .dup2 => match st with
    | .int x :: .ref y :: st => k (pc + len) al (.int x :: .ref y :: .int x :: .ref y :: st) M
    | _ => none
  | .goto _ => match tg with
    | [t] => k t al st M
    | _ => none
  | .ifCond c _ => match tg, st with
    | [t], .int x :: st => if am_cond c x 0 = true then k t al st M else k (pc + len) al st M
    | _, _ => none
  | .if_icmp c _ => match tg, st with
    | [t], .int y :: .int x :: st => if am_cond c x y = true then k t al st M else k (pc + len) al st M
    | _, _ => none
  | .if_acmp .ne _ => match tg, st with
    | [t], .ref y :: .ref x :: st => if ¬ x = y then k t al st M else k (pc + len) al st M
    | _, _ => none
  | .if_acmp .eq _ => match tg, st with
    | [t], .ref y :: .ref x :: st => if x = y then k t al st M else k (pc + len) al st M
    | _, _ => none
  | .ifnonnull _ => match tg, st with
    | [t], .ref _ :: st => k t al st M
    | [_], .null :: st => k (pc + len) al st M
    | _, _ => none
  | .tableswitch _ lo hi _ => match tg, st with
    | d :: ts, .int x :: st => if x.toInt < lo ∨ hi < x.toInt then k d al st M else (ts[(x.toInt - lo).toNat]?).bind (fun t => k t al st M)
    | _, _ => none
  | .lookupswitch _ ps => match tg, st with
    | d :: ts, .int x :: st => k (((ps.toList.zip ts).find? (fun q => decide (q.1.1 = x.toInt))).elim d (fun q => q.2)) al st M
    | _, _ => none
  | .getfield _ => match tg, st with
    | [ci, f, 0], .ref a :: st => (am_gi M a ci f).bind (fun x => k (pc + len) al (.int x :: st) M)
    | [ci, f, 1], .ref a :: st => (am_gr M a ci f).bind (fun x => k (pc + len) al (.ref x :: st) M)
    | _, _ => none
  | .putfield _ => match tg, st with
    | [ci, f, ty], v :: .ref a :: st => (am_pf M a ci f ty v).bind (fun M => k (pc + len) al st M)
    | _, _ => none
  | .getstatic _ => match tg with
    | [q] => k (pc + len) al (.ref (P.2.1 q) :: st) M
    | [n, _] => k (pc + len) al (.int (nI n) :: st) M
    | [q, _, _] => k (pc + len) al (am_zv P.2.1 q :: st) M
    | _ => none
  | .arraylength => match st with
    | .ref a :: st => (am_len M a).bind (fun x => k (pc + len) al (.int x :: st) M)
    | _ => none
  | .iaload => match st with
    | .int j :: .ref a :: st => (am_il M a j [1, 101]).bind (fun x => k (pc + len) al (.int x :: st) M)
    | _ => none
  | .baload => match st with
    | .int j :: .ref a :: st => (am_il M a j [0, 2, 100]).bind (fun x => k (pc + len) al (.int x :: st) M)
    | _ => none
  | .laload => match st with
    | .int j :: .ref a :: st => (am_ll M a j).bind (fun x => k (pc + len) al (.long x :: st) M)
    | _ => none
  | .aaload => match st with
    | .int j :: .ref a :: st => (am_al M a j).bind (fun x => k (pc + len) al (.ref x :: st) M)
    | _ => none
  | .iastore => match st with
    | .int x :: .int j :: .ref a :: st => (am_is M a j [1] x).bind (fun M => k (pc + len) al st M)
    | _ => none
  | .bastore => match st with
    | .int x :: .int j :: .ref a :: st => (am_is M a j [0, 2] x).bind (fun M => k (pc + len) al st M)
    | _ => none
  | .lastore => match st with
    | .long x :: .int j :: .ref a :: st => (am_ls M a j x).bind (fun M => k (pc + len) al st M)
    | _ => none
  | .aastore => match st with
    | .ref q :: .int j :: .ref a :: st => (am_as M a j q).bind (fun M => k (pc + len) al st M)
    | _ => none
  | .newarray _ => match tg, st with
    | [t], .int n :: st => (am_na M t n).bind (fun M1 => k (pc + len) al (.ref M.1 :: st) M1)
    | _, _ => none
  | .anewarray _ => match tg, st with
    | [t], .int n :: st => (am_na M t n).bind (fun M1 => k (pc + len) al (.ref M.1 :: st) M1)
    | _, _ => none
  | .multianewarray _ _ => match tg, st with
    | [x, y], .int n :: .int m :: st => if m = nI x ∧ n = nI y ∧ x < 1000 ∧ y < 1000 then k (pc + len) al (.ref M.1 :: st) (am_mna M x y) else none
    | _, _ => none
  | _ => none
def am_ent (args : List Value) (n : Nat) : am_L := args.map some ++ List.replicate (n - args.length) none
def am_w : List Value → Nat
  | [] => 0
  | v :: t => (if am_two v = true then 2 else 1) + am_w t
def am_ret0 (r : Option am_R) (k : am_M → Option am_R) : Option am_R := match r with
  | some (.inl none, M) => k M
  | _ => none
def am_ret1 (r : Option am_R) (k : Int32 → am_M → Option am_R) : Option am_R := match r with
  | some (.inl (some (.int x)), M) => k x M
  | _ => none
def am_ret2 (r : Option am_R) (k : Nat → am_M → Option am_R) : Option am_R := match r with
  | some (.inl (some (.ref x)), M) => k x M
  | _ => none
def am_ret3 (r : Option am_R) (k : Nat → am_M → Option am_R) (kn : am_M → Option am_R) : Option am_R := match r with
  | some (.inl (some (.ref x)), M) => k x M
  | some (.inl (some .null), M) => kn M
  | _ => none
/-- the handler for the class of the object thrown -/
def am_hd (c : Nat) : List Nat → Option Nat
  | a :: b :: t => if a = c then some b else am_hd c t
  | _ => none
def am_thr (r : Option am_R) (hs : List Nat) (k : Nat → Nat → am_M → Option am_R) (go : Option am_R) : Option am_R := match r with
  | some (.inr a, M) => match M.2.2 a with
    | some (.inr (c, _)) => (am_hd c hs).bind (fun h => k h a M)
    | _ => none
  | _ => go
def am_cls (M : am_M) (a ci : Nat) : Bool := match M.2.2 a with
  | some (.inr (c, _)) => decide (c = ci)
  | _ => false
/-- behind a call: by the kind of its answer (0 none, 1 a number, 2 a reference, 3 a reference or null) -/
def am_back (rk : Nat) (r : Option am_R) (rest : List Value) (k : List Value → am_M → Option am_R) : Option am_R := match rk with
  | 0 => am_ret0 r (fun M => k rest M)
  | 1 => am_ret1 r (fun x M => k (.int x :: rest) M)
  | 2 => am_ret2 r (fun x M => k (.ref x :: rest) M)
  | _ => am_ret3 r (fun x M => k (.ref x :: rest) M) (fun M => k (.null :: rest) M)
/-- an instruction: rn runs the rest -/
def am_exec (rn : Nat → Nat → Nat → am_L → List Value → am_M → Option am_R) (P : am_P) (d mi pc : Nat) (al : am_L) (st : List Value) (M : am_M) (i : Instr) (len : Nat) (tg : List Nat) : Option am_R := match i with
  | .ireturn => match st with
    | [.int x] => if am_fit (P.2.2.2 mi).2 (.int x) = true then some (.inl (some (.int x)), M) else none
    | _ => none
  | .areturn => match st with
    | [.ref x] => if 2 ≤ (P.2.2.2 mi).2 ∧ (P.2.2.2 mi).2 ≤ 3 then some (.inl (some (.ref x)), M) else none
    | [.null] => if 2 ≤ (P.2.2.2 mi).2 ∧ (P.2.2.2 mi).2 ≤ 3 then some (.inl (some .null), M) else none
    | _ => none
  | .return_ => match st with
    | [] => if (P.2.2.2 mi).2 = 9 then some (.inl none, M) else none
    | _ => none
  | .new _ => match tg, d with
    | [ci, _, _], _ + 6 => if am_w st ≤ 8 then some (.inr M.1, am_push M 6 (.inr (ci + 10, []))) else none
    | [ci, k], _ => rn d mi (pc + 3) al (.ref M.1 :: st) (am_push M k (.inr (ci, P.2.2.1 ci)))
    | _, _ => none
  | .invokevirtual _ => match tg, d with
    | m2 :: na :: rk :: ci :: hs, d2 + 1 => if na ≤ st.length ∧ am_w (st.drop na) ≤ 8 ∧ am_w (st.take na) = na ∧ na ≤ (P.2.2.2 m2).1 then match st.drop (na - 1) with
      | .ref a :: rest => if am_cls M a ci = true then
          if hs = [] then am_back rk (rn d2 m2 0 (am_ent (st.take na).reverse (P.2.2.2 m2).1) [] M) rest (fun st2 M2 => rn (d2 + 1) mi (pc + 3) al st2 M2)
          else am_thr (rn d2 m2 0 (am_ent (st.take na).reverse (P.2.2.2 m2).1) [] M) hs (fun h a M2 => rn (d2 + 1) mi h al [.ref a] M2)
            (am_back rk (rn d2 m2 0 (am_ent (st.take na).reverse (P.2.2.2 m2).1) [] M) rest (fun st2 M2 => rn (d2 + 1) mi (pc + 3) al st2 M2))
        else none
      | _ => none else none
    | _, _ => none
  | .invokestatic _ => match tg, d with
    | [], _ + 1 => match st with
      | .int x :: .int dp :: .ref b :: .int sp :: .ref a :: st2 => if am_w st2 ≤ 8 then (am_cpy M a sp b dp x).bind (fun M2 => rn d mi (pc + 3) al st2 M2) else none
      | _ => none
    | [m2, na, rk], d2 + 1 => if na ≤ st.length ∧ am_w (st.drop na) ≤ 8 ∧ am_w (st.take na) = na ∧ na ≤ (P.2.2.2 m2).1 then am_back rk (rn d2 m2 0 (am_ent (st.take na).reverse (P.2.2.2 m2).1) [] M) (st.drop na) (fun st2 M2 => rn (d2 + 1) mi (pc + 3) al st2 M2) else none
    | _, _ => none
  | .invokespecial _ => match tg, d with
    | [], _ + 1 => match st with
      | .ref _ :: st2 => if am_w st2 ≤ 8 then rn d mi (pc + 3) al st2 M else none
      | _ => none
    | [m2, na], d2 + 1 => if na ≤ st.length ∧ am_w (st.drop na) ≤ 8 ∧ am_w (st.take na) = na ∧ na ≤ (P.2.2.2 m2).1 then match st.drop (na - 1) with
      | .ref _ :: rest => am_ret0 (rn d2 m2 0 (am_ent (st.take na).reverse (P.2.2.2 m2).1) [] M) (fun M2 => rn (d2 + 1) mi (pc + 3) al rest M2)
      | _ => none else none
    | _, _ => none
  | i => am_ins P i len tg pc al st M (fun pc2 al2 st2 M2 => rn d mi pc2 al2 st2 M2)
/-- a run: fuel, program, depth left, method, pc, locals, stack, memory. A call's row: method, arguments with the receiver, kind of the answer, class of the receiver, handlers -/
def am_run : Nat → am_P → Nat → Nat → Nat → am_L → List Value → am_M → Option am_R
  | 0, _, _, _, _, _, _, _ => none
  | n + 1, P, d, mi, pc, al, st, M => match P.1 mi pc with
    | none => none
    | some (i, len, tg) => am_exec (am_run n P) P d mi pc al st M i len tg
