/-! THE SMALL MACHINE: bytecode over a plain memory, as a function; proved sound over the real one once, for all methods -/
/-- the memory: the next address, the slots made so far, the cells (arrays by a tag of their kind; objects by the number of their class) -/
abbrev am_M : Type := Nat × Nat × (Nat → Option va_E)
abbrev am_L : Type := List (Option Value)
/-- a row of a method's table: the instruction, its length, what it is resolved to -/
abbrev am_T : Type := Instr × Nat × List Nat
/-- the program: tables by method and pc; statics and texts; default fields by class; a method's locals and its answer's kind -/
abbrev am_P : Type := (Nat → Nat → Option am_T) × (Nat → Nat) × (Nat → List Value) × (Nat → Nat × Nat)
/-- how a run ends: it answers, or throws the object at an address; and the memory -/
abbrev am_R : Type := (Option Value ⊕ Nat) × am_M
def am_two : Value → Bool
  | .long _ => true
  | .double _ => true
  | _ => false
def am_kill (al : am_L) : Nat → am_L
  | 0 => al
  | j + 1 => match al[j]? with
    | some (some v) => if am_two v = true then al.set j none else al
    | _ => al
def am_set (al : am_L) (i : Nat) (v : Value) : am_L := if am_two v = true then ((am_kill al i).set i (some v)).set (i + 1) none else (am_kill al i).set i (some v)
def am_lv : Nat → am_L → List (Nat × Value)
  | _, [] => []
  | k, none :: t => am_lv (k + 1) t
  | k, some v :: t => (k, v) :: am_lv (k + 1) t
/-- does a value fit a kind of field: 0 int, 1 boolean, 2 object, 3 array, 4 long, 5 byte, 6 char -/
def am_fit (k : Nat) (v : Value) : Bool := match k, v with
  | 0, .int _ => true
  | 1, .int x => decide (x = 0) || decide (x = 1)
  | 2, .ref _ => true
  | 2, .null => true
  | 3, .ref _ => true
  | 3, .null => true
  | 4, .long _ => true
  | 5, .int x => decide (x.toInt8.toInt32 = x)
  | 6, .int x => decide (x.toUInt32.toUInt16.toUInt32.toInt32 = x)
  | _, _ => false
def am_upd (M : am_M) (a : Nat) (e : va_E) : am_M := (M.1, M.2.1, fun q => if q = a then some e else M.2.2 q)
def am_push (M : am_M) (n : Nat) (e : va_E) : am_M := (M.1 + 1, M.2.1 + n, fun q => if q = M.1 then some e else M.2.2 q)
/-- a field of an object, a whole number; a reference; a long -/
def am_gv (M : am_M) (a ci k : Nat) : Option Value := match M.2.2 a with
  | some (.inr (c, fs)) => if c = ci then fs[k]? else none
  | _ => none
def am_gi (M : am_M) (a ci k : Nat) : Option Int32 := match am_gv M a ci k with
  | some (.int x) => some x
  | _ => none
def am_gr (M : am_M) (a ci k : Nat) : Option Nat := match am_gv M a ci k with
  | some (.ref x) => some x
  | _ => none
def am_pf (M : am_M) (a ci k ty : Nat) (v : Value) : Option am_M := match M.2.2 a with
  | some (.inr (c, fs)) => if c = ci ∧ c < 100 ∧ k < fs.length ∧ am_fit ty v = true then some (am_upd M a (.inr (c, fs.set k v))) else none
  | _ => none
/-- an index into n places -/
def am_ix (i : Int32) (n : Nat) : Option Nat := if i < 0 ∨ n ≤ i.toNatClampNeg then none else some i.toNatClampNeg
/-- an int, byte, boolean or char of an array: its tag is one of ts -/
def am_il (M : am_M) (a : Nat) (i : Int32) (ts : List Nat) : Option Int32 := match M.2.2 a with
  | some (.inl (t, n, .inl f)) => if t ∈ ts then (am_ix i n).map f else none
  | _ => none
def am_ll (M : am_M) (a : Nat) (i : Int32) : Option Int64 := match M.2.2 a with
  | some (.inl (t, n, .inr (.inl f))) => if t = 3 then (am_ix i n).map f else none
  | _ => none
def am_al (M : am_M) (a : Nat) (i : Int32) : Option Nat := match M.2.2 a with
  | some (.inl (t, n, .inr (.inr (.inr (.inr f))))) => if t = 4 ∨ t = 5 ∨ t = 102 then (am_ix i n).bind f else none
  | _ => none
/-- what is stored into an array of that tag -/
def am_nar (t : Nat) (x : Int32) : Int32 := if t = 0 then x.toInt8.toInt32 else if t = 2 then x &&& 1 else x
def am_is (M : am_M) (a : Nat) (i : Int32) (ts : List Nat) (x : Int32) : Option am_M := match M.2.2 a with
  | some (.inl (t, n, .inl f)) => if t ∈ ts then (am_ix i n).map (fun j => am_upd M a (.inl (t, n, .inl (upd f j (am_nar t x))))) else none
  | _ => none
def am_ls (M : am_M) (a : Nat) (i : Int32) (x : Int64) : Option am_M := match M.2.2 a with
  | some (.inl (t, n, .inr (.inl f))) => if t = 3 then (am_ix i n).map (fun j => am_upd M a (.inl (t, n, .inr (.inl (vp_updL f j x))))) else none
  | _ => none
/-- a reference into an array of objects: tag 4 takes objects of class 1 -/
def am_as (M : am_M) (a : Nat) (i : Int32) (q : Nat) : Option am_M := match M.2.2 a, M.2.2 q with
  | some (.inl (t, n, .inr (.inr (.inr (.inr f))))), some (.inr (c, _)) => if t = 4 ∧ c = 1 then (am_ix i n).map (fun j => am_upd M a (.inl (t, n, .inr (.inr (.inr (.inr (va_up f j (some q)))))))) else none
  | _, _ => none
def am_len (M : am_M) (a : Nat) : Option Int32 := match M.2.2 a with
  | some (.inl (_, n, _)) => some (nI n)
  | _ => none
/-- a new array of a tag -/
def am_na (M : am_M) (t : Nat) (x : Int32) : Option am_M :=
  if x < 0 ∨ 60000000 ≤ x.toNatClampNeg then none else
    if t ≤ 2 then some (am_push M x.toNatClampNeg (.inl (t, x.toNatClampNeg, .inl (fun _ => 0))))
    else if t = 3 then some (am_push M x.toNatClampNeg (.inl (t, x.toNatClampNeg, .inr (.inl (fun _ => 0)))))
    else if t = 4 then some (am_push M x.toNatClampNeg (.inl (t, x.toNatClampNeg, .inr (.inr (.inr (.inr (fun _ => none)))))))
    else none
/-- System.arraycopy between arrays of one tag, bytes or ints -/
def am_cpy (M : am_M) (a : Nat) (sp : Int32) (b : Nat) (dp n : Int32) : Option am_M := match M.2.2 a, M.2.2 b with
  | some (.inl (t, n0, .inl f)), some (.inl (t1, n1, .inl g)) => if t = t1 ∧ t < 2 ∧ ¬ sp < 0 ∧ ¬ dp < 0 ∧ ¬ n < 0 ∧ sp.toNatClampNeg + n.toNatClampNeg ≤ n0 ∧ dp.toNatClampNeg + n.toNatClampNeg ≤ n1 then some (am_upd M b (.inl (t1, n1, .inl (va_cpy f g sp.toNatClampNeg dp.toNatClampNeg n.toNatClampNeg)))) else none
  | _, _ => none
/-- new int[x][y]: the outer array and its rows, one behind the other -/
def am_mna (M : am_M) (x y : Nat) : am_M := (M.1 + 1 + x, M.2.1 + x + x * y, fun q => if q = M.1 then some (.inl (5, x, .inr (.inr (.inr (.inr (fun i => if i < x then some (M.1 + 1 + i) else none)))))) else if M.1 < q ∧ q ≤ M.1 + x then some (.inl (1, y, .inl (fun _ => 0))) else M.2.2 q)
def am_cv : List Nat → Option Int32
  | [n] => some (nI n)
  | [n, _] => some (-(nI n))
  | _ => none
def am_cond (c : ClassFile.Cond) (x y : Int32) : Bool := match c with
  | .eq => decide (x = y)
  | .ne => decide (¬ x = y)
  | .lt => decide (x < y)
  | .ge => decide (y ≤ x)
  | .gt => decide (y < x)
  | .le => decide (x ≤ y)
/-- a static that is null or an object -/
def am_zv (ad : Nat → Nat) (q : Nat) : Value := if ad (q + 1) = 0 then .null else .ref (ad q)
