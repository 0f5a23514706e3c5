/-! ===== THE SMALL MACHINE: what the bytecode does, as a function: of lists, without the tables, the frames below and the words of the heap. =====
A value: an int, a long, a reference to one of its own cells (or null), a thing outside (0: the script; 2k + 1, 2k + 2: String constant k, its bytes; 5: what is said of no more than that it is a reference). -/
abbrev mV : Type := Int32 ⊕ (Int64 ⊕ (Option Nat ⊕ Nat))
abbrev mA : Type := List Int32 ⊕ (List Int64 ⊕ List (Option Nat))
/-- a cell: an object (the place of its class, its fields), an array (the place of its type, what it holds) -/
abbrev mC : Type := (Nat × List mV) ⊕ (Nat × mA)
abbrev mH : Type := List mC
abbrev mI (x : Int32) : mV := .inl x
abbrev mJ (x : Int64) : mV := .inr (.inl x)
abbrev mR (r : Option Nat) : mV := .inr (.inr (.inl r))
abbrev mE (k : Nat) : mV := .inr (.inr (.inr k))
def mcat : mV → Nat
  | .inr (.inl _) => 2
  | _ => 1
/-- two ints, one int, two longs off the stack -/
def mB (f : Int32 → Int32 → mV) : List mV → Option (Nat × List mV)
  | .inl y :: .inl x :: r => some (1, f x y :: r)
  | _ => none
def mU (f : Int32 → mV) : List mV → Option (Nat × List mV)
  | .inl x :: r => some (1, f x :: r)
  | _ => none
def mBJ (f : Int64 → Int64 → mV) : List mV → Option (Nat × List mV)
  | .inr (.inl y) :: .inr (.inl x) :: r => some (1, f x y :: r)
  | _ => none
def mUJ (f : Int64 → mV) : List mV → Option (Nat × List mV)
  | .inr (.inl x) :: r => some (1, f x :: r)
  | _ => none
/-- instructions of the stack alone: the length, the stack behind -/
def mS (i : Jvm.ClassFile.Instr) (st : List mV) : Option (Nat × List mV) := match i with
  | .iconst n => some (1, mI (Int32.ofInt n) :: st)
  | .bipush n => some (2, mI (Int8.ofInt n).toInt32 :: st)
  | .sipush n => some (3, mI (Int16.ofInt n).toInt32 :: st)
  | .lconst n => some (1, mJ (Int64.ofNat (n : Nat)) :: st)
  | .aconst_null => some (1, mR none :: st)
  | .iadd => mB (fun x y => mI (x + y)) st
  | .isub => mB (fun x y => mI (x - y)) st
  | .imul => mB (fun x y => mI (x * y)) st
  | .iand => mB (fun x y => mI (x &&& y)) st
  | .ior => mB (fun x y => mI (x ||| y)) st
  | .ixor => mB (fun x y => mI (x ^^^ y)) st
  | .ishl => mB (fun x y => mI (x <<< (y &&& 31))) st
  | .ishr => mB (fun x y => mI (x >>> (y &&& 31))) st
  | .iushr => mB (fun x y => mI ((x.toUInt32 >>> (y.toUInt32 &&& Int32.toUInt32 31)).toInt32)) st
  | .idiv => match st with
    | .inl y :: .inl x :: r => if y = 0 then none else some (1, mI (x / y) :: r)
    | _ => none
  | .irem => match st with
    | .inl y :: .inl x :: r => if y = 0 then none else some (1, mI (x - x / y * y) :: r)
    | _ => none
  | .ineg => mU (fun x => mI (-x)) st
  | .i2b => mU (fun x => mI x.toInt8.toInt32) st
  | .i2c => mU (fun x => mI (x.toUInt32 % 65536).toInt32) st
  | .i2l => mU (fun x => mJ x.toInt64) st
  | .l2i => mUJ (fun x => mI x.toInt32) st
  | .ladd => mBJ (fun x y => mJ (x + y)) st
  | .lmul => mBJ (fun x y => mJ (x * y)) st
  | .lcmp => mBJ (fun x y => mI (lg_cmp x y)) st
  | .dup => match st with
    | v :: r => if mcat v = 1 then some (1, v :: v :: r) else none
    | _ => none
  | .dup2 => match st with
    | v :: w :: r => if mcat v = 1 ∧ mcat w = 1 then some (1, v :: w :: v :: w :: r) else none
    | _ => none
  | .pop => match st with
    | v :: r => if mcat v = 1 then some (1, r) else none
    | _ => none
  | _ => none
/-- which local an instruction loads, of which kind (0: int, 1: long, 2: reference), its length -/
def mLd (i : Jvm.ClassFile.Instr) : Option (Nat × Nat × Nat) := match i with
  | .iload_n k => some (k, 0, 1)
  | .iload k => some (k, 0, 2)
  | .lload_n k => some (k, 1, 1)
  | .lload k => some (k, 1, 2)
  | .aload_n k => some (k, 2, 1)
  | .aload k => some (k, 2, 2)
  | _ => none
def mSt (i : Jvm.ClassFile.Instr) : Option (Nat × Nat × Nat) := match i with
  | .istore_n k => some (k, 0, 1)
  | .istore k => some (k, 0, 2)
  | .lstore_n k => some (k, 1, 1)
  | .lstore k => some (k, 1, 2)
  | .astore_n k => some (k, 2, 1)
  | .astore k => some (k, 2, 2)
  | _ => none
def mkind : mV → Nat
  | .inl _ => 0
  | .inr (.inl _) => 1
  | .inr (.inr _) => 2
abbrev mL : Type := List (Option mV)
/-- the slot ahead of place i, if it holds a long, is a long no more -/
def mcl (ls : mL) : Nat → mL
  | 0 => ls
  | i + 1 => match ls[i]? with
    | some (some (.inr (.inl _))) => ls.set i none
    | _ => ls
def mput1 (ls : mL) (i : Nat) (v : mV) : mL := (mcl ls i).set i (some v)
def mput2 (ls : mL) (i : Nat) (v : mV) : mL := ((mcl ls i).set i (some v)).set (i + 1) none
/-- a branch: taken or not, and where to -/
def mcond : Jvm.ClassFile.Cond → Int32 → Int32 → Bool
  | .eq, x, y => decide (x = y)
  | .ne, x, y => decide (¬ x = y)
  | .lt, x, y => decide (x < y)
  | .ge, x, y => decide (y ≤ x)
  | .gt, x, y => decide (y < x)
  | .le, x, y => decide (x ≤ y)
def mto (pc : Nat) (off : Int) : Option Nat := if 0 ≤ (pc : Int) + off then some ((pc : Int) + off).toNat else none
def mBr (i : Jvm.ClassFile.Instr) (len pc : Nat) (st : List mV) : Option (Nat × List mV) := match i with
  | .goto off => if len = 3 then (mto pc off).map (fun t => (t, st)) else none
  | .ifCond cd off => match st with
    | .inl x :: r => if len = 3 then ((mto pc off).map (fun t => (if mcond cd x 0 then t else pc + 3, r))) else none
    | _ => none
  | .if_icmp cd off => match st with
    | .inl y :: .inl x :: r => if len = 3 then ((mto pc off).map (fun t => (if mcond cd x y then t else pc + 3, r))) else none
    | _ => none
  | .ifnull off => match st with
    | .inr (.inr (.inl none)) :: r => if len = 3 then (mto pc off).map (fun t => (t, r)) else none
    | .inr (.inr (.inl (some _))) :: r => if len = 3 then some (pc + 3, r) else none
    | _ => none
  | .ifnonnull off => match st with
    | .inr (.inr (.inl (some _))) :: r => if len = 3 then (mto pc off).map (fun t => (t, r)) else none
    | .inr (.inr (.inl none)) :: r => if len = 3 then some (pc + 3, r) else none
    | _ => none
  | .tableswitch dflt lo hi offs => match st with
    | .inl x :: r => if x.toInt < lo ∨ hi < x.toInt then (mto pc dflt).map (fun t => (t, r)) else match offs[(x.toInt - lo).toNat]? with
      | some off => (mto pc off).map (fun t => (t, r))
      | none => none
    | _ => none
  | _ => none
/-- arrays: reading -/
def mix (x : Int32) (n : Nat) : Bool := decide (0 ≤ x.toInt) && decide (x.toInt < n)
def mGetA (XA : Nat → Option (Nat × List Int32)) (i : Jvm.ClassFile.Instr) (st : List mV) (h : mH) : Option (List mV) := match i with
  | .iaload => match st with
    | .inl j :: .inr (.inr (.inl (some a))) :: r => match h[a]? with
      | some (.inr (0, .inl xs)) => if mix j xs.length then some (mI (xs.getD j.toNatClampNeg 0) :: r) else none
      | _ => none
    | .inl j :: .inr (.inr (.inr k)) :: r => match XA k with
      | some (0, xs) => if mix j xs.length then some (mI (xs.getD j.toNatClampNeg 0) :: r) else none
      | _ => none
    | _ => none
  | .baload => match st with
    | .inl j :: .inr (.inr (.inl (some a))) :: r => match h[a]? with
      | some (.inr (2, .inl xs)) => if mix j xs.length then some (mI (xs.getD j.toNatClampNeg 0) :: r) else none
      | some (.inr (3, .inl xs)) => if mix j xs.length then some (mI (xs.getD j.toNatClampNeg 0) :: r) else none
      | _ => none
    | .inl j :: .inr (.inr (.inr k)) :: r => match XA k with
      | some (2, xs) => if mix j xs.length then some (mI (xs.getD j.toNatClampNeg 0) :: r) else none
      | _ => none
    | _ => none
  | .laload => match st with
    | .inl j :: .inr (.inr (.inl (some a))) :: r => match h[a]? with
      | some (.inr (1, .inr (.inl xs))) => if mix j xs.length then some (mJ (xs.getD j.toNatClampNeg 0) :: r) else none
      | _ => none
    | _ => none
  | .aaload => match st with
    | .inl j :: .inr (.inr (.inl (some a))) :: r => match h[a]? with
      | some (.inr (4, .inr (.inr xs))) => if mix j xs.length then some (mR (xs.getD j.toNatClampNeg none) :: r) else none
      | _ => none
    | _ => none
  | .arraylength => match st with
    | .inr (.inr (.inl (some a))) :: r => match h[a]? with
      | some (.inr (_, .inl xs)) => some (mI (Int32.ofNat xs.length) :: r)
      | some (.inr (_, .inr (.inl xs))) => some (mI (Int32.ofNat xs.length) :: r)
      | some (.inr (_, .inr (.inr xs))) => some (mI (Int32.ofNat xs.length) :: r)
      | _ => none
    | .inr (.inr (.inr k)) :: r => match XA k with
      | some (_, xs) => some (mI (Int32.ofNat xs.length) :: r)
      | none => none
    | _ => none
  | _ => none
/-- arrays: writing; cs: the place of the class whose objects the array of references holds -/
def mPutA (cs : Nat) (i : Jvm.ClassFile.Instr) (st : List mV) (h : mH) : Option (List mV × mH) := match i with
  | .iastore => match st with
    | .inl x :: .inl j :: .inr (.inr (.inl (some a))) :: r => match h[a]? with
      | some (.inr (0, .inl xs)) => if mix j xs.length then some (r, h.set a (.inr (0, .inl (xs.set j.toNatClampNeg x)))) else none
      | _ => none
    | _ => none
  | .bastore => match st with
    | .inl x :: .inl j :: .inr (.inr (.inl (some a))) :: r => match h[a]? with
      | some (.inr (2, .inl xs)) => if mix j xs.length then some (r, h.set a (.inr (2, .inl (xs.set j.toNatClampNeg x.toInt8.toInt32)))) else none
      | some (.inr (3, .inl xs)) => if mix j xs.length then some (r, h.set a (.inr (3, .inl (xs.set j.toNatClampNeg (vp_nar .boolean x))))) else none
      | _ => none
    | _ => none
  | .lastore => match st with
    | .inr (.inl x) :: .inl j :: .inr (.inr (.inl (some a))) :: r => match h[a]? with
      | some (.inr (1, .inr (.inl xs))) => if mix j xs.length then some (r, h.set a (.inr (1, .inr (.inl (xs.set j.toNatClampNeg x))))) else none
      | _ => none
    | _ => none
  | .aastore => match st with
    | .inr (.inr (.inl (some b))) :: .inl j :: .inr (.inr (.inl (some a))) :: r => match h[a]?, h[b]? with
      | some (.inr (4, .inr (.inr xs))), some (.inl (ci, _)) => if mix j xs.length ∧ ci = cs then some (r, h.set a (.inr (4, .inr (.inr (xs.set j.toNatClampNeg (some b)))))) else none
      | _, _ => none
    | _ => none
  | _ => none
/-- a pool entry: (0, class, field) · (1, method, kind: 0 virtual, 1 static, 2 special, 3 special of a nest mate) · (2, String constant) · (3, class) · (8, 0 value or 1 coder of a String) · (9, 0 String's COMPACT_STRINGS, 1 a reference) · (5, an int) · (6, a long) · (7, a method of the JDK's) -/
abbrev mP : Type := Nat × Nat × Int
/-- a method: class, static, how many arguments (the receiver counts), locals, answer (0 none, 1 int, 2 boolean, 3 long, 4 reference, 5 byte, 6 char), constructor, code -/
abbrev mM : Type := Nat × Bool × Nat × Nat × Nat × Bool × List (Nat × Jvm.ClassFile.Instr × Nat)
def mfit (ty : FieldType) (v : mV) : Bool := match ty, v with
  | .int, .inl _ => true
  | .boolean, .inl x => decide (x = 0) || decide (x = 1)
  | .long, .inr (.inl _) => true
  | .object _, .inr (.inr (.inl _)) => true
  | .array _, .inr (.inr (.inl _)) => true
  | _, _ => false
/-- fields; tf: a field's type and whether it is final -/
def mGetF (cp : Option mP) (st : List mV) (h : mH) : Option (List mV) := match cp, st with
  | some (8, 0, _), .inr (.inr (.inr 1)) :: r => some (mE 2 :: r)
  | some (8, 0, _), .inr (.inr (.inr 3)) :: r => some (mE 4 :: r)
  | some (8, 1, _), .inr (.inr (.inr 1)) :: r => some (mI 0 :: r)
  | some (8, 1, _), .inr (.inr (.inr 3)) :: r => some (mI 0 :: r)
  | some (0, ci, k), .inr (.inr (.inl (some a))) :: r => match h[a]? with
    | some (.inl (c, fs)) => if c = ci then (fs[k.toNat]?).map (fun v => v :: r) else none
    | _ => none
  | _, _ => none
def mPutF (tf : Nat → Nat → Option (FieldType × Bool)) (own : Nat) (ini : Bool) (cp : Option mP) (st : List mV) (h : mH) : Option (List mV × mH) := match cp, st with
  | some (0, ci, k), v :: .inr (.inr (.inl (some a))) :: r => match h[a]?, tf ci k.toNat with
    | some (.inl (c, fs)), some (ty, fin) => if c = ci ∧ mfit ty v = true ∧ k.toNat < fs.length ∧ (fin = true → ini = true ∧ ci = own) then some (r, h.set a (.inl (c, fs.set k.toNat v))) else none
    | _, _ => none
  | _, _ => none
def mdef : FieldType → mV
  | .long => mJ 0
  | .object _ => mR none
  | .array _ => mR none
  | _ => mI 0
/-- new objects and arrays; nf: a class's fields' types -/
def mNew (cs : Nat) (nf : Nat → Option (List FieldType)) (cp : Nat → Option mP) (i : Jvm.ClassFile.Instr) (st : List mV) (h : mH) : Option (Nat × List mV × mH) := match i with
  | .new idx => match cp idx with
    | some (3, ci, _) => match nf ci with
      | some fts => some (3, mR (some h.length) :: st, h ++ [.inl (ci, fts.map mdef)])
      | none => none
    | _ => none
  | .newarray at' => match st with
    | .inl n :: r => if 0 ≤ n.toInt ∧ n.toInt ≤ 65536 then (match at' with
      | .int => some (2, mR (some h.length) :: r, h ++ [.inr (0, .inl (List.replicate n.toNatClampNeg 0))])
      | .long => some (2, mR (some h.length) :: r, h ++ [.inr (1, .inr (.inl (List.replicate n.toNatClampNeg 0)))])
      | .byte => some (2, mR (some h.length) :: r, h ++ [.inr (2, .inl (List.replicate n.toNatClampNeg 0))])
      | .boolean => some (2, mR (some h.length) :: r, h ++ [.inr (3, .inl (List.replicate n.toNatClampNeg 0))])
      | _ => none) else none
    | _ => none
  | .anewarray idx => match cp idx, st with
    | some (3, ci, _), .inl n :: r => if ci = cs ∧ 0 ≤ n.toInt ∧ n.toInt ≤ 65536 then some (3, mR (some h.length) :: r, h ++ [.inr (4, .inr (.inr (List.replicate n.toNatClampNeg none)))]) else none
    | _, _ => none
  | _ => none
/-- constants of the pool -/
def mLdc (cp : Nat → Option mP) (i : Jvm.ClassFile.Instr) : Option (Nat × mV) := match i with
  | .ldc idx => match cp idx with
    | some (5, _, v) => some (2, mI (Int32.ofInt v))
    | some (2, k, _) => some (2, mE (2 * k + 1))
    | _ => none
  | .ldc_w idx => match cp idx with
    | some (5, _, v) => some (3, mI (Int32.ofInt v))
    | _ => none
  | .ldc2_w idx => match cp idx with
    | some (6, _, v) => some (3, mJ (Int64.ofInt v))
    | _ => none
  | .getstatic idx => match cp idx with
    | some (9, 0, _) => some (3, mI 1)
    | some (9, 1, _) => some (3, mE 5)
    | _ => none
  | _ => none
/-- a method's own start: its arguments in its first locals -/
def mEnt : List mV → mL
  | [] => []
  | .inr (.inl x) :: r => some (mJ x) :: none :: mEnt r
  | v :: r => some v :: mEnt r
def mEntry (args : List mV) (maxL : Nat) : mL := mEnt args ++ List.replicate (maxL - (mEnt args).length) none
/-- an answer as its type wants it -/
def mRet (rt : Nat) (i : Jvm.ClassFile.Instr) (st : List mV) : Option (Option mV) := match i, rt, st with
  | .return_, 0, [] => some none
  | .ireturn, 1, [.inl x] => some (some (mI x))
  | .ireturn, 2, [.inl x] => if x = 0 ∨ x = 1 then some (some (mI x)) else none
  | .ireturn, 5, [.inl x] => if x.toInt8.toInt32 = x then some (some (mI x)) else none
  | .ireturn, 6, [.inl x] => if (x.toUInt32 % 65536).toInt32 = x then some (some (mI x)) else none
  | .lreturn, 3, [.inr (.inl x)] => some (some (mJ x))
  | .areturn, 4, [.inr (.inr (.inl r))] => some (some (mR r))
  | _, _, _ => none
/-- what an invocation asks: the pool's index, the kind that the instruction is (0 virtual, 1 static, 2 special) -/
def mInv (i : Jvm.ClassFile.Instr) : Option (Nat × Nat) := match i with
  | .invokevirtual idx => some (idx, 0)
  | .invokestatic idx => some (idx, 1)
  | .invokespecial idx => some (idx, 2)
  | _ => none
