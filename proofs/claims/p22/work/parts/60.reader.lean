noncomputable section
/-! ===== THE READER: it reads a method's code once for all its runs; a value is a sum over unknowns =====
An unknown int has a range, an unknown reference a label (and whether it may be null). What is known besides: sums that are not negative, what fields and places of arrays hold (facts), tags (sentences about the heap, of numbers). -/
abbrev zL : Type := Int × List (Nat × Int)
/-- 0 an int (the sum), 1 a long, 2 a reference (its number), 3 null, 4 a thing outside (its number), 5 nothing is known -/
abbrev zV : Type := Nat × Nat × zL
/-- a field of the objects of a label, or the places of its arrays -/
abbrev zKey : Type := Nat × Bool × Nat
abbrev zSlot : Type := Bool × Nat × zL
abbrev zFa : Type := Nat × zSlot × zV
abbrev zTg : Type := Nat × List zL
abbrev zS : Type := List (Int × Int) × List (Nat × Bool) × List zL × List zV × List zV × List zFa × List zTg
/-- what a field holds: 0 an int from .. to, 1 a long, 2 a reference (label, 0: never null) -/
abbrev zFT : Type := Nat × Int × Int
/-- 0 an object (its class, its fields), 1 an array of ints (its type, how long, what its places hold, again and again), 2 an array of longs, 3 an array of references -/
abbrev zLab : Type := Nat × Nat × Nat × List zFT
def zge (a : Int) : Bool := match a with
  | .ofNat _ => true
  | .negSucc _ => false
def zo1 (a : Int) : Bool := match a with
  | .ofNat n => Nat.beq n 1
  | .negSucc _ => false
def zz (a : Int) : Bool := match a with
  | .ofNat n => Nat.beq n 0
  | .negSucc _ => false
def x_k (c : Int) : zL := (c, [])
def x_b (b : Nat) : zL := (0, [(b, 1)])
def x_ins (b : Nat) (c : Int) : List (Nat × Int) → List (Nat × Int)
  | [] => [(b, c)]
  | t :: r => match Nat.blt b t.1 with
    | true => (b, c) :: t :: r
    | false => match Nat.beq b t.1 with
      | true => (match zz (c + t.2) with
        | true => r
        | false => (b, c + t.2) :: r)
      | false => t :: x_ins b c r
def x_add (e f : zL) : zL := (e.1 + f.1, e.2.foldr (fun t l => x_ins t.1 t.2 l) f.2)
def x_scl (k : Int) (e : zL) : zL := match zz k with
  | true => (0, [])
  | false => (k * e.1, e.2.map fun t => (t.1, k * t.2))
def x_sub (e f : zL) : zL := x_add e (x_scl (-1) f)
def x_inc (k : Int) (e : zL) : zL := (e.1 + k, e.2)
def x_tlo (is : List (Int × Int)) (t : Nat × Int) : Int := match zge t.2 with
  | true => t.2 * (x_gt (0, 0) is t.1).1
  | false => t.2 * (x_gt (0, 0) is t.1).2
def x_thi (is : List (Int × Int)) (t : Nat × Int) : Int := match zge t.2 with
  | true => t.2 * (x_gt (0, 0) is t.1).2
  | false => t.2 * (x_gt (0, 0) is t.1).1
def x_lo (is : List (Int × Int)) (e : zL) : Int := xl_fr (fun t a => x_tlo is t + a) e.1 e.2
def x_hi (is : List (Int × Int)) (e : zL) : Int := xl_fr (fun t a => x_thi is t + a) e.1 e.2
/-- it is known that the sum is not negative -/
def x_entO (is : List (Int × Int)) (cs : List zL) (e : zL) : Bool := zge (x_lo is e) || cs.any (fun g => zge (x_lo is (x_sub e g)))
/-- they have an unknown in common -/
def x_shr (l m : List (Nat × Int)) : Bool := xl_any (fun t => xl_any (fun u => Nat.beq t.1 u.1) m) l
def x_ent (is : List (Int × Int)) (cs : List zL) (e : zL) : Bool := match zge (x_lo is e), e.2 with
  | true, _ => true
  | false, [] => false
  | false, l => xl_any (fun g => match x_shr l g.2 with
    | true => zge (x_lo is (x_sub e g))
    | false => false) cs
theorem x_ent_old {is : List (Int × Int)} {cs : List zL} {e : zL} (h : x_ent is cs e = true) : x_entO is cs e = true := by
  unfold x_ent at h
  unfold x_entO
  rw [Bool.or_eq_true]
  split at h
  · next h1 => exact Or.inl h1
  · cases h
  · right
    rw [xl_any_eq, List.any_eq_true] at h
    obtain ⟨g, hg, h⟩ := h
    split at h
    · exact List.any_eq_true.mpr ⟨g, hg, h⟩
    · cases h
/-- one unknown's range made narrower by a sum that is not negative -/
def x_tgt (e : zL) (is : List (Int × Int)) (t : Nat × Int) : List (Int × Int) := match x_nth is t.1 with
  | none => is
  | some p => match zge (t.2 - 1) with
    | true => (match zge (-((x_hi is e - t.2 * p.2) / t.2) - p.1 - 1) with
      | true => x_sst is t.1 (-((x_hi is e - t.2 * p.2) / t.2), p.2)
      | false => is)
    | false => match zge (-t.2 - 1) with
      | true => (match zge (p.2 - (x_hi is e - t.2 * p.1) / (-t.2) - 1) with
        | true => x_sst is t.1 (p.1, (x_hi is e - t.2 * p.1) / (-t.2))
        | false => is)
      | false => is
def x_ac (cs : List zL) (e : zL) : List zL := match e.2 with
  | _ :: _ :: _ => e :: cs
  | _ => cs
/-- the sum is not negative from here on; none: it can't be -/
def x_as (S : zS) (e : zL) : Option zS := match x_ent S.1 S.2.2.1 (x_inc (-1) (x_scl (-1) e)) with
  | true => none
  | false => some (e.2.foldl (x_tgt e) S.1, S.2.1, x_ac S.2.2.1 e, S.2.2.2)
def x_has (S : zS) (e : zL) : Bool := x_ent S.1 S.2.2.1 e
abbrev zB2 : Type := List (Bool × zS)
def x_ge (S : zS) (e : zL) (t : Bool) : zB2 := match x_as S e with
  | some S1 => [(t, S1)]
  | none => []
def x_eq (S : zS) (e : zL) (t : Bool) : zB2 := match x_as S e with
  | some S1 => x_ge S1 (x_scl (-1) e) t
  | none => []
def x_ne (S : zS) (e : zL) (t : Bool) : zB2 := match x_has S e with
  | true => x_ge S (x_inc (-1) e) t
  | false => match x_has S (x_scl (-1) e) with
    | true => x_ge S (x_inc (-1) (x_scl (-1) e)) t
    | false => match e.2 with
      | [_] => x_ge S (x_inc (-1) e) t ++ x_ge S (x_inc (-1) (x_scl (-1) e)) t
      | _ => [(t, S)]
/-- a comparison (of e with 0): what may come, and what is known then -/
def x_cond (cd : Jvm.ClassFile.Cond) (S : zS) (e : zL) : zB2 := match cd with
  | .eq => x_eq S e true ++ x_ne S e false
  | .ne => x_ne S e true ++ x_eq S e false
  | .lt => x_ge S (x_inc (-1) (x_scl (-1) e)) true ++ x_ge S e false
  | .ge => x_ge S e true ++ x_ge S (x_inc (-1) (x_scl (-1) e)) false
  | .gt => x_ge S (x_inc (-1) e) true ++ x_ge S (x_scl (-1) e) false
  | .le => x_ge S (x_scl (-1) e) true ++ x_ge S (x_inc (-1) e) false
/-- the stack changed -/
def x_st (S : zS) (st : List zV) : zS := (S.1, S.2.1, S.2.2.1, S.2.2.2.1, st, S.2.2.2.2.2)
def x_lc (S : zS) (ls : List zV) : zS := (S.1, S.2.1, S.2.2.1, ls, S.2.2.2.2)
def x_fa (S : zS) (fs : List zFa) : zS := (S.1, S.2.1, S.2.2.1, S.2.2.2.1, S.2.2.2.2.1, fs, S.2.2.2.2.2.2)
def x_tg (S : zS) (ts : List zTg) : zS := (S.1, S.2.1, S.2.2.1, S.2.2.2.1, S.2.2.2.2.1, S.2.2.2.2.2.1, ts)
/-- a new unknown int -/
def x_new (S : zS) (p : Int × Int) : zL × zS := match zz (p.2 - p.1) with
  | true => (x_k p.1, S)
  | false => (x_b S.1.length, (S.1 ++ [p], S.2))
def x_newr (S : zS) (q : Nat × Bool) : Nat × zS := (S.2.1.length, (S.1, S.2.1 ++ [q], S.2.2))
def zvI (e : zL) : zV := (0, 0, e)
def zvJ (e : zL) : zV := (1, 0, e)
def zJ : Int × Int := (-9223372036854775808, 9223372036854775807)
def zvR (r : Nat) : zV := (2, r, 0, [])
def zvN : zV := (3, 0, 0, [])
def zvE (k : Nat) : zV := (4, k, 0, [])
def zvT : zV := (5, 0, 0, [])
/-- an int that isn't more than its range, upon the stack r -/
def x_int (S : zS) (p : Int × Int) (r : List zV) : zS := match x_new S p with
  | (e, S1) => x_st S1 (zvI e :: r)
/-- a sum as an int: itself if it is one, else any -/
def x_lin (S : zS) (e : zL) (r : List zV) : zS := match x_has S (x_inc 2147483648 e) && x_has S (x_inc 2147483647 (x_scl (-1) e)) with
  | true => x_st S (zvI e :: r)
  | false => x_int S zI r
def x_rg (S : zS) (e : zL) : Int × Int := (x_lo S.1 e, x_hi S.1 e)
/-- any long; a sum as a long: itself if it is one, else any -/
def x_lng (S : zS) (r : List zV) : zS := match x_new S zJ with
  | (e, S1) => x_st S1 (zvJ e :: r)
def x_linJ (S : zS) (e : zL) (r : List zV) : zS := match x_has S (x_inc 9223372036854775808 e) && x_has S (x_inc 9223372036854775807 (x_scl (-1) e)) with
  | true => x_st S (zvJ e :: r)
  | false => x_lng S r
def x_leq (e f : zL) : Bool := zz (e.1 - f.1) && (e.2 == f.2)
/-- what an operation is told to come to (sentences 100 to 109) -/
def x_opf (k : Nat) (e f : zL) : List zTg → Option zL
  | [] => none
  | t :: r => match Nat.beq t.1 k, t.2 with
    | true, [a, b, u] => (match x_leq a e && x_leq b f with
      | true => some u
      | false => x_opf k e f r)
    | _, _ => x_opf k e f r
def x_opi (S : zS) (k : Nat) (e f : zL) (p : Int × Int) (r : List zV) : zS := match x_opf k e f S.2.2.2.2.2.2 with
  | some u => x_st S (zvI u :: r)
  | none => x_int S p r
/-- a sum as an int: itself if it is one, else as told (sentences 110, 111), else any -/
def x_lino (S : zS) (k : Nat) (g e f : zL) (r : List zV) : zS := match x_has S (x_inc 2147483648 g) && x_has S (x_inc 2147483647 (x_scl (-1) g)) with
  | true => x_st S (zvI g :: r)
  | false => x_opi S k e f zI r
abbrev zO : Type := Option (List (Nat × zS))
/-- instructions of the stack alone -/
def x_s1 (i : Jvm.ClassFile.Instr) (S : zS) : Option (Nat × zS) := match i, S.2.2.2.2.1 with
  | .iconst n, r => (match zge (n + 128) && zge (127 - n) with
    | true => some (1, x_st S (zvI (x_k n) :: r))
    | false => none)
  | .bipush n, r => (match zge (n + 128) && zge (127 - n) with
    | true => some (2, x_st S (zvI (x_k n) :: r))
    | false => none)
  | .sipush n, r => (match zge (n + 32768) && zge (32767 - n) with
    | true => some (3, x_st S (zvI (x_k n) :: r))
    | false => none)
  | .lconst n, r => some (1, x_st S (zvJ (x_k ((n : Nat) : Int)) :: r))
  | .aconst_null, r => some (1, x_st S (zvN :: r))
  | .iadd, (0, _, f) :: (0, _, e) :: r => some (1, x_lino S 110 (x_add e f) e f r)
  | .isub, (0, _, f) :: (0, _, e) :: r => some (1, x_lino S 111 (x_sub e f) e f r)
  | .imul, (0, _, f) :: (0, _, e) :: r => (match f.2, e.2 with
    | [], _ => some (1, x_lino S 100 (x_scl f.1 e) e f r)
    | _, [] => some (1, x_lino S 100 (x_scl e.1 f) e f r)
    | _, _ => some (1, x_opi S 100 e f (zmul (x_rg S e) (x_rg S f)) r))
  | .iand, (0, _, f) :: (0, _, e) :: r => some (1, x_opi S 101 e f (zand (x_rg S e) (x_rg S f)) r)
  | .ior, (0, _, f) :: (0, _, e) :: r => some (1, x_opi S 102 e f (zor (x_rg S e) (x_rg S f)) r)
  | .ixor, (0, _, f) :: (0, _, e) :: r => some (1, x_opi S 103 e f (zor (x_rg S e) (x_rg S f)) r)
  | .ishl, (0, _, f) :: (0, _, e) :: r => some (1, x_opi S 104 e f (zshl (x_rg S e) (x_rg S f)) r)
  | .ishr, (0, _, f) :: (0, _, e) :: r => (match f.2, zz f.1 with
    | [], true => some (1, x_st S (zvI e :: r))
    | _, _ => some (1, x_opi S 105 e f (zshr (x_rg S e)) r))
  | .iushr, (0, _, f) :: (0, _, e) :: r => some (1, x_opi S 106 e f (zshr (x_rg S e)) r)
  | .idiv, (0, _, f) :: (0, _, e) :: r => (match x_has S (x_inc (-1) f) || x_has S (x_inc (-1) (x_scl (-1) f)) with
    | true => some (1, x_opi S 107 e f (zdiv (x_rg S e) (x_rg S f)) r)
    | false => none)
  | .irem, (0, _, f) :: (0, _, e) :: r => (match x_has S (x_inc (-1) f) || x_has S (x_inc (-1) (x_scl (-1) f)) with
    | true => (match f.2, zge (f.1 - 1) && zge (x_lo S.1 e) && zz (x_lo S.1 e / f.1 - x_hi S.1 e / f.1) with
      | [], true => some (1, x_st S (zvI (x_inc (-(f.1 * (x_lo S.1 e / f.1))) e) :: r))
      | _, _ => some (1, x_opi S 108 e f (zrem (x_rg S e) (x_rg S f)) r))
    | false => none)
  | .ineg, (0, _, e) :: r => some (1, x_lin S (x_scl (-1) e) r)
  | .i2b, (0, _, e) :: r => (match zge (x_lo S.1 e + 128) && zge (127 - x_hi S.1 e), zge (x_lo S.1 e - 128) && zge (255 - x_hi S.1 e) with
    | true, _ => some (1, x_st S (zvI e :: r))
    | false, true => some (1, x_st S (zvI (x_inc (-256) e) :: r))
    | false, false => some (1, x_opi S 109 e (x_k 0) zB r))
  | .i2c, (0, _, e) :: r => (match zge (x_lo S.1 e) && zge (65535 - x_hi S.1 e) with
    | true => some (1, x_st S (zvI e :: r))
    | false => some (1, x_int S zC r))
  | .i2l, (0, _, e) :: r => some (1, x_st S (zvJ e :: r))
  | .l2i, (1, _, e) :: r => some (1, x_lin S e r)
  | .ladd, (1, _, f) :: (1, _, e) :: r => some (1, x_linJ S (x_add e f) r)
  | .lmul, (1, _, f) :: (1, _, e) :: r => (match f.2, e.2 with
    | [], _ => some (1, x_linJ S (x_scl f.1 e) r)
    | _, [] => some (1, x_linJ S (x_scl e.1 f) r)
    | _, _ => some (1, x_lng S r))
  | .dup, v :: r => (match v.1 with
    | 0 => some (1, x_st S (v :: v :: r))
    | 2 => some (1, x_st S (v :: v :: r))
    | _ => none)
  | .dup2, (2, a, b) :: (0, c, d) :: r => some (1, x_st S ((2, a, b) :: (0, c, d) :: (2, a, b) :: (0, c, d) :: r))
  | .dup2, (0, a, b) :: (2, c, d) :: r => some (1, x_st S ((0, a, b) :: (2, c, d) :: (0, a, b) :: (2, c, d) :: r))
  | .pop, v :: r => (match v.1 with
    | 0 => some (1, x_st S r)
    | 2 => some (1, x_st S r)
    | _ => none)
  | _, _ => none
/-- x & 255 of a byte: itself, or 256 more -/
def x_and (i : Jvm.ClassFile.Instr) (len pc : Nat) (S : zS) : zO := match i, S.2.2.2.2.1 with
  | .iand, (0, _, f) :: (0, _, e) :: r => (match f.2, zz (f.1 - 255) && zge (x_lo S.1 e + 128) && zge (127 - x_hi S.1 e) && Nat.beq len 1 with
    | [], true => some ((x_ge S e true).map (fun q => (pc + 1, x_st q.2 (zvI e :: r))) ++ (x_ge S (x_inc (-1) (x_scl (-1) e)) true).map (fun q => (pc + 1, x_st q.2 (zvI (x_inc 256 e) :: r))))
    | _, _ => none)
  | _, _ => none
/-- a comparison of longs: three roads -/
def x_lcmp (i : Jvm.ClassFile.Instr) (len pc : Nat) (S : zS) : zO := match i, S.2.2.2.2.1 with
  | .lcmp, (1, _, f) :: (1, _, e) :: r => (match Nat.beq len 1 with
    | true => some ((x_ge S (x_inc (-1) (x_scl (-1) (x_sub e f))) true).map (fun q => (pc + 1, x_st q.2 (zvI (x_k (-1)) :: r))) ++ ((x_eq S (x_sub e f) true).map (fun q => (pc + 1, x_st q.2 (zvI (x_k 0) :: r))) ++ (x_ge S (x_inc (-1) (x_sub e f)) true).map (fun q => (pc + 1, x_st q.2 (zvI (x_k 1) :: r)))))
    | false => none)
  | _, _ => none
/-- is the value of that kind (0 int, 1 long, 2 reference)? -/
def x_kd (v : zV) (kd : Nat) : Bool := match v.1, kd with
  | 0, 0 => true
  | 1, 1 => true
  | 2, 2 => true
  | 3, 2 => true
  | 4, 2 => true
  | _, _ => false
def x_cl (ls : List zV) : Nat → List zV
  | 0 => ls
  | i + 1 => match x_nth ls i with
    | some (1, _, _) => x_sst ls i zvT
    | _ => ls
def x_p1 (ls : List zV) (i : Nat) (v : zV) : List zV := (x_cl ls i).set i v
def x_p2 (ls : List zV) (i : Nat) (v : zV) : List zV := ((x_cl ls i).set i v).set (i + 1) zvT
def x_put (S : zS) (k kd : Nat) (v : zV) (r : List zV) : Option zS := match kd with
  | 1 => (match Nat.blt (k + 1) S.2.2.2.1.length with
    | true => some (x_st (x_lc S (x_p2 S.2.2.2.1 k v)) r)
    | false => none)
  | _ => (match Nat.blt k S.2.2.2.1.length with
    | true => some (x_st (x_lc S (x_p1 S.2.2.2.1 k v)) r)
    | false => none)
def x_to (pc : Nat) (off : Int) : Option Nat := match (pc : Int) + off with
  | .ofNat n => some n
  | .negSucc _ => none
/-- the two ways of a branch -/
def x_two (pc : Nat) (off : Int) (l : zB2) (r : List zV) : zO := (x_to pc off).map fun t => l.map fun q => (match q.1 with
  | true => t
  | false => pc + 3, x_st q.2 r)
def x_tab (pc : Nat) (S : zS) (r : List zV) (e : zL) (lo : Int) : List Int → Nat → zO
  | [], _ => some []
  | off :: t, j => match x_to pc off, x_tab pc S r e lo t (j + 1) with
    | some to, some l => some ((x_eq S (x_inc (-(lo + (j : Int))) e) true).map (fun q => (to, x_st q.2 r)) ++ l)
    | _, _ => none
def x_br (i : Jvm.ClassFile.Instr) (len pc : Nat) (S : zS) : zO := match i, S.2.2.2.2.1 with
  | .goto off, r => (match Nat.beq len 3 with
    | true => (x_to pc off).map fun t => [(t, x_st S r)]
    | false => none)
  | .ifCond cd off, (0, _, e) :: r => (match Nat.beq len 3 with
    | true => x_two pc off (x_cond cd S e) r
    | false => none)
  | .if_icmp cd off, (0, _, f) :: (0, _, e) :: r => (match Nat.beq len 3 with
    | true => x_two pc off (x_cond cd S (x_sub e f)) r
    | false => none)
  | .ifnull off, (3, _, _) :: r => (match Nat.beq len 3 with
    | true => (x_to pc off).map fun t => [(t, x_st S r)]
    | false => none)
  | .ifnonnull _, (3, _, _) :: r => (match Nat.beq len 3 with
    | true => some [(pc + 3, x_st S r)]
    | false => none)
  | .ifnull off, (2, n, _) :: r => (match Nat.beq len 3, x_nth S.2.1 n with
    | true, some (_, false) => some [(pc + 3, x_st S r)]
    | true, some (lab, true) => (x_to pc off).map fun t => [(t, x_st S r), (pc + 3, x_st (S.1, S.2.1.set n (lab, false), S.2.2) r)]
    | _, _ => none)
  | .ifnonnull off, (2, n, _) :: r => (match Nat.beq len 3, x_nth S.2.1 n with
    | true, some (_, false) => (x_to pc off).map fun t => [(t, x_st S r)]
    | true, some (lab, true) => (x_to pc off).map fun t => [(pc + 3, x_st S r), (t, x_st (S.1, S.2.1.set n (lab, false), S.2.2) r)]
    | _, _ => none)
  | .tableswitch dflt lo hi offs, (0, _, e) :: r => (match x_to pc dflt, x_tab pc S r e lo offs.toList 0, zz (lo + (offs.size : Int) - hi - 1) with
    | some d, some l, true => some ((x_ge S (x_inc (lo - 1) (x_scl (-1) e)) true).map (fun q => (d, x_st q.2 r)) ++ (x_ge S (x_inc (-(hi + 1)) e) true).map (fun q => (d, x_st q.2 r)) ++ l)
    | _, _, _ => none)
  | _, _ => none
def x_same (S : zS) (e f : zL) : Bool := x_leq e f || (!(e.2.isEmpty && f.2.isEmpty) && (x_has S (x_sub e f) && x_has S (x_sub f e)))
def x_seqO (S : zS) (a b : zSlot) : Bool := match a.1, b.1 with
  | false, false => Nat.beq a.2.1 b.2.1
  | true, true => x_same S a.2.2 b.2.2
  | _, _ => false
def x_seq (S : zS) (a b : zSlot) : Bool := match Nat.beq a.2.1 b.2.1 with
  | true => x_seqO S a b
  | false => false
theorem x_seq_old {S : zS} {a b : zSlot} (h : x_seq S a b = true) : x_seqO S a b = true := by
  unfold x_seq at h
  split at h
  · exact h
  · cases h
/-- what is known of a slot -/
def x_find (S : zS) (fs : List zFa) (r : Nat) (sl : zSlot) : Option zV := List.rec (motive := fun _ => Option zV) none (fun f _ ih => match Nat.beq f.1 r with
  | true => (match x_seq S f.2.1 sl with
    | true => some f.2.2
    | false => ih)
  | false => ih) fs
theorem x_find_cons (S : zS) (f : zFa) (t : List zFa) (r : Nat) (sl : zSlot) : x_find S (f :: t) r sl = match Nat.beq f.1 r && x_seq S f.2.1 sl with
    | true => some f.2.2
    | false => x_find S t r sl := by
  show (match Nat.beq f.1 r with | true => (match x_seq S f.2.1 sl with | true => some f.2.2 | false => x_find S t r sl) | false => x_find S t r sl) = _
  cases Nat.beq f.1 r with
  | true => cases x_seq S f.2.1 sl <;> rfl
  | false => rfl
/-- any value of a type -/
def x_any (S : zS) (ft : zFT) : zV × zS := match ft.1 with
  | 0 => (match x_new S (ft.2.1, ft.2.2) with
    | (e, S1) => (zvI e, S1))
  | 1 => (match x_new S zJ with
    | (e, S1) => (zvJ e, S1))
  | 3 => (zvT, S)
  | _ => (match x_newr S (ft.2.1.toNat, !(zz ft.2.2)) with
    | (n, S1) => (zvR n, S1))
def x_get (S : zS) (r : Nat) (sl : zSlot) (ft : zFT) : zV × zS := match x_find S S.2.2.2.2.2.1 r sl with
  | some v => (v, S)
  | none => match x_any S ft with
    | (v, S1) => (v, x_fa S1 ((r, sl, v) :: S1.2.2.2.2.2.1))
/-- may a value be put where that type is -/
def x_fit (S : zS) (v : zV) (ft : zFT) : Bool := match v.1, ft.1 with
  | 0, 0 => x_has S (x_inc (-ft.2.1) v.2.2) && x_has S (x_inc ft.2.2 (x_scl (-1) v.2.2))
  | 1, 1 => true
  | 2, 3 => true
  | 3, 3 => true
  | 2, 2 => (match x_nth S.2.1 v.2.1 with
    | some (lab, nul) => zz (ft.2.1 - (lab : Int)) && (!nul || !(zz ft.2.2))
    | none => false)
  | 3, 2 => !(zz ft.2.2)
  | _, _ => false
/-- the sum's number is a multiple of p, or the rest is known -/
def x_mod (e : zL) (p : Int) : Option Nat := match e.2.all (fun t => zz (t.2 % p)) with
  | true => some (e.1 % p).toNat
  | false => none
/-- the types that a place of an array may have -/
def x_ety (S : zS) (ts : List zFT) (e : zL) : List zFT := match ts with
  | [] => ts
  | [_] => ts
  | _ => match x_mod e (ts.length : Int) with
    | some k => [ts.getD k (5, 0, 0)]
    | none => match zge (x_lo S.1 e) && zz (x_lo S.1 e / (ts.length : Int) - x_hi S.1 e / (ts.length : Int)) with
      | true => (ts.drop (x_lo S.1 e % (ts.length : Int)).toNat).take ((x_hi S.1 e - x_lo S.1 e).toNat + 1)
      | false => ts
def x_join : List zFT → Option (Int × Int)
  | [] => none
  | [t] => (match t.1 with
    | 0 => some t.2
    | _ => none)
  | t :: r => match t.1, x_join r with
    | 0, some p => some (match zge (p.1 - t.2.1) with | true => t.2.1 | false => p.1, match zge (t.2.2 - p.2) with | true => t.2.2 | false => p.2)
    | _, _ => none
end
