/-! ===== THE SMALL MACHINE, run over the tables ===== -/
def mCP (own idx : Nat) : Option mP := (mCPL[own]?).bind fun l => (l.lookup idx).map (fun q => q.1)
def mME (mid : Nat) : Option mM := mMEL[mid]?
def mTF (ci k : Nat) : Option (FieldType × Bool) := (mCL[ci]?).bind fun q => (q.2[k]?).map fun f => (f.2.2.1, f.2.2.2)
def mNF (ci : Nat) : Option (List FieldType) := (mCL[ci]?).map fun q => q.2.map fun f => f.2.2.1
/-- arrays outside: the script, the Strings' bytes -/
def mXA (X : List Int32) : Nat → Option (Nat × List Int32)
  | 0 => some (0, X)
  | 2 => some (2, mST0)
  | 4 => some (2, mST1)
  | _ => none
/-- one step that neither calls nor returns -/
def mStep (X : List Int32) (own : Nat) (ini : Bool) (i : Jvm.ClassFile.Instr) (len pc : Nat) (ls : mL) (st : List mV) (h : mH) : Option (Nat × mL × List mV × mH) :=
  match mS i st with
  | some (n, st') => if n = len then some (pc + len, ls, st', h) else none
  | none => match mLd i with
    | some (k, kd, n) => (match ls[k]? with
      | some (some v) => if mkind v = kd ∧ n = len then some (pc + len, ls, v :: st, h) else none
      | _ => none)
    | none => match mSt i with
      | some (k, kd, n) => (match st with
        | v :: r => if mkind v = kd ∧ n = len then (if kd = 1 then (if k + 1 < ls.length then some (pc + len, mput2 ls k v, r, h) else none) else (if k < ls.length then some (pc + len, mput1 ls k v, r, h) else none)) else none
        | [] => none)
      | none => match mBr i len pc st with
        | some (t, st') => some (t, ls, st', h)
        | none => match mGetA (mXA X) i st h with
          | some st' => if len = 1 then some (pc + 1, ls, st', h) else none
          | none => match mPutA 8 i st h with
            | some (st', h') => if len = 1 then some (pc + 1, ls, st', h') else none
            | none => match mNew 8 mNF (mCP own) i st h with
              | some (n, st', h') => if n = len then some (pc + len, ls, st', h') else none
              | none => match mLdc (mCP own) i with
                | some (n, v) => if n = len then some (pc + len, ls, v :: st, h) else none
                | none => match i with
                  | .iinc k n => (match ls[k]? with
                    | some (some (.inl x)) => if len = 3 then some (pc + 3, mput1 ls k (mI (x + Int32.ofInt n)), st, h) else none
                    | _ => none)
                  | .getfield idx => if len = 3 then (mGetF (mCP own idx) st h).map (fun st' => (pc + 3, ls, st', h)) else none
                  | .putfield idx => if len = 3 then (mPutF mTF own ini (mCP own idx) st h).map (fun q => (pc + 3, ls, q.1, q.2)) else none
                  | _ => none
/-- the JDK's methods that are no bytecode here: 0 System.arraycopy of ints, 1 Object(), 2 Math.max, 3 Math.min of ints -/
def mJdk (p : Nat) (st : List mV) (h : mH) : Option (List mV × mH) := match p, st with
  | 0, .inl n :: .inl dp :: .inr (.inr (.inl (some b))) :: .inl sp :: .inr (.inr (.inl (some a))) :: r => match h[a]?, h[b]? with
    | some (.inr (0, .inl xs)), some (.inr (0, .inl ys)) =>
      if 0 ≤ sp.toInt ∧ 0 ≤ dp.toInt ∧ 0 ≤ n.toInt ∧ sp.toNatClampNeg + n.toNatClampNeg ≤ xs.length ∧ dp.toNatClampNeg + n.toNatClampNeg ≤ ys.length
      then some (r, h.set b (.inr (0, .inl (ys.take dp.toNatClampNeg ++ (xs.drop sp.toNatClampNeg).take n.toNatClampNeg ++ ys.drop (dp.toNatClampNeg + n.toNatClampNeg))))) else none
    | _, _ => none
  | 1, .inr (.inr (.inl (some _))) :: r => some (r, h)
  | 2, .inl y :: .inl x :: r => some (mI (if x < y then y else x) :: r, h)
  | 3, .inl y :: .inl x :: r => some (mI (if y < x then y else x) :: r, h)
  | _, _ => none
/-- may this receiver be asked: kd is the instruction's kind, kk the pool's, own the class of the method -/
def mRecv (kd kk own : Nat) (a : List mV) (h : mH) : Bool := match kd, kk, a with
  | 1, 1, _ => true
  | 0, 0, .inr (.inr (.inl (some b))) :: _ => match h[b]? with
    | some (.inl (c, _)) => decide (c = own)
    | _ => false
  | 0, 0, .inr (.inr (.inr k)) :: _ => decide (own = 16) && (decide (k = 1) || decide (k = 3))
  | 2, 2, .inr (.inr (.inl (some _))) :: _ => true
  | 2, 3, .inr (.inr (.inl (some _))) :: _ => true
  | _, _, _ => false
/-- the run of method mid from pc: how much is left of the frames' number (fr) and of their words (lo) -/
def mrun (X : List Int32) : Nat → Nat → Nat → Nat → Nat → mL → List mV → mH → Option (mH × Option mV)
  | 0, _, _, _, _, _, _, _ => none
  | f + 1, fr, lo, mid, pc, ls, st, h =>
    match mME mid with
    | none => none
    | some (own, _, _, _, rt, ini, cd) => match cd.lookup pc with
      | none => none
      | some (i, len) => match mRet rt i st with
        | some v => if len = 1 then some (h, v) else none
        | none => match mInv i with
          | some (idx, kd) => (match mCP own idx with
            | some (7, q, w) => if len = 3 ∧ w = (kd : Int) ∧ 1 ≤ fr ∧ 64 ≤ lo ∧ ((st.map mcat).sum ≤ 16) then (match mJdk q st h with
              | some (st', h') => mrun X f fr lo mid (pc + 3) ls st' h'
              | none => none) else none
            | some (1, y, kk) => (match mME y with
              | some (own', _, na, mx, _, _, _) =>
                if len = 3 ∧ na ≤ st.length ∧ 1 ≤ fr ∧ mx + 19 ≤ lo ∧ ((st.drop na).map mcat).sum ≤ 8 ∧ mRecv kd kk.toNat own' (st.take na).reverse h = true ∧ (mEnt (st.take na).reverse).length ≤ mx then
                  (match mrun X f (fr - 1) (lo - (mx + 19)) y 0 (mEntry (st.take na).reverse mx) [] h with
                  | some (h', v) => mrun X f fr lo mid (pc + 3) ls (v.toList ++ st.drop na) h'
                  | none => none)
                else none
              | none => none)
            | _ => none)
          | none => match mStep X own ini i len pc ls st h with
            | some (pc', ls', st', h') => mrun X f fr lo mid pc' ls' st' h'
            | none => none
