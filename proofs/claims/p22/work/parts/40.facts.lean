/-! ===== WHAT THE TABLES SAY, AND WHAT THE SMALL MACHINE'S STATE STANDS FOR ===== -/
def mWS : List Jvm.Cond := lw_tbl.filter goodWord
theorem mWS_good : GoodIn mWS mWS := fun w hw => ⟨hw, good_of_word (List.mem_filter.mp hw).2⟩
theorem mWS_sub : ∀ w ∈ mWS, w ∈ lw_tbl := fun _ hw => (List.mem_filter.mp hw).1
/-- lw_tbl in pieces, so that a word is found by its piece and its place there -/
def mtb : Nat → List Jvm.Cond
  | 0 => k2_sels lw_privs
  | 1 => tables_1_1
  | 2 => tables_1_2
  | 3 => tables_1_3
  | 4 => tables_1_4
  | 5 => tables_1_5
  | 6 => tables_1_6
  | 7 => tables_1_7
  | 8 => tables_1_8
  | 9 => tables_1_9
  | _ => []
theorem mtb_in (c : Nat) : ∀ w ∈ mtb c, w ∈ lw_tbl := by
  intro w hw
  unfold lw_tbl tables_1
  match c, hw with
  | 0, hw => exact List.mem_append_left _ hw
  | 1, hw => exact List.mem_append_right _ (List.mem_append_left _ hw)
  | 2, hw => exact List.mem_append_right _ (List.mem_append_right _ (List.mem_append_left _ hw))
  | 3, hw => exact List.mem_append_right _ (List.mem_append_right _ (List.mem_append_right _ (List.mem_append_left _ hw)))
  | 4, hw => exact List.mem_append_right _ (List.mem_append_right _ (List.mem_append_right _ (List.mem_append_right _ (List.mem_append_left _ hw))))
  | 5, hw => exact List.mem_append_right _ (List.mem_append_right _ (List.mem_append_right _ (List.mem_append_right _ (List.mem_append_right _ (List.mem_append_left _ hw)))))
  | 6, hw => exact List.mem_append_right _ (List.mem_append_right _ (List.mem_append_right _ (List.mem_append_right _ (List.mem_append_right _ (List.mem_append_right _ (List.mem_append_left _ hw))))))
  | 7, hw => exact List.mem_append_right _ (List.mem_append_right _ (List.mem_append_right _ (List.mem_append_right _ (List.mem_append_right _ (List.mem_append_right _ (List.mem_append_right _ (List.mem_append_left _ hw)))))))
  | 8, hw => exact List.mem_append_right _ (List.mem_append_right _ (List.mem_append_right _ (List.mem_append_right _ (List.mem_append_right _ (List.mem_append_right _ (List.mem_append_right _ (List.mem_append_right _ (List.mem_append_left _ hw))))))))
  | 9, hw => exact List.mem_append_right _ (List.mem_append_right _ (List.mem_append_right _ (List.mem_append_right _ (List.mem_append_right _ (List.mem_append_right _ (List.mem_append_right _ (List.mem_append_right _ (List.mem_append_right _ (hw)))))))))
  | n + 10, hw => exact absurd hw (by simp [mtb])
def mwd (q : Jvm.Cond × (Nat × Nat)) : Bool := decide ((mtb q.2.1)[q.2.2]? = some q.1) && goodWord q.1
theorem mwd_mem {q : Jvm.Cond × (Nat × Nat)} (h : mwd q = true) : q.1 ∈ mWS := by
  simp only [mwd, Bool.and_eq_true, decide_eq_true_eq] at h
  exact List.mem_filter.mpr ⟨mtb_in _ _ (List.mem_of_getElem? h.1), h.2⟩
theorem mwd_all {ws : List Jvm.Cond} {ps : List (Nat × Nat)} (hl : ws.length = ps.length) (h : (ws.zip ps).all mwd = true) : ∀ w ∈ ws, w ∈ mWS := by
  intro w hw
  obtain ⟨i, hi⟩ := List.getElem?_of_mem hw
  have hi2 : i < ps.length := by rw [← hl]; exact (List.getElem?_eq_some_iff.mp hi).1
  have hz : (ws.zip ps)[i]? = some (w, ps[i]) := by
    rw [List.getElem?_zip_eq_some]
    exact ⟨hi, List.getElem?_eq_getElem hi2⟩
  exact mwd_mem (q := (w, ps[i])) (List.all_eq_true.mp h _ (List.mem_of_getElem? hz))
def mT (C : String) (fs : List (String × String × FieldType × Bool)) : u_T := fun k => match fs[k]? with
  | some f => (C, f.1, f.2.1, f.2.2.2)
  | none => ("", "", "", false)
def mty (fs : List (String × String × FieldType × Bool)) : Nat → FieldType := fun k => match fs[k]? with
  | some f => f.2.2.1
  | none => .int
def mcls : List vw_C := mCL.map fun q => (q.1, mT q.1 q.2, q.2.length)
def mcn (o : Nat) : String := mOW.getD o ""
def mY (y : Nat) : MethodName × ByteArray × Option FieldType := mYL.getD y (⟨"", "", ""⟩, ⟨#[]⟩, none)
abbrev myN (y : Nat) : MethodName := (mY y).1
abbrev myB (y : Nat) : ByteArray := (mY y).2.1
abbrev myR (y : Nat) : Option FieldType := (mY y).2.2
def myX (y : Nat) : Nat := match mME y with
  | some q => q.2.2.2.1
  | none => 0
def mfd (ci k : Nat) : String × String := match mCL[ci]? with
  | some q => match q.2[k]? with
    | some f => (f.1, f.2.1)
    | none => ("", "")
  | none => ("", "")
def mcw (y : Nat) : Jvm.Cond := .code (myN y) (myB y) (myX y) (myR y)
def mStat (y : Nat) : Bool := match mME y with
  | some q => q.2.1
  | none => false
def mIni (y : Nat) : Bool := match mME y with
  | some q => q.2.2.2.2.2.1
  | none => false
/-- the words of a method -/
def mMws (y : Nat) : List Jvm.Cond := if mStat y then [.static (myN y), .initialized (myN y).cls] else [.instanceMethod (myN y), .initialized (myN y).cls, .selects (myN y).cls (myN y) (myN y)]
/-- the words of a pool's entry -/
def mWords (own idx : Nat) (e : mP) : List Jvm.Cond := match e.1 with
  | 0 => [.fieldLink (mcn own) idx (mcn e.2.1) (mfd e.2.1 e.2.2.toNat).1 (mfd e.2.1 e.2.2.toNat).2]
  | 1 => if e.2.2.toNat ≤ 2 then [.methodLink (mcn own) idx (myN e.2.1)] else []
  | 3 => [.classLink (mcn own) idx (mcn e.2.1)]
  | 5 => [.constant (mcn own) idx (Int32.ofInt e.2.2)]
  | 6 => [.constantLong (mcn own) idx (Int64.ofInt e.2.2)]
  | 7 => [.methodLink (mcn own) idx (match e.2.1 with
      | 0 => arraycopyName
      | 1 => Jvm.Lib.objectInit
      | 2 => Jvm.Lib.Math.max.name
      | _ => Jvm.Lib.Math.min.name)]
  | 8 => [.fieldLink (mcn own) idx "java/lang/String" (if e.2.1 = 0 then "value" else "coder") (if e.2.1 = 0 then "[B" else "B")]
  | 9 => if e.2.1 = 0 then [.fieldLink (mcn own) idx "java/lang/String" "COMPACT_STRINGS" "Z"] else [.fieldLink (mcn own) idx "jdk/internal/util/Preconditions" "SIOOBE_FORMATTER" "Ljava/util/function/BiFunction;"]
  | _ => []
/-- kind 3 calls stand among the nest's words; strings among the Strings' -/
def mEntOK (own : Nat) (q : Nat × mP × mPo) : Bool :=
  decide ((mWords own q.1 q.2.1).length = q.2.2.length) && ((mWords own q.1 q.2.1).zip q.2.2).all mwd && (match q.2.1.1 with
    | 1 => (decide (q.2.1.2.2.toNat ≤ 2) || decide (Jvm.Cond.methodLinkNest (mcn own) q.1 (myN q.2.1.2.1) "HairRope" ∈ mNST)) && decide (0 ≤ q.2.1.2.2) && (match q.2.1.2.2.toNat with
      | 0 => decide (3 ≤ ((mMW.getD q.2.1.2.1 []).length)) && !(mStat q.2.1.2.1)
      | 1 => decide (2 ≤ ((mMW.getD q.2.1.2.1 []).length)) && mStat q.2.1.2.1
      | _ => decide (2 ≤ ((mMW.getD q.2.1.2.1 []).length)) && !(mStat q.2.1.2.1) && mIni q.2.1.2.1)
    | 2 => match mSTR[q.2.1.2.1]? with
      | some z => decide (z.1 = mcn own) && decide (z.2.1 = q.1)
      | none => false
    | 3 => decide (q.2.1.2.1 < 13)
    | 7 => decide (q.2.1.2.2 = if q.2.1.2.1 = 1 then 2 else 1)
    | 0 => decide (q.2.1.2.1 < 13)
    | _ => true)
def mPoolOK (own : Nat) : Bool := ((mCPL.getD own []).all (mEntOK own))
theorem m_lookup {β : Type} {l : List (Nat × β)} {k : Nat} {v : β} (h : l.lookup k = some v) : (k, v) ∈ l := by
  induction l with
  | nil => simp at h
  | cons a t ih =>
    obtain ⟨i, x⟩ := a
    by_cases e : k = i
    · subst e
      simp at h
      subst h
      exact List.mem_cons_self
    · have h2 : (k == i) = false := by simp [e]
      simp only [List.lookup_cons, h2] at h
      exact List.mem_cons_of_mem _ (ih h)
theorem m_words {own idx : Nat} {e : mP} (hp : mPoolOK own = true) (h : mCP own idx = some e) : (∀ w ∈ mWords own idx e, w ∈ mWS) ∧ ∃ ps, mEntOK own (idx, e, ps) = true := by
  unfold mCP at h
  cases hl : mCPL[own]? with
  | none => rw [hl] at h; simp at h
  | some l =>
    rw [hl] at h
    simp only [Option.bind_some, Option.map_eq_some_iff] at h
    obtain ⟨q, h1, h2⟩ := h
    obtain ⟨e', ps⟩ := q
    dsimp only at h2
    subst h2
    have hm := m_lookup h1
    have hg : mCPL.getD own [] = l := by rw [List.getD_eq_getElem?_getD, hl]; rfl
    unfold mPoolOK at hp
    rw [hg, List.all_eq_true] at hp
    have ho := hp _ hm
    refine ⟨?_, ps, ho⟩
    simp only [mEntOK, Bool.and_eq_true, decide_eq_true_eq] at ho
    exact mwd_all ho.1.1 ho.1.2
/-- a class's fields: among the words, their types, their names apart -/
def mClsOK (q : String × List (String × String × FieldType × Bool)) (ps : mPo) : Bool :=
  decide ((u_ws q.1 (mT q.1 q.2) q.2.length).length = ps.length) && (((u_ws q.1 (mT q.1 q.2) q.2.length).zip ps).all mwd) && (q.2.all fun f => decide (parseFieldDescriptor f.2.1 = some f.2.2.1)) && decide ((q.2.map fun f => f.1).Nodup)
/-- an object's class: it can be made, it is initialised -/
def mInsOK (q : (String × List (String × String × FieldType × Bool)) × mPo) : Bool := ([Jvm.Cond.instantiable q.1.1 q.1.2.length, .initialized q.1.1].zip q.2).all mwd && decide (q.2.length = 2)
/-- a method: its name and its words -/
def mMethOK (y : Nat) : Bool := match mME y with
  | none => false
  | some (own, stt, na, mx, rt, ini, _) =>
    decide ((myN y).cls = mcn own) && plainName (myN y).cls && decide ((myN y).cls ≠ "java/lang/invoke/MethodHandle") && decide ((myN y).cls ≠ "java/lang/invoke/VarHandle") &&
    decide ((parseMethodDescriptor (myN y).desc).map (fun d => d.parameters.length) = some (if stt then na else na - 1)) && (stt || decide (1 ≤ na)) &&
    (!ini || decide ((myN y).name = "<init>")) &&
    (match rt, myR y with
      | 0, none => true
      | 1, some .int => true
      | 2, some .boolean => true
      | 3, some .long => true
      | 4, some (.object _) => true
      | 4, some (.array _) => true
      | 5, some .byte => true
      | 6, some .char => true
      | _, _ => false) &&
    ((mMws y).zip (mMW.getD y [])).all mwd
/-- an instruction as a number (0: not told) -/
def mZg (x : Int) : Nat := match x with
  | .ofNat n => 2 * n
  | .negSucc n => 2 * n + 1
def mUz (n : Nat) : Int := match n % 2 with
  | 0 => .ofNat (n / 2)
  | _ => .negSucc (n / 2)
theorem mUz_ok (x : Int) : mUz (mZg x) = x := by
  cases x with
  | ofNat n =>
    show mUz (2 * n) = _
    unfold mUz
    rw [show 2 * n % 2 = 0 by omega, show 2 * n / 2 = n by omega]
    rfl
  | negSucc n =>
    show mUz (2 * n + 1) = _
    unfold mUz
    rw [show (2 * n + 1) % 2 = 1 by omega, show (2 * n + 1) / 2 = n by omega]
    rfl
def mCn (c : Jvm.ClassFile.Cond) : Nat := match c with
  | .eq => 0
  | .ne => 1
  | .lt => 2
  | .ge => 3
  | .gt => 4
  | .le => 5
def mNc (n : Nat) : Jvm.ClassFile.Cond := match n with
  | 0 => .eq
  | 1 => .ne
  | 2 => .lt
  | 3 => .ge
  | 4 => .gt
  | _ => .le
def mEn (i : Jvm.ClassFile.Instr) : Nat := match i with
  | .aload_n x => 1 + 64 * x.val
  | .iload_n x => 2 + 64 * x.val
  | .istore_n x => 3 + 64 * x.val
  | .getfield x => 4 + 64 * x
  | .putfield x => 5 + 64 * x
  | .invokevirtual x => 6 + 64 * x
  | .invokestatic x => 7 + 64 * x
  | .iload x => 8 + 64 * x
  | .istore x => 9 + 64 * x
  | .iconst x => 10 + 64 * mZg x
  | .bipush x => 11 + 64 * mZg x
  | .sipush x => 12 + 64 * mZg x
  | .goto x => 13 + 64 * mZg x
  | .ireturn => 14
  | .return_ => 15
  | .iaload => 16
  | .iastore => 17
  | .iadd => 18
  | .isub => 19
  | .imul => 20
  | .pop => 21
  | .if_icmp c x => 22 + 64 * (mCn c + 8 * mZg x)
  | .ifCond c x => 23 + 64 * (mCn c + 8 * mZg x)
  | _ => 0
def mDe (k q : Nat) : Option Jvm.ClassFile.Instr := match k with
  | 1 => if h : q < 4 then some (.aload_n ⟨q, h⟩) else none
  | 2 => if h : q < 4 then some (.iload_n ⟨q, h⟩) else none
  | 3 => if h : q < 4 then some (.istore_n ⟨q, h⟩) else none
  | 4 => some (.getfield q)
  | 5 => some (.putfield q)
  | 6 => some (.invokevirtual q)
  | 7 => some (.invokestatic q)
  | 8 => some (.iload q)
  | 9 => some (.istore q)
  | 10 => some (.iconst (mUz q))
  | 11 => some (.bipush (mUz q))
  | 12 => some (.sipush (mUz q))
  | 13 => some (.goto (mUz q))
  | 14 => some .ireturn
  | 15 => some .return_
  | 16 => some .iaload
  | 17 => some .iastore
  | 18 => some .iadd
  | 19 => some .isub
  | 20 => some .imul
  | 21 => some .pop
  | 22 => some (.if_icmp (mNc (q % 8)) (mUz (q / 8)))
  | 23 => some (.ifCond (mNc (q % 8)) (mUz (q / 8)))
  | _ => none
theorem mDe_ok (i : Jvm.ClassFile.Instr) (h : mEn i ≠ 0) : mDe (mEn i % 64) (mEn i / 64) = some i := by
  cases i
  case aload_n x =>
    show mDe ((1 + 64 * x.val) % 64) ((1 + 64 * x.val) / 64) = _
    rw [show (1 + 64 * x.val) % 64 = 1 by omega, show (1 + 64 * x.val) / 64 = x.val by omega]
    show (if h : x.val < 4 then some (Jvm.ClassFile.Instr.aload_n ⟨x.val, h⟩) else none) = _
    rw [dif_pos x.isLt]
  case iload_n x =>
    show mDe ((2 + 64 * x.val) % 64) ((2 + 64 * x.val) / 64) = _
    rw [show (2 + 64 * x.val) % 64 = 2 by omega, show (2 + 64 * x.val) / 64 = x.val by omega]
    show (if h : x.val < 4 then some (Jvm.ClassFile.Instr.iload_n ⟨x.val, h⟩) else none) = _
    rw [dif_pos x.isLt]
  case istore_n x =>
    show mDe ((3 + 64 * x.val) % 64) ((3 + 64 * x.val) / 64) = _
    rw [show (3 + 64 * x.val) % 64 = 3 by omega, show (3 + 64 * x.val) / 64 = x.val by omega]
    show (if h : x.val < 4 then some (Jvm.ClassFile.Instr.istore_n ⟨x.val, h⟩) else none) = _
    rw [dif_pos x.isLt]
  case getfield x =>
    show mDe ((4 + 64 * x) % 64) ((4 + 64 * x) / 64) = _
    rw [show (4 + 64 * x) % 64 = 4 by omega, show (4 + 64 * x) / 64 = x by omega]
    rfl
  case putfield x =>
    show mDe ((5 + 64 * x) % 64) ((5 + 64 * x) / 64) = _
    rw [show (5 + 64 * x) % 64 = 5 by omega, show (5 + 64 * x) / 64 = x by omega]
    rfl
  case invokevirtual x =>
    show mDe ((6 + 64 * x) % 64) ((6 + 64 * x) / 64) = _
    rw [show (6 + 64 * x) % 64 = 6 by omega, show (6 + 64 * x) / 64 = x by omega]
    rfl
  case invokestatic x =>
    show mDe ((7 + 64 * x) % 64) ((7 + 64 * x) / 64) = _
    rw [show (7 + 64 * x) % 64 = 7 by omega, show (7 + 64 * x) / 64 = x by omega]
    rfl
  case iload x =>
    show mDe ((8 + 64 * x) % 64) ((8 + 64 * x) / 64) = _
    rw [show (8 + 64 * x) % 64 = 8 by omega, show (8 + 64 * x) / 64 = x by omega]
    rfl
  case istore x =>
    show mDe ((9 + 64 * x) % 64) ((9 + 64 * x) / 64) = _
    rw [show (9 + 64 * x) % 64 = 9 by omega, show (9 + 64 * x) / 64 = x by omega]
    rfl
  case iconst x =>
    show mDe ((10 + 64 * mZg x) % 64) ((10 + 64 * mZg x) / 64) = _
    rw [show (10 + 64 * mZg x) % 64 = 10 by omega, show (10 + 64 * mZg x) / 64 = mZg x by omega]
    show some (Jvm.ClassFile.Instr.iconst (mUz (mZg x))) = _
    rw [mUz_ok]
  case bipush x =>
    show mDe ((11 + 64 * mZg x) % 64) ((11 + 64 * mZg x) / 64) = _
    rw [show (11 + 64 * mZg x) % 64 = 11 by omega, show (11 + 64 * mZg x) / 64 = mZg x by omega]
    show some (Jvm.ClassFile.Instr.bipush (mUz (mZg x))) = _
    rw [mUz_ok]
  case sipush x =>
    show mDe ((12 + 64 * mZg x) % 64) ((12 + 64 * mZg x) / 64) = _
    rw [show (12 + 64 * mZg x) % 64 = 12 by omega, show (12 + 64 * mZg x) / 64 = mZg x by omega]
    show some (Jvm.ClassFile.Instr.sipush (mUz (mZg x))) = _
    rw [mUz_ok]
  case goto x =>
    show mDe ((13 + 64 * mZg x) % 64) ((13 + 64 * mZg x) / 64) = _
    rw [show (13 + 64 * mZg x) % 64 = 13 by omega, show (13 + 64 * mZg x) / 64 = mZg x by omega]
    show some (Jvm.ClassFile.Instr.goto (mUz (mZg x))) = _
    rw [mUz_ok]
  case ireturn => rfl
  case return_ => rfl
  case iaload => rfl
  case iastore => rfl
  case iadd => rfl
  case isub => rfl
  case imul => rfl
  case pop => rfl
  case if_icmp c x =>
    show mDe ((22 + 64 * (mCn c + 8 * mZg x)) % 64) ((22 + 64 * (mCn c + 8 * mZg x)) / 64) = _
    rw [show (22 + 64 * (mCn c + 8 * mZg x)) % 64 = 22 by omega, show (22 + 64 * (mCn c + 8 * mZg x)) / 64 = mCn c + 8 * mZg x by omega]
    show some (Jvm.ClassFile.Instr.if_icmp (mNc ((mCn c + 8 * mZg x) % 8)) (mUz ((mCn c + 8 * mZg x) / 8))) = _
    have hc : mCn c < 6 := by cases c <;> decide
    have hn : mNc (mCn c) = c := by cases c <;> rfl
    rw [show (mCn c + 8 * mZg x) % 8 = mCn c by omega, show (mCn c + 8 * mZg x) / 8 = mZg x by omega, mUz_ok, hn]
  case ifCond c x =>
    show mDe ((23 + 64 * (mCn c + 8 * mZg x)) % 64) ((23 + 64 * (mCn c + 8 * mZg x)) / 64) = _
    rw [show (23 + 64 * (mCn c + 8 * mZg x)) % 64 = 23 by omega, show (23 + 64 * (mCn c + 8 * mZg x)) / 64 = mCn c + 8 * mZg x by omega]
    show some (Jvm.ClassFile.Instr.ifCond (mNc ((mCn c + 8 * mZg x) % 8)) (mUz ((mCn c + 8 * mZg x) / 8))) = _
    have hc : mCn c < 6 := by cases c <;> decide
    have hn : mNc (mCn c) = c := by cases c <;> rfl
    rw [show (mCn c + 8 * mZg x) % 8 = mCn c by omega, show (mCn c + 8 * mZg x) / 8 = mZg x by omega, mUz_ok, hn]
  all_goals exact absurd rfl h
def mIeq (z : Jvm.ClassFile.Instr × Nat) (i : Jvm.ClassFile.Instr) (len : Nat) : Bool := match Nat.beq (mEn i) 0 with
  | false => Nat.beq (mEn z.1) (mEn i) && Nat.beq z.2 len
  | true => decide (z = (i, len))
theorem mIeq_ok {z : Jvm.ClassFile.Instr × Nat} {i : Jvm.ClassFile.Instr} {len : Nat} (h : mIeq z i len = true) : z = (i, len) := by
  unfold mIeq at h
  split at h
  · next h0 =>
    rw [Bool.and_eq_true] at h
    have e := Nat.eq_of_beq_eq_true h.1
    have hi : mEn i ≠ 0 := fun w => by rw [w] at h0; cases h0
    have a := mDe_ok i hi
    have b := mDe_ok z.1 (by rw [e]; exact hi)
    rw [e, a] at b
    obtain ⟨z1, z2⟩ := z
    rw [show z2 = len from Nat.eq_of_beq_eq_true h.2, show i = z1 from Option.some.inj b]
  · exact of_decide_eq_true h
def mDecOK (b : ByteArray) (cd : List (Nat × Jvm.ClassFile.Instr × Nat)) : Bool := cd.all (fun q => match decode b q.1 with
      | .ok z => mIeq z q.2.1 q.2.2
      | .error _ => false)
