/-! ===== one step, a whole run of the small machine is the machine's ===== -/
/-- one step that neither calls nor returns -/
def mStepG (XA : Nat → Option (Nat × List Int32)) (own : Nat) (ini : Bool) (i : Jvm.ClassFile.Instr) (len pc : Nat) (ls : mL) (st : List mV) (h : mH) : Option (Nat × mL × List mV × mH) :=
  match mS i st with
  | some (n, st') => if n = len then some (pc + len, ls, st', h) else none
  | none => match mLd i with
    | some (k, kd, n) => (match ls[k]? with
      | some (some v) => if mkind v = kd ∧ n = len then some (pc + len, ls, v :: st, h) else none
      | _ => none)
    | none => match mSt i with
      | some (k, kd, n) => (match st with
        | v :: r => if mkind v = kd ∧ n = len then (if kd = 1 then (if k + 1 < ls.length then some (pc + len, mput2 ls k v, r, h) else none) else (if k < ls.length then some (pc + len, mput1 ls k v, r, h) else none)) else none
        | [] => none)
      | none => match mBr i len pc st with
        | some (t, st') => some (t, ls, st', h)
        | none => match mGetA XA i st h with
          | some st' => if len = 1 then some (pc + 1, ls, st', h) else none
          | none => match mPutA 8 i st h with
            | some (st', h') => if len = 1 then some (pc + 1, ls, st', h') else none
            | none => match mNew 8 mNF (mCP own) i st h with
              | some (n, st', h') => if n = len then some (pc + len, ls, st', h') else none
              | none => match mLdc (mCP own) i with
                | some (n, v) => if n = len then some (pc + len, ls, v :: st, h) else none
                | none => match i with
                  | .iinc k n => (match ls[k]? with
                    | some (some (.inl x)) => if len = 3 then some (pc + 3, mput1 ls k (mI (x + Int32.ofInt n)), st, h) else none
                    | _ => none)
                  | .getfield idx => if len = 3 then (mGetF (mCP own idx) st h).map (fun st' => (pc + 3, ls, st', h)) else none
                  | .putfield idx => if len = 3 then (mPutF mTF own ini (mCP own idx) st h).map (fun q => (pc + 3, ls, q.1, q.2)) else none
                  | _ => none
/-- the run of method mid from pc: how much is left of the frames' number (fr) and of their words (lo) -/
def mrunG (XA : Nat → Option (Nat × List Int32)) : Nat → Nat → Nat → Nat → Nat → mL → List mV → mH → Option (mH × Option mV)
  | 0, _, _, _, _, _, _, _ => none
  | f + 1, fr, lo, mid, pc, ls, st, h =>
    match mME mid with
    | none => none
    | some (own, _, _, _, rt, ini, cd) => match cd.lookup pc with
      | none => none
      | some (i, len) => match mRet rt i st with
        | some v => if len = 1 then some (h, v) else none
        | none => match mInv i with
          | some (idx, kd) => (match mCP own idx with
            | some (7, q, w) => if len = 3 ∧ w = (kd : Int) ∧ 1 ≤ fr ∧ 64 ≤ lo ∧ ((st.map mcat).sum ≤ 16) then (match mJdk q st h with
              | some (st', h') => mrunG XA f fr lo mid (pc + 3) ls st' h'
              | none => none) else none
            | some (1, y, kk) => (match mME y with
              | some (own', _, na, mx, _, _, _) =>
                if len = 3 ∧ na ≤ st.length ∧ 1 ≤ fr ∧ mx + 19 ≤ lo ∧ ((st.drop na).map mcat).sum ≤ 8 ∧ mRecv kd kk.toNat own' (st.take na).reverse h = true ∧ (mEnt (st.take na).reverse).length ≤ mx then
                  (match mrunG XA f (fr - 1) (lo - (mx + 19)) y 0 (mEntry (st.take na).reverse mx) [] h with
                  | some (h', v) => mrunG XA f fr lo mid (pc + 3) ls (v.toList ++ st.drop na) h'
                  | none => none)
                else none
              | none => none)
            | _ => none)
          | none => match mStepG XA own ini i len pc ls st h with
            | some (pc', ls', st', h') => mrunG XA f fr lo mid pc' ls' st' h'
            | none => none
theorem mhs_set {h : mH} {a : Nat} {c d : mC} (hc : h[a]? = some c) (e : mcs d = mcs c) : mhs (h.set a d) = mhs h := by
  unfold mhs
  induction h generalizing a with
  | nil => rfl
  | cons x t ih =>
    cases a with
    | zero =>
      simp only [List.getElem?_cons_zero, Option.some.injEq] at hc
      subst hc
      simp [List.set, e]
    | succ a =>
      simp only [List.getElem?_cons_succ] at hc
      have := ih hc
      simp only [List.set, List.map_cons, List.sum_cons] at this ⊢
      omega
/-- a step's heap: as it was, or one cell changed for one as large, or a new cell -/
def mHeapStep (h h' : mH) : Prop := h' = h ∨ (∃ (a : Nat) (c d : mC), h[a]? = some c ∧ mcs d = mcs c ∧ h' = h.set a d) ∨ ∃ d : mC, h' = h ++ [d]
theorem mHeapStep.grow {h h' : mH} (g : mHeapStep h h') : h.length ≤ h'.length ∧ mhs h ≤ mhs h' := by
  rcases g with rfl | ⟨a, c, d, h1, h2, rfl⟩ | ⟨d, rfl⟩
  · exact ⟨Nat.le_refl _, Nat.le_refl _⟩
  · rw [List.length_set, mhs_set h1 h2]
    exact ⟨Nat.le_refl _, Nat.le_refl _⟩
  · rw [List.length_append, mhs_app]
    exact ⟨by show h.length ≤ h.length + 1; omega, by omega⟩
theorem mPutA_heap {cs : Nat} {i : Jvm.ClassFile.Instr} {st st' : List mV} {h h' : mH} (hg : mPutA cs i st h = some (st', h')) : h'.length = h.length ∧ mhs h' = mhs h := by
  unfold mPutA at hg
  repeat' split at hg
  all_goals (try cases hg)
  all_goals (rename_i hx _; exact ⟨List.length_set, mhs_set (by assumption) (by simp [mcs])⟩)
theorem mPutF_heap {tf : Nat → Nat → Option (FieldType × Bool)} {own : Nat} {ini : Bool} {cp : Option mP} {st st' : List mV} {h h' : mH} (hg : mPutF tf own ini cp st h = some (st', h')) : h'.length = h.length ∧ mhs h' = mhs h := by
  unfold mPutF at hg
  repeat' split at hg
  all_goals (try cases hg)
  all_goals exact ⟨List.length_set, mhs_set (by assumption) (by simp [mcs])⟩
theorem mNew_heap {cs : Nat} {nf : Nat → Option (List FieldType)} {cp : Nat → Option mP} {i : Jvm.ClassFile.Instr} {st st' : List mV} {h h' : mH} {n : Nat} (hg : mNew cs nf cp i st h = some (n, st', h')) : ∃ d, h' = h ++ [d] := by
  unfold mNew at hg
  repeat' split at hg
  all_goals (try cases hg)
  all_goals exact ⟨_, rfl⟩
theorem mJdk_heap {q : Nat} {st st' : List mV} {h h' : mH} (hg : mJdk q st h = some (st', h')) : h'.length = h.length ∧ mhs h' = mhs h := by
  unfold mJdk at hg
  repeat' split at hg
  all_goals (try cases hg)
  all_goals first
    | exact ⟨rfl, rfl⟩
    | (refine ⟨List.length_set, mhs_set (by assumption) ?_⟩
       rename_i hcnd
       simp only [mcs, List.length_append, List.length_take, List.length_drop]
       omega)
theorem mStep_heap {XA : Nat → Option (Nat × List Int32)} {own : Nat} {ini : Bool} {i : Jvm.ClassFile.Instr} {len pc pc' : Nat} {ls ls' : mL} {st st' : List mV} {h h' : mH} (hg : mStepG XA own ini i len pc ls st h = some (pc', ls', st', h')) : h.length ≤ h'.length ∧ mhs h ≤ mhs h' := by
  unfold mStepG at hg
  split at hg
  · split at hg <;> cases hg
    exact ⟨Nat.le_refl _, Nat.le_refl _⟩
  · split at hg
    · split at hg
      · split at hg <;> cases hg
        exact ⟨Nat.le_refl _, Nat.le_refl _⟩
      · cases hg
    · split at hg
      · split at hg
        · repeat' split at hg
          all_goals (try cases hg)
          all_goals exact ⟨Nat.le_refl _, Nat.le_refl _⟩
        · cases hg
      · split at hg
        · cases hg
          exact ⟨Nat.le_refl _, Nat.le_refl _⟩
        · split at hg
          · split at hg <;> cases hg
            exact ⟨Nat.le_refl _, Nat.le_refl _⟩
          · split at hg
            · next hp =>
              split at hg <;> cases hg
              have := mPutA_heap hp
              omega
            · split at hg
              · next hn =>
                split at hg <;> cases hg
                obtain ⟨d, rfl⟩ := mNew_heap hn
                rw [List.length_append, mhs_app]
                exact ⟨by omega, by omega⟩
              · split at hg
                · split at hg <;> cases hg
                  exact ⟨Nat.le_refl _, Nat.le_refl _⟩
                · split at hg
                  · split at hg
                    · split at hg <;> cases hg
                      exact ⟨Nat.le_refl _, Nat.le_refl _⟩
                    · cases hg
                  · split at hg
                    · simp only [Option.map_eq_some_iff, Prod.mk.injEq] at hg
                      obtain ⟨_, _, _, _, _, rfl⟩ := hg
                      exact ⟨Nat.le_refl _, Nat.le_refl _⟩
                    · cases hg
                  · split at hg
                    · simp only [Option.map_eq_some_iff, Prod.mk.injEq] at hg
                      obtain ⟨q, h1, _, _, _, rfl⟩ := hg
                      have := mPutF_heap (st' := q.1) (h' := q.2) h1
                      omega
                    · cases hg
                  · cases hg
section MS8
variable {p : Program} {l : Launch} {e : Env} {R : Room} {s : State} {m : MethodId} {args : Array Value} {below : List Frame} {meth : Method} {c : Code} {H : Heap} {locs : List Loc} {cells slots : Nat} {Q : State → Prop}
variable {cc : ByteArray} {pc len : Nat} {lr : Array Slot} {S0 : Nat} {E : Nat → Option Nat} {D : va_G} {TA : Nat → ClassId} {X : List Int32} {i : Jvm.ClassFile.Instr} {st st' : List mV} {h h' : mH} {own idx : Nat}
theorem ms_Step {ls ls' : mL} {pc' : Nat} {ini : Bool} (hx : p.tables.exec = Jvm.exec) (hb : c.code = cc) (hown : s.vm.findClass (mcn own) = some m.cls) (hts : ∀ w ∈ mWS, w.before args s = true) (hK : va_K D mcls (mtys TA) s) (hX : mEX S0 E X s) (hini : ini = true → meth.name = "<init>") (hl : mlv S0 E ls lr) (hs : mSim D TA S0 E h H) (hS : va_S (mAd S0) s.heap H locs) (hd : decode cc pc = .ok (i, len)) (hg : mStepG (mXA X) own ini i len pc ls st h = some (pc', ls', st', h')) (hc1 : cells + (h'.length - h.length) ≤ R.cells) (hc2 : slots + (mhs h' - mhs h) ≤ R.slots)
    (k : ∀ (lr1 : Array Slot) (H1 : Heap) (locs1 : List Loc), ls'.length = ls.length → mlv S0 E ls' lr1 → mSim D TA S0 E h' H1 → va_S (mAd S0) s.heap H1 locs1 → W p l e R s m args below meth c H1 locs1 (cells + (h'.length - h.length)) (slots + (mhs h' - mhs h)) Q (F0 m pc' lr1 (st'.map (mmu S0 E)))) : W p l e R s m args below meth c H locs cells slots Q (F0 m pc lr (st.map (mmu S0 E))) := by
  have same : ∀ (h2 : mH), h2.length = h.length → mhs h2 = mhs h → h' = h2 → cells + (h'.length - h.length) = cells ∧ slots + (mhs h' - mhs h) = slots := by
    intro h2 e1 e2 e3
    subst e3
    rw [e1, e2, Nat.sub_self, Nat.sub_self]
    exact ⟨rfl, rfl⟩
  unfold mStepG at hg
  split at hg
  · next n st1 h1 =>
    split at hg
    · next hn =>
      cases hg
      subst hn
      obtain ⟨q1, q2⟩ := same h rfl rfl rfl
      rw [q1, q2] at k
      exact ms_S hx hb hd h1 (k lr H locs rfl hl hs hS)
    · cases hg
  · split at hg
    · next kk kd n h1 =>
      split at hg
      · next v hv =>
        split at hg
        · next hc =>
          cases hg
          obtain ⟨c1, rfl⟩ := hc
          obtain ⟨q1, q2⟩ := same h rfl rfl rfl
          rw [q1, q2] at k
          exact ms_Ld hx hb hd h1 hl hv c1 (k lr H locs rfl hl hs hS)
        · cases hg
      · cases hg
    · split at hg
      · next kk kd n h1 =>
        split at hg
        · next v r =>
          split at hg
          · next hc =>
            obtain ⟨c1, rfl⟩ := hc
            split at hg
            · next c2 =>
              subst c2
              split at hg
              · next c3 =>
                cases hg
                obtain ⟨q1, q2⟩ := same h rfl rfl rfl
                rw [q1, q2] at k
                exact ms_St2 hx hb hd h1 hl c1 c3 (fun lr1 hl1 => k lr1 H locs (mput2_len _ _ _) hl1 hs hS)
              · cases hg
            · next c2 =>
              split at hg
              · next c3 =>
                cases hg
                obtain ⟨q1, q2⟩ := same h rfl rfl rfl
                rw [q1, q2] at k
                exact ms_St1 hx hb hd h1 hl c1 c2 c3 (fun lr1 hl1 => k lr1 H locs (mput1_len _ _ _) hl1 hs hS)
              · cases hg
          · cases hg
        · cases hg
      · split at hg
        · next t st1 h1 =>
          cases hg
          obtain ⟨q1, q2⟩ := same h rfl rfl rfl
          rw [q1, q2] at k
          exact ms_Br hx hb hd h1 (k lr H locs rfl hl hs hS)
        · split at hg
          · next st1 h1 =>
            split at hg
            · next hn =>
              cases hg
              subst hn
              obtain ⟨q1, q2⟩ := same h rfl rfl rfl
              rw [q1, q2] at k
              exact ms_GetA hx hb hK hX hs hS hd h1 (k lr H locs rfl hl hs hS)
            · cases hg
          · split at hg
            · next st1 h2 hp =>
              split at hg
              · next hn =>
                cases hg
                subst hn
                obtain ⟨q1, q2⟩ := same h' (mPutA_heap hp).1 (mPutA_heap hp).2 rfl
                rw [q1, q2] at k
                exact ms_PutA hx hb hK hs hS hd hp (fun H1 locs1 g1 g2 => k lr H1 locs1 rfl hl g1 g2)
              · cases hg
            · split at hg
              · next n st1 h2 hp =>
                split at hg
                · next hn =>
                  cases hg
                  subst hn
                  exact ms_New hx hb hown hts hK hX hs hS hd hp hc1 hc2 (fun H1 g1 g2 => k lr H1 locs rfl hl g1 g2)
                · cases hg
              · split at hg
                · next n v hp =>
                  split at hg
                  · next hn =>
                    cases hg
                    subst hn
                    obtain ⟨q1, q2⟩ := same h rfl rfl rfl
                    rw [q1, q2] at k
                    exact ms_Ldc hx hb hown hts hX hS hd hp (k lr H locs rfl hl hs hS)
                  · cases hg
                · split at hg
                  · next kk n =>
                    split at hg
                    · next x hv =>
                      split at hg
                      · next hn =>
                        cases hg
                        subst hn
                        obtain ⟨q1, q2⟩ := same h rfl rfl rfl
                        rw [q1, q2] at k
                        exact ms_iinc hx hb hd hl hv (fun lr1 hl1 => k lr1 H locs (mput1_len _ _ _) hl1 hs hS)
                      · cases hg
                    · cases hg
                  · next ix =>
                    split at hg
                    · next hn =>
                      subst hn
                      simp only [Option.map_eq_some_iff, Prod.mk.injEq] at hg
                      obtain ⟨st1, h1, rfl, rfl, rfl, rfl⟩ := hg
                      obtain ⟨q1, q2⟩ := same h rfl rfl rfl
                      rw [q1, q2] at k
                      exact ms_GetF hx hb hown hts hK hX hs hS hd h1 (k lr H locs rfl hl hs hS)
                    · cases hg
                  · next ix =>
                    split at hg
                    · next hn =>
                      subst hn
                      simp only [Option.map_eq_some_iff, Prod.mk.injEq] at hg
                      obtain ⟨q, h1, rfl, rfl, rfl, rfl⟩ := hg
                      obtain ⟨st1, h2⟩ := q
                      obtain ⟨q1, q2⟩ := same h2 (mPutF_heap h1).1 (mPutF_heap h1).2 rfl
                      dsimp only at q1 q2 k
                      rw [q1, q2] at k
                      exact ms_PutF hx hb hown hts hK hini hs hS hd h1 (fun H1 locs1 g1 g2 => k lr H1 locs1 rfl hl g1 g2)
                    · cases hg
                  · cases hg
end MS8
