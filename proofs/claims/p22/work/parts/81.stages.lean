noncomputable section
/-! ===== a run in stages: what lies between them is written out ===== -/
def mdA (a b : mA) : Decidable (a = b) := inferInstance
def mdF (a b : List mV) : Decidable (a = b) := inferInstance
def mdC : (a b : mC) → Decidable (a = b)
  | .inl (n, x), .inl (m, y) => match Nat.decEq n m, mdF x y with
    | isTrue h1, isTrue h2 => isTrue (by rw [h1, h2])
    | isFalse h1, _ => isFalse (fun q => h1 (by cases q; rfl))
    | _, isFalse h2 => isFalse (fun q => h2 (by cases q; rfl))
  | .inr (n, x), .inr (m, y) => match Nat.decEq n m, mdA x y with
    | isTrue h1, isTrue h2 => isTrue (by rw [h1, h2])
    | isFalse h1, _ => isFalse (fun q => h1 (by cases q; rfl))
    | _, isFalse h2 => isFalse (fun q => h2 (by cases q; rfl))
  | .inl _, .inr _ => isFalse (fun q => by cases q)
  | .inr _, .inl _ => isFalse (fun q => by cases q)
def mdE (a b : mH) : Decidable (a = b) := @List.hasDecEq mC mdC a b
def mIs (o : Option (Nat × mL × List mV × mH)) (pc : Nat) (ls : mL) (st : List mV) (h : mH) : Bool := match o with
  | some (a, b, c, d) => Nat.beq a pc && decide (b = ls) && decide (c = st) && @decide (d = h) (mdE d h)
  | none => false
theorem mIs_ok {o : Option (Nat × mL × List mV × mH)} {pc : Nat} {ls : mL} {st : List mV} {h : mH} (q : mIs o pc ls st h = true) : o = some (pc, ls, st, h) := by
  unfold mIs at q
  split at q
  · simp only [Bool.and_eq_true, decide_eq_true_eq] at q
    obtain ⟨⟨⟨q1, rfl⟩, rfl⟩, rfl⟩ := q
    rw [Nat.eq_of_beq_eq_true q1]
  · cases q
/-- a run, and that it ends so -/
def mEnd (o : Option (mH × Option mV)) (h : mH) (v : Option mV) : Bool := match o with
  | some (d, x) => @decide (d = h) (mdE d h) && decide (x = v)
  | none => false
theorem mEnd_ok {o : Option (mH × Option mV)} {h : mH} {v : Option mV} (q : mEnd o h v = true) : o = some (h, v) := by
  unfold mEnd at q
  split at q
  · simp only [Bool.and_eq_true, decide_eq_true_eq] at q
    obtain ⟨rfl, rfl⟩ := q
    rfl
  · cases q
/-- a stage, then a run from where it ends -/
theorem mstage {XB : Nat → Option (Nat × List Int32)} (hXY : ∀ k v, mX0 k = some v → XB k = some v) {f fr lo mid g n pc pc' : Nat} {ls ls' : mL} {st st' : List mV} {h h' : mH} {r : mH × Option mV} (q : mpre mX0 f fr lo mid n pc ls st h = some (pc', ls', st', h')) (hr : mrunG XB g fr lo mid pc' ls' st' h' = some r) : mrunG XB (f + g + n) fr lo mid pc ls st h = some r :=
  mpre_run hXY (o := (pc', ls', st', h')) hr q
/-- where method mid at pc calls y -/
def mcall_ok (fr lo mid pc y na mx : Nat) (st : List mV) (h : mH) : Bool := match mME mid with
  | some (own, _, _, _, rt, _, cd) => (match cd.lookup pc with
    | some (i, len) => (mRet rt i st).isNone && (match mInv i with
      | some (idx, kd) => (match mCP own idx, mME y with
        | some (1, y', kk), some (own', _, na', mx', _, _, _) => decide (y' = y ∧ na' = na ∧ mx' = mx) &&
          decide (len = 3 ∧ na ≤ st.length ∧ 1 ≤ fr ∧ mx + 19 ≤ lo ∧ ((st.drop na).map mcat).sum ≤ 8 ∧ mRecv kd kk.toNat own' (st.take na).reverse h = true ∧ (mEnt (st.take na).reverse).length ≤ mx)
        | _, _ => false)
      | none => false)
    | none => false)
  | none => false
theorem mcall_run {XB : Nat → Option (Nat × List Int32)} {F g fr lo mid pc y na mx : Nat} {ls : mL} {st : List mV} {h h1 : mH} {v : Option mV} {r : mH × Option mV} (q : mcall_ok fr lo mid pc y na mx st h = true)
    (hcall : mrunG XB F (fr - 1) (lo - (mx + 19)) y 0 (mEntry (st.take na).reverse mx) [] h = some (h1, v)) (hr : mrunG XB g fr lo mid (pc + 3) ls (v.toList ++ st.drop na) h1 = some r) : mrunG XB (F + g + 1) fr lo mid pc ls st h = some r := by
  unfold mcall_ok at q
  unfold mrunG
  split at q
  · next own s1 s2 s3 rt ini cd hme =>
    rw [hme]
    dsimp only
    split at q
    · next i len hcd =>
      rw [hcd]
      dsimp only
      rw [Bool.and_eq_true, Option.isNone_iff_eq_none] at q
      obtain ⟨hmr, q⟩ := q
      rw [hmr]
      dsimp only
      split at q
      · next idx kd hi =>
        rw [hi]
        dsimp only
        split at q
        · next y' kk own' t1 na' mx' t2 t3 t4 hcp hy =>
          simp only [Bool.and_eq_true, decide_eq_true_eq] at q
          obtain ⟨⟨rfl, rfl, rfl⟩, hc⟩ := q
          split
          · next hcp2 =>
            rw [hcp] at hcp2
            cases hcp2
          · next hcp2 =>
            rw [hcp] at hcp2
            cases hcp2
            rw [hy]
            dsimp only
            rw [if_pos hc, mrunG_more hcall (F + g) (by omega)]
            exact mrunG_more hr _ (by omega)
          · next _ hno => exact absurd hcp (hno _ _)
        · cases q
      · cases q
    · cases q
  · cases q
end
