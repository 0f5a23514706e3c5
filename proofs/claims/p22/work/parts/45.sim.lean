/-! ===== WHAT THE SMALL MACHINE'S STATE STANDS FOR; its steps are the machine's ===== -/
def mmu (S0 : Nat) (E : Nat → Option Nat) : mV → Value
  | .inl x => .int x
  | .inr (.inl x) => .long x
  | .inr (.inr (.inl r)) => va_rf (r.map fun a => S0 + a)
  | .inr (.inr (.inr k)) => va_rf (E k)
theorem va_rf_cat (r : Option Nat) : (va_rf r).category = 1 := by cases r <;> rfl
theorem mmu_cat (S0 : Nat) (E : Nat → Option Nat) (v : mV) : (mmu S0 E v).category = mcat v := by
  rcases v with x | x | r | k
  · rfl
  · rfl
  · exact va_rf_cat _
  · exact va_rf_cat _
def mtys (TA : Nat → ClassId) : List (ClassId × FieldType) := [(TA 0, .int), (TA 1, .long), (TA 2, .byte), (TA 3, .boolean), (TA 4, .object "HairRope$State")]
def mce (TA : Nat → ClassId) (S0 : Nat) (E : Nat → Option Nat) : mC → va_E
  | .inl (ci, fs) => .inr (ci, fs.map (mmu S0 E))
  | .inr (t, .inl xs) => .inl (TA t, (xs.length, .inl (fun j => xs.getD j 0)))
  | .inr (t, .inr (.inl xs)) => .inl (TA t, (xs.length, .inr (.inl (fun j => xs.getD j 0))))
  | .inr (t, .inr (.inr xs)) => .inl (TA t, (xs.length, .inr (.inr (.inr (.inr (fun j => (xs.getD j none).map fun a => S0 + a))))))
/-- an object has as many fields as its class; an array is of the type that its place says, and holds what its type allows -/
def mwf : mC → Prop
  | .inl (ci, fs) => ∃ q, mCL[ci]? = some q ∧ fs.length = q.2.length
  | .inr (t, .inl xs) => (t = 0 ∨ t = 2 ∨ t = 3) ∧ xs.length < 65537
  | .inr (t, .inr (.inl xs)) => t = 1 ∧ xs.length < 65537
  | .inr (t, .inr (.inr xs)) => t = 4 ∧ xs.length < 65537
def mSim (D : va_G) (TA : Nat → ClassId) (S0 : Nat) (E : Nat → Option Nat) (h : mH) (H : Heap) : Prop :=
  H.size = S0 + h.length ∧ ∀ (i : Nat) (c : mC), h[i]? = some c → va_at D mcls (S0 + i, mce TA S0 E c) H ∧ mwf c
def mAd (S0 : Nat) : Nat → Prop := fun q => S0 ≤ q
theorem mSim.put {D : va_G} {TA : Nat → ClassId} {S0 : Nat} {E : Nat → Option Nat} {h : mH} {H H1 : Heap} {i : Nat} {c c' : mC} (hs : mSim D TA S0 E h H) (hi : h[i]? = some c) (hat : va_at D mcls (S0 + i, mce TA S0 E c') H1) (hw : mwf c') (z : H1.size = H.size) (oq : ∀ q : Nat, q ≠ S0 + i → H1[q]? = H[q]?) : mSim D TA S0 E (h.set i c') H1 := by
  refine ⟨by rw [z, hs.1, List.length_set], fun j d hj => ?_⟩
  by_cases e : i = j
  · subst e
    have hlt : i < h.length := (List.getElem?_eq_some_iff.mp hi).1
    rw [List.getElem?_set_self hlt] at hj
    cases hj
    exact ⟨hat, hw⟩
  · rw [List.getElem?_set_ne e] at hj
    obtain ⟨h1, h2⟩ := hs.2 j d hj
    exact ⟨h1.kept (oq _ (by show S0 + j ≠ S0 + i; omega)), h2⟩
theorem mSim.push {D : va_G} {TA : Nat → ClassId} {S0 : Nat} {E : Nat → Option Nat} {h : mH} {H H1 : Heap} {c : mC} (hs : mSim D TA S0 E h H) (hat : va_at D mcls (H.size, mce TA S0 E c) H1) (hw : mwf c) (z : H1.size = H.size + 1) (oq : ∀ q : Nat, q < H.size → H1[q]? = H[q]?) : mSim D TA S0 E (h ++ [c]) H1 := by
  refine ⟨by rw [z, hs.1, List.length_append]; rfl, fun j d hj => ?_⟩
  by_cases e : j < h.length
  · rw [List.getElem?_append_left e] at hj
    obtain ⟨h1, h2⟩ := hs.2 j d hj
    exact ⟨h1.kept (oq _ (by show S0 + j < H.size; rw [hs.1]; omega)), h2⟩
  · rw [List.getElem?_append_right (by omega)] at hj
    have hz : j - h.length < 1 := (List.getElem?_eq_some_iff.mp hj).1
    have ej : j = h.length := by omega
    subst ej
    rw [Nat.sub_self] at hj
    cases hj
    rw [← hs.1]
    exact ⟨hat, hw⟩
section MS1
variable {p : Program} {l : Launch} {e : Env} {R : Room} {s : State} {m : MethodId} {args : Array Value} {below : List Frame} {meth : Method} {c : Code} {H : Heap} {locs : List Loc} {cells slots : Nat} {Q : State → Prop}
variable {cc : ByteArray} {pc len : Nat} {ls : Array Slot} {S0 : Nat} {E : Nat → Option Nat} {i : Jvm.ClassFile.Instr} {st st' : List mV}
theorem mB_inv {f : Int32 → Int32 → mV} {n : Nat} (h : mB f st = some (n, st')) : ∃ x y r, st = mI y :: mI x :: r ∧ n = 1 ∧ st' = f x y :: r := by
  unfold mB at h
  split at h
  · next y x r => cases h; exact ⟨x, y, r, rfl, rfl, rfl⟩
  · cases h
theorem mU_inv {f : Int32 → mV} {n : Nat} (h : mU f st = some (n, st')) : ∃ x r, st = mI x :: r ∧ n = 1 ∧ st' = f x :: r := by
  unfold mU at h
  split at h
  · next x r => cases h; exact ⟨x, r, rfl, rfl, rfl⟩
  · cases h
theorem mBJ_inv {f : Int64 → Int64 → mV} {n : Nat} (h : mBJ f st = some (n, st')) : ∃ x y r, st = mJ y :: mJ x :: r ∧ n = 1 ∧ st' = f x y :: r := by
  unfold mBJ at h
  split at h
  · next y x r => cases h; exact ⟨x, y, r, rfl, rfl, rfl⟩
  · cases h
theorem mUJ_inv {f : Int64 → mV} {n : Nat} (h : mUJ f st = some (n, st')) : ∃ x r, st = mJ x :: r ∧ n = 1 ∧ st' = f x :: r := by
  unfold mUJ at h
  split at h
  · next x r => cases h; exact ⟨x, r, rfl, rfl, rfl⟩
  · cases h
theorem ms_S (hx : p.tables.exec = Jvm.exec) (hb : c.code = cc) (hd : decode cc pc = .ok (i, len)) (h : mS i st = some (len, st'))
    (k : W p l e R s m args below meth c H locs cells slots Q (F0 m (pc + len) ls (st'.map (mmu S0 E)))) : W p l e R s m args below meth c H locs cells slots Q (F0 m pc ls (st.map (mmu S0 E))) := by
  unfold mS at h
  split at h
  · cases h; exact lv_iconst hx hb hd rfl k
  · cases h; exact lv_bipush hx hb hd rfl k
  · cases h; exact lv_sipush hx hb hd rfl k
  · cases h; exact lv_lconst hx hb hd rfl k
  · cases h; exact lv_null hx hb hd k
  · obtain ⟨x, y, r, rfl, rfl, rfl⟩ := mB_inv h; exact lv_iadd hx hb hd k
  · obtain ⟨x, y, r, rfl, rfl, rfl⟩ := mB_inv h; exact lv_isub hx hb hd k
  · obtain ⟨x, y, r, rfl, rfl, rfl⟩ := mB_inv h; exact lv_imul hx hb hd k
  · obtain ⟨x, y, r, rfl, rfl, rfl⟩ := mB_inv h; exact lv_iand hx hb hd k
  · obtain ⟨x, y, r, rfl, rfl, rfl⟩ := mB_inv h; exact lv_ior hx hb hd k
  · obtain ⟨x, y, r, rfl, rfl, rfl⟩ := mB_inv h; exact lv_ixor hx hb hd k
  · obtain ⟨x, y, r, rfl, rfl, rfl⟩ := mB_inv h; exact lv_ishl hx hb hd k
  · obtain ⟨x, y, r, rfl, rfl, rfl⟩ := mB_inv h; exact lv_ishr hx hb hd k
  · obtain ⟨x, y, r, rfl, rfl, rfl⟩ := mB_inv h; exact lv_iushr hx hb hd rfl k
  · split at h
    · next y x r =>
      split at h
      · cases h
      · next hne => cases h; exact lv_idiv hx hb hd hne k
    · cases h
  · split at h
    · next y x r =>
      split at h
      · cases h
      · next hne => cases h; exact lv_irem hx hb hd hne k
    · cases h
  · obtain ⟨x, r, rfl, rfl, rfl⟩ := mU_inv h; exact lv_ineg hx hb hd k
  · obtain ⟨x, r, rfl, rfl, rfl⟩ := mU_inv h; exact lv_i2b hx hb hd rfl k
  · obtain ⟨x, r, rfl, rfl, rfl⟩ := mU_inv h; exact lv_i2c hx hb hd rfl k
  · obtain ⟨x, r, rfl, rfl, rfl⟩ := mU_inv h; exact lv_i2l hx hb hd rfl k
  · obtain ⟨x, r, rfl, rfl, rfl⟩ := mUJ_inv h; exact lv_l2i hx hb hd rfl k
  · obtain ⟨x, y, r, rfl, rfl, rfl⟩ := mBJ_inv h; exact lv_ladd hx hb hd k
  · obtain ⟨x, y, r, rfl, rfl, rfl⟩ := mBJ_inv h; exact lv_lmul hx hb hd k
  · obtain ⟨x, y, r, rfl, rfl, rfl⟩ := mBJ_inv h; exact W.lcmp hx hb hd k
  · split at h
    · next v r =>
      split at h
      · next hc => cases h; exact lv_dup hx hb hd (by rw [mmu_cat]; exact hc) k
      · cases h
    · cases h
  · split at h
    · next v w r =>
      split at h
      · next hc => cases h; exact lv_dup2_11 hx hb hd (by rw [mmu_cat]; exact hc.1) (by rw [mmu_cat]; exact hc.2) k
      · cases h
    · cases h
  · split at h
    · next v r =>
      split at h
      · next hc => cases h; exact lv_pop hx hb hd (by rw [mmu_cat]; exact hc) k
      · cases h
    · cases h
  · cases h
theorem mto_spec {t : Nat} {off : Int} (h : mto pc off = some t) : (pc : Int) + off = (t : Int) := by
  unfold mto at h
  split at h
  · cases h; omega
  · cases h
theorem ms_Br (hx : p.tables.exec = Jvm.exec) (hb : c.code = cc) {t : Nat} (hd : decode cc pc = .ok (i, len)) (h : mBr i len pc st = some (t, st'))
    (k : W p l e R s m args below meth c H locs cells slots Q (F0 m t ls (st'.map (mmu S0 E)))) : W p l e R s m args below meth c H locs cells slots Q (F0 m pc ls (st.map (mmu S0 E))) := by
  unfold mBr at h
  split at h
  · split at h
    · next hl =>
      subst hl
      simp only [Option.map_eq_some_iff, Prod.mk.injEq] at h
      obtain ⟨t', h1, rfl, rfl⟩ := h
      exact lv_goto hx hb hd (mto_spec h1) k
    · cases h
  · next cd off =>
    split at h
    · next x r =>
      split at h
      · next hl =>
        subst hl
        simp only [Option.map_eq_some_iff, Prod.mk.injEq] at h
        obtain ⟨t', h1, h2, rfl⟩ := h
        by_cases hc : mcond cd x 0 = true
        · rw [if_pos hc] at h2
          subst h2
          cases cd <;> simp only [mcond, decide_eq_true_eq] at hc
          · exact lv_if_eq hx hb hd (mto_spec h1) (fun _ => k) (fun n => absurd hc n)
          · exact lv_if_ne hx hb hd (mto_spec h1) (fun _ => k) (fun n => absurd n (by simpa using hc))
          · exact lv_if_lt hx hb hd (mto_spec h1) (fun _ => k) (fun n => absurd hc n)
          · exact lv_if_ge hx hb hd (mto_spec h1) (fun _ => k) (fun n => absurd hc n)
          · exact lv_if_gt hx hb hd (mto_spec h1) (fun _ => k) (fun n => absurd hc n)
          · exact lv_if_le hx hb hd (mto_spec h1) (fun _ => k) (fun n => absurd hc n)
        · rw [if_neg hc] at h2
          subst h2
          cases cd <;> simp only [mcond, decide_eq_true_eq] at hc
          · exact lv_if_eq hx hb hd (mto_spec h1) (fun n => absurd n hc) (fun _ => k)
          · exact lv_if_ne hx hb hd (mto_spec h1) (fun n => absurd n hc) (fun _ => k)
          · exact lv_if_lt hx hb hd (mto_spec h1) (fun n => absurd n hc) (fun _ => k)
          · exact lv_if_ge hx hb hd (mto_spec h1) (fun n => absurd n hc) (fun _ => k)
          · exact lv_if_gt hx hb hd (mto_spec h1) (fun n => absurd n hc) (fun _ => k)
          · exact lv_if_le hx hb hd (mto_spec h1) (fun n => absurd n hc) (fun _ => k)
      · cases h
    · cases h
  · next cd off =>
    split at h
    · next y x r =>
      split at h
      · next hl =>
        subst hl
        simp only [Option.map_eq_some_iff, Prod.mk.injEq] at h
        obtain ⟨t', h1, h2, rfl⟩ := h
        by_cases hc : mcond cd x y = true
        · rw [if_pos hc] at h2
          subst h2
          cases cd <;> simp only [mcond, decide_eq_true_eq] at hc
          · exact lv_icmp_eq hx hb hd (mto_spec h1) (fun _ => k) (fun n => absurd hc n)
          · exact lv_icmp_ne hx hb hd (mto_spec h1) (fun _ => k) (fun n => absurd n (by simpa using hc))
          · exact lv_icmp_lt hx hb hd (mto_spec h1) (fun _ => k) (fun n => absurd hc n)
          · exact lv_icmp_ge hx hb hd (mto_spec h1) (fun _ => k) (fun n => absurd hc n)
          · exact lv_icmp_gt hx hb hd (mto_spec h1) (fun _ => k) (fun n => absurd hc n)
          · exact lv_icmp_le hx hb hd (mto_spec h1) (fun _ => k) (fun n => absurd hc n)
        · rw [if_neg hc] at h2
          subst h2
          cases cd <;> simp only [mcond, decide_eq_true_eq] at hc
          · exact lv_icmp_eq hx hb hd (mto_spec h1) (fun n => absurd n hc) (fun _ => k)
          · exact lv_icmp_ne hx hb hd (mto_spec h1) (fun n => absurd n hc) (fun _ => k)
          · exact lv_icmp_lt hx hb hd (mto_spec h1) (fun n => absurd n hc) (fun _ => k)
          · exact lv_icmp_ge hx hb hd (mto_spec h1) (fun n => absurd n hc) (fun _ => k)
          · exact lv_icmp_gt hx hb hd (mto_spec h1) (fun n => absurd n hc) (fun _ => k)
          · exact lv_icmp_le hx hb hd (mto_spec h1) (fun n => absurd n hc) (fun _ => k)
      · cases h
    · cases h
  · split at h
    · split at h
      · next hl =>
        subst hl
        simp only [Option.map_eq_some_iff, Prod.mk.injEq] at h
        obtain ⟨t', h1, rfl, rfl⟩ := h
        exact lv_ifnullN hx hb hd (mto_spec h1) k
      · cases h
    · split at h
      · next hl => subst hl; cases h; exact lv_ifnull hx hb hd k
      · cases h
    · cases h
  · split at h
    · split at h
      · next hl =>
        subst hl
        simp only [Option.map_eq_some_iff, Prod.mk.injEq] at h
        obtain ⟨t', h1, rfl, rfl⟩ := h
        exact lv_ifnonnull hx hb hd (mto_spec h1) k
      · cases h
    · split at h
      · next hl => subst hl; cases h; exact lv_ifnonnullN hx hb hd k
      · cases h
    · cases h
  · split at h
    · next x r =>
      split at h
      · next ho =>
        simp only [Option.map_eq_some_iff, Prod.mk.injEq] at h
        obtain ⟨t', h1, rfl, rfl⟩ := h
        exact lv_tableOut hx hb hd ho (mto_spec h1) k
      · next ho =>
        split at h
        · next off ho2 =>
          simp only [Option.map_eq_some_iff, Prod.mk.injEq] at h
          obtain ⟨t', h1, rfl, rfl⟩ := h
          exact lv_tableIn hx hb hd (fun q => ho (Or.inl q)) (fun q => ho (Or.inr q)) ho2 (mto_spec h1) k
        · cases h
    · cases h
  · cases h
end MS1
