/-! ===== calls ===== -/
theorem mEX.warm {S0 : Nat} {E : Nat → Option Nat} {X : List Int32} {u U : State} {H : Heap} {locs : List Loc} (h : mEX S0 E X u) (hW : u.WarmedH U.vm) (hU : U.heap = H) (hS : va_S (mAd S0) u.heap H locs) : mEX S0 E X U := by
  obtain ⟨h1, ⟨b, g1, g2, g3, g4⟩, ⟨adK, adV, e1, e2, e3, e4, hV⟩, hR, hZ1, hZ2, hA, hN⟩ := h
  have hq : ∀ a : Nat, a < u.heap.size → ¬ mAd S0 a → H[a]? = u.heap[a]? := hS.2.1
  subst hU
  refine ⟨Nat.le_trans h1 hS.1, ⟨b, g1, g2, Nat.lt_of_lt_of_le g3 hS.1, (g4.moved hW.alike).kept (hq b g3 (Nat.not_le.mpr g2))⟩, ⟨adK, adV, e1, e2, e3, e4, (hV.moved hW.alike).kept hq⟩, fun k z hz => ?_, (hZ1.moved hW.alike).kept hq, (hZ2.moved hW.alike).kept hq, hA.moved hW.alike, fun w hw => ?_⟩
  · obtain ⟨a, i1, i2⟩ := hR k z hz
    exact ⟨a, i1, i2.warm hW⟩
  · have hn := hN w hw
    simp only [mNST, List.mem_cons, List.not_mem_nil, or_false] at hw
    rcases hw with rfl | rfl | rfl | rfl | rfl <;> exact va_Nw.warmM hW hn
theorem mEX.call {S0 : Nat} {E : Nat → Option Nat} {X : List Int32} {U : State} {g : JFrame} {mk : MethodId} {a : Array Value} (h : mEX S0 E X U) : mEX S0 E X (U.calling g mk a) := by
  exact h.warm (u := U) (U := U.calling g mk a) (H := U.heap) (locs := []) (State.WarmedH.refl U) rfl va_S.rf
/-- what a call of the small machine promises of the machine's -/
def mPc (D : va_G) (TA : Nat → ClassId) (S0 : Nat) (E : Nat → Option Nat) (X : List Int32) (a : List mV) (H0 : Heap) : Array Value → State → Prop := va_Pc (a.map (mmu S0 E)) (fun U => U.heap = H0 ∧ va_K D mcls (mtys TA) U ∧ mEX S0 E X U)
def mQc (D : va_G) (TA : Nat → ClassId) (S0 : Nat) (E : Nat → Option Nat) (h' : mH) (v : Option mV) : Array Value → State → Outcome → State → Prop := fun _ st oc t => oc = .returned (v.map (mmu S0 E)) ∧ mSim D TA S0 E h' t.heap ∧ va_F (mAd S0) st t
theorem mPc.blind {D : va_G} {TA : Nat → ClassId} {S0 : Nat} {E : Nat → Option Nat} {X : List Int32} {a : List mV} {H0 : Heap} : FrameBlind (mPc D TA S0 E X a H0) := by
  intro av U g mk q
  obtain ⟨q0, q1, q2, q3⟩ := q
  exact ⟨q0, q1, va_K.moved (u := U) (U := U.calling g mk av) (Vm.Alike.refl U.vm) q2, q3.call⟩
theorem mEnt_args {S0 : Nat} {E : Nat → Option Nat} : ∀ (a : List mV) (o i : Nat) (v : mV), (mEnt a)[i]? = some (some v) → (o + i, mmu S0 E v) ∈ lv_args o (a.map (mmu S0 E))
  | [], _, _, _, h => by simp [mEnt] at h
  | .inr (.inl x) :: r, o, i, v, h => by
    have h2 : (some (mJ x) :: none :: mEnt r)[i]? = some (some v) := h
    have ec : (mmu S0 E (mJ x)).category = 2 := rfl
    show (o + i, mmu S0 E v) ∈ (o, mmu S0 E (mJ x)) :: lv_args (if (mmu S0 E (mJ x)).category = 2 then o + 2 else o + 1) (r.map (mmu S0 E))
    rw [if_pos ec]
    match i, h2 with
    | 0, h2 => simp at h2; subst h2; exact List.mem_cons_self
    | 1, h2 => simp at h2
    | j + 2, h2 =>
      have h3 : (mEnt r)[j]? = some (some v) := by simpa using h2
      have := mEnt_args (S0 := S0) (E := E) r (o + 2) j v h3
      rw [show o + (j + 2) = o + 2 + j by omega]
      exact List.mem_cons_of_mem _ this
  | .inl x :: r, o, i, v, h => by
    have h2 : (some (mI x) :: mEnt r)[i]? = some (some v) := h
    show (o + i, mmu S0 E v) ∈ (o, mmu S0 E (mI x)) :: lv_args (if (mmu S0 E (mI x)).category = 2 then o + 2 else o + 1) (r.map (mmu S0 E))
    rw [if_neg (by rw [mmu_cat]; show ¬ 1 = 2; decide)]
    match i, h2 with
    | 0, h2 => simp at h2; subst h2; exact List.mem_cons_self
    | j + 1, h2 =>
      have h3 : (mEnt r)[j]? = some (some v) := by simpa using h2
      have := mEnt_args (S0 := S0) (E := E) r (o + 1) j v h3
      rw [show o + (j + 1) = o + 1 + j by omega]
      exact List.mem_cons_of_mem _ this
  | .inr (.inr x) :: r, o, i, v, h => by
    have h2 : (some (.inr (.inr x)) :: mEnt r)[i]? = some (some v) := h
    show (o + i, mmu S0 E v) ∈ (o, mmu S0 E (.inr (.inr x))) :: lv_args (if (mmu S0 E (.inr (.inr x))).category = 2 then o + 2 else o + 1) (r.map (mmu S0 E))
    rw [if_neg (by rw [mmu_cat]; show ¬ 1 = 2; decide)]
    match i, h2 with
    | 0, h2 => simp at h2; subst h2; exact List.mem_cons_self
    | j + 1, h2 =>
      have h3 : (mEnt r)[j]? = some (some v) := by simpa using h2
      have := mEnt_args (S0 := S0) (E := E) r (o + 1) j v h3
      rw [show o + (j + 1) = o + 1 + j by omega]
      exact List.mem_cons_of_mem _ this
theorem mEnt_sl {S0 : Nat} {E : Nat → Option Nat} : ∀ (a : List mV), (lg_sl (a.map (mmu S0 E))).length = (mEnt a).length
  | [] => rfl
  | .inr (.inl x) :: r => by
    have := mEnt_sl (S0 := S0) (E := E) r
    simp only [lg_sl, List.map_cons, List.flatMap_cons, List.length_append] at this ⊢
    rw [this]
    simp [mEnt, mmu, Value.category]
    omega
  | .inl x :: r => by
    have := mEnt_sl (S0 := S0) (E := E) r
    simp only [lg_sl, List.map_cons, List.flatMap_cons, List.length_append] at this ⊢
    rw [this]
    simp [mEnt, mmu, Value.category]
    omega
  | .inr (.inr x) :: r => by
    have := mEnt_sl (S0 := S0) (E := E) r
    have hc : ¬ (mmu S0 E (.inr (.inr x))).category = 2 := by rw [mmu_cat]; show ¬ 1 = 2; decide
    simp only [lg_sl, List.map_cons, List.flatMap_cons, List.length_append] at this ⊢
    rw [this, if_neg hc]
    simp [mEnt]
    omega
theorem mlv_entry {S0 : Nat} {E : Nat → Option Nat} {a : List mV} {n : Nat} (h : (mEnt a).length ≤ n) : mlv S0 E (mEntry a n) ((lg_sl (a.map (mmu S0 E)) ++ List.replicate (n - (lg_sl (a.map (mmu S0 E))).length) Slot.unset).toArray) ∧ (mEntry a n).length = n := by
  have hl := lv_entry (a.map (mmu S0 E)) (n := n) (by rw [mEnt_sl]; exact h)
  have hlen : (mEntry a n).length = n := by
    unfold mEntry
    rw [List.length_append, List.length_replicate]
    omega
  refine ⟨⟨by rw [hl.1, hlen], hl.2.1, fun i v hv => ?_⟩, hlen⟩
  have h2 : (mEnt a)[i]? = some (some v) := by
    unfold mEntry at hv
    by_cases e : i < (mEnt a).length
    · rwa [List.getElem?_append_left e] at hv
    · rw [List.getElem?_append_right (by omega), List.getElem?_replicate] at hv
      split at hv
      · cases hv
      · cases hv
  have := hl.2.2 _ (mEnt_args (S0 := S0) (E := E) a 0 i v h2)
  rwa [Nat.zero_add] at this
section MS7
variable {p : Program} {l : Launch} {e : Env} {R : Room} {s : State} {m : MethodId} {args : Array Value} {below : List Frame} {meth : Method} {c : Code} {H : Heap} {locs : List Loc} {cells slots : Nat} {Q : State → Prop}
variable {cc : ByteArray} {pc len : Nat} {lr : Array Slot} {S0 : Nat} {E : Nat → Option Nat} {D : va_G} {TA : Nat → ClassId} {X : List Int32} {i : Jvm.ClassFile.Instr} {st st' : List mV} {h h' : mH} {own idx : Nat}
/-- behind a call -/
theorem m_back {v : Option mV} {a : Array Value} {mc ms : Nat} {st0 rest : List Value} (hr : va_Run p l e R s m args below meth c H locs cells slots mc ms (F0 m pc lr st0) rest (mQc D TA S0 E h' v a) (mAd S0)) (hS : va_S (mAd S0) s.heap H locs)
    (kk : ∀ (H1 : Heap) (locs1 : List Loc), mSim D TA S0 E h' H1 → va_S (mAd S0) s.heap H1 locs1 → W p l e R s m args below meth c H1 locs1 (cells + mc) (slots + ms) Q (F0 m (pc + 3) lr ((v.map (mmu S0 E)).toList ++ rest))) : W p l e R s m args below meth c H locs cells slots Q (F0 m pc lr st0) := by
  intro T hT X
  obtain ⟨v', st₀, t, T', L, h0, X', hL, e1, e2, ⟨hv, hsim, hz, hk⟩, st⟩ := hr T hT X
  cases hv
  rw [h0] at hz hk
  obtain ⟨t2, a1, b1⟩ := kk T'.heap (locs ++ L) (by rw [e1]; exact hsim) ⟨Nat.le_trans hS.1 (by rw [e1]; exact hz), fun q h1 h2 => by rw [e1, hk q (Nat.lt_of_lt_of_le h1 hS.1) h2]; exact hS.2.1 q h1 h2, fun q hq => by
      rcases List.mem_append.mp hq with g | g
      · exact hS.2.2 q g
      · exact hL q g⟩ T' rfl X'
  exact ⟨t2, st t2 a1, b1⟩
/-- a method's end -/
theorem m_ret {v : Option mV} {rt mid : Nat} (hx : p.tables.exec = Jvm.exec) (hb : c.code = cc) (hr : meth.sig.returnType = myR mid) (hlocks : meth.locks = false) (hrt : (match rt, myR mid with
      | 0, none => true
      | 1, some .int => true
      | 2, some .boolean => true
      | 3, some .long => true
      | 4, some (.object _) => true
      | 4, some (.array _) => true
      | 5, some .byte => true
      | 6, some .char => true
      | _, _ => false) = true) (hd : decode cc pc = .ok (i, 1)) (hm : mRet rt i st = some v) (hs : mSim D TA S0 E h' H) (hS : va_S (mAd S0) s.heap H locs) :
    W p l e R s m args below meth c H locs cells slots (MQ below (mQc D TA S0 E h' v) args s cells slots (mAd S0)) (F0 m pc lr (st.map (mmu S0 E))) := by
  have hq : ∀ t : State, t.heap = H → s.WarmedH t.vm → mQc D TA S0 E h' v args s (.returned (v.map (mmu S0 E))) t := fun t ht hW => ⟨rfl, by rw [ht]; exact hs, hS.F ht⟩
  unfold mRet at hm
  split at hm
  · cases hm
    have hr0 : meth.sig.returnType = none := by
      rw [hr]
      revert hrt
      cases myR mid <;> simp
    exact W.vret hx hb hr0 hq hS.2.2 hd
  · next x =>
    cases hm
    have hr0 : meth.sig.returnType = some .int := by
      rw [hr]
      revert hrt
      cases hm9 : myR mid with
      | none => simp
      | some ty => cases ty <;> simp
    exact W.iret hx hb hr0 hq hS.2.2 hd
  · next x =>
    split at hm
    · next h01 =>
      cases hm
      have hr0 : meth.sig.returnType = some .boolean := by
        rw [hr]
        revert hrt
        cases hm9 : myR mid with
        | none => simp
        | some ty => cases ty <;> simp
      exact W.zret hx hb hr0 (by rcases h01 with rfl | rfl <;> rfl) hq hS.2.2 hd
    · cases hm
  · next x =>
    split at hm
    · next h01 =>
      cases hm
      have hr0 : meth.sig.returnType = some .byte := by
        rw [hr]
        revert hrt
        cases hm9 : myR mid with
        | none => simp
        | some ty => cases ty <;> simp
      exact W.zret hx hb hr0 (by rw [← h01]; exact pk_nb x) hq hS.2.2 hd
    · cases hm
  · next x =>
    split at hm
    · next h01 =>
      cases hm
      have hr0 : meth.sig.returnType = some .char := by
        rw [hr]
        revert hrt
        cases hm9 : myR mid with
        | none => simp
        | some ty => cases ty <;> simp
      exact W.zret hx hb hr0 (by rw [← h01]; exact pk_nc x) hq hS.2.2 hd
    · cases hm
  · next x =>
    cases hm
    have hr0 : meth.sig.returnType = some .long := by
      rw [hr]
      revert hrt
      cases hm9 : myR mid with
      | none => simp
      | some ty => cases ty <;> simp
    exact W.lret hx hb hr0 hq hS.2.2 hd
  · next r =>
    cases hm
    have hr0 : ∃ rt', meth.sig.returnType = some rt' ∧ ((∃ n, rt' = .object n) ∨ ∃ t, rt' = .array t) := by
      rw [hr]
      revert hrt
      cases hm9 : myR mid with
      | none => simp
      | some ty => cases ty <;> simp
    obtain ⟨rt', hr1, hr2⟩ := hr0
    refine W.aret hx hb hr1 hr2 ?_ hq hS.2.2 hd
    cases r with
    | none => exact Or.inl rfl
    | some a => exact Or.inr ⟨_, rfl⟩
  · cases hm
end MS7
