/-! ===== the locals ===== -/
def mlv (S0 : Nat) (E : Nat → Option Nat) (ls : mL) (lr : Array Slot) : Prop := lr.size = ls.length ∧ lv_wf lr ∧ ∀ (i : Nat) (v : mV), ls[i]? = some (some v) → lr[i]? = some (.val (mmu S0 E v))
def mall (lr : Array Slot) : List (Nat × Value) := (List.range lr.size).filterMap fun (j : Nat) => match (lr[j]? : Option Slot) with
  | some (Slot.val w) => some (j, w)
  | _ => none
theorem mall_mem {lr : Array Slot} {j : Nat} {w : Value} : (j, w) ∈ mall lr ↔ lr[j]? = some (.val w) := by
  unfold mall
  rw [List.mem_filterMap]
  constructor
  · rintro ⟨a, -, h⟩
    split at h
    · next w' hw => cases h; exact hw
    · cases h
  · intro h
    refine ⟨j, List.mem_range.mpr (Array.getElem?_eq_some_iff.mp h).1, ?_⟩
    rw [h]
theorem mall_has {lr : Array Slot} (h : lv_wf lr) : lv_has lr lr.size (mall lr) := ⟨rfl, h, fun q hq => mall_mem.mp hq⟩
theorem mcl_get {ls : mL} {k i : Nat} {w : mV} (h : (mcl ls k)[i]? = some (some w)) : ls[i]? = some (some w) ∧ ¬ (i + 1 = k ∧ mcat w = 2) := by
  cases k with
  | zero => exact ⟨h, fun q => by omega⟩
  | succ k =>
    replace h : (match ls[k]? with
      | some (some (.inr (.inl _))) => ls.set k none
      | _ => ls)[i]? = some (some w) := h
    split at h
    · next x hx =>
      by_cases e : k = i
      · subst e
        have hlt : k < ls.length := (List.getElem?_eq_some_iff.mp hx).1
        rw [List.getElem?_set_self hlt] at h
        cases h
      · rw [List.getElem?_set_ne e] at h
        exact ⟨h, fun q => e (by omega)⟩
    · next hn =>
      refine ⟨h, fun q => ?_⟩
      obtain ⟨q1, q2⟩ := q
      have e : i = k := by omega
      subst e
      rcases w with x | x | x
      · simp [mcat] at q2
      · exact hn x h
      · simp [mcat] at q2
theorem mcll_len (ls : mL) (k : Nat) : (mcl ls k).length = ls.length := by
  cases k with
  | zero => rfl
  | succ k =>
    show (match ls[k]? with
      | some (some (.inr (.inl _))) => ls.set k none
      | _ => ls).length = ls.length
    split
    · exact List.length_set
    · rfl
theorem mput1_len (ls : mL) (k : Nat) (v : mV) : (mput1 ls k v).length = ls.length := by unfold mput1; rw [List.length_set, mcll_len]
theorem mput2_len (ls : mL) (k : Nat) (v : mV) : (mput2 ls k v).length = ls.length := by unfold mput2; rw [List.length_set, List.length_set, mcll_len]
theorem mlv_put1 {S0 : Nat} {E : Nat → Option Nat} {ls : mL} {lr lr' : Array Slot} {k : Nat} {v : mV} (hl : mlv S0 E ls lr) (h : lv_has lr' lr.size ((k, mmu S0 E v) :: (mall lr).filter (fun q => !(q.1 == k) && !(q.1 + 1 == k && q.2.category == 2)))) : mlv S0 E (mput1 ls k v) lr' := by
  obtain ⟨h1, h2, h3⟩ := h
  refine ⟨by rw [h1, hl.1, mput1_len], h2, fun i w hw => ?_⟩
  unfold mput1 at hw
  by_cases e : k = i
  · subst e
    have hlt : k < (mcl ls k).length := by
      have := (List.getElem?_eq_some_iff.mp hw).1
      rwa [List.length_set] at this
    rw [List.getElem?_set_self hlt] at hw
    cases hw
    exact h3 _ List.mem_cons_self
  · rw [List.getElem?_set_ne e] at hw
    obtain ⟨g1, g2⟩ := mcl_get hw
    refine h3 (i, mmu S0 E w) (List.mem_cons_of_mem _ (List.mem_filter.mpr ⟨mall_mem.mpr (hl.2.2 i w g1), ?_⟩))
    dsimp only
    rw [mmu_cat]
    have e1 : (i == k) = false := by simpa using fun q => e q.symm
    rw [e1]
    by_cases e2 : i + 1 = k
    · have e3 : ¬ mcat w = 2 := fun q => g2 ⟨e2, q⟩
      simp [e3]
    · simp [e2]
theorem mlv_put2 {S0 : Nat} {E : Nat → Option Nat} {ls : mL} {lr lr' : Array Slot} {k : Nat} {v : mV} (hl : mlv S0 E ls lr) (h : lv_has lr' lr.size ((k, mmu S0 E v) :: (mall lr).filter (fun q => !(q.1 == k) && (!(q.1 == k + 1) && !(q.1 + 1 == k && q.2.category == 2))))) : mlv S0 E (mput2 ls k v) lr' := by
  obtain ⟨h1, h2, h3⟩ := h
  refine ⟨by rw [h1, hl.1, mput2_len], h2, fun i w hw => ?_⟩
  unfold mput2 at hw
  by_cases e0 : k + 1 = i
  · subst e0
    have hlt := (List.getElem?_eq_some_iff.mp hw).1
    rw [List.length_set] at hlt
    rw [List.getElem?_set_self hlt] at hw
    cases hw
  rw [List.getElem?_set_ne e0] at hw
  by_cases e : k = i
  · subst e
    have hlt : k < (mcl ls k).length := by
      have := (List.getElem?_eq_some_iff.mp hw).1
      rwa [List.length_set] at this
    rw [List.getElem?_set_self hlt] at hw
    cases hw
    exact h3 _ List.mem_cons_self
  · rw [List.getElem?_set_ne e] at hw
    obtain ⟨g1, g2⟩ := mcl_get hw
    refine h3 (i, mmu S0 E w) (List.mem_cons_of_mem _ (List.mem_filter.mpr ⟨mall_mem.mpr (hl.2.2 i w g1), ?_⟩))
    dsimp only
    rw [mmu_cat]
    have e1 : (i == k) = false := by simpa using fun q => e q.symm
    have e4 : (i == k + 1) = false := by simpa using fun q => e0 q.symm
    rw [e1, e4]
    by_cases e2 : i + 1 = k
    · have e3 : ¬ mcat w = 2 := fun q => g2 ⟨e2, q⟩
      simp [e3]
    · simp [e2]
section MS2
variable {p : Program} {l : Launch} {e : Env} {R : Room} {s : State} {m : MethodId} {args : Array Value} {below : List Frame} {meth : Method} {c : Code} {H : Heap} {locs : List Loc} {cells slots : Nat} {Q : State → Prop}
variable {cc : ByteArray} {pc len : Nat} {lr : Array Slot} {ls : mL} {S0 : Nat} {E : Nat → Option Nat} {i : Jvm.ClassFile.Instr} {st : List mV}
theorem ms_Ld (hx : p.tables.exec = Jvm.exec) (hb : c.code = cc) {k kd : Nat} {v : mV} (hd : decode cc pc = .ok (i, len)) (h : mLd i = some (k, kd, len)) (hl : mlv S0 E ls lr) (hk : ls[k]? = some (some v)) (hv : mkind v = kd)
    (kk : W p l e R s m args below meth c H locs cells slots Q (F0 m (pc + len) lr ((v :: st).map (mmu S0 E)))) : W p l e R s m args below meth c H locs cells slots Q (F0 m pc lr (st.map (mmu S0 E))) := by
  have hg := hl.2.2 k v hk
  unfold mLd at h
  split at h
  · cases h
    rcases v with x | x | x
    · exact lv_iload_n hx hb hd rfl hg kk
    · cases hv
    · cases hv
  · cases h
    rcases v with x | x | x
    · exact lv_iload hx hb hd hg kk
    · cases hv
    · cases hv
  · cases h
    rcases v with x | x | x
    · cases hv
    · exact lv_lload_n hx hb hd rfl hg kk
    · cases hv
  · cases h
    rcases v with x | x | x
    · cases hv
    · exact lv_lload hx hb hd hg kk
    · cases hv
  · cases h
    rcases v with x | x | (_ | a) | k'
    · cases hv
    · cases hv
    · exact lv_aload_nN hx hb hd rfl hg kk
    · exact lv_aload_n hx hb hd rfl hg kk
    · simp only [mmu, List.map_cons] at hg kk
      cases hE : E k' with
      | none => rw [hE] at hg kk; exact lv_aload_nN hx hb hd rfl hg kk
      | some a => rw [hE] at hg kk; exact lv_aload_n hx hb hd rfl hg kk
  · cases h
    rcases v with x | x | (_ | a) | k'
    · cases hv
    · cases hv
    · exact lv_aloadN hx hb hd hg kk
    · exact lv_aload hx hb hd hg kk
    · simp only [mmu, List.map_cons] at hg kk
      cases hE : E k' with
      | none => rw [hE] at hg kk; exact lv_aloadN hx hb hd hg kk
      | some a => rw [hE] at hg kk; exact lv_aload hx hb hd hg kk
  · cases h
theorem ms_St1 (hx : p.tables.exec = Jvm.exec) (hb : c.code = cc) {k kd : Nat} {v : mV} (hd : decode cc pc = .ok (i, len)) (h : mSt i = some (k, kd, len)) (hl : mlv S0 E ls lr) (hv : mkind v = kd) (hk1 : ¬ kd = 1) (hlt : k < ls.length)
    (kk : ∀ lr' : Array Slot, mlv S0 E (mput1 ls k v) lr' → W p l e R s m args below meth c H locs cells slots Q (F0 m (pc + len) lr' (st.map (mmu S0 E)))) : W p l e R s m args below meth c H locs cells slots Q (F0 m pc lr ((v :: st).map (mmu S0 E))) := by
  have hm := mall_has hl.2.1
  have hlt' : k < lr.size := by rw [hl.1]; exact hlt
  unfold mSt at h
  split at h
  · cases h
    rcases v with x | x | x
    · exact lv_istore_n hx hb hd rfl hm hlt' rfl (fun lr' q => kk lr' (mlv_put1 hl q))
    · cases hv
    · cases hv
  · cases h
    rcases v with x | x | x
    · exact lv_istore hx hb hd hm hlt' rfl (fun lr' q => kk lr' (mlv_put1 hl q))
    · cases hv
    · cases hv
  · cases h; exact absurd rfl hk1
  · cases h; exact absurd rfl hk1
  · cases h
    rcases v with x | x | (_ | a) | k'
    · cases hv
    · cases hv
    · exact lv_astore_nN hx hb hd rfl hm hlt' rfl (fun lr' q => kk lr' (mlv_put1 hl q))
    · exact lv_astore_n hx hb hd rfl hm hlt' rfl (fun lr' q => kk lr' (mlv_put1 hl q))
    · have kk' := fun lr' (q : lv_has lr' lr.size _) => kk lr' (mlv_put1 hl q)
      simp only [mmu, List.map_cons] at kk' ⊢
      cases hE : E k' with
      | none => rw [hE] at kk'; exact lv_astore_nN hx hb hd rfl hm hlt' rfl kk'
      | some a => rw [hE] at kk'; exact lv_astore_n hx hb hd rfl hm hlt' rfl kk'
  · cases h
    rcases v with x | x | (_ | a) | k'
    · cases hv
    · cases hv
    · exact lv_astoreN hx hb hd hm hlt' rfl (fun lr' q => kk lr' (mlv_put1 hl q))
    · exact lv_astore hx hb hd hm hlt' rfl (fun lr' q => kk lr' (mlv_put1 hl q))
    · have kk' := fun lr' (q : lv_has lr' lr.size _) => kk lr' (mlv_put1 hl q)
      simp only [mmu, List.map_cons] at kk' ⊢
      cases hE : E k' with
      | none => rw [hE] at kk'; exact lv_astoreN hx hb hd hm hlt' rfl kk'
      | some a => rw [hE] at kk'; exact lv_astore hx hb hd hm hlt' rfl kk'
  · cases h
theorem ms_St2 (hx : p.tables.exec = Jvm.exec) (hb : c.code = cc) {k : Nat} {v : mV} (hd : decode cc pc = .ok (i, len)) (h : mSt i = some (k, 1, len)) (hl : mlv S0 E ls lr) (hv : mkind v = 1) (hlt : k + 1 < ls.length)
    (kk : ∀ lr' : Array Slot, mlv S0 E (mput2 ls k v) lr' → W p l e R s m args below meth c H locs cells slots Q (F0 m (pc + len) lr' (st.map (mmu S0 E)))) : W p l e R s m args below meth c H locs cells slots Q (F0 m pc lr ((v :: st).map (mmu S0 E))) := by
  have hm := mall_has hl.2.1
  have hlt' : k + 1 < lr.size := by rw [hl.1]; exact hlt
  unfold mSt at h
  split at h
  · cases h
  · cases h
  · cases h
    rcases v with x | x | x
    · cases hv
    · exact lv_lstore_n hx hb hd rfl hm hlt' rfl (fun lr' q => kk lr' (mlv_put2 hl q))
    · cases hv
  · cases h
    rcases v with x | x | x
    · cases hv
    · exact lv_lstore hx hb hd hm hlt' rfl (fun lr' q => kk lr' (mlv_put2 hl q))
    · cases hv
  · cases h
  · cases h
  · cases h
theorem ms_iinc (hx : p.tables.exec = Jvm.exec) (hb : c.code = cc) {k : Nat} {n : Int} {x : Int32} (hd : decode cc pc = .ok (.iinc k n, 3)) (hl : mlv S0 E ls lr) (hk : ls[k]? = some (some (mI x)))
    (kk : ∀ lr' : Array Slot, mlv S0 E (mput1 ls k (mI (x + Int32.ofInt n))) lr' → W p l e R s m args below meth c H locs cells slots Q (F0 m (pc + 3) lr' (st.map (mmu S0 E)))) : W p l e R s m args below meth c H locs cells slots Q (F0 m pc lr (st.map (mmu S0 E))) := by
  have hm := mall_has hl.2.1
  have hlt' : k < lr.size := by rw [hl.1]; exact (List.getElem?_eq_some_iff.mp hk).1
  obtain ⟨j, hj⟩ := List.getElem?_of_mem (mall_mem.mpr (hl.2.2 k _ hk))
  exact lv_iinc hx hb hd hm hj rfl hlt' rfl (fun lr' q => kk lr' (mlv_put1 hl q))
end MS2
