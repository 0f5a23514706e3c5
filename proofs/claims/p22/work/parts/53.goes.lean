/-! ===== a whole run of the small machine is the machine's ===== -/
set_option maxRecDepth 100000 in
theorem m_ini_none : (List.range 312).all (fun y => !(mIni y) || (myR y).isNone) = true := by decide +kernel
theorem m_zip_mem {ws : List Jvm.Cond} {ps : List (Nat × Nat)} {i : Nat} {w : Jvm.Cond} (h : (ws.zip ps).all mwd = true) (hi : ws[i]? = some w) (hl : i < ps.length) : w ∈ mWS := by
  have hz : (ws.zip ps)[i]? = some (w, ps[i]) := by
    rw [List.getElem?_zip_eq_some]
    exact ⟨hi, List.getElem?_eq_getElem hl⟩
  exact mwd_mem (q := (w, ps[i])) (List.all_eq_true.mp h _ (List.mem_of_getElem? hz))
def mRtOK (rt : Nat) (o : Option FieldType) : Bool := match rt, o with
  | 0, none => true
  | 1, some .int => true
  | 2, some .boolean => true
  | 3, some .long => true
  | 4, some (.object _) => true
  | 4, some (.array _) => true
  | 5, some .byte => true
  | 6, some .char => true
  | _, _ => false
/-- what the tables say of a method -/
theorem m_meth {y : Nat} {own na mx rt : Nat} {stt ini : Bool} {cd : List (Nat × Jvm.ClassFile.Instr × Nat)} (h : mME y = some (own, stt, na, mx, rt, ini, cd)) :
    y < 312 ∧ (myN y).cls = mcn own ∧ plainName (myN y).cls = true ∧ ((myN y).cls ≠ "java/lang/invoke/MethodHandle" ∧ (myN y).cls ≠ "java/lang/invoke/VarHandle") ∧
    (parseMethodDescriptor (myN y).desc).map (fun d => d.parameters.length) = some (if stt = true then na else na - 1) ∧ (stt = true ∨ 1 ≤ na) ∧ (ini = true → (myN y).name = "<init>" ∧ myR y = none) ∧
    mRtOK rt (myR y) = true ∧ ((mMws y).zip (mMW.getD y [])).all mwd = true ∧ mStat y = stt ∧ mIni y = ini ∧ myX y = mx := by
  have hy : y < 312 := by rw [← mme_len]; exact (List.getElem?_eq_some_iff.mp h).1
  have ho := mmeth_ok h
  unfold mMethOK at ho
  rw [h] at ho
  dsimp only at ho
  simp only [Bool.and_eq_true, decide_eq_true_eq] at ho
  obtain ⟨⟨⟨⟨⟨⟨⟨⟨h1, h2⟩, h3⟩, h4⟩, h5⟩, h6⟩, h7⟩, h8⟩, h9⟩ := ho
  have hi : mIni y = ini := by unfold mIni; rw [h]
  refine ⟨hy, h1, h2, ⟨h3, h4⟩, h5, ?_, fun q => ⟨?_, ?_⟩, h8, h9, by unfold mStat; rw [h], hi, by unfold myX; rw [h]⟩
  · simpa using h6
  · rw [q] at h7
    simpa using h7
  · have := List.all_eq_true.mp m_ini_none y (List.mem_range.mpr hy)
    rw [hi, q] at this
    simpa using this
/-- what the tables say of an entry that is a method -/
theorem m_ent1 {own idx y : Nat} {kk : Int} (h : mCP own idx = some (1, y, kk)) :
    0 ≤ kk ∧ (kk.toNat ≤ 2 → Jvm.Cond.methodLink (mcn own) idx (myN y) ∈ mWS) ∧ (¬ kk.toNat ≤ 2 → Jvm.Cond.methodLinkNest (mcn own) idx (myN y) "HairRope" ∈ mNST) ∧
    (kk.toNat = 0 → 3 ≤ (mMW.getD y []).length ∧ mStat y = false) ∧ (kk.toNat = 1 → 2 ≤ (mMW.getD y []).length ∧ mStat y = true) ∧ (2 ≤ kk.toNat → 2 ≤ (mMW.getD y []).length ∧ mStat y = false ∧ mIni y = true) := by
  obtain ⟨hw, ps, ho⟩ := m_words (mpool_ok own) h
  simp only [mEntOK, Bool.and_eq_true, Bool.or_eq_true, decide_eq_true_eq] at ho
  obtain ⟨-, ⟨h1, h2⟩, h3⟩ := ho
  refine ⟨h2, fun q => hw _ (by simp [mWords, q]), fun q => h1.resolve_left q, fun q => ?_, fun q => ?_, fun q => ?_⟩
  · rw [q] at h3
    simpa using h3
  · rw [q] at h3
    simpa using h3
  · match hk : kk.toNat, q, h3 with
    | n + 2, _, h3 =>
      simp only [Bool.and_eq_true, decide_eq_true_eq, Bool.not_eq_true'] at h3
      exact ⟨h3.1.1, h3.1.2, h3.2⟩
theorem mrun_grow {XA : Nat → Option (Nat × List Int32)} : ∀ {f fr lo mid pc : Nat} {ls : mL} {st : List mV} {h hf : mH} {v : Option mV}, mrunG XA f fr lo mid pc ls st h = some (hf, v) → h.length ≤ hf.length ∧ mhs h ≤ mhs hf := by
  intro f
  induction f with
  | zero => intro fr lo mid pc ls st h hf v q; simp [mrunG] at q
  | succ f ih =>
    intro fr lo mid pc ls st h hf v q
    unfold mrunG at q
    split at q
    · cases q
    · split at q
      · cases q
      · split at q
        · split at q
          · cases q; exact ⟨Nat.le_refl _, Nat.le_refl _⟩
          · cases q
        · split at q
          · split at q
            · split at q
              · split at q
                · next hj =>
                  have h1 := mJdk_heap hj
                  have h2 := ih q
                  omega
                · cases q
              · cases q
            · split at q
              · split at q
                · split at q
                  · next hc =>
                    have h1 := ih hc
                    have h2 := ih q
                    omega
                  · cases q
                · cases q
              · cases q
            · cases q
          · split at q
            · next hst =>
              have h1 := mStep_heap hst
              have h2 := ih q
              omega
            · cases q
/-- the statement: a run of the small machine that ends is a walk of the machine -/
def mGoes (X : List Int32) (f : Nat) : Prop := ∀ (p : Program) (l : Launch) (e : Env) (R : Room) (s : State) (m : MethodId) (args : Array Value) (below : List Frame) (meth : Method) (c : Code) (H : Heap) (locs : List Loc) (cells slots : Nat) (Q : State → Prop) (lr : Array Slot) (S0 : Nat) (E : Nat → Option Nat) (D : va_G) (TA : Nat → ClassId) (fr lo mid pc : Nat) (ls : mL) (st : List mV) (h hf : mH) (v : Option mV) (CE SE own na mx rt : Nat) (stt ini : Bool) (cd : List (Nat × Jvm.ClassFile.Instr × Nat)),
  mrunG (mXA X) f fr lo mid pc ls st h = some (hf, v) → mME mid = some (own, stt, na, mx, rt, ini, cd) → p.tables.exec = Jvm.exec → c.code = myB mid → c.maxLocals = lr.size → s.vm.findClass (mcn own) = some m.cls → (∀ w ∈ mWS, w.before args s = true) → va_K D mcls (mtys TA) s → mEX S0 E X s → (ini = true → meth.name = "<init>") →
  mlv S0 E ls lr → mSim D TA S0 E h H → va_S (mAd S0) s.heap H locs → fr ≤ R.frames → lo ≤ R.locals → cells + hf.length = CE + h.length → slots + mhs hf = SE + mhs h → CE ≤ R.cells → SE ≤ R.slots →
  (∀ (i : Jvm.ClassFile.Instr) (pc1 : Nat) (lr1 : Array Slot) (st1 : List mV) (H1 : Heap) (locs1 : List Loc), decode (myB mid) pc1 = .ok (i, 1) → mRet rt i st1 = some v → mSim D TA S0 E hf H1 → va_S (mAd S0) s.heap H1 locs1 → W p l e R s m args below meth c H1 locs1 CE SE Q (F0 m pc1 lr1 (st1.map (mmu S0 E)))) →
  W p l e R s m args below meth c H locs cells slots Q (F0 m pc lr (st.map (mmu S0 E)))
theorem m_good {y : Nat} (h0 : 1 ≤ y) (hy : y < 312) : GoodIn mWS (mcw y :: mWS) := by
  intro w hw
  rcases List.mem_cons.mp hw with rfl | hw
  · exact mWS_good _ (mcode_in h0 hy)
  · exact mWS_good _ hw
/-- a method's contract out of its run -/
theorem m_met {X : List Int32} {f : Nat} (IH : mGoes X f) (l : Launch) {S0 : Nat} {E : Nat → Option Nat} {D : va_G} {TA : Nat → ClassId} {fr lo y own na mx rt : Nat} {stt ini : Bool} {cd : List (Nat × Jvm.ClassFile.Instr × Nat)} {a : List mV} {h hf : mH} {H0 : Heap} {v : Option mV}
    (hr : mrunG (mXA X) f fr lo y 0 (mEntry a mx) [] h = some (hf, v)) (hy : mME y = some (own, stt, na, mx, rt, ini, cd)) (hl : (mEnt a).length ≤ mx) (hs : mSim D TA S0 E h H0) :
    Met l (myN y) (mcw y :: mWS) { frames := fr, cells := hf.length - h.length, slots := mhs hf - mhs h, locals := lo } (mPc D TA S0 E X a H0) (mQc D TA S0 E hf v) (hf.length - h.length) (mhs hf - mhs h) (mAd S0) := by
  obtain ⟨hlt, hcls, hplain, hmh, hpar, hna, hini, hrt, hmw, hst, hin, hmx⟩ := m_meth hy
  refine Met.ofW (cc := myB y) (maxL := myX y) (ret := myR y) hplain rfl ?_
  intro p e s m args below meth c s₁ B hml hv
  obtain ⟨rfl, hH0, hK, hX⟩ := hv
  have hx := B.exec
  have hb := B.bytes
  have hrr := B.returns
  have hts0 := atoms_spec (ws := mcw y :: mWS) B.pre
  have hts : ∀ w ∈ mWS, w.before (a.map (mmu S0 E)).toArray s = true := fun w hw => hts0 w (List.mem_cons_of_mem _ hw)
  have hown : s.vm.findClass (mcn own) = some m.cls := by rw [← hcls]; exact findClass_of_methodNamed B.named
  have hlocks := B.notSynchronized
  obtain ⟨hlv, hlen⟩ := mlv_entry (S0 := S0) (E := E) (a := a) (n := mx) hl
  have hg := mrun_grow hr
  rw [lg_entry_eq, hmx]
  generalize hlr : (lg_sl (a.map (mmu S0 E)) ++ List.replicate (mx - (lg_sl (a.map (mmu S0 E))).length) Slot.unset).toArray = lr at hlv ⊢
  refine IH p l e _ s m _ below meth c s.heap [] 0 0 _ lr S0 E D TA fr lo y 0 (mEntry a mx) [] h hf v (hf.length - h.length) (mhs hf - mhs h) own na mx rt stt ini cd hr hy hx hb (by rw [hml, hmx, hlv.1, hlen]) hown hts hK hX (fun q => by rw [(name_of_methodNamed B.named B.method).1]; exact (hini q).1) hlv (by rw [hH0]; exact hs) va_S.rf (Nat.le_refl _) (Nat.le_refl _) (by omega) (by omega) (Nat.le_refl _) (Nat.le_refl _) ?_
  intro i pc1 lr1 st1 H1 locs1 hd hm hs1 hS1
  exact m_ret hx hb hrr hlocks hrt hd hm hs1 hS1
