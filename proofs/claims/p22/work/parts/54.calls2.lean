/-! ===== the whole run, by the steps left ===== -/
section MS9
variable {p : Program} {l : Launch} {e : Env} {R : Room} {s : State} {m : MethodId} {args : Array Value} {below : List Frame} {meth : Method} {c : Code} {H : Heap} {locs : List Loc} {cells slots : Nat} {Q : State → Prop}
variable {cc : ByteArray} {pc len : Nat} {lr : Array Slot} {S0 : Nat} {E : Nat → Option Nat} {D : va_G} {TA : Nat → ClassId} {X : List Int32} {i : Jvm.ClassFile.Instr} {st st' : List mV} {h h' : mH} {own idx : Nat}
theorem m_blindS {a : List mV} (hK : va_K D mcls (mtys TA) s) (hX : mEX S0 E X s) (hS : va_S (mAd S0) s.heap H locs) : PreS s H (mPc D TA S0 E X a H) (a.map (mmu S0 E)) :=
  ⟨mPc.blind, fun U hU hW => ⟨rfl, hU, va_K.moved hW.alike hK, hX.warm hW hU hS⟩⟩
theorem ms_Call {f fr lo kd y own' na mx rt : Nat} {kk : Int} {stt ini : Bool} {cd : List (Nat × Jvm.ClassFile.Instr × Nat)} {h1 : mH} {v : Option mV} (IH : mGoes X f)
    (hx : p.tables.exec = Jvm.exec) (hb : c.code = cc) (hml : c.maxLocals = lr.size) (hown : s.vm.findClass (mcn own) = some m.cls) (hts : ∀ w ∈ mWS, w.before args s = true) (hK : va_K D mcls (mtys TA) s) (hX : mEX S0 E X s) (hs : mSim D TA S0 E h H) (hS : va_S (mAd S0) s.heap H locs)
    (hd : decode cc pc = .ok (i, 3)) (hi : mInv i = some (idx, kd)) (hcp : mCP own idx = some (1, y, kk)) (hy : mME y = some (own', stt, na, mx, rt, ini, cd)) (hna : na ≤ st.length) (hfr : 1 ≤ fr) (hlo : mx + 19 ≤ lo) (hwd : ((st.drop na).map mcat).sum ≤ 8) (hrc : mRecv kd kk.toNat own' (st.take na).reverse h = true) (hent : (mEnt (st.take na).reverse).length ≤ mx)
    (hr : mrunG (mXA X) f (fr - 1) (lo - (mx + 19)) y 0 (mEntry (st.take na).reverse mx) [] h = some (h1, v)) (hfR : fr ≤ R.frames) (hlR : lo ≤ R.locals) (hc : cells + (h1.length - h.length) ≤ R.cells) (hsl : slots + (mhs h1 - mhs h) ≤ R.slots)
    (k : ∀ (H1 : Heap) (locs1 : List Loc), mSim D TA S0 E h1 H1 → va_S (mAd S0) s.heap H1 locs1 → W p l e R s m args below meth c H1 locs1 (cells + (h1.length - h.length)) (slots + (mhs h1 - mhs h)) Q (F0 m (pc + 3) lr ((v.toList ++ st.drop na).map (mmu S0 E)))) : W p l e R s m args below meth c H locs cells slots Q (F0 m pc lr (st.map (mmu S0 E))) := by
  obtain ⟨hlt, hcls, hplain, hmh, hpar, hnas, hini, hrt, hmw, hst, hin, hmx⟩ := m_meth hy
  obtain ⟨hk0, hlink, hnest, e0, e1, e2⟩ := m_ent1 hcp
  have hM := m_met IH l hr hy hent hs
  have ht : st = st.take na ++ st.drop na := (List.take_append_drop na st).symm
  generalize hA : (st.take na).reverse = a at hr hent hrc hM
  have hA2 : st.take na = a.reverse := by rw [← hA, List.reverse_reverse]
  have hal : a.length = na := by rw [← hA, List.length_reverse, List.length_take]; omega
  have hback : ∀ {q : Array Value}, va_Run p l e R s m args below meth c H locs cells slots (h1.length - h.length) (mhs h1 - mhs h) (F0 m pc lr (st.map (mmu S0 E))) ((st.drop na).map (mmu S0 E)) (mQc D TA S0 E h1 v q) (mAd S0) → W p l e R s m args below meth c H locs cells slots Q (F0 m pc lr (st.map (mmu S0 E))) := by
    intro q hrun
    refine m_back hrun hS fun H1 locs1 g1 g2 => ?_
    have := k H1 locs1 g1 g2
    cases v <;> exact this
  have hwd2 : 2 * (F0 m pc lr (st.map (mmu S0 E))).monitorRoom + (((st.drop na).map (mmu S0 E)).map fun v => v.category).sum ≤ 8 := by
    rw [m_words_cat]
    show 2 * 0 + _ ≤ 8
    omega
  have y1 : 1 ≤ (mMW.getD y []).length → 1 ≤ y := by
    intro q
    rcases Nat.eq_zero_or_pos y with rfl | q2
    · exact absurd q (by decide)
    · exact q2
  have hroom : fr - 1 + 1 ≤ R.frames ∧ 8 + (myX y + 11) + (lo - (mx + 19)) ≤ R.locals := ⟨by omega, by rw [hmx]; omega⟩
  have hii : (kd = 0 → i = .invokevirtual idx) ∧ (kd = 1 → i = .invokestatic idx) ∧ (kd = 2 → i = .invokespecial idx) := by
    unfold mInv at hi
    split at hi <;> simp at hi <;> obtain ⟨rfl, rfl⟩ := hi <;> exact ⟨fun q => (by first | rfl | (cases q)), fun q => (by first | rfl | (cases q)), fun q => (by first | rfl | (cases q))⟩
  have hstack : ∀ r : List Value, a.map (mmu S0 E) = r → st.map (mmu S0 E) = r.reverse ++ (st.drop na).map (mmu S0 E) := by
    intro r q
    rw [← q, ← List.map_reverse, ← hA2, ← List.map_append, ← ht]
  generalize hkN : kk.toNat = kn at hrc
  unfold mRecv at hrc
  split at hrc
  · -- static
    obtain ⟨hw2, hsta⟩ := e1 hkN
    have hy1 := y1 (by omega)
    rw [hst] at hsta
    subst hsta
    have hwl : mMws y = [.static (myN y), .initialized (myN y).cls] := by unfold mMws; rw [if_pos hst]
    rw [hwl] at hmw
    have w1 : Jvm.Cond.static (myN y) ∈ mWS := m_zip_mem (i := 0) hmw rfl (by omega)
    have w2 : Jvm.Cond.initialized (myN y).cls ∈ mWS := m_zip_mem (i := 1) hmw rfl (by omega)
    have hdd := hd
    rw [hii.2.1 rfl] at hdd
    exact hback (va_runS (As := a.map (mmu S0 E)) (rest := (st.drop na).map (mmu S0 E)) (n := na) ⟨hx, hb, hml, hown, hts⟩ hM ⟨callB_of na hts (m_good hy1 hlt) rfl rfl rfl (hts _ w2) (hts _ (hlink (by omega))) ⟨hmh.1, hmh.2, by simpa using hpar⟩ hroom, hts _ w1⟩ (m_blindS hK hX hS)
      rfl (by rw [List.length_map, hal]) rfl (hstack _ rfl) hwd2 hdd ⟨hc, hsl⟩)
  · -- virtual, of one of its own cells
    next b rr =>
    obtain ⟨hw2, hsta⟩ := e0 hkN
    have hy1 := y1 (by omega)
    rw [hst] at hsta
    subst hsta
    have hwl : mMws y = [.instanceMethod (myN y), .initialized (myN y).cls, .selects (myN y).cls (myN y) (myN y)] := by unfold mMws; rw [if_neg (by rw [hst]; decide)]
    rw [hwl] at hmw
    have w1 : Jvm.Cond.instanceMethod (myN y) ∈ mWS := m_zip_mem (i := 0) hmw rfl (by omega)
    have w2 : Jvm.Cond.initialized (myN y).cls ∈ mWS := m_zip_mem (i := 1) hmw rfl (by omega)
    have w3 : Jvm.Cond.selects (myN y).cls (myN y) (myN y) ∈ mWS := m_zip_mem (i := 2) hmw rfl (by omega)
    have hdd := hd
    rw [hii.1 rfl] at hdd
    split at hrc
    · next c0 fs hcell =>
      simp only [decide_eq_true_eq] at hrc
      subst hrc
      obtain ⟨g1, q, hq, -⟩ := hs.2 b _ hcell
      have hrecv := va_recv hK (va_P1 g1) (ci := c0) (q0 := 0) (mcls_at hq) rfl
      rw [← mcn_cls hq, ← hcls] at hrecv
      exact hback (va_runV (As := rr.map (mmu S0 E)) (b := S0 + b) (rest := (st.drop na).map (mmu S0 E)) (n := na - 1) ⟨hx, hb, hml, hown, hts⟩ hM ⟨callB_of (na - 1) hts (m_good hy1 hlt) rfl rfl rfl (hts _ w2) (hts _ (hlink (by omega))) ⟨hmh.1, hmh.2, by simpa using hpar⟩ hroom, hts _ w1, hts _ w3⟩ ⟨mPc.blind, hrecv, (m_blindS (a := .inr (.inr (.inl (some b))) :: rr) hK hX hS).2⟩
        rfl (by rw [List.length_map]; have := hal; simp only [List.length_cons] at this; omega) rfl (by rw [hstack _ rfl]; simp [mmu, va_rf]) hwd2 hdd ⟨hc, hsl⟩)
    · cases hrc
  · -- virtual, of a String
    next kS rr =>
    obtain ⟨hw2, hsta⟩ := e0 hkN
    have hy1 := y1 (by omega)
    rw [hst] at hsta
    subst hsta
    have hwl : mMws y = [.instanceMethod (myN y), .initialized (myN y).cls, .selects (myN y).cls (myN y) (myN y)] := by unfold mMws; rw [if_neg (by rw [hst]; decide)]
    rw [hwl] at hmw
    have w1 : Jvm.Cond.instanceMethod (myN y) ∈ mWS := m_zip_mem (i := 0) hmw rfl (by omega)
    have w2 : Jvm.Cond.initialized (myN y).cls ∈ mWS := m_zip_mem (i := 1) hmw rfl (by omega)
    have w3 : Jvm.Cond.selects (myN y).cls (myN y) (myN y) ∈ mWS := m_zip_mem (i := 2) hmw rfl (by omega)
    have hdd := hd
    rw [hii.1 rfl] at hdd
    simp only [Bool.and_eq_true, Bool.or_eq_true, decide_eq_true_eq] at hrc
    obtain ⟨ho16, hk13⟩ := hrc
    subst ho16
    obtain ⟨-, -, ⟨adK, adV, hE1, hE2, hE3, hE4, hV⟩, -⟩ := id hX
    have hrecv : ∃ bS : Nat, E kS = some bS ∧ ∃ cellB : Cell, H[bS]? = some cellB ∧ cellB.vm.isStatics = false ∧ s.vm.findClass (myN y).cls = some cellB.cls := by
      rw [hcls]
      rcases hk13 with rfl | rfl
      · exact ⟨_, hE1, vk_recv hV (by decide) hS⟩
      · exact ⟨_, hE3, vk_recv hV (by decide) hS⟩
    obtain ⟨bS, hbS, hrecv⟩ := hrecv
    have hP := (m_blindS (a := .inr (.inr (.inr kS)) :: rr) (X := X) (E := E) (S0 := S0) hK hX hS).2
    have hmm : mmu S0 E (.inr (.inr (.inr kS))) = .ref bS := by simp only [mmu, hbS, va_rf]
    rw [List.map_cons, hmm] at hP
    exact hback (va_runV (As := rr.map (mmu S0 E)) (b := bS) (rest := (st.drop na).map (mmu S0 E)) (n := na - 1) ⟨hx, hb, hml, hown, hts⟩ hM ⟨callB_of (na - 1) hts (m_good hy1 hlt) rfl rfl rfl (hts _ w2) (hts _ (hlink (by omega))) ⟨hmh.1, hmh.2, by simpa using hpar⟩ hroom, hts _ w1, hts _ w3⟩ ⟨mPc.blind, hrecv, hP⟩
      rfl (by rw [List.length_map]; have := hal; simp only [List.length_cons] at this; omega) rfl (by rw [hstack _ rfl, List.map_cons, hmm]; simp) hwd2 hdd ⟨hc, hsl⟩)
  · -- special
    next b rr =>
    obtain ⟨hw2, hsta, hin2⟩ := e2 (by omega)
    have hy1 := y1 (by omega)
    rw [hst] at hsta
    subst hsta
    rw [hin] at hin2
    obtain ⟨hnm, hret⟩ := hini hin2
    have hwl : mMws y = [.instanceMethod (myN y), .initialized (myN y).cls, .selects (myN y).cls (myN y) (myN y)] := by unfold mMws; rw [if_neg (by rw [hst]; decide)]
    rw [hwl] at hmw
    have w1 : Jvm.Cond.instanceMethod (myN y) ∈ mWS := m_zip_mem (i := 0) hmw rfl (by omega)
    have w2 : Jvm.Cond.initialized (myN y).cls ∈ mWS := m_zip_mem (i := 1) hmw rfl (by omega)
    have hdd := hd
    rw [hii.2.2 rfl] at hdd
    have hcw : mcw y = .code (myN y) (myB y) (myX y) none := by unfold mcw; rw [hret]
    exact hback (va_runI (As := rr.map (mmu S0 E)) (b := S0 + b) (rest := (st.drop na).map (mmu S0 E)) (n := na - 1) ⟨hx, hb, hml, hown, hts⟩ hM (cwI (na - 1) hts (m_good hy1 hlt) (by rw [hcw]) rfl rfl (hts _ w2) (hts _ (hlink (by omega))) (hts _ w1) hnm ⟨hmh.1, hmh.2, by simpa using hpar⟩ hroom) ⟨mPc.blind, (m_blindS (a := .inr (.inr (.inl (some b))) :: rr) hK hX hS).2⟩
      rfl (by rw [List.length_map]; have := hal; simp only [List.length_cons] at this; omega) rfl (by rw [hstack _ rfl]; simp [mmu, va_rf]) hwd2 hdd ⟨hc, hsl⟩)
  · -- special, of a nest mate
    next b rr =>
    obtain ⟨hw2, hsta, hin2⟩ := e2 (by omega)
    have hy1 := y1 (by omega)
    rw [hst] at hsta
    subst hsta
    rw [hin] at hin2
    obtain ⟨hnm, hret⟩ := hini hin2
    have hwl : mMws y = [.instanceMethod (myN y), .initialized (myN y).cls, .selects (myN y).cls (myN y) (myN y)] := by unfold mMws; rw [if_neg (by rw [hst]; decide)]
    rw [hwl] at hmw
    have w1 : Jvm.Cond.instanceMethod (myN y) ∈ mWS := m_zip_mem (i := 0) hmw rfl (by omega)
    have w2 : Jvm.Cond.initialized (myN y).cls ∈ mWS := m_zip_mem (i := 1) hmw rfl (by omega)
    have hdd := hd
    rw [hii.2.2 rfl] at hdd
    have hcw : mcw y = .code (myN y) (myB y) (myX y) none := by unfold mcw; rw [hret]
    obtain ⟨-, -, -, -, -, -, -, hN⟩ := id hX
    exact hback (va_runIN (As := rr.map (mmu S0 E)) (b := S0 + b) (rest := (st.drop na).map (mmu S0 E)) (n := na - 1) ⟨hx, hb, hml, hown, hts⟩ hM ⟨va_cnB (na - 1) hts (m_good hy1 hlt) (by rw [hcw]) rfl rfl (hN _ (hnest (by omega))) (hts _ w2) ⟨hmh.1, hmh.2, by simpa using hpar⟩ hroom, hnm, hts _ w1⟩ ⟨mPc.blind, (m_blindS (a := .inr (.inr (.inl (some b))) :: rr) hK hX hS).2⟩
      rfl (by rw [List.length_map]; have := hal; simp only [List.length_cons] at this; omega) rfl (by rw [hstack _ rfl]; simp [mmu, va_rf]) hwd2 hdd ⟨hc, hsl⟩)
  · cases hrc
end MS9
theorem m_dec {y pc len own na mx rt : Nat} {stt ini : Bool} {cd : List (Nat × Jvm.ClassFile.Instr × Nat)} {i : Jvm.ClassFile.Instr} (hy : mME y = some (own, stt, na, mx, rt, ini, cd)) (h : cd.lookup pc = some (i, len)) : decode (myB y) pc = .ok (i, len) := by
  have hd := mdec_ok hy
  have := List.all_eq_true.mp hd _ (m_lookup h)
  dsimp only at this
  split at this
  · next z hz =>
    rw [hz, mIeq_ok this]
  · cases this
/-- THE SMALL MACHINE'S RUNS ARE THE MACHINE'S -/
theorem m_goes (X : List Int32) : ∀ f, mGoes X f := by
  intro f
  induction f with
  | zero =>
    intro p l e R s m args below meth c H locs cells slots Q lr S0 E D TA fr lo mid pc ls st h hf v CE SE own na mx rt stt ini cd q
    simp [mrunG] at q
  | succ f IH =>
    intro p l e R s m args below meth c H locs cells slots Q lr S0 E D TA fr lo mid pc ls st h hf v CE SE own na mx rt stt ini cd q hme hx hb hml hown hts hK hX hini hl hs hS hfr hlo hce hse hCE hSE kret
    unfold mrunG at q
    rw [hme] at q
    dsimp only at q
    split at q
    · cases q
    · next i len hcd =>
      have hd : decode (myB mid) pc = .ok (i, len) := m_dec hme hcd
      split at q
      · next v' hm =>
        split at q
        · next h1 =>
          cases q
          subst h1
          have a1 : cells = CE := by omega
          have a2 : slots = SE := by omega
          subst a1
          subst a2
          exact kret i pc lr st H locs hd hm hs hS
        · cases q
      · split at q
        · next idx kd hi =>
          split at q
          · next qq w hcp =>
            split at q
            · next hc =>
              obtain ⟨rfl, hw, hc1, hc2, hc3⟩ := hc
              split at q
              · next st1 h1 hj =>
                have hh := mJdk_heap hj
                have hg := mrun_grow q
                have hkd : (qq = 1 → kd = 2) ∧ (qq ≠ 1 → kd = 1) := by
                  obtain ⟨-, ps, ho⟩ := m_words (mpool_ok own) hcp
                  simp only [mEntOK, Bool.and_eq_true, decide_eq_true_eq] at ho
                  have h3 := ho.2
                  refine ⟨fun z => ?_, fun z => ?_⟩
                  · rw [if_pos z] at h3; omega
                  · rw [if_neg z] at h3; omega
                refine ms_Jdk hx hb hml hown hts hK hs hS hi hcp hw hd hj (by omega) (by omega) hc3 (by omega) (by omega) hkd fun H1 locs1 g1 g2 => ?_
                exact IH p l e R s m args below meth c H1 locs1 cells slots Q lr S0 E D TA fr lo mid (pc + 3) ls st1 h1 hf v CE SE own na mx rt stt ini cd q hme hx hb hml hown hts hK hX hini hl g1 g2 hfr hlo (by omega) (by omega) hCE hSE kret
              · cases q
            · cases q
          · next y kk hcp =>
            split at q
            · next own' stt' na' mx' rt' ini' cd' hy =>
              split at q
              · next hc =>
                obtain ⟨rfl, hc1, hc2, hc3, hc4, hc5, hc6⟩ := hc
                split at q
                · next h1 v1 hcall =>
                  have hg1 := mrun_grow hcall
                  have hg2 := mrun_grow q
                  refine ms_Call IH hx hb hml hown hts hK hX hs hS hd hi hcp hy hc1 hc2 hc3 hc4 hc5 hc6 hcall hfr hlo (by omega) (by omega) fun H1 locs1 g1 g2 => ?_
                  exact IH p l e R s m args below meth c H1 locs1 _ _ Q lr S0 E D TA fr lo mid (pc + 3) ls _ h1 hf v CE SE own na mx rt stt ini cd q hme hx hb hml hown hts hK hX hini hl g1 g2 hfr hlo (by omega) (by omega) hCE hSE kret
                · cases q
              · cases q
            · cases q
          · cases q
        · split at q
          · next pc1 ls1 st1 h1 hst =>
            have hg1 := mStep_heap hst
            have hg2 := mrun_grow q
            refine ms_Step hx hb hown hts hK hX hini hl hs hS hd hst (by omega) (by omega) fun lr1 H1 locs1 e1 g0 g1 g2 => ?_
            exact IH p l e R s m args below meth c H1 locs1 _ _ Q lr1 S0 E D TA fr lo mid pc1 ls1 st1 h1 hf v CE SE own na mx rt stt ini cd q hme hx hb (by rw [hml, hl.1, g0.1, e1]) hown hts hK hX hini g0 g1 g2 hfr hlo (by omega) (by omega) hCE hSE kret
          · cases q
