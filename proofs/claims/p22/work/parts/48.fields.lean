/-! ===== fields, new cells, constants ===== -/
theorem mcn_cls {ci : Nat} {q : String × List (String × String × FieldType × Bool)} (h : mCL[ci]? = some q) : mcn ci = q.1 := by
  have hlt : ci < 13 := by rw [← mcl_len]; exact (List.getElem?_eq_some_iff.mp h).1
  match ci, hlt, h with
  | 0, _, h => cases h; rfl
  | 1, _, h => cases h; rfl
  | 2, _, h => cases h; rfl
  | 3, _, h => cases h; rfl
  | 4, _, h => cases h; rfl
  | 5, _, h => cases h; rfl
  | 6, _, h => cases h; rfl
  | 7, _, h => cases h; rfl
  | 8, _, h => cases h; rfl
  | 9, _, h => cases h; rfl
  | 10, _, h => cases h; rfl
  | 11, _, h => cases h; rfl
  | 12, _, h => cases h; rfl
theorem mcls_at {ci : Nat} {q : String × List (String × String × FieldType × Bool)} (h : mCL[ci]? = some q) : mcls[ci]? = some (q.1, mT q.1 q.2, q.2.length) := by
  unfold mcls
  rw [List.getElem?_map, h]
  rfl
theorem mcls_inv {ci : Nat} {r : vw_C} (h : mcls[ci]? = some r) : ∃ q, mCL[ci]? = some q ∧ r = (q.1, mT q.1 q.2, q.2.length) := by
  unfold mcls at h
  rw [List.getElem?_map] at h
  cases hq : mCL[ci]? with
  | none => rw [hq] at h; cases h
  | some q => rw [hq] at h; cases h; exact ⟨q, rfl, rfl⟩
theorem mT_at {C : String} {fs : List (String × String × FieldType × Bool)} {k : Nat} {f : String × String × FieldType × Bool} (h : fs[k]? = some f) : mT C fs k = (C, f.1, f.2.1, f.2.2.2) ∧ mty fs k = f.2.2.1 := by
  unfold mT mty
  rw [h]
  exact ⟨rfl, rfl⟩
theorem m_cls {ci : Nat} {q : String × List (String × String × FieldType × Bool)} (h : mCL[ci]? = some q) :
    (∀ w ∈ u_ws q.1 (mT q.1 q.2) q.2.length, w ∈ mWS) ∧ (∀ k, k < q.2.length → parseFieldDescriptor (mT q.1 q.2 k).2.2.1 = some (mty q.2 k)) ∧ (∀ a, a < q.2.length → ∀ b, b < q.2.length → a ≠ b → (mT q.1 q.2 a).2.1 ≠ (mT q.1 q.2 b).2.1) := by
  have ho := mcls_ok h
  simp only [mClsOK, Bool.and_eq_true, decide_eq_true_eq] at ho
  obtain ⟨⟨⟨h1, h2⟩, h3⟩, h4⟩ := ho
  refine ⟨mwd_all h1 h2, fun k hk => ?_, fun a ha b hb hne he => hne ?_⟩
  · have hf := List.getElem?_eq_getElem hk
    obtain ⟨e1, e2⟩ := mT_at (C := q.1) hf
    rw [e1, e2]
    have := List.all_eq_true.mp h3 _ (List.mem_of_getElem? hf)
    simpa using this
  · have ha' := List.getElem?_eq_getElem ha
    have hb' := List.getElem?_eq_getElem hb
    rw [(mT_at (C := q.1) ha').1, (mT_at (C := q.1) hb').1] at he
    have g1 : (q.2.map fun f => f.1)[a]? = some (q.2[a]).1 := by rw [List.getElem?_map, ha']; rfl
    have g2 : (q.2.map fun f => f.1)[b]? = some (q.2[b]).1 := by rw [List.getElem?_map, hb']; rfl
    have l1 : a < (q.2.map fun f => f.1).length := by rw [List.length_map]; exact ha
    have g3 : (q.2.map fun f => f.1)[a]? = (q.2.map fun f => f.1)[b]? := by rw [g1, g2]; exact congrArg some he
    exact (List.getElem?_inj l1 h4).mp g3
theorem mfd_at {ci k : Nat} {q : String × List (String × String × FieldType × Bool)} {f : String × String × FieldType × Bool} (h : mCL[ci]? = some q) (hf : q.2[k]? = some f) : mfd ci k = (f.1, f.2.1) := by
  unfold mfd
  rw [h]
  dsimp only
  rw [hf]
theorem mTF_inv {ci k : Nat} {ty : FieldType} {fin : Bool} (h : mTF ci k = some (ty, fin)) : ∃ q f, mCL[ci]? = some q ∧ q.2[k]? = some f ∧ f.2.2.1 = ty ∧ f.2.2.2 = fin := by
  unfold mTF at h
  cases hq : mCL[ci]? with
  | none => rw [hq] at h; cases h
  | some q =>
    rw [hq] at h
    simp only [Option.bind_some, Option.map_eq_some_iff, Prod.mk.injEq] at h
    obtain ⟨f, h1, h2, h3⟩ := h
    exact ⟨q, f, rfl, h1, h2, h3⟩
theorem mfit_ok {S0 : Nat} {E : Nat → Option Nat} {ty : FieldType} {v : mV} (h : mfit ty v = true) : narrow ty (mmu S0 E v) = mmu S0 E v ∧ fits ty (mmu S0 E v) = true := by
  unfold mfit at h
  split at h
  · exact ⟨rfl, rfl⟩
  · next x =>
    simp only [Bool.or_eq_true, decide_eq_true_eq] at h
    rcases h with rfl | rfl <;> exact ⟨rfl, rfl⟩
  · exact ⟨rfl, rfl⟩
  · next n r => cases r <;> exact ⟨rfl, rfl⟩
  · next n r => cases r <;> exact ⟨rfl, rfl⟩
  · cases h
section MS4
variable {p : Program} {l : Launch} {e : Env} {R : Room} {s : State} {m : MethodId} {args : Array Value} {below : List Frame} {meth : Method} {c : Code} {H : Heap} {locs : List Loc} {cells slots : Nat} {Q : State → Prop}
variable {cc : ByteArray} {pc len : Nat} {lr : Array Slot} {S0 : Nat} {E : Nat → Option Nat} {D : va_G} {TA : Nat → ClassId} {X : List Int32} {i : Jvm.ClassFile.Instr} {st st' : List mV} {h h' : mH} {own idx : Nat}
theorem m_link {ent : mP} (hts : ∀ w ∈ mWS, w.before args s = true) (hcp : mCP own idx = some ent) : ∀ w ∈ mWords own idx ent, w.before args s = true := fun w hw => hts w ((m_words (mpool_ok own) hcp).1 w hw)
theorem ms_GetF (hx : p.tables.exec = Jvm.exec) (hb : c.code = cc) (hown : s.vm.findClass (mcn own) = some m.cls) (hts : ∀ w ∈ mWS, w.before args s = true) (hK : va_K D mcls (mtys TA) s) (hX : mEX S0 E X s) (hs : mSim D TA S0 E h H) (hS : va_S (mAd S0) s.heap H locs) (hd : decode cc pc = .ok (.getfield idx, 3)) (hg : mGetF (mCP own idx) st h = some st')
    (k : W p l e R s m args below meth c H locs cells slots Q (F0 m (pc + 3) lr (st'.map (mmu S0 E)))) : W p l e R s m args below meth c H locs cells slots Q (F0 m pc lr (st.map (mmu S0 E))) := by
  obtain ⟨-, -, ⟨adK, adV, hE1, hE2, hE3, hE4, hV⟩, -⟩ := hX
  unfold mGetF at hg
  split at hg
  · next w r hcp =>
    cases hg
    have hl := m_link hts hcp (.fieldLink (mcn own) idx "java/lang/String" "value" "[B") (by simp [mWords])
    simp only [List.map_cons, mmu, hE1, hE2, va_rf] at k ⊢
    exact vk_getf hx hb (hV.1 0 (by decide)).2.2.1 hS hown hl (fun _ q => q) hd k
  · next w r hcp =>
    cases hg
    have hl := m_link hts hcp (.fieldLink (mcn own) idx "java/lang/String" "value" "[B") (by simp [mWords])
    simp only [List.map_cons, mmu, hE3, hE4, va_rf] at k ⊢
    exact vk_getf hx hb (hV.1 1 (by decide)).2.2.1 hS hown hl (fun _ q => q) hd k
  · next w r hcp =>
    cases hg
    have hl := m_link hts hcp (.fieldLink (mcn own) idx "java/lang/String" "coder" "B") (by simp [mWords])
    simp only [List.map_cons, mmu, hE1, va_rf] at k ⊢
    exact vk_getf hx hb (hV.1 0 (by decide)).2.1 hS hown hl (fun _ q => q) hd k
  · next w r hcp =>
    cases hg
    have hl := m_link hts hcp (.fieldLink (mcn own) idx "java/lang/String" "coder" "B") (by simp [mWords])
    simp only [List.map_cons, mmu, hE3, va_rf] at k ⊢
    exact vk_getf hx hb (hV.1 1 (by decide)).2.1 hS hown hl (fun _ q => q) hd k
  · next ci kk a r hcp =>
    split at hg
    · next c0 fs ha =>
      split at hg
      · next hci =>
        subst hci
        simp only [Option.map_eq_some_iff] at hg
        obtain ⟨v, hv, rfl⟩ := hg
        obtain ⟨h1, q, hq, hlen⟩ := hs.2 a _ ha
        have hkl : kk.toNat < q.2.length := by rw [← hlen]; exact (List.getElem?_eq_some_iff.mp hv).1
        have hf := List.getElem?_eq_getElem hkl
        have hl := m_link hts hcp (.fieldLink (mcn own) idx (mcn c0) (mfd c0 kk.toNat).1 (mfd c0 kk.toNat).2) (by simp [mWords])
        rw [mfd_at hq hf, mcn_cls hq] at hl
        obtain ⟨e1, e2⟩ := mT_at (C := q.1) hf
        exact va_get hx hb hts (m_cls hq).1 hown hK (va_P1 h1) 0 rfl (mcls_at hq) kk.toNat hkl (ref := q.1) (by rw [e1]; exact hl) (by rw [e1]; exact fun _ z => z) (by rw [List.getElem?_map, hv]; rfl) hd k
      · cases hg
    · cases hg
  · cases hg
theorem m_atset {a ci k : Nat} {fs : List mV} {v : mV} {q : String × List (String × String × FieldType × Bool)} {H1 : Heap} {cell : Cell} (hq : mCL[ci]? = some q) (q2 : cell.cls = D.1 ci) (q3 : cell.vm = .none) (q4 : ∀ j, j < q.2.length → cell.slots[D.2 ci j]? = some (vp_V (fs.map (mmu S0 E)) j)) (hap : ∀ x y, x < q.2.length → y < q.2.length → x ≠ y → D.2 ci x ≠ D.2 ci y) (hk : k < q.2.length) (hkl : k < fs.length) (e1 : H1[a]? = some (cell.setSlot (D.2 ci k) (mmu S0 E v))) : va_at D mcls (a, mce TA S0 E (.inl (ci, fs.set k v))) H1 := by
  refine ⟨_, mcls_at hq, t_OB.to (V := updV (vp_V (fs.map (mmu S0 E))) k (mmu S0 E v)) ⟨_, e1, q2, q3, t_set q4 hap hk _⟩ (fun j _ => ?_)⟩
  rw [List.map_set]
  exact vp_updV_set (by rw [List.length_map]; exact hkl) _ j
theorem ms_PutF (hx : p.tables.exec = Jvm.exec) (hb : c.code = cc) (hown : s.vm.findClass (mcn own) = some m.cls) (hts : ∀ w ∈ mWS, w.before args s = true) (hK : va_K D mcls (mtys TA) s) {ini : Bool} (hini : ini = true → meth.name = "<init>") (hs : mSim D TA S0 E h H) (hS : va_S (mAd S0) s.heap H locs) (hd : decode cc pc = .ok (.putfield idx, 3)) (hg : mPutF mTF own ini (mCP own idx) st h = some (st', h'))
    (k : ∀ (H1 : Heap) (locs1 : List Loc), mSim D TA S0 E h' H1 → va_S (mAd S0) s.heap H1 locs1 → W p l e R s m args below meth c H1 locs1 cells slots Q (F0 m (pc + 3) lr (st'.map (mmu S0 E)))) : W p l e R s m args below meth c H locs cells slots Q (F0 m pc lr (st.map (mmu S0 E))) := by
  unfold mPutF at hg
  split at hg
  · next ci kk v a r hcp =>
    split at hg
    · next c0 fs ty fin ha htf =>
      split at hg
      · next hcond =>
        obtain ⟨rfl, hfit, hkl, hfin⟩ := hcond
        cases hg
        obtain ⟨h1, q', hq', hlen⟩ := hs.2 a _ ha
        obtain ⟨q, f, hq, hf, hty, hfi⟩ := mTF_inv htf
        have eqq : q' = q := Option.some.inj (hq'.symm.trans hq)
        rw [eqq] at hlen
        have hkN : kk.toNat < q.2.length := (List.getElem?_eq_some_iff.mp hf).1
        have hl := m_link hts hcp (.fieldLink (mcn own) idx (mcn c0) (mfd c0 kk.toNat).1 (mfd c0 kk.toNat).2) (by simp [mWords])
        rw [mfd_at hq hf, mcn_cls hq] at hl
        obtain ⟨e1, e2⟩ := mT_at (C := q.1) hf
        obtain ⟨hin, hpd, hnm⟩ := m_cls hq
        have hc := mcls_at hq
        have hap := va_apart (own := "") hts hin (mty q.2) hpd hnm hK hc
        obtain ⟨r0, hr0, cell, q1, q2, q3, q4⟩ := h1
        cases hr0.symm.trans hc
        obtain ⟨hSl, hfc, kC, hkC, hkind⟩ := hK.1 c0 _ hc
        obtain ⟨cf, kf, fi, fd, hi, hsl⟩ := hSl kk.toNat hkN
        have hi2 : s.fieldFound? q.1 f.1 f.2.1 = some (cf, kf, fi, fd) := by
          have z := hi
          dsimp only at z
          rw [e1] at z
          exact z
        obtain ⟨n1, n2⟩ := mfit_ok (S0 := S0) (E := E) hfit
        have hpk := hpd _ hkN
        rw [e2, hty] at hpk
        have hst := (u_facts hfc hkC (u_lays hts hin hkN) hi).1
        have hslot : fd.slot < cell.slots.size := by rw [hsl]; exact k2_hasslot (q4 _ hkN)
        have hlay := hts _ (hin _ (u_in_lay hkN))
        unfold u_lay at hlay
        cases hb2 : f.2.2.2 with
        | false =>
          rw [if_neg (by rw [e1]; dsimp only; rw [hb2]; decide)] at hlay
          have h6 := u_store hfc hkC hkind hlay hi hpk n1 n2
          refine W.putK hx hb (f := fd) ⟨hown, hl, ⟨_, _, _, hi2⟩, hst⟩ (by rw [q2]; exact h6) q1 q3 hslot rfl rfl hd fun H' g1 g2 g3 => ?_
          rw [hsl] at g1
          exact k H' _ (hs.put ha (m_atset hq q2 q3 q4 hap hkN hkl g1) ⟨q, hq, by rw [List.length_set]; exact hlen⟩ g2 g3) (hS.put g2 g3 (Nat.le_add_right S0 a))
        | true =>
          have hfT : fin = true := by rw [← hfi]; exact hb2
          subst hfT
          rw [if_pos (by rw [e1]; exact hb2)] at hlay
          have hcf : m.cls = cf := by
            obtain ⟨_, _, c', _, _, _, -, -, hf', -, -, -, hown2, -⟩ := Cond.laysFinal_spec hlay
            have ee : c' = cf := by have := hi.symm.trans hf'; simp at this; exact this.1.symm
            have ho := (hfin rfl).2
            rw [e1] at hown2
            dsimp only at hown2
            rw [← mcn_cls hq, ho] at hown2
            rw [← ee]; exact Option.some.inj (hown.symm.trans hown2)
          have h6 := u_fits hfc hkC hkind (Or.inr hlay) hi hpk n1 n2
          refine W.putFinK hx hb hown hl hi2 hst hcf (hini (hfin rfl).1) (by rw [q2]; exact h6) q1 q3 hslot rfl rfl hd fun H' g1 g2 g3 => ?_
          rw [hsl] at g1
          exact k H' _ (hs.put ha (m_atset hq q2 q3 q4 hap hkN hkl g1) ⟨q, hq, by rw [List.length_set]; exact hlen⟩ g2 g3) (hS.put g2 g3 (Nat.le_add_right S0 a))
      · cases hg
    · cases hg
  · cases hg
end MS4
