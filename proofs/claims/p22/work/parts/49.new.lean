section MS5
variable {p : Program} {l : Launch} {e : Env} {R : Room} {s : State} {m : MethodId} {args : Array Value} {below : List Frame} {meth : Method} {c : Code} {H : Heap} {locs : List Loc} {cells slots : Nat} {Q : State → Prop}
variable {cc : ByteArray} {pc len : Nat} {lr : Array Slot} {S0 : Nat} {E : Nat → Option Nat} {D : va_G} {TA : Nat → ClassId} {X : List Int32} {i : Jvm.ClassFile.Instr} {st st' : List mV} {h h' : mH} {own idx : Nat}
/-- how many slots a cell takes, a heap takes -/
def mcs : mC → Nat
  | .inl (_, fs) => fs.length
  | .inr (_, .inl xs) => xs.length
  | .inr (_, .inr (.inl xs)) => xs.length
  | .inr (_, .inr (.inr xs)) => xs.length
def mhs (h : mH) : Nat := (h.map mcs).sum
theorem mhs_app (h : mH) (d : mC) : mhs (h ++ [d]) = mhs h + mcs d := by simp [mhs]
theorem m_rep {α : Type} (n : Nat) (d : α) (j : Nat) : (List.replicate n d).getD j d = d := by
  rw [List.getD_eq_getElem?_getD, List.getElem?_replicate]
  split <;> rfl
set_option maxRecDepth 100000 in
theorem mfl_ok : mCL.all (fun q => q.2.all fun f => match f.2.2.1 with
  | .float => false
  | .double => false
  | _ => true) = true := by decide +kernel
theorem va_Sn {A : Nat → Prop} {H0 H1 : Heap} (hS : va_S A H0 H locs) (z : H1.size = H.size + 1) (oq : ∀ q : Nat, q < H.size → H1[q]? = H[q]?) : va_S A H0 H1 locs :=
  ⟨Nat.le_trans hS.1 (by omega), fun q h1 h2 => (oq q (Nat.lt_of_lt_of_le h1 hS.1)).trans (hS.2.1 q h1 h2), hS.2.2⟩
theorem ms_New (hx : p.tables.exec = Jvm.exec) (hb : c.code = cc) (hown : s.vm.findClass (mcn own) = some m.cls) (hts : ∀ w ∈ mWS, w.before args s = true) (hK : va_K D mcls (mtys TA) s) (hX : mEX S0 E X s) (hs : mSim D TA S0 E h H) (hS : va_S (mAd S0) s.heap H locs) (hd : decode cc pc = .ok (i, len)) (hg : mNew 8 mNF (mCP own) i st h = some (len, st', h')) (hc1 : cells + (h'.length - h.length) ≤ R.cells) (hc2 : slots + (mhs h' - mhs h) ≤ R.slots)
    (k : ∀ H1 : Heap, mSim D TA S0 E h' H1 → va_S (mAd S0) s.heap H1 locs → W p l e R s m args below meth c H1 locs (cells + (h'.length - h.length)) (slots + (mhs h' - mhs h)) Q (F0 m (pc + len) lr (st'.map (mmu S0 E)))) : W p l e R s m args below meth c H locs cells slots Q (F0 m pc lr (st.map (mmu S0 E))) := by
  have key : ∀ d : mC, h' = h ++ [d] → h'.length - h.length = 1 ∧ mhs h' - mhs h = mcs d := by
    intro d hd'
    rw [hd', mhs_app, List.length_append]
    exact ⟨by show h.length + 1 - h.length = 1; omega, by omega⟩
  have hsz : (.ref H.size : Value) = mmu S0 E (mR (some h.length)) := by rw [hs.1]; rfl
  have prim : ∀ (at' : ArrayType) (t : Nat) (ty : FieldType) (d : mC) (n : Int32) (r : List mV), newarray.typeOf at' = ty → (mtys TA)[t]? = some (TA t, ty) → (Cond.arrayClass ty : Jvm.Cond) ∈ mWS → (∀ z, s.vm.findClass ("[" ++ ty.toString) = some z → z = TA t) →
      componentBytes ty ≤ 8 → decode cc pc = .ok (.newarray at', 2) → 0 ≤ n.toInt ∧ n.toInt ≤ 65536 → h' = h ++ [d] → mcs d = n.toNatClampNeg → mwf d → mce TA S0 E d = .inl (TA t, (n.toNatClampNeg, match at' with | .long => .inr (.inl (fun _ => 0)) | _ => .inl (fun _ => 0))) → (match at' with | .long => defaultValue ty = .long 0 | _ => defaultValue ty = .int 0) → st = mI n :: r → st' = mR (some h.length) :: r → len = 2 →
      W p l e R s m args below meth c H locs cells slots Q (F0 m pc lr (st.map (mmu S0 E))) := by
    intro at' t ty d n r ety htys hw hcls hcb hdg hn hh' hms hwf hmce hdef hst hst' hlen
    subst ety
    obtain ⟨k1, k2⟩ := key d hh'
    rw [k1, k2, hms] at k
    rw [k1] at hc1
    rw [k2, hms] at hc2
    subst hst
    have h0 : ¬ n < 0 := by rw [Int32.lt_iff_toInt_lt]; show ¬ n.toInt < 0; omega
    have hN : n.toNatClampNeg ≤ 65536 := by show n.toInt.toNat ≤ 65536; omega
    refine va_newaK hx hb (hts _ hw) (g := F0 m pc lr _) rfl hdg rfl h0 rfl (Nat.le_trans (Nat.mul_le_mul hN hcb) (by decide)) hc1 hc2 rfl fun H' cA e1 z o1 hAr hNm => ?_
    have hcA : cA = TA t := hcls _ (by cases at' <;> exact hNm)
    subst hcA
    have hat : va_at D mcls (H.size, mce TA S0 E d) H' := by
      rw [hmce]
      show H'[H.size]? = some (vp_cell _ _)
      rw [e1]
      cases at' <;> (dsimp only at hdef ⊢; rw [hdef]; rfl)
    have hk := k H' (by rw [hh']; exact hs.push hat hwf z o1) (va_Sn hS z o1)
    rw [hst', hlen] at hk
    rw [hsz]
    exact hk
  have hRA := fun t (ty : FieldType) (hq : (mtys TA)[t]? = some (TA t, ty)) => (hK.2 t _ hq).2
  unfold mNew at hg
  split at hg
  · next ix =>
    split at hg
    · next ci w hcp =>
      split at hg
      · next fts hnf =>
        cases hg
        unfold mNF at hnf
        cases hq : mCL[ci]? with
        | none => rw [hq] at hnf; cases hnf
        | some q =>
          rw [hq] at hnf
          simp only [Option.map_some, Option.some.injEq] at hnf
          subst hnf
          obtain ⟨k1, k2⟩ := key _ rfl
          have hms : mcs (.inl (ci, (q.2.map fun f => f.2.2.1).map mdef) : mC) = q.2.length := by simp [mcs]
          rw [k1, k2, hms] at k
          rw [k1] at hc1
          rw [k2, hms] at hc2
          have hl := m_link hts hcp (.classLink (mcn own) ix (mcn ci)) (by simp [mWords])
          rw [mcn_cls hq] at hl
          obtain ⟨hin, hpd, hnm⟩ := m_cls hq
          have hc := mcls_at hq
          have hKn := hK.1 ci _ hc
          refine W.newcK hx hb hown hl (hts _ (mins_at hq _ List.mem_cons_self)) (hts _ (mins_at hq _ (List.mem_cons_of_mem _ List.mem_cons_self))) (g := F0 m pc lr _) rfl hd hc1 hc2 hKn.2.1 rfl fun H1 kC hkC e1 z1 o1 => ?_
          have hat : va_at D mcls (H.size, mce TA S0 E (.inl (ci, (q.2.map fun f => f.2.2.1).map mdef))) H1 := by
            refine ⟨_, hc, (u_born (mty q.2) hts hin hKn hkC e1 hpd).to fun j hj => ?_⟩
            have hf := List.getElem?_eq_getElem hj
            have g : (((q.2.map fun f => f.2.2.1).map mdef).map (mmu S0 E))[j]? = some (mmu S0 E (mdef (q.2[j]).2.2.1)) := by
              rw [List.getElem?_map, List.getElem?_map, List.getElem?_map, hf]
              rfl
            rw [(mT_at (C := q.1) hf).2]
            show _ = vp_V _ j
            unfold vp_V
            rw [List.getD_eq_getElem?_getD, g]
            have hfl := List.all_eq_true.mp (List.all_eq_true.mp mfl_ok q (List.mem_of_getElem? hq)) _ (List.mem_of_getElem? hf)
            revert hfl
            cases (q.2[j]).2.2.1 <;> intro hfl <;> first | rfl | cases hfl
          have hk := k H1 (hs.push hat ⟨q, hq, by simp⟩ z1 o1) (va_Sn hS z1 o1)
          show W p l e R s m args below meth c H1 locs (cells + 1) (slots + q.2.length) Q (F0 m (pc + 3) lr (.ref H.size :: st.map (mmu S0 E)))
          rw [hsz]
          exact hk
      · cases hg
    · cases hg
  · split at hg
    · next n r =>
      split at hg
      · next hn =>
        have hlt : n.toNatClampNeg < 65537 := by show n.toInt.toNat < 65537; omega
        split at hg
        · cases hg
          exact prim .int 0 .int _ n r rfl rfl mwx_aI (fun z hz => Option.some.inj (hz.symm.trans (hRA 0 .int rfl))) (by decide) hd hn rfl (by simp [mcs]) ⟨Or.inl rfl, by rw [List.length_replicate]; exact hlt⟩ (by simp only [mce, List.length_replicate, m_rep]) rfl rfl rfl rfl
        · cases hg
          exact prim .long 1 .long _ n r rfl rfl mwx_aJ (fun z hz => Option.some.inj (hz.symm.trans (hRA 1 .long rfl))) (by decide) hd hn rfl (by simp [mcs]) ⟨rfl, by rw [List.length_replicate]; exact hlt⟩ (by simp only [mce, List.length_replicate, m_rep]) rfl rfl rfl rfl
        · cases hg
          exact prim .byte 2 .byte _ n r rfl rfl mwx_aB (fun z hz => Option.some.inj (hz.symm.trans (hRA 2 .byte rfl))) (by decide) hd hn rfl (by simp [mcs]) ⟨Or.inr (Or.inl rfl), by rw [List.length_replicate]; exact hlt⟩ (by simp only [mce, List.length_replicate, m_rep]) rfl rfl rfl rfl
        · cases hg
          exact prim .boolean 3 .boolean _ n r rfl rfl mwx_aZ (fun z hz => Option.some.inj (hz.symm.trans (hRA 3 .boolean rfl))) (by decide) hd hn rfl (by simp [mcs]) ⟨Or.inr (Or.inr rfl), by rw [List.length_replicate]; exact hlt⟩ (by simp only [mce, List.length_replicate, m_rep]) rfl rfl rfl rfl
        · cases hg
      · cases hg
    · cases hg
  · next ix =>
    split at hg
    · next ci w n r hcp =>
      split at hg
      · next hn =>
        obtain ⟨rfl, hn⟩ := hn
        cases hg
        obtain ⟨k1, k2⟩ := key _ rfl
        have hms : mcs (.inr (4, .inr (.inr (List.replicate n.toNatClampNeg none))) : mC) = n.toNatClampNeg := by simp [mcs]
        rw [k1, k2, hms] at k
        rw [k1] at hc1
        rw [k2, hms] at hc2
        have h0 : ¬ n < 0 := by rw [Int32.lt_iff_toInt_lt]; show ¬ n.toInt < 0; omega
        have hN : n.toNatClampNeg ≤ 65536 := by show n.toInt.toNat ≤ 65536; omega
        have hl := m_link hts hcp (.classLink (mcn own) ix "HairRope$State") (by simp [mWords, mcn, mOW])
        obtain ⟨-, -, -, -, -, -, hAO, -⟩ := hX
        refine W.anew hx hb hown hl (va_AO.use hAO) (g := F0 m pc lr _) rfl hd rfl h0 (Nat.le_trans (Nat.mul_le_mul hN (Nat.le_refl 4)) (by decide)) hc1 hc2 fun cA kA comp f1 f2 f3 f4 => ?_
        generalize hH1 : H.push ({ cls := cA, slots := Array.replicate n.toNatClampNeg .null, vm := .none } : Cell) = H1
        have z1 : H1.size = H.size + 1 := by rw [← hH1, Array.size_push]
        have e1 : H1[H.size]? = some (arrV cA n.toNatClampNeg (fun _ => .null)) := by rw [← hH1, Array.getElem?_push_size, ← arrV_new]
        have o1 : ∀ q : Nat, q < H.size → H1[q]? = H[q]? := fun q hq => by rw [← hH1, Array.getElem?_push, if_neg (Nat.ne_of_lt hq)]
        have hcA : cA = TA 4 := by
          obtain ⟨_, _, _, _, _, g4⟩ := hRA 4 (.object "HairRope$State") rfl
          exact Option.some.inj (f1.symm.trans g4)
        subst hcA
        have hat : va_at D mcls (H.size, mce TA S0 E (.inr (4, .inr (.inr (List.replicate n.toNatClampNeg none))))) H1 := by
          show H1[H.size]? = some (vp_cell _ _)
          rw [e1, vp_cell_q, List.length_replicate]
          congr 2
          funext j
          rw [m_rep]
          rfl
        have hk := k H1 (hs.push hat ⟨rfl, by rw [List.length_replicate]; omega⟩ z1 o1) (va_Sn hS z1 o1)
        show W p l e R s m args below meth c H1 locs (cells + 1) (slots + n.toNatClampNeg) Q (F0 m (pc + 3) lr (.ref H.size :: r.map (mmu S0 E)))
        rw [hsz]
        exact hk
      · cases hg
    · cases hg
  · cases hg
theorem ms_Ldc (hx : p.tables.exec = Jvm.exec) (hb : c.code = cc) (hown : s.vm.findClass (mcn own) = some m.cls) (hts : ∀ w ∈ mWS, w.before args s = true) (hX : mEX S0 E X s) (hS : va_S (mAd S0) s.heap H locs) {v : mV} (hd : decode cc pc = .ok (i, len)) (hg : mLdc (mCP own) i = some (len, v))
    (k : W p l e R s m args below meth c H locs cells slots Q (F0 m (pc + len) lr ((v :: st).map (mmu S0 E)))) : W p l e R s m args below meth c H locs cells slots Q (F0 m pc lr (st.map (mmu S0 E))) := by
  obtain ⟨-, -, -, hSt, hZ1, hZ2, -, -⟩ := hX
  unfold mLdc at hg
  split at hg
  · next ix =>
    split at hg
    · next w v0 hcp =>
      cases hg
      exact lv_ldc hx hb hown (m_link hts hcp (.constant (mcn own) ix (Int32.ofInt v0)) (by simp [mWords])) hd k
    · next kk w hcp =>
      cases hg
      obtain ⟨-, ps, ho⟩ := m_words (mpool_ok own) hcp
      simp only [mEntOK, Bool.and_eq_true] at ho
      have ho2 := ho.2
      split at ho2
      · next z hz =>
        simp only [Bool.and_eq_true, decide_eq_true_eq] at ho2
        obtain ⟨a, ha, hR⟩ := hSt kk z hz
        rw [ho2.1, ho2.2] at hR
        simp only [List.map_cons, mmu, ha, va_rf] at k ⊢
        exact va_ldcS hx hb hown hR hd k
      · cases ho2
    · cases hg
  · next ix =>
    split at hg
    · next w v0 hcp =>
      cases hg
      exact lv_ldcw hx hb hown (m_link hts hcp (.constant (mcn own) ix (Int32.ofInt v0)) (by simp [mWords])) hd k
    · cases hg
  · next ix =>
    split at hg
    · next w v0 hcp =>
      cases hg
      exact lv_ldc2 hx hb hown (m_link hts hcp (.constantLong (mcn own) ix (Int64.ofInt v0)) (by simp [mWords])) hd k
    · cases hg
  · next ix =>
    split at hg
    · next w hcp =>
      cases hg
      exact va_gets hx hb hZ1 hS hown (m_link hts hcp (.fieldLink (mcn own) ix "java/lang/String" "COMPACT_STRINGS" "Z") (by simp [mWords])) (fun _ z => z) hd k
    · next w hcp =>
      cases hg
      exact va_gets hx hb hZ2 hS hown (m_link hts hcp (.fieldLink (mcn own) ix "jdk/internal/util/Preconditions" "SIOOBE_FORMATTER" "Ljava/util/function/BiFunction;") (by simp [mWords])) (fun _ z => z) hd k
    · cases hg
  · cases hg
end MS5
