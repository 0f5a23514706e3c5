section MS6
variable {p : Program} {l : Launch} {e : Env} {R : Room} {s : State} {m : MethodId} {args : Array Value} {below : List Frame} {meth : Method} {c : Code} {H : Heap} {locs : List Loc} {cells slots : Nat} {Q : State → Prop}
variable {cc : ByteArray} {pc len : Nat} {lr : Array Slot} {S0 : Nat} {E : Nat → Option Nat} {D : va_G} {TA : Nat → ClassId} {X : List Int32} {i : Jvm.ClassFile.Instr} {st st' : List mV} {h h' : mH} {own idx : Nat}
theorem m_words_cat (r : List mV) : ((r.map (mmu S0 E)).map fun v => v.category).sum = (r.map mcat).sum := by
  rw [List.map_map]
  congr 1
  exact List.map_congr_left fun v _ => mmu_cat S0 E v
theorem m_cpy {xs ys : List Int32} {sp dp n : Nat} (h1 : sp + n ≤ xs.length) (h2 : dp + n ≤ ys.length) (j : Nat) :
    (ys.take dp ++ (xs.drop sp).take n ++ ys.drop (dp + n)).getD j 0 = va_cpy (fun j => xs.getD j 0) (fun j => ys.getD j 0) sp dp n j := by
  have l1 : (ys.take dp).length = dp := by rw [List.length_take]; omega
  have l2 : ((xs.drop sp).take n).length = n := by rw [List.length_take, List.length_drop]; omega
  unfold va_cpy
  rw [List.getD_eq_getElem?_getD]
  by_cases a : j < dp
  · rw [if_neg (by omega), List.append_assoc, List.getElem?_append_left (by omega), List.getElem?_take_of_lt a]
    exact (List.getD_eq_getElem?_getD ..).symm
  · by_cases b : j < dp + n
    · rw [if_pos (by omega), List.append_assoc, List.getElem?_append_right (by omega), List.getElem?_append_left (by omega), l1, List.getElem?_take_of_lt (by omega), List.getElem?_drop]
      exact (List.getD_eq_getElem?_getD ..).symm
    · rw [if_neg (by omega), List.getElem?_append_right (by rw [List.length_append]; omega), List.length_append, l1, l2, List.getElem?_drop]
      rw [show dp + n + (j - (dp + n)) = j by omega]
      exact (List.getD_eq_getElem?_getD ..).symm
theorem ms_Jdk (hx : p.tables.exec = Jvm.exec) (hb : c.code = cc) (hml : c.maxLocals = lr.size) (hown : s.vm.findClass (mcn own) = some m.cls) (hts : ∀ w ∈ mWS, w.before args s = true) (hK : va_K D mcls (mtys TA) s) (hs : mSim D TA S0 E h H) (hS : va_S (mAd S0) s.heap H locs) {q kd : Nat} {w : Int} (hi : mInv i = some (idx, kd)) (hcp : mCP own idx = some (7, q, w)) (hw : w = (kd : Int)) (hd : decode cc pc = .ok (i, 3)) (hg : mJdk q st h = some (st', h')) (hfr : 1 ≤ R.frames) (hlo : 64 ≤ R.locals) (hwd : (st.map mcat).sum ≤ 16) (hce : cells ≤ R.cells) (hsl : slots ≤ R.slots) (hkd : (q = 1 → kd = 2) ∧ (q ≠ 1 → kd = 1))
    (k : ∀ (H1 : Heap) (locs1 : List Loc), mSim D TA S0 E h' H1 → va_S (mAd S0) s.heap H1 locs1 → W p l e R s m args below meth c H1 locs1 cells slots Q (F0 m (pc + 3) lr (st'.map (mmu S0 E)))) : W p l e R s m args below meth c H locs cells slots Q (F0 m pc lr (st.map (mmu S0 E))) := by
  have hl := m_link hts hcp
  unfold mJdk at hg
  split at hg
  · next n dp b sp a r =>
    split at hg
    · next xs ys ha hb' =>
      split at hg
      · next hcnd =>
        obtain ⟨c1, c2, c3, c4, c5⟩ := hcnd
        cases hg
        have hk1 : kd = 1 := hkd.2 (by decide)
        subst hk1
        have hii : i = .invokestatic idx := by
          unfold mInv at hi
          split at hi <;> simp at hi
          next j => rw [hi]
        subst hii
        have hlink := hl (.methodLink (mcn own) idx arraycopyName) (by simp [mWords])
        have hneg : ∀ z : Int32, 0 ≤ z.toInt → ¬ z < 0 := fun z hz => by rw [Int32.lt_iff_toInt_lt]; show ¬ z.toInt < 0; omega
        obtain ⟨ga, wa, wa2⟩ := hs.2 a _ ha
        obtain ⟨gb, wb, wb2⟩ := hs.2 b _ hb'
        simp only [List.map_cons, List.sum_cons] at hwd
        have hcat : 2 * 0 + ((st'.map (mmu S0 E)).map fun v => v.category).sum + (nativeFrameWords "java/lang/System" "arraycopy" 5 + 11) ≤ R.locals := by
          rw [m_words_cat]
          have : nativeFrameWords "java/lang/System" "arraycopy" 5 = 7 := by decide +kernel
          omega
        have nn : ∀ z : Int32, 0 ≤ z.toInt → z.toInt = (z.toNatClampNeg : Int) := fun z hz => by
          show z.toInt = ((z.toInt.toNat : Nat) : Int)
          omega
        have ga' : H[S0 + a]? = some (vp_cell (TA 0) (xs.length, .inl (fun j => xs.getD j 0))) := ga
        have gb' : H[S0 + b]? = some (vp_cell (TA 0) (ys.length, .inl (fun j => ys.getD j 0))) := gb
        have hlen : (ys.take dp.toNatClampNeg ++ (xs.drop sp.toNatClampNeg).take n.toNatClampNeg ++ ys.drop (dp.toNatClampNeg + n.toNatClampNeg)).length = ys.length := by
          rw [List.length_append, List.length_append, List.length_take, List.length_take, List.length_drop, List.length_drop]
          omega
        obtain ⟨-, k0, hk0, cm0, hkk0⟩ := (hK.2 0 _ rfl).1 xs.length (fun j => .int (xs.getD j 0))
        have hsb : (arrV (TA 0) ys.length (fun j => Value.int (ys.getD j 0))).slots.size = ys.length := arrV_size _ _ _
        have hsa : (arrV (TA 0) xs.length (fun j => Value.int (xs.getD j 0))).slots.size = xs.length := arrV_size _ _ _
        intro T hT X
        obtain ⟨vm', X', step⟩ := X.arraycopy hx hown hlink (hts _ mwx_acn) (hts _ mwx_acs) (hts _ mwx_aci) (src := S0 + a) (dst := S0 + b) (cs := vp_cell (TA 0) (xs.length, .inl (fun j => xs.getD j 0))) (cd := vp_cell (TA 0) (ys.length, .inl (fun j => ys.getD j 0))) (srcPos := sp) (destPos := dp) (n := n) (by rw [hT]; exact ga') (by rw [hT]; exact gb')
          (fun _ q => by cases q) (fun _ q => by cases q) (fun q => by cases q) (fun q => by cases q) hk0 hk0 hkk0 hkk0 rfl (hneg _ c1) (hneg _ c2) (hneg _ c3)
          (by rw [nn sp c1, nn n c3]; show ¬ _ > ((arrV (TA 0) xs.length (fun j => Value.int (xs.getD j 0))).slots.size : Int); rw [hsa]; omega)
          (by rw [nn dp c2, nn n c3]; show ¬ _ > ((arrV (TA 0) ys.length (fun j => Value.int (ys.getD j 0))).slots.size : Int); rw [hsb]; omega)
          (fun vm₁ _ i hi => by
            have e0 : (vp_cell (TA 0) (xs.length, .inl (fun j => xs.getD j 0))).slots.getD (sp.toNatClampNeg + i) .null = .int (xs.getD (sp.toNatClampNeg + i) 0) := by
              show (arrV (TA 0) xs.length (fun j => .int (xs.getD j 0))).slots.getD _ _ = _
              rw [Array.getD_eq_getD_getElem?, arrV_read _ _ (by omega)]
              rfl
            rw [e0]
            exact ⟨rfl, trivial⟩)
          (g := F0 m pc lr (.int n :: .int dp :: .ref (S0 + b) :: .int sp :: .ref (S0 + a) :: st'.map (mmu S0 E))) rfl hml.symm (rest := st'.map (mmu S0 E)) rfl (by rw [hb]; exact hd) hfr hcat
        have e1 : copied (vp_cell (TA 0) (xs.length, .inl (fun j => xs.getD j 0))) (vp_cell (TA 0) (ys.length, .inl (fun j => ys.getD j 0))) sp dp n = vp_cell (TA 0) (ys.length, .inl (va_cpy (fun j => xs.getD j 0) (fun j => ys.getD j 0) sp.toNatClampNeg dp.toNatClampNeg n.toNatClampNeg)) := va_copied (fun z => .int z) (TA 0) (TA 0) (fun j => xs.getD j 0) (fun j => ys.getD j 0) c4
        rw [e1] at X' step
        generalize hcell : vp_cell (TA 0) (ys.length, .inl (va_cpy (fun j => xs.getD j 0) (fun j => ys.getD j 0) sp.toNatClampNeg dp.toNatClampNeg n.toNatClampNeg)) = cellN at X' step
        have hl2 : S0 + b < H.size := (Array.getElem?_eq_some_iff.mp gb').1
        have hheap : ((T.setVm vm').setCell (S0 + b) cellN).heap = H.setIfInBounds (S0 + b) cellN := by rw [← hT]; rfl
        have oq : ∀ q : Nat, q ≠ S0 + b → (H.setIfInBounds (S0 + b) cellN)[q]? = H[q]? := fun q hq => by simp [Array.getElem?_setIfInBounds, Ne.symm hq]
        have hat : va_at D mcls (S0 + b, mce TA S0 E (.inr (0, .inl (ys.take dp.toNatClampNeg ++ (xs.drop sp.toNatClampNeg).take n.toNatClampNeg ++ ys.drop (dp.toNatClampNeg + n.toNatClampNeg))))) (H.setIfInBounds (S0 + b) cellN) := by
          show (H.setIfInBounds (S0 + b) cellN)[S0 + b]? = some (vp_cell _ _)
          rw [Array.getElem?_setIfInBounds, if_pos rfl, if_pos hl2, ← hcell, hlen]
          exact congrArg some (congrArg (vp_cell (TA 0)) (congrArg (fun z => (ys.length, Sum.inl z)) (funext fun j => (m_cpy c4 c5 j).symm)))
        obtain ⟨t, a1, b1⟩ := k _ _ (hs.put hb' hat ⟨Or.inl rfl, by rw [hlen]; exact wb2⟩ (by simp) oq) ⟨by simp; exact hS.1, fun q g1 g2 => by
            rw [oq q (fun e9 => g2 (by rw [e9]; exact Nat.le_add_right S0 b))]
            exact hS.2.1 q g1 g2, fun q hq => by
            rcases List.mem_append.mp hq with hh | hh
            · exact hS.2.2 q hh
            · obtain ⟨z, -, hz⟩ := List.mem_map.mp hh
              rw [← hz]
              exact Nat.le_add_right S0 b⟩ _ hheap X'
        exact ⟨t, step t a1, b1⟩
      · cases hg
    · cases hg
  · next a r =>
    cases hg
    have hk1 : kd = 2 := hkd.1 rfl
    subst hk1
    have hii : i = .invokespecial idx := by
      unfold mInv at hi
      split at hi <;> simp at hi
      next j => rw [hi]
    subst hii
    have hlink := hl (.methodLink (mcn own) idx Jvm.Lib.objectInit) (by simp [mWords])
    simp only [List.map_cons, List.sum_cons] at hwd
    refine W.objInit hx hb hown hlink (hts _ mwx_obi) (hts _ mwx_obc) (g := F0 m pc lr _) rfl hml.symm rfl hd hfr ?_ ?_
    · show 2 * 0 + ((st'.map (mmu S0 E)).map fun v => v.category).sum + 12 ≤ R.locals
      rw [m_words_cat]
      omega
    · exact k H locs hs hS
  · next y x r =>
    cases hg
    have hk1 : kd = 1 := hkd.2 (by decide)
    subst hk1
    have hii : i = .invokestatic idx := by
      unfold mInv at hi
      split at hi <;> simp at hi
      next j => rw [hi]
    subst hii
    have hlink := hl (.methodLink (mcn own) idx Jvm.Lib.Math.max.name) (by simp [mWords])
    simp only [List.map_cons, List.sum_cons] at hwd
    exact va_mmax hx hb hml hown hlink (hts _ mwx_mxs) (hts _ mwx_mai) (hts _ mwx_mxc) hfr (by rw [m_words_cat]; omega) hce hsl hd (k H locs hs hS)
  · next y x r =>
    cases hg
    have hk1 : kd = 1 := hkd.2 (by decide)
    subst hk1
    have hii : i = .invokestatic idx := by
      unfold mInv at hi
      split at hi <;> simp at hi
      next j => rw [hi]
    subst hii
    have hlink := hl (.methodLink (mcn own) idx Jvm.Lib.Math.min.name) (by simp [mWords])
    simp only [List.map_cons, List.sum_cons] at hwd
    exact va_mmin hx hb hml hown hlink (hts _ mwx_mns) (hts _ mwx_mai) (hts _ mwx_mnc) hfr (by rw [m_words_cat]; omega) hce hsl hd (k H locs hs hS)
  · cases hg
end MS6
