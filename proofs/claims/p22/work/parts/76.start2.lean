/-! ===== the start: what lies outside; the whole run ===== -/
theorem m_isRef {v : Value} (h : v.isRef = true) : ∃ o : Option Nat, v = va_rf o := by
  cases v <;> first | (cases h; done) | exact ⟨none, rfl⟩ | exact ⟨some _, rfl⟩
theorem m_EX0 {args : Array Value} {s : State} {b : Nat} {X : List Int32} (hts : ∀ w ∈ lw_tbl, w.before args s = true) (hX : va_X b X.length (fun j => X.getD j 0) s s.heap) (hbl : b < s.heap.size) (hgv : (Jvm.Cond.and given_1 narrow_1).before args s = true) :
    ∃ E : Nat → Option Nat, E 0 = some b ∧ mEX s.heap.size E X s := by
  have hA : ∀ a : Nat, a < s.heap.size → ¬ mAd s.heap.size a := fun a h h' => Nat.not_le.mpr h h'
  obtain ⟨adK, adV, hV, hK⟩ := vk_Sof (args := args) (s := s) (N := 2) (tm := fun i => match i with | 0 => .string "HairRope$Tape" 77 | _ => .string "HairRope$Tape" 91) (len := [mST0.length, mST1.length]) (byt := [mST0, mST1]) (A := mAd s.heap.size)
    (fun i hi => by
      rcases (show i = 0 ∨ i = 1 by omega) with rfl | rfl
      · exact (by decide : 9 < 2 ^ 31)
      · exact (by decide : 176 < 2 ^ 31))
    (fun i hi => by
      rcases (show i = 0 ∨ i = 1 by omega) with rfl | rfl
      · exact mgv_1 hgv (n := 1007) (List.mem_of_getElem? (i := 2) rfl)
      · exact mgv_1 hgv (n := 778) (List.mem_of_getElem? (i := 3) rfl))
    (fun i hi => by
      rcases (show i = 0 ∨ i = 1 by omega) with rfl | rfl
      · exact mgv_1 hgv (n := 504) (List.mem_of_getElem? (i := 4) rfl)
      · exact mgv_1 hgv (n := 779) (List.mem_of_getElem? (i := 5) rfl))
    (fun i hi => by
      rcases (show i = 0 ∨ i = 1 by omega) with rfl | rfl
      · exact mgv_1 hgv (n := 1010) (List.mem_of_getElem? (i := 6) rfl)
      · exact mgv_1 hgv (n := 390) (List.mem_of_getElem? (i := 7) rfl))
    (fun i hi => by
      rcases (show i = 0 ∨ i = 1 by omega) with rfl | rfl
      · exact mgv_1 hgv (n := 1011) (w := .eq (.length (.field (.string "HairRope$Tape" 77) "java/lang/String" "value" "[B")) (.int 9)) (List.mem_of_getElem? (i := 8) rfl)
      · exact mgv_1 hgv (n := 782) (w := .eq (.length (.field (.string "HairRope$Tape" 91) "java/lang/String" "value" "[B")) (.int 176)) (List.mem_of_getElem? (i := 9) rfl))
    (fun i hi j hj => by
      rcases (show i = 0 ∨ i = 1 by omega) with rfl | rfl
      · exact mgv_2 hgv hj
      · exact mgv_3 hgv hj)
    (fun i j hi hj hne => by
      rcases (show i = 0 ∨ i = 1 by omega) with rfl | rfl
      · rcases (show j = 0 ∨ j = 1 by omega) with rfl | rfl
        · exact absurd rfl hne
        · exact Or.inr (mgv_1 hgv (n := 1023) (List.mem_of_getElem? (i := 10) rfl))
      · rcases (show j = 0 ∨ j = 1 by omega) with rfl | rfl
        · exact Or.inl (mgv_1 hgv (n := 1023) (List.mem_of_getElem? (i := 10) rfl))
        · exact absurd rfl hne)
    hA
  obtain ⟨v, hv, hvr⟩ := Cond.isRef_spec (mgv_1 hgv (n := 386) (w := .isRef (.static "jdk/internal/util/Preconditions" "SIOOBE_FORMATTER" "Ljava/util/function/BiFunction;")) (List.mem_of_getElem? (i := 1) rfl))
  obtain ⟨o, rfl⟩ := m_isRef hvr
  refine ⟨fun k => match k with | 0 => some b | 1 => some (adK 0) | 2 => some (adV 0) | 3 => some (adK 1) | 4 => some (adV 1) | 5 => o | _ => none, rfl, Nat.le_refl _, ⟨b, rfl, hbl, hbl, hX⟩, ⟨adK, adV, rfl, rfl, rfl, rfl, hV⟩, ?_, ?_, ?_, ?_, ?_⟩
  · intro k z hz
    match k, hz with
    | 0, hz => cases hz; exact ⟨adK 0, rfl, vk_R.of (hts _ mst_0) (hK 0 (Nat.le_of_ble_eq_true rfl))⟩
    | 1, hz => cases hz; exact ⟨adK 1, rfl, vk_R.of (hts _ mst_1) (hK 1 (Nat.le_of_ble_eq_true rfl))⟩
    | k + 2, hz => simp [mSTR] at hz
  · exact va_Zof (hts _ mgw_0) (hts _ mgw_1) (va_eqi (mgv_1 hgv (n := 771) (List.mem_of_getElem? (i := 0) rfl))) hA
  · exact va_Zof (hts _ mgw_2) (hts _ mgw_3) hv hA
  · exact va_AO.of (hts _ mao_in)
  · exact fun w hw => va_Nw.of (by
      simp only [mNST, List.mem_cons, List.not_mem_nil, or_false] at hw
      rcases hw with rfl | rfl | rfl | rfl | rfl <;> rfl) (hts w (mnx_all w hw))
/-- the script as a list -/
theorem m_script {b L : Nat} {xs : Nat → Int32} {U : State} {H : Heap} (h : va_X b L xs U H) : va_X b ((List.range L).map xs).length (fun j => ((List.range L).map xs).getD j 0) U H := by
  obtain ⟨scr, h1, h2, h3, h4, h5⟩ := h
  refine ⟨scr, h1, h2, h3, by simpa using h4, fun j hj => ?_⟩
  have hj' : j < L := by simpa using hj
  rw [h5 j hj']
  dsimp only
  rw [List.getD_eq_getElem?_getD, List.getElem?_map, List.getElem?_range hj']
  rfl
set_option maxRecDepth 100000 in
theorem mini_0 : mIni 0 = false := by decide +kernel
set_option maxRecDepth 100000 in
theorem mstart_own : ∃ q, mME 0 = some q ∧ q.2.2.2.1 = 4 ∧ mcn q.1 = "HairRopeLaw" ∧ q.2.2.2.2.1 ∈ [1, 2] := ⟨_, rfl, by decide +kernel⟩
theorem mstart_code : myB 0 = code := rfl
/-- from the entry: a run of the small machine over the script that ends with 1 is the law's whole walk -/
theorem m_start {p : Program} {e : Env} {s : State} {m : MethodId} {below : List Frame} {meth : Method} {c : Code} (l : Launch) {b L : Nat} {xs : Nat → Int32} {Q : State → Prop} {f : Nat} {hf : mH}
    (hx : p.tables.exec = Jvm.exec) (hb : c.code = code) (hml : c.maxLocals = 4) (hown : s.vm.findClass "HairRopeLaw" = some m.cls) (hts : ∀ w ∈ lw_tbl, w.before #[Value.ref b] s = true) (hX : va_X b L xs s s.heap) (hbl : b < s.heap.size) (hgv : (Jvm.Cond.and given_1 narrow_1).before #[Value.ref b] s = true)
    (hr : mrunG (mXA ((List.range L).map xs)) f 2048 84000 0 0 (mEntry [mE 0] 4) [] [] = some (hf, some (mI 1))) (hc : hf.length ≤ 600000) (hs : mhs hf ≤ 7302250)
    (k : ∀ (pc : Nat) (lr : Array Slot) (H : Heap), decode code pc = .ok (.ireturn, 1) → W p l e room_1 s m #[Value.ref b] below meth c H [] 600000 7302250 Q (F0 m pc lr [.int 1])) :
    W p l e room_1 s m #[Value.ref b] below meth c s.heap [] 0 0 Q (entryFrame m ([Value.ref b] : List Value).toArray 4) := by
  have hts' : ∀ w ∈ mWS, w.before #[Value.ref b] s = true := fun w hw => hts w (mWS_sub w hw)
  obtain ⟨D, TA, hK⟩ := m_K0 hts' (hts _ mao_in)
  obtain ⟨E, hE, hEX⟩ := m_EX0 hts (m_script hX) hbl hgv
  obtain ⟨⟨own, stt, na, mx, rt, ini, cd⟩, hq, e1, e2, e3⟩ := mstart_own
  dsimp only at e1 e2 e3
  subst e1
  obtain ⟨-, -, -, -, -, -, -, -, -, -, hin, -⟩ := m_meth hq
  have hin' : ini = false := by rw [← hin]; exact mini_0
  subst hin'
  obtain ⟨hlv, hlen⟩ := mlv_entry (S0 := s.heap.size) (E := E) (a := [mE 0]) (n := 4) (by decide)
  have ha : ([mE 0] : List mV).map (mmu s.heap.size E) = [Value.ref b] := by
    show [va_rf (E 0)] = _
    rw [hE]
    rfl
  rw [ha] at hlv
  rw [lg_entry_eq]
  generalize (lg_sl ([Value.ref b]) ++ List.replicate (4 - (lg_sl ([Value.ref b])).length) Slot.unset).toArray = lr at hlv ⊢
  have hsim : mSim D TA s.heap.size E [] s.heap := ⟨rfl, fun i c h => by simp at h⟩
  refine m_goes ((List.range L).map xs) f p l e room_1 s m _ below meth c s.heap [] 0 0 Q lr s.heap.size E D TA 2048 84000 0 0 (mEntry [mE 0] 4) [] [] hf (some (mI 1)) hf.length (mhs hf) own na 4 rt stt false cd hr hq hx (by rw [hb, mstart_code]) (by rw [hml, hlv.1, hlen]) (by rw [e2]; exact hown) hts' hK hEX (fun h => by cases h) hlv hsim va_S.rf (Nat.le_refl _) (Nat.le_refl _) (by simp) (by simp [mhs]) hc hs ?_
  intro i pc1 lr1 st1 H1 locs1 hd hm hs1 hS1
  refine va_forget (fun q hq' => hS1.2.2 q hq') (W.widen hc hs ?_)
  have hi : i = .ireturn ∧ st1 = [mI 1] := by
    unfold mRet at hm
    simp only [List.mem_cons, List.not_mem_nil, or_false] at e3
    rcases e3 with rfl | rfl
    · split at hm <;> simp_all
    · split at hm <;> simp_all
  obtain ⟨rfl, rfl⟩ := hi
  rw [mstart_code] at hd
  exact k pc1 lr1 H1 hd
