noncomputable section
/-! ===== the whole run of the law ===== -/
set_option maxRecDepth 1000000 in
theorem mfr_1 : mIs (mpre mX0 9000 2048 84000 0 2 8 [some (mE 0), some (mR (some 0)), none, none] [] mHc) 12 [some (mE 0), some (mR (some 0)), none, none] [mR (some 321), mR (some 321)] mHd_0 = true := by decide +kernel
set_option maxRecDepth 1000000 in
theorem mfr_2 : mcall_ok 2048 84000 0 12 186 1 1 [mR (some 321), mR (some 321)] mHd_0 = true := by decide +kernel
set_option maxRecDepth 1000000 in
theorem mfr_3 : mIs (mpre mX0 9000 2048 84000 0 3 15 [some (mE 0), some (mR (some 0)), none, none] [mR (some 321)] mHf) 18 [some (mE 0), some (mR (some 0)), some (mR (some 321)), some (mI 0)] [] mHf = true := by decide +kernel
set_option maxRecDepth 1000000 in
theorem mfr_4 : y_Hs (mGw false) mLT1 (mGw false) mHf = true := by decide +kernel
set_option maxRecDepth 1000000 in
theorem mfr_5 : Nat.ble (mhs mHf) 7302250 = true := by decide +kernel
set_option maxRecDepth 1000000 in
theorem mfr_6 : (mGw false).all (fun l => Nat.blt l mLT1.length) = true := by decide +kernel
set_option maxRecDepth 1000000 in
theorem mfr_7 : (mGw false)[0]? = some 0 ∧ (mGw false)[321]? = some 12 ∧ (mGw false)[1]? = some 1 ∧ (mGw false)[16]? = some 4 ∧ (mGw false)[314]? = some 11 ∧ (mGw false)[17]? = some 5 ∧ (mGw false)[18]? = some 2 ∧ (mGw false)[23]? = some 3 ∧ (mGw false)[36]? = some 7 ∧ (mGw false)[368]? = some 94 ∧ (mGw false)[30]? = some 6 ∧ (mGw false)[297]? = some 8 ∧ (mGw false)[312]? = some 10 ∧ (mGw false)[304]? = some 9 ∧ (mGw false)[304]? = some 9 := by decide +kernel
set_option maxRecDepth 1000000 in
theorem mfr_8 : mHf.length ≤ 600000 := by decide +kernel
set_option maxRecDepth 1000000 in
theorem mfr_9 : mhs mHf ≤ 7302250 := by decide +kernel
theorem mHf_H : y_H (mGw false) mLT1 mHf := y_Hb mfr_4
def mRun (X : List Int32) (pc : Nat) (ls : mL) (st : List mV) (h hf : mH) : Prop := ∃ f, mrunG (mXA X) f 2048 84000 0 pc ls st h = some (hf, some (mI 1))
theorem mctor_all {X : List Int32} {hf : mH} (q : mRun X 18 [some (mE 0), some (mR (some 0)), some (mR (some 321)), some (mI 0)] [] mHf hf) : mRun X 0 (mEntry [mE 0] 4) [] [] hf := by
  obtain ⟨g, hg⟩ := q
  have a3 := mstage (XB := mXA X) mX0_mono (mIs_ok mfr_3) hg
  have b2 := mrunG_mono (XB := mXA X) mX0_mono (mEnd_ok mct_2)
  have b1 := mstage (XB := mXA X) mX0_mono (mIs_ok mct_1) b2
  have b0 := mstage (XB := mXA X) mX0_mono (mIs_ok mct_0) b1
  have a2 := mcall_run (XB := mXA X) (v := none) mfr_2 b0 a3
  have a1 := mstage (XB := mXA X) mX0_mono (mIs_ok mfr_1) a2
  have a0 := mstage (XB := mXA X) mX0_mono (mIs_ok mctor_1) a1
  exact ⟨_, a0⟩
set_option maxRecDepth 1000000 in
theorem mfr_a65 : mHf[65 + 274]? = some (.inr (0, .inl (List.replicate 8 0))) := rfl
set_option maxRecDepth 1000000 in
theorem mfr_a66 : mHf[66 + 274]? = some (.inr (0, .inl (List.replicate 8 0))) := rfl
set_option maxRecDepth 1000000 in
theorem mfr_a77 : mHf[77 + 274]? = some (.inr (0, .inl (List.replicate 33 0))) := rfl
set_option maxRecDepth 1000000 in
theorem mfr_a81 : mHf[81 + 274]? = some (.inr (0, .inl (List.replicate 1320 0))) := rfl
set_option maxRecDepth 1000000 in
theorem mfr_a95 : mHf[95 + 274]? = some (.inr (0, .inl (List.replicate 99 0))) := rfl
theorem j_zero {h : mH} {l n : Nat} (e : h[l + 274]? = some (.inr (0, .inl (List.replicate n 0)))) (i : Int) : j_g h l i = 0 := by
  rw [j_g_eq e, List.getD_eq_getElem?_getD, List.getElem?_replicate]
  split <;> rfl
theorem j_ps0 {h : mH} {l n : Nat} {m u : Int} (e : h[l + 274]? = some (.inr (0, .inl (List.replicate n 0)))) : j_px (j_g h) l m u := by
  intro r _ _ _
  unfold j_ps
  rw [j_zero e]
  exact j_ct_0
set_option maxRecDepth 1000000 in
theorem mfr_r368 : mHf[368]? = some (.inr (3, .inl ([0, 0, 0]))) := rfl
set_option maxRecDepth 1000000 in
theorem mfr_keys : ∃ xs : List Int64, mHf[328]? = some (.inr (1, .inr (.inl xs))) ∧ (List.range 22).all (fun (k : Nat) => decide ((xs.getD k 0).toInt = t_key k)) = true := ⟨_, rfl, by decide +kernel⟩
set_option maxRecDepth 1000000 in
theorem mfr_o0 : ∃ fs, mHf[0]? = some (.inl (11, fs)) ∧ fs[0]? = some (mR (some 1)) ∧ fs[10]? = some (mI (-1)) ∧ fs[1]? = some (mR (some 16)) ∧ fs[8]? = some (mR (some 314)) ∧ fs[2]? = some (mR (some 17)) ∧ fs[4]? = some (mR (some 36)) ∧ fs[3]? = some (mR (some 30)) ∧ fs[5]? = some (mR (some 297)) ∧ fs[7]? = some (mR (some 312)) ∧ fs[6]? = some (mR (some 304)) := ⟨_, rfl, rfl, rfl, rfl, rfl, rfl, rfl, rfl, rfl, rfl, rfl⟩
set_option maxRecDepth 1000000 in
theorem mfr_o1 : ∃ fs, mHf[1]? = some (.inl (9, fs)) ∧ fs[5]? = some (mI 0) := ⟨_, rfl, rfl⟩
set_option maxRecDepth 1000000 in
theorem mfr_o321 : ∃ fs, mHf[321]? = some (.inl (12, fs)) ∧ fs[18]? = some (mI 0) ∧ fs[2]? = some (mI 0) ∧ fs[17]? = some (mI (-1)) ∧ fs[63]? = some (mI 0) ∧ fs[69]? = some (mR (some 368)) ∧ fs[53]? = some (mI 0) := ⟨_, rfl, rfl, rfl, rfl, rfl, rfl, rfl⟩
set_option maxRecDepth 1000000 in
theorem mfr_o16 : ∃ fs, mHf[16]? = some (.inl (5, fs)) ∧ fs[0]? = some (mR (some 1)) := ⟨_, rfl, rfl⟩
set_option maxRecDepth 1000000 in
theorem mfr_o314 : ∃ fs, mHf[314]? = some (.inl (0, fs)) ∧ fs[8]? = some (mI 0) := ⟨_, rfl, rfl⟩
set_option maxRecDepth 1000000 in
theorem mfr_o17 : ∃ fs, mHf[17]? = some (.inl (7, fs)) ∧ fs[3]? = some (mR (some 18)) := ⟨_, rfl, rfl⟩
set_option maxRecDepth 1000000 in
theorem mfr_o18 : ∃ fs, mHf[18]? = some (.inl (10, fs)) ∧ fs[5]? = some (mI 0) ∧ fs[7]? = some (mI 20) ∧ fs[8]? = some (mI 10) ∧ fs[9]? = some (mI 0) ∧ fs[10]? = some (mI 0) ∧ fs[4]? = some (mR (some 23)) := ⟨_, rfl, rfl, rfl, rfl, rfl, rfl, rfl⟩
set_option maxRecDepth 1000000 in
theorem mfr_o23 : ∃ fs, mHf[23]? = some (.inl (4, fs)) ∧ fs[4]? = some (mI 8) := ⟨_, rfl, rfl⟩
set_option maxRecDepth 1000000 in
theorem mfr_o36 : ∃ fs, mHf[36]? = some (.inl (3, fs)) ∧ fs[4]? = some (mI 0) ∧ fs[2]? = some (mI 0) ∧ fs[3]? = some (mI 0) := ⟨_, rfl, rfl, rfl, rfl⟩
set_option maxRecDepth 1000000 in
theorem mfr_o30 : ∃ fs, mHf[30]? = some (.inl (8, fs)) ∧ fs[5]? = some (mI 0) ∧ fs[6]? = some (mI 0) ∧ fs[7]? = some (mI 0) ∧ fs[8]? = some (mI 0) := ⟨_, rfl, rfl, rfl, rfl, rfl⟩
set_option maxRecDepth 1000000 in
theorem mfr_o297 : ∃ fs, mHf[297]? = some (.inl (1, fs)) ∧ fs[0]? = some (mR (some 17)) := ⟨_, rfl, rfl⟩
set_option maxRecDepth 1000000 in
theorem mfr_o312 : ∃ fs, mHf[312]? = some (.inl (2, fs)) ∧ fs[0]? = some (mR (some 17)) ∧ fs[1]? = some (mR (some 304)) := ⟨_, rfl, rfl, rfl⟩
set_option maxRecDepth 1000000 in
theorem mfr_o304 : ∃ fs, mHf[304]? = some (.inl (6, fs)) ∧ fs[0]? = some (mR (some 17)) ∧ fs[0]? = some (mR (some 17)) := ⟨_, rfl, rfl, rfl⟩
set_option maxRecDepth 1000000 in
theorem mfr_r20 : mHf[20]? = some (.inr (0, .inl (List.replicate 36 5))) := rfl
set_option maxRecDepth 1000000 in
theorem mfr_r334 : mHf[334]? = some (.inr (0, .inl (List.replicate 72 5))) := rfl
set_option maxRecDepth 1000000 in
theorem mfr_r330 : mHf[330]? = some (.inr (0, .inl ([0, 0]))) := rfl
theorem mfr_t82 : j_N (j_v false mHf) 82 [0, 1, 1] := by
  rw [j_N82]
  refine fun _ => ⟨by decide, by decide, by decide, fun a b a0 a1 b0 b1 => ?_⟩
  have e1 : ∀ i : Int, 0 ≤ i → i < 36 → j_v false mHf 18 i = 5 := by
    intro i i0 i1
    unfold j_v
    rw [show mHf[j_ad false 18]? = _ from mfr_r20]
    dsimp only
    rw [List.getD_eq_getElem?_getD, List.getElem?_replicate, if_pos (by omega)]
    rfl
  have e2 : ∀ i : Int, 0 ≤ i → i < 72 → j_v false mHf 60 i = 5 := by
    intro i i0 i1
    unfold j_v
    rw [show mHf[j_ad false 60]? = _ from mfr_r334]
    dsimp only
    rw [List.getD_eq_getElem?_getD, List.getElem?_replicate, if_pos (by omega)]
    rfl
  show j_v false mHf 18 (6 * a + b) = j_v false mHf 60 (36 * 0 + (6 * a + b))
  rw [e1 _ (by omega) (by omega), e2 _ (by omega) (by omega)]
theorem mfr_t85 : j_N (j_v false mHf) 85 [0, 0, 1] := by
  rw [j_N85]
  refine ⟨by decide, by decide, ?_⟩
  unfold j_v
  rw [show mHf[j_ad false 56]? = _ from mfr_r330]
  rfl
set_option maxRecDepth 1000000 in
theorem mfr_r335 : mHf[335]? = some (.inr (0, .inl ([20, 20]))) := rfl
theorem mfr_t88 : j_N (j_v false mHf) 88 [0, 20, 1] := by
  rw [j_N88]
  refine ⟨by decide, by decide, ?_⟩
  unfold j_v
  rw [show mHf[j_ad false 61]? = _ from mfr_r335]
  rfl
set_option maxRecDepth 1000000 in
theorem mfr_r336 : mHf[336]? = some (.inr (0, .inl ([10, 10]))) := rfl
theorem mfr_t89 : j_N (j_v false mHf) 89 [0, 10, 1] := by
  rw [j_N89]
  refine ⟨by decide, by decide, ?_⟩
  unfold j_v
  rw [show mHf[j_ad false 62]? = _ from mfr_r336]
  rfl
set_option maxRecDepth 1000000 in
theorem mfr_r337 : mHf[337]? = some (.inr (0, .inl ([0, 0]))) := rfl
theorem mfr_t90 : j_N (j_v false mHf) 90 [0, 0, 1] := by
  rw [j_N90]
  refine ⟨by decide, by decide, ?_⟩
  unfold j_v
  rw [show mHf[j_ad false 63]? = _ from mfr_r337]
  rfl
set_option maxRecDepth 1000000 in
theorem mfr_r338 : mHf[338]? = some (.inr (0, .inl ([0, 0]))) := rfl
theorem mfr_t91 : j_N (j_v false mHf) 91 [0, 0, 1] := by
  rw [j_N91]
  refine ⟨by decide, by decide, ?_⟩
  unfold j_v
  rw [show mHf[j_ad false 64]? = _ from mfr_r338]
  rfl
theorem mfr_t200 : j_N (j_v false mHf) 200 [0, 1, 1, 0] := by
  rw [j_N200]
  exact fun _ => ⟨by decide, by decide, by decide, by decide, fun i h0 h1 => by omega⟩
set_option maxRecDepth 1000000 in
theorem mfr_r24 : mHf[24]? = some (.inr (0, .inl ([0, 7, 1, 0, 4, 7, 1, 7, 0, 0, 0, 0, 0, 0, 0, 0, 0, 0, 0, 0, 0, 0, 0, 0, 0, 0, 0, 0, 0, 0, 0, 0, 0, 0, 0, 0, 0, 0, 0, 0, 0, 0, 0, 0, 0, 0, 0, 0, 0, 0, 0, 0, 0, 0, 0, 0, 0, 0, 0, 0, 0, 0, 0, 0, 0, 0, 0, 0, 0, 0, 0, 0, 0, 0, 0, 0, 0, 0, 0, 0, 0, 0, 0, 0, 0, 0, 0, 0, 0, 0, 0, 0, 0, 0, 0, 0, 0, 0, 0, 0, 0, 0, 0, 0, 0, 0, 0, 0, 0, 0, 0, 0, 0, 0, 0, 0, 0, 0, 0, 0, 0, 0, 0, 0, 0, 0, 0, 0, 0, 0, 0, 0, 0, 0, 0, 0, 0, 0, 0, 0, 0, 0, 0, 0, 0, 0, 0, 0, 0, 0, 0, 0, 0, 0, 0, 0, 0, 0, 0, 0, 0, 0, 0, 0, 0, 0, 0, 0, 0, 0, 0, 0, 0, 0, 0, 0, 0, 0, 0, 0, 0, 0, 0, 0, 0, 0, 0, 0, 0, 0, 0, 0, 0, 0, 0, 0, 0, 0, 0, 0, 0, 0, 0, 0, 0, 0, 0, 0, 0, 0, 0, 0, 0, 0, 0, 0, 0, 0, 0, 0, 0, 0, 0, 0, 0, 0, 0, 0, 0, 0, 0, 0, 0, 0, 0, 0, 0, 0, 0, 0, 0, 0, 0, 0, 0, 0, 0, 0, 0, 0, 0, 0, 0, 0, 0, 0, 0, 0, 0, 0, 0, 0, 0, 0, 0, 0, 0, 0, 0, 0, 0, 0, 0, 0, 0, 0, 0, 0, 0, 0, 0, 0, 0, 0, 0, 0, 0, 0, 0, 0, 0, 0, 0, 0, 0, 0, 0, 0, 0, 0, 0, 0, 0, 0, 0, 0, 0, 0, 0, 0, 0, 0, 0, 0, 0, 0, 0, 0, 0, 0, 0, 0, 0, 0, 0, 0, 0, 0, 0, 0, 0, 0, 0, 0, 0, 0, 0, 0, 0, 0, 0, 0, 0, 0, 0, 0, 0, 0, 0, 0, 0, 0, 0, 0, 0, 0, 0, 0, 0, 0, 0, 0, 0, 0, 0, 0, 0, 0, 0, 0, 0, 0, 0, 0, 0, 0, 0, 0, 0, 0, 0, 0, 0, 0, 0, 0, 0, 0, 0, 0, 0, 0, 0, 0, 0, 0, 0, 0, 0, 0, 0, 0, 0, 0, 0, 0, 0, 0, 0, 0, 0, 0, 0, 0, 0, 0, 0, 0, 0, 0, 0, 0, 0, 0, 0, 0, 0, 0, 0, 0, 0, 0]))) := rfl
set_option maxRecDepth 1000000 in
theorem mfr_r25 : mHf[25]? = some (.inr (0, .inl ([1, 0, 2, 10, 0, 0, 0, 0, 0, 0, 0, 0, 0, 0, 0, 0, 0, 0, 0, 0, 0, 0, 0, 0, 0, 0, 0, 0, 0, 0, 0, 0, 0, 0, 0, 0, 0, 0, 0, 0, 0, 0, 0, 0, 0, 0, 0, 0, 0, 0, 0, 0, 0, 0, 0, 0, 0, 0, 0, 0, 0, 0, 0, 0, 0, 0, 0, 0, 0, 0, 0, 0, 0, 0, 0, 0, 0, 0, 0, 0, 0, 0, 0, 0, 0, 0, 0, 0, 0, 0, 0, 0, 0, 0, 0, 0, 0, 0, 0, 0, 0, 0, 0, 0, 0, 0, 0, 0, 0, 0, 0, 0, 0, 0, 0, 0, 0, 0, 0, 0, 0, 0, 0, 0, 0, 0, 0, 0, 0, 0, 0, 0, 0, 0, 0, 0, 0, 0, 0, 0, 0, 0, 0, 0, 0, 0, 0, 0, 0, 0, 0, 0, 0, 0, 0, 0, 0, 0, 0, 0, 0, 0, 0, 0, 0, 0, 0, 0, 0, 0, 0, 0, 0, 0, 0, 0, 0, 0, 0, 0, 0, 0, 0, 0, 0, 0, 0, 0, 0, 0, 0, 0, 0, 0, 0, 0, 0, 0, 0, 0, 0, 0, 0, 0, 0, 0, 0, 0, 0, 0, 0, 0, 0, 0, 0, 0, 0, 0, 0, 0, 0, 0, 0, 0, 0, 0, 0, 0, 0, 0, 0, 0, 0, 0, 0, 0, 0, 0, 0, 0, 0, 0, 0, 0, 0, 0, 0, 0, 0, 0, 0, 0, 0, 0, 0, 0, 0, 0, 0, 0, 0, 0, 0, 0, 0, 0, 0, 0, 0, 0, 0, 0, 0, 0, 0, 0, 0, 0, 0, 0, 0, 0, 0, 0, 0, 0, 0, 0, 0, 0, 0, 0, 0, 0, 0, 0, 0, 0, 0, 0, 0, 0, 0, 0, 0, 0, 0, 0, 0, 0, 0, 0, 0, 0, 0, 0, 0, 0, 0, 0, 0, 0, 0, 0, 0, 0, 0, 0, 0, 0, 0, 0, 0, 0, 0, 0, 0, 0, 0, 0, 0, 0, 0, 0, 0, 0, 0, 0, 0, 0, 0, 0, 0, 0, 0, 0, 0, 0, 0, 0, 0, 0, 0, 0, 0, 0, 0, 0, 0, 0, 0, 0, 0, 0, 0, 0, 0, 0, 0, 0, 0, 0, 0, 0, 0, 0, 0, 0, 0, 0, 0, 0, 0, 0, 0, 0, 0, 0, 0, 0, 0, 0, 0, 0, 0, 0, 0, 0, 0, 0, 0, 0, 0, 0, 0, 0, 0, 0, 0, 0, 0, 0, 0, 0, 0, 0, 0, 0, 0, 0, 0, 0]))) := rfl
set_option maxRecDepth 1000000 in
theorem mfr_r26 : mHf[26]? = some (.inr (0, .inl ([0, 0, 2, 6]))) := rfl
set_option maxRecDepth 1000000 in
theorem mfr_r339 : mHf[339]? = some (.inr (0, .inl (List.replicate 8 0))) := rfl
set_option maxRecDepth 1000000 in
theorem mfr_r340 : mHf[340]? = some (.inr (0, .inl (List.replicate 8 0))) := rfl
set_option maxRecDepth 1000000 in
theorem mfr_t224 : j_N (j_v false mHf) 224 [0, 1, 1, 8] := by
  rw [j_N224]
  refine fun _ => ⟨by decide, by decide, by decide, by decide, ([], 0, [], [], [], [], []), 0, 0, fun y hy => absurd hy List.not_mem_nil, ⟨rfl, fun i x hi => ?_⟩, fun j j0 j1 => ?_, ⟨rfl, fun i x hi => absurd (show ([] : List (Int × Int))[i]? = some x from hi) (by simp)⟩, by decide, ⟨rfl, fun i x hi => absurd (show ([] : List (Int × Int × Int × Int × Int))[i]? = some x from hi) (by simp)⟩, by decide, fun j j0 j1 => ?_⟩
  · have hi2 : ([(0, 1), (7, 0), (1, 2), (0, 10), (4, 0), (7, 0), (1, 0), (7, 0)] : List (Int × Int))[i]? = some x := hi
    match i, hi2 with
    | 0, h => cases h; exact ⟨by unfold j_v; rw [show mHf[j_ad false 21]? = _ from mfr_r24]; rfl, by unfold j_v; rw [show mHf[j_ad false 22]? = _ from mfr_r25]; rfl⟩
    | 1, h => cases h; exact ⟨by unfold j_v; rw [show mHf[j_ad false 21]? = _ from mfr_r24]; rfl, by unfold j_v; rw [show mHf[j_ad false 22]? = _ from mfr_r25]; rfl⟩
    | 2, h => cases h; exact ⟨by unfold j_v; rw [show mHf[j_ad false 21]? = _ from mfr_r24]; rfl, by unfold j_v; rw [show mHf[j_ad false 22]? = _ from mfr_r25]; rfl⟩
    | 3, h => cases h; exact ⟨by unfold j_v; rw [show mHf[j_ad false 21]? = _ from mfr_r24]; rfl, by unfold j_v; rw [show mHf[j_ad false 22]? = _ from mfr_r25]; rfl⟩
    | 4, h => cases h; exact ⟨by unfold j_v; rw [show mHf[j_ad false 21]? = _ from mfr_r24]; rfl, by unfold j_v; rw [show mHf[j_ad false 22]? = _ from mfr_r25]; rfl⟩
    | 5, h => cases h; exact ⟨by unfold j_v; rw [show mHf[j_ad false 21]? = _ from mfr_r24]; rfl, by unfold j_v; rw [show mHf[j_ad false 22]? = _ from mfr_r25]; rfl⟩
    | 6, h => cases h; exact ⟨by unfold j_v; rw [show mHf[j_ad false 21]? = _ from mfr_r24]; rfl, by unfold j_v; rw [show mHf[j_ad false 22]? = _ from mfr_r25]; rfl⟩
    | 7, h => cases h; exact ⟨by unfold j_v; rw [show mHf[j_ad false 21]? = _ from mfr_r24]; rfl, by unfold j_v; rw [show mHf[j_ad false 22]? = _ from mfr_r25]; rfl⟩
    | i + 8, h => simp at h
  · have hc : j = 0 ∨ j = 1 ∨ j = 2 ∨ j = 3 := by omega
    rcases hc with rfl | rfl | rfl | rfl <;> (unfold j_v; rw [show mHf[j_ad false 23]? = _ from mfr_r26]; rfl)
  · have hc : j = 0 ∨ j = 1 ∨ j = 2 ∨ j = 3 := by omega
    rcases hc with rfl | rfl | rfl | rfl <;> exact ⟨by unfold j_v; rw [show mHf[j_ad false 65]? = _ from mfr_r339]; rfl, by unfold j_v; rw [show mHf[j_ad false 66]? = _ from mfr_r340]; rfl⟩
set_option maxRecDepth 1000000 in
theorem mfr_r351 : mHf[351]? = some (.inr (0, .inl (List.replicate 33 0))) := rfl
theorem mfr_t235 : j_N (j_v false mHf) 235 [0, 0, 0, 0, 0, 0, 0, 0, 0, 0, 0] := by
  rw [j_N235]
  exact g_sto0 fun i i0 i1 => by
    unfold j_v
    rw [show mHf[j_ad false 77]? = _ from mfr_r351]
    dsimp only
    rw [List.getD_eq_getElem?_getD, List.getElem?_replicate, if_pos (by omega)]
    rfl
theorem mfr_t242 : j_N (j_v false mHf) 242 [0, 0, 0, 0] := by
  rw [j_N242]
  exact g_hx0
theorem mfr_t246 : j_N (j_v false mHf) 246 [0, 0, 0, 0] := by
  rw [j_N246]
  exact g_sl0
def lw_s (n : Int) (b : Nat) : Int := match b with | 0 => n | 1 => 0 | 2 => 0 | 3 => 0 | 4 => (-1) | 5 => 0 | 6 => 0 | 7 => 20 | 8 => 10 | 9 => 0 | 10 => 0 | 11 => 8 | 12 => 0 | 13 => 0 | 14 => 0 | 15 => 0 | 16 => 0 | 17 => 0 | 18 => 0 | 19 => 0 | _ => 0
def lw_r (r : Nat) : Option Nat := match r with | 0 => some 0 | 1 => some 321 | 2 => some 1 | 3 => some 16 | 4 => some 314 | 5 => some 17 | 6 => some 18 | 7 => some 23 | 8 => some 36 | 9 => some 368 | 10 => some 30 | 11 => some 297 | 12 => some 312 | 13 => some 304 | 14 => some 304 | _ => none
theorem mlaw_node {X : List Int32} (hX : X.length ≤ 3072) : y_S (mGw false) (J2 false X) cx_n0.2.1 (lw_s (X.length : Int)) lw_r [some (mE 0), some (mR (some 0)), some (mR (some 321)), some (mI 0)] [] mHf := by
  obtain ⟨n0, n1, n2, n3, n4, n5, n6, n7, n8, n9, n10, n11, n12, n13, n14⟩ := mfr_7
  have s0 : lw_s (X.length : Int) 0 = (X.length : Int) := rfl
  have s1 : lw_s (X.length : Int) 1 = 0 := rfl
  have s2 : lw_s (X.length : Int) 2 = 0 := rfl
  have s3 : lw_s (X.length : Int) 3 = 0 := rfl
  have s4 : lw_s (X.length : Int) 4 = (-1) := rfl
  have s5 : lw_s (X.length : Int) 5 = 0 := rfl
  have s6 : lw_s (X.length : Int) 6 = 0 := rfl
  have s7 : lw_s (X.length : Int) 7 = 20 := rfl
  have s8 : lw_s (X.length : Int) 8 = 10 := rfl
  have s9 : lw_s (X.length : Int) 9 = 0 := rfl
  have s10 : lw_s (X.length : Int) 10 = 0 := rfl
  have s11 : lw_s (X.length : Int) 11 = 8 := rfl
  have s12 : lw_s (X.length : Int) 12 = 0 := rfl
  have s13 : lw_s (X.length : Int) 13 = 0 := rfl
  have s14 : lw_s (X.length : Int) 14 = 0 := rfl
  have s15 : lw_s (X.length : Int) 15 = 0 := rfl
  have s16 : lw_s (X.length : Int) 16 = 0 := rfl
  have s17 : lw_s (X.length : Int) 17 = 0 := rfl
  have s18 : lw_s (X.length : Int) 18 = 0 := rfl
  have s19 : lw_s (X.length : Int) 19 = 0 := rfl
  have b0 : y_E 20 (lw_s (X.length : Int)) (0, [(0, 1)]) (lw_s (X.length : Int) 0) := y_E.b (b := 0) (by omega)
  have b1 : y_E 20 (lw_s (X.length : Int)) (0, [(1, 1)]) (lw_s (X.length : Int) 1) := y_E.b (b := 1) (by omega)
  have b2 : y_E 20 (lw_s (X.length : Int)) (0, [(2, 1)]) (lw_s (X.length : Int) 2) := y_E.b (b := 2) (by omega)
  have b3 : y_E 20 (lw_s (X.length : Int)) (0, [(3, 1)]) (lw_s (X.length : Int) 3) := y_E.b (b := 3) (by omega)
  have b4 : y_E 20 (lw_s (X.length : Int)) (0, [(4, 1)]) (lw_s (X.length : Int) 4) := y_E.b (b := 4) (by omega)
  have b5 : y_E 20 (lw_s (X.length : Int)) (0, [(5, 1)]) (lw_s (X.length : Int) 5) := y_E.b (b := 5) (by omega)
  have b6 : y_E 20 (lw_s (X.length : Int)) (0, [(6, 1)]) (lw_s (X.length : Int) 6) := y_E.b (b := 6) (by omega)
  have b7 : y_E 20 (lw_s (X.length : Int)) (0, [(7, 1)]) (lw_s (X.length : Int) 7) := y_E.b (b := 7) (by omega)
  have b8 : y_E 20 (lw_s (X.length : Int)) (0, [(8, 1)]) (lw_s (X.length : Int) 8) := y_E.b (b := 8) (by omega)
  have b9 : y_E 20 (lw_s (X.length : Int)) (0, [(9, 1)]) (lw_s (X.length : Int) 9) := y_E.b (b := 9) (by omega)
  have b10 : y_E 20 (lw_s (X.length : Int)) (0, [(10, 1)]) (lw_s (X.length : Int) 10) := y_E.b (b := 10) (by omega)
  have b11 : y_E 20 (lw_s (X.length : Int)) (0, [(11, 1)]) (lw_s (X.length : Int) 11) := y_E.b (b := 11) (by omega)
  have b12 : y_E 20 (lw_s (X.length : Int)) (0, [(12, 1)]) (lw_s (X.length : Int) 12) := y_E.b (b := 12) (by omega)
  have b13 : y_E 20 (lw_s (X.length : Int)) (0, [(13, 1)]) (lw_s (X.length : Int) 13) := y_E.b (b := 13) (by omega)
  have b14 : y_E 20 (lw_s (X.length : Int)) (0, [(14, 1)]) (lw_s (X.length : Int) 14) := y_E.b (b := 14) (by omega)
  have b15 : y_E 20 (lw_s (X.length : Int)) (0, [(15, 1)]) (lw_s (X.length : Int) 15) := y_E.b (b := 15) (by omega)
  have b16 : y_E 20 (lw_s (X.length : Int)) (0, [(16, 1)]) (lw_s (X.length : Int) 16) := y_E.b (b := 16) (by omega)
  have b17 : y_E 20 (lw_s (X.length : Int)) (0, [(17, 1)]) (lw_s (X.length : Int) 17) := y_E.b (b := 17) (by omega)
  have b18 : y_E 20 (lw_s (X.length : Int)) (0, [(18, 1)]) (lw_s (X.length : Int) 18) := y_E.b (b := 18) (by omega)
  have b19 : y_E 20 (lw_s (X.length : Int)) (0, [(19, 1)]) (lw_s (X.length : Int) 19) := y_E.b (b := 19) (by omega)
  have k0 : y_in 20 (0, []) := y_in_k 0
  refine ⟨?_, ?_, ?_, ⟨rfl, ?_⟩, trivial, ?_, ?_⟩
  · intro b p hp
    match b, hp with
    | 0, hp => cases hp; rw [s0]; exact ⟨by show (0 : Int) ≤ _; omega, by show _ ≤ (3072 : Int); omega⟩
    | 1, hp => cases hp; rw [s1]; exact ⟨by show (0 : Int) ≤ _; omega, by show _ ≤ (3072 : Int); omega⟩
    | 2, hp => cases hp; rw [s2]; exact ⟨by show (0 : Int) ≤ _; omega, by show _ ≤ (2000 : Int); omega⟩
    | 3, hp => cases hp; rw [s3]; exact ⟨by show (0 : Int) ≤ _; omega, by show _ ≤ (1 : Int); omega⟩
    | 4, hp => cases hp; rw [s4]; exact ⟨by show ((-1) : Int) ≤ _; omega, by show _ ≤ (2000 : Int); omega⟩
    | 5, hp => cases hp; rw [s5]; exact ⟨by show (0 : Int) ≤ _; omega, by show _ ≤ (20 : Int); omega⟩
    | 6, hp => cases hp; rw [s6]; exact ⟨by show (0 : Int) ≤ _; omega, by show _ ≤ (6 : Int); omega⟩
    | 7, hp => cases hp; rw [s7]; exact ⟨by show (0 : Int) ≤ _; omega, by show _ ≤ (9999 : Int); omega⟩
    | 8, hp => cases hp; rw [s8]; exact ⟨by show (0 : Int) ≤ _; omega, by show _ ≤ (9999 : Int); omega⟩
    | 9, hp => cases hp; rw [s9]; exact ⟨by show (0 : Int) ≤ _; omega, by show _ ≤ (9999 : Int); omega⟩
    | 10, hp => cases hp; rw [s10]; exact ⟨by show (0 : Int) ≤ _; omega, by show _ ≤ (9999 : Int); omega⟩
    | 11, hp => cases hp; rw [s11]; exact ⟨by show (0 : Int) ≤ _; omega, by show _ ≤ (432 : Int); omega⟩
    | 12, hp => cases hp; rw [s12]; exact ⟨by show (0 : Int) ≤ _; omega, by show _ ≤ (1 : Int); omega⟩
    | 13, hp => cases hp; rw [s13]; exact ⟨by show (0 : Int) ≤ _; omega, by show _ ≤ (1 : Int); omega⟩
    | 14, hp => cases hp; rw [s14]; exact ⟨by show (0 : Int) ≤ _; omega, by show _ ≤ (1 : Int); omega⟩
    | 15, hp => cases hp; rw [s15]; exact ⟨by show (0 : Int) ≤ _; omega, by show _ ≤ (6 : Int); omega⟩
    | 16, hp => cases hp; rw [s16]; exact ⟨by show ((-2147483648) : Int) ≤ _; omega, by show _ ≤ (2147483647 : Int); omega⟩
    | 17, hp => cases hp; rw [s17]; exact ⟨by show ((-2147483648) : Int) ≤ _; omega, by show _ ≤ (2147483647 : Int); omega⟩
    | 18, hp => cases hp; rw [s18]; exact ⟨by show (0 : Int) ≤ _; omega, by show _ ≤ (39 : Int); omega⟩
    | 19, hp => cases hp; rw [s19]; exact ⟨by show (0 : Int) ≤ _; omega, by show _ ≤ (40 : Int); omega⟩
    | b + 20, hp => simp [cx_n0] at hp
  · intro r p hp
    match r, hp with
    | 0, hp => cases hp; exact n0
    | 1, hp => cases hp; exact n1
    | 2, hp => cases hp; exact n2
    | 3, hp => cases hp; exact n3
    | 4, hp => cases hp; exact n4
    | 5, hp => cases hp; exact n5
    | 6, hp => cases hp; exact n6
    | 7, hp => cases hp; exact n7
    | 8, hp => cases hp; exact n8
    | 9, hp => cases hp; exact n9
    | 10, hp => cases hp; exact n10
    | 11, hp => cases hp; exact n11
    | 12, hp => cases hp; exact n12
    | 13, hp => cases hp; exact n13
    | 14, hp => cases hp; exact n14
    | r + 15, hp => simp [cx_n0] at hp
  · intro e he
    simp [cx_n0] at he
  · intro i v hv ht
    match i, hv with
    | 0, hv => cases hv; exact ⟨_, rfl, rfl⟩
    | 1, hv => cases hv; exact ⟨_, rfl, by show 0 < 15; omega, rfl⟩
    | 2, hv => cases hv; exact ⟨_, rfl, by show 1 < 15; omega, rfl⟩
    | 3, hv => cases hv; exact ⟨_, rfl, 0, rfl, b1⟩
    | i + 4, hv => simp [cx_n0] at hv
  · intro f hf
    simp only [cx_n0, List.mem_cons, List.not_mem_nil, or_false] at hf
    rcases hf with rfl | rfl | rfl | rfl | rfl | rfl | rfl | rfl | rfl | rfl | rfl | rfl | rfl | rfl | rfl | rfl | rfl | rfl | rfl | rfl | rfl | rfl | rfl | rfl | rfl | rfl | rfl | rfl | rfl | rfl | rfl | rfl | rfl | rfl | rfl | rfl | rfl | rfl | rfl | rfl | rfl | rfl
    · obtain ⟨fs, e, g0, g1, g2, g3, g4, g5, g6, g7, g8, g9⟩ := mfr_o0
      refine ⟨by show 0 < 15; omega, k0, fun a ha => ?_⟩
      have ea : a = 0 := (Option.some.inj (show some 0 = some a from ha)).symm
      subst ea
      exact ⟨11, fs, _, e, g0, by show 2 < 15; omega, rfl⟩
    · obtain ⟨fs, e, g0⟩ := mfr_o1
      refine ⟨by show 2 < 15; omega, k0, fun a ha => ?_⟩
      have ea : a = 1 := (Option.some.inj (show some 1 = some a from ha)).symm
      subst ea
      exact ⟨9, fs, _, e, g0, 0, rfl, b2⟩
    · obtain ⟨fs, e, g0, g1, g2, g3, g4, g5⟩ := mfr_o321
      refine ⟨by show 1 < 15; omega, k0, fun a ha => ?_⟩
      have ea : a = 321 := (Option.some.inj (show some 321 = some a from ha)).symm
      subst ea
      exact ⟨12, fs, _, e, g0, 0, rfl, b3⟩
    · obtain ⟨fs, e, g0, g1, g2, g3, g4, g5⟩ := mfr_o321
      refine ⟨by show 1 < 15; omega, k0, fun a ha => ?_⟩
      have ea : a = 321 := (Option.some.inj (show some 321 = some a from ha)).symm
      subst ea
      exact ⟨12, fs, _, e, g1, 0, rfl, b2⟩
    · obtain ⟨fs, e, g0, g1, g2, g3, g4, g5, g6, g7, g8, g9⟩ := mfr_o0
      refine ⟨by show 0 < 15; omega, k0, fun a ha => ?_⟩
      have ea : a = 0 := (Option.some.inj (show some 0 = some a from ha)).symm
      subst ea
      exact ⟨11, fs, _, e, g1, (-1), rfl, b4⟩
    · obtain ⟨fs, e, g0, g1, g2, g3, g4, g5⟩ := mfr_o321
      refine ⟨by show 1 < 15; omega, k0, fun a ha => ?_⟩
      have ea : a = 321 := (Option.some.inj (show some 321 = some a from ha)).symm
      subst ea
      exact ⟨12, fs, _, e, g2, (-1), rfl, b4⟩
    · obtain ⟨fs, e, g0, g1, g2, g3, g4, g5, g6, g7, g8, g9⟩ := mfr_o0
      refine ⟨by show 0 < 15; omega, k0, fun a ha => ?_⟩
      have ea : a = 0 := (Option.some.inj (show some 0 = some a from ha)).symm
      subst ea
      exact ⟨11, fs, _, e, g2, by show 3 < 15; omega, rfl⟩
    · obtain ⟨fs, e, g0⟩ := mfr_o16
      refine ⟨by show 3 < 15; omega, k0, fun a ha => ?_⟩
      have ea : a = 16 := (Option.some.inj (show some 16 = some a from ha)).symm
      subst ea
      exact ⟨5, fs, _, e, g0, by show 2 < 15; omega, rfl⟩
    · obtain ⟨fs, e, g0, g1, g2, g3, g4, g5, g6, g7, g8, g9⟩ := mfr_o0
      refine ⟨by show 0 < 15; omega, k0, fun a ha => ?_⟩
      have ea : a = 0 := (Option.some.inj (show some 0 = some a from ha)).symm
      subst ea
      exact ⟨11, fs, _, e, g3, by show 4 < 15; omega, rfl⟩
    · obtain ⟨fs, e, g0⟩ := mfr_o314
      refine ⟨by show 4 < 15; omega, k0, fun a ha => ?_⟩
      have ea : a = 314 := (Option.some.inj (show some 314 = some a from ha)).symm
      subst ea
      exact ⟨0, fs, _, e, g0, 0, rfl, b5⟩
    · obtain ⟨fs, e, g0, g1, g2, g3, g4, g5⟩ := mfr_o321
      refine ⟨by show 1 < 15; omega, k0, fun a ha => ?_⟩
      have ea : a = 321 := (Option.some.inj (show some 321 = some a from ha)).symm
      subst ea
      exact ⟨12, fs, _, e, g3, 0, rfl, b5⟩
    · obtain ⟨fs, e, g0, g1, g2, g3, g4, g5, g6, g7, g8, g9⟩ := mfr_o0
      refine ⟨by show 0 < 15; omega, k0, fun a ha => ?_⟩
      have ea : a = 0 := (Option.some.inj (show some 0 = some a from ha)).symm
      subst ea
      exact ⟨11, fs, _, e, g4, by show 5 < 15; omega, rfl⟩
    · obtain ⟨fs, e, g0⟩ := mfr_o17
      refine ⟨by show 5 < 15; omega, k0, fun a ha => ?_⟩
      have ea : a = 17 := (Option.some.inj (show some 17 = some a from ha)).symm
      subst ea
      exact ⟨7, fs, _, e, g0, by show 6 < 15; omega, rfl⟩
    · obtain ⟨fs, e, g0, g1, g2, g3, g4, g5⟩ := mfr_o18
      refine ⟨by show 6 < 15; omega, k0, fun a ha => ?_⟩
      have ea : a = 18 := (Option.some.inj (show some 18 = some a from ha)).symm
      subst ea
      exact ⟨10, fs, _, e, g0, 0, rfl, b6⟩
    · obtain ⟨fs, e, g0, g1, g2, g3, g4, g5⟩ := mfr_o18
      refine ⟨by show 6 < 15; omega, k0, fun a ha => ?_⟩
      have ea : a = 18 := (Option.some.inj (show some 18 = some a from ha)).symm
      subst ea
      exact ⟨10, fs, _, e, g1, 20, rfl, b7⟩
    · obtain ⟨fs, e, g0, g1, g2, g3, g4, g5⟩ := mfr_o18
      refine ⟨by show 6 < 15; omega, k0, fun a ha => ?_⟩
      have ea : a = 18 := (Option.some.inj (show some 18 = some a from ha)).symm
      subst ea
      exact ⟨10, fs, _, e, g2, 10, rfl, b8⟩
    · obtain ⟨fs, e, g0, g1, g2, g3, g4, g5⟩ := mfr_o18
      refine ⟨by show 6 < 15; omega, k0, fun a ha => ?_⟩
      have ea : a = 18 := (Option.some.inj (show some 18 = some a from ha)).symm
      subst ea
      exact ⟨10, fs, _, e, g3, 0, rfl, b9⟩
    · obtain ⟨fs, e, g0, g1, g2, g3, g4, g5⟩ := mfr_o18
      refine ⟨by show 6 < 15; omega, k0, fun a ha => ?_⟩
      have ea : a = 18 := (Option.some.inj (show some 18 = some a from ha)).symm
      subst ea
      exact ⟨10, fs, _, e, g4, 0, rfl, b10⟩
    · obtain ⟨fs, e, g0, g1, g2, g3, g4, g5⟩ := mfr_o18
      refine ⟨by show 6 < 15; omega, k0, fun a ha => ?_⟩
      have ea : a = 18 := (Option.some.inj (show some 18 = some a from ha)).symm
      subst ea
      exact ⟨10, fs, _, e, g5, by show 7 < 15; omega, rfl⟩
    · obtain ⟨fs, e, g0⟩ := mfr_o23
      refine ⟨by show 7 < 15; omega, k0, fun a ha => ?_⟩
      have ea : a = 23 := (Option.some.inj (show some 23 = some a from ha)).symm
      subst ea
      exact ⟨4, fs, _, e, g0, 8, rfl, b11⟩
    · obtain ⟨fs, e, g0, g1, g2, g3, g4, g5, g6, g7, g8, g9⟩ := mfr_o0
      refine ⟨by show 0 < 15; omega, k0, fun a ha => ?_⟩
      have ea : a = 0 := (Option.some.inj (show some 0 = some a from ha)).symm
      subst ea
      exact ⟨11, fs, _, e, g5, by show 8 < 15; omega, rfl⟩
    · obtain ⟨fs, e, g0, g1, g2, g3, g4, g5⟩ := mfr_o321
      refine ⟨by show 1 < 15; omega, k0, fun a ha => ?_⟩
      have ea : a = 321 := (Option.some.inj (show some 321 = some a from ha)).symm
      subst ea
      exact ⟨12, fs, _, e, g4, by show 9 < 15; omega, rfl⟩
    · refine ⟨by show 9 < 15; omega, y_in_k 0, fun a ha => ?_⟩
      have ea : a = 368 := (Option.some.inj (show some 368 = some a from ha)).symm
      subst ea
      exact ⟨by show (0 : Int) ≤ 0; omega, fun t xs hx => by
        rw [mfr_r368] at hx
        cases hx
        exact ⟨0, rfl, 0, rfl, b12⟩, fun t xs hx => by
        rw [mfr_r368] at hx
        cases hx⟩
    · refine ⟨by show 9 < 15; omega, y_in_k 1, fun a ha => ?_⟩
      have ea : a = 368 := (Option.some.inj (show some 368 = some a from ha)).symm
      subst ea
      exact ⟨by show (0 : Int) ≤ 1; omega, fun t xs hx => by
        rw [mfr_r368] at hx
        cases hx
        exact ⟨0, rfl, 0, rfl, b13⟩, fun t xs hx => by
        rw [mfr_r368] at hx
        cases hx⟩
    · refine ⟨by show 9 < 15; omega, y_in_k 2, fun a ha => ?_⟩
      have ea : a = 368 := (Option.some.inj (show some 368 = some a from ha)).symm
      subst ea
      exact ⟨by show (0 : Int) ≤ 2; omega, fun t xs hx => by
        rw [mfr_r368] at hx
        cases hx
        exact ⟨0, rfl, 0, rfl, b14⟩, fun t xs hx => by
        rw [mfr_r368] at hx
        cases hx⟩
    · obtain ⟨fs, e, g0, g1, g2⟩ := mfr_o36
      refine ⟨by show 8 < 15; omega, k0, fun a ha => ?_⟩
      have ea : a = 36 := (Option.some.inj (show some 36 = some a from ha)).symm
      subst ea
      exact ⟨3, fs, _, e, g0, 0, rfl, ⟨fun t ht => by simp only [List.mem_cons, List.not_mem_nil, or_false] at ht; rcases ht with rfl | rfl | rfl <;> (show _ < 20; decide), rfl⟩⟩
    · obtain ⟨fs, e, g0, g1, g2, g3, g4, g5, g6, g7, g8, g9⟩ := mfr_o0
      refine ⟨by show 0 < 15; omega, k0, fun a ha => ?_⟩
      have ea : a = 0 := (Option.some.inj (show some 0 = some a from ha)).symm
      subst ea
      exact ⟨11, fs, _, e, g6, by show 10 < 15; omega, rfl⟩
    · obtain ⟨fs, e, g0, g1, g2, g3⟩ := mfr_o30
      refine ⟨by show 10 < 15; omega, k0, fun a ha => ?_⟩
      have ea : a = 30 := (Option.some.inj (show some 30 = some a from ha)).symm
      subst ea
      exact ⟨8, fs, _, e, g0, 0, rfl, b6⟩
    · obtain ⟨fs, e, g0, g1, g2, g3⟩ := mfr_o30
      refine ⟨by show 10 < 15; omega, k0, fun a ha => ?_⟩
      have ea : a = 30 := (Option.some.inj (show some 30 = some a from ha)).symm
      subst ea
      exact ⟨8, fs, _, e, g1, 0, rfl, b15⟩
    · obtain ⟨fs, e, g0, g1, g2, g3⟩ := mfr_o30
      refine ⟨by show 10 < 15; omega, k0, fun a ha => ?_⟩
      have ea : a = 30 := (Option.some.inj (show some 30 = some a from ha)).symm
      subst ea
      exact ⟨8, fs, _, e, g2, 0, rfl, b16⟩
    · obtain ⟨fs, e, g0, g1, g2, g3⟩ := mfr_o30
      refine ⟨by show 10 < 15; omega, k0, fun a ha => ?_⟩
      have ea : a = 30 := (Option.some.inj (show some 30 = some a from ha)).symm
      subst ea
      exact ⟨8, fs, _, e, g3, 0, rfl, b17⟩
    · obtain ⟨fs, e, g0, g1, g2⟩ := mfr_o36
      refine ⟨by show 8 < 15; omega, k0, fun a ha => ?_⟩
      have ea : a = 36 := (Option.some.inj (show some 36 = some a from ha)).symm
      subst ea
      exact ⟨3, fs, _, e, g1, 0, rfl, b18⟩
    · obtain ⟨fs, e, g0, g1, g2⟩ := mfr_o36
      refine ⟨by show 8 < 15; omega, k0, fun a ha => ?_⟩
      have ea : a = 36 := (Option.some.inj (show some 36 = some a from ha)).symm
      subst ea
      exact ⟨3, fs, _, e, g2, 0, rfl, b19⟩
    · obtain ⟨fs, e, g0, g1, g2, g3, g4, g5⟩ := mfr_o321
      refine ⟨by show 1 < 15; omega, k0, fun a ha => ?_⟩
      have ea : a = 321 := (Option.some.inj (show some 321 = some a from ha)).symm
      subst ea
      exact ⟨12, fs, _, e, g5, 0, rfl, b19⟩
    · obtain ⟨fs, e, g0, g1, g2, g3, g4, g5, g6, g7, g8, g9⟩ := mfr_o0
      refine ⟨by show 0 < 15; omega, k0, fun a ha => ?_⟩
      have ea : a = 0 := (Option.some.inj (show some 0 = some a from ha)).symm
      subst ea
      exact ⟨11, fs, _, e, g7, by show 11 < 15; omega, rfl⟩
    · obtain ⟨fs, e, g0⟩ := mfr_o297
      refine ⟨by show 11 < 15; omega, k0, fun a ha => ?_⟩
      have ea : a = 297 := (Option.some.inj (show some 297 = some a from ha)).symm
      subst ea
      exact ⟨1, fs, _, e, g0, by show 5 < 15; omega, rfl⟩
    · obtain ⟨fs, e, g0, g1, g2, g3, g4, g5, g6, g7, g8, g9⟩ := mfr_o0
      refine ⟨by show 0 < 15; omega, k0, fun a ha => ?_⟩
      have ea : a = 0 := (Option.some.inj (show some 0 = some a from ha)).symm
      subst ea
      exact ⟨11, fs, _, e, g8, by show 12 < 15; omega, rfl⟩
    · obtain ⟨fs, e, g0, g1⟩ := mfr_o312
      refine ⟨by show 12 < 15; omega, k0, fun a ha => ?_⟩
      have ea : a = 312 := (Option.some.inj (show some 312 = some a from ha)).symm
      subst ea
      exact ⟨2, fs, _, e, g0, by show 5 < 15; omega, rfl⟩
    · obtain ⟨fs, e, g0, g1⟩ := mfr_o312
      refine ⟨by show 12 < 15; omega, k0, fun a ha => ?_⟩
      have ea : a = 312 := (Option.some.inj (show some 312 = some a from ha)).symm
      subst ea
      exact ⟨2, fs, _, e, g1, by show 13 < 15; omega, rfl⟩
    · obtain ⟨fs, e, g0, g1⟩ := mfr_o304
      refine ⟨by show 13 < 15; omega, k0, fun a ha => ?_⟩
      have ea : a = 304 := (Option.some.inj (show some 304 = some a from ha)).symm
      subst ea
      exact ⟨6, fs, _, e, g0, by show 5 < 15; omega, rfl⟩
    · obtain ⟨fs, e, g0, g1, g2, g3, g4, g5, g6, g7, g8, g9⟩ := mfr_o0
      refine ⟨by show 0 < 15; omega, k0, fun a ha => ?_⟩
      have ea : a = 0 := (Option.some.inj (show some 0 = some a from ha)).symm
      subst ea
      exact ⟨11, fs, _, e, g9, by show 14 < 15; omega, rfl⟩
    · obtain ⟨fs, e, g0, g1⟩ := mfr_o304
      refine ⟨by show 14 < 15; omega, k0, fun a ha => ?_⟩
      have ea : a = 304 := (Option.some.inj (show some 304 = some a from ha)).symm
      subst ea
      exact ⟨6, fs, _, e, g1, by show 5 < 15; omega, rfl⟩
  · intro t ht
    simp only [cx_n0, List.mem_cons, List.not_mem_nil, or_false] at ht
    have one : ∀ e : zL, y_in 20 e → ∀ e' ∈ [e], y_in 20 e' := fun e he e' he' => by
      simp only [List.mem_cons, List.not_mem_nil, or_false] at he'
      subst he'
      exact he
    rcases ht with rfl | rfl | rfl | rfl | rfl | rfl | rfl | rfl | rfl | rfl | rfl | rfl | rfl | rfl | rfl | rfl | rfl
    · refine ⟨one _ b3.1, ?_, j_N_lt (by decide)⟩
      show (y_ev (lw_s (X.length : Int)) (0, [(3, 1)]) = 0 ∨ y_ev (lw_s (X.length : Int)) (0, [(3, 1)]) = 1) ∧ j_ls (j_g mHf) (y_ev (lw_s (X.length : Int)) (0, [(3, 1)])) (130 * y_ev (lw_s (X.length : Int)) (0, [(3, 1)]) + 130) (420 * y_ev (lw_s (X.length : Int)) (0, [(3, 1)]) + 420)
      rw [b3.2, s3]
      refine ⟨Or.inl rfl, fun k x k0 k4 x0 x1 => ?_⟩
      rw [j_zero mfr_a65] at x0
      rw [j_zero mfr_a66] at x1
      omega
    · exact ⟨one _ (y_in_k (-1)), j_ps0 mfr_a77, j_N_lt (by decide)⟩
    · exact ⟨one _ (y_in_k (-1)), j_ps0 mfr_a81, j_N_lt (by decide)⟩
    · exact ⟨one _ (y_in_k (-1)), j_ps0 mfr_a95, j_N_lt (by decide)⟩
    · refine ⟨one _ b2.1, j_P_tr (by decide) (by decide), ?_⟩
      show ∀ i : Int, 0 ≤ i → i < y_ev (lw_s (X.length : Int)) (0, [(2, 1)]) → _
      rw [b2.2, s2]
      intro i h0 h1
      omega
    · refine ⟨fun e he => absurd he List.not_mem_nil, j_P_tr (by decide) (by decide), fun k hk => ?_⟩
      obtain ⟨xs, e1, e2⟩ := mfr_keys
      have := of_decide_eq_true (List.all_eq_true.mp e2 k (List.mem_range.mpr hk))
      unfold j_v
      rw [show mHf[j_ad false 54]? = some (.inr (1, .inr (.inl xs))) from e1]
      exact this
    · refine ⟨fun e he => ?_, j_P_tr (by decide) (by decide), ?_⟩
      · simp only [List.mem_cons, List.not_mem_nil, or_false] at he
        rcases he with rfl | rfl | rfl <;> (intro t ht; first | exact absurd ht List.not_mem_nil | (simp only [List.mem_cons, List.not_mem_nil, or_false] at ht; subst ht; show _ < 20; omega))
      · show j_N (j_v false mHf) 82 [y_ev (lw_s (X.length : Int)) (0, [(3, 1)]), y_ev (lw_s (X.length : Int)) (1, [(3, (-1))]), y_ev (lw_s (X.length : Int)) (1, [])]
        have w0 : y_ev (lw_s (X.length : Int)) (0, [(3, 1)]) = 0 := by simp [y_ev, y_el, lw_s]
        have w1 : y_ev (lw_s (X.length : Int)) (1, [(3, (-1))]) = 1 := by simp [y_ev, y_el, lw_s]
        have w2 : y_ev (lw_s (X.length : Int)) (1, []) = 1 := by simp [y_ev, y_el, lw_s]
        rw [w0, w1, w2]
        exact mfr_t82
    · refine ⟨fun e he => ?_, j_P_tr (by decide) (by decide), ?_⟩
      · simp only [List.mem_cons, List.not_mem_nil, or_false] at he
        rcases he with rfl | rfl | rfl <;> (intro t ht; first | exact absurd ht List.not_mem_nil | (simp only [List.mem_cons, List.not_mem_nil, or_false] at ht; subst ht; show _ < 20; omega))
      · show j_N (j_v false mHf) 85 [y_ev (lw_s (X.length : Int)) (0, [(3, 1)]), y_ev (lw_s (X.length : Int)) (0, [(6, 1)]), y_ev (lw_s (X.length : Int)) (1, [(3, (-1))])]
        have w0 : y_ev (lw_s (X.length : Int)) (0, [(3, 1)]) = 0 := by simp [y_ev, y_el, lw_s]
        have w1 : y_ev (lw_s (X.length : Int)) (0, [(6, 1)]) = 0 := by simp [y_ev, y_el, lw_s]
        have w2 : y_ev (lw_s (X.length : Int)) (1, [(3, (-1))]) = 1 := by simp [y_ev, y_el, lw_s]
        rw [w0, w1, w2]
        exact mfr_t85
    · refine ⟨fun e he => ?_, j_P_tr (by decide) (by decide), ?_⟩
      · simp only [List.mem_cons, List.not_mem_nil, or_false] at he
        rcases he with rfl | rfl | rfl <;> (intro t ht; first | exact absurd ht List.not_mem_nil | (simp only [List.mem_cons, List.not_mem_nil, or_false] at ht; subst ht; show _ < 20; omega))
      · show j_N (j_v false mHf) 88 [y_ev (lw_s (X.length : Int)) (0, [(3, 1)]), y_ev (lw_s (X.length : Int)) (0, [(7, 1)]), y_ev (lw_s (X.length : Int)) (1, [(3, (-1))])]
        have w0 : y_ev (lw_s (X.length : Int)) (0, [(3, 1)]) = 0 := by simp [y_ev, y_el, lw_s]
        have w1 : y_ev (lw_s (X.length : Int)) (0, [(7, 1)]) = 20 := by simp [y_ev, y_el, lw_s]
        have w2 : y_ev (lw_s (X.length : Int)) (1, [(3, (-1))]) = 1 := by simp [y_ev, y_el, lw_s]
        rw [w0, w1, w2]
        exact mfr_t88
    · refine ⟨fun e he => ?_, j_P_tr (by decide) (by decide), ?_⟩
      · simp only [List.mem_cons, List.not_mem_nil, or_false] at he
        rcases he with rfl | rfl | rfl <;> (intro t ht; first | exact absurd ht List.not_mem_nil | (simp only [List.mem_cons, List.not_mem_nil, or_false] at ht; subst ht; show _ < 20; omega))
      · show j_N (j_v false mHf) 89 [y_ev (lw_s (X.length : Int)) (0, [(3, 1)]), y_ev (lw_s (X.length : Int)) (0, [(8, 1)]), y_ev (lw_s (X.length : Int)) (1, [(3, (-1))])]
        have w0 : y_ev (lw_s (X.length : Int)) (0, [(3, 1)]) = 0 := by simp [y_ev, y_el, lw_s]
        have w1 : y_ev (lw_s (X.length : Int)) (0, [(8, 1)]) = 10 := by simp [y_ev, y_el, lw_s]
        have w2 : y_ev (lw_s (X.length : Int)) (1, [(3, (-1))]) = 1 := by simp [y_ev, y_el, lw_s]
        rw [w0, w1, w2]
        exact mfr_t89
    · refine ⟨fun e he => ?_, j_P_tr (by decide) (by decide), ?_⟩
      · simp only [List.mem_cons, List.not_mem_nil, or_false] at he
        rcases he with rfl | rfl | rfl <;> (intro t ht; first | exact absurd ht List.not_mem_nil | (simp only [List.mem_cons, List.not_mem_nil, or_false] at ht; subst ht; show _ < 20; omega))
      · show j_N (j_v false mHf) 90 [y_ev (lw_s (X.length : Int)) (0, [(3, 1)]), y_ev (lw_s (X.length : Int)) (0, [(9, 1)]), y_ev (lw_s (X.length : Int)) (1, [(3, (-1))])]
        have w0 : y_ev (lw_s (X.length : Int)) (0, [(3, 1)]) = 0 := by simp [y_ev, y_el, lw_s]
        have w1 : y_ev (lw_s (X.length : Int)) (0, [(9, 1)]) = 0 := by simp [y_ev, y_el, lw_s]
        have w2 : y_ev (lw_s (X.length : Int)) (1, [(3, (-1))]) = 1 := by simp [y_ev, y_el, lw_s]
        rw [w0, w1, w2]
        exact mfr_t90
    · refine ⟨fun e he => ?_, j_P_tr (by decide) (by decide), ?_⟩
      · simp only [List.mem_cons, List.not_mem_nil, or_false] at he
        rcases he with rfl | rfl | rfl <;> (intro t ht; first | exact absurd ht List.not_mem_nil | (simp only [List.mem_cons, List.not_mem_nil, or_false] at ht; subst ht; show _ < 20; omega))
      · show j_N (j_v false mHf) 91 [y_ev (lw_s (X.length : Int)) (0, [(3, 1)]), y_ev (lw_s (X.length : Int)) (0, [(10, 1)]), y_ev (lw_s (X.length : Int)) (1, [(3, (-1))])]
        have w0 : y_ev (lw_s (X.length : Int)) (0, [(3, 1)]) = 0 := by simp [y_ev, y_el, lw_s]
        have w1 : y_ev (lw_s (X.length : Int)) (0, [(10, 1)]) = 0 := by simp [y_ev, y_el, lw_s]
        have w2 : y_ev (lw_s (X.length : Int)) (1, [(3, (-1))]) = 1 := by simp [y_ev, y_el, lw_s]
        rw [w0, w1, w2]
        exact mfr_t91
    · refine ⟨fun e he => ?_, j_P_tr (by decide) (by decide), ?_⟩
      · simp only [List.mem_cons, List.not_mem_nil, or_false] at he
        rcases he with rfl | rfl | rfl | rfl <;> (intro t ht; first | exact absurd ht List.not_mem_nil | (simp only [List.mem_cons, List.not_mem_nil, or_false] at ht; subst ht; show _ < 20; omega))
      · show j_N (j_v false mHf) 200 [y_ev (lw_s (X.length : Int)) (0, [(3, 1)]), y_ev (lw_s (X.length : Int)) (1, [(3, (-1))]), y_ev (lw_s (X.length : Int)) (1, []), y_ev (lw_s (X.length : Int)) (0, [(6, 1)])]
        have w0 : y_ev (lw_s (X.length : Int)) (0, [(3, 1)]) = 0 := by simp [y_ev, y_el, lw_s]
        have w1 : y_ev (lw_s (X.length : Int)) (1, [(3, (-1))]) = 1 := by simp [y_ev, y_el, lw_s]
        have w2 : y_ev (lw_s (X.length : Int)) (1, []) = 1 := by simp [y_ev, y_el, lw_s]
        have w3 : y_ev (lw_s (X.length : Int)) (0, [(6, 1)]) = 0 := by simp [y_ev, y_el, lw_s]
        rw [w0, w1, w2, w3]
        exact mfr_t200
    · refine ⟨fun e he => ?_, j_P_tr (by decide) (by decide), ?_⟩
      · simp only [List.mem_cons, List.not_mem_nil, or_false] at he
        rcases he with rfl | rfl | rfl | rfl <;> (intro t ht; first | exact absurd ht List.not_mem_nil | (simp only [List.mem_cons, List.not_mem_nil, or_false] at ht; subst ht; show _ < 20; omega))
      · show j_N (j_v false mHf) 224 [y_ev (lw_s (X.length : Int)) (0, [(3, 1)]), y_ev (lw_s (X.length : Int)) (1, [(3, (-1))]), y_ev (lw_s (X.length : Int)) (1, []), y_ev (lw_s (X.length : Int)) (0, [(11, 1)])]
        have w0 : y_ev (lw_s (X.length : Int)) (0, [(3, 1)]) = 0 := by simp [y_ev, y_el, lw_s]
        have w1 : y_ev (lw_s (X.length : Int)) (1, [(3, (-1))]) = 1 := by simp [y_ev, y_el, lw_s]
        have w2 : y_ev (lw_s (X.length : Int)) (1, []) = 1 := by simp [y_ev, y_el, lw_s]
        have w3 : y_ev (lw_s (X.length : Int)) (0, [(11, 1)]) = 8 := by simp [y_ev, y_el, lw_s]
        rw [w0, w1, w2, w3]
        exact mfr_t224
    · refine ⟨fun e he => ?_, j_P_tr (by decide) (by decide), ?_⟩
      · simp only [List.mem_cons, List.not_mem_nil, or_false] at he
        rcases he with rfl | rfl | rfl | rfl | rfl | rfl | rfl | rfl | rfl | rfl | rfl <;> (intro t ht; first | exact absurd ht List.not_mem_nil | (simp only [List.mem_cons, List.not_mem_nil, or_false] at ht; subst ht; show _ < 20; omega))
      · show j_N (j_v false mHf) 235 [y_ev (lw_s (X.length : Int)) (0, [(6, 1)]), y_ev (lw_s (X.length : Int)) (0, [(15, 1)]), y_ev (lw_s (X.length : Int)) (0, [(16, 1)]), y_ev (lw_s (X.length : Int)) (0, [(17, 1)]), y_ev (lw_s (X.length : Int)) (0, []), y_ev (lw_s (X.length : Int)) (0, []), y_ev (lw_s (X.length : Int)) (0, []), y_ev (lw_s (X.length : Int)) (0, []), y_ev (lw_s (X.length : Int)) (0, []), y_ev (lw_s (X.length : Int)) (0, []), y_ev (lw_s (X.length : Int)) (0, [])]
        have w0 : y_ev (lw_s (X.length : Int)) (0, [(6, 1)]) = 0 := by simp [y_ev, y_el, lw_s]
        have w1 : y_ev (lw_s (X.length : Int)) (0, [(15, 1)]) = 0 := by simp [y_ev, y_el, lw_s]
        have w2 : y_ev (lw_s (X.length : Int)) (0, [(16, 1)]) = 0 := by simp [y_ev, y_el, lw_s]
        have w3 : y_ev (lw_s (X.length : Int)) (0, [(17, 1)]) = 0 := by simp [y_ev, y_el, lw_s]
        have w4 : y_ev (lw_s (X.length : Int)) (0, []) = 0 := by simp [y_ev, y_el, lw_s]
        rw [w0, w1, w2, w3, w4]
        exact mfr_t235
    · refine ⟨fun e he => ?_, j_P_tr (by decide) (by decide), ?_⟩
      · simp only [List.mem_cons, List.not_mem_nil, or_false] at he
        rcases he with rfl | rfl | rfl | rfl <;> (intro t ht; first | exact absurd ht List.not_mem_nil | (simp only [List.mem_cons, List.not_mem_nil, or_false] at ht; subst ht; show _ < 20; omega))
      · show j_N (j_v false mHf) 242 [y_ev (lw_s (X.length : Int)) (0, [(6, 1)]), y_ev (lw_s (X.length : Int)) (0, [(18, 1)]), y_ev (lw_s (X.length : Int)) (0, [(19, 1)]), y_ev (lw_s (X.length : Int)) (0, [])]
        have w0 : y_ev (lw_s (X.length : Int)) (0, [(6, 1)]) = 0 := by simp [y_ev, y_el, lw_s]
        have w1 : y_ev (lw_s (X.length : Int)) (0, [(18, 1)]) = 0 := by simp [y_ev, y_el, lw_s]
        have w2 : y_ev (lw_s (X.length : Int)) (0, [(19, 1)]) = 0 := by simp [y_ev, y_el, lw_s]
        have w3 : y_ev (lw_s (X.length : Int)) (0, []) = 0 := by simp [y_ev, y_el, lw_s]
        rw [w0, w1, w2, w3]
        exact mfr_t242
    · refine ⟨fun e he => ?_, j_P_tr (by decide) (by decide), ?_⟩
      · simp only [List.mem_cons, List.not_mem_nil, or_false] at he
        rcases he with rfl | rfl | rfl | rfl <;> (intro t ht; first | exact absurd ht List.not_mem_nil | (simp only [List.mem_cons, List.not_mem_nil, or_false] at ht; subst ht; show _ < 20; omega))
      · show j_N (j_v false mHf) 246 [y_ev (lw_s (X.length : Int)) (0, [(6, 1)]), y_ev (lw_s (X.length : Int)) (0, [(12, 1)]), y_ev (lw_s (X.length : Int)) (0, [(13, 1)]), y_ev (lw_s (X.length : Int)) (0, [(14, 1)])]
        have w0 : y_ev (lw_s (X.length : Int)) (0, [(6, 1)]) = 0 := by simp [y_ev, y_el, lw_s]
        have w1 : y_ev (lw_s (X.length : Int)) (0, [(12, 1)]) = 0 := by simp [y_ev, y_el, lw_s]
        have w2 : y_ev (lw_s (X.length : Int)) (0, [(13, 1)]) = 0 := by simp [y_ev, y_el, lw_s]
        have w3 : y_ev (lw_s (X.length : Int)) (0, [(14, 1)]) = 0 := by simp [y_ev, y_el, lw_s]
        rw [w0, w1, w2, w3]
        exact mfr_t246
theorem mlaw_run {X : List Int32} (hX : X.length ≤ 3072) : ∃ hf, mRun X 0 (mEntry [mE 0] 4) [] [] hf ∧ hf.length ≤ 600000 ∧ mhs hf ≤ 7302250 := by
  have hns : ∀ nd ∈ cx_ns, cx_P0.1.length ≤ nd.2.1.1.length ∧ cx_P0.2.1.length ≤ nd.2.1.2.1.length := fun nd h => by
    have := List.all_eq_true.mp cl_law nd h
    rw [Bool.and_eq_true] at this
    exact ⟨Nat.le_of_ble_eq_true this.1, Nat.le_of_ble_eq_true this.2⟩
  obtain ⟨r, hf, v, h1, h2, h3, h4, h5⟩ := y_law (X := X) (fra := 2048) (loa := 84000) hX sn_law (fun W => sn_121) (by decide) (fun P hP => by
      simp only [cx_Ps, List.mem_cons, List.not_mem_nil, or_false] at hP
      subst hP
      exact ⟨by decide, by decide⟩) hns (fun P hP W σ ρ v h h5 => by
      simp only [cx_Ps, List.mem_cons, List.not_mem_nil, or_false] at hP
      subst hP
      have hv := h5.2.2.2.2.1
      cases v with
      | none => cases hv
      | some x =>
        obtain ⟨⟨i, e1, -, e2⟩, -⟩ := hv
        rw [e1]
        have : i.toInt = 1 := by rw [← e2]; exact y_ev_k 1
        rw [show i = 1 from Int32.toInt_inj.mp (by rw [this]; rfl)]) cn_law cA_law (by decide) (by decide) (by decide) (by decide) 1548141661 false cx_n0 List.mem_cons_self (lw_s (X.length : Int)) lw_r _ _ mHf rfl (mlaw_node hX) mHf_H (by
      intro t ht
      simp only [cx_n0, List.mem_cons, List.not_mem_nil, or_false] at ht
      subst ht
      show 1 < 20
      omega) (by
      show (0 : Int) ≤ 1548141660 + ((-502970) * 0 + 0)
      omega) (by
      show (1548141660 : Int) + ((-502970) * 0 + 0) < _
      omega)
  subst h3
  exact ⟨hf, mctor_all ⟨_, h2⟩, by rw [h4]; exact mfr_8, by rw [h5]; exact mfr_9⟩
end
