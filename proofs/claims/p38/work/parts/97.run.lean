/-! ===== the whole run of the law ===== -/
set_option maxRecDepth 1000000 in
theorem mfr_1 : mIs (mpre mX0 9000 2048 84000 0 2 8 [some (mE 0), some (mR (some 0)), none, none] [] mHc) 12 [some (mE 0), some (mR (some 0)), none, none] [mR (some 321), mR (some 321)] mHd_0 = true := by decide +kernel
set_option maxRecDepth 1000000 in
theorem mfr_2 : mcall_ok 2048 84000 0 12 186 1 1 [mR (some 321), mR (some 321)] mHd_0 = true := by decide +kernel
set_option maxRecDepth 1000000 in
theorem mfr_3 : mIs (mpre mX0 9000 2048 84000 0 3 15 [some (mE 0), some (mR (some 0)), none, none] [mR (some 321)] mHf) 18 [some (mE 0), some (mR (some 0)), some (mR (some 321)), some (mI 0)] [] mHf = true := by decide +kernel
set_option maxRecDepth 1000000 in
theorem mfr_4 : y_Hs mGa mLT mGa mHf = true := by decide +kernel
set_option maxRecDepth 1000000 in
theorem mfr_5 : Nat.ble (mhs mHf) 7302250 = true := by decide +kernel
set_option maxRecDepth 1000000 in
theorem mfr_6 : mGa.all (fun l => Nat.blt l mLT.length) = true := by decide +kernel
set_option maxRecDepth 1000000 in
theorem mfr_7 : Nat.ble mGa.length 600000 = true ∧ mGa[0]? = some 0 ∧ mGa[321]? = some 12 ∧ mGa[1]? = some 1 := by decide +kernel
set_option maxRecDepth 1000000 in
theorem mfr_8 : mGa.length ≤ 600000 := by decide +kernel
set_option maxRecDepth 1000000 in
theorem mfr_9 : mhs mHf ≤ 7302250 := by decide +kernel
theorem mHf_H : y_H mGa mLT mHf := y_Hb mfr_4
def mRun (X : List Int32) (pc : Nat) (ls : mL) (st : List mV) (h hf : mH) : Prop := ∃ f, mrunG (mXA X) f 2048 84000 0 pc ls st h = some (hf, some (mI 1))
theorem mctor_all {X : List Int32} {hf : mH} (q : mRun X 18 [some (mE 0), some (mR (some 0)), some (mR (some 321)), some (mI 0)] [] mHf hf) : mRun X 0 (mEntry [mE 0] 4) [] [] hf := by
  obtain ⟨g, hg⟩ := q
  have a3 := mstage (XB := mXA X) mX0_mono (mIs_ok mfr_3) hg
  have b2 := mrunG_mono (XB := mXA X) mX0_mono (mEnd_ok mct_2)
  have b1 := mstage (XB := mXA X) mX0_mono (mIs_ok mct_1) b2
  have b0 := mstage (XB := mXA X) mX0_mono (mIs_ok mct_0) b1
  have a2 := mcall_run (XB := mXA X) (v := none) mfr_2 b0 a3
  have a1 := mstage (XB := mXA X) mX0_mono (mIs_ok mfr_1) a2
  have a0 := mstage (XB := mXA X) mX0_mono (mIs_ok mctor_1) a1
  exact ⟨_, a0⟩
set_option maxRecDepth 1000000 in
theorem mfr_a65 : mHf[65 + 274]? = some (.inr (0, .inl (List.replicate 8 0))) := rfl
set_option maxRecDepth 1000000 in
theorem mfr_a66 : mHf[66 + 274]? = some (.inr (0, .inl (List.replicate 8 0))) := rfl
set_option maxRecDepth 1000000 in
theorem mfr_a77 : mHf[77 + 274]? = some (.inr (0, .inl (List.replicate 33 0))) := rfl
set_option maxRecDepth 1000000 in
theorem mfr_a81 : mHf[81 + 274]? = some (.inr (0, .inl (List.replicate 1320 0))) := rfl
set_option maxRecDepth 1000000 in
theorem mfr_a95 : mHf[95 + 274]? = some (.inr (0, .inl (List.replicate 99 0))) := rfl
theorem j_zero {h : mH} {l n : Nat} (e : h[l + 274]? = some (.inr (0, .inl (List.replicate n 0)))) (i : Int) : j_g h l i = 0 := by
  rw [j_g_eq e, List.getD_eq_getElem?_getD, List.getElem?_replicate]
  split <;> rfl
theorem j_ps0 {h : mH} {l n : Nat} {m u : Int} (e : h[l + 274]? = some (.inr (0, .inl (List.replicate n 0)))) : j_px (j_g h) l m u := by
  intro r _ _ _
  unfold j_ps
  rw [j_zero e]
  exact j_ct_0
set_option maxRecDepth 1000000 in
theorem mfr_f0 : ∃ fs, mHf[0]? = some (.inl (11, fs)) ∧ fs[0]? = some (mR (some 1)) := ⟨_, rfl, rfl⟩
set_option maxRecDepth 1000000 in
theorem mfr_f1 : ∃ fs, mHf[1]? = some (.inl (9, fs)) ∧ fs[5]? = some (mI 0) := ⟨_, rfl, rfl⟩
set_option maxRecDepth 1000000 in
theorem mfr_f2 : ∃ fs, mHf[321]? = some (.inl (12, fs)) ∧ fs[18]? = some (mI 0) ∧ fs[2]? = some (mI 0) := ⟨_, rfl, rfl, rfl⟩
def lw_s (n : Int) (b : Nat) : Int := if b = 0 then n else 0
def lw_r (r : Nat) : Option Nat := if r = 0 then some 0 else if r = 1 then some 321 else some 1
theorem mlaw_node {X : List Int32} (hX : X.length ≤ 3072) : y_S mGa (mJS X) cx_nd.2.1 (lw_s (X.length : Int)) lw_r [some (mE 0), some (mR (some 0)), some (mR (some 321)), some (mI 0)] [] mHf := by
  obtain ⟨n1, n2, n3, n4⟩ := mfr_7
  have s0 : lw_s (X.length : Int) 0 = (X.length : Int) := rfl
  have s1 : lw_s (X.length : Int) 1 = 0 := rfl
  have s2 : lw_s (X.length : Int) 2 = 0 := rfl
  have s3 : lw_s (X.length : Int) 3 = 0 := rfl
  have b1 : y_E 4 (lw_s (X.length : Int)) (0, [(1, 1)]) 0 := y_E.b (b := 1) (by omega)
  have b2 : y_E 4 (lw_s (X.length : Int)) (0, [(2, 1)]) 0 := y_E.b (b := 2) (by omega)
  have b3 : y_E 4 (lw_s (X.length : Int)) (0, [(3, 1)]) 0 := y_E.b (b := 3) (by omega)
  have k0 : y_in 4 (0, []) := y_in_k 0
  refine ⟨?_, ?_, ?_, ⟨rfl, ?_⟩, trivial, ?_, ?_⟩
  · intro b p hp
    match b, hp with
    | 0, hp => cases hp; rw [s0]; exact ⟨by show (0 : Int) ≤ _; omega, by show _ ≤ (3072 : Int); omega⟩
    | 1, hp => cases hp; rw [s1]; exact ⟨by show (0 : Int) ≤ _; omega, by show _ ≤ (3072 : Int); omega⟩
    | 2, hp => cases hp; rw [s2]; exact ⟨by show (0 : Int) ≤ _; omega, by show _ ≤ (1 : Int); omega⟩
    | 3, hp => cases hp; rw [s3]; exact ⟨by show (0 : Int) ≤ _; omega, by show _ ≤ (2000 : Int); omega⟩
    | b + 4, hp => simp [cx_nd] at hp
  · intro r p hp
    match r, hp with
    | 0, hp => cases hp; exact n2
    | 1, hp => cases hp; exact n3
    | 2, hp => cases hp; exact n4
    | r + 3, hp => simp [cx_nd] at hp
  · intro e he
    simp [cx_nd] at he
  · intro i v hv ht
    match i, hv with
    | 0, hv => cases hv; exact ⟨_, rfl, rfl⟩
    | 1, hv => cases hv; exact ⟨_, rfl, by show 0 < 3; omega, rfl⟩
    | 2, hv => cases hv; exact ⟨_, rfl, by show 1 < 3; omega, rfl⟩
    | 3, hv => cases hv; exact ⟨_, rfl, 0, rfl, b1⟩
    | i + 4, hv => simp [cx_nd] at hv
  · intro f hf
    simp only [cx_nd, List.mem_cons, List.not_mem_nil, or_false] at hf
    rcases hf with rfl | rfl | rfl | rfl
    · obtain ⟨fs, e1, e2⟩ := mfr_f0
      refine ⟨by show 0 < 3; omega, k0, fun a ha => ?_⟩
      have ea : a = 0 := (Option.some.inj (show some 0 = some a from ha)).symm
      subst ea
      exact ⟨11, fs, _, e1, e2, by show 2 < 3; omega, rfl⟩
    · obtain ⟨fs, e1, e2⟩ := mfr_f1
      refine ⟨by show 2 < 3; omega, k0, fun a ha => ?_⟩
      have ea : a = 1 := (Option.some.inj (show some 1 = some a from ha)).symm
      subst ea
      exact ⟨9, fs, _, e1, e2, 0, rfl, b3⟩
    · obtain ⟨fs, e1, e2, e3⟩ := mfr_f2
      refine ⟨by show 1 < 3; omega, k0, fun a ha => ?_⟩
      have ea : a = 321 := (Option.some.inj (show some 321 = some a from ha)).symm
      subst ea
      exact ⟨12, fs, _, e1, e2, 0, rfl, b2⟩
    · obtain ⟨fs, e1, e2, e3⟩ := mfr_f2
      refine ⟨by show 1 < 3; omega, k0, fun a ha => ?_⟩
      have ea : a = 321 := (Option.some.inj (show some 321 = some a from ha)).symm
      subst ea
      exact ⟨12, fs, _, e1, e3, 0, rfl, b3⟩
  · intro t ht
    simp only [cx_nd, List.mem_cons, List.not_mem_nil, or_false] at ht
    have one : ∀ e : zL, y_in 4 e → ∀ e' ∈ [e], y_in 4 e' := fun e he e' he' => by
      simp only [List.mem_cons, List.not_mem_nil, or_false] at he'
      subst he'
      exact he
    rcases ht with rfl | rfl | rfl | rfl
    · refine ⟨one _ b2.1, ?_⟩
      show (y_ev (lw_s (X.length : Int)) (0, [(2, 1)]) = 0 ∨ y_ev (lw_s (X.length : Int)) (0, [(2, 1)]) = 1) ∧ j_ls (j_g mHf) (y_ev (lw_s (X.length : Int)) (0, [(2, 1)])) (130 * y_ev (lw_s (X.length : Int)) (0, [(2, 1)]) + 130) (420 * y_ev (lw_s (X.length : Int)) (0, [(2, 1)]) + 420)
      rw [b2.2]
      refine ⟨Or.inl rfl, fun k x k0 k4 x0 x1 => ?_⟩
      rw [j_zero mfr_a65] at x0
      rw [j_zero mfr_a66] at x1
      omega
    · exact ⟨one _ (y_in_k (-1)), j_ps0 mfr_a77⟩
    · exact ⟨one _ (y_in_k (-1)), j_ps0 mfr_a81⟩
    · exact ⟨one _ (y_in_k (-1)), j_ps0 mfr_a95⟩
theorem mlaw_run {X : List Int32} (hX : X.length ≤ 3072) : ∃ hf, mRun X 0 (mEntry [mE 0] 4) [] [] hf ∧ hf.length ≤ 600000 ∧ mhs hf ≤ 7302250 := by
  obtain ⟨r, hf, v, h1, h2, h3, h4, P, hP, τ, τr, -, -, -, -, h5⟩ := y_node (X := X) (J := mJS X) (fun _ _ _ => Iff.rfl) mTS_ok mTC_ok mRU_ok sn_law ck_law hX (show 26 ≤ 2048 by omega) (show 585 ≤ 84000 by omega) List.mem_cons_self rfl (mlaw_node hX) mHf_H
    (by
      intro t ht
      simp only [cx_nd, List.mem_cons, List.not_mem_nil, or_false] at ht
      subst ht
      show 1 < 4
      omega)
    (by
      simp only [cx_nd, y_ev, y_el, List.foldr_cons, List.foldr_nil, lw_s]
      simp
      try omega)
  simp only [cx_Ps, List.mem_cons, List.not_mem_nil, or_false] at hP
  subst hP
  have hv := h5.2.2.2.2.1
  have ev : v = some (mI 1) := by
    cases v with
    | none => cases hv
    | some x =>
      obtain ⟨⟨i, e1, -, e2⟩, -⟩ := hv
      rw [e1]
      have : i.toInt = 1 := by rw [← e2]; exact y_ev_k 1
      rw [show i = 1 from Int32.toInt_inj.mp (by rw [this]; rfl)]
  subst ev
  refine ⟨hf, mctor_all ⟨_, h2⟩, ?_, ?_⟩
  · rw [h3.1]
    exact mfr_8
  · rw [y_mhs (fun l hl => Nat.le_of_ble_eq_true (List.all_eq_true.mp mfr_6 l hl)) mHf_H h3 h4]
    exact mfr_9
