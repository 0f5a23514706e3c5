/-! ===== the whole run of the law ===== -/
set_option maxRecDepth 1000000 in
theorem mfr_1 : mIs (mpre mX0 9000 2048 84000 0 2 8 [some (mE 0), some (mR (some 0)), none, none] [] mHc) 12 [some (mE 0), some (mR (some 0)), none, none] [mR (some 321), mR (some 321)] mHd_0 = true := by decide +kernel
set_option maxRecDepth 1000000 in
theorem mfr_2 : mcall_ok 2048 84000 0 12 186 1 1 [mR (some 321), mR (some 321)] mHd_0 = true := by decide +kernel
set_option maxRecDepth 1000000 in
theorem mfr_3 : mIs (mpre mX0 9000 2048 84000 0 3 15 [some (mE 0), some (mR (some 0)), none, none] [mR (some 321)] mHf) 18 [some (mE 0), some (mR (some 0)), some (mR (some 321)), some (mI 0)] [] mHf = true := by decide +kernel
set_option maxRecDepth 1000000 in
theorem mfr_4 : y_Hs (mGw false) mLT1 (mGw false) mHf = true := by decide +kernel
set_option maxRecDepth 1000000 in
theorem mfr_5 : Nat.ble (mhs mHf) 7302250 = true := by decide +kernel
set_option maxRecDepth 1000000 in
theorem mfr_6 : (mGw false).all (fun l => Nat.blt l mLT1.length) = true := by decide +kernel
set_option maxRecDepth 1000000 in
theorem mfr_7 : (mGw false)[0]? = some 0 ∧ (mGw false)[321]? = some 12 ∧ (mGw false)[1]? = some 1 ∧ (mGw false)[16]? = some 4 ∧ (mGw false)[314]? = some 11 ∧ (mGw false)[17]? = some 5 ∧ (mGw false)[18]? = some 2 := by decide +kernel
set_option maxRecDepth 1000000 in
theorem mfr_8 : mHf.length ≤ 600000 := by decide +kernel
set_option maxRecDepth 1000000 in
theorem mfr_9 : mhs mHf ≤ 7302250 := by decide +kernel
theorem mHf_H : y_H (mGw false) mLT1 mHf := y_Hb mfr_4
def mRun (X : List Int32) (pc : Nat) (ls : mL) (st : List mV) (h hf : mH) : Prop := ∃ f, mrunG (mXA X) f 2048 84000 0 pc ls st h = some (hf, some (mI 1))
theorem mctor_all {X : List Int32} {hf : mH} (q : mRun X 18 [some (mE 0), some (mR (some 0)), some (mR (some 321)), some (mI 0)] [] mHf hf) : mRun X 0 (mEntry [mE 0] 4) [] [] hf := by
  obtain ⟨g, hg⟩ := q
  have a3 := mstage (XB := mXA X) mX0_mono (mIs_ok mfr_3) hg
  have b2 := mrunG_mono (XB := mXA X) mX0_mono (mEnd_ok mct_2)
  have b1 := mstage (XB := mXA X) mX0_mono (mIs_ok mct_1) b2
  have b0 := mstage (XB := mXA X) mX0_mono (mIs_ok mct_0) b1
  have a2 := mcall_run (XB := mXA X) (v := none) mfr_2 b0 a3
  have a1 := mstage (XB := mXA X) mX0_mono (mIs_ok mfr_1) a2
  have a0 := mstage (XB := mXA X) mX0_mono (mIs_ok mctor_1) a1
  exact ⟨_, a0⟩
set_option maxRecDepth 1000000 in
theorem mfr_a65 : mHf[65 + 274]? = some (.inr (0, .inl (List.replicate 8 0))) := rfl
set_option maxRecDepth 1000000 in
theorem mfr_a66 : mHf[66 + 274]? = some (.inr (0, .inl (List.replicate 8 0))) := rfl
set_option maxRecDepth 1000000 in
theorem mfr_a77 : mHf[77 + 274]? = some (.inr (0, .inl (List.replicate 33 0))) := rfl
set_option maxRecDepth 1000000 in
theorem mfr_a81 : mHf[81 + 274]? = some (.inr (0, .inl (List.replicate 1320 0))) := rfl
set_option maxRecDepth 1000000 in
theorem mfr_a95 : mHf[95 + 274]? = some (.inr (0, .inl (List.replicate 99 0))) := rfl
theorem j_zero {h : mH} {l n : Nat} (e : h[l + 274]? = some (.inr (0, .inl (List.replicate n 0)))) (i : Int) : j_g h l i = 0 := by
  rw [j_g_eq e, List.getD_eq_getElem?_getD, List.getElem?_replicate]
  split <;> rfl
theorem j_ps0 {h : mH} {l n : Nat} {m u : Int} (e : h[l + 274]? = some (.inr (0, .inl (List.replicate n 0)))) : j_px (j_g h) l m u := by
  intro r _ _ _
  unfold j_ps
  rw [j_zero e]
  exact j_ct_0
set_option maxRecDepth 1000000 in
theorem mfr_keys : ∃ xs : List Int64, mHf[328]? = some (.inr (1, .inr (.inl xs))) ∧ (List.range 22).all (fun (k : Nat) => decide ((xs.getD k 0).toInt = t_key k)) = true := ⟨_, rfl, by decide +kernel⟩
set_option maxRecDepth 1000000 in
theorem mfr_o0 : ∃ fs, mHf[0]? = some (.inl (11, fs)) ∧ fs[0]? = some (mR (some 1)) ∧ fs[10]? = some (mI (-1)) ∧ fs[1]? = some (mR (some 16)) ∧ fs[8]? = some (mR (some 314)) ∧ fs[2]? = some (mR (some 17)) := ⟨_, rfl, rfl, rfl, rfl, rfl, rfl⟩
set_option maxRecDepth 1000000 in
theorem mfr_o1 : ∃ fs, mHf[1]? = some (.inl (9, fs)) ∧ fs[5]? = some (mI 0) := ⟨_, rfl, rfl⟩
set_option maxRecDepth 1000000 in
theorem mfr_o321 : ∃ fs, mHf[321]? = some (.inl (12, fs)) ∧ fs[18]? = some (mI 0) ∧ fs[2]? = some (mI 0) ∧ fs[17]? = some (mI (-1)) ∧ fs[63]? = some (mI 0) := ⟨_, rfl, rfl, rfl, rfl, rfl⟩
set_option maxRecDepth 1000000 in
theorem mfr_o16 : ∃ fs, mHf[16]? = some (.inl (5, fs)) ∧ fs[0]? = some (mR (some 1)) := ⟨_, rfl, rfl⟩
set_option maxRecDepth 1000000 in
theorem mfr_o314 : ∃ fs, mHf[314]? = some (.inl (0, fs)) ∧ fs[8]? = some (mI 0) := ⟨_, rfl, rfl⟩
set_option maxRecDepth 1000000 in
theorem mfr_o17 : ∃ fs, mHf[17]? = some (.inl (7, fs)) ∧ fs[3]? = some (mR (some 18)) := ⟨_, rfl, rfl⟩
set_option maxRecDepth 1000000 in
theorem mfr_o18 : ∃ fs, mHf[18]? = some (.inl (10, fs)) ∧ fs[5]? = some (mI 0) := ⟨_, rfl, rfl⟩
set_option maxRecDepth 1000000 in
theorem mfr_r20 : mHf[20]? = some (.inr (0, .inl (List.replicate 36 5))) := rfl
set_option maxRecDepth 1000000 in
theorem mfr_r334 : mHf[334]? = some (.inr (0, .inl (List.replicate 72 5))) := rfl
set_option maxRecDepth 1000000 in
theorem mfr_r330 : mHf[330]? = some (.inr (0, .inl ([0, 0]))) := rfl
theorem mfr_t82 : j_N (j_v false mHf) 82 [0, 1, 1] := by
  rw [j_N82]
  refine fun _ => ⟨by decide, by decide, by decide, fun a b a0 a1 b0 b1 => ?_⟩
  have e1 : ∀ i : Int, 0 ≤ i → i < 36 → j_v false mHf 18 i = 5 := by
    intro i i0 i1
    unfold j_v
    rw [show mHf[j_ad false 18]? = _ from mfr_r20]
    dsimp only
    rw [List.getD_eq_getElem?_getD, List.getElem?_replicate, if_pos (by omega)]
    rfl
  have e2 : ∀ i : Int, 0 ≤ i → i < 72 → j_v false mHf 60 i = 5 := by
    intro i i0 i1
    unfold j_v
    rw [show mHf[j_ad false 60]? = _ from mfr_r334]
    dsimp only
    rw [List.getD_eq_getElem?_getD, List.getElem?_replicate, if_pos (by omega)]
    rfl
  show j_v false mHf 18 (6 * a + b) = j_v false mHf 60 (36 * 0 + (6 * a + b))
  rw [e1 _ (by omega) (by omega), e2 _ (by omega) (by omega)]
theorem mfr_t85 : j_N (j_v false mHf) 85 [0, 0, 1] := by
  rw [j_N85]
  refine ⟨by decide, by decide, ?_⟩
  unfold j_v
  rw [show mHf[j_ad false 56]? = _ from mfr_r330]
  rfl
def lw_s (n : Int) (b : Nat) : Int := match b with | 0 => n | 1 => 0 | 2 => 0 | 3 => 0 | 4 => (-1) | 5 => 0 | 6 => 0 | _ => 0
def lw_r (r : Nat) : Option Nat := match r with | 0 => some 0 | 1 => some 321 | 2 => some 1 | 3 => some 16 | 4 => some 314 | 5 => some 17 | 6 => some 18 | _ => none
theorem mlaw_node {X : List Int32} (hX : X.length ≤ 3072) : y_S (mGw false) (J2 false X) cx_n0.2.1 (lw_s (X.length : Int)) lw_r [some (mE 0), some (mR (some 0)), some (mR (some 321)), some (mI 0)] [] mHf := by
  obtain ⟨n0, n1, n2, n3, n4, n5, n6⟩ := mfr_7
  have s0 : lw_s (X.length : Int) 0 = (X.length : Int) := rfl
  have s1 : lw_s (X.length : Int) 1 = 0 := rfl
  have s2 : lw_s (X.length : Int) 2 = 0 := rfl
  have s3 : lw_s (X.length : Int) 3 = 0 := rfl
  have s4 : lw_s (X.length : Int) 4 = (-1) := rfl
  have s5 : lw_s (X.length : Int) 5 = 0 := rfl
  have s6 : lw_s (X.length : Int) 6 = 0 := rfl
  have b0 : y_E 7 (lw_s (X.length : Int)) (0, [(0, 1)]) (lw_s (X.length : Int) 0) := y_E.b (b := 0) (by omega)
  have b1 : y_E 7 (lw_s (X.length : Int)) (0, [(1, 1)]) (lw_s (X.length : Int) 1) := y_E.b (b := 1) (by omega)
  have b2 : y_E 7 (lw_s (X.length : Int)) (0, [(2, 1)]) (lw_s (X.length : Int) 2) := y_E.b (b := 2) (by omega)
  have b3 : y_E 7 (lw_s (X.length : Int)) (0, [(3, 1)]) (lw_s (X.length : Int) 3) := y_E.b (b := 3) (by omega)
  have b4 : y_E 7 (lw_s (X.length : Int)) (0, [(4, 1)]) (lw_s (X.length : Int) 4) := y_E.b (b := 4) (by omega)
  have b5 : y_E 7 (lw_s (X.length : Int)) (0, [(5, 1)]) (lw_s (X.length : Int) 5) := y_E.b (b := 5) (by omega)
  have b6 : y_E 7 (lw_s (X.length : Int)) (0, [(6, 1)]) (lw_s (X.length : Int) 6) := y_E.b (b := 6) (by omega)
  have k0 : y_in 7 (0, []) := y_in_k 0
  refine ⟨?_, ?_, ?_, ⟨rfl, ?_⟩, trivial, ?_, ?_⟩
  · intro b p hp
    match b, hp with
    | 0, hp => cases hp; rw [s0]; exact ⟨by show (0 : Int) ≤ _; omega, by show _ ≤ (3072 : Int); omega⟩
    | 1, hp => cases hp; rw [s1]; exact ⟨by show (0 : Int) ≤ _; omega, by show _ ≤ (3072 : Int); omega⟩
    | 2, hp => cases hp; rw [s2]; exact ⟨by show (0 : Int) ≤ _; omega, by show _ ≤ (2000 : Int); omega⟩
    | 3, hp => cases hp; rw [s3]; exact ⟨by show (0 : Int) ≤ _; omega, by show _ ≤ (1 : Int); omega⟩
    | 4, hp => cases hp; rw [s4]; exact ⟨by show ((-1) : Int) ≤ _; omega, by show _ ≤ (2000 : Int); omega⟩
    | 5, hp => cases hp; rw [s5]; exact ⟨by show (0 : Int) ≤ _; omega, by show _ ≤ (20 : Int); omega⟩
    | 6, hp => cases hp; rw [s6]; exact ⟨by show (0 : Int) ≤ _; omega, by show _ ≤ (6 : Int); omega⟩
    | b + 7, hp => simp [cx_n0] at hp
  · intro r p hp
    match r, hp with
    | 0, hp => cases hp; exact n0
    | 1, hp => cases hp; exact n1
    | 2, hp => cases hp; exact n2
    | 3, hp => cases hp; exact n3
    | 4, hp => cases hp; exact n4
    | 5, hp => cases hp; exact n5
    | 6, hp => cases hp; exact n6
    | r + 7, hp => simp [cx_n0] at hp
  · intro e he
    simp [cx_n0] at he
  · intro i v hv ht
    match i, hv with
    | 0, hv => cases hv; exact ⟨_, rfl, rfl⟩
    | 1, hv => cases hv; exact ⟨_, rfl, by show 0 < 7; omega, rfl⟩
    | 2, hv => cases hv; exact ⟨_, rfl, by show 1 < 7; omega, rfl⟩
    | 3, hv => cases hv; exact ⟨_, rfl, 0, rfl, b1⟩
    | i + 4, hv => simp [cx_n0] at hv
  · intro f hf
    simp only [cx_n0, List.mem_cons, List.not_mem_nil, or_false] at hf
    rcases hf with rfl | rfl | rfl | rfl | rfl | rfl | rfl | rfl | rfl | rfl | rfl | rfl | rfl | rfl
    · obtain ⟨fs, e, g0, g1, g2, g3, g4⟩ := mfr_o0
      refine ⟨by show 0 < 7; omega, k0, fun a ha => ?_⟩
      have ea : a = 0 := (Option.some.inj (show some 0 = some a from ha)).symm
      subst ea
      exact ⟨11, fs, _, e, g0, by show 2 < 7; omega, rfl⟩
    · obtain ⟨fs, e, g0⟩ := mfr_o1
      refine ⟨by show 2 < 7; omega, k0, fun a ha => ?_⟩
      have ea : a = 1 := (Option.some.inj (show some 1 = some a from ha)).symm
      subst ea
      exact ⟨9, fs, _, e, g0, 0, rfl, b2⟩
    · obtain ⟨fs, e, g0, g1, g2, g3⟩ := mfr_o321
      refine ⟨by show 1 < 7; omega, k0, fun a ha => ?_⟩
      have ea : a = 321 := (Option.some.inj (show some 321 = some a from ha)).symm
      subst ea
      exact ⟨12, fs, _, e, g0, 0, rfl, b3⟩
    · obtain ⟨fs, e, g0, g1, g2, g3⟩ := mfr_o321
      refine ⟨by show 1 < 7; omega, k0, fun a ha => ?_⟩
      have ea : a = 321 := (Option.some.inj (show some 321 = some a from ha)).symm
      subst ea
      exact ⟨12, fs, _, e, g1, 0, rfl, b2⟩
    · obtain ⟨fs, e, g0, g1, g2, g3, g4⟩ := mfr_o0
      refine ⟨by show 0 < 7; omega, k0, fun a ha => ?_⟩
      have ea : a = 0 := (Option.some.inj (show some 0 = some a from ha)).symm
      subst ea
      exact ⟨11, fs, _, e, g1, (-1), rfl, b4⟩
    · obtain ⟨fs, e, g0, g1, g2, g3⟩ := mfr_o321
      refine ⟨by show 1 < 7; omega, k0, fun a ha => ?_⟩
      have ea : a = 321 := (Option.some.inj (show some 321 = some a from ha)).symm
      subst ea
      exact ⟨12, fs, _, e, g2, (-1), rfl, b4⟩
    · obtain ⟨fs, e, g0, g1, g2, g3, g4⟩ := mfr_o0
      refine ⟨by show 0 < 7; omega, k0, fun a ha => ?_⟩
      have ea : a = 0 := (Option.some.inj (show some 0 = some a from ha)).symm
      subst ea
      exact ⟨11, fs, _, e, g2, by show 3 < 7; omega, rfl⟩
    · obtain ⟨fs, e, g0⟩ := mfr_o16
      refine ⟨by show 3 < 7; omega, k0, fun a ha => ?_⟩
      have ea : a = 16 := (Option.some.inj (show some 16 = some a from ha)).symm
      subst ea
      exact ⟨5, fs, _, e, g0, by show 2 < 7; omega, rfl⟩
    · obtain ⟨fs, e, g0, g1, g2, g3, g4⟩ := mfr_o0
      refine ⟨by show 0 < 7; omega, k0, fun a ha => ?_⟩
      have ea : a = 0 := (Option.some.inj (show some 0 = some a from ha)).symm
      subst ea
      exact ⟨11, fs, _, e, g3, by show 4 < 7; omega, rfl⟩
    · obtain ⟨fs, e, g0⟩ := mfr_o314
      refine ⟨by show 4 < 7; omega, k0, fun a ha => ?_⟩
      have ea : a = 314 := (Option.some.inj (show some 314 = some a from ha)).symm
      subst ea
      exact ⟨0, fs, _, e, g0, 0, rfl, b5⟩
    · obtain ⟨fs, e, g0, g1, g2, g3⟩ := mfr_o321
      refine ⟨by show 1 < 7; omega, k0, fun a ha => ?_⟩
      have ea : a = 321 := (Option.some.inj (show some 321 = some a from ha)).symm
      subst ea
      exact ⟨12, fs, _, e, g3, 0, rfl, b5⟩
    · obtain ⟨fs, e, g0, g1, g2, g3, g4⟩ := mfr_o0
      refine ⟨by show 0 < 7; omega, k0, fun a ha => ?_⟩
      have ea : a = 0 := (Option.some.inj (show some 0 = some a from ha)).symm
      subst ea
      exact ⟨11, fs, _, e, g4, by show 5 < 7; omega, rfl⟩
    · obtain ⟨fs, e, g0⟩ := mfr_o17
      refine ⟨by show 5 < 7; omega, k0, fun a ha => ?_⟩
      have ea : a = 17 := (Option.some.inj (show some 17 = some a from ha)).symm
      subst ea
      exact ⟨7, fs, _, e, g0, by show 6 < 7; omega, rfl⟩
    · obtain ⟨fs, e, g0⟩ := mfr_o18
      refine ⟨by show 6 < 7; omega, k0, fun a ha => ?_⟩
      have ea : a = 18 := (Option.some.inj (show some 18 = some a from ha)).symm
      subst ea
      exact ⟨10, fs, _, e, g0, 0, rfl, b6⟩
  · intro t ht
    simp only [cx_n0, List.mem_cons, List.not_mem_nil, or_false] at ht
    have one : ∀ e : zL, y_in 7 e → ∀ e' ∈ [e], y_in 7 e' := fun e he e' he' => by
      simp only [List.mem_cons, List.not_mem_nil, or_false] at he'
      subst he'
      exact he
    rcases ht with rfl | rfl | rfl | rfl | rfl | rfl | rfl | rfl
    · refine ⟨one _ b3.1, ?_, j_N_lt (by decide)⟩
      show (y_ev (lw_s (X.length : Int)) (0, [(3, 1)]) = 0 ∨ y_ev (lw_s (X.length : Int)) (0, [(3, 1)]) = 1) ∧ j_ls (j_g mHf) (y_ev (lw_s (X.length : Int)) (0, [(3, 1)])) (130 * y_ev (lw_s (X.length : Int)) (0, [(3, 1)]) + 130) (420 * y_ev (lw_s (X.length : Int)) (0, [(3, 1)]) + 420)
      rw [b3.2, s3]
      refine ⟨Or.inl rfl, fun k x k0 k4 x0 x1 => ?_⟩
      rw [j_zero mfr_a65] at x0
      rw [j_zero mfr_a66] at x1
      omega
    · exact ⟨one _ (y_in_k (-1)), j_ps0 mfr_a77, j_N_lt (by decide)⟩
    · exact ⟨one _ (y_in_k (-1)), j_ps0 mfr_a81, j_N_lt (by decide)⟩
    · exact ⟨one _ (y_in_k (-1)), j_ps0 mfr_a95, j_N_lt (by decide)⟩
    · refine ⟨one _ b2.1, j_P_tr (by decide) (by decide), ?_⟩
      show ∀ i : Int, 0 ≤ i → i < y_ev (lw_s (X.length : Int)) (0, [(2, 1)]) → _
      rw [b2.2, s2]
      intro i h0 h1
      omega
    · refine ⟨fun e he => absurd he List.not_mem_nil, j_P_tr (by decide) (by decide), fun k hk => ?_⟩
      obtain ⟨xs, e1, e2⟩ := mfr_keys
      have := of_decide_eq_true (List.all_eq_true.mp e2 k (List.mem_range.mpr hk))
      unfold j_v
      rw [show mHf[j_ad false 54]? = some (.inr (1, .inr (.inl xs))) from e1]
      exact this
    · refine ⟨fun e he => ?_, j_P_tr (by decide) (by decide), ?_⟩
      · simp only [List.mem_cons, List.not_mem_nil, or_false] at he
        rcases he with rfl | rfl | rfl <;> (intro t ht; first | exact absurd ht List.not_mem_nil | (simp only [List.mem_cons, List.not_mem_nil, or_false] at ht; subst ht; show _ < 7; omega))
      · show j_N (j_v false mHf) 82 [y_ev (lw_s (X.length : Int)) (0, [(3, 1)]), y_ev (lw_s (X.length : Int)) (1, [(3, (-1))]), y_ev (lw_s (X.length : Int)) (1, [])]
        have w0 : y_ev (lw_s (X.length : Int)) (0, [(3, 1)]) = 0 := by simp [y_ev, y_el, lw_s]
        have w1 : y_ev (lw_s (X.length : Int)) (1, [(3, (-1))]) = 1 := by simp [y_ev, y_el, lw_s]
        have w2 : y_ev (lw_s (X.length : Int)) (1, []) = 1 := by simp [y_ev, y_el, lw_s]
        rw [w0, w1, w2]
        exact mfr_t82
    · refine ⟨fun e he => ?_, j_P_tr (by decide) (by decide), ?_⟩
      · simp only [List.mem_cons, List.not_mem_nil, or_false] at he
        rcases he with rfl | rfl | rfl <;> (intro t ht; first | exact absurd ht List.not_mem_nil | (simp only [List.mem_cons, List.not_mem_nil, or_false] at ht; subst ht; show _ < 7; omega))
      · show j_N (j_v false mHf) 85 [y_ev (lw_s (X.length : Int)) (0, [(3, 1)]), y_ev (lw_s (X.length : Int)) (0, [(6, 1)]), y_ev (lw_s (X.length : Int)) (1, [(3, (-1))])]
        have w0 : y_ev (lw_s (X.length : Int)) (0, [(3, 1)]) = 0 := by simp [y_ev, y_el, lw_s]
        have w1 : y_ev (lw_s (X.length : Int)) (0, [(6, 1)]) = 0 := by simp [y_ev, y_el, lw_s]
        have w2 : y_ev (lw_s (X.length : Int)) (1, [(3, (-1))]) = 1 := by simp [y_ev, y_el, lw_s]
        rw [w0, w1, w2]
        exact mfr_t85
theorem mlaw_run {X : List Int32} (hX : X.length ≤ 3072) : ∃ hf, mRun X 0 (mEntry [mE 0] 4) [] [] hf ∧ hf.length ≤ 600000 ∧ mhs hf ≤ 7302250 := by
  have hns : ∀ nd ∈ cx_ns, cx_P0.1.length ≤ nd.2.1.1.length ∧ cx_P0.2.1.length ≤ nd.2.1.2.1.length := fun nd h => by
    have := List.all_eq_true.mp cl_law nd h
    rw [Bool.and_eq_true] at this
    exact ⟨Nat.le_of_ble_eq_true this.1, Nat.le_of_ble_eq_true this.2⟩
  obtain ⟨r, hf, v, h1, h2, h3, h4, h5⟩ := y_law (X := X) (fra := 2048) (loa := 84000) hX sn_law (fun W => sn_116) (by decide) (fun P hP => by
      simp only [cx_Ps, List.mem_cons, List.not_mem_nil, or_false] at hP
      subst hP
      exact ⟨by decide, by decide⟩) hns (fun P hP W σ ρ v h h5 => by
      simp only [cx_Ps, List.mem_cons, List.not_mem_nil, or_false] at hP
      subst hP
      have hv := h5.2.2.2.2.1
      cases v with
      | none => cases hv
      | some x =>
        obtain ⟨⟨i, e1, -, e2⟩, -⟩ := hv
        rw [e1]
        have : i.toInt = 1 := by rw [← e2]; exact y_ev_k 1
        rw [show i = 1 from Int32.toInt_inj.mp (by rw [this]; rfl)]) cn_law cA_law (by decide) (by decide) (by decide) (by decide) 75858941341 false cx_n0 List.mem_cons_self (lw_s (X.length : Int)) lw_r _ _ mHf rfl (mlaw_node hX) mHf_H (by
      intro t ht
      simp only [cx_n0, List.mem_cons, List.not_mem_nil, or_false] at ht
      subst ht
      show 1 < 7
      omega) (by
      show (0 : Int) ≤ 75858941340 + ((-24645530) * 0 + 0)
      omega) (by
      show (75858941340 : Int) + ((-24645530) * 0 + 0) < _
      omega)
  subst h3
  exact ⟨hf, mctor_all ⟨_, h2⟩, by rw [h4]; exact mfr_8, by rw [h5]; exact mfr_9⟩
