noncomputable section
/-! ===== two worlds: the labels of both texts changed about ===== -/
def l_sw (l : Nat) : Nat := match l with
  | 96 => 2
  | 2 => 96
  | 97 => 17
  | 17 => 97
  | 98 => 18
  | 18 => 98
  | 99 => 19
  | 19 => 99
  | 100 => 20
  | 20 => 100
  | 101 => 3
  | 3 => 101
  | 102 => 21
  | 21 => 102
  | 103 => 22
  | 22 => 103
  | 104 => 23
  | 23 => 104
  | 105 => 24
  | 24 => 105
  | l => l
def l_rf (ft : zFT) : zFT := match ft.1 with
  | 2 => (2, ((l_sw ft.2.1.toNat : Nat) : Int), ft.2.2)
  | _ => ft
def l_rl (lab : zLab) : zLab := (lab.1, lab.2.1, lab.2.2.1, lab.2.2.2.map l_rf)
set_option maxRecDepth 100000 in
theorem l_sw_G (W : Bool) : mGw (!W) = (mGw W).map l_sw := by cases W <;> decide +kernel
set_option maxRecDepth 100000 in
theorem l_sw_L : (List.range mLT.length).all (fun l => match mLT[l_sw l]?, mLT[l]? with | some a, some lab => decide (a = l_rl lab) && ((lab.2.2.2.all fun ft => Nat.ble ft.1 3) && (Nat.ble lab.1 2 || lab.2.2.2.all fun ft => Nat.beq ft.1 2)) | _, _ => false) = true := by decide +kernel
theorem y_FT_sw {Γ : List Nat} {ft : zFT} {x : mV} (h3 : ft.1 ≤ 3) (q : y_FT Γ ft x) : y_FT (Γ.map l_sw) (l_rf ft) x := by
  obtain ⟨k, a, b⟩ := ft
  dsimp only at h3
  have hk : k = 0 ∨ k = 1 ∨ k = 2 ∨ k = 3 := by omega
  rcases hk with rfl | rfl | rfl | rfl
  · exact q
  · exact q
  · obtain ⟨r, hx, hr⟩ := q
    refine ⟨r, hx, ?_⟩
    cases r with
    | none => exact hr
    | some a' =>
      show (Γ.map l_sw)[a']? = some (((l_sw a.toNat : Nat) : Int)).toNat
      rw [List.getElem?_map, hr]
      rfl
  · trivial
theorem l_rf_0 {ft : zFT} (h : ft.1 = 0) : l_rf ft = ft := by
  unfold l_rf
  split
  · next e => rw [h] at e; cases e
  · rfl
theorem y_C_sw {Γ : List Nat} {lab : zLab} {c : mC} (h3 : (lab.2.2.2.all fun ft => Nat.ble ft.1 3) = true) (h1 : (Nat.ble lab.1 2 || lab.2.2.2.all fun ft => Nat.beq ft.1 2) = true) (q : y_C Γ lab c) : y_C (Γ.map l_sw) (l_rl lab) c := by
  obtain ⟨k, t, n, fts⟩ := lab
  dsimp only at h3 h1
  unfold y_C at q
  unfold y_C l_rl
  dsimp only at q ⊢
  have hle : ∀ (j : Nat) (ft : zFT), fts[j]? = some ft → ft.1 ≤ 3 := fun j ft hj => Nat.le_of_ble_eq_true (List.all_eq_true.mp h3 ft (List.mem_of_getElem? hj))
  split at q
  · obtain ⟨fs, hc, hf⟩ := q
    refine ⟨fs, hc, fun j ft hj => ?_⟩
    rw [List.getElem?_map] at hj
    cases hj0 : fts[j]? with
    | none => rw [hj0] at hj; cases hj
    | some ft0 =>
      rw [hj0] at hj
      cases hj
      obtain ⟨x, hx, hq⟩ := hf j ft0 hj0
      exact ⟨x, hx, y_FT_sw (hle j ft0 hj0) hq⟩
  · obtain ⟨xs, hc, hn, hs, hf⟩ := q
    refine ⟨xs, hc, hn, hs, fun j i hi ft hj h0 => ?_⟩
    rw [List.length_map, List.getElem?_map] at hj
    cases hj0 : fts[j % fts.length]? with
    | none => rw [hj0] at hj; cases hj
    | some ft0 =>
      rw [hj0] at hj
      cases hj
      have e0 : ft0.1 = 0 := by
        obtain ⟨k0, a0, b0⟩ := ft0
        dsimp only
        unfold l_rf at h0
        dsimp only at h0
        split at h0
        · cases h0
        · exact h0
      rw [l_rf_0 e0]
      exact hf j i hi ft0 hj0 e0
  · exact q
  · next n0 n1 n2 =>
    obtain ⟨xs, hc, hn, hs, hf⟩ := q
    have hall : (fts.all fun ft => Nat.beq ft.1 2) = true := by
      rw [Bool.or_eq_true] at h1
      rcases h1 with c | c
      · have := Nat.le_of_ble_eq_true c
        have hk : k = 0 ∨ k = 1 ∨ k = 2 := by omega
        rcases hk with e | e | e
        · exact absurd e n0
        · exact absurd e n1
        · exact absurd e n2
      · exact c
    refine ⟨xs, hc, hn, hs, fun j r hr ft hft => ?_⟩
    rw [List.length_map, List.getElem?_map] at hft
    cases hj0 : fts[j % fts.length]? with
    | none => rw [hj0] at hft; cases hft
    | some ft0 =>
      rw [hj0] at hft
      cases hft
      have g := hf j r hr ft0 hj0
      have e2 : ft0.1 = 2 := Nat.eq_of_beq_eq_true (List.all_eq_true.mp hall ft0 (List.mem_of_getElem? hj0))
      obtain ⟨k0, a0, b0⟩ := ft0
      dsimp only at e2
      subst e2
      cases r with
      | none => exact g
      | some a' =>
        show (Γ.map l_sw)[a']? = some (((l_sw a0.toNat : Nat) : Int)).toNat
        rw [List.getElem?_map, g]
        rfl
set_option maxRecDepth 100000 in
theorem l_sw_B (W : Bool) : (mGw W).all (fun l => Nat.blt l mLT.length) = true := by cases W <;> decide +kernel
theorem y_H_sw {W : Bool} {h : mH} (q : y_H (mGw W) mLT h) : y_H (mGw (!W)) mLT h := by
  rw [l_sw_G]
  refine ⟨by rw [List.length_map]; exact q.1, fun a l lab c ha hl hc => ?_⟩
  rw [List.getElem?_map] at ha
  cases ha0 : (mGw W)[a]? with
  | none => rw [ha0] at ha; cases ha
  | some l0 =>
    rw [ha0] at ha
    cases ha
    have hlt : l0 < mLT.length := by
      rcases Nat.lt_or_ge l0 mLT.length with c1 | c1
      · exact c1
      · exfalso
        have := (List.getElem?_eq_some_iff.mp ha0).1
        have hall := List.all_eq_true.mp (l_sw_B W) l0 (List.mem_of_getElem? ha0)
        have := Nat.blt_eq.mp hall
        omega
    have h1 := List.all_eq_true.mp l_sw_L l0 (List.mem_range.mpr hlt)
    have e : mLT[l0]? = some mLT[l0] := List.getElem?_eq_getElem hlt
    rw [e, hl] at h1
    dsimp only at h1
    rw [Bool.and_eq_true, decide_eq_true_eq, Bool.and_eq_true] at h1
    obtain ⟨rfl, h2, h3⟩ := h1
    exact y_C_sw h2 h3 (q.2 a l0 _ c ha0 e hc)
/-! the heap between: Rules.text, HairRope.spareText as told -/
def l_st (a b : zLab) (k t : Nat) : Bool := Nat.beq a.1 0 && Nat.beq b.1 0 && Nat.beq a.2.1 b.2.1 && Nat.beq a.2.2.2.length b.2.2.2.length && (List.range b.2.2.2.length).all fun j => decide (a.2.2.2[j]? = b.2.2.2[j]?) || (Nat.beq j k && decide (b.2.2.2[j]? = some (2, (t : Int), 0)))
set_option maxRecDepth 100000 in
theorem l_st_all : (List.range mLT1.length).all (fun l => match mLT[l]?, mLT1[l]? with | some a, some b => (match l with | 0 => l_st a b 9 96 | 5 => l_st a b 3 2 | _ => decide (a = b)) | _, _ => false) = true := by decide +kernel
theorem y_C_st {Γ : List Nat} {a b : zLab} {c : mC} {k t : Nat} (h : l_st a b k t = true) (q : y_C Γ a c) (hf : ∀ (ci : Nat) (fs : List mV), c = .inl (ci, fs) → ∃ s, fs[k]? = some (mR (some s)) ∧ Γ[s]? = some t) : y_C Γ b c := by
  unfold l_st at h
  simp only [Bool.and_eq_true] at h
  obtain ⟨⟨⟨⟨h1, h2⟩, h3⟩, h4⟩, h5⟩ := h
  obtain ⟨a1, a2, a3, a4⟩ := a
  obtain ⟨b1, b2, b3, b4⟩ := b
  dsimp only at h1 h2 h3 h4 h5
  have e1 : a1 = 0 := Nat.eq_of_beq_eq_true h1
  have e2 : b1 = 0 := Nat.eq_of_beq_eq_true h2
  have e3 : a2 = b2 := Nat.eq_of_beq_eq_true h3
  have e4 : a4.length = b4.length := Nat.eq_of_beq_eq_true h4
  subst e1 e2 e3
  unfold y_C at q ⊢
  dsimp only at q ⊢
  obtain ⟨fs, hc, hq⟩ := q
  refine ⟨fs, hc, fun j ft hj => ?_⟩
  have hlt : j < b4.length := (List.getElem?_eq_some_iff.mp hj).1
  have h6 := List.all_eq_true.mp h5 j (List.mem_range.mpr hlt)
  rw [Bool.or_eq_true, Bool.and_eq_true, decide_eq_true_eq, decide_eq_true_eq] at h6
  rcases h6 with e | ⟨ek, e⟩
  · exact hq j ft (by rw [e]; exact hj)
  · have ejk : j = k := Nat.eq_of_beq_eq_true ek
    subst ejk
    rw [hj] at e
    cases e
    obtain ⟨s, g1, g2⟩ := hf _ fs hc
    exact ⟨_, g1, some s, rfl, g2⟩
set_option maxRecDepth 100000 in
theorem l_one (W : Bool) : j_un2 0 0 (mGw W) 0 = true ∧ j_un2 5 17 (mGw W) 0 = true := by cases W <;> decide +kernel
def x_fr (S : zS) (lr k lt : Nat) (f : zFa) : Bool := !f.2.1.1 && Nat.beq f.2.1.2.1 k && Nat.beq f.2.2.1 2 && decide (S.2.1[f.1]? = some (lr, false)) && decide (S.2.1[f.2.2.2.1]? = some (lt, false))
def x_stg (S : zS) : Bool := S.2.2.2.2.2.1.any (x_fr S 0 9 96) && S.2.2.2.2.2.1.any (x_fr S 5 3 2)
theorem y_fr {W : Bool} {J : Nat → List Int → mH → Prop} {S : zS} {σ : Nat → Int} {ρ : Nat → Option Nat} {ls : mL} {st : List mV} {h : mH} {lr k lt m : Nat} (hu : j_un2 lr m (mGw W) 0 = true) (q : y_S (mGw W) J S σ ρ ls st h) (hx : S.2.2.2.2.2.1.any (x_fr S lr k lt) = true) {a : Nat} {c : mC} (ha : (mGw W)[a]? = some lr) (hc : h[a]? = some c) : ∀ (ci : Nat) (fs : List mV), c = .inl (ci, fs) → ∃ s, fs[k]? = some (mR (some s)) ∧ (mGw W)[s]? = some lt := by
  obtain ⟨f, hf, hx⟩ := List.any_eq_true.mp hx
  unfold x_fr at hx
  simp only [Bool.and_eq_true, Bool.not_eq_true', decide_eq_true_eq] at hx
  obtain ⟨⟨⟨⟨x1, x2⟩, x3⟩, x4⟩, x5⟩ := hx
  have x2 := Nat.eq_of_beq_eq_true x2
  have x3 := Nat.eq_of_beq_eq_true x3
  obtain ⟨g1, g2, g3⟩ := q.2.2.2.2.2.1 f hf
  have hr := q.2.1 _ _ x4
  cases er : ρ f.1 with
  | none => rw [er] at hr; cases hr
  | some a' =>
    rw [er] at hr
    have e1 := j_un2_ok hu hr
    have e2 := j_un2_ok hu ha
    have ea : a' = a := by omega
    subst ea
    have g4 := g3 _ er
    rw [x1] at g4
    obtain ⟨ci', fs', x, k1, k2, k3⟩ := g4
    rw [hc] at k1
    cases k1
    intro ci fs e
    cases e
    unfold y_V at k3
    rw [x3] at k3
    obtain ⟨-, k5⟩ := k3
    have ht := q.2.1 _ _ x5
    cases et : ρ f.2.2.2.1 with
    | none => rw [et] at ht; cases ht
    | some s =>
      rw [et] at ht
      refine ⟨s, ?_, ht⟩
      rw [← x2, k2, k5, et]
theorem y_stg {W : Bool} {J : Nat → List Int → mH → Prop} {S : zS} {σ : Nat → Int} {ρ : Nat → Option Nat} {ls : mL} {st : List mV} {h : mH} (q : y_S (mGw W) J S σ ρ ls st h) (hx : x_stg S = true) (hH : y_H (mGw W) mLT h) : y_H (mGw W) mLT1 h := by
  unfold x_stg at hx
  rw [Bool.and_eq_true] at hx
  refine ⟨hH.1, fun a l lab c ha hl hc => ?_⟩
  have hlt : l < mLT1.length := (List.getElem?_eq_some_iff.mp hl).1
  have h1 := List.all_eq_true.mp l_st_all l (List.mem_range.mpr hlt)
  rw [hl] at h1
  cases e : mLT[l]? with
  | none => rw [e] at h1; cases h1
  | some lab0 =>
    rw [e] at h1
    dsimp only at h1
    have q0 := hH.2 a l lab0 c ha e hc
    split at h1
    · exact y_C_st h1 q0 (y_fr (l_one W).1 q hx.1 ha hc)
    · exact y_C_st h1 q0 (y_fr (l_one W).2 q hx.2 ha hc)
    · have := of_decide_eq_true h1
      subst this
      exact q0
/-! a state in the other world -/
def x_kl : List Nat := [97, 98, 18, 99, 100, 19, 20, 102, 103, 104, 21, 22, 23, 24]
def x_kw (t : zTg) : Bool := (j_dk t.1).all fun d => x_kl.all fun l => !(Nat.beq d.1 l)
def x_kt (t : zTg) : Option zTg := match Nat.beq t.1 74 with
  | true => some (75, t.2)
  | false => match Nat.beq t.1 93 with
    | true => some (94, t.2)
    | false => match Nat.beq t.1 213 with
      | true => some (214, t.2)
      | false => match Nat.beq t.1 271 with
        | true => some (272, t.2)
        | false => match x_kw t with
          | true => some t
          | false => none
def x_sw (S : zS) : zS := (S.1, S.2.1.map (fun p => (l_sw p.1, p.2)), S.2.2.1, S.2.2.2.1, S.2.2.2.2.1, S.2.2.2.2.2.1, S.2.2.2.2.2.2.filterMap x_kt)
theorem j_v_sw {W : Bool} {h : mH} {l : Nat} (hl : ∀ l' ∈ x_kl, l ≠ l') : j_v (!W) h l = j_v W h l := by
  funext i
  unfold j_v
  have e : j_ad (!W) l = j_ad W l := by
    unfold j_ad
    split <;> first | rfl | exact absurd rfl (hl _ (by decide))
  rw [e]
theorem j_v_tw {W : Bool} {h : mH} {a b : Nat} (e : j_ad (!W) a = j_ad W b) : j_v (!W) h a = j_v W h b := by
  funext i
  unfold j_v
  rw [e]
theorem j_v_98 {W : Bool} {h : mH} : j_v (!W) h 18 = j_v W h 98 := j_v_tw (by cases W <;> rfl)
theorem j_v_99 {W : Bool} {h : mH} : j_v (!W) h 19 = j_v W h 99 := j_v_tw (by cases W <;> rfl)
theorem j_v_100 {W : Bool} {h : mH} : j_v (!W) h 20 = j_v W h 100 := j_v_tw (by cases W <;> rfl)
theorem j_v_102 {W : Bool} {h : mH} : j_v (!W) h 21 = j_v W h 102 := j_v_tw (by cases W <;> rfl)
theorem j_v_103 {W : Bool} {h : mH} : j_v (!W) h 22 = j_v W h 103 := j_v_tw (by cases W <;> rfl)
theorem j_v_104 {W : Bool} {h : mH} : j_v (!W) h 23 = j_v W h 104 := j_v_tw (by cases W <;> rfl)
theorem j_v_27 {W : Bool} {h : mH} : j_v (!W) h 27 = j_v W h 27 := j_v_sw (by decide)
theorem j_v_28 {W : Bool} {h : mH} : j_v (!W) h 28 = j_v W h 28 := j_v_sw (by decide)
theorem j_fm_kl {m : Nat} {a : Int} {lb : Nat} (h : j_fm m a lb = true) : ∀ l' ∈ x_kl, lb ≠ l' := by
  unfold j_fm at h
  rw [Bool.and_eq_true, Bool.and_eq_true] at h
  have h1 := Nat.le_of_ble_eq_true h.1.1
  intro l' hl e
  subst e
  have h2 := List.all_eq_true.mp (show (x_kl.all fun l => Nat.blt l 106) = true by decide) _ hl
  have h3 := Nat.blt_eq.mp h2
  omega
theorem j_v_13 {W : Bool} {h : mH} : j_v (!W) h 13 = j_v W h 13 := j_v_sw (by decide)
theorem y_sw {W : Bool} {X : List Int32} {S : zS} {σ : Nat → Int} {ρ : Nat → Option Nat} {ls : mL} {st : List mV} {h : mH} (q : y_S (mGw W) (J2 W X) S σ ρ ls st h) : y_S (mGw (!W)) (J2 (!W) X) (x_sw S) σ ρ ls st h := by
  obtain ⟨q1, q2, q3, q4, q5, q6, q7⟩ := q
  refine ⟨q1, fun r p hp => ?_, q3, ?_, ?_, ?_, fun t ht => ?_⟩
  · unfold x_sw at hp
    dsimp only at hp
    rw [List.getElem?_map] at hp
    cases hp0 : S.2.1[r]? with
    | none => rw [hp0] at hp; cases hp
    | some p0 =>
      rw [hp0] at hp
      cases hp
      have := q2 r p0 hp0
      cases er : ρ r with
      | none => rw [er] at this; exact this
      | some a =>
        rw [er] at this
        dsimp only at this ⊢
        rw [l_sw_G, List.getElem?_map, this]
        rfl
  · unfold x_sw
    dsimp only
    rw [List.length_map]
    exact q4
  · unfold x_sw
    dsimp only
    rw [List.length_map]
    exact q5
  · unfold x_sw
    dsimp only
    rw [List.length_map]
    exact q6
  · unfold x_sw at ht
    dsimp only at ht
    obtain ⟨t0, t1, t2⟩ := List.mem_filterMap.mp ht
    obtain ⟨g1, g2, g3⟩ := q7 t0 t1
    unfold x_kt at t2
    split at t2
    · next hk =>
      cases t2
      have hk := Nat.eq_of_beq_eq_true hk
      refine ⟨g1, j_P_ge (show 20 ≤ 75 by decide) (j_P_tr (by decide) (by decide) (k := 75) (g := j_g h)), ?_⟩
      show j_N (j_v (!W) h) 75 (t0.2.map (y_ev σ))
      rw [hk] at g3
      cases hz : t0.2.map (y_ev σ) with
      | nil => trivial
      | cons a r =>
        cases r with
        | cons _ _ => trivial
        | nil =>
          rw [hz, j_N74] at g3
          rw [j_N75]
          unfold t_b at g3 ⊢
          rw [j_v_98, j_v_13]
          exact g3
    · split at t2
      · next hk =>
        cases t2
        have hk := Nat.eq_of_beq_eq_true hk
        refine ⟨g1, j_P_ge (show 20 ≤ 94 by decide) (j_P_tr (by decide) (by decide) (k := 94) (g := j_g h)), ?_⟩
        show j_N (j_v (!W) h) 94 (t0.2.map (y_ev σ))
        rw [hk] at g3
        cases hz : t0.2.map (y_ev σ) with
        | nil => trivial
        | cons a r =>
          cases r with
          | nil => trivial
          | cons a2 r =>
            cases r with
            | cons _ _ => trivial
            | nil =>
              rw [hz, j_N93] at g3
              rw [j_N94]
              unfold t_b at g3 ⊢
              rw [j_v_99, j_v_100, j_v_13]
              exact g3
      · split at t2
        · next hk =>
          cases t2
          have hk := Nat.eq_of_beq_eq_true hk
          refine ⟨g1, j_P_ge (show 20 ≤ 214 by decide) (j_P_tr (by decide) (by decide) (k := 214) (g := j_g h)), ?_⟩
          show j_N (j_v (!W) h) 214 (t0.2.map (y_ev σ))
          rw [hk] at g3
          cases hz : t0.2.map (y_ev σ) with
          | nil => trivial
          | cons a r =>
            cases r with
            | nil => trivial
            | cons a2 r =>
              cases r with
              | cons _ _ => trivial
              | nil =>
                rw [hz, j_N213] at g3
                rw [j_N214]
                unfold t_b at g3 ⊢
                rw [j_v_102, j_v_103, j_v_104, j_v_13]
                exact g3
        · split at t2
          · next hk =>
            cases t2
            have hk := Nat.eq_of_beq_eq_true hk
            refine ⟨g1, j_P_ge (show 20 ≤ 272 by decide) (j_P_tr (by decide) (by decide) (k := 272) (g := j_g h)), ?_⟩
            show j_N (j_v (!W) h) 272 (t0.2.map (y_ev σ))
            rw [hk] at g3
            cases hz : t0.2.map (y_ev σ) with
            | cons _ _ => trivial
            | nil =>
              rw [hz, j_N271] at g3
              rw [j_N272]
              rw [j_v_27, j_v_28, j_v_99]
              exact g3
          · next hk =>
            split at t2
            · next hkw =>
              cases t2
              refine ⟨g1, g2, j_N_dep (v := j_v W h) (fun d hd => ?_) g3⟩
              have h97 := List.all_eq_true.mp hkw d hd
              have hne : ∀ l ∈ x_kl, d.1 ≠ l := fun l hl e => by
                have h9 := List.all_eq_true.mp h97 l hl
                rw [e] at h9
                simp at h9
              unfold j_alk
              split
              · split
                · exact j_v_sw hne
                · intro i _ _
                  rw [j_v_sw hne]
              · intro lb hlb
                exact j_v_sw (j_fm_kl hlb)
            · cases t2
end
