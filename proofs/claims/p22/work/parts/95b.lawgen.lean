noncomputable section
/-! ===== the law's loop in two worlds ===== -/
section ZW2
variable {CT : List zCtx} {P0 : zS} {Ps : List zS} {cl : List zKey} {fr lo frA loA K N fra loa : Nat} {cs hs : List (Nat × List Nat)} {ns : List zN} {rd : zCtx} {ndA : zN} {X : List Int32}
def x_okNB (LT : List zLab) (CT : List zCtx) (TS : zTS) (TC : zTC) (RU : zRU) (mid : Nat) (P0 : zS) (Ps : List zS) (cl : List zKey) (fr lo : Nat) (cs hs : List (Nat × List Nat)) (ns : List zN) (K N : Nat) (nd : zN) : Bool := match mME mid with
  | some (own, _, _, _, rt, _, cd) => x_go LT CT TS TC RU P0 Ps cl fr lo K own rt (mCDf mid) cs hs ns nd.2.2 N 0 nd.1 nd.2.1
  | none => false
/-- the node ahead of the class's read(): what it needs is told, it is called, the world is changed if it must be -/
def x_okW (CT : List zCtx) (P0 : zS) (Ps : List zS) (cl : List zKey) (fr lo : Nat) (cs hs : List (Nat × List Nat)) (ns : List zN) (K N : Nat) (rd : zCtx) (frA loA : Nat) (ndA : zN) : Bool := match mME 0 with
  | some (own, _, _, _, rt, _, cd) => (match x_mf mLT1 ndA.2.1 (x_id 1 1 rd.2.1.1.length rd.2.1.2.1.length) rd.2.1.2.2.2.2.2.1 with
    | some (S1, _) => (match cd.lookup ndA.1 with
      | some (i, len) => (match x_ret rt i S1 with
        | some _ => false
        | none => (match x_exec mLT [rd] mTS2 mTC2 rd.2.2.2.1 frA loA K own [(ndA.1, [0])] i len ndA.1 S1 with
          | some l2 => Nat.ble 1 ndA.2.1.2.1.length && l2.all fun q => (x_stg q.2 && x_go mLT1 CT mTS2 mTC2 mRUp P0 Ps cl fr lo K own rt (mCDf 0) cs hs ns ndA.2.2 N 1 q.1 q.2) || (x_stg (x_sw q.2) && x_go mLT1 CT mTS2 mTC2 mRUp P0 Ps cl fr lo K own rt (mCDf 0) cs hs ns ndA.2.2 N 1 q.1 (x_sw q.2))
          | none => false))
      | none => false)
    | none => false)
  | none => false
set_option maxRecDepth 100000 in
theorem l_sw_B1 (W : Bool) : (mGw W).all (fun l => Nat.blt l mLT1.length) = true := by cases W <;> decide +kernel
theorem y_law (hXl : X.length ≤ 3072) (hCT : ∀ (W : Bool), ∀ c ∈ CT, y_Snd (mGw W) mLT1 (J2 W X) X c) (hrd : ∀ W : Bool, y_Snd (mGw W) mLT (J2 W X) X rd) (d4 : 0 < P0.1.length) (hPs : ∀ P ∈ Ps, P0.1.length ≤ P.1.length ∧ P0.2.1.length ≤ P.2.1.length) (hlen : ∀ nd ∈ ns, P0.1.length ≤ nd.2.1.1.length ∧ P0.2.1.length ≤ nd.2.1.2.1.length)
    (hend : ∀ P ∈ Ps, ∀ (W : Bool) (σ : Nat → Int) (ρ : Nat → Option Nat) (v : Option mV) (h : mH), y_S (mGw W) (J2 W X) P σ ρ [] v.toList h → v = some (mI 1))
    (hns : ∀ nd ∈ ns, nd = ndA ∨ x_okNB mLT1 CT mTS2 mTC2 mRUp 0 P0 Ps cl fr lo cs hs ns K N nd = true) (hA : x_okW CT P0 Ps cl fr lo cs hs ns K N rd frA loA ndA = true) (hfr : fr ≤ fra) (hlo : lo ≤ loa) (hfrA : frA ≤ fra) (hloA : loA ≤ loa) :
    ∀ (M : Nat) (W : Bool), ∀ nd ∈ ns, ∀ (σ : Nat → Int) (ρ : Nat → Option Nat) (ls : mL) (st : List mV) (h : mH), σ 0 = (X.length : Int) → y_S (mGw W) (J2 W X) nd.2.1 σ ρ ls st h → y_H (mGw W) mLT1 h → y_in nd.2.1.1.length nd.2.2 → 0 ≤ y_ev σ nd.2.2 → y_ev σ nd.2.2 < (M : Int) →
      ∃ (r : Nat) (hf : mH) (v : Option mV), (r : Int) ≤ y_ev σ nd.2.2 ∧ mrunG (mXA X) (K + r) fra loa 0 nd.1 ls st h = some (hf, v) ∧ v = some (mI 1) ∧ hf.length = h.length ∧ mhs hf = mhs h := by
  have hl1 : ∀ W : Bool, ∀ l ∈ mGw W, l < mLT1.length := fun W l hl => Nat.blt_eq.mp (List.all_eq_true.mp (l_sw_B1 W) l hl)
  have hl0 : ∀ W : Bool, ∀ l ∈ mGw W, l < mLT.length := fun W l hl => Nat.blt_eq.mp (List.all_eq_true.mp (l_sw_B W) l hl)
  have done : ∀ (W : Bool) (σ0 : Nat → Int) (ρ0 : Nat → Option Nat) (hb : mH), y_H (mGw W) mLT1 hb → ∀ (hf : mH) (v : Option mV), y_Done (mGw W) mLT1 (J2 W X) P0 Ps cl σ0 ρ0 hb hf v → v = some (mI 1) ∧ hf.length = hb.length ∧ mhs hf = mhs hb := by
    intro W σ0 ρ0 hb hHb hf v hD
    obtain ⟨h1, h2, P, hP, τ, τr, -, -, -, -, h3⟩ := hD
    exact ⟨hend P hP W τ τr v hf h3, h2.1, y_mhs (hl1 W) hHb h1 h2⟩
  intro M
  induction M with
  | zero => intro W nd hnd σ ρ ls st h hX q hH hin h0 hM; omega
  | succ M ihM =>
    intro W nd hnd σ ρ ls st h hX q hH hin h0 hM
    have mk : ∀ (W' : Bool) (σ0 : Nat → Int) (ρ0 : Nat → Option Nat) (hb : mH), σ0 0 = (X.length : Int) → y_H (mGw W') mLT1 hb → ∀ nd ∈ ns, ∀ (σ1 : Nat → Int) (ρ1 : Nat → Option Nat) (ls1 : mL) (st1 : List mV) (h1 : mH), y_S (mGw W') (J2 W' X) nd.2.1 σ1 ρ1 ls1 st1 h1 → y_H (mGw W') mLT1 h1 → y_Fr (mGw W') cl hb h1 → y_X P0.1.length σ0 σ1 → y_Xr P0.2.1.length ρ0 ρ1 → y_in nd.2.1.1.length nd.2.2 → 0 ≤ y_ev σ1 nd.2.2 → y_ev σ1 nd.2.2 < (M : Int) →
        ∃ (r : Nat) (hf : mH) (v : Option mV), (r : Int) ≤ y_ev σ1 nd.2.2 ∧ mrunG (mXA X) (K + r) fra loa 0 nd.1 ls1 st1 h1 = some (hf, v) ∧ (v = some (mI 1) ∧ hf.length = hb.length ∧ mhs hf = mhs hb) := by
      intro W' σ0 ρ0 hb hX0 hHb nd hnd σ1 ρ1 ls1 st1 h1 q1 hH1 hF hx hxr hi h0 hlt
      obtain ⟨r, hf, v, a, b, c, d, e⟩ := ihM W' nd hnd σ1 ρ1 ls1 st1 h1 (by rw [hx 0 d4]; exact hX0) q1 hH1 hi h0 hlt
      exact ⟨r, hf, v, a, b, c, by rw [d, hF.1], by rw [e]; exact y_mhs (hl1 W') hHb hH1 hF⟩
    rcases hns nd hnd with rfl | hB
    · unfold x_okW at hA
      split at hA
      · next own stt na mx rt ini cd hme =>
        split at hA
        · next S1 θ1 hmf =>
          split at hA
          · next i len hcd =>
            split at hA
            · cases hA
            · next hret =>
              split at hA
              · next l2 hex =>
                rw [Bool.and_eq_true] at hA
                obtain ⟨hA0, hA⟩ := hA
                have hlA := hlen nd hnd
                obtain ⟨σ1, ρ1, q1, hM1, -, -, -⟩ := y_mf q hH (y_th_id (by omega) (Nat.le_of_ble_eq_true hA0)) hmf
                have hn1 : 0 < nd.2.1.1.length := Nat.lt_of_lt_of_le d4 hlA.1
                have hX1 : σ1 0 = (X.length : Int) := by rw [hM1.1 0 hn1]; exact hX
                obtain ⟨pc', ls', st', h', S2, σ2, ρ2, g1, g2, g3, g4, g5, g6⟩ := y_exec (LT := mLT) (Γ := mGw W) (J := J2 W X) J2_J mTS2_ok mTC2_ok (CT := [rd]) (fun c hc => by
                  simp only [List.mem_cons, List.not_mem_nil, or_false] at hc
                  subst hc
                  exact hrd W) q1 (y_H_wk hH) hX1 (Nat.lt_of_lt_of_le hn1 hM1.2.2.1) hXl hme hcd hret hfrA hloA hex
                have hMt := hM1.trans g3
                have hx2 := List.all_eq_true.mp hA _ g1
                have ew : y_ev σ2 nd.2.2 = y_ev σ nd.2.2 := y_ev_ext hin hMt.1
                have hX2 : σ2 0 = (X.length : Int) := by rw [hMt.1 0 hn1]; exact hX
                have hmh : mhs h' = mhs h := y_mhs (hl0 W) (y_H_wk hH) g4 g5
                rw [Bool.or_eq_true, Bool.and_eq_true, Bool.and_eq_true] at hx2
                rcases hx2 with ⟨x1, x2⟩ | ⟨x1, x2⟩
                · have hH2 := y_stg g2 x1 g4
                  obtain ⟨r, hf, v, r1, r2, r3, r4, r5⟩ := y_go J2_J mTS2_ok1 mTC2_ok1 mRUp_ok1 (hCT W) hXl d4 hPs hlen hme hfr hlo hX2 (done W σ2 ρ2 h' hH2) M (mk W σ2 ρ2 h' hX2 hH2) N 1 pc' S2 σ2 ρ2 ls' st' h' x2 g2 hH2 y_Fr.refl (fun _ _ => rfl) (fun _ _ => rfl) (Nat.le_trans hlA.1 hMt.2.2.1) (Nat.le_trans hlA.2 hMt.2.2.2) (y_in_le hin hMt.2.2.1) (by rw [ew]; omega)
                  exact ⟨r + 1, hf, v, by rw [ew] at r1; omega, g6 (K + r) (hf, v) (by omega) r2, r3, by rw [r4, g5.1], by rw [r5, hmh]⟩
                · have q3 := y_sw g2
                  have hH2 := y_stg q3 x1 (y_H_sw g4)
                  have hlr : (x_sw S2).2.1.length = S2.2.1.length := by unfold x_sw; dsimp only; rw [List.length_map]
                  obtain ⟨r, hf, v, r1, r2, r3, r4, r5⟩ := y_go J2_J mTS2_ok1 mTC2_ok1 mRUp_ok1 (hCT (!W)) hXl d4 hPs hlen hme hfr hlo hX2 (done (!W) σ2 ρ2 h' hH2) M (mk (!W) σ2 ρ2 h' hX2 hH2) N 1 pc' (x_sw S2) σ2 ρ2 ls' st' h' x2 q3 hH2 y_Fr.refl (fun _ _ => rfl) (fun _ _ => rfl) (Nat.le_trans hlA.1 hMt.2.2.1) (by rw [hlr]; exact Nat.le_trans hlA.2 hMt.2.2.2) (y_in_le hin hMt.2.2.1) (by rw [ew]; omega)
                  exact ⟨r + 1, hf, v, by rw [ew] at r1; omega, g6 (K + r) (hf, v) (by omega) r2, r3, by rw [r4, g5.1], by rw [r5, hmh]⟩
              · cases hA
          · cases hA
        · cases hA
      · cases hA
    · unfold x_okNB at hB
      split at hB
      · next own stt na mx rt ini cd hme =>
        have hlB := hlen nd hnd
        obtain ⟨r, hf, v, r1, r2, r3⟩ := y_go J2_J mTS2_ok1 mTC2_ok1 mRUp_ok1 (hCT W) hXl d4 hPs hlen hme hfr hlo hX (done W σ ρ h hH) M (mk W σ ρ h hX hH) N 0 nd.1 nd.2.1 σ ρ ls st h hB q hH y_Fr.refl (fun _ _ => rfl) (fun _ _ => rfl) hlB.1 hlB.2 hin (by omega)
        exact ⟨r, hf, v, by omega, r2, r3⟩
      · cases hB
end ZW2
end
