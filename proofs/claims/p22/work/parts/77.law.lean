noncomputable section
/-! ===== the law: its first steps (both constructors) by the kernel, its loop as meeting places ===== -/
section ZSD
variable {Γ : List Nat} {LT : List zLab} {J : Nat → List Int → mH → Prop} {X : List Int32}
/-- meeting places of a method alone, checked: roads from each of them -/
def x_okN (LT : List zLab) (CT : List zCtx) (TS : zTS) (TC : zTC) (RU : zRU) (mid : Nat) (P0 : zS) (Ps : List zS) (cl : List zKey) (fr lo : Nat) (cs hs : List (Nat × List Nat)) (ns : List zN) (K N : Nat) : Bool := match mME mid with
  | some (own, _, _, _, rt, _, cd) => Nat.ble 1 P0.1.length && Ps.all (fun P => Nat.ble P0.1.length P.1.length && Nat.ble P0.2.1.length P.2.1.length) &&
    ns.all (fun nd => Nat.ble P0.1.length nd.2.1.1.length && Nat.ble P0.2.1.length nd.2.1.2.1.length && x_go LT CT TS TC RU P0 Ps cl fr lo K own rt (mCDf mid) cs hs ns nd.2.2 N 0 nd.1 nd.2.1)
  | none => false
/-- from a meeting place that is checked, the method comes to its end -/
theorem y_node (hJ : y_J X J) {TS : zTS} {TC : zTC} {RU : zRU} (hTS : y_TS Γ LT J TS) (hTC : y_TC Γ LT J TC) (hRU : y_RU Γ LT J RU) {CT : List zCtx} (hCT : ∀ c ∈ CT, y_Snd Γ LT J X c) {mid : Nat} {P0 : zS} {Ps : List zS} {cl : List zKey} {fr lo fra loa : Nat} {cs hs : List (Nat × List Nat)} {ns : List zN} {K N : Nat}
    (hx : x_okN LT CT TS TC RU mid P0 Ps cl fr lo cs hs ns K N = true) (hXl : X.length ≤ 3072) (hfr : fr ≤ fra) (hlo : lo ≤ loa) {nd : zN} (hnd : nd ∈ ns) {σ : Nat → Int} {ρ : Nat → Option Nat} {ls : mL} {st : List mV} {h : mH} (hX : σ 0 = (X.length : Int)) (q : y_S Γ J nd.2.1 σ ρ ls st h) (hH : y_H Γ LT h) (hin : y_in nd.2.1.1.length nd.2.2) (h0 : 0 ≤ y_ev σ nd.2.2) :
    ∃ (r : Nat) (hf : mH) (v : Option mV), (r : Int) ≤ y_ev σ nd.2.2 ∧ mrunG (mXA X) (K + r) fra loa mid nd.1 ls st h = some (hf, v) ∧ y_Done Γ LT J P0 Ps cl σ ρ h hf v := by
  unfold x_okN at hx
  split at hx
  · next own stt na mx rt ini cd hme =>
    simp only [Bool.and_eq_true] at hx
    obtain ⟨⟨c4, c8⟩, c9⟩ := hx
    have d4 : 1 ≤ P0.1.length := Nat.le_of_ble_eq_true c4
    have hPs : ∀ P ∈ Ps, P0.1.length ≤ P.1.length ∧ P0.2.1.length ≤ P.2.1.length := fun P hP => by
      have := List.all_eq_true.mp c8 P hP
      simp only [Bool.and_eq_true] at this
      exact ⟨Nat.le_of_ble_eq_true this.1, Nat.le_of_ble_eq_true this.2⟩
    have hns : ∀ nd ∈ ns, P0.1.length ≤ nd.2.1.1.length ∧ P0.2.1.length ≤ nd.2.1.2.1.length := fun nd hn => by
      have := List.all_eq_true.mp c9 nd hn
      simp only [Bool.and_eq_true] at this
      exact ⟨Nat.le_of_ble_eq_true this.1.1, Nat.le_of_ble_eq_true this.1.2⟩
    have nodes : ∀ (M : Nat), ∀ nd ∈ ns, ∀ (σ1 : Nat → Int) (ρ1 : Nat → Option Nat) (ls : mL) (st : List mV) (h1 : mH), y_S Γ J nd.2.1 σ1 ρ1 ls st h1 → y_H Γ LT h1 → y_Fr Γ cl h h1 → y_X P0.1.length σ σ1 → y_Xr P0.2.1.length ρ ρ1 → y_in nd.2.1.1.length nd.2.2 → 0 ≤ y_ev σ1 nd.2.2 → y_ev σ1 nd.2.2 < (M : Int) →
        ∃ (r : Nat) (hf : mH) (v : Option mV), (r : Int) ≤ y_ev σ1 nd.2.2 ∧ mrunG (mXA X) (K + r) fra loa mid nd.1 ls st h1 = some (hf, v) ∧ y_Done Γ LT J P0 Ps cl σ ρ h hf v := by
      intro M
      induction M with
      | zero => intro nd _ σ1 ρ1 ls st h1 _ _ _ _ _ _ g1 g2; omega
      | succ M ihM =>
        intro nd hnd σ1 ρ1 ls st h1 g1 g2 g3 g4 g5 g6 g7 g8
        have hg := List.all_eq_true.mp c9 nd hnd
        simp only [Bool.and_eq_true] at hg
        obtain ⟨r, hf, v, r1, r2, r3⟩ := y_go hJ hTS hTC hRU hCT hXl d4 hPs hns hme hfr hlo hX (fun _ _ z => z) M ihM N 0 nd.1 nd.2.1 σ1 ρ1 ls st h1 hg.2 g1 g2 g3 g4 g5 (hns nd hnd).1 (hns nd hnd).2 g6 (by omega)
        exact ⟨r, hf, v, by omega, r2, r3⟩
    exact nodes ((y_ev σ nd.2.2).toNat + 1) nd hnd σ ρ ls st h q hH y_Fr.refl (fun _ _ => rfl) (fun _ _ => rfl) hin h0 (by omega)
  · cases hx
end ZSD
section ZSE
variable {XA XB : Nat → Option (Nat × List Int32)}
def mIsLd (i : Jvm.ClassFile.Instr) : Bool := match i with
  | .iaload => true
  | .baload => true
  | .laload => true
  | .aaload => true
  | .arraylength => true
  | _ => false
theorem mGetA_not {i : Jvm.ClassFile.Instr} {st : List mV} {h : mH} (hi : mIsLd i = false) : mGetA XB i st h = none := by
  unfold mIsLd at hi
  unfold mGetA
  split at hi <;> first | (cases hi; done) | skip
  split <;> simp_all
/-- a read that goes, goes where more lies outside -/
theorem mGetA_mono (hXY : ∀ k v, XA k = some v → XB k = some v) {i : Jvm.ClassFile.Instr} {st st' : List mV} {h : mH} (q : mGetA XA i st h = some st') : mGetA XB i st h = some st' := by
  unfold mGetA at q ⊢
  split at q
  · split at q
    · exact q
    · split at q
      · next hk => rw [hXY _ _ hk]; exact q
      · cases q
    · cases q
  · split at q
    · exact q
    · split at q
      · next hk => rw [hXY _ _ hk]; exact q
      · cases q
    · cases q
  · exact q
  · exact q
  · split at q
    · exact q
    · split at q
      · next hk => rw [hXY _ _ hk]; exact q
      · cases q
    · cases q
  · cases q
theorem mStepG_mono (hXY : ∀ k v, XA k = some v → XB k = some v) {own : Nat} {ini : Bool} {i : Jvm.ClassFile.Instr} {len pc : Nat} {ls : mL} {st : List mV} {h : mH} {r : Nat × mL × List mV × mH} (q : mStepG XA own ini i len pc ls st h = some r) : mStepG XB own ini i len pc ls st h = some r := by
  unfold mStepG at q ⊢
  split at q
  · exact q
  · split at q
    · exact q
    · split at q
      · exact q
      · split at q
        · exact q
        · split at q
          · next hk => rw [mGetA_mono hXY hk]; exact q
          · next hk =>
            cases hl : mIsLd i with
            | false => rw [mGetA_not hl]; exact q
            | true =>
              unfold mIsLd at hl
              split at hl <;> first | (cases hl; done) | skip
              all_goals simp [mPutA, mNew, mLdc] at q
theorem mrunG_mono (hXY : ∀ k v, XA k = some v → XB k = some v) : ∀ {f fr lo mid pc : Nat} {ls : mL} {st : List mV} {h : mH} {r : mH × Option mV}, mrunG XA f fr lo mid pc ls st h = some r → mrunG XB f fr lo mid pc ls st h = some r := by
  intro f
  induction f with
  | zero => intro fr lo mid pc ls st h r q; simp [mrunG] at q
  | succ f ih =>
    intro fr lo mid pc ls st h r q
    unfold mrunG at q ⊢
    split at q
    · cases q
    · next own stt na mx rt ini cd hme =>
      split at q
      · cases q
      · next i len hcd =>
        split at q
        · exact q
        · split at q
          · next idx kd hi =>
            split at q
            · next q1 w hcp =>
              split at q
              · next hc =>
                rw [if_pos hc]
                split at q
                · exact ih q
                · cases q
              · cases q
            · next y kk hcp =>
              split at q
              · next own' s' na' mx' rt' ini' cd' hy =>
                split at q
                · next hc =>
                  rw [if_pos hc]
                  split at q
                  · next h1 v1 hcall =>
                    rw [ih hcall]
                    exact ih q
                  · cases q
                · cases q
              · cases q
            · cases q
          · split at q
            · next hst =>
              rw [mStepG_mono hXY hst]
              exact ih q
            · cases q
/-- the first n steps of method mid -/
def mpre (XA : Nat → Option (Nat × List Int32)) (f fr lo mid : Nat) : Nat → Nat → mL → List mV → mH → Option (Nat × mL × List mV × mH)
  | 0, pc, ls, st, h => some (pc, ls, st, h)
  | n + 1, pc, ls, st, h =>
    match mME mid with
    | none => none
    | some (own, _, _, _, rt, ini, cd) => match cd.lookup pc with
      | none => none
      | some (i, len) => match mRet rt i st with
        | some _ => none
        | none => match mInv i with
          | some (idx, kd) => (match mCP own idx with
            | some (7, q, w) => if len = 3 ∧ w = (kd : Int) ∧ 1 ≤ fr ∧ 64 ≤ lo ∧ ((st.map mcat).sum ≤ 16) then (match mJdk q st h with
              | some (st', h') => mpre XA f fr lo mid n (pc + 3) ls st' h'
              | none => none) else none
            | some (1, y, kk) => (match mME y with
              | some (own', _, na, mx, _, _, _) =>
                if len = 3 ∧ na ≤ st.length ∧ 1 ≤ fr ∧ mx + 19 ≤ lo ∧ ((st.drop na).map mcat).sum ≤ 8 ∧ mRecv kd kk.toNat own' (st.take na).reverse h = true ∧ (mEnt (st.take na).reverse).length ≤ mx then
                  (match mrunG XA f (fr - 1) (lo - (mx + 19)) y 0 (mEntry (st.take na).reverse mx) [] h with
                  | some (h', v) => mpre XA f fr lo mid n (pc + 3) ls (v.toList ++ st.drop na) h'
                  | none => none)
                else none
              | none => none)
            | _ => none)
          | none => match mStepG XA own ini i len pc ls st h with
            | some (pc', ls', st', h') => mpre XA f fr lo mid n pc' ls' st' h'
            | none => none
theorem mpre_run (hXY : ∀ k v, XA k = some v → XB k = some v) {f fr lo mid g : Nat} {r : mH × Option mV} {o : Nat × mL × List mV × mH} (hr : mrunG XB g fr lo mid o.1 o.2.1 o.2.2.1 o.2.2.2 = some r) : ∀ {n pc : Nat} {ls : mL} {st : List mV} {h : mH}, mpre XA f fr lo mid n pc ls st h = some o → mrunG XB (f + g + n) fr lo mid pc ls st h = some r := by
  intro n
  induction n with
  | zero =>
    intro pc ls st h q
    unfold mpre at q
    cases q
    exact mrunG_more hr _ (by omega)
  | succ n ih =>
    intro pc ls st h q
    unfold mpre at q
    show mrunG XB (f + g + n + 1) fr lo mid pc ls st h = some r
    unfold mrunG
    split at q
    · cases q
    · next own stt na mx rt ini cd hme =>
      rw [hme]
      dsimp only
      split at q
      · cases q
      · next i len hcd =>
        rw [hcd]
        dsimp only
        split at q
        · cases q
        · next hmr =>
          rw [hmr]
          dsimp only
          split at q
          · next idx kd hi =>
            rw [hi]
            dsimp only
            split at q
            · next q1 w hcp =>
              split at q
              · next hc =>
                split at q
                · next hj =>
                  split
                  · next hcp2 =>
                    rw [hcp] at hcp2
                    cases hcp2
                    rw [if_pos hc, hj]
                    exact ih q
                  · next hcp2 =>
                    rw [hcp] at hcp2
                    cases hcp2
                  · next hno _ => exact absurd hcp (hno _ _)
                · cases q
              · cases q
            · next y kk hcp =>
              split at q
              · next own' s' na' mx' rt' ini' cd' hy =>
                split at q
                · next hc =>
                  split at q
                  · next h1 v1 hcall =>
                    split
                    · next hcp2 =>
                      rw [hcp] at hcp2
                      cases hcp2
                    · next hcp2 =>
                      rw [hcp] at hcp2
                      cases hcp2
                      rw [hy]
                      dsimp only
                      rw [if_pos hc, mrunG_more (mrunG_mono hXY hcall) (f + g + n) (by omega)]
                      exact ih q
                    · next _ hno => exact absurd hcp (hno _ _)
                  · cases q
                · cases q
              · cases q
            · cases q
          · next hi =>
            rw [hi]
            dsimp only
            split at q
            · next hst =>
              rw [mStepG_mono hXY hst]
              exact ih q
            · cases q
end ZSE
end
