noncomputable section
/-! ===== the reader is right: all roads of a method ===== -/
section ZSC
variable {Γ : List Nat} {LT : List zLab} {J : Nat → List Int → mH → Prop} {σ σ' : Nat → Int} {ρ ρ' : Nat → Option Nat} {S S' : zS} {h h' : mH} {ls : mL} {st : List mV} {X : List Int32}
/-- the rules are right: what is known is known otherwise, too -/
def y_RU (Γ : List Nat) (LT : List zLab) (J : Nat → List Int → mH → Prop) (RU : zRU) : Prop := ∀ (k : Nat) (S : zS) (l : List zS) (σ : Nat → Int) (ρ : Nat → Option Nat) (ls : mL) (st : List mV) (h : mH), RU k S = some l → y_S Γ J S σ ρ ls st h → y_H Γ LT h → ∃ S1 ∈ l, y_N Γ J S σ ρ S1 ls st h
theorem y_N.trans {S1 S2 : zS} {σ1 : Nat → Int} {ρ1 : Nat → Option Nat} (hM : y_M S S1 σ σ1 ρ ρ1) (b : y_N Γ J S1 σ1 ρ1 S2 ls st h) : y_N Γ J S σ ρ S2 ls st h := by
  obtain ⟨σ2, ρ2, b1, b2⟩ := b
  exact ⟨σ2, ρ2, b1, hM.trans b2⟩
theorem y_rules {RU : zRU} (hRU : y_RU Γ LT J RU) (hH : y_H Γ LT h) : ∀ {ns : List Nat} {l l' : List zS}, x_rules RU ns l = some l' → (∃ S1 ∈ l, y_N Γ J S σ ρ S1 ls st h) → ∃ S1 ∈ l', y_N Γ J S σ ρ S1 ls st h
  | [], l, l', hx, hl => by
    unfold x_rules at hx
    cases hx
    exact hl
  | n :: t, l, l', hx, hl => by
    unfold x_rules at hx
    split at hx
    · next ll hll =>
      refine y_rules hRU hH hx ?_
      obtain ⟨S1, h1, σ1, ρ1, h2, h3⟩ := hl
      have key : ∀ {l : List zS} {ll : List (List zS)}, x_all (RU n) l = some ll → S1 ∈ l → ∃ m, m ∈ ll ∧ RU n S1 = some m := by
        intro l
        induction l with
        | nil => intro ll _ hm; simp at hm
        | cons a r ih =>
          intro ll hx hm
          unfold x_all at hx
          split at hx
          · next b bl e1 e2 =>
            cases hx
            rcases List.mem_cons.mp hm with rfl | hm
            · exact ⟨b, List.mem_cons_self, e1⟩
            · obtain ⟨m, g1, g2⟩ := ih e2 hm
              exact ⟨m, List.mem_cons_of_mem _ g1, g2⟩
          · cases hx
      obtain ⟨m, g1, g2⟩ := key hll h1
      obtain ⟨S2, k1, k2⟩ := hRU n S1 m σ1 ρ1 ls st h g2 h2 hH
      exact ⟨S2, List.mem_flatten.mpr ⟨m, g1, k1⟩, y_N.trans h3 k2⟩
    · cases hx
/-- what a method's end must be -/
def y_Done (Γ : List Nat) (LT : List zLab) (J : Nat → List Int → mH → Prop) (P0 : zS) (Ps : List zS) (cl : List zKey) (σ0 : Nat → Int) (ρ0 : Nat → Option Nat) (h0 hf : mH) (v : Option mV) : Prop := y_H Γ LT hf ∧ y_Fr Γ cl h0 hf ∧ ∃ P ∈ Ps, ∃ (τ : Nat → Int) (τr : Nat → Option Nat), y_X P0.1.length σ0 τ ∧ y_Xr P0.2.1.length ρ0 τr ∧ P0.1.length ≤ P.1.length ∧ P0.2.1.length ≤ P.2.1.length ∧ y_S Γ J P τ τr [] v.toList hf
theorem x_id_1 {n nr n2 nr2 b : Nat} (hb : b < n) : (x_id n nr n2 nr2).1[b]? = some (some (x_b b)) := by
  rw [x_id_eq]
  unfold x_idO
  dsimp only
  rw [List.getElem?_append_left (by simp [hb]), List.getElem?_map, List.getElem?_range hb]
  rfl
theorem x_id_2 {n nr n2 nr2 b : Nat} (hb : b < nr) : (x_id n nr n2 nr2).2[b]? = some (some b) := by
  rw [x_id_eq]
  unfold x_idO
  dsimp only
  rw [List.getElem?_append_left (by simp [hb]), List.getElem?_map, List.getElem?_range hb]
  rfl
theorem y_th_id {n nr n2 nr2 N Nr : Nat} (h1 : n ≤ N) (h2 : nr ≤ Nr) : y_th N Nr (x_id n nr n2 nr2) := by
  refine ⟨fun b f hf => ?_, fun r w hw => ?_⟩
  · by_cases c : b < n
    · rw [x_id_1 c] at hf
      cases hf
      exact y_in_b (by omega)
    · rw [x_id_eq] at hf
      unfold x_idO at hf
      dsimp only at hf
      rw [List.getElem?_append_right (by simp; omega), List.getElem?_replicate] at hf
      split at hf <;> simp at hf
  · by_cases c : r < nr
    · rw [x_id_2 c] at hw
      cases hw
      omega
    · rw [x_id_eq] at hw
      unfold x_idO at hw
      dsimp only at hw
      rw [List.getElem?_append_right (by simp; omega), List.getElem?_replicate] at hw
      split at hw <;> simp at hw
theorem y_id_ag {n nr n2 nr2 : Nat} {θ : zTh} {σ0 : Nat → Int} {ρ0 : Nat → Option Nat} (m : y_tm (x_id n nr n2 nr2) θ) (h1 : y_X n σ0 σ) (h2 : y_Xr nr ρ0 ρ) : y_X n σ0 (y_ti σ θ) ∧ y_Xr nr ρ0 (y_tr ρ θ) := by
  refine ⟨fun b hb => ?_, fun r hr => ?_⟩
  · unfold y_ti
    rw [m.2.2.1 _ _ (x_id_1 hb)]
    dsimp only
    rw [y_ev_b]
    exact h1 b hb
  · unfold y_tr
    rw [m.2.2.2 _ _ (x_id_2 hr)]
    exact h2 r hr
theorem y_reti {rt : Nat} {i : Jvm.ClassFile.Instr} {b : Bool} (q : y_S Γ J S σ ρ ls st h) (hx : x_ret rt i S = some b) (hb : b = true) : ∃ v : Option mV, mRet rt i st = some v ∧ st = v.toList := by
  have hT := q.2.2.2.2.1
  subst hb
  unfold x_ret at hx
  split at hx
  · next heq =>
    rw [heq] at hT
    rw [hT.nil]
    exact ⟨none, rfl, rfl⟩
  · next heq =>
    rw [heq] at hT
    obtain ⟨x, t, rfl, ⟨i, rfl, -⟩, hT1⟩ := hT.cons
    rw [hT1.nil]
    exact ⟨some (mI i), rfl, rfl⟩
  · next _ e heq =>
    rw [heq] at hT
    obtain ⟨x, t, rfl, ⟨i, rfl, he⟩, hT1⟩ := hT.cons
    rw [hT1.nil]
    simp only [Option.some.injEq, Bool.and_eq_true] at hx
    have a := q.has he hx.1
    have b := q.has (he.neg.inc 1) hx.2
    exact ⟨some (mI i), if_pos (i32_bool (by omega) (by omega)), rfl⟩
  · next _ e heq =>
    rw [heq] at hT
    obtain ⟨x, t, rfl, ⟨i, rfl, he⟩, hT1⟩ := hT.cons
    rw [hT1.nil]
    simp only [Option.some.injEq, Bool.and_eq_true] at hx
    have a := q.has (he.inc 128) hx.1
    have b := q.has (he.neg.inc 127) hx.2
    exact ⟨some (mI i), if_pos (i32_byte (by omega) (by omega)), rfl⟩
  · next _ e heq =>
    rw [heq] at hT
    obtain ⟨x, t, rfl, ⟨i, rfl, he⟩, hT1⟩ := hT.cons
    rw [hT1.nil]
    simp only [Option.some.injEq, Bool.and_eq_true] at hx
    have a := q.has he hx.1
    have b := q.has (he.neg.inc 65535) hx.2
    refine ⟨some (mI i), if_pos ?_, rfl⟩
    have e1 : (i.toUInt32 % 65536).toInt32 = i.toUInt32.toUInt16.toUInt32.toInt32 := by congr 1
    rw [e1]
    apply Int32.toInt_inj.mp
    rw [lg_i2c_toInt]
    exact Int.emod_eq_of_lt (by omega) (by omega)
  · next heq =>
    rw [heq] at hT
    obtain ⟨x, t, rfl, ⟨i, rfl, -⟩, hT1⟩ := hT.cons
    rw [hT1.nil]
    exact ⟨some (mJ i), rfl, rfl⟩
  · next r _ heq =>
    rw [heq] at hT
    obtain ⟨x, t, rfl, ⟨-, rfl⟩, hT1⟩ := hT.cons
    rw [hT1.nil]
    exact ⟨some (mR _), rfl, rfl⟩
  · next _ _ heq =>
    rw [heq] at hT
    obtain ⟨x, t, rfl, hv, hT1⟩ := hT.cons
    have e1 : x = mR none := hv
    subst e1
    rw [hT1.nil]
    exact ⟨some (mR none), rfl, rfl⟩
  all_goals cases hx
/-- all roads from a state -/
theorem y_go (hJ : y_J X J) {TS : zTS} {TC : zTC} {RU : zRU} (hTS : y_TS Γ LT J TS) (hTC : y_TC Γ LT J TC) (hRU : y_RU Γ LT J RU) {CT : List zCtx} (hCT : ∀ c ∈ CT, y_Snd Γ LT J X c) (hXl : X.length ≤ 3072) {P0 : zS} {Ps : List zS} {cl : List zKey} {fr lo K own na mx rt mid fra loa : Nat} {stt ini : Bool} {cd : List (Nat × Jvm.ClassFile.Instr × Nat)} {cs hs : List (Nat × List Nat)} {ns : List zN} {w : zL} (hP0 : 0 < P0.1.length) (hPs : ∀ P ∈ Ps, P0.1.length ≤ P.1.length ∧ P0.2.1.length ≤ P.2.1.length) (hns : ∀ nd ∈ ns, P0.1.length ≤ nd.2.1.1.length ∧ P0.2.1.length ≤ nd.2.1.2.1.length)
    (hme : mME mid = some (own, stt, na, mx, rt, ini, cd)) (hfr : fr ≤ fra) (hlo : lo ≤ loa) {σ0 : Nat → Int} {ρ0 : Nat → Option Nat} {h0 : mH} (hX : σ0 0 = (X.length : Int)) {Q : mH → Option mV → Prop} (hQ : ∀ (hf : mH) (v : Option mV), y_Done Γ LT J P0 Ps cl σ0 ρ0 h0 hf v → Q hf v) (N : Nat)
    (IH : ∀ nd ∈ ns, ∀ (σ : Nat → Int) (ρ : Nat → Option Nat) (ls : mL) (st : List mV) (h : mH), y_S Γ J nd.2.1 σ ρ ls st h → y_H Γ LT h → y_Fr Γ cl h0 h → y_X P0.1.length σ0 σ → y_Xr P0.2.1.length ρ0 ρ → y_in nd.2.1.1.length nd.2.2 → 0 ≤ y_ev σ nd.2.2 → y_ev σ nd.2.2 < (N : Int) →
      ∃ (r : Nat) (hf : mH) (v : Option mV), (r : Int) ≤ y_ev σ nd.2.2 ∧ mrunG (mXA X) (K + r) fra loa mid nd.1 ls st h = some (hf, v) ∧ Q hf v) :
    ∀ (n k pc : Nat) (S : zS) (σ : Nat → Int) (ρ : Nat → Option Nat) (ls : mL) (st : List mV) (h : mH), x_go LT CT TS TC RU P0 Ps cl fr lo K own rt (mCDf mid) cs hs ns w n k pc S = true → y_S Γ J S σ ρ ls st h → y_H Γ LT h → y_Fr Γ cl h0 h → y_X P0.1.length σ0 σ → y_Xr P0.2.1.length ρ0 ρ → P0.1.length ≤ S.1.length → P0.2.1.length ≤ S.2.1.length → y_in S.1.length w → y_ev σ w ≤ (N : Int) →
      ∃ (r : Nat) (hf : mH) (v : Option mV), (r : Int) + k ≤ y_ev σ w ∧ mrunG (mXA X) (K + r) fra loa mid pc ls st h = some (hf, v) ∧ Q hf v := by
  intro n
  induction n with
  | zero => intro k pc S σ ρ ls st h hx; cases hx
  | succ n ih =>
    intro k pc S σ ρ ls st h hx q hH hF hσ hρ hl hlr hw hN
    unfold x_go at hx
    simp only [x_fn_eq, mCDf_eq hme] at hx
    simp only [Bool.or_eq_true, Bool.and_eq_true, List.any_eq_true] at hx
    rcases hx with ⟨hk, nd, hnd, hpc, hx⟩ | hx
    · have hk0 : 1 ≤ k := Nat.le_of_ble_eq_true hk
      have ep : nd.1 = pc := Nat.eq_of_beq_eq_true hpc
      split at hx
      · next S1 θ hm =>
        obtain ⟨σ', ρ', q1, hM, m, th, qP, l1, l2⟩ := y_mat q hH (y_th_id hl hlr) hm
        split at hx
        · next f hf =>
          simp only [Bool.and_eq_true] at hx
          obtain ⟨e1, e2, e3⟩ := y_se (σ := σ') th hf
          have a := q1.has (y_E.of e1) hx.1
          have hw1 : y_E S1.1.length σ' w (y_ev σ w) := (y_E.of hw).ext hM.1 hM.2.2.1
          have b := q1.has ((hw1.sub (y_E.of e1)).inc (-(k : Int))) hx.2
          obtain ⟨ag1, ag2⟩ := y_id_ag m (hσ.trans hM.1 hl) (fun r hr => (hM.2.1 r (Nat.lt_of_lt_of_le hr hlr)).trans (hρ r hr))
          obtain ⟨r, hf', v, r1, r2, r3⟩ := IH nd hnd (y_ti σ' θ) (y_tr ρ' θ) ls st h qP hH hF ag1 ag2 (by rw [← l1]; exact e3) (by rw [← e2]; exact a) (by rw [← e2]; omega)
          rw [ep] at r2
          exact ⟨r, hf', v, by rw [← e2] at r1; omega, r2, r3⟩
        · cases hx
      · cases hx
    · split at hx
      · cases hx
      · next i len hcd =>
        split at hx
        · cases hx
        · next l hl' =>
          obtain ⟨S1, h1, σ1, ρ1, q1, hM1⟩ := y_rules hRU hH hl' ⟨S, List.mem_cons_self, .of q y_M.refl⟩
          have hx1 := List.all_eq_true.mp hx S1 h1
          try dsimp only at hx1
          rw [x_sk_ret] at hx1
          have hσ1 : y_X P0.1.length σ0 σ1 := hσ.trans hM1.1 hl
          have hρ1 : y_Xr P0.2.1.length ρ0 ρ1 := fun r hr => (hM1.2.1 r (Nat.lt_of_lt_of_le hr hlr)).trans (hρ r hr)
          have hw1 : y_E S1.1.length σ1 w (y_ev σ w) := (y_E.of hw).ext hM1.1 hM1.2.2.1
          split at hx1
          · next b hret =>
            simp only [Bool.and_eq_true, List.any_eq_true] at hx1
            obtain ⟨⟨⟨c1, c2⟩, c3⟩, P, hP, c4⟩ := hx1
            obtain ⟨v, g1, g2⟩ := y_reti q1 hret c1
            have el : len = 1 := Nat.eq_of_beq_eq_true c2
            have d := q1.has (hw1.inc (-((k : Int) + 1))) c3
            obtain ⟨⟨S2, θ⟩, hm⟩ := Option.isSome_iff_exists.mp c4
            have qe : y_S Γ J (x_lc S1 []) σ1 ρ1 [] st h := q1.loc ⟨rfl, fun i v hv => by simp at hv⟩
            obtain ⟨σ', ρ', q2, hM, m, th, qP, l1, l2⟩ := y_mat qe hH (y_th_id (Nat.le_trans hl hM1.2.2.1) (Nat.le_trans hlr hM1.2.2.2)) hm
            obtain ⟨ag1, ag2⟩ := y_id_ag m (hσ1.trans hM.1 (Nat.le_trans hl hM1.2.2.1)) (fun r hr => (hM.2.1 r (Nat.lt_of_lt_of_le hr (Nat.le_trans hlr hM1.2.2.2))).trans (hρ1 r hr))
            refine ⟨1, h, v, by omega, ?_, hQ _ _ ⟨hH, hF, P, hP, y_ti σ' θ, y_tr ρ' θ, ag1, ag2, (hPs P hP).1, (hPs P hP).2, by rw [← g2]; exact qP⟩⟩
            unfold mrunG
            rw [hme]
            dsimp only
            rw [hcd]
            dsimp only
            rw [g1]
            dsimp only
            rw [if_pos el]
          · next hret =>
            split at hx1
            · cases hx1
            · next l2 hex =>
              have hX1 : σ1 0 = (X.length : Int) := by rw [hσ1 0 hP0]; exact hX
              obtain ⟨pc', ls', st', h', S2, σ2, ρ2, g1, g2, g3, g4, g5, g6⟩ := y_exec hJ hTS hTC hCT q1 hH hX1 (Nat.lt_of_lt_of_le hP0 (Nat.le_trans hl hM1.2.2.1)) hXl hme hcd hret hfr hlo hex
              have hx2 := List.all_eq_true.mp hx1 _ g1
              have hM := hM1.trans g3
              have ew : y_ev σ2 w = y_ev σ w := y_ev_ext hw hM.1
              obtain ⟨r, hf, v, r1, r2, r3⟩ := ih (k + 1) pc' S2 σ2 ρ2 ls' st' h' hx2 g2 g4 (hF.trans g5) (hσ.trans hM.1 hl) (fun r hr => (hM.2.1 r (Nat.lt_of_lt_of_le hr hlr)).trans (hρ r hr)) (Nat.le_trans hl hM.2.2.1) (Nat.le_trans hlr hM.2.2.2) (y_in_le hw hM.2.2.1) (by rw [ew]; exact hN)
              refine ⟨r + 1, hf, v, by rw [ew] at r1; omega, ?_, r3⟩
              exact g6 (K + r) (hf, v) (by omega) r2
/-- the layout of a method's start -/
theorem y_lay {n nr : Nat} : ∀ {vs : List zV} {xs : List mV}, y_Vs n nr σ ρ vs xs → vs.all x_nt = true → (x_lay vs).length = (mEnt xs).length ∧ ∀ (i : Nat) (v : zV), (x_lay vs)[i]? = some v → x_nt v = true → ∃ y, (mEnt xs)[i]? = some (some y) ∧ y_V n nr σ ρ v y
  | [], [], _, _ => ⟨rfl, fun i v hv => by simp [x_lay] at hv⟩
  | v :: vs, x :: xs, hv, hn => by
    simp only [List.all_cons, Bool.and_eq_true] at hn
    obtain ⟨a, b⟩ := y_lay hv.2 hn.2
    have hc := y_cat hv.1 hn.1
    by_cases e : v.1 = 1
    · have hv1 := hv.1
      unfold y_V at hv1
      rw [e] at hv1
      obtain ⟨j, rfl, -⟩ := hv1
      have e2 : x_lay (v :: vs) = v :: zvT :: x_lay vs := by
        conv => lhs; unfold x_lay
        rw [e]
        rfl
      rw [e2]
      refine ⟨by simp [mEnt, a], fun i w hw ht => ?_⟩
      match i, hw with
      | 0, hw =>
        simp only [List.getElem?_cons_zero, Option.some.injEq] at hw
        subst hw
        exact ⟨mJ j, rfl, hv.1⟩
      | 1, hw =>
        simp at hw
        subst hw
        cases ht
      | i + 2, hw =>
        obtain ⟨y, g1, g2⟩ := b i w (by simpa using hw) ht
        exact ⟨y, by simpa [mEnt] using g1, g2⟩
    · have e2 : x_lay (v :: vs) = v :: x_lay vs := by
        conv => lhs; unfold x_lay
        split
        · next e3 => exact absurd e3 e
        · rfl
      have hx1 : mcat x = 1 := by
        rw [hc]
        unfold x_cat
        split
        · next e3 => exact absurd e3 e
        · rfl
      have e3 : mEnt (x :: xs) = some x :: mEnt xs := by
        rcases x with x | x | x
        · rfl
        · simp [mcat] at hx1
        · rfl
      rw [e2, e3]
      refine ⟨by simp [a], fun i w hw ht => ?_⟩
      cases i with
      | zero =>
        simp only [List.getElem?_cons_zero, Option.some.injEq] at hw
        subst hw
        exact ⟨x, rfl, hv.1⟩
      | succ i =>
        obtain ⟨y, g1, g2⟩ := b i w (by simpa using hw) ht
        exact ⟨y, by simpa using g1, g2⟩
/-- A READING THAT IS CHECKED IS TRUE -/
theorem y_ok (hJ : y_J X J) {TS : zTS} {TC : zTC} {RU : zRU} (hTS : y_TS Γ LT J TS) (hTC : y_TC Γ LT J TC) (hRU : y_RU Γ LT J RU) {CT : List zCtx} (hCT : ∀ c ∈ CT, y_Snd Γ LT J X c) {c : zCtx} {cs hs : List (Nat × List Nat)} {ns : List zN} {w0 : zL} {K N : Nat} (hx : x_ok LT CT TS TC RU c cs hs ns w0 K N = true) : y_Snd Γ LT J X c := by
  obtain ⟨mid, P0, Ps, cl, F, fr, lo⟩ := c
  intro σ0 ρ0 a h0 hXl hX hH q fra loa own na mx rt stt ini cd hme hfr hlo
  dsimp only at hme hfr hlo q ⊢
  unfold x_ok at hx
  dsimp only at hx
  rw [hme] at hx
  simp only [Bool.and_eq_true] at hx
  obtain ⟨⟨⟨⟨⟨⟨⟨⟨⟨c1, c2⟩, c3⟩, c4⟩, c5⟩, c6⟩, c7⟩, c8⟩, c9⟩, c10⟩ := hx
  have d2 : (x_lay P0.2.2.2.2.1).length ≤ mx := Nat.le_of_ble_eq_true c2
  have d4 : 1 ≤ P0.1.length := Nat.le_of_ble_eq_true c4
  have d5 : y_in P0.1.length w0 := fun t ht => Nat.le_of_ble_eq_true (List.all_eq_true.mp c5 t ht)
  have hw := y_E.of (σ := σ0) d5
  have e6 := q.has hw c6
  have e7 := q.has (hw.neg.inc ((F : Int) - (K : Int))) c7
  have hPs : ∀ P ∈ Ps, P0.1.length ≤ P.1.length ∧ P0.2.1.length ≤ P.2.1.length := fun P hP => by
    have := List.all_eq_true.mp c8 P hP
    simp only [Bool.and_eq_true] at this
    exact ⟨Nat.le_of_ble_eq_true this.1, Nat.le_of_ble_eq_true this.2⟩
  have hns : ∀ nd ∈ ns, P0.1.length ≤ nd.2.1.1.length ∧ P0.2.1.length ≤ nd.2.1.2.1.length := fun nd hn => by
    have := List.all_eq_true.mp c9 nd hn
    simp only [Bool.and_eq_true] at this
    exact ⟨Nat.le_of_ble_eq_true this.1.1, Nat.le_of_ble_eq_true this.1.2⟩
  have nodes : ∀ (M : Nat), ∀ nd ∈ ns, ∀ (σ : Nat → Int) (ρ : Nat → Option Nat) (ls : mL) (st : List mV) (h : mH), y_S Γ J nd.2.1 σ ρ ls st h → y_H Γ LT h → y_Fr Γ cl h0 h → y_X P0.1.length σ0 σ → y_Xr P0.2.1.length ρ0 ρ → y_in nd.2.1.1.length nd.2.2 → 0 ≤ y_ev σ nd.2.2 → y_ev σ nd.2.2 < (M : Int) →
      ∃ (r : Nat) (hf : mH) (v : Option mV), (r : Int) ≤ y_ev σ nd.2.2 ∧ mrunG (mXA X) (K + r) fra loa mid nd.1 ls st h = some (hf, v) ∧ y_Done Γ LT J P0 Ps cl σ0 ρ0 h0 hf v := by
    intro M
    induction M with
    | zero => intro nd _ σ ρ ls st h _ _ _ _ _ _ g1 g2; omega
    | succ M ihM =>
      intro nd hnd σ ρ ls st h g1 g2 g3 g4 g5 g6 g7 g8
      have hg := List.all_eq_true.mp c9 nd hnd
      simp only [Bool.and_eq_true] at hg
      obtain ⟨r, hf, v, r1, r2, r3⟩ := y_go hJ hTS hTC hRU hCT hXl d4 hPs hns hme hfr hlo hX (fun _ _ z => z) M ihM N 0 nd.1 nd.2.1 σ ρ ls st h hg.2 g1 g2 g3 g4 g5 (hns nd hnd).1 (hns nd hnd).2 g6 (by omega)
      exact ⟨r, hf, v, by omega, r2, r3⟩
  obtain ⟨l1, l2⟩ := y_lay q.2.2.2.2.1 c3
  have hL : y_Ls P0.1.length P0.2.1.length σ0 ρ0 (x_lay P0.2.2.2.2.1 ++ List.replicate (mx - (x_lay P0.2.2.2.2.1).length) zvT) (mEntry a mx) := by
    refine ⟨by unfold mEntry; simp [l1], fun i v hv ht => ?_⟩
    by_cases c : i < (x_lay P0.2.2.2.2.1).length
    · rw [List.getElem?_append_left c] at hv
      obtain ⟨y, g1, g2⟩ := l2 i v hv ht
      refine ⟨y, ?_, g2⟩
      unfold mEntry
      rw [List.getElem?_append_left (by rw [← l1]; exact c)]
      exact g1
    · rw [List.getElem?_append_right (by omega), List.getElem?_replicate] at hv
      split at hv
      · cases hv
        cases ht
      · cases hv
  have q0 := (q.loc hL).stk (T := []) (st' := []) trivial
  obtain ⟨M, hM⟩ : ∃ M : Nat, y_ev σ0 w0 ≤ (M : Int) := ⟨(y_ev σ0 w0).toNat, by omega⟩
  obtain ⟨r, hf, v, r1, r2, r3⟩ := y_go hJ hTS hTC hRU hCT hXl d4 hPs hns hme hfr hlo hX (fun _ _ z => z) M (nodes M) N 0 0 _ σ0 ρ0 _ [] h0 c10 q0 hH y_Fr.refl (fun _ _ => rfl) (fun _ _ => rfl) (Nat.le_refl _) (Nat.le_refl _) d5 hM
  obtain ⟨s1, s2, P, hP, τ, τr, s3, s4, s5, s6, s7⟩ := r3
  exact ⟨hf, v, mrunG_more r2 F (by omega), s1, s2, P, hP, τ, τr, s3, s4, s5, s6, s7⟩
end ZSC
end
