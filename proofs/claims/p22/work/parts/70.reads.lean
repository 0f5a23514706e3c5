/-! ===== the reader is right: reading arrays, constants, the JDK's calls ===== -/
theorem mst0_ok : mST0.all (fun x => decide (0 ≤ x.toInt) && decide (x.toInt ≤ 127)) = true ∧ mST0.length = 9 := by decide +kernel
theorem mst1_ok : mST1.all (fun x => decide (0 ≤ x.toInt) && decide (x.toInt ≤ 127)) = true ∧ mST1.length = 176 := by decide +kernel
section ZS8
variable {Γ : List Nat} {LT : List zLab} {J : Nat → List Int → mH → Prop} {σ : Nat → Int} {ρ : Nat → Option Nat} {S : zS} {h h' : mH} {ls : mL} {st : List mV} {X : List Int32}
theorem i32_ofNat {n : Nat} (h : n < 2147483648) : (Int32.ofNat n).toInt = (n : Int) := Int32.toInt_ofNat_of_lt h
theorem y_bst {xs : List Int32} (h : xs.all (fun x => decide (0 ≤ x.toInt) && decide (x.toInt ≤ 127)) = true) {k : Nat} (hk : k < xs.length) : zin (0, 127) (xs.getD k 0) := by
  have := List.all_eq_true.mp h xs[k] (List.getElem_mem hk)
  rw [List.getD_eq_getElem?_getD, List.getElem?_eq_getElem hk]
  simp only [Bool.and_eq_true, decide_eq_true_eq] at this
  exact this
theorem y_scr (q : y_S Γ J S σ ρ ls st h) {k : Nat} {e : zL} {v : zL} : ∀ {l : List zTg}, x_scr S k e l = some v → ∃ i, (k, [i, v]) ∈ l ∧ x_same S e i = true
  | [], hx => by cases hx
  | t :: r, hx => by
    unfold x_scr at hx
    split at hx
    · next i w h1 h2 =>
      have e1 : t = (k, [i, w]) := by
        obtain ⟨t1, t2⟩ := t
        dsimp only at h1 h2
        rw [Nat.eq_of_beq_eq_true h1, h2]
      split at hx
      · next h3 =>
        cases hx
        exact ⟨i, by rw [e1]; exact List.mem_cons_self, h3⟩
      · obtain ⟨i', g1, g2⟩ := y_scr q hx
        exact ⟨i', List.mem_cons_of_mem _ g1, g2⟩
    · obtain ⟨i', g1, g2⟩ := y_scr q hx
      exact ⟨i', List.mem_cons_of_mem _ g1, g2⟩
/-- a byte of a String constant -/
theorem y_str {k : Nat} {ws : List Int32} (hJ : ∀ (i v : Int) (h : mH), J k [i, v] h ↔ (ws.getD i.toNat 0).toInt = v) (q : y_S Γ J S σ ρ ls st h) (hws : ws.all (fun x => decide (0 ≤ x.toInt) && decide (x.toInt ≤ 127)) = true) {e : zL} {j : Int32} (he : y_E S.1.length σ e j.toInt) (hj : j.toNatClampNeg < ws.length) {t : List zV} {t' : List mV} (ht : y_Vs S.1.length S.2.1.length σ ρ t t') : y_N Γ J S σ ρ (x_str S ws k e t) ls (mI (ws.getD j.toNatClampNeg 0) :: t') h := by
  have ej : j.toInt.toNat = j.toNatClampNeg := rfl
  unfold x_str
  split
  · next he0 =>
    have e1 : e.1 = j.toInt := by
      have := he.2
      unfold y_ev at this
      rw [he0] at this
      simpa [y_el] using this
    refine .of (q.stk ⟨⟨_, rfl, ?_⟩, ht⟩) (.of rfl rfl)
    rw [e1, ej]
    exact y_E.k _
  · split
    · next v hv =>
      obtain ⟨i, g1, g2⟩ := y_scr q hv
      obtain ⟨t1, t2'⟩ := q.2.2.2.2.2.2 _ g1
      have t1i := t1 i (by simp)
      have t1v := t1 v (by simp)
      have t3 := (hJ _ _ _).mp t2'
      have ei : j.toInt = y_ev σ i := y_same q he (y_E.of t1i) g2
      refine .of (q.stk ⟨⟨_, rfl, t1v, ?_⟩, ht⟩) (.of rfl rfl)
      show y_ev σ v = _
      rw [← t3, ← ei, ej]
    · obtain ⟨σ', g1, g2, g3, g4⟩ := y_new q (p := (0, 127)) (z := (ws.getD j.toNatClampNeg 0).toInt) (y_bst hws hj)
      refine ⟨σ', ρ, ⟨g1.1, g1.2.1, g1.2.2.1, g1.2.2.2.1, ⟨⟨_, rfl, g3⟩, ht.ext g2.1 g2.2.1 g2.2.2.1 g2.2.2.2⟩, g1.2.2.2.2.2.1, fun tg ht => ?_⟩, g2⟩
      rcases List.mem_cons.mp ht with rfl | ht
      · have he' := he.ext g2.1 g2.2.2.1
        refine ⟨fun f hf => ?_, ?_⟩
        · rcases List.mem_cons.mp hf with rfl | hf
          · exact he'.1
          · rcases List.mem_cons.mp hf with rfl | hf
            · exact g3.1
            · cases hf
        · show J k [y_ev σ' e, y_ev σ' (x_new S (0, 127)).1] h
          rw [he'.2, g3.2]
          exact (hJ _ _ _).mpr (by rw [ej])
      · exact g1.2.2.2.2.2.2 tg ht
theorem y_geta (hJ : y_J X J) (q : y_S Γ J S σ ρ ls st h) (hH : y_H Γ LT h) (hX : σ 0 = (X.length : Int)) (hX0 : 0 < S.1.length) {i : Jvm.ClassFile.Instr} {S1 : zS} (hXl : X.length < 2147483648) (hx : x_geta LT i S = some S1) : ∃ st', mGetA (mXA X) i st h = some st' ∧ y_N Γ J S σ ρ S1 ls st' h := by
  have hT := q.2.2.2.2.1
  have elem : ∀ {r t n : Nat} {ts : List zFT} {e : zL} {j : Int32} {v : zV} {S2 : zS} {T : List zV} {st' : List mV}, x_lab LT S r = some (1, t, n, ts) → y_E S.1.length σ e j.toInt → x_rd LT S r (true, 0, e) = some (v, S2) → y_Vs S.1.length S.2.1.length σ ρ T st' →
      ∃ a xs, ρ r = some a ∧ h[a]? = some (.inr (t, .inl xs)) ∧ mix j xs.length = true ∧ y_N Γ J S σ ρ (x_st S2 (v :: T)) ls (mI (xs.getD j.toNatClampNeg 0) :: st') h := by
    intro r t n ts e j v S2 T st' hl he hrd hT'
    obtain ⟨σ', ρ', x, g1, g2, g3, g4⟩ := y_rd q hH (sl := (true, 0, e)) he.1 hrd
    obtain ⟨a, l, c, h1, h2, h3, h4, h5, h6⟩ := y_lab q hH hl
    obtain ⟨xs, rfl, h7, h7b, h8⟩ := h6
    obtain ⟨a', t', z, k1, k3, g4⟩ := g4
    rw [h1] at k1
    cases k1
    obtain ⟨xs', i', k2, k4, rfl⟩ | ⟨xs', i', k2, k4, rfl⟩ := g4
    case inr => rw [h5] at k2; cases k2
    rw [h5] at k2
    cases k2
    have ez : j.toInt = (z : Int) := by rw [← he.2, ← k3.2]
    have hz : z < xs.length := (List.getElem?_eq_some_iff.mp k4).1
    obtain ⟨d1, d2, d3⟩ := i32_clamp (j := j) (n := xs.length) (by omega) (by omega)
    have ek : j.toNatClampNeg = z := by omega
    refine ⟨a, xs, h1, h5, d3, σ', ρ', g1.stk ⟨?_, hT'.ext g2.1 g2.2.1 g2.2.2.1 g2.2.2.2⟩, g2⟩
    rw [ek, List.getD_eq_getElem?_getD, k4]
    exact g3
  unfold x_geta at hx
  split at hx
  · next _ e r _ t heq =>
    rw [heq] at hT
    obtain ⟨x1, t1, rfl, ⟨j, rfl, he⟩, hT1⟩ := hT.cons
    obtain ⟨x2, t2, rfl, ⟨hr0, rfl⟩, hT2⟩ := hT1.cons
    dsimp only at he hr0 ⊢
    split at hx
    · next n ts hl =>
      split at hx
      · next v S2 hrd =>
        cases hx
        obtain ⟨a, xs, k1, k2, k3, k4⟩ := elem hl he hrd hT2
        exact ⟨_, by simp only [mGetA, k1, k2, k3, if_true], k4⟩
      · cases hx
    · cases hx
  · next _ e _ t heq =>
    rw [heq] at hT
    obtain ⟨x1, t1, rfl, ⟨j, rfl, he⟩, hT1⟩ := hT.cons
    obtain ⟨x2, t2, rfl, hv, hT2⟩ := hT1.cons
    have e2 : x2 = mE 0 := hv
    subst e2
    dsimp only at he
    split at hx
    · next hc =>
      simp only [Bool.and_eq_true] at hc
      have a := q.has he hc.1
      have b := q.has (((y_E.b (σ := σ) hX0).sub he).inc (-1)) hc.2
      rw [hX] at b
      obtain ⟨d1, d2, d3⟩ := i32_clamp (j := j) (n := X.length) a (by omega)
      have ej : j.toInt.toNat = j.toNatClampNeg := by omega
      split at hx
      · next v hv =>
        cases hx
        obtain ⟨i, g1, g2⟩ := y_scr q hv
        obtain ⟨t1, t2'⟩ := q.2.2.2.2.2.2 _ g1
        have t1i := t1 i (by simp)
        have t1v := t1 v (by simp)
        have t3 := (hJ.1 _ _ _).mp t2'
        have ei : j.toInt = y_ev σ i := y_same q he (y_E.of t1i) g2
        refine ⟨mI (X.getD j.toNatClampNeg 0) :: t2, by simp only [mGetA, mXA, d3, if_true], .of (q.stk ⟨⟨_, rfl, t1v, ?_⟩, hT2⟩) (.of rfl rfl)⟩
        show y_ev σ v = _
        rw [← t3, ← ei, ej]
      · cases hx
        obtain ⟨σ', g1, g2, g3, g4⟩ := y_new q (p := zI) (z := (X.getD j.toNatClampNeg 0).toInt) (zin_top _)
        refine ⟨mI (X.getD j.toNatClampNeg 0) :: t2, by simp only [mGetA, mXA, d3, if_true], σ', ρ, ⟨g1.1, g1.2.1, g1.2.2.1, g1.2.2.2.1, ⟨⟨_, rfl, g3⟩, hT2.ext g2.1 g2.2.1 g2.2.2.1 g2.2.2.2⟩, g1.2.2.2.2.2.1, fun tg ht => ?_⟩, g2⟩
        rcases List.mem_cons.mp ht with rfl | ht
        · have he' := he.ext g2.1 g2.2.2.1
          refine ⟨fun f hf => ?_, ?_⟩
          · rcases List.mem_cons.mp hf with rfl | hf
            · exact he'.1
            · rcases List.mem_cons.mp hf with rfl | hf
              · exact g3.1
              · cases hf
          · show J 99 [y_ev σ' e, y_ev σ' (x_new S zI).1] h
            rw [he'.2, g3.2]
            exact (hJ.1 _ _ _).mpr (by rw [ej])
        · exact g1.2.2.2.2.2.2 tg ht
    · cases hx
  · next _ e r _ t heq =>
    rw [heq] at hT
    obtain ⟨x1, t1, rfl, ⟨j, rfl, he⟩, hT1⟩ := hT.cons
    obtain ⟨x2, t2, rfl, ⟨hr0, rfl⟩, hT2⟩ := hT1.cons
    dsimp only at he hr0 ⊢
    split at hx
    · next n ts hl =>
      split at hx
      · next v S2 hrd =>
        cases hx
        obtain ⟨a, xs, k1, k2, k3, k4⟩ := elem hl he hrd hT2
        exact ⟨_, by simp only [mGetA, k1, k2, k3, if_true], k4⟩
      · cases hx
    · next n ts hl =>
      split at hx
      · next v S2 hrd =>
        cases hx
        obtain ⟨a, xs, k1, k2, k3, k4⟩ := elem hl he hrd hT2
        exact ⟨_, by simp only [mGetA, k1, k2, k3, if_true], k4⟩
      · cases hx
    · cases hx
  · next _ e _ t heq =>
    rw [heq] at hT
    obtain ⟨x1, t1, rfl, ⟨j, rfl, he⟩, hT1⟩ := hT.cons
    obtain ⟨x2, t2, rfl, hv, hT2⟩ := hT1.cons
    have e2 : x2 = mE 2 := hv
    subst e2
    dsimp only at he
    split at hx
    · next hc =>
      cases hx
      have a := y_ins0 q he hc
      obtain ⟨d1, d2, d3⟩ := i32_clamp (j := j) (n := mST0.length) a.1 (by rw [mst0_ok.2]; exact a.2)
      exact ⟨mI (mST0.getD j.toNatClampNeg 0) :: t2, by simp only [mGetA, mXA, d3, if_true], y_str hJ.2.1 q mst0_ok.1 he d2 hT2⟩
    · cases hx
  · next _ e _ t heq =>
    rw [heq] at hT
    obtain ⟨x1, t1, rfl, ⟨j, rfl, he⟩, hT1⟩ := hT.cons
    obtain ⟨x2, t2, rfl, hv, hT2⟩ := hT1.cons
    have e2 : x2 = mE 4 := hv
    subst e2
    dsimp only at he
    split at hx
    · next hc =>
      cases hx
      have a := y_ins0 q he hc
      obtain ⟨d1, d2, d3⟩ := i32_clamp (j := j) (n := mST1.length) a.1 (by rw [mst1_ok.2]; exact a.2)
      exact ⟨mI (mST1.getD j.toNatClampNeg 0) :: t2, by simp only [mGetA, mXA, d3, if_true], y_str hJ.2.2.1 q mst1_ok.1 he d2 hT2⟩
    · cases hx
  · next _ e r _ t heq =>
    rw [heq] at hT
    obtain ⟨x1, t1, rfl, ⟨j, rfl, he⟩, hT1⟩ := hT.cons
    obtain ⟨x2, t2, rfl, ⟨hr0, rfl⟩, hT2⟩ := hT1.cons
    dsimp only at he hr0 ⊢
    split at hx
    · next _ n _ hl =>
      split at hx
      · next v S2 hrd =>
        cases hx
        obtain ⟨σ', ρ', x, g1, g2, g3, g4⟩ := y_rd q hH (sl := (true, 0, e)) he.1 hrd
        obtain ⟨a, l, c, h1, h2, h3, h4, h5, h6⟩ := y_lab q hH hl
        obtain ⟨xs, rfl, h7, h7b⟩ := h6
        dsimp only at h7
        obtain ⟨a', t', z, k1, k3, g4⟩ := g4
        rw [h1] at k1
        cases k1
        obtain ⟨xs', i', k2, k4, rfl⟩ | ⟨xs', i', k2, k4, rfl⟩ := g4
        · rw [h5] at k2
          cases k2
        · rw [h5] at k2
          cases k2
          have ez : j.toInt = (z : Int) := by rw [← he.2, ← k3.2]
          have hz : z < xs.length := (List.getElem?_eq_some_iff.mp k4).1
          obtain ⟨d1, d2, d3⟩ := i32_clamp (j := j) (n := xs.length) (by omega) (by omega)
          have ek : j.toNatClampNeg = z := by omega
          refine ⟨mJ (xs.getD j.toNatClampNeg 0) :: t2, by simp only [mGetA, h1, h5, d3, if_true], σ', ρ', g1.stk ⟨?_, hT2.ext g2.1 g2.2.1 g2.2.2.1 g2.2.2.2⟩, g2⟩
          rw [ek, List.getD_eq_getElem?_getD, k4]
          exact g3
      · cases hx
    · cases hx
  · next _ e r _ t heq =>
    rw [heq] at hT
    obtain ⟨x1, t1, rfl, ⟨j, rfl, he⟩, hT1⟩ := hT.cons
    obtain ⟨x2, t2, rfl, ⟨hr0, rfl⟩, hT2⟩ := hT1.cons
    dsimp only at he hr0 ⊢
    split at hx
    · next _ n ts hl =>
      split at hx
      · next lab nul hc het =>
        cases hx
        obtain ⟨a, l, c, h1, h2, h3, h4, h5, h6⟩ := y_lab q hH hl
        obtain ⟨xs, rfl, h7, h7b, h8⟩ := h6
        dsimp only at h7 h8
        have hb := y_ins0 q he hc
        obtain ⟨d1, d2, d3⟩ := i32_clamp (j := j) (n := xs.length) hb.1 (by omega)
        have hel : xs[j.toNatClampNeg]? = some (xs.getD j.toNatClampNeg none) := by
          rw [List.getD_eq_getElem?_getD, List.getElem?_eq_getElem d2]
          rfl
        have htl : 0 < ts.length := by
          cases ts with
          | nil => unfold x_ety at het; cases het
          | cons a b => simp
        have hmt : ts[j.toNatClampNeg % ts.length]? = some ((2, lab, nul) : zFT) := by
          have hlt := Nat.mod_lt j.toNatClampNeg htl
          have hm := y_ety q (z := j.toNatClampNeg) (by rw [show ((j.toNatClampNeg : Nat) : Int) = j.toInt by omega]; exact he) (List.getElem?_eq_getElem hlt)
          rw [het] at hm
          rw [List.getElem?_eq_getElem hlt, List.mem_singleton.mp hm]
        have h9 := h8 _ _ hel (2, lab, nul) hmt
        obtain ⟨ρ', g1, g2, g3, g4, -, -⟩ := y_newr q (p := (lab.toNat, !(zz nul))) (z := xs.getD j.toNatClampNeg none) (by
          cases hz : xs.getD j.toNatClampNeg none with
          | none =>
            rw [hz] at h9
            have : zz nul = false := by
              cases hq : zz nul with
              | false => rfl
              | true => exact absurd (zz_iff.mp hq) h9
            dsimp only
            rw [this]
            rfl
          | some b =>
            rw [hz] at h9
            exact h9)
        exact ⟨mR (xs.getD j.toNatClampNeg none) :: t2, by simp only [mGetA, h1, h5, d3, if_true], σ, ρ', g1.stk ⟨⟨g3, by rw [← g4]; rfl⟩, hT2.ext g2.1 g2.2.1 g2.2.2.1 g2.2.2.2⟩, g2⟩
      · cases hx
    · cases hx
  · next r _ t heq =>
    rw [heq] at hT
    obtain ⟨x2, t2, rfl, ⟨hr0, rfl⟩, hT2⟩ := hT.cons
    dsimp only at hr0 ⊢
    split at hx
    · next _ n _ hl =>
      cases hx
      obtain ⟨a, l, c, h1, h2, h3, h4, h5, h6⟩ := y_lab q hH hl
      obtain ⟨xs, rfl, h7, h7b, h8⟩ := h6
      dsimp only at h7
      exact ⟨mI (Int32.ofNat xs.length) :: t2, by simp only [mGetA, h1, h5], .of (q.stk ⟨⟨_, rfl, by rw [i32_ofNat h7b, h7]; exact y_E.k _⟩, hT2⟩) (.of rfl rfl)⟩
    · next _ n _ hl =>
      cases hx
      obtain ⟨a, l, c, h1, h2, h3, h4, h5, h6⟩ := y_lab q hH hl
      obtain ⟨xs, rfl, h7, h7b⟩ := h6
      dsimp only at h7
      exact ⟨mI (Int32.ofNat xs.length) :: t2, by simp only [mGetA, h1, h5], .of (q.stk ⟨⟨_, rfl, by rw [i32_ofNat h7b, h7]; exact y_E.k _⟩, hT2⟩) (.of rfl rfl)⟩
    · next _ n _ hl =>
      cases hx
      obtain ⟨a, l, c, h1, h2, h3, h4, h5, h6⟩ := y_lab q hH hl
      obtain ⟨xs, rfl, h7, h7b, h8⟩ := h6
      dsimp only at h7
      exact ⟨mI (Int32.ofNat xs.length) :: t2, by simp only [mGetA, h1, h5], .of (q.stk ⟨⟨_, rfl, by rw [i32_ofNat h7b, h7]; exact y_E.k _⟩, hT2⟩) (.of rfl rfl)⟩
    · cases hx
  · next _ t heq =>
    cases hx
    rw [heq] at hT
    obtain ⟨x2, t2, rfl, hv, hT2⟩ := hT.cons
    have e2 : x2 = mE 0 := hv
    subst e2
    exact ⟨mI (Int32.ofNat X.length) :: t2, by simp only [mGetA, mXA], .of (q.stk ⟨⟨_, rfl, by rw [i32_ofNat hXl, ← hX]; exact y_E.b hX0⟩, hT2⟩) (.of rfl rfl)⟩
  · next _ t heq =>
    cases hx
    rw [heq] at hT
    obtain ⟨x2, t2, rfl, hv, hT2⟩ := hT.cons
    have e2 : x2 = mE 2 := hv
    subst e2
    exact ⟨mI (Int32.ofNat mST0.length) :: t2, by simp only [mGetA, mXA], .of (q.stk ⟨⟨_, rfl, by rw [mst0_ok.2, i32_ofNat (by omega)]; exact y_E.k _⟩, hT2⟩) (.of rfl rfl)⟩
  · next _ t heq =>
    cases hx
    rw [heq] at hT
    obtain ⟨x2, t2, rfl, hv, hT2⟩ := hT.cons
    have e2 : x2 = mE 4 := hv
    subst e2
    exact ⟨mI (Int32.ofNat mST1.length) :: t2, by simp only [mGetA, mXA], .of (q.stk ⟨⟨_, rfl, by rw [mst1_ok.2, i32_ofNat (by omega)]; exact y_E.k _⟩, hT2⟩) (.of rfl rfl)⟩
  · cases hx
theorem y_ldc (q : y_S Γ J S σ ρ ls st h) {cp : Nat → Option mP} {i : Jvm.ClassFile.Instr} {n : Nat} {v : zV} (hx : x_ldc cp i = some (n, v)) : ∃ x, mLdc cp i = some (n, x) ∧ y_S Γ J (x_st S (v :: S.2.2.2.2.1)) σ ρ ls (x :: st) h := by
  have hT := q.2.2.2.2.1
  unfold x_ldc at hx
  unfold mLdc
  split at hx
  · next idx =>
    dsimp only
    split at hx
    · next w v' hcp =>
      split at hx
      · next hc =>
        cases hx
        simp only [Bool.and_eq_true] at hc
        have a := zge_iff.mp hc.1
        have b := zge_iff.mp hc.2
        rw [hcp]
        exact ⟨_, rfl, q.stk ⟨⟨_, rfl, by rw [i32_ofInt_small (by omega) (by omega)]; exact y_E.k _⟩, hT⟩⟩
      · cases hx
    · next k w hcp =>
      cases hx
      rw [hcp]
      exact ⟨_, rfl, q.stk ⟨rfl, hT⟩⟩
    · cases hx
  · next idx =>
    dsimp only
    split at hx
    · next w v' hcp =>
      split at hx
      · next hc =>
        cases hx
        simp only [Bool.and_eq_true] at hc
        have a := zge_iff.mp hc.1
        have b := zge_iff.mp hc.2
        rw [hcp]
        exact ⟨_, rfl, q.stk ⟨⟨_, rfl, by rw [i32_ofInt_small (by omega) (by omega)]; exact y_E.k _⟩, hT⟩⟩
      · cases hx
    · cases hx
  · next idx =>
    dsimp only
    split at hx
    · next w v' hcp =>
      split at hx
      · next hc =>
        cases hx
        simp only [Bool.and_eq_true] at hc
        have a := zge_iff.mp hc.1
        have b := zge_iff.mp hc.2
        rw [hcp]
        exact ⟨_, rfl, q.stk ⟨⟨_, rfl, by rw [Int64.toInt_ofInt_of_le (by omega) (by omega)]; exact y_E.k _⟩, hT⟩⟩
      · cases hx
    · cases hx
  · next idx =>
    dsimp only
    split at hx
    · next w hcp =>
      cases hx
      rw [hcp]
      exact ⟨_, rfl, q.stk ⟨⟨_, rfl, y_E.k 1⟩, hT⟩⟩
    · next w hcp =>
      cases hx
      rw [hcp]
      exact ⟨_, rfl, q.stk ⟨rfl, hT⟩⟩
    · cases hx
  · cases hx
end ZS8
