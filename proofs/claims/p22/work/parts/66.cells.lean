noncomputable section
/-! ===== the reader is right: what cells hold ===== -/
/-- a value of a type -/
def y_FT (Γ : List Nat) (ft : zFT) (x : mV) : Prop := match ft.1 with
  | 0 => ∃ i : Int32, x = mI i ∧ ft.2.1 ≤ i.toInt ∧ i.toInt ≤ ft.2.2
  | 1 => ∃ j : Int64, x = mJ j
  | 3 => True
  | _ => ∃ r : Option Nat, x = mR r ∧ match r with
    | none => ft.2.2 ≠ 0
    | some a => Γ[a]? = some ft.2.1.toNat
/-- a cell of a label -/
def y_C (Γ : List Nat) (lab : zLab) (c : mC) : Prop := match lab.1 with
  | 0 => ∃ fs : List mV, c = .inl (lab.2.1, fs) ∧ ∀ (k : Nat) (ft : zFT), lab.2.2.2[k]? = some ft → ∃ x, fs[k]? = some x ∧ y_FT Γ ft x
  | 1 => ∃ xs : List Int32, c = .inr (lab.2.1, .inl xs) ∧ xs.length = lab.2.2.1 ∧ xs.length < 2147483648 ∧ ∀ (j : Nat) (i : Int32), xs[j]? = some i → ∀ ft : zFT, lab.2.2.2[j % lab.2.2.2.length]? = some ft → ft.1 = 0 → ft.2.1 ≤ i.toInt ∧ i.toInt ≤ ft.2.2
  | 2 => ∃ xs : List Int64, c = .inr (1, .inr (.inl xs)) ∧ xs.length = lab.2.2.1 ∧ xs.length < 2147483648
  | _ => ∃ xs : List (Option Nat), c = .inr (4, .inr (.inr xs)) ∧ xs.length = lab.2.2.1 ∧ xs.length < 2147483648 ∧ ∀ (j : Nat) (r : Option Nat), xs[j]? = some r → ∀ ft : zFT, lab.2.2.2[j % lab.2.2.2.length]? = some ft → match r with
    | none => ft.2.2 ≠ 0
    | some a => Γ[a]? = some ft.2.1.toNat
/-- the heap is as the labels say -/
def y_H (Γ : List Nat) (LT : List zLab) (h : mH) : Prop := h.length = Γ.length ∧ ∀ (a l : Nat) (lab : zLab) (c : mC), Γ[a]? = some l → LT[l]? = some lab → h[a]? = some c → y_C Γ lab c
section ZS4
variable {Γ : List Nat} {LT : List zLab} {J : Nat → List Int → mH → Prop} {σ : Nat → Int} {ρ : Nat → Option Nat} {S : zS} {h : mH} {ls : mL} {st : List mV}
theorem y_lab (q : y_S Γ J S σ ρ ls st h) (hH : y_H Γ LT h) {r : Nat} {lab : zLab} (hl : x_lab LT S r = some lab) : ∃ a l c, ρ r = some a ∧ S.2.1[r]? = some (l, false) ∧ Γ[a]? = some l ∧ LT[l]? = some lab ∧ h[a]? = some c ∧ y_C Γ lab c := by
  unfold x_lab at hl
  try simp only [x_nth_eq, x_gt_eq, x_sst_eq, xl_any_eq, xl_all_eq, xl_fr_eq, xl_fl_eq] at hl
  split at hl
  · next l hr =>
    have := q.2.1 r _ hr
    cases hρ : ρ r with
    | none => rw [hρ] at this; cases this
    | some a =>
      rw [hρ] at this
      have hlt : a < h.length := by rw [hH.1]; exact (List.getElem?_eq_some_iff.mp this).1
      exact ⟨a, l, h[a], rfl, hr, this, hl, List.getElem?_eq_getElem hlt, hH.2 a l lab _ this hl (List.getElem?_eq_getElem hlt)⟩
  · cases hl
/-- any value of a type, as a new unknown -/
theorem y_any (q : y_S Γ J S σ ρ ls st h) {ft : zFT} {x : mV} (hx : y_FT Γ ft x) : ∃ σ' ρ', y_S Γ J (x_any S ft).2 σ' ρ' ls st h ∧ y_M S (x_any S ft).2 σ σ' ρ ρ' ∧ y_V (x_any S ft).2.1.length (x_any S ft).2.2.1.length σ' ρ' (x_any S ft).1 x ∧ (x_any S ft).2.2.2 = S.2.2 := by
  unfold y_FT at hx
  unfold x_any
  split at hx
  · next e =>
    rw [e]
    obtain ⟨i, rfl, h1, h2⟩ := hx
    obtain ⟨σ', g1, g2, g3, g4⟩ := y_new q (p := (ft.2.1, ft.2.2)) ⟨h1, h2⟩
    exact ⟨σ', ρ, g1, g2, ⟨i, rfl, g3⟩, congrArg (fun z => z.2) g4⟩
  · next e =>
    rw [e]
    obtain ⟨j, rfl⟩ := hx
    obtain ⟨σ', g1, g2, g3, g4⟩ := y_new q (p := zJ) (zj_top j)
    exact ⟨σ', ρ, g1, g2, ⟨j, rfl, g3⟩, congrArg (fun z => z.2) g4⟩
  · next e =>
    rw [e]
    exact ⟨σ, ρ, q, y_M.refl, trivial, rfl⟩
  · next e0 e1 e3 =>
    obtain ⟨r, rfl, hr⟩ := hx
    split
    · next e => exact absurd e e0
    · next e => exact absurd e e1
    · next e => exact absurd e e3
    · obtain ⟨ρ', g1, g2, g3, g4, g5, g6⟩ := y_newr q (p := (ft.2.1.toNat, !(zz ft.2.2))) (z := r) (by
        cases r with
        | none =>
          have : zz ft.2.2 = false := by
            cases hz : zz ft.2.2 with
            | false => rfl
            | true => exact absurd (zz_iff.mp hz) hr
          try dsimp only
          rw [this]
          rfl
        | some a => exact hr)
      exact ⟨σ, ρ', g1, g2, ⟨g3, by show mR r = mR (ρ' (x_newr S (ft.2.1.toNat, !(zz ft.2.2))).1); rw [g4]⟩, g6⟩
/-- the slot sl of r holds x -/
def y_Sl (n : Nat) (σ : Nat → Int) (ρ : Nat → Option Nat) (h : mH) (r : Nat) (sl : zSlot) (x : mV) : Prop := match sl.1 with
  | false => ∃ (a ci : Nat) (fs : List mV), ρ r = some a ∧ h[a]? = some (.inl (ci, fs)) ∧ fs[sl.2.1]? = some x
  | true => ∃ (a t : Nat) (z : Nat), ρ r = some a ∧ y_E n σ sl.2.2 (z : Int) ∧ ((∃ (xs : List Int32) (i : Int32), h[a]? = some (.inr (t, .inl xs)) ∧ xs[z]? = some i ∧ x = mI i) ∨ ∃ (xs : List Int64) (i : Int64), h[a]? = some (.inr (t, .inr (.inl xs))) ∧ xs[z]? = some i ∧ x = mJ i)
theorem y_same (q : y_S Γ J S σ ρ ls st h) {e f : zL} {x y : Int} (he : y_E S.1.length σ e x) (hf : y_E S.1.length σ f y) (hl : x_same S e f = true) : x = y := by
  unfold x_same at hl
  simp only [Bool.or_eq_true, Bool.and_eq_true] at hl
  rcases hl with hl | hl
  · rw [← he.2, ← hf.2]
    exact x_leq_ev hl
  · have a := q.has (he.sub hf) hl.2.1
    have b := q.has (hf.sub he) hl.2.2
    omega
theorem y_find (q : y_S Γ J S σ ρ ls st h) {r : Nat} {sl : zSlot} {v : zV} {x : mV} (hs : y_Sl S.1.length σ ρ h r sl x) : ∀ fs : List zFa, (∀ f ∈ fs, y_F S.1.length S.2.1.length σ ρ h f) → x_find S fs r sl = some v → y_V S.1.length S.2.1.length σ ρ v x := by
  intro fs
  induction fs with
  | nil => intro _ hx; cases hx
  | cons f t ih =>
    intro hf hx
    rw [x_find_cons] at hx
    split at hx
    · next hb =>
      cases hx
      simp only [Bool.and_eq_true] at hb
      have e1 : f.1 = r := Nat.eq_of_beq_eq_true hb.1
      obtain ⟨f1, f2, f3⟩ := hf f List.mem_cons_self
      have hb2 := hb.2
      have hb2 := x_seq_old hb2
      unfold x_seqO at hb2
      unfold y_Sl at hs
      split at hb2
      · next ea eb =>
        rw [eb] at hs
        obtain ⟨a, ci, gs, g1, g2, g3⟩ := hs
        have := f3 a (by rw [e1]; exact g1)
        rw [ea] at this
        obtain ⟨ci', gs', y, k1, k2, k3⟩ := this
        rw [g2] at k1
        cases k1
        rw [Nat.eq_of_beq_eq_true hb2, g3] at k2
        cases k2
        exact k3
      · next ea eb =>
        rw [eb] at hs
        obtain ⟨a, ty, z, g1, g3, hs⟩ := hs
        have := f3 a (by rw [e1]; exact g1)
        rw [ea] at this
        have ez : y_ev σ f.2.1.2.2 = (z : Int) := y_same q (y_E.of f2) g3 hb2
        rcases hs with ⟨xs, i, g2, g4, rfl⟩ | ⟨xs, i, g2, g4, rfl⟩
        · obtain ⟨i', k1, k2⟩ := this.2.1 ty xs g2
          rw [ez] at k1
          have : ((z : Int)).toNat = z := rfl
          rw [this, g4] at k1
          cases k1
          exact k2
        · obtain ⟨i', k1, k2⟩ := this.2.2 ty xs g2
          rw [ez] at k1
          have : ((z : Int)).toNat = z := rfl
          rw [this, g4] at k1
          cases k1
          exact k2
      · cases hb2
    · exact ih (fun f hf' => hf f (List.mem_cons_of_mem _ hf')) hx
/-- reading a slot -/
theorem y_get (q : y_S Γ J S σ ρ ls st h) {r : Nat} {sl : zSlot} {ft : zFT} {x : mV} (hr : r < S.2.1.length) (hin : y_in S.1.length sl.2.2) (hs : y_Sl S.1.length σ ρ h r sl x) (hx : y_FT Γ ft x) :
    ∃ σ' ρ', y_S Γ J (x_get S r sl ft).2 σ' ρ' ls st h ∧ y_M S (x_get S r sl ft).2 σ σ' ρ ρ' ∧ y_V (x_get S r sl ft).2.1.length (x_get S r sl ft).2.2.1.length σ' ρ' (x_get S r sl ft).1 x := by
  unfold x_get
  split
  · next v hv => exact ⟨σ, ρ, q, y_M.refl, y_find q hs _ q.2.2.2.2.2.1 hv⟩
  · obtain ⟨σ', ρ', g1, g2, g3, g4⟩ := y_any q hx
    generalize hA : x_any S ft = A at g1 g2 g3 g4 ⊢
    obtain ⟨v, S1⟩ := A
    try dsimp only at g1 g2 g3 g4 ⊢
    refine ⟨σ', ρ', ⟨g1.1, g1.2.1, g1.2.2.1, g1.2.2.2.1, g1.2.2.2.2.1, fun f hf => ?_, g1.2.2.2.2.2.2⟩, g2, g3⟩
    rcases List.mem_cons.mp hf with rfl | hf
    · refine ⟨Nat.lt_of_lt_of_le hr g2.2.2.2, y_in_le hin g2.2.2.1, fun a ha => ?_⟩
      try dsimp only at ha ⊢
      rw [g2.2.1 r hr] at ha
      unfold y_Sl at hs
      cases hb : sl.1 with
      | false =>
        rw [hb] at hs
        obtain ⟨a', ci, fs, k1, k2, k3⟩ := hs
        rw [ha] at k1
        cases k1
        exact ⟨ci, fs, x, k2, k3, g3⟩
      | true =>
        rw [hb] at hs
        obtain ⟨a', t, z, k1, k3, hs⟩ := hs
        rw [ha] at k1
        cases k1
        have ez : y_ev σ' sl.2.2 = (z : Int) := by rw [y_ev_ext hin g2.1]; exact k3.2
        try dsimp only
        rw [ez]
        refine ⟨by omega, fun t' xs' hc => ?_, fun t' xs' hc => ?_⟩
        · rcases hs with ⟨xs, i, k2, k4, rfl⟩ | ⟨xs, i, k2, k4, rfl⟩
          · rw [k2] at hc
            cases hc
            exact ⟨i, k4, g3⟩
          · rw [k2] at hc
            cases hc
        · rcases hs with ⟨xs, i, k2, k4, rfl⟩ | ⟨xs, i, k2, k4, rfl⟩
          · rw [k2] at hc
            cases hc
          · rw [k2] at hc
            cases hc
            exact ⟨i, k4, g3⟩
    · exact g1.2.2.2.2.2.1 f hf
theorem y_ins0 (q : y_S Γ J S σ ρ ls st h) {e : zL} {n : Nat} {x : Int} (he : y_E S.1.length σ e x) (hx : x_ins0 S e n = true) : 0 ≤ x ∧ x < n := by
  unfold x_ins0 at hx
  simp only [Bool.and_eq_true] at hx
  have a := q.has he hx.1
  have b := q.has (he.neg.inc ((n : Int) - 1)) hx.2
  omega
theorem x_join_ok : ∀ {ts : List zFT} {p : Int × Int}, x_join ts = some p → ∀ t ∈ ts, t.1 = 0 ∧ p.1 ≤ t.2.1 ∧ t.2.2 ≤ p.2
  | [], p, hx => by cases hx
  | [t], p, hx => by
    unfold x_join at hx
    split at hx
    · next e =>
      cases hx
      intro t' ht
      rw [List.mem_singleton.mp ht]
      exact ⟨e, Int.le_refl _, Int.le_refl _⟩
    · cases hx
  | t :: t2 :: r, p, hx => by
    unfold x_join at hx
    split at hx
    · next p' e hj =>
      cases hx
      have ih := x_join_ok hj
      have m1 : (match zge (p'.1 - t.2.1) with | true => t.2.1 | false => p'.1) ≤ t.2.1 ∧ (match zge (p'.1 - t.2.1) with | true => t.2.1 | false => p'.1) ≤ p'.1 := by
        cases hz : zge (p'.1 - t.2.1) with
        | true => have := zge_iff.mp hz; dsimp only; omega
        | false => have : ¬ 0 ≤ p'.1 - t.2.1 := fun z => by rw [zge_iff.mpr z] at hz; cases hz
                   try dsimp only; omega
      have m2 : t.2.2 ≤ (match zge (t.2.2 - p'.2) with | true => t.2.2 | false => p'.2) ∧ p'.2 ≤ (match zge (t.2.2 - p'.2) with | true => t.2.2 | false => p'.2) := by
        cases hz : zge (t.2.2 - p'.2) with
        | true => have := zge_iff.mp hz; dsimp only; omega
        | false => have : ¬ 0 ≤ t.2.2 - p'.2 := fun z => by rw [zge_iff.mpr z] at hz; cases hz
                   try dsimp only; omega
      intro t' ht
      rcases List.mem_cons.mp ht with rfl | ht
      · exact ⟨e, m1.1, m2.1⟩
      · obtain ⟨a, b, c⟩ := ih t' ht
        exact ⟨a, Int.le_trans m1.2 b, Int.le_trans c m2.2⟩
    · cases hx
theorem y_mod {e : zL} {p : Int} (hp : 0 < p) {k : Nat} (hm : x_mod e p = some k) : y_ev σ e % p = k := by
  unfold x_mod at hm
  split at hm
  · next ha =>
    cases hm
    have key : ∀ l : List (Nat × Int), (∀ t ∈ l, zz (t.2 % p) = true) → y_el σ l % p = 0 := by
      intro l
      induction l with
      | nil => intro _; simp [y_el]
      | cons t r ih =>
        intro hl
        have h1 := zz_iff.mp (hl t List.mem_cons_self)
        have h2 := ih fun t ht => hl t (List.mem_cons_of_mem _ ht)
        simp only [y_el, List.foldr_cons] at h2 ⊢
        have d1 : p ∣ t.2 * σ t.1 := Int.dvd_trans (Int.dvd_of_emod_eq_zero h1) (Int.dvd_mul_right _ _)
        exact Int.emod_eq_zero_of_dvd (Int.dvd_add d1 (Int.dvd_of_emod_eq_zero h2))
    have h3 := key e.2 (List.all_eq_true.mp ha)
    have h4 : y_ev σ e % p = e.1 % p := by
      unfold y_ev
      rw [Int.add_emod, h3, Int.add_zero, Int.emod_emod]
    have h5 := Int.emod_nonneg e.1 (show p ≠ 0 by omega)
    rw [h4]
    omega
  · cases hm
/-- the type that a place of an array really has is among those told -/
theorem y_ety (q : y_S Γ J S σ ρ ls st h) {ts : List zFT} {e : zL} {z : Nat} (he : y_E S.1.length σ e (z : Int)) {ft : zFT} (hf : ts[z % ts.length]? = some ft) : ft ∈ x_ety S ts e := by
  unfold x_ety
  split
  · simp at hf
  · exact List.mem_of_getElem? hf
  · next hn1 hn2 =>
    have hlen : 0 < ts.length := by
      cases ts with
      | nil => simp at hf
      | cons a b => simp
    split
    · next k hk =>
      have h1 := y_mod (σ := σ) (by omega) hk
      rw [he.2] at h1
      have h2 : z % ts.length = k := by omega
      rw [List.getD_eq_getElem?_getD, ← h2, hf]
      exact List.mem_singleton.mpr rfl
    · split
      · next hb =>
        simp only [Bool.and_eq_true] at hb
        have l0 := zge_iff.mp hb.1
        have l1 := zz_iff.mp hb.2
        have hr := q.rg he
        generalize hP : (ts.length : Int) = P at l1 ⊢
        have hP0 : 0 < P := by omega
        have d1 : x_lo S.1 e / P ≤ (z : Int) / P := Int.ediv_le_ediv hP0 hr.1
        have d2 : (z : Int) / P ≤ x_hi S.1 e / P := Int.ediv_le_ediv hP0 hr.2
        have a1 := Int.mul_ediv_add_emod (x_lo S.1 e) P
        have a2 := Int.mul_ediv_add_emod (z : Int) P
        have e3 : (z : Int) / P = x_lo S.1 e / P := by omega
        rw [e3] at a2
        have n1 := Int.emod_nonneg (x_lo S.1 e) (show P ≠ 0 by omega)
        have n2 := Int.emod_nonneg (z : Int) (show P ≠ 0 by omega)
        have e4 : ((z % ts.length : Nat) : Int) = (z : Int) % P := by rw [← hP]; exact Int.natCast_emod z ts.length
        have e5 : (z % ts.length) = (x_lo S.1 e % P).toNat + (z % ts.length - (x_lo S.1 e % P).toNat) := by omega
        apply List.mem_of_getElem? (i := z % ts.length - (x_lo S.1 e % P).toNat)
        rw [List.getElem?_take_of_lt (by omega), List.getElem?_drop, ← e5]
        exact hf
      · exact List.mem_of_getElem? hf
theorem y_rd (q : y_S Γ J S σ ρ ls st h) (hH : y_H Γ LT h) {r : Nat} {sl : zSlot} {v : zV} {S1 : zS} (hin : y_in S.1.length sl.2.2) (hx : x_rd LT S r sl = some (v, S1)) :
    ∃ σ' ρ' x, y_S Γ J S1 σ' ρ' ls st h ∧ y_M S S1 σ σ' ρ ρ' ∧ y_V S1.1.length S1.2.1.length σ' ρ' v x ∧ y_Sl S.1.length σ ρ h r sl x := by
  unfold x_rd at hx
  try simp only [x_nth_eq, x_gt_eq, x_sst_eq, xl_any_eq, xl_all_eq, xl_fr_eq, xl_fl_eq] at hx
  split at hx
  · next ci nn fts hl hb =>
    split at hx
    · next ft hft =>
      have ex := Option.some.inj hx
      obtain ⟨a, l, c, h1, h2, h3, h4, h5, h6⟩ := y_lab q hH hl
      obtain ⟨fs, rfl, h7⟩ := h6
      obtain ⟨x, h8, h9⟩ := h7 _ _ hft
      have hs : y_Sl S.1.length σ ρ h r sl x := by
        unfold y_Sl
        rw [hb]
        exact ⟨a, _, fs, h1, h5, h8⟩
      obtain ⟨σ', ρ', g1, g2, g3⟩ := y_get q (List.getElem?_eq_some_iff.mp h2).1 hin hs h9
      rw [ex] at g1 g2 g3
      exact ⟨σ', ρ', x, g1, g2, g3, hs⟩
    · cases hx
  · next t nn ts hl hb =>
    split at hx
    · next p hi hj =>
      have ex := Option.some.inj hx
      obtain ⟨a, l, c, h1, h2, h3, h4, h5, h6⟩ := y_lab q hH hl
      obtain ⟨xs, rfl, h7, h7b, h8⟩ := h6
      try dsimp only at h7 h8
      have he := y_E.of (σ := σ) hin
      have hb2 := y_ins0 q he hi
      have hz : ((y_ev σ sl.2.2).toNat : Int) = y_ev σ sl.2.2 := by omega
      have hlt : (y_ev σ sl.2.2).toNat < xs.length := by omega
      have hxi : xs[(y_ev σ sl.2.2).toNat]? = some xs[(y_ev σ sl.2.2).toNat] := List.getElem?_eq_getElem hlt
      have hs : y_Sl S.1.length σ ρ h r sl (mI xs[(y_ev σ sl.2.2).toNat]) := by
        unfold y_Sl
        rw [hb]
        exact ⟨a, t, (y_ev σ sl.2.2).toNat, h1, by rw [hz]; exact he, Or.inl ⟨xs, _, h5, hxi, rfl⟩⟩
      have hty : y_FT Γ (0, p) (mI xs[(y_ev σ sl.2.2).toNat]) := by
        have hne : 0 < ts.length := by
          cases ts with
          | nil => simp [x_ety, x_join] at hj
          | cons a b => simp
        obtain ⟨ft, hft⟩ : ∃ ft, ts[(y_ev σ sl.2.2).toNat % ts.length]? = some ft := ⟨_, List.getElem?_eq_getElem (Nat.mod_lt _ hne)⟩
        have hm := y_ety q (z := (y_ev σ sl.2.2).toNat) (by rw [hz]; exact he) hft
        obtain ⟨j1, j2, j3⟩ := x_join_ok hj _ hm
        have := h8 _ _ hxi _ hft j1
        exact ⟨_, rfl, by dsimp only; omega, by dsimp only; omega⟩
      obtain ⟨σ', ρ', g1, g2, g3⟩ := y_get q (List.getElem?_eq_some_iff.mp h2).1 hin hs hty
      rw [ex] at g1 g2 g3
      exact ⟨σ', ρ', _, g1, g2, g3, hs⟩
    · cases hx
  · next tt nn ts hl hb =>
    split at hx
    · next hi =>
      have ex := Option.some.inj hx
      obtain ⟨a, l, c, h1, h2, h3, h4, h5, h6⟩ := y_lab q hH hl
      obtain ⟨xs, rfl, h7, h7b⟩ := h6
      try dsimp only at h7
      have he := y_E.of (σ := σ) hin
      have hb2 := y_ins0 q he hi
      have hz : ((y_ev σ sl.2.2).toNat : Int) = y_ev σ sl.2.2 := by omega
      have hlt : (y_ev σ sl.2.2).toNat < xs.length := by omega
      have hxi : xs[(y_ev σ sl.2.2).toNat]? = some xs[(y_ev σ sl.2.2).toNat] := List.getElem?_eq_getElem hlt
      have hs : y_Sl S.1.length σ ρ h r sl (mJ xs[(y_ev σ sl.2.2).toNat]) := by
        unfold y_Sl
        rw [hb]
        exact ⟨a, 1, (y_ev σ sl.2.2).toNat, h1, by rw [hz]; exact he, Or.inr ⟨xs, _, h5, hxi, rfl⟩⟩
      have hty : y_FT Γ (1, 0, 0) (mJ xs[(y_ev σ sl.2.2).toNat]) := ⟨_, rfl⟩
      obtain ⟨σ', ρ', g1, g2, g3⟩ := y_get q (List.getElem?_eq_some_iff.mp h2).1 hin hs hty
      rw [ex] at g1 g2 g3
      exact ⟨σ', ρ', _, g1, g2, g3, hs⟩
    · cases hx
  · cases hx
end ZS4
end
