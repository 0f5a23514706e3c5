noncomputable section
/-! ===== the reader is right: what is written ===== -/
section ZS5
variable {Γ : List Nat} {LT : List zLab} {J : Nat → List Int → mH → Prop} {σ : Nat → Int} {ρ : Nat → Option Nat} {S : zS} {h h' : mH} {ls : mL} {st : List mV}
/-- h' is h, but the slot sl of r is another: v -/
def y_W (n nr : Nat) (σ : Nat → Int) (ρ : Nat → Option Nat) (r : Nat) (sl : zSlot) (v : zV) (h h' : mH) : Prop := ∃ (a : Nat) (c c' : mC), ρ r = some a ∧ h[a]? = some c ∧ h' = h.set a c' ∧ match sl.1 with
  | false => ∃ (ci : Nat) (fs : List mV) (x : mV), c = .inl (ci, fs) ∧ sl.2.1 < fs.length ∧ c' = .inl (ci, fs.set sl.2.1 x) ∧ y_V n nr σ ρ v x
  | true => ∃ z : Nat, y_E n σ sl.2.2 (z : Int) ∧ ((∃ (t : Nat) (xs : List Int32) (i : Int32), c = .inr (t, .inl xs) ∧ z < xs.length ∧ c' = .inr (t, .inl (xs.set z i)) ∧ y_V n nr σ ρ v (mI i)) ∨ ∃ (xs : List Int64) (j : Int64), c = .inr (1, .inr (.inl xs)) ∧ z < xs.length ∧ c' = .inr (1, .inr (.inl (xs.set z j))) ∧ y_V n nr σ ρ v (mJ j))
/-- nothing but those keys' slots has changed -/
def y_Fr (Γ : List Nat) (cl : List zKey) (h h' : mH) : Prop := h'.length = h.length ∧ ∀ (a l : Nat) (c : mC), Γ[a]? = some l → h[a]? = some c → ∃ c', h'[a]? = some c' ∧ match c with
  | .inl (ci, fs) => ∃ fs' : List mV, c' = .inl (ci, fs') ∧ fs'.length = fs.length ∧ ∀ k, x_kin cl (l, false, k) = false → fs'[k]? = fs[k]?
  | .inr (t, arr) => (∃ arr', c' = .inr (t, arr')) ∧ (x_kin cl (l, true, 0) = false → c' = .inr (t, arr))
theorem y_Fr.refl {cl : List zKey} : y_Fr Γ cl h h := by
  refine ⟨rfl, fun a l c _ hc => ⟨c, hc, ?_⟩⟩
  rcases c with ⟨ci, fs⟩ | ⟨t, arr⟩
  · exact ⟨fs, rfl, rfl, fun _ _ => rfl⟩
  · exact ⟨⟨arr, rfl⟩, fun _ => rfl⟩
theorem y_Fr.trans {cl : List zKey} {h'' : mH} (a : y_Fr Γ cl h h') (b : y_Fr Γ cl h' h'') : y_Fr Γ cl h h'' := by
  refine ⟨b.1.trans a.1, fun i l c hl hc => ?_⟩
  obtain ⟨c1, h1, h2⟩ := a.2 i l c hl hc
  obtain ⟨c2, h3, h4⟩ := b.2 i l c1 hl h1
  refine ⟨c2, h3, ?_⟩
  rcases c with ⟨ci, fs⟩ | ⟨t, arr⟩
  · obtain ⟨fs', rfl, h5, h6⟩ := h2
    obtain ⟨fs'', rfl, h7, h8⟩ := h4
    exact ⟨fs'', rfl, h7.trans h5, fun k hk => (h8 k hk).trans (h6 k hk)⟩
  · obtain ⟨⟨arr', rfl⟩, h6⟩ := h2
    obtain ⟨⟨arr'', rfl⟩, h8⟩ := h4
    exact ⟨⟨arr'', rfl⟩, fun hk => (h8 hk).trans (h6 hk)⟩
theorem x_kin_sub {cl cl' : List zKey} (hs : cl'.all (x_kin cl) = true) {k : zKey} (hk : x_kin cl k = false) : x_kin cl' k = false := by
  cases hq : x_kin cl' k with
  | false => rfl
  | true =>
    rw [x_kin_eq] at hq
    unfold x_kinO at hq
    obtain ⟨q, h1, h2⟩ := List.any_eq_true.mp hq
    have h3 := List.all_eq_true.mp hs q h1
    simp only [Bool.and_eq_true, beq_iff_eq] at h2
    have e : q = k := by
      obtain ⟨q1, q2, q3⟩ := q
      obtain ⟨k1, k2, k3⟩ := k
      have e1 := Nat.eq_of_beq_eq_true h2.1.1
      have e3 := Nat.eq_of_beq_eq_true h2.2
      have e2 := h2.1.2
      try dsimp only at e1 e2 e3
      rw [e1, e2, e3]
    rw [e, hk] at h3
    cases h3
theorem y_Fr.mono {cl cl' : List zKey} (hs : cl'.all (x_kin cl) = true) (a : y_Fr Γ cl' h h') : y_Fr Γ cl h h' := by
  refine ⟨a.1, fun i l c hl hc => ?_⟩
  obtain ⟨c1, h1, h2⟩ := a.2 i l c hl hc
  refine ⟨c1, h1, ?_⟩
  rcases c with ⟨ci, fs⟩ | ⟨t, arr⟩
  · obtain ⟨fs', rfl, h5, h6⟩ := h2
    exact ⟨fs', rfl, h5, fun k hk => h6 k (x_kin_sub hs hk)⟩
  · exact ⟨h2.1, fun hk => h2.2 (x_kin_sub hs hk)⟩
theorem x_kin_at {cl : List zKey} {l l' : Nat} {b : Bool} {k k' : Nat} (h1 : x_kin cl (l, b, k) = true) (h2 : x_kin cl (l', b, k') = false) : ¬ (l = l' ∧ k = k') := by
  rintro ⟨rfl, rfl⟩
  rw [h1] at h2
  cases h2
/-- what is written is one of the keys -/
theorem y_W.frame {n nr r lab : Nat} {sl : zSlot} {v : zV} {cl : List zKey} (w : y_W n nr σ ρ r sl v h h') (hl : ∀ a, ρ r = some a → Γ[a]? = some lab) (hk : x_kin cl (lab, sl.1, if sl.1 = true then 0 else sl.2.1) = true) : y_Fr Γ cl h h' := by
  obtain ⟨a, c, c', hr, hc, rfl, hw⟩ := w
  have hlt : a < h.length := (List.getElem?_eq_some_iff.mp hc).1
  refine ⟨List.length_set, fun i l d hl' hd => ?_⟩
  by_cases e : a = i
  · subst e
    rw [hc] at hd
    cases hd
    have el : l = lab := by
      have := hl a hr
      rw [hl'] at this
      cases this
      rfl
    subst el
    refine ⟨c', List.getElem?_set_self hlt, ?_⟩
    cases hb : sl.1 with
    | false =>
      rw [hb] at hw hk
      obtain ⟨ci, fs, x, rfl, g1, rfl, g2⟩ := hw
      refine ⟨_, rfl, List.length_set, fun k hk2 => ?_⟩
      rw [List.getElem?_set_ne]
      intro e
      subst e
      rw [if_neg (by decide)] at hk
      rw [hk] at hk2
      cases hk2
    | true =>
      rw [hb] at hw hk
      rw [if_pos rfl] at hk
      obtain ⟨z, -, ⟨t, xs, i, rfl, -, rfl, -⟩ | ⟨xs, j, rfl, -, rfl, -⟩⟩ := hw
      · exact ⟨⟨_, rfl⟩, fun hk2 => by rw [hk] at hk2; cases hk2⟩
      · exact ⟨⟨_, rfl⟩, fun hk2 => by rw [hk] at hk2; cases hk2⟩
  · refine ⟨d, by rw [List.getElem?_set_ne e]; exact hd, ?_⟩
    rcases d with ⟨ci, fs⟩ | ⟨t, arr⟩
    · exact ⟨fs, rfl, rfl, fun _ _ => rfl⟩
    · exact ⟨⟨arr, rfl⟩, fun _ => rfl⟩
/-- a fact of another slot stays -/
theorem y_off (q : y_S Γ J S σ ρ ls st h) {r lab : Nat} {sl : zSlot} {v : zV} {k : Bool × Nat} (hl : S.2.1[r]? = some (lab, false)) (w : y_W S.1.length S.2.1.length σ ρ r sl v h h') {f : zFa} (hf : y_F S.1.length S.2.1.length σ ρ h f) (ho : x_off S (lab, k) sl f = true) : y_F S.1.length S.2.1.length σ ρ h' f := by
  obtain ⟨a, c, c', hr, hc, rfl, hw⟩ := w
  obtain ⟨f1, f2, f3⟩ := hf
  refine ⟨f1, f2, fun b hb => ?_⟩
  have f4 := f3 b hb
  have keep : b ≠ a → (h.set a c')[b]? = h[b]? := fun e => List.getElem?_set_ne (fun z => e z.symm)
  have hlt : a < h.length := (List.getElem?_eq_some_iff.mp hc).1
  have same : (h.set a c')[a]? = some c' := List.getElem?_set_self hlt
  have Γa : Γ[a]? = some lab := by
    have := q.2.1 r _ hl
    rw [hr] at this
    exact this
  unfold x_off at ho
  try simp only [x_nth_eq, x_gt_eq, x_sst_eq, xl_any_eq, xl_all_eq, xl_fr_eq, xl_fl_eq] at ho
  split at ho
  · cases ho
  · next lf bf hrf =>
    have Γb : Γ[b]? = some lf := by
      have := q.2.1 f.1 _ hrf
      rw [hb] at this
      exact this
    try dsimp only at ho
    by_cases e : b = a
    · subst e
      have el : lf = lab := by rw [Γa] at Γb; cases Γb; rfl
      subst el
      rw [show Nat.beq lf lf = true from Nat.beq_refl lf] at ho
      try dsimp only at ho
      rw [same]
      split at ho
      · next ea eb =>
        rw [ea] at f4
        rw [eb] at hw
        rw [ea]
        obtain ⟨ci, fs, x, rfl, g1, rfl, g2⟩ := hw
        obtain ⟨ci', fs', y, k1, k2, k3⟩ := f4
        rw [hc] at k1
        cases k1
        refine ⟨ci, _, y, rfl, ?_, k3⟩
        rw [List.getElem?_set_ne]
        · exact k2
        · intro z
          rw [z] at ho
          simp at ho
      · next ea eb =>
        rw [ea] at f4
        rw [eb] at hw
        rw [ea]
        obtain ⟨z, hz, hw⟩ := hw
        have hne : (y_ev σ f.2.1.2.2).toNat ≠ z := by
          intro hzz
          have f5 := f4.1
          have ez : y_ev σ f.2.1.2.2 = (z : Int) := by omega
          simp only [Bool.or_eq_true] at ho
          rcases ho with ho | ho
          · have := q.has (((y_E.of f2).sub hz).inc (-1)) ho
            omega
          · have := q.has ((hz.sub (y_E.of f2)).inc (-1)) ho
            omega
        refine ⟨f4.1, fun t xs hx => ?_, fun t xs hx => ?_⟩
        · rcases hw with ⟨t', xs', i, rfl, g1, rfl, g2⟩ | ⟨xs', j, rfl, g1, rfl, g2⟩
          · cases hx
            obtain ⟨i', k1, k2⟩ := f4.2.1 _ _ hc
            refine ⟨i', ?_, k2⟩
            rw [List.getElem?_set_ne (fun z => hne z.symm)]
            exact k1
          · cases hx
        · rcases hw with ⟨t', xs', i, rfl, g1, rfl, g2⟩ | ⟨xs', j, rfl, g1, rfl, g2⟩
          · cases hx
          · cases hx
            obtain ⟨i', k1, k2⟩ := f4.2.2 _ _ hc
            refine ⟨i', ?_, k2⟩
            rw [List.getElem?_set_ne (fun z => hne z.symm)]
            exact k1
      · next hn1 hn2 =>
        cases ea : f.2.1.1 with
        | false =>
          cases eb : sl.1 with
          | false => exact absurd eb (hn1 ea)
          | true =>
            rw [ea] at f4
            rw [eb] at hw
            obtain ⟨ci, fs, x, k1, -⟩ := f4
            rw [hc] at k1
            obtain ⟨z, -, ⟨t', xs', i, rfl, -⟩ | ⟨xs', j, rfl, -⟩⟩ := hw <;> cases k1
        | true =>
          cases eb : sl.1 with
          | true => exact absurd eb (hn2 ea)
          | false =>
            rw [ea] at f4
            rw [eb] at hw
            obtain ⟨ci, fs, x, rfl, g1, rfl, g2⟩ := hw
            exact ⟨f4.1, (fun t xs hx => by cases hx), (fun t xs hx => by cases hx)⟩
    · rw [keep e]
      exact f4
/-- the sentences that stay are right to stay -/
def y_TS (Γ : List Nat) (LT : List zLab) (J : Nat → List Int → mH → Prop) (TS : zTS) : Prop := ∀ (S : zS) (σ : Nat → Int) (ρ : Nat → Option Nat) (ls : mL) (st : List mV) (h h' : mH) (t : zTg) (r : Nat) (sl : zSlot) (v : zV), y_S Γ J S σ ρ ls st h → y_H Γ LT h → (∃ lab, S.2.1[r]? = some (lab, false)) → TS S t r sl v = true → y_W S.1.length S.2.1.length σ ρ r sl v h h' → y_T J S.1.length σ h t → y_T J S.1.length σ h' t
def y_TC0 (Γ : List Nat) (LT : List zLab) (J : Nat → List Int → mH → Prop) (TC : zTC) : Prop := ∀ (t : zTg) (cl : List zKey) (h h' : mH) (zs : List Int), TC t cl = true → y_H Γ LT h → y_H Γ LT h' → y_Fr Γ cl h h' → J t.1 zs h → J t.1 zs h'
def y_TC (Γ : List Nat) (LT : List zLab) (J : Nat → List Int → mH → Prop) (TC : zTC) : Prop := ∀ (t : zTg) (cl : List zKey) (h h' : mH) (σ : Nat → Int), TC t cl = true → y_H Γ LT h → y_H Γ LT h' → y_Fr Γ cl h h' → J t.1 (t.2.map (y_ev σ)) h → J t.1 (t.2.map (y_ev σ)) h'
/-- a slot written -/
theorem y_set {TS : zTS} (hTS : y_TS Γ LT J TS) (q : y_S Γ J S σ ρ ls st h) (hH : y_H Γ LT h) {r lab : Nat} {sl : zSlot} {v : zV} (hl : S.2.1[r]? = some (lab, false)) (hin : y_in S.1.length sl.2.2) (w : y_W S.1.length S.2.1.length σ ρ r sl v h h') : y_S Γ J (x_set TS S r lab sl v) σ ρ ls st h' := by
  refine ⟨q.1, q.2.1, q.2.2.1, q.2.2.2.1, q.2.2.2.2.1, fun f hf => ?_, fun t ht => ?_⟩
  · rcases List.mem_cons.mp hf with rfl | hf
    · obtain ⟨a, c, c', hr, hc, rfl, hw⟩ := w
      have hlt : a < h.length := (List.getElem?_eq_some_iff.mp hc).1
      have same : (h.set a c')[a]? = some c' := List.getElem?_set_self hlt
      refine ⟨(List.getElem?_eq_some_iff.mp hl).1, hin, fun b hb => ?_⟩
      try dsimp only at hb ⊢
      rw [hr] at hb
      cases hb
      rw [same]
      cases eb : sl.1 with
      | false =>
        rw [eb] at hw
        obtain ⟨ci, fs, x, rfl, g1, rfl, g2⟩ := hw
        exact ⟨ci, _, x, rfl, List.getElem?_set_self g1, g2⟩
      | true =>
        rw [eb] at hw
        obtain ⟨z, hz, hw⟩ := hw
        try dsimp only
        rw [hz.2]
        refine ⟨by omega, fun t xs hx => ?_, fun t xs hx => ?_⟩
        · rcases hw with ⟨t', xs', i, rfl, g1, rfl, g2⟩ | ⟨xs', j, rfl, g1, rfl, g2⟩
          · cases hx
            exact ⟨i, List.getElem?_set_self g1, g2⟩
          · cases hx
        · rcases hw with ⟨t', xs', i, rfl, g1, rfl, g2⟩ | ⟨xs', j, rfl, g1, rfl, g2⟩
          · cases hx
          · cases hx
            exact ⟨j, List.getElem?_set_self g1, g2⟩
    · obtain ⟨hf1, hf2⟩ := xl_mem_fl.mp hf
      exact y_off q hl w (q.2.2.2.2.2.1 f hf1) hf2
  · obtain ⟨ht1, ht2⟩ := xl_mem_fl.mp ht
    exact hTS S σ ρ ls st h h' t r sl v q hH ⟨lab, hl⟩ ht2 w (q.2.2.2.2.2.2 t ht1)
/-- a value that fits a type -/
theorem y_fit (q : y_S Γ J S σ ρ ls st h) {v : zV} {x : mV} {ft : zFT} (hv : y_V S.1.length S.2.1.length σ ρ v x) (hx : x_fit S v ft = true) : y_FT Γ ft x := by
  unfold x_fit at hx
  try simp only [x_nth_eq, x_gt_eq, x_sst_eq, xl_any_eq, xl_all_eq, xl_fr_eq, xl_fl_eq] at hx
  unfold y_V at hv
  unfold y_FT
  split at hx
  · next e0 e1 =>
    rw [e0] at hv
    rw [e1]
    obtain ⟨i, rfl, hi⟩ := hv
    simp only [Bool.and_eq_true] at hx
    have a := q.has (hi.inc (-ft.2.1)) hx.1
    have b := q.has (hi.neg.inc ft.2.2) hx.2
    exact ⟨i, rfl, by omega, by omega⟩
  · next e0 e1 =>
    rw [e0] at hv
    rw [e1]
    obtain ⟨j, rfl, -⟩ := hv
    exact ⟨j, rfl⟩
  · next e0 e1 =>
    rw [e1]
    trivial
  · next e0 e1 =>
    rw [e1]
    trivial
  · next e0 e1 =>
    rw [e0] at hv
    rw [e1]
    obtain ⟨hr, rfl⟩ := hv
    split at hx
    · next lab nul hl =>
      simp only [Bool.and_eq_true, Bool.or_eq_true, Bool.not_eq_true'] at hx
      have e := zz_iff.mp hx.1
      have hq := q.2.1 _ _ hl
      refine ⟨ρ v.2.1, rfl, ?_⟩
      cases hρ : ρ v.2.1 with
      | none =>
        rw [hρ] at hq
        try dsimp only at hq ⊢
        rcases hx.2 with h2 | h2
        · rw [hq] at h2
          cases h2
        · intro z
          rw [zz_iff.mpr z] at h2
          cases h2
      | some a =>
        rw [hρ] at hq
        try dsimp only at hq ⊢
        rw [hq]
        congr 1
        omega
    · cases hx
  · next e0 e1 =>
    rw [e0] at hv
    rw [e1]
    refine ⟨none, hv, ?_⟩
    try dsimp only
    intro z
    rw [zz_iff.mpr z] at hx
    cases hx
  · cases hx
theorem y_fit3 {n nr : Nat} {v : zV} {x : mV} {ft : zFT} (hv : y_V n nr σ ρ v x) (hx : x_fit S v ft = true) (h3 : ft.1 = 3) : ∃ r, x = mR r := by
  obtain ⟨k, a, e⟩ := v
  obtain ⟨f, p⟩ := ft
  try dsimp only at h3
  subst h3
  match k, hx, hv with
  | 0, hx, _ => have hf : false = true := hx; cases hf
  | 1, hx, _ => have hf : false = true := hx; cases hf
  | 2, _, hv => exact ⟨_, hv.2⟩
  | 3, _, hv => exact ⟨_, hv⟩
  | k + 4, hx, _ => have hf : false = true := hx; cases hf
end ZS5
end
