noncomputable section
/-! ===== the reader is right: a state told by another's unknowns ===== -/
section ZS7
variable {Γ : List Nat} {LT : List zLab} {J : Nat → List Int → mH → Prop} {σ σ' : Nat → Int} {ρ ρ' : Nat → Option Nat} {S S' : zS} {h h' : mH} {ls : mL} {st : List mV} {n nr : Nat}
/-- what a pattern's unknowns are, told by θ -/
def y_ti (σ : Nat → Int) (θ : zTh) : Nat → Int := fun b => match θ.1[b]? with
  | some (some f) => y_ev σ f
  | _ => 0
def y_tr (ρ : Nat → Option Nat) (θ : zTh) : Nat → Option Nat := fun r => match θ.2[r]? with
  | some (some q) => ρ q
  | _ => none
/-- what θ tells is in range -/
def y_th (n nr : Nat) (θ : zTh) : Prop := (∀ (b : Nat) (f : zL), θ.1[b]? = some (some f) → y_in n f) ∧ ∀ (r q : Nat), θ.2[r]? = some (some q) → q < nr
/-- θ' tells more than θ -/
def y_tm (θ θ' : zTh) : Prop := θ'.1.length = θ.1.length ∧ θ'.2.length = θ.2.length ∧ (∀ (b : Nat) (f : zL), θ.1[b]? = some (some f) → θ'.1[b]? = some (some f)) ∧ ∀ (r q : Nat), θ.2[r]? = some (some q) → θ'.2[r]? = some (some q)
theorem y_tm.refl {θ : zTh} : y_tm θ θ := ⟨rfl, rfl, fun _ _ h => h, fun _ _ h => h⟩
theorem y_tm.trans {θ θ' θ'' : zTh} (a : y_tm θ θ') (b : y_tm θ' θ'') : y_tm θ θ'' := ⟨b.1.trans a.1, b.2.1.trans a.2.1, fun x f q => b.2.2.1 x f (a.2.2.1 x f q), fun x f q => b.2.2.2 x f (a.2.2.2 x f q)⟩
theorem y_th.mono {θ : zTh} {n' nr' : Nat} (a : y_th n nr θ) (l : n ≤ n') (lr : nr ≤ nr') : y_th n' nr' θ := ⟨fun b f q => y_in_le (a.1 b f q) l, fun r q h => Nat.lt_of_lt_of_le (a.2 r q h) lr⟩
theorem x_se_mono {θ θ' : zTh} (m : y_tm θ θ') {e f : zL} (hx : x_se θ e = some f) : x_se θ' e = some f := by
  unfold x_se at hx ⊢
  try simp only [x_nth_eq, x_gt_eq, x_sst_eq, xl_any_eq, xl_all_eq, xl_fr_eq, xl_fl_eq] at hx ⊢
  have key : ∀ (l : List (Nat × Int)) (f : zL) (c : Int), l.foldr (fun t acc => match θ.1[t.1]?, acc with
      | some (some f), some g => some (x_add (x_scl t.2 f) g)
      | _, _ => none) (some (c, [])) = some f → l.foldr (fun t acc => match θ'.1[t.1]?, acc with
      | some (some f), some g => some (x_add (x_scl t.2 f) g)
      | _, _ => none) (some (c, [])) = some f := by
    intro l
    induction l with
    | nil => intro f c h; exact h
    | cons t r ih =>
      intro f c h
      simp only [List.foldr_cons] at h ⊢
      split at h
      · next f1 g1 e1 e2 =>
        rw [m.2.2.1 _ _ e1, ih _ _ e2]
        exact h
      · cases h
  exact key e.2 f e.1 hx
theorem y_se {θ : zTh} (ht : y_th n nr θ) {e f : zL} (hx : x_se θ e = some f) : y_in n f ∧ y_ev σ f = y_ev (y_ti σ θ) e ∧ y_in θ.1.length e := by
  unfold x_se at hx
  try simp only [x_nth_eq, x_gt_eq, x_sst_eq, xl_any_eq, xl_all_eq, xl_fr_eq, xl_fl_eq] at hx
  have key : ∀ (l : List (Nat × Int)) (f : zL) (c : Int), l.foldr (fun t acc => match θ.1[t.1]?, acc with
      | some (some f), some g => some (x_add (x_scl t.2 f) g)
      | _, _ => none) (some (c, [])) = some f → y_in n f ∧ y_ev σ f = c + y_el (y_ti σ θ) l ∧ ∀ t ∈ l, t.1 < θ.1.length := by
    intro l
    induction l with
    | nil =>
      intro f c h
      simp only [List.foldr_nil, Option.some.injEq] at h
      subst h
      exact ⟨fun t ht => by simp at ht, by simp [y_ev, y_el], fun t ht => by simp at ht⟩
    | cons t r ih =>
      intro f c h
      simp only [List.foldr_cons] at h
      split at h
      · next f1 g1 e1 e2 =>
        cases h
        obtain ⟨a1, a2, a3⟩ := ih _ _ e2
        have b1 := ht.1 _ _ e1
        refine ⟨y_in_add (y_in_scl b1) a1, ?_, fun t' ht' => ?_⟩
        · rw [y_ev_add, y_ev_scl, a2]
          have e3 : y_ti σ θ t.1 = y_ev σ f1 := by unfold y_ti; rw [e1]
          simp only [y_el, List.foldr_cons]
          rw [e3]
          omega
        · rcases List.mem_cons.mp ht' with rfl | ht'
          · exact (List.getElem?_eq_some_iff.mp e1).1
          · exact a3 t' ht'
      · cases h
  obtain ⟨a, b, c⟩ := key e.2 f e.1 hx
  exact ⟨a, b, c⟩
theorem zo1_iff {a : Int} (h : zo1 a = true) : a = 1 := by
  unfold zo1 at h
  split at h
  · next n => rw [Nat.eq_of_beq_eq_true h]; rfl
  · cases h
/-- the pattern p is the sum w -/
theorem y_me (q : y_S Γ J S σ ρ ls st h) {θ θ' : zTh} (ht : y_th S.1.length nr θ) {p w : zL} {z : Int} (hw : y_E S.1.length σ w z) (hx : x_me S θ p w = some θ') :
    y_tm θ θ' ∧ y_th S.1.length nr θ' ∧ ∃ f, x_se θ' p = some f ∧ y_ev σ f = z := by
  have second : ∀ {θ2 : zTh}, (match x_se θ p with
      | some f => (match x_same S f w with
        | true => some θ
        | false => none)
      | none => none) = some θ2 → y_tm θ θ2 ∧ y_th S.1.length nr θ2 ∧ ∃ f, x_se θ2 p = some f ∧ y_ev σ f = z := by
    intro θ2 h2
    split at h2
    · next f hf =>
      split at h2
      · next hs =>
        cases h2
        obtain ⟨a, b, -⟩ := y_se (σ := σ) ht hf
        exact ⟨y_tm.refl, ht, f, hf, (y_same q (y_E.of a) hw hs)⟩
      · cases h2
    · cases h2
  unfold x_me at hx
  try simp only [x_nth_eq, x_gt_eq, x_sst_eq, xl_any_eq, xl_all_eq, xl_fr_eq, xl_fl_eq] at hx
  split at hx
  · next b c hp =>
    split at hx
    · next hz hb =>
      cases hx
      simp only [Bool.and_eq_true] at hz
      have z1 := zz_iff.mp hz.1
      have z2 := zo1_iff hz.2
      have hlt : b < θ.1.length := (List.getElem?_eq_some_iff.mp hb).1
      have hset : (θ.1.set b (some w))[b]? = some (some w) := List.getElem?_set_self hlt
      refine ⟨⟨List.length_set, rfl, fun b' f hf => ?_, fun _ _ h => h⟩, ⟨fun b' f hf => ?_, ht.2⟩, x_add (x_scl c w) (p.1, []), ?_, ?_⟩
      · by_cases e : b = b'
        · subst e
          rw [hb] at hf
          cases hf
        · try dsimp only
          rw [List.getElem?_set_ne e]
          exact hf
      · try dsimp only at hf
        by_cases e : b = b'
        · subst e
          rw [hset] at hf
          cases hf
          exact hw.1
        · rw [List.getElem?_set_ne e] at hf
          exact ht.1 b' f hf
      · unfold x_se
        try simp only [x_nth_eq, x_gt_eq, x_sst_eq, xl_any_eq, xl_all_eq, xl_fr_eq, xl_fl_eq]
        rw [hp]
        simp only [List.foldr_cons, List.foldr_nil]
        rw [hset]
      · rw [y_ev_add, y_ev_scl, hw.2]
        have : y_ev σ (p.1, []) = p.1 := by simp [y_ev, y_el]
        rw [this, z1]
        have : c = 1 := by omega
        rw [this]
        omega
    · next f hz hb =>
      split at hx
      · next hs =>
        cases hx
        simp only [Bool.and_eq_true] at hz
        have z1 := zz_iff.mp hz.1
        have z2 := zo1_iff hz.2
        refine ⟨y_tm.refl, ht, x_add (x_scl c f) (p.1, []), ?_, ?_⟩
        · unfold x_se
          try simp only [x_nth_eq, x_gt_eq, x_sst_eq, xl_any_eq, xl_all_eq, xl_fr_eq, xl_fl_eq]
          rw [hp]
          simp only [List.foldr_cons, List.foldr_nil]
          rw [hb]
        · have hf := y_same q (y_E.of (ht.1 b f hb)) hw hs
          rw [y_ev_add, y_ev_scl, hf]
          have : y_ev σ (p.1, []) = p.1 := by simp [y_ev, y_el]
          rw [this, z1, z2]
          omega
      · cases hx
    · exact second hx
  · exact second hx
theorem y_mv (q : y_S Γ J S σ ρ ls st h) {θ θ' : zTh} (ht : y_th S.1.length S.2.1.length θ) {p w : zV} {x : mV} (hw : y_V S.1.length S.2.1.length σ ρ w x) (hx : x_mv S θ p w = some θ') :
    y_tm θ θ' ∧ y_th S.1.length S.2.1.length θ' ∧ ∀ (σ2 : Nat → Int) (ρ2 : Nat → Option Nat) (θ2 : zTh) (n2 nr2 : Nat), y_tm θ' θ2 → y_th n2 nr2 θ2 → y_X S.1.length σ σ2 → y_Xr S.2.1.length ρ ρ2 → y_V θ2.1.length θ2.2.length (y_ti σ2 θ2) (y_tr ρ2 θ2) p x := by
  unfold x_mv at hx
  try simp only [x_nth_eq, x_gt_eq, x_sst_eq, xl_any_eq, xl_all_eq, xl_fr_eq, xl_fl_eq] at hx
  unfold y_V at hw
  split at hx
  · next ep ew =>
    rw [ew] at hw
    obtain ⟨i, rfl, hi⟩ := hw
    obtain ⟨a, b, f, c, d⟩ := y_me q ht hi hx
    refine ⟨a, b, fun σ2 ρ2 θ2 n2 nr2 m t hσ hρ => ?_⟩
    unfold y_V
    rw [ep]
    have hf := x_se_mono m c
    obtain ⟨g1, g2, g3⟩ := y_se (σ := σ2) t hf
    refine ⟨i, rfl, g3, ?_⟩
    rw [← g2, y_ev_ext (y_se (σ := σ) b c).1 hσ, d]
  · next ep ew =>
    rw [ew] at hw
    obtain ⟨i, rfl, hi⟩ := hw
    obtain ⟨a, b, f, c, d⟩ := y_me q ht hi hx
    refine ⟨a, b, fun σ2 ρ2 θ2 n2 nr2 m t hσ hρ => ?_⟩
    unfold y_V
    rw [ep]
    have hf := x_se_mono m c
    obtain ⟨g1, g2, g3⟩ := y_se (σ := σ2) t hf
    refine ⟨i, rfl, g3, ?_⟩
    rw [← g2, y_ev_ext (y_se (σ := σ) b c).1 hσ, d]
  · next ep ew =>
    rw [ew] at hw
    obtain ⟨hr, rfl⟩ := hw
    have fin : ∀ (θ3 : zTh), y_th S.1.length S.2.1.length θ3 → θ3.2[p.2.1]? = some (some w.2.1) → ∀ (σ2 : Nat → Int) (ρ2 : Nat → Option Nat) (θ2 : zTh) (n2 nr2 : Nat), y_tm θ3 θ2 → y_th n2 nr2 θ2 → y_X S.1.length σ σ2 → y_Xr S.2.1.length ρ ρ2 → y_V θ2.1.length θ2.2.length (y_ti σ2 θ2) (y_tr ρ2 θ2) p (mR (ρ w.2.1)) := by
      intro θ3 _ h3 σ2 ρ2 θ2 n2 nr2 m t hσ hρ
      unfold y_V
      rw [ep]
      have h4 := m.2.2.2 _ _ h3
      refine ⟨(List.getElem?_eq_some_iff.mp h4).1, ?_⟩
      unfold y_tr
      rw [h4]
      try dsimp only
      rw [hρ _ hr]
    split at hx
    · next hb =>
      cases hx
      have hlt : p.2.1 < θ.2.length := (List.getElem?_eq_some_iff.mp hb).1
      have hset : (θ.2.set p.2.1 (some w.2.1))[p.2.1]? = some (some w.2.1) := List.getElem?_set_self hlt
      have hth : y_th S.1.length S.2.1.length (θ.1, θ.2.set p.2.1 (some w.2.1)) := by
        refine ⟨ht.1, fun r q' hq => ?_⟩
        try dsimp only at hq
        by_cases e : p.2.1 = r
        · subst e
          rw [hset] at hq
          cases hq
          exact hr
        · rw [List.getElem?_set_ne e] at hq
          exact ht.2 r q' hq
      refine ⟨⟨rfl, List.length_set, fun _ _ h => h, fun r q' hq => ?_⟩, hth, fin _ hth hset⟩
      by_cases e : p.2.1 = r
      · subst e
        rw [hb] at hq
        cases hq
      · try dsimp only
        rw [List.getElem?_set_ne e]
        exact hq
    · next r hb =>
      split at hx
      · next hq =>
        cases hx
        have er : r = w.2.1 := Nat.eq_of_beq_eq_true hq
        subst er
        exact ⟨y_tm.refl, ht, fin _ ht hb⟩
      · cases hx
    · cases hx
  · next ep ew =>
    cases hx
    rw [ew] at hw
    refine ⟨y_tm.refl, ht, fun σ2 ρ2 θ2 n2 nr2 m t hσ hρ => ?_⟩
    unfold y_V
    rw [ep]
    exact hw
  · next ep ew =>
    split at hx
    · next hq =>
      cases hx
      rw [ew] at hw
      have er : p.2.1 = w.2.1 := Nat.eq_of_beq_eq_true hq
      refine ⟨y_tm.refl, ht, fun σ2 ρ2 θ2 n2 nr2 m t hσ hρ => ?_⟩
      unfold y_V
      rw [ep, er]
      exact hw
    · cases hx
  · next ep =>
    cases hx
    refine ⟨y_tm.refl, ht, fun σ2 ρ2 θ2 n2 nr2 m t hσ hρ => ?_⟩
    unfold y_V
    rw [ep]
    trivial
  · cases hx
/-- a sentence about values that the first unknowns, and more that θ may tell later, leave true -/
def y_Fin (S : zS) (σ : Nat → Int) (ρ : Nat → Option Nat) (θ : zTh) (P : (Nat → Int) → (Nat → Option Nat) → zTh → Prop) : Prop := ∀ (σ2 : Nat → Int) (ρ2 : Nat → Option Nat) (θ2 : zTh) (n2 nr2 : Nat), y_tm θ θ2 → y_th n2 nr2 θ2 → y_X S.1.length σ σ2 → y_Xr S.2.1.length ρ ρ2 → P σ2 ρ2 θ2
theorem y_Fin.mono {θ θ' : zTh} {P : (Nat → Int) → (Nat → Option Nat) → zTh → Prop} (a : y_Fin S σ ρ θ P) (m : y_tm θ θ') (hM : y_M S S' σ σ' ρ ρ') : y_Fin S' σ' ρ' θ' P := fun σ2 ρ2 θ2 n2 nr2 m2 t hσ hρ => a σ2 ρ2 θ2 n2 nr2 (m.trans m2) t (hM.1.trans hσ hM.2.2.1) (fun r hr => (hρ r (Nat.lt_of_lt_of_le hr hM.2.2.2)).trans (hM.2.1 r hr))
theorem y_mvs (q : y_S Γ J S σ ρ ls st h) : ∀ {ps ws : List zV} {xs : List mV} {θ θ' : zTh}, y_th S.1.length S.2.1.length θ → y_Vs S.1.length S.2.1.length σ ρ ws xs → x_mvs S θ ps ws = some θ' →
    y_tm θ θ' ∧ y_th S.1.length S.2.1.length θ' ∧ y_Fin S σ ρ θ' (fun σ2 ρ2 θ2 => y_Vs θ2.1.length θ2.2.length (y_ti σ2 θ2) (y_tr ρ2 θ2) ps xs)
  | [], [], xs, θ, θ', ht, hw, hx => by
    unfold x_mvs at hx
    cases hx
    rw [hw.nil]
    exact ⟨y_tm.refl, ht, fun _ _ _ _ _ _ _ _ _ => trivial⟩
  | p :: ps, w :: ws, xs, θ, θ', ht, hw, hx => by
    unfold x_mvs at hx
    split at hx
    · next θ1 h1 =>
      obtain ⟨x, r, rfl, hv, hr⟩ := hw.cons
      obtain ⟨a, b, c⟩ := y_mv q ht hv h1
      obtain ⟨a2, b2, c2⟩ := y_mvs q b hr hx
      exact ⟨a.trans a2, b2, fun σ2 ρ2 θ2 n2 nr2 m t hσ hρ => ⟨c σ2 ρ2 θ2 n2 nr2 (a2.trans m) t hσ hρ, c2 σ2 ρ2 θ2 n2 nr2 m t hσ hρ⟩⟩
    · cases hx
  | [], _ :: _, _, _, _, _, _, hx => by simp [x_mvs] at hx
  | _ :: _, [], _, _, _, _, _, hx => by simp [x_mvs] at hx
/-- the locals: what isn't told needn't be -/
theorem y_mls (q : y_S Γ J S σ ρ ls st h) : ∀ {ps ws : List zV} {xs : mL} {θ θ' : zTh}, y_th S.1.length S.2.1.length θ → y_Ls S.1.length S.2.1.length σ ρ ws xs → x_mvs S θ ps ws = some θ' →
    y_tm θ θ' ∧ y_th S.1.length S.2.1.length θ' ∧ y_Fin S σ ρ θ' (fun σ2 ρ2 θ2 => y_Ls θ2.1.length θ2.2.length (y_ti σ2 θ2) (y_tr ρ2 θ2) ps xs)
  | [], [], xs, θ, θ', ht, hw, hx => by
    unfold x_mvs at hx
    cases hx
    exact ⟨y_tm.refl, ht, fun _ _ _ _ _ _ _ _ _ => ⟨hw.1, fun i v hv => by simp at hv⟩⟩
  | p :: ps, w :: ws, xs, θ, θ', ht, hw, hx => by
    unfold x_mvs at hx
    split at hx
    · next θ1 h1 =>
      cases xs with
      | nil => have := hw.1; simp at this
      | cons x r =>
        have hr : y_Ls S.1.length S.2.1.length σ ρ ws r := ⟨by have := hw.1; simpa using this, fun i v hv hn => by have := hw.2 (i + 1) v (by simpa using hv) hn; simpa using this⟩
        by_cases hp : p.1 ≤ 4
        · have hn : x_nt w = true := by
            unfold x_mv at h1
            try simp only [x_nth_eq, x_gt_eq, x_sst_eq, xl_any_eq, xl_all_eq, xl_fr_eq, xl_fl_eq] at h1
            split at h1
            · next e => unfold x_nt; rw [e]; rfl
            · next e => unfold x_nt; rw [e]; rfl
            · next e => unfold x_nt; rw [e]; rfl
            · next e => unfold x_nt; rw [e]; rfl
            · next e => unfold x_nt; rw [e]; rfl
            · next e => rw [e] at hp; exact absurd hp (by decide)
            · cases h1
          obtain ⟨y, hy, hv⟩ := hw.2 0 w rfl hn
          have ey : x = some y := by simpa using hy
          subst ey
          obtain ⟨a, b, c⟩ := y_mv q ht hv h1
          obtain ⟨a2, b2, c2⟩ := y_mls q b hr hx
          refine ⟨a.trans a2, b2, fun σ2 ρ2 θ2 n2 nr2 m t hσ hρ => ?_⟩
          have c3 := c2 σ2 ρ2 θ2 n2 nr2 m t hσ hρ
          refine ⟨by rw [List.length_cons, List.length_cons, c3.1], fun i v hv hn => ?_⟩
          cases i with
          | zero =>
            simp only [List.getElem?_cons_zero, Option.some.injEq] at hv
            subst hv
            exact ⟨y, rfl, c σ2 ρ2 θ2 n2 nr2 (a2.trans m) t hσ hρ⟩
          | succ i => simpa using c3.2 i v (by simpa using hv) hn
        · have e1 : θ1 = θ ∧ x_nt p = false := by
            unfold x_mv at h1
            try simp only [x_nth_eq, x_gt_eq, x_sst_eq, xl_any_eq, xl_all_eq, xl_fr_eq, xl_fl_eq] at h1
            split at h1
            · next e _ => rw [e] at hp; exact absurd (by decide) hp
            · next e _ => rw [e] at hp; exact absurd (by decide) hp
            · next e _ => rw [e] at hp; exact absurd (by decide) hp
            · next e _ => rw [e] at hp; exact absurd (by decide) hp
            · next e _ => rw [e] at hp; exact absurd (by decide) hp
            · next e => cases h1; exact ⟨rfl, by unfold x_nt; rw [e]; rfl⟩
            · cases h1
          obtain ⟨e1, e2⟩ := e1
          subst e1
          obtain ⟨a2, b2, c2⟩ := y_mls q ht hr hx
          refine ⟨a2, b2, fun σ2 ρ2 θ2 n2 nr2 m t hσ hρ => ?_⟩
          have c3 := c2 σ2 ρ2 θ2 n2 nr2 m t hσ hρ
          refine ⟨by rw [List.length_cons, List.length_cons, c3.1], fun i v hv hn => ?_⟩
          cases i with
          | zero =>
            simp only [List.getElem?_cons_zero, Option.some.injEq] at hv
            subst hv
            rw [e2] at hn
            cases hn
          | succ i => simpa using c3.2 i v (by simpa using hv) hn
    · cases hx
  | [], _ :: _, _, _, _, _, _, hx => by simp [x_mvs] at hx
  | _ :: _, [], _, _, _, _, _, hx => by simp [x_mvs] at hx
/-- facts -/
theorem x_sq0_seq {S : zS} {a b : zSlot} (h : x_sq0 a b = true) : x_seq S a b = true := by
  unfold x_sq0 at h
  unfold x_seq
  split at h
  · next hb =>
    rw [hb]
    show x_seqO S a b = true
    unfold x_seqO
    split at h
    · next ea eb =>
      rw [ea, eb]
      exact hb
    · next ea eb =>
      rw [ea, eb]
      show x_same S a.2.2 b.2.2 = true
      unfold x_same
      rw [h]
      rfl
    · cases h
  · cases h
theorem x_sfx_ok {r : Nat} {sl : zSlot} {w : zV} {H1 : List zFa} : ∀ {H : List zFa}, x_sfx H r sl = some (w, H1) → ∃ g ∈ H, g.1 = r ∧ x_sq0 g.2.1 sl = true ∧ g.2.2 = w ∧ ∀ g' ∈ H1, g' ∈ H := by
  intro H
  induction H with
  | nil => intro hx; cases hx
  | cons f t ih =>
    intro hx
    have hx : (match Nat.beq f.1 r with
      | true => (match x_sq0 f.2.1 sl with
        | true => some (f.2.2, t)
        | false => x_sfx t r sl)
      | false => x_sfx t r sl) = some (w, H1) := hx
    split at hx
    · next hb =>
      split at hx
      · next hs =>
        cases hx
        exact ⟨f, List.mem_cons_self, Nat.eq_of_beq_eq_true hb, hs, rfl, fun g' hg => List.mem_cons_of_mem _ hg⟩
      · obtain ⟨g, a, b, c, d, e⟩ := ih hx
        exact ⟨g, List.mem_cons_of_mem _ a, b, c, d, fun g' hg => List.mem_cons_of_mem _ (e g' hg)⟩
    · obtain ⟨g, a, b, c, d, e⟩ := ih hx
      exact ⟨g, List.mem_cons_of_mem _ a, b, c, d, fun g' hg => List.mem_cons_of_mem _ (e g' hg)⟩
theorem y_slf (q : y_S Γ J S σ ρ ls st h) (hH : y_H Γ LT h) {g : zFa} {r : Nat} {sl : zSlot} (hin : y_in S.1.length sl.2.2) (hg : y_F S.1.length S.2.1.length σ ρ h g) (e1 : g.1 = r) (hs : x_seq S g.2.1 sl = true) (hl : x_lk0 LT S r sl.1 = true) : ∃ x, y_V S.1.length S.2.1.length σ ρ g.2.2 x ∧ y_Sl S.1.length σ ρ h r sl x := by
  obtain ⟨f1, f2, f3⟩ := hg
  unfold x_lk0 at hl
  split at hl
  · next hlab hb =>
    obtain ⟨a, l, c, h1, h2, h3, h4, h5, h6⟩ := y_lab q hH hlab
    have h7 := f3 a (by rw [e1]; exact h1)
    have hs := x_seq_old hs
    unfold x_seqO at hs
    split at hs
    · next ea eb =>
      rw [ea] at h7
      obtain ⟨ci, gs, y, k1, k2, k3⟩ := h7
      refine ⟨y, k3, ?_⟩
      unfold y_Sl
      rw [hb]
      exact ⟨a, ci, gs, h1, k1, by rw [← Nat.eq_of_beq_eq_true hs]; exact k2⟩
    · next ea eb => rw [eb] at hb; cases hb
    · cases hs
  · next hlab hb =>
    obtain ⟨a, l, c, h1, h2, h3, h4, h5, h6⟩ := y_lab q hH hlab
    obtain ⟨xs, rfl, h8⟩ := h6
    have h7 := f3 a (by rw [e1]; exact h1)
    have hs := x_seq_old hs
    unfold x_seqO at hs
    split at hs
    · next ea eb => rw [eb] at hb; cases hb
    · next ea eb =>
      rw [ea] at h7
      obtain ⟨k0, k1, k2⟩ := h7
      have ez : y_ev σ g.2.1.2.2 = y_ev σ sl.2.2 := y_same q (y_E.of f2) (y_E.of hin) hs
      obtain ⟨i, k3, k4⟩ := k1 _ xs h5
      refine ⟨mI i, k4, ?_⟩
      have hz : ((y_ev σ sl.2.2).toNat : Int) = y_ev σ sl.2.2 := by omega
      unfold y_Sl
      rw [hb]
      exact ⟨a, _, (y_ev σ sl.2.2).toNat, h1, by rw [hz]; exact y_E.of hin, Or.inl ⟨xs, i, h5, by rw [← ez]; exact k3, rfl⟩⟩
    · cases hs
  · next hlab hb =>
    obtain ⟨a, l, c, h1, h2, h3, h4, h5, h6⟩ := y_lab q hH hlab
    obtain ⟨xs, rfl, h8⟩ := h6
    have h7 := f3 a (by rw [e1]; exact h1)
    have hs := x_seq_old hs
    unfold x_seqO at hs
    split at hs
    · next ea eb => rw [eb] at hb; cases hb
    · next ea eb =>
      rw [ea] at h7
      obtain ⟨k0, k1, k2⟩ := h7
      have ez : y_ev σ g.2.1.2.2 = y_ev σ sl.2.2 := y_same q (y_E.of f2) (y_E.of hin) hs
      obtain ⟨i, k3, k4⟩ := k2 _ xs h5
      refine ⟨mJ i, k4, ?_⟩
      have hz : ((y_ev σ sl.2.2).toNat : Int) = y_ev σ sl.2.2 := by omega
      unfold y_Sl
      rw [hb]
      exact ⟨a, _, (y_ev σ sl.2.2).toNat, h1, by rw [hz]; exact y_E.of hin, Or.inr ⟨xs, i, h5, by rw [← ez]; exact k3, rfl⟩⟩
    · cases hs
  · cases hl
theorem y_mfH : ∀ {fs H : List zFa} {S S1 : zS} {σ : Nat → Int} {ρ : Nat → Option Nat} {θ θ' : zTh}, y_S Γ J S σ ρ ls st h → y_H Γ LT h → (∀ g ∈ H, y_F S.1.length S.2.1.length σ ρ h g) → y_th S.1.length S.2.1.length θ → x_mfH LT S θ H fs = some (S1, θ') →
    ∃ σ' ρ', y_S Γ J S1 σ' ρ' ls st h ∧ y_M S S1 σ σ' ρ ρ' ∧ y_tm θ θ' ∧ y_th S1.1.length S1.2.1.length θ' ∧ y_Fin S1 σ' ρ' θ' (fun σ2 ρ2 θ2 => ∀ f ∈ fs, y_F θ2.1.length θ2.2.length (y_ti σ2 θ2) (y_tr ρ2 θ2) h f)
  | [], H, S, S1, σ, ρ, θ, θ', q, hH, hK, ht, hx => by
    unfold x_mfH at hx
    cases hx
    exact ⟨σ, ρ, q, y_M.refl, y_tm.refl, ht, fun _ _ _ _ _ _ _ _ _ f hf => by simp at hf⟩
  | f :: t, H, S, S1, σ, ρ, θ, θ', q, hH, hK, ht, hx => by
    unfold x_mfH at hx
    try simp only [x_nth_eq, x_gt_eq, x_sst_eq, xl_any_eq, xl_all_eq, xl_fr_eq, xl_fl_eq] at hx
    split at hx
    · next r sl hr hsl =>
      unfold x_ssl at hsl
      simp only [Option.map_eq_some_iff] at hsl
      obtain ⟨e, he, rfl⟩ := hsl
      obtain ⟨e1, e2, e3⟩ := y_se (σ := σ) ht he
      have key : ∀ (w : zV) (S2 : zS) (θ1 : zTh) (H2 : List zFa), (∃ σ' ρ' x, y_S Γ J S2 σ' ρ' ls st h ∧ y_M S S2 σ σ' ρ ρ' ∧ y_V S2.1.length S2.2.1.length σ' ρ' w x ∧ y_Sl S.1.length σ ρ h r (f.2.1.1, f.2.1.2.1, e) x ∧ ∀ g ∈ H2, y_F S2.1.length S2.2.1.length σ' ρ' h g) → x_mv S2 θ f.2.2 w = some θ1 → x_mfH LT S2 θ1 H2 t = some (S1, θ') →
          ∃ σ' ρ', y_S Γ J S1 σ' ρ' ls st h ∧ y_M S S1 σ σ' ρ ρ' ∧ y_tm θ θ' ∧ y_th S1.1.length S1.2.1.length θ' ∧ y_Fin S1 σ' ρ' θ' (fun σ2 ρ2 θ2 => ∀ f' ∈ f :: t, y_F θ2.1.length θ2.2.length (y_ti σ2 θ2) (y_tr ρ2 θ2) h f') := by
        intro w S2 θ1 H2 hE h1 hx
        obtain ⟨σ', ρ', x, g1, g2, g3, g4, g5⟩ := hE
        obtain ⟨a, b, c⟩ := y_mv g1 (ht.mono g2.2.2.1 g2.2.2.2) g3 h1
        obtain ⟨σ'', ρ'', k1, k2, k3, k4, k5⟩ := y_mfH g1 hH g5 b hx
        refine ⟨σ'', ρ'', k1, g2.trans k2, a.trans k3, k4, fun σ2 ρ2 θ2 n2 nr2 m t2 hσ hρ f' hf' => ?_⟩
        rcases List.mem_cons.mp hf' with rfl | hf'
        · have hM := g2.trans k2
          have hσ0 : y_X S.1.length σ σ2 := hM.1.trans hσ hM.2.2.1
          have hρ0 : y_Xr S.2.1.length ρ ρ2 := fun r hr => (hρ r (Nat.lt_of_lt_of_le hr hM.2.2.2)).trans (hM.2.1 r hr)
          have hv2 := c σ2 ρ2 θ2 n2 nr2 (k3.trans m) t2 (k2.1.trans hσ k2.2.2.1) (fun r hr => (hρ r (Nat.lt_of_lt_of_le hr k2.2.2.2)).trans (k2.2.1 r hr))
          have m0 : y_tm θ θ2 := (a.trans k3).trans m
          have he2 := x_se_mono m0 he
          obtain ⟨e4, e5, e6⟩ := y_se (σ := σ2) t2 he2
          have hr2 := m0.2.2.2 _ _ hr
          have hrlt := ht.2 _ _ hr
          have e7 : y_ev (y_ti σ2 θ2) f'.2.1.2.2 = y_ev σ e := by rw [← e5, y_ev_ext e1 hσ0]
          refine ⟨(List.getElem?_eq_some_iff.mp hr2).1, e6, fun a' ha' => ?_⟩
          have hra : ρ r = some a' := by
            unfold y_tr at ha'
            rw [hr2] at ha'
            try dsimp only at ha'
            rw [hρ0 _ hrlt] at ha'
            exact ha'
          unfold y_Sl at g4
          cases hb : f'.2.1.1 with
          | false =>
            rw [hb] at g4
            obtain ⟨a2, ci, fs, q1, q2, q3⟩ := g4
            rw [hra] at q1
            cases q1
            exact ⟨ci, fs, x, q2, q3, hv2⟩
          | true =>
            rw [hb] at g4
            obtain ⟨a2, ty, z, q1, q3, g4⟩ := g4
            rw [hra] at q1
            cases q1
            have hz : y_ev σ e = (z : Int) := q3.2
            try dsimp only
            rw [e7, hz]
            refine ⟨by omega, fun t' xs' hc => ?_, fun t' xs' hc => ?_⟩
            · rcases g4 with ⟨xs, i, q2, q4, rfl⟩ | ⟨xs, i, q2, q4, rfl⟩
              · rw [q2] at hc
                cases hc
                exact ⟨i, q4, hv2⟩
              · rw [q2] at hc
                cases hc
            · rcases g4 with ⟨xs, i, q2, q4, rfl⟩ | ⟨xs, i, q2, q4, rfl⟩
              · rw [q2] at hc
                cases hc
              · rw [q2] at hc
                cases hc
                exact ⟨i, q4, hv2⟩
        · exact k5 σ2 ρ2 θ2 n2 nr2 m t2 hσ hρ f' hf'
      split at hx
      · next w H1 hsf hlk =>
        split at hx
        · next θ1 h1 =>
          obtain ⟨g, hg, gr, gs, rfl, gH⟩ := x_sfx_ok hsf
          obtain ⟨x, x1, x2⟩ := y_slf q hH (sl := (f.2.1.1, f.2.1.2.1, e)) e1 (hK g hg) gr (x_sq0_seq gs) hlk
          exact key _ S θ1 H1 ⟨σ, ρ, x, q, y_M.refl, x1, x2, fun g' hg' => hK g' (gH g' hg')⟩ h1 hx
        · cases hx
      · split at hx
        · next w S2 hrd =>
          split at hx
          · next θ1 h1 =>
            obtain ⟨σ', ρ', x, g1, g2, g3, g4⟩ := y_rd q hH (sl := (f.2.1.1, f.2.1.2.1, e)) e1 hrd
            exact key w S2 θ1 H ⟨σ', ρ', x, g1, g2, g3, g4, fun g hg => (hK g hg).ext g2.1 g2.2.1 g2.2.2.1 g2.2.2.2⟩ h1 hx
          · cases hx
        · cases hx
    · cases hx
theorem y_mf {fs : List zFa} {S S1 : zS} {σ : Nat → Int} {ρ : Nat → Option Nat} {θ θ' : zTh} (q : y_S Γ J S σ ρ ls st h) (hH : y_H Γ LT h) (ht : y_th S.1.length S.2.1.length θ) (hx : x_mf LT S θ fs = some (S1, θ')) :
    ∃ σ' ρ', y_S Γ J S1 σ' ρ' ls st h ∧ y_M S S1 σ σ' ρ ρ' ∧ y_tm θ θ' ∧ y_th S1.1.length S1.2.1.length θ' ∧ y_Fin S1 σ' ρ' θ' (fun σ2 ρ2 θ2 => ∀ f ∈ fs, y_F θ2.1.length θ2.2.length (y_ti σ2 θ2) (y_tr ρ2 θ2) h f) :=
  y_mfH q hH (fun g hg => q.2.2.2.2.2.1 g hg) ht hx
theorem y_mes (q : y_S Γ J S σ ρ ls st h) : ∀ {ps ws : List zL} {θ θ' : zTh}, y_th S.1.length nr θ → (∀ e ∈ ws, y_in S.1.length e) → x_mes S θ ps ws = some θ' →
    y_tm θ θ' ∧ y_th S.1.length nr θ' ∧ ∀ (σ2 : Nat → Int) (θ2 : zTh) (n2 nr2 : Nat), y_tm θ' θ2 → y_th n2 nr2 θ2 → y_X S.1.length σ σ2 → (∀ e ∈ ps, y_in θ2.1.length e) ∧ ps.map (y_ev (y_ti σ2 θ2)) = ws.map (y_ev σ)
  | [], [], θ, θ', ht, _, hx => by
    unfold x_mes at hx
    cases hx
    exact ⟨y_tm.refl, ht, fun _ _ _ _ _ _ _ => ⟨fun e he => by simp at he, rfl⟩⟩
  | p :: ps, w :: ws, θ, θ', ht, hw, hx => by
    unfold x_mes at hx
    split at hx
    · next θ1 h1 =>
      obtain ⟨a, b, f, c, d⟩ := y_me q ht (y_E.of (hw w List.mem_cons_self)) h1
      obtain ⟨a2, b2, c2⟩ := y_mes q b (fun e he => hw e (List.mem_cons_of_mem _ he)) hx
      refine ⟨a.trans a2, b2, fun σ2 θ2 n2 nr2 m t hσ => ?_⟩
      obtain ⟨c3, c4⟩ := c2 σ2 θ2 n2 nr2 m t hσ
      obtain ⟨e4, e5, e6⟩ := y_se (σ := σ2) t (x_se_mono (a2.trans m) c)
      refine ⟨fun e he => ?_, ?_⟩
      · rcases List.mem_cons.mp he with rfl | he
        · exact e6
        · exact c3 e he
      · rw [List.map_cons, List.map_cons, c4, ← e5, y_ev_ext (y_se (σ := σ) b c).1 hσ, d]
    · cases hx
  | [], _ :: _, _, _, _, _, hx => by simp [x_mes] at hx
  | _ :: _, [], _, _, _, _, hx => by simp [x_mes] at hx
theorem y_mt1 (q : y_S Γ J S σ ρ ls st h) {p : zTg} : ∀ {ws : List zTg} {θ θ' : zTh}, y_th S.1.length S.2.1.length θ → (∀ t ∈ ws, y_T J S.1.length σ h t) → x_mt1 S θ p ws = some θ' →
    y_tm θ θ' ∧ y_th S.1.length S.2.1.length θ' ∧ y_Fin S σ ρ θ' (fun σ2 _ θ2 => y_T J θ2.1.length (y_ti σ2 θ2) h p)
  | [], _, _, _, _, hx => by cases hx
  | w :: ws, θ, θ', ht, hw, hx => by
    rw [x_mt1_cons] at hx
    split at hx
    · next hb =>
      have e1 : p.1 = w.1 := Nat.eq_of_beq_eq_true hb
      split at hx
      · next θ1 h1 =>
        cases hx
        have hT := hw w List.mem_cons_self
        obtain ⟨a, b, c⟩ := y_mes q ht hT.1 h1
        refine ⟨a, b, fun σ2 ρ2 θ2 n2 nr2 m t hσ hρ => ?_⟩
        obtain ⟨c1, c2⟩ := c σ2 θ2 n2 nr2 m t hσ
        exact ⟨c1, by rw [e1, c2]; exact hT.2⟩
      · exact y_mt1 q ht (fun t h => hw t (List.mem_cons_of_mem _ h)) hx
    · exact y_mt1 q ht (fun t h => hw t (List.mem_cons_of_mem _ h)) hx
theorem y_mt (q : y_S Γ J S σ ρ ls st h) : ∀ {ps : List zTg} {θ θ' : zTh}, y_th S.1.length S.2.1.length θ → x_mt S θ ps = some θ' →
    y_tm θ θ' ∧ y_th S.1.length S.2.1.length θ' ∧ y_Fin S σ ρ θ' (fun σ2 _ θ2 => ∀ t ∈ ps, y_T J θ2.1.length (y_ti σ2 θ2) h t)
  | [], θ, θ', ht, hx => by
    unfold x_mt at hx
    cases hx
    exact ⟨y_tm.refl, ht, fun _ _ _ _ _ _ _ _ _ t h => by simp at h⟩
  | p :: ps, θ, θ', ht, hx => by
    unfold x_mt at hx
    split at hx
    · next θ1 h1 =>
      obtain ⟨a, b, c⟩ := y_mt1 q ht q.2.2.2.2.2.2 h1
      obtain ⟨a2, b2, c2⟩ := y_mt q b hx
      refine ⟨a.trans a2, b2, fun σ2 ρ2 θ2 n2 nr2 m t hσ hρ t' ht' => ?_⟩
      rcases List.mem_cons.mp ht' with rfl | ht'
      · exact c σ2 ρ2 θ2 n2 nr2 (a2.trans m) t hσ hρ
      · exact c2 σ2 ρ2 θ2 n2 nr2 m t hσ hρ t' ht'
    · cases hx
theorem y_ck2 (q : y_S Γ J S σ ρ ls st h) {p : Int × Int} {f : zL} (hin : y_in S.1.length f) (hx : x_ck2 S p f = true) : p.1 ≤ y_ev σ f ∧ y_ev σ f ≤ p.2 := by
  unfold x_ck2 at hx
  split at hx
  · next hc =>
    unfold x_ck1 at hc
    try simp only [x_nth_eq, x_gt_eq, x_sst_eq, xl_any_eq, xl_all_eq, xl_fr_eq, xl_fl_eq] at hc
    split at hc
    · next b c hf =>
      split at hc
      · next w hz hw =>
        simp only [Bool.and_eq_true] at hz hc
        have c1 := zo1_iff hz.1
        have c2 := zz_iff.mp hz.2
        have c3 := zge_iff.mp hc.1
        have c4 := zge_iff.mp hc.2
        obtain ⟨g1, g2⟩ := q.1 b w hw
        have ev : y_ev σ f = σ b := by
          unfold y_ev
          rw [hf, c2, c1]
          simp [y_el]
        rw [ev]
        omega
      · cases hc
    · cases hc
  · simp only [Bool.and_eq_true] at hx
    have hE := y_E.of (σ := σ) hin
    have h1 := q.has (hE.inc (-p.1)) hx.1
    have h2 := q.has (hE.neg.inc p.2) hx.2
    omega
theorem y_ckI (q : y_S Γ J S σ ρ ls st h) : ∀ {ps : List (Int × Int)} {fs : List (Option zL)}, x_ckI S ps fs = true → (∀ (b : Nat) (f : zL), fs[b]? = some (some f) → y_in S.1.length f) → ps.length = fs.length ∧ ∀ (b : Nat) (p : Int × Int), ps[b]? = some p → ∃ f, fs[b]? = some (some f) ∧ p.1 ≤ y_ev σ f ∧ y_ev σ f ≤ p.2
  | [], [], _, _ => ⟨rfl, fun b p h => by simp at h⟩
  | p :: ps, some f :: fs, hx, hin => by
    unfold x_ckI at hx
    simp only [Bool.and_eq_true] at hx
    obtain ⟨a, b⟩ := y_ckI q (ps := ps) (fs := fs) hx.2 (fun b f h => hin (b + 1) f (by simpa using h))
    refine ⟨by simp [a], fun i p' hp => ?_⟩
    cases i with
    | zero =>
      simp only [List.getElem?_cons_zero, Option.some.injEq] at hp
      subst hp
      exact ⟨f, rfl, y_ck2 q (hin 0 f rfl) hx.1⟩
    | succ i => simpa using b i p' (by simpa using hp)
  | [], _ :: _, hx, _ => by simp [x_ckI] at hx
  | _ :: _, [], hx, _ => by simp [x_ckI] at hx
  | _ :: _, none :: _, hx, _ => by simp [x_ckI] at hx
theorem y_ckR (q : y_S Γ J S σ ρ ls st h) : ∀ {ps : List (Nat × Bool)} {fs : List (Option Nat)}, x_ckR S ps fs = true → ps.length = fs.length ∧ ∀ (b : Nat) (p : Nat × Bool), ps[b]? = some p → ∃ r, fs[b]? = some (some r) ∧ match ρ r with
      | none => p.2 = true
      | some a => Γ[a]? = some p.1
  | [], [], _ => ⟨rfl, fun b p h => by simp at h⟩
  | p :: ps, some r :: fs, hx => by
    unfold x_ckR at hx
    try simp only [x_nth_eq, x_gt_eq, x_sst_eq, xl_any_eq, xl_all_eq, xl_fr_eq, xl_fl_eq] at hx
    simp only [Bool.and_eq_true] at hx
    obtain ⟨a, b⟩ := y_ckR q (ps := ps) (fs := fs) hx.2
    refine ⟨by simp [a], fun i p' hp => ?_⟩
    cases i with
    | zero =>
      simp only [List.getElem?_cons_zero, Option.some.injEq] at hp
      subst hp
      refine ⟨r, rfl, ?_⟩
      have h1 := hx.1
      split at h1
      · next lab nul hl =>
        have h2 := q.2.1 r _ hl
        simp only [Bool.and_eq_true, Bool.or_eq_true, Bool.not_eq_true'] at h1
        have e1 : lab = p.1 := Nat.eq_of_beq_eq_true h1.1
        cases hρ : ρ r with
        | none =>
          rw [hρ] at h2
          try dsimp only at h2 ⊢
          rcases h1.2 with h3 | h3
          · rw [h2] at h3; cases h3
          · exact h3
        | some a' =>
          rw [hρ] at h2
          try dsimp only at h2 ⊢
          rw [← e1]
          exact h2
      · cases h1
    | succ i => simpa using b i p' (by simpa using hp)
  | [], _ :: _, hx => by simp [x_ckR] at hx
  | _ :: _, [], hx => by simp [x_ckR] at hx
  | _ :: _, none :: _, hx => by simp [x_ckR] at hx
/-- THE MATCH: what S tells of the machine, the pattern P tells too -/
theorem y_mat (q : y_S Γ J S σ ρ ls st h) (hH : y_H Γ LT h) {θ0 θ : zTh} {P S1 : zS} (ht : y_th S.1.length S.2.1.length θ0) (hx : x_mat LT S θ0 P = some (S1, θ)) :
    ∃ σ' ρ', y_S Γ J S1 σ' ρ' ls st h ∧ y_M S S1 σ σ' ρ ρ' ∧ y_tm θ0 θ ∧ y_th S1.1.length S1.2.1.length θ ∧ y_S Γ J P (y_ti σ' θ) (y_tr ρ' θ) ls st h ∧ θ.1.length = P.1.length ∧ θ.2.length = P.2.1.length := by
  unfold x_mat at hx
  split at hx
  · cases hx
  · next θ1 h1 =>
    split at hx
    · cases hx
    · next θ2 h2 =>
      split at hx
      · cases hx
      split at hx
      · cases hx
      · next S2 θ3 h3 =>
        split at hx
        · cases hx
        · next θ4 h4 =>
          split at hx
          · next hc =>
            cases hx
            simp only [Bool.and_eq_true] at hc
            obtain ⟨⟨hc1, hc2⟩, hc3⟩ := hc
            obtain ⟨a1, b1, c1⟩ := y_mls q ht q.2.2.2.1 h1
            obtain ⟨a2, b2, c2⟩ := y_mvs q b1 q.2.2.2.2.1 h2
            obtain ⟨σ', ρ', q3, hM, a3, b3, c3⟩ := y_mf q hH b2 h3
            obtain ⟨a4, b4, c4⟩ := y_mt q3 b3 h4
            obtain ⟨l1, k1⟩ := y_ckI q3 hc1 b4.1
            obtain ⟨l2, k2⟩ := y_ckR q3 hc2
            refine ⟨σ', ρ', q3, hM, ((a1.trans a2).trans a3).trans a4, b4, ⟨fun b p hp => ?_, fun r p hp => ?_, fun e he => ?_, ?_, ?_, ?_, ?_⟩, l1.symm, l2.symm⟩
            · obtain ⟨f, g1, g2⟩ := k1 b p hp
              unfold y_ti
              rw [g1]
              exact g2
            · obtain ⟨f, g1, g2⟩ := k2 r p hp
              unfold y_tr
              rw [g1]
              exact g2
            · have := List.all_eq_true.mp hc3 e he
              split at this
              · next f hf =>
                obtain ⟨e1, e2, e3⟩ := y_se (σ := σ') b4 hf
                refine ⟨by rw [l1]; exact e3, ?_⟩
                rw [← e2]
                exact q3.has (y_E.of e1) this
              · cases this
            · rw [l1, l2]
              exact (c1.mono ((a2.trans a3).trans a4) hM) σ' ρ' _ _ _ y_tm.refl b4 (fun _ _ => rfl) (fun _ _ => rfl)
            · rw [l1, l2]
              exact (c2.mono (a3.trans a4) hM) σ' ρ' _ _ _ y_tm.refl b4 (fun _ _ => rfl) (fun _ _ => rfl)
            · rw [l1, l2]
              exact (c3.mono a4 y_M.refl) σ' ρ' _ _ _ y_tm.refl b4 (fun _ _ => rfl) (fun _ _ => rfl)
            · rw [l1]
              exact c4 σ' ρ' _ _ _ y_tm.refl b4 (fun _ _ => rfl) (fun _ _ => rfl)
          · cases hx
end ZS7
end
