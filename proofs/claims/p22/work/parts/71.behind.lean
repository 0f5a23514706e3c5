noncomputable section
/-! ===== the reader is right: behind a call ===== -/
section ZS9
variable {Γ : List Nat} {LT : List zLab} {J : Nat → List Int → mH → Prop} {σ σ' : Nat → Int} {ρ ρ' : Nat → Option Nat} {S S' : zS} {h h' : mH} {ls : mL} {st : List mV} {n n' nr nr' : Nat}
theorem x_key_keep {cl : List zKey} (q : y_S Γ J S σ ρ ls st h) (hF : y_Fr Γ cl h h') {f : zFa} (hf : f ∈ x_keep S cl) : y_F S.1.length S.2.1.length σ ρ h' f := by
  have hf : f ∈ S.2.2.2.2.2.1.filter (fun f => match S.2.1[f.1]? with
      | some (lab, _) => !(x_kin cl (x_key lab f.2.1))
      | none => false) := by
    cases cl with
    | nil =>
      have h1 : f ∈ S.2.2.2.2.2.1 := hf
      obtain ⟨g1, -, -⟩ := q.2.2.2.2.2.1 f h1
      refine List.mem_filter.mpr ⟨h1, ?_⟩
      cases hx : S.2.1[f.1]? with
      | none => exact absurd (List.getElem?_eq_none_iff.mp hx) (by omega)
      | some p =>
        obtain ⟨lab, b⟩ := p
        show (!(x_kin [] (x_key lab f.2.1))) = true
        rw [x_kin_eq]
        rfl
    | cons a b =>
      unfold x_keep at hf
      simp only [x_nth_eq, xl_fl_eq] at hf
      exact hf
  obtain ⟨hf1, hf2⟩ := List.mem_filter.mp hf
  obtain ⟨f1, f2, f3⟩ := q.2.2.2.2.2.1 f hf1
  refine ⟨f1, f2, fun a ha => ?_⟩
  have f4 := f3 a ha
  split at hf2
  · next lab b hr =>
    have hΓ : Γ[a]? = some lab := by
      have := q.2.1 f.1 _ hr
      rw [ha] at this
      exact this
    simp only [Bool.not_eq_true'] at hf2
    unfold x_key at hf2
    cases hb : f.2.1.1 with
    | false =>
      rw [hb] at f4 hf2
      obtain ⟨ci, fs, x, g1, g2, g3⟩ := f4
      obtain ⟨c', k1, k2⟩ := hF.2 a lab _ hΓ g1
      obtain ⟨fs', rfl, k3, k4⟩ := k2
      exact ⟨ci, fs', x, k1, by rw [k4 _ hf2]; exact g2, g3⟩
    | true =>
      rw [hb] at f4 hf2
      have back : ∀ {t : Nat} {arr : mA}, h'[a]? = some (.inr (t, arr)) → h[a]? = some (.inr (t, arr)) := by
        intro t arr hx
        have hlt : a < h.length := by rw [← hF.1]; exact (List.getElem?_eq_some_iff.mp hx).1
        obtain ⟨c', k1, k2⟩ := hF.2 a lab _ hΓ (List.getElem?_eq_getElem hlt)
        rw [hx] at k1
        cases k1
        have hc := List.getElem?_eq_getElem hlt
        generalize h[a] = c at hc k2
        rcases c with ⟨ci, fs⟩ | ⟨t0, arr⟩
        · obtain ⟨fs', k3, -⟩ := k2
          cases k3
        · have := k2.2 hf2
          cases this
          exact hc
      exact ⟨f4.1, fun t xs hx => f4.2.1 t xs (back hx), fun t xs hx => f4.2.2 t xs (back hx)⟩
  · cases hf2
theorem y_Es {σ τ : Nat → Int} {θ : zTh} (ht : y_th n nr θ) {e f : zL} (hx : x_se θ e = some f) (he : ∀ t ∈ e.2, y_ti σ θ t.1 = τ t.1) : y_in n f ∧ y_ev σ f = y_ev τ e := by
  obtain ⟨a, b, -⟩ := y_se (σ := σ) ht hx
  refine ⟨a, b.trans ?_⟩
  unfold y_ev
  congr 1
  have : ∀ l : List (Nat × Int), (∀ t ∈ l, y_ti σ θ t.1 = τ t.1) → y_el (y_ti σ θ) l = y_el τ l := by
    intro l
    induction l with
    | nil => intro _; rfl
    | cons t r ih =>
      intro hl
      simp only [y_el, List.foldr_cons] at ih ⊢
      rw [ih fun t ht => hl t (List.mem_cons_of_mem _ ht), hl t List.mem_cons_self]
  exact this e.2 he
/-- what a state P over τ tells, told over σ by θ -/
def y_ag (N Nr : Nat) (σ τ : Nat → Int) (ρ τr : Nat → Option Nat) (θ : zTh) : Prop := (∀ b, b < N → y_ti σ θ b = τ b) ∧ ∀ r, r < Nr → ∀ q, θ.2[r]? = some (some q) → ρ q = τr r
theorem y_sv {τ : Nat → Int} {τr : Nat → Option Nat} {θ : zTh} {N Nr : Nat} (ht : y_th n nr θ) (ha : y_ag N Nr σ τ ρ τr θ) {v w : zV} {x : mV} (hv : y_V N Nr τ τr v x) (hx : x_sv θ v = some w) : y_V n nr σ ρ w x := by
  unfold x_sv at hx
  try simp only [x_nth_eq, x_gt_eq, x_sst_eq, xl_any_eq, xl_all_eq, xl_fr_eq, xl_fl_eq] at hx
  unfold y_V at hv
  split at hx
  · next e =>
    rw [e] at hv
    obtain ⟨i, rfl, h1, h2⟩ := hv
    simp only [Option.map_eq_some_iff] at hx
    obtain ⟨f, hf, rfl⟩ := hx
    obtain ⟨a, b⟩ := y_Es (σ := σ) (τ := τ) ht hf (fun t ht => ha.1 _ (h1 t ht))
    exact ⟨i, rfl, a, b.trans h2⟩
  · next e =>
    rw [e] at hv
    obtain ⟨i, rfl, h1, h2⟩ := hv
    simp only [Option.map_eq_some_iff] at hx
    obtain ⟨f, hf, rfl⟩ := hx
    obtain ⟨a, b⟩ := y_Es (σ := σ) (τ := τ) ht hf (fun t ht => ha.1 _ (h1 t ht))
    exact ⟨i, rfl, a, b.trans h2⟩
  · next e =>
    rw [e] at hv
    obtain ⟨h1, rfl⟩ := hv
    split at hx
    · next r hr =>
      cases hx
      exact ⟨ht.2 _ _ hr, by rw [← ha.2 _ h1 _ hr]; rfl⟩
    · cases hx
  · next e0 e1 e2 =>
    cases hx
    unfold y_V
    split
    · next e => exact absurd e e0
    · next e => exact absurd e e1
    · next e => exact absurd e e2
    · next e => rw [e] at hv; exact hv
    · next e => rw [e] at hv; exact hv
    · trivial
theorem y_svs {τ : Nat → Int} {τr : Nat → Option Nat} {θ : zTh} {N Nr : Nat} (ht : y_th n nr θ) (ha : y_ag N Nr σ τ ρ τr θ) : ∀ {vs ws : List zV} {xs : List mV}, y_Vs N Nr τ τr vs xs → x_all (x_sv θ) vs = some ws → y_Vs n nr σ ρ ws xs
  | [], ws, xs, hv, hx => by
    unfold x_all at hx
    cases hx
    rw [hv.nil]
    trivial
  | v :: vs, ws, xs, hv, hx => by
    unfold x_all at hx
    split at hx
    · next w l h1 h2 =>
      cases hx
      obtain ⟨x, r, rfl, g1, g2⟩ := hv.cons
      exact ⟨y_sv ht ha g1 h1, y_svs ht ha g2 h2⟩
    · cases hx
theorem x_all_mem {α β : Type} {f : α → Option β} : ∀ {l : List α} {m : List β}, x_all f l = some m → ∀ b ∈ m, ∃ a ∈ l, f a = some b
  | [], m, hx, b, hb => by
    unfold x_all at hx
    cases hx
    simp at hb
  | a :: t, m, hx, b, hb => by
    unfold x_all at hx
    split at hx
    · next c l h1 h2 =>
      cases hx
      rcases List.mem_cons.mp hb with rfl | hb
      · exact ⟨a, List.mem_cons_self, h1⟩
      · obtain ⟨a', g1, g2⟩ := x_all_mem h2 b hb
        exact ⟨a', List.mem_cons_of_mem _ g1, g2⟩
    · cases hx
theorem y_sf {τ : Nat → Int} {τr : Nat → Option Nat} {θ : zTh} {N Nr : Nat} (ht : y_th n nr θ) (ha : y_ag N Nr σ τ ρ τr θ) {f g : zFa} (hf : y_F N Nr τ τr h f) (hx : x_sf θ f = some g) : y_F n nr σ ρ h g := by
  unfold x_sf at hx
  try simp only [x_nth_eq, x_gt_eq, x_sst_eq, xl_any_eq, xl_all_eq, xl_fr_eq, xl_fl_eq] at hx
  split at hx
  · next r sl v hr hsl hv =>
    cases hx
    unfold x_ssl at hsl
    simp only [Option.map_eq_some_iff] at hsl
    obtain ⟨e, he, rfl⟩ := hsl
    obtain ⟨f1, f2, f3⟩ := hf
    obtain ⟨a, b⟩ := y_Es (σ := σ) (τ := τ) ht he (fun t ht => ha.1 _ (f2 t ht))
    refine ⟨ht.2 _ _ hr, a, fun c hc => ?_⟩
    try dsimp only at hc ⊢
    have f4 := f3 c (by rw [← ha.2 _ f1 _ hr]; exact hc)
    rw [b]
    cases hb : f.2.1.1 with
    | false =>
      rw [hb] at f4
      obtain ⟨ci, fs, x, g1, g2, g3⟩ := f4
      exact ⟨ci, fs, x, g1, g2, y_sv ht ha g3 hv⟩
    | true =>
      rw [hb] at f4
      refine ⟨f4.1, fun t xs hx => ?_, fun t xs hx => ?_⟩
      · obtain ⟨i, g1, g2⟩ := f4.2.1 t xs hx
        exact ⟨i, g1, y_sv ht ha g2 hv⟩
      · obtain ⟨i, g1, g2⟩ := f4.2.2 t xs hx
        exact ⟨i, g1, y_sv ht ha g2 hv⟩
  · cases hx
theorem y_sg {τ : Nat → Int} {τr : Nat → Option Nat} {θ : zTh} {N Nr : Nat} (ht : y_th n nr θ) (ha : y_ag N Nr σ τ ρ τr θ) {t u : zTg} (hf : y_T J N τ h t) (hx : x_sg θ t = some u) : y_T J n σ h u := by
  unfold x_sg at hx
  simp only [Option.map_eq_some_iff] at hx
  obtain ⟨l, hl, rfl⟩ := hx
  have key : ∀ (es : List zL) (l : List zL), (∀ e ∈ es, y_in N e) → es.foldr (fun e acc => match x_se θ e, acc with
      | some f, some g => some (f :: g)
      | _, _ => none) (some []) = some l → (∀ e ∈ l, y_in n e) ∧ l.map (y_ev σ) = es.map (y_ev τ) := by
    intro es
    induction es with
    | nil =>
      intro l _ h
      simp only [List.foldr_nil, Option.some.injEq] at h
      subst h
      exact ⟨fun e he => by simp at he, rfl⟩
    | cons e r ih =>
      intro l hin h
      simp only [List.foldr_cons] at h
      split at h
      · next f g h1 h2 =>
        cases h
        obtain ⟨a, b⟩ := ih g (fun e he => hin e (List.mem_cons_of_mem _ he)) h2
        obtain ⟨c, d⟩ := y_Es (σ := σ) (τ := τ) ht h1 (fun t ht => ha.1 _ (hin e List.mem_cons_self t ht))
        refine ⟨fun e' he' => ?_, by rw [List.map_cons, List.map_cons, b, d]⟩
        rcases List.mem_cons.mp he' with rfl | he'
        · exact c
        · exact a e' he'
      · cases h
  obtain ⟨a, b⟩ := key t.2 l hf.1 hl
  exact ⟨a, by show J t.1 (l.map (y_ev σ)) h; rw [b]; exact hf.2⟩
/-- sums that are not negative, noted one after the other -/
theorem y_asl : ∀ {es : List zL} {S : zS}, y_S Γ J S σ ρ ls st h → (∀ e ∈ es, y_in S.1.length e ∧ 0 ≤ y_ev σ e) → ∃ S1, x_asl S es = some S1 ∧ y_S Γ J S1 σ ρ ls st h ∧ y_M S S1 σ σ ρ ρ
  | [], S, q, _ => ⟨S, rfl, q, y_M.refl⟩
  | e :: t, S, q, he => by
    obtain ⟨h1, h2⟩ := he e List.mem_cons_self
    obtain ⟨S1, g1, g2, g3, -⟩ := q.as (y_E.of h1) h2
    obtain ⟨S2, k1, k2, k3⟩ := y_asl (es := t) g2 (fun e he' => by
      obtain ⟨a, b⟩ := he e (List.mem_cons_of_mem _ he')
      exact ⟨y_in_le a g3.2.2.1, b⟩)
    refine ⟨S2, ?_, k2, g3.trans k3⟩
    unfold x_asl
    rw [g1]
    exact k1
theorem y_un (q : y_S Γ J S σ ρ ls st h) (hH : y_H Γ LT h) {kept : List zFa} (hk : ∀ f ∈ kept, y_F S.1.length S.2.1.length σ ρ h f) : ∀ {fs : List zFa}, (∀ f ∈ fs, y_F S.1.length S.2.1.length σ ρ h f) → ∀ e ∈ x_un LT S kept fs, y_in S.1.length e ∧ 0 ≤ y_ev σ e
  | [], _, e, he => by simp [x_un] at he
  | f :: t, hf, e, he => by
    have ih := y_un q hH hk (fs := t) (fun f h => hf f (List.mem_cons_of_mem _ h))
    obtain ⟨f1, f2, f3⟩ := hf f List.mem_cons_self
    have both : ∀ {x : mV} {nn : Nat} {w : zL}, y_Sl S.1.length σ ρ h f.1 f.2.1 x → y_V S.1.length S.2.1.length σ ρ f.2.2 x → f.2.2.1 = 0 → x_find S kept f.1 f.2.1 = some (0, nn, w) → ∀ e ∈ x_sub f.2.2.2.2 w :: x_sub w f.2.2.2.2 :: x_un LT S kept t, y_in S.1.length e ∧ 0 ≤ y_ev σ e := by
      intro x nn w hs hv h0 hfi e he
      obtain ⟨i, rfl, k1, k2⟩ := y_find q hs kept hk hfi
      unfold y_V at hv
      rw [h0] at hv
      obtain ⟨i', e1, k3, k4⟩ := hv
      cases e1
      try dsimp only at k1 k2
      rcases List.mem_cons.mp he with rfl | he
      · exact ⟨y_in_sub k3 k1, by rw [y_ev_sub]; omega⟩
      · rcases List.mem_cons.mp he with rfl | he
        · exact ⟨y_in_sub k1 k3, by rw [y_ev_sub]; omega⟩
        · exact ih e he
    have bothJ : ∀ {x : mV} {nn : Nat} {w : zL}, y_Sl S.1.length σ ρ h f.1 f.2.1 x → y_V S.1.length S.2.1.length σ ρ f.2.2 x → f.2.2.1 = 1 → x_find S kept f.1 f.2.1 = some (1, nn, w) → ∀ e ∈ x_sub f.2.2.2.2 w :: x_sub w f.2.2.2.2 :: x_un LT S kept t, y_in S.1.length e ∧ 0 ≤ y_ev σ e := by
      intro x nn w hs hv h0 hfi e he
      obtain ⟨i, rfl, k1, k2⟩ := y_find q hs kept hk hfi
      unfold y_V at hv
      rw [h0] at hv
      obtain ⟨i', e1, k3, k4⟩ := hv
      cases e1
      try dsimp only at k1 k2
      rcases List.mem_cons.mp he with rfl | he
      · exact ⟨y_in_sub k3 k1, by rw [y_ev_sub]; omega⟩
      · rcases List.mem_cons.mp he with rfl | he
        · exact ⟨y_in_sub k1 k3, by rw [y_ev_sub]; omega⟩
        · exact ih e he
    unfold x_un at he
    split at he
    · next nn w _ _ _ hfi h0 hl hb =>
      obtain ⟨a, l, c, h1, -⟩ := y_lab q hH hl
      have f4 := f3 a h1
      rw [hb] at f4
      obtain ⟨ci, fs, x, g1, g2, g3⟩ := f4
      exact both (x := x) (by unfold y_Sl; rw [hb]; exact ⟨a, ci, fs, h1, g1, g2⟩) g3 h0 hfi e he
    · next nn w _ _ _ hfi h0 hl hb =>
      obtain ⟨a, l, c, h1, h2, h3, h4, h5, h6⟩ := y_lab q hH hl
      obtain ⟨xs, rfl, -⟩ := h6
      have f4 := f3 a h1
      rw [hb] at f4
      obtain ⟨i, g1, g2⟩ := f4.2.1 _ _ h5
      exact both (x := mI i) (by unfold y_Sl; rw [hb]; exact ⟨a, _, (y_ev σ f.2.1.2.2).toNat, h1, ⟨f2, by have := f4.1; omega⟩, Or.inl ⟨xs, i, h5, g1, rfl⟩⟩) g2 h0 hfi e he
    · next nn w _ _ _ hfi h0 hl hb =>
      obtain ⟨a, l, c, h1, -⟩ := y_lab q hH hl
      have f4 := f3 a h1
      rw [hb] at f4
      obtain ⟨ci, fs, x, g1, g2, g3⟩ := f4
      exact bothJ (x := x) (by unfold y_Sl; rw [hb]; exact ⟨a, ci, fs, h1, g1, g2⟩) g3 h0 hfi e he
    · next nn w _ _ _ hfi h0 hl hb =>
      obtain ⟨a, l, c, h1, h2, h3, h4, h5, h6⟩ := y_lab q hH hl
      obtain ⟨xs, rfl, -⟩ := h6
      have f4 := f3 a h1
      rw [hb] at f4
      obtain ⟨i, g1, g2⟩ := f4.2.2 _ _ h5
      exact bothJ (x := mJ i) (by unfold y_Sl; rw [hb]; exact ⟨a, _, (y_ev σ f.2.1.2.2).toNat, h1, ⟨f2, by have := f4.1; omega⟩, Or.inr ⟨xs, i, h5, g1, rfl⟩⟩) g2 h0 hfi e he
    · exact ih e he
theorem y_rgs {P : List (Int × Int)} {τ : Nat → Int} (hP : y_rg P τ) : ∀ {fs : List (Option zL)} {ps : List (Int × Int)} {qs : List (Int × Int)} {l : List zL} (k : Nat), (∀ (b : Nat) (f : zL), fs[b]? = some (some f) → y_in n f ∧ y_ev σ f = τ (k + b)) → (∀ (b : Nat) (p : Int × Int), qs[b]? = some p → P[k + b]? = some p) → x_rgs fs ps qs = some l → ∀ e ∈ l, y_in n e ∧ 0 ≤ y_ev σ e
  | some f :: fs, p :: ps, q :: qs, l, k, hf, hq, hx, e, he => by
    unfold x_rgs at hx
    split at hx
    · next l' hl' =>
      cases hx
      obtain ⟨f1, f2⟩ := hf 0 f rfl
      have hr := hP (k + 0) q (hq 0 q rfl)
      rcases List.mem_append.mp he with he | he
      · rcases List.mem_append.mp he with he | he
        · split at he
          · simp only [List.mem_singleton] at he
            subst he
            exact ⟨y_in_inc f1, by rw [y_ev_inc, f2]; omega⟩
          · simp at he
        · split at he
          · simp only [List.mem_singleton] at he
            subst he
            exact ⟨y_in_inc (y_in_scl f1), by rw [y_ev_inc, y_ev_scl, f2]; omega⟩
          · simp at he
      · exact y_rgs hP (k + 1) (fun b f h => by
          have := hf (b + 1) f (by simpa using h)
          rw [show k + 1 + b = k + (b + 1) by omega]
          exact this) (fun b p h => by
          rw [show k + 1 + b = k + (b + 1) by omega]
          exact hq (b + 1) p (by simpa using h)) hl' e he
    · cases hx
  | [], [], qs, l, k, _, _, hx, e, he => by
    unfold x_rgs at hx
    cases hx
    simp at he
  | [], _ :: _, _, _, _, _, _, hx, _, _ => by simp [x_rgs] at hx
  | none :: _, _, _, _, _, _, _, hx, _, _ => by simp [x_rgs] at hx
  | some _ :: _, [], _, _, _, _, _, hx, _, _ => by simp [x_rgs] at hx
  | some _ :: _, _ :: _, [], _, _, _, _, hx, _, _ => by simp [x_rgs] at hx
/-- behind a call that has ended as P says -/
theorem y_app {TC : zTC} (hTC : y_TC Γ LT J TC) (q : y_S Γ J S σ ρ ls st h) (hH : y_H Γ LT h) (hH' : y_H Γ LT h') {θ : zTh} {P0 P : zS} {cl : List zKey} (hF : y_Fr Γ cl h h') (ht : y_th S.1.length S.2.1.length θ) (hl1 : θ.1.length = P0.1.length) (hl2 : θ.2.length = P0.2.1.length) (hP1 : P0.1.length ≤ P.1.length) (hP2 : P0.2.1.length ≤ P.2.1.length) {τ : Nat → Int} {τr : Nat → Option Nat} (hb : ∀ (b : Nat), b < P0.1.length → ∃ f, θ.1[b]? = some (some f) ∧ y_ev σ f = τ b) (hr : ∀ (r : Nat), r < P0.2.1.length → ∃ w, θ.2[r]? = some (some w) ∧ ρ w = τr r) {v : List mV} (hq : y_S Γ J P τ τr [] v h') {rest : List zV} {rest' : List mV} (hrest : y_Vs S.1.length S.2.1.length σ ρ rest rest') {l : List zS} (hx : x_app LT TC S θ P0 cl P rest = some l) : ∃ S1, S1 ∈ l ∧ y_N Γ J S σ ρ S1 ls (v ++ rest') h' := by
  unfold x_app at hx
  try simp only [x_nth_eq, x_gt_eq, x_sst_eq, xl_any_eq, xl_all_eq, xl_fr_eq, xl_fl_eq] at hx
  split at hx
  · next rg cs fs ts vs e1 e2 e3 e4 e5 =>
    have hσ2 : ∃ σ2 : Nat → Int, (∀ b, b < S.1.length → σ2 b = σ b) ∧ ∀ j, σ2 (S.1.length + j) = τ (P0.1.length + j) := ⟨fun b => if b < S.1.length then σ b else τ (P0.1.length + (b - S.1.length)), fun b hb => if_pos hb, fun j => by dsimp only; rw [if_neg (by omega)]; congr 1; omega⟩
    have hρ2 : ∃ ρ2 : Nat → Option Nat, (∀ b, b < S.2.1.length → ρ2 b = ρ b) ∧ ∀ j, ρ2 (S.2.1.length + j) = τr (P0.2.1.length + j) := ⟨fun b => if b < S.2.1.length then ρ b else τr (P0.2.1.length + (b - S.2.1.length)), fun b hb => if_pos hb, fun j => by dsimp only; rw [if_neg (by omega)]; congr 1; omega⟩
    obtain ⟨σ2, s1, s2⟩ := hσ2
    obtain ⟨ρ2, r1, r2⟩ := hρ2
    generalize hθ : x_thx S θ P0 P = θ2 at e2 e3 e4 e5
    have hn : (S.1 ++ P.1.drop P0.1.length).length = S.1.length + (P.1.length - P0.1.length) := by rw [List.length_append, List.length_drop]
    have hnr : (S.2.1 ++ P.2.1.drop P0.2.1.length).length = S.2.1.length + (P.2.1.length - P0.2.1.length) := by rw [List.length_append, List.length_drop]
    have old1 : ∀ b, b < P0.1.length → θ2.1[b]? = θ.1[b]? := fun b hb => by
      rw [← hθ]
      exact List.getElem?_append_left (by rw [hl1]; exact hb)
    have new1 : ∀ j, j < P.1.length - P0.1.length → θ2.1[P0.1.length + j]? = some (some (x_b (S.1.length + j))) := fun j hj => by
      rw [← hθ]
      show (θ.1 ++ _)[_]? = _
      rw [List.getElem?_append_right (by rw [hl1]; omega), hl1, Nat.add_sub_cancel_left, List.getElem?_map, List.getElem?_range hj]
      rfl
    have old2 : ∀ b, b < P0.2.1.length → θ2.2[b]? = θ.2[b]? := fun b hb => by
      rw [← hθ]
      exact List.getElem?_append_left (by rw [hl2]; exact hb)
    have new2 : ∀ j, j < P.2.1.length - P0.2.1.length → θ2.2[P0.2.1.length + j]? = some (some (S.2.1.length + j)) := fun j hj => by
      rw [← hθ]
      show (θ.2 ++ _)[_]? = _
      rw [List.getElem?_append_right (by rw [hl2]; omega), hl2, Nat.add_sub_cancel_left, List.getElem?_map, List.getElem?_range hj]
      rfl
    have len1 : θ2.1.length = P.1.length := by rw [← hθ]; show (θ.1 ++ _).length = _; rw [List.length_append, hl1, List.length_map, List.length_range]; omega
    have len2 : θ2.2.length = P.2.1.length := by rw [← hθ]; show (θ.2 ++ _).length = _; rw [List.length_append, hl2, List.length_map, List.length_range]; omega
    have th2 : y_th (S.1 ++ P.1.drop P0.1.length).length (S.2.1 ++ P.2.1.drop P0.2.1.length).length θ2 := by
      refine ⟨fun b f hf => ?_, fun r w hw => ?_⟩
      · rw [hn]
        by_cases c : b < P0.1.length
        · rw [old1 b c] at hf
          exact y_in_le (ht.1 b f hf) (by omega)
        · have hlt := (List.getElem?_eq_some_iff.mp hf).1
          rw [len1] at hlt
          have := new1 (b - P0.1.length) (by omega)
          rw [show P0.1.length + (b - P0.1.length) = b by omega, hf] at this
          cases this
          exact y_in_b (by omega)
      · rw [hnr]
        by_cases c : r < P0.2.1.length
        · rw [old2 r c] at hw
          exact Nat.lt_of_lt_of_le (ht.2 r w hw) (by omega)
        · have hlt := (List.getElem?_eq_some_iff.mp hw).1
          rw [len2] at hlt
          have := new2 (r - P0.2.1.length) (by omega)
          rw [show P0.2.1.length + (r - P0.2.1.length) = r by omega, hw] at this
          cases this
          omega
    have hX : y_X S.1.length σ σ2 := s1
    have hXr : y_Xr S.2.1.length ρ ρ2 := r1
    have ag : y_ag P.1.length P.2.1.length σ2 τ ρ2 τr θ2 := by
      refine ⟨fun b hb' => ?_, fun r hr' w hw => ?_⟩
      · unfold y_ti
        by_cases c : b < P0.1.length
        · obtain ⟨f, g1, g2⟩ := hb b c
          rw [old1 b c, g1]
          try dsimp only
          rw [y_ev_ext (ht.1 b f g1) hX]
          exact g2
        · have := new1 (b - P0.1.length) (by omega)
          rw [show P0.1.length + (b - P0.1.length) = b by omega] at this
          rw [this]
          try dsimp only
          rw [y_ev_b, s2]
          congr 1
          omega
      · by_cases c : r < P0.2.1.length
        · obtain ⟨w', g1, g2⟩ := hr r c
          rw [old2 r c, g1] at hw
          cases hw
          rw [hXr _ (ht.2 _ _ g1)]
          exact g2
        · have := new2 (r - P0.2.1.length) (by omega)
          rw [show P0.2.1.length + (r - P0.2.1.length) = r by omega, hw] at this
          cases this
          rw [r2]
          congr 1
          omega
    have hi : y_rg (S.1 ++ P.1.drop P0.1.length) σ2 := by
      intro b p hp
      by_cases c : b < S.1.length
      · rw [List.getElem?_append_left c] at hp
        rw [hX b c]
        exact q.1 b p hp
      · rw [List.getElem?_append_right (by omega), List.getElem?_drop] at hp
        have := hq.1 _ p hp
        rw [← s2] at this
        rw [show S.1.length + (b - S.1.length) = b by omega] at this
        exact this
    have hs : y_rr Γ (S.2.1 ++ P.2.1.drop P0.2.1.length) ρ2 := by
      intro b p hp
      by_cases c : b < S.2.1.length
      · rw [List.getElem?_append_left c] at hp
        rw [hXr b c]
        exact q.2.1 b p hp
      · rw [List.getElem?_append_right (by omega), List.getElem?_drop] at hp
        have := hq.2.1 _ p hp
        rw [← r2] at this
        rw [show S.2.1.length + (b - S.2.1.length) = b by omega] at this
        exact this
    have ln : S.1.length ≤ (S.1 ++ P.1.drop P0.1.length).length := by omega
    have lnr : S.2.1.length ≤ (S.2.1 ++ P.2.1.drop P0.2.1.length).length := by omega
    have hfs : ∀ f ∈ fs, y_F (S.1 ++ P.1.drop P0.1.length).length (S.2.1 ++ P.2.1.drop P0.2.1.length).length σ2 ρ2 h' f := by
      intro f hf
      obtain ⟨g, g1, g2⟩ := x_all_mem e3 f hf
      exact y_sf th2 ag (hq.2.2.2.2.2.1 g g1) g2
    have hkp : ∀ f ∈ x_keep S cl, y_F (S.1 ++ P.1.drop P0.1.length).length (S.2.1 ++ P.2.1.drop P0.2.1.length).length σ2 ρ2 h' f := fun f hf => (x_key_keep q hF hf).ext hX hXr ln lnr
    have mid : y_S Γ J (x_mid TC S P0 cl P fs ts (vs ++ rest)) σ2 ρ2 ls (v ++ rest') h' := by
      refine ⟨hi, hs, fun e he => ?_, q.2.2.2.1.ext hX hXr ln lnr, (y_svs th2 ag hq.2.2.2.2.1 e5).app (hrest.ext hX hXr ln lnr), fun f hf => ?_, fun t ht' => ?_⟩
      · obtain ⟨a, b⟩ := q.2.2.1 e he
        exact ⟨y_in_le a ln, by rw [y_ev_ext a hX]; exact b⟩
      · rcases List.mem_append.mp hf with hf | hf
        · exact hfs f hf
        · exact hkp f hf
      · rcases List.mem_append.mp ht' with ht' | ht'
        · obtain ⟨g, g1, g2⟩ := x_all_mem e4 t ht'
          exact y_sg th2 ag (hq.2.2.2.2.2.2 g g1) g2
        · obtain ⟨g1, g2⟩ := xl_mem_fl.mp ht'
          obtain ⟨k1, k2⟩ := q.2.2.2.2.2.2 t g1
          refine y_T.ext (σ := σ) ⟨k1, ?_⟩ hX ln
          exact hTC t cl h h' _ g2 hH hH' hF k2
    obtain ⟨S1, g1, g2, g3⟩ := y_asl (es := rg ++ (cs ++ x_un LT (x_mid TC S P0 cl P fs ts (vs ++ rest)) (x_keep S cl) fs)) mid (fun e he => by
      rcases List.mem_append.mp he with he | he
      · have := y_rgs (n := S.1.length) (σ := σ) hq.1 (fs := θ.1) (ps := P0.1) (qs := P.1) 0 (fun b f hf => by
          have hlt := (List.getElem?_eq_some_iff.mp hf).1
          rw [hl1] at hlt
          obtain ⟨f', k1, k2⟩ := hb b hlt
          rw [hf] at k1
          cases k1
          exact ⟨ht.1 b f hf, by rw [k2, Nat.zero_add]⟩) (fun b p hp => by rw [Nat.zero_add]; exact hp) e1 e he
        exact ⟨y_in_le this.1 ln, by rw [y_ev_ext this.1 hX]; exact this.2⟩
      · rcases List.mem_append.mp he with he | he
        · obtain ⟨g, g1, g2⟩ := x_all_mem e2 e he
          obtain ⟨k1, k2⟩ := hq.2.2.1 g g1
          obtain ⟨k3, k4⟩ := y_Es (σ := σ2) (τ := τ) th2 g2 (fun t ht => ag.1 _ (k1 t ht))
          exact ⟨k3, by rw [k4]; exact k2⟩
        · exact y_un mid hH' hkp hfs e he)
    rw [g1] at hx
    cases hx
    exact ⟨S1, List.mem_cons_self, σ2, ρ2, g2, (show y_M S (x_mid TC S P0 cl P fs ts (vs ++ rest)) σ σ2 ρ ρ2 from ⟨hX, hXr, ln, lnr⟩).trans g3⟩
  · cases hx
theorem y_apps {TC : zTC} {θ : zTh} {P0 P : zS} {cl : List zKey} {rest : List zV} : ∀ {Ps : List zS} {l : List zS}, P ∈ Ps → x_apps LT TC S θ P0 cl rest Ps = some l → ∃ l1, x_app LT TC S θ P0 cl P rest = some l1 ∧ ∀ S1 ∈ l1, S1 ∈ l
  | [], _, hP, _ => by simp at hP
  | Q :: t, l, hP, hx => by
    unfold x_apps at hx
    split at hx
    · next a b h1 h2 =>
      cases hx
      rcases List.mem_cons.mp hP with rfl | hP
      · exact ⟨a, h1, fun S1 h => List.mem_append_left _ h⟩
      · obtain ⟨l1, g1, g2⟩ := y_apps hP h2
        exact ⟨l1, g1, fun S1 h => List.mem_append_right _ (g2 S1 h)⟩
    · cases hx
end ZS9
end
