noncomputable section
/-! ===== lemmas as data: what must be known, what is known then; their use is proved right once ===== -/
/-- a lemma: what must be known (its stack: the values that it is asked of), what is known then -/
abbrev zLem : Type := zS × List zS
/-- a value that is asked of: local j, or 64 + j: the stack's j-th -/
def x_sel (S : zS) (j : Nat) : Option zV := match Nat.blt j 64 with
  | true => x_nth S.2.2.2.1 j
  | false => x_nth S.2.2.2.2.1 (j - 64)
/-- the first reference of a label that isn't null -/
def x_rof : List (Nat × Bool) → Nat → Nat → Option Nat
  | [], _, _ => none
  | p :: t, lab, n => match Nat.beq p.1 lab && !p.2 with
    | true => some n
    | false => x_rof t lab (n + 1)
def x_th0 (S P0 : zS) : zTh := (List.replicate P0.1.length none, P0.2.1.map fun p => x_rof S.2.1 p.1 0)
/-- the match of a lemma: the values that it is asked of, the fields, then the sentences, then the places of arrays -/
def x_matl (LT : List zLab) (S : zS) (θ0 : zTh) (vs : List zV) (P : zS) : Option (zS × zTh) := match x_mvs S θ0 P.2.2.2.2.1 vs with
  | none => none
  | some θ1 => match x_mf LT S θ1 (P.2.2.2.2.2.1.filter fun f => !f.2.1.1) with
    | none => none
    | some (S1, θ2) => match x_mt S1 θ2 P.2.2.2.2.2.2 with
      | none => none
      | some θ3 => match x_mf LT S1 θ3 (P.2.2.2.2.2.1.filter fun f => f.2.1.1) with
        | none => none
        | some (S2, θ) => match P.2.2.2.1.isEmpty && x_ckI S2 P.1 θ.1 && x_ckR S2 P.2.1 θ.2 && P.2.2.1.all (fun e => match x_se θ e with
            | some f => x_has S2 f
            | none => false) with
          | true => some (S2, θ)
          | false => none
def x_lem (LT : List zLab) (TC : zTC) (lem : zLem) (sel : List Nat) (S : zS) : Option (List zS) := match x_all (x_sel S) sel with
  | none => some [S]
  | some vs => match vs.all x_nt with
    | false => some [S]
    | true => match x_matl LT S (x_th0 S lem.1) vs lem.1 with
      | none => some [S]
      | some (S1, θ) => match x_apps LT TC (x_st (x_lc S1 S.2.2.2.1) S.2.2.2.2.1) θ lem.1 [] S.2.2.2.2.1 lem.2 with
        | none => some [S]
        | some l => some l
section ZLM
variable {Γ : List Nat} {LT : List zLab} {J : Nat → List Int → mH → Prop} {σ : Nat → Int} {ρ : Nat → Option Nat} {S : zS} {h : mH} {ls : mL} {st : List mV}
/-- a lemma is true -/
def y_Lem (Γ : List Nat) (LT : List zLab) (J : Nat → List Int → mH → Prop) (lem : zLem) : Prop := ∀ (σ : Nat → Int) (ρ : Nat → Option Nat) (a : List mV) (h : mH), y_H Γ LT h → y_S Γ J lem.1 σ ρ [] a h → ∃ P ∈ lem.2, ∃ (τ : Nat → Int) (τr : Nat → Option Nat), y_X lem.1.1.length σ τ ∧ y_Xr lem.1.2.1.length ρ τr ∧ lem.1.1.length ≤ P.1.length ∧ lem.1.2.1.length ≤ P.2.1.length ∧ y_S Γ J P τ τr [] [] h
theorem y_sel (q : y_S Γ J S σ ρ ls st h) : ∀ {sel : List Nat} {vs : List zV}, x_all (x_sel S) sel = some vs → vs.all x_nt = true → ∃ xs, y_Vs S.1.length S.2.1.length σ ρ vs xs
  | [], vs, hx, _ => by
    unfold x_all at hx
    cases hx
    exact ⟨[], trivial⟩
  | j :: t, vs, hx, hn => by
    unfold x_all at hx
    split at hx
    · next v l h1 h2 =>
      cases hx
      simp only [List.all_cons, Bool.and_eq_true] at hn
      obtain ⟨xs, g⟩ := y_sel q h2 hn.2
      unfold x_sel at h1
      try simp only [x_nth_eq, x_gt_eq, x_sst_eq, xl_any_eq, xl_all_eq, xl_fr_eq, xl_fl_eq] at h1
      split at h1
      · obtain ⟨y, -, g2⟩ := q.2.2.2.1.2 _ v h1 hn.1
        exact ⟨y :: xs, g2, g⟩
      · have hT := q.2.2.2.2.1
        have key : ∀ {vs : List zV} {xs : List mV} {i : Nat}, y_Vs S.1.length S.2.1.length σ ρ vs xs → vs[i]? = some v → ∃ y, y_V S.1.length S.2.1.length σ ρ v y := by
          intro vs
          induction vs with
          | nil => intro xs i _ hi; simp at hi
          | cons w r ih =>
            intro xs i hv hi
            obtain ⟨x, r', rfl, k1, k2⟩ := hv.cons
            cases i with
            | zero => simp only [List.getElem?_cons_zero, Option.some.injEq] at hi; subst hi; exact ⟨x, k1⟩
            | succ i => exact ih k2 (by simpa using hi)
        obtain ⟨y, g2⟩ := key hT h1
        exact ⟨y :: xs, g2, g⟩
    · cases hx
theorem x_rof_lt {lab : Nat} : ∀ {l : List (Nat × Bool)} {n k : Nat}, x_rof l lab n = some k → k < n + l.length
  | [], n, k, hx => by cases hx
  | p :: t, n, k, hx => by
    unfold x_rof at hx
    split at hx
    · cases hx
      simp
    · have := x_rof_lt hx
      simp only [List.length_cons]
      omega
theorem y_matl (q : y_S Γ J S σ ρ ls st h) (hH : y_H Γ LT h) {θ0 θ : zTh} {P S1 : zS} {vs : List zV} {xs : List mV} (ht : y_th S.1.length S.2.1.length θ0) (hv : y_Vs S.1.length S.2.1.length σ ρ vs xs) (hx : x_matl LT S θ0 vs P = some (S1, θ)) :
    ∃ σ' ρ', y_S Γ J S1 σ' ρ' ls st h ∧ y_M S S1 σ σ' ρ ρ' ∧ y_tm θ0 θ ∧ y_th S1.1.length S1.2.1.length θ ∧ y_S Γ J P (y_ti σ' θ) (y_tr ρ' θ) [] xs h ∧ θ.1.length = P.1.length ∧ θ.2.length = P.2.1.length ∧ (∀ b, b < P.1.length → ∃ f, θ.1[b]? = some (some f)) ∧ ∀ b, b < P.2.1.length → ∃ f, θ.2[b]? = some (some f) := by
  unfold x_matl at hx
  split at hx
  · cases hx
  · next θ1 h1 =>
    split at hx
    · cases hx
    · next S2 θ2 h2 =>
      split at hx
      · cases hx
      · next θ3 h3 =>
        split at hx
        · cases hx
        · next S3 θ4 h4 =>
          split at hx
          · next hc =>
            cases hx
            simp only [Bool.and_eq_true] at hc
            obtain ⟨⟨⟨hc0, hc1⟩, hc2⟩, hc3⟩ := hc
            have hL : P.2.2.2.1 = [] := List.isEmpty_iff.mp hc0
            obtain ⟨a1, b1, c1⟩ := y_mvs q ht hv h1
            obtain ⟨σ1, ρ1, q1, hM1, a2, b2, c2⟩ := y_mf q hH b1 h2
            obtain ⟨a3, b3, c3⟩ := y_mt q1 b2 h3
            obtain ⟨σ', ρ', q3, hM2, a4, b4, c4⟩ := y_mf q1 hH b3 h4
            obtain ⟨l1, k1⟩ := y_ckI q3 hc1 b4.1
            obtain ⟨l2, k2⟩ := y_ckR q3 hc2
            refine ⟨σ', ρ', q3, hM1.trans hM2, ((a1.trans a2).trans a3).trans a4, b4, ⟨fun b p hp => ?_, fun r p hp => ?_, fun e he => ?_, ?_, ?_, fun f hf => ?_, ?_⟩, l1.symm, l2.symm, fun b hb => ?_, fun b hb => ?_⟩
            · obtain ⟨f, g1, g2⟩ := k1 b p hp
              unfold y_ti
              rw [g1]
              exact g2
            · obtain ⟨f, g1, g2⟩ := k2 r p hp
              unfold y_tr
              rw [g1]
              exact g2
            · have := List.all_eq_true.mp hc3 e he
              split at this
              · next f hf =>
                obtain ⟨e1, e2, e3⟩ := y_se (σ := σ') b4 hf
                refine ⟨by rw [l1]; exact e3, ?_⟩
                rw [← e2]
                exact q3.has (y_E.of e1) this
              · cases this
            · rw [hL]
              exact ⟨rfl, fun i v hv => by simp at hv⟩
            · rw [l1, l2]
              exact (c1.mono ((a2.trans a3).trans a4) (hM1.trans hM2)) σ' ρ' _ _ _ y_tm.refl b4 (fun _ _ => rfl) (fun _ _ => rfl)
            · rw [l1, l2]
              cases hb : f.2.1.1 with
              | false => exact (c2.mono (a3.trans a4) hM2) σ' ρ' _ _ _ y_tm.refl b4 (fun _ _ => rfl) (fun _ _ => rfl) f (List.mem_filter.mpr ⟨hf, by rw [hb]; rfl⟩)
              | true => exact c4 σ' ρ' _ _ _ y_tm.refl b4 (fun _ _ => rfl) (fun _ _ => rfl) f (List.mem_filter.mpr ⟨hf, hb⟩)
            · rw [l1]
              exact (c3.mono a4 hM2) σ' ρ' _ _ _ y_tm.refl b4 (fun _ _ => rfl) (fun _ _ => rfl)
            · obtain ⟨w, w1, -⟩ := k1 b _ (List.getElem?_eq_getElem hb)
              exact ⟨w, w1⟩
            · obtain ⟨w, w1, -⟩ := k2 b _ (List.getElem?_eq_getElem hb)
              exact ⟨w, w1⟩
          · cases hx
theorem y_lem {TC : zTC} (hTC : y_TC Γ LT J TC) {lem : zLem} (hL : y_Lem Γ LT J lem) (q : y_S Γ J S σ ρ ls st h) (hH : y_H Γ LT h) {sel : List Nat} {l : List zS} (hx : x_lem LT TC lem sel S = some l) : ∃ S1 ∈ l, y_N Γ J S σ ρ S1 ls st h := by
  have no : ∃ S1 ∈ [S], y_N Γ J S σ ρ S1 ls st h := ⟨S, List.mem_cons_self, .of q y_M.refl⟩
  unfold x_lem at hx
  split at hx
  · cases hx
    exact no
  · next vs hvs =>
    split at hx
    · cases hx
      exact no
    · next hn =>
      split at hx
      · cases hx
        exact no
      · next S1 θ hm =>
        split at hx
        · cases hx
          exact no
        · next l' hap =>
          cases hx
          obtain ⟨P0, Ps⟩ := lem
          try dsimp only at hm hap
          obtain ⟨xs, hv⟩ := y_sel q hvs hn
          have hth0 : y_th S.1.length S.2.1.length (x_th0 S P0) := by
            refine ⟨fun b f hf => ?_, fun r w hw => ?_⟩
            · unfold x_th0 at hf
              try dsimp only at hf
              rw [List.getElem?_replicate] at hf
              split at hf <;> simp at hf
            · unfold x_th0 at hw
              try dsimp only at hw
              rw [List.getElem?_map] at hw
              simp only [Option.map_eq_some_iff] at hw
              obtain ⟨p, -, hp⟩ := hw
              have := x_rof_lt hp
              omega
          obtain ⟨σ1, ρ1, q1, hM, m1, th1, qP, l1, l2, bound1, bound2⟩ := y_matl q hH hth0 hv hm
          obtain ⟨P, hP, τ, τr, k1, k2, k3, k4, k5⟩ := hL (y_ti σ1 θ) (y_tr ρ1 θ) xs h hH qP
          try dsimp only at hP k1 k2 k3 k4
          obtain ⟨l0, g1, g2⟩ := y_apps hP hap
          have qc : y_S Γ J (x_st (x_lc S1 S.2.2.2.1) S.2.2.2.2.1) σ1 ρ1 ls st h := (q1.loc (q.2.2.2.1.ext hM.1 hM.2.1 hM.2.2.1 hM.2.2.2)).stk (q.2.2.2.2.1.ext hM.1 hM.2.1 hM.2.2.1 hM.2.2.2)
          obtain ⟨S2, g3, g4⟩ := y_app hTC qc hH hH (P := P) (v := []) (cl := []) y_Fr.refl th1 l1 l2 k3 k4 (τ := τ) (τr := τr) (fun b hb => by
            obtain ⟨f, hf⟩ := bound1 b hb
            refine ⟨f, hf, ?_⟩
            rw [k1 b hb]
            unfold y_ti
            rw [hf]) (fun r hr => by
            obtain ⟨w, hw⟩ := bound2 r hr
            refine ⟨w, hw, ?_⟩
            rw [k2 r hr]
            unfold y_tr
            rw [hw]) k5 qc.2.2.2.2.1 g1
          obtain ⟨σ2, ρ2, g5, g6⟩ := g4
          exact ⟨S2, g2 S2 g3, σ2, ρ2, g5, (show y_M S (x_st (x_lc S1 S.2.2.2.1) S.2.2.2.2.1) σ σ1 ρ ρ1 from hM).trans g6⟩
end ZLM
end
