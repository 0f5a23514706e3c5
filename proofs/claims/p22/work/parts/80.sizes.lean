/-! ===== what is written keeps the heap's words ===== -/
theorem y_mhs {Γ : List Nat} {LT : List zLab} {cl : List zKey} {h h' : mH} (hl : ∀ l ∈ Γ, l < LT.length) (hH : y_H Γ LT h) (hH' : y_H Γ LT h') (hF : y_Fr Γ cl h h') : mhs h' = mhs h := by
  unfold mhs
  congr 1
  apply List.ext_getElem?
  intro i
  rw [List.getElem?_map, List.getElem?_map]
  cases hi : h[i]? with
  | none =>
    have hn : h'[i]? = none := by
      rw [List.getElem?_eq_none_iff] at hi ⊢
      rw [hF.1]
      exact hi
    rw [hn]
  | some c =>
    have hlt : i < Γ.length := by rw [← hH.1]; exact (List.getElem?_eq_some_iff.mp hi).1
    have hg : Γ[i]? = some Γ[i] := List.getElem?_eq_getElem hlt
    obtain ⟨lab, hlb⟩ : ∃ lab, LT[Γ[i]]? = some lab := ⟨_, List.getElem?_eq_getElem (hl _ (List.getElem_mem hlt))⟩
    obtain ⟨c', h1, h2⟩ := hF.2 i _ c hg hi
    rw [h1]
    refine congrArg some ?_
    have a := hH.2 i _ _ c hg hlb hi
    have b := hH'.2 i _ _ c' hg hlb h1
    rcases c with ⟨ci, fs⟩ | ⟨t, arr⟩
    · obtain ⟨fs', rfl, e, -⟩ := h2
      exact e
    · obtain ⟨⟨arr', rfl⟩, -⟩ := h2
      unfold y_C at a b
      split at a
      · obtain ⟨fs, hc, -⟩ := a
        cases hc
      · next e =>
        rw [e] at b
        obtain ⟨xs, hc, hn, -⟩ := a
        obtain ⟨ys, hd, hm, -⟩ := b
        cases hc
        cases hd
        show ys.length = xs.length
        rw [hn, hm]
      · next e =>
        rw [e] at b
        obtain ⟨xs, hc, hn, -⟩ := a
        obtain ⟨ys, hd, hm, -⟩ := b
        cases hc
        cases hd
        show ys.length = xs.length
        rw [hn, hm]
      · next e0 e1 e2 =>
        obtain ⟨xs, hc, hn, -⟩ := a
        split at b
        · next e => exact absurd e e0
        · next e => exact absurd e e1
        · next e => exact absurd e e2
        · obtain ⟨ys, hd, hm, -⟩ := b
          cases hc
          cases hd
          show ys.length = xs.length
          rw [hn, hm]
