/-! ===== the LAWS told: what is left ===== -/
section ZME
variable {b : Int → Int} {v : zVw} {n c d e st mo op H L W WP S kd s x k l u j w : Int} {f g h : Int → Int}
theorem c_uexc {st2 op2 H2 L2 W2 P2 : Int} (h1 : q_eex b n e (d - 1)) (hk1 : tk b n (e - 1).toNat = 40) (hr2 : q_run b n (e - 1) st2 0 op2 H2 L2 W2 P2) (h2 : 200 ≤ st2) (hr : q_run b n (d - 1) st 1 op H L W WP) (hk : tk b n (d - 1).toNat = 41) (h3 : 200 ≤ st) (h5 : 1 ≤ op) : q_uex b n (e - 1) d := by
  have a1 := p_w_o hr2 hk1 h2
  have a2 := p_w_c hr hk h3 h5
  rw [show e - 1 + 1 = e by omega] at a1
  rw [show d - 1 + 1 = d by omega] at a2
  unfold q_uex
  rw [a2, h1.1, a1]
  rfl
theorem c_pex0 (h0 : p_S (p_w b n c) = []) (h1 : q_uex b n c d) (hc : q_cy b f g h n d l 0) : q_cy b f g h n d l 1 ∧ q_pex b n c d := by
  unfold q_uex at h1
  refine ⟨c_cyx hc (by decide) ?_, ?_, h0⟩
  · show p_S (p_w b n d) = []
    rw [h1]
    exact h0
  · rw [h1]
    exact p_Sr_id h0
theorem c_otw (h : p_A (p_w b n c) = []) : p_S (p_w b n c) = [] := by
  have h8 := (p_A_S (w := p_w b n c)).1
  rw [h] at h8
  exact (List.append_eq_nil_iff.mp h8.symm).1
theorem c_cy0 (h1 : ∀ (i : Nat) (x : Int × Int), ([(0, 1), (7, 0), (1, 2), (0, 10), (4, 0), (7, 0), (1, 0), (7, 0)] : List (Int × Int))[i]? = some x → (i : Int) < 8 → f i = x.1 ∧ g i = x.2) (h2 : ∀ j : Int, 0 ≤ j → j < 4 → h j = if j = 2 then 2 else if j = 3 then 6 else 0) : q_cy b f g h n 0 8 0 := by
  refine ⟨Int.le_refl _, _, rfl, fun h => absurd h (by decide), ⟨rfl, fun i x hi => ?_⟩, fun k k0 k1 => ?_⟩
  · have hi' : ([(0, 1), (7, 0), (1, 2), (0, 10), (4, 0), (7, 0), (1, 0), (7, 0)] : List (Int × Int))[i]? = some x := hi
    have hl := (List.getElem?_eq_some_iff.mp hi').1
    exact h1 i x hi' (by simp only [List.length_cons, List.length_nil] at hl; omega)
  · rw [h2 k k0 k1]
    rfl
theorem c_wtop {X : List Int} (hX : p_wt v w X) (hw : 1 ≤ w) : ∃ o t, X = o :: t ∧ v 74 (w - 1) = t_op o := by
  cases X with
  | nil =>
    have := hX.1
    rw [List.length_nil] at this
    omega
  | cons o t =>
    have h2 := hX.2 t.length o (by rw [List.reverse_cons, List.getElem?_append_right (by rw [List.length_reverse]; exact Nat.le_refl _), List.length_reverse, Nat.sub_self]; rfl)
    have h1 := hX.1
    rw [List.length_cons] at h1
    rw [show w - 1 = (t.length : Int) by omega]
    exact ⟨o, t, rfl, h2⟩
theorem c_wnil {X : List Int} (hX : p_wt v w X) (hw : w = 0) : X = [] := List.eq_nil_of_length_eq_zero (by have := hX.1; omega)
theorem c_Sr : ∀ {c : Nat}, 0 ≤ a_S b n c ∧ a_S b n c ≤ c
  | 0 => ⟨Int.le_refl _, Int.le_refl _⟩
  | c + 1 => by
    have := @c_Sr c
    unfold a_S
    split
    · omega
    · split <;> omega
/-- the LAW under way is none below the first -/
theorem p_k0 : ∀ {i : Nat}, 0 ≤ (p_y b n i).2.1
  | 0 => Int.le_refl _
  | i + 1 => by
    have ih := @p_k0 i
    unfold p_y
    split
    · exact ih
    · generalize p_y b n i = Y at ih ⊢
      obtain ⟨D, k, B, E, F, O, w⟩ := Y
      unfold p_nx
      dsimp only at ih ⊢
      repeat (first | exact ih | (dsimp only; omega) | split)
/-- six HOUSES at most -/
theorem a_run_6 : ∀ {c : Nat} {q : zQ}, a_run b n c = some q → q.2.2.2.1 ≤ 6 ∧ (1 ≤ q.1 ∧ q.1 ≤ 4 → q.2.2.2.1 ≤ 5)
  | 0, q, h => by
    cases h
    exact ⟨by decide, fun h => by dsimp only at h; omega⟩
  | c + 1, q, h => by
    unfold a_run at h
    split at h
    · cases h
    · next q0 h0 =>
      split at h
      · next hc =>
        cases h
        obtain ⟨i1, i2⟩ := a_run_6 h0
        have hv := (a_vs_e (kd := tk b n c) (a_vs_ok h0)).1
        obtain ⟨st, mo, op, H, L, W, WP, ns⟩ := q0
        dsimp only at i1 i2 hv
        unfold a_vs at hv
        have hat := hc.2
        unfold a_at at hat
        dsimp only at hat
        unfold a_nx
        dsimp only
        generalize tk b n c = kd at hat hv ⊢
        have hE : a_ef st kd = st ∨ 30 ≤ a_ef st kd := by
          unfold a_ef
          split <;> omega
        generalize a_ef st kd = E at hat hE hv ⊢
        by_cases e0 : E = 0
        · subst e0
          rw [if_neg (by decide)]
          refine ⟨i1, fun hs => ?_⟩
          unfold a_cl at hat
          rw [if_pos rfl] at hat
          unfold a_st at hs
          rw [if_pos rfl] at hs
          by_cases k6 : kd = 256
          · rw [if_neg (by omega), if_pos k6] at hat
            split at hat <;> omega
          · exfalso
            rw [if_neg k6] at hs
            repeat (first | omega | split at hs)
        · by_cases e20 : E < 20
          · by_cases e4 : E = 4
            · have h5 := i2 (by omega)
              rw [if_pos e4]
              refine ⟨by omega, fun hs => ?_⟩
              exfalso
              unfold a_st at hs
              rw [if_neg e0, if_pos e20, if_pos (Or.inl e4)] at hs
              omega
            · rw [if_neg e4]
              refine ⟨i1, fun hs => ?_⟩
              unfold a_st at hs
              rw [if_neg e0, if_pos e20] at hs
              apply i2
              repeat (first | omega | split at hs)
          · rw [if_neg (by omega)]
            refine ⟨i1, fun hs => ?_⟩
            exfalso
            unfold a_st at hs
            rw [if_neg e0, if_neg e20] at hs
            repeat (first | omega | split at hs)
      · cases h
theorem c_fhs6 (h : q_fhs b n H f g) : H ≤ 6 := by
  obtain ⟨c, -, ⟨Q, e, hH, -⟩, -⟩ := h
  have := (a_run_6 e).1
  omega
/-- at the beginning no HOUSE is told -/
theorem c_run0H (h : q_run b n 0 st mo op H L W WP) : H = 0 := by
  obtain ⟨-, Q, e, -, -, -, e4, -⟩ := h
  have e' := Option.some.inj (e : some _ = some Q)
  rw [← e'] at e4
  exact e4.symm
end ZME
