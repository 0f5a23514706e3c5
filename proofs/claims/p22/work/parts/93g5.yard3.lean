noncomputable section
/-! ===== the LAWS told: statements, branches ===== -/
section ZM6
variable {b : Int → Int} {v : zVw} {n c d e st mo op H L W WP S kd s x k l u j : Int} {f g h : Int → Int}
theorem a_S_le : ∀ {i k : Nat} {Q : zQ}, a_run b n (k + i) = some Q → a_S b n k ≤ a_S b n (k + i)
  | 0, k, Q, h => Int.le_refl _
  | i + 1, k, Q, h => by
    obtain ⟨Q', h', -⟩ := a_run_pre (k := k + i) h
    have ih := a_S_le h'
    have e := a_S_s (j := k + i) h
    show a_S b n k ≤ a_S b n (k + i + 1)
    rw [e]
    split <;> omega
/-- how far a LAW's text is -/
def p_rk (E : Int) : Int := if E < 200 then 4 * (E - 30) else if E ≤ 204 then 4 * (E - 200) - 3 else if E ≤ 304 then 4 * (E - 300) - 2 else if E ≤ 404 then 4 * (E - 400) - 1 else 20
/-- what two places of one LAW's text have in common -/
def p_sm (r r' : Int) (y y' : zYd) : Prop := r ≤ r' ∧ y'.1 = y.1 ∧ y'.2.1 = y.2.1 ∧ (r / 4 = r' / 4 → y'.2.2.1 = y.2.2.1 ∧ (2 ≤ r % 4 → y'.2.2.2.1 = y.2.2.2.1) ∧ (3 ≤ r % 4 → y'.2.2.2.2.1 = y.2.2.2.2.1))
theorem p_sm_tr {r r1 r2 : Int} {y y1 y2 : zYd} (h1 : p_sm r r1 y y1) (h2 : p_sm r1 r2 y1 y2) : p_sm r r2 y y2 := by
  obtain ⟨a1, a2, a3, a4⟩ := h1
  obtain ⟨b1, b2, b3, b4⟩ := h2
  refine ⟨by omega, by rw [b2, a2], by rw [b3, a3], fun hq => ?_⟩
  obtain ⟨c1, c2, c3⟩ := a4 (by omega)
  obtain ⟨d1, d2, d3⟩ := b4 (by omega)
  exact ⟨by rw [d1, c1], fun h => by rw [d2 (by omega), c2 h], fun h => by rw [d3 (by omega), c3 h]⟩
/-- one TOKEN within a LAW -/
theorem p_sm1 {E E' : Int} {D : List (Int × List (List (Int × Int) × List (Int × Int) × List (Int × Int)) × List (Int × Int))} {B : List (List (Int × Int) × List (Int × Int) × List (Int × Int))} {A F O : List (Int × Int)} {w : List Int} (hv : a_vs E) (h30 : 30 ≤ E) (ha : a_cl E mo op H L kd = 0) (hif : E < 200 → kd = 266) (hE : E' = a_st E mo op kd ∨ (30 ≤ a_st E mo op kd ∧ a_st E mo op kd ≤ 34 ∧ E' = a_st E mo op kd + 470)) (h0 : a_st E mo op kd ≠ 0) : 30 ≤ E' ∧ p_sm (p_rk E) (p_rk E') (D, k, B, A, F, O, w) (p_nx (D, k, B, A, F, O, w) E mo op kd x) := by
  unfold a_vs at hv
  unfold a_st at hE h0
  rw [if_neg (by omega), if_neg (by omega), if_neg (by omega)] at hE h0
  unfold p_nx
  dsimp only
  rw [if_neg (by omega), if_neg (by omega)]
  by_cases s2 : E < 200
  · rw [if_pos s2] at hE h0
    rw [if_pos s2]
    have h33 : E ≤ 33 := by
      unfold a_cl at ha
      rw [if_neg (by omega), if_neg (by omega), if_pos s2, if_pos (hif s2)] at ha
      split at ha
      · assumption
      · cases ha
    refine ⟨by omega, by unfold p_rk; rw [if_pos s2, if_neg (by omega), if_pos (by omega)]; omega, rfl, rfl, fun hq => ⟨rfl, fun h => ?_, fun h => ?_⟩⟩
    · unfold p_rk at h
      rw [if_pos s2] at h
      omega
    · unfold p_rk at h
      rw [if_pos s2] at h
      omega
  · rw [if_neg s2] at hE h0
    rw [if_neg s2]
    by_cases m0 : mo = 0
    · rw [if_pos m0] at hE h0
      rw [if_pos m0]
      have e1 : E' = E := by omega
      subst e1
      refine ⟨h30, ?_⟩
      split <;> exact ⟨Int.le_refl _, rfl, rfl, fun _ => ⟨rfl, fun _ => rfl, fun _ => rfl⟩⟩
    · rw [if_neg m0] at hE h0
      rw [if_neg m0]
      by_cases pk : a_p kd = true
      · rw [if_pos pk] at hE h0
        rw [if_pos pk]
        have e1 : E' = E := by omega
        subst e1
        refine ⟨h30, ?_⟩
        split <;> exact ⟨Int.le_refl _, rfl, rfl, fun _ => ⟨rfl, fun _ => rfl, fun _ => rfl⟩⟩
      · rw [if_neg pk] at hE h0
        rw [if_neg pk]
        by_cases o1 : 1 ≤ op
        · rw [if_pos o1] at hE h0
          rw [if_pos o1]
          have e1 : E' = E := by omega
          subst e1
          exact ⟨h30, Int.le_refl _, rfl, rfl, fun _ => ⟨rfl, fun _ => rfl, fun _ => rfl⟩⟩
        · rw [if_neg o1] at hE h0
          rw [if_neg o1]
          by_cases s3 : E ≤ 204
          · rw [if_pos (show E ≤ 304 by omega)] at hE h0
            rw [if_pos s3]
            have e1 : E' = E + 100 := by omega
            subst e1
            refine ⟨by omega, by unfold p_rk; rw [if_neg s2, if_pos s3, if_neg (by omega), if_neg (by omega), if_pos (by omega)]; omega, rfl, rfl, fun hq => ⟨rfl, fun h => ?_, fun h => ?_⟩⟩
            · unfold p_rk at h
              rw [if_neg s2, if_pos s3] at h
              omega
            · unfold p_rk at h
              rw [if_neg s2, if_pos s3] at h
              omega
          · rw [if_neg s3]
            by_cases s4 : E ≤ 304
            · rw [if_pos s4] at hE h0
              rw [if_pos s4]
              have e1 : E' = E + 100 := by omega
              subst e1
              refine ⟨by omega, by unfold p_rk; rw [if_neg s2, if_neg s3, if_pos s4, if_neg (by omega), if_neg (by omega), if_neg (by omega), if_pos (by omega)]; omega, rfl, rfl, fun hq => ⟨rfl, fun h => rfl, fun h => ?_⟩⟩
              unfold p_rk at h
              rw [if_neg s2, if_neg s3, if_pos s4] at h
              omega
            · rw [if_neg s4] at hE h0
              rw [if_neg s4]
              by_cases s5 : E ≤ 404
              · rw [if_pos s5] at hE h0
                rw [if_pos s5]
                have hr : p_rk E = 4 * (E - 400) - 1 := by unfold p_rk; rw [if_neg s2, if_neg s3, if_neg s4, if_pos s5]
                have hr2 : 4 * (E - 400) ≤ p_rk E' := by
                  rcases hE with e1 | ⟨-, -, e1⟩
                  · rw [e1]
                    unfold p_rk
                    rw [if_pos (by omega)]
                    omega
                  · rw [e1]
                    unfold p_rk
                    rw [if_neg (by omega), if_neg (by omega), if_neg (by omega), if_neg (by omega)]
                    omega
                refine ⟨by omega, by omega, rfl, rfl, fun hq => ?_⟩
                omega
              · rw [if_neg s5] at hE h0
                exact absurd rfl h0
theorem p_same : ∀ {i k : Nat} {Q Q' : zQ}, a_run b n k = some Q → a_run b n (k + i) = some Q' → a_S b n (k + i) = a_S b n k → 30 ≤ a_ef Q.1 (tk b n k) → 30 ≤ a_ef Q'.1 (tk b n (k + i)) ∧ p_sm (p_rk (a_ef Q.1 (tk b n k))) (p_rk (a_ef Q'.1 (tk b n (k + i)))) (p_y b n k) (p_y b n (k + i))
  | 0, k, Q, Q', h, h', hs, h30 => by
    rw [Nat.add_zero, h] at h'
    cases h'
    exact ⟨h30, Int.le_refl _, rfl, rfl, fun _ => ⟨rfl, fun _ => rfl, fun _ => rfl⟩⟩
  | i + 1, k, Q, Q', h, h', hs, h30 => by
    obtain ⟨Q1, h1, -, ha, e⟩ := a_run_pre (k := k + i) h'
    have m1 := a_S_le h1
    have es := a_S_s (j := k + i) h'
    have hs' : a_S b n (k + i + 1) = a_S b n k := hs
    have hz : Q'.1 ≠ 0 := by
      intro z
      rw [if_pos z] at es
      omega
    rw [if_neg hz] at es
    obtain ⟨i1, i2⟩ := p_same h h1 (by omega) h30
    have hv := a_vs_e (kd := tk b n (k + i)) (a_vs_ok h1)
    have e1 : Q'.1 = a_st (a_ef Q1.1 (tk b n (k + i))) Q1.2.1 Q1.2.2.1 (tk b n (k + i)) := by rw [e, a_nx_1]
    have ey : p_y b n (k + (i + 1)) = _ := p_y_s h1
    unfold a_at at ha
    generalize hk2 : tk b n (k + (i + 1)) = kd2
    have hE : a_ef Q'.1 kd2 = Q'.1 ∨ (30 ≤ Q'.1 ∧ Q'.1 ≤ 34 ∧ a_ef Q'.1 kd2 = Q'.1 + 470) := by
      unfold a_ef
      split <;> omega
    rw [e1] at hE hz
    rw [ey]
    generalize hY : p_y b n (k + i) = Y at i2 ⊢
    obtain ⟨D, k', B, A, F, O, w⟩ := Y
    obtain ⟨j1, j2⟩ := p_sm1 (D := D) (k := k') (B := B) (A := A) (F := F) (O := O) (w := w) (x := tx b n (k + i)) (E' := a_ef Q'.1 kd2) hv.1 i1 ha (fun g => hv.2 ⟨i1, g⟩) (by rw [e1]; exact hE) hz
    exact ⟨j1, p_sm_tr i2 j2⟩
theorem p_sm_sym {r r' : Int} {y y' : zYd} (h : p_sm r r' y y') (hr : r' ≤ r) : p_sm r' r y' y := by
  obtain ⟨a1, a2, a3, a4⟩ := h
  have e : r = r' := by omega
  subst e
  exact ⟨Int.le_refl _, a2.symm, a3.symm, fun hq => ⟨(a4 hq).1.symm, fun h => ((a4 hq).2.1 h).symm, fun h => ((a4 hq).2.2 h).symm⟩⟩
/-- two places of one statement, a LAW -/
theorem p_two {Q Q' : zQ} {i k : Nat} (h : a_run b n i = some Q) (h' : a_run b n k = some Q') (hs : a_S b n i = a_S b n k) (h1 : 30 ≤ a_ef Q.1 (tk b n i)) (h2 : 30 ≤ a_ef Q'.1 (tk b n k)) (hr : p_rk (a_ef Q.1 (tk b n i)) ≤ p_rk (a_ef Q'.1 (tk b n k))) : p_sm (p_rk (a_ef Q.1 (tk b n i))) (p_rk (a_ef Q'.1 (tk b n k))) (p_y b n i) (p_y b n k) := by
  rcases Nat.le_total i k with g | g
  · obtain ⟨j, rfl⟩ : ∃ j, k = i + j := ⟨k - i, by omega⟩
    exact (p_same h h' hs.symm h1).2
  · obtain ⟨j, rfl⟩ : ∃ j, i = k + j := ⟨i - k, by omega⟩
    exact p_sm_sym (p_same h' h hs h2).2 hr
theorem p_rk2 (h : 200 ≤ st) (h2 : st ≤ 204) : p_rk st = 4 * (st - 200) - 3 := by unfold p_rk; rw [if_neg (by omega), if_pos h2]
theorem p_rk3 (h : 300 ≤ st) (h2 : st ≤ 304) : p_rk st = 4 * (st - 300) - 2 := by unfold p_rk; rw [if_neg (by omega), if_neg (by omega), if_pos h2]
theorem p_rk4 (h : 400 ≤ st) (h2 : st ≤ 404) : p_rk st = 4 * (st - 400) - 1 := by unfold p_rk; rw [if_neg (by omega), if_neg (by omega), if_neg (by omega), if_pos h2]
theorem p_rk5 (h : 500 ≤ st) : p_rk st = 20 := by unfold p_rk; rw [if_neg (by omega), if_neg (by omega), if_neg (by omega), if_neg (by omega)]
theorem p_rk0 (h : 30 ≤ st) (h2 : st ≤ 34) : p_rk st ≤ 16 := by unfold p_rk; rw [if_pos (by omega)]; omega
/-- within a statement that isn't a LAW -/
theorem p_in : ∀ {i k : Nat} {Q Q' : zQ}, a_run b n k = some Q → Q.1 = 0 → (tk b n k < 260 ∨ 263 < tk b n k) → a_run b n (k + (i + 1)) = some Q' → a_S b n (k + (i + 1)) = a_S b n k → (1 ≤ Q'.1 ∧ Q'.1 ≤ 13 ∧ (9 ≤ Q'.1 → Q'.1 ≤ 12 → i = 0) ∧ (Q'.1 = 13 → i = 1)) ∧ p_y b n (k + (i + 1)) = p_y b n k
  | 0, k, Q, Q', h, h0, hk, h', hs => by
    obtain ⟨Q1, h1, -, ha, e⟩ := a_run_pre (k := k) h'
    rw [h] at h1
    cases h1
    have es := a_S_s (j := k) h'
    have hs' : a_S b n (k + 1) = a_S b n k := hs
    have hz : Q'.1 ≠ 0 := by
      intro z
      rw [if_pos z] at es
      omega
    have e1 : Q'.1 = a_st (a_ef Q.1 (tk b n k)) Q.2.1 Q.2.2.1 (tk b n k) := by rw [e, a_nx_1]
    have ey : p_y b n (k + 1) = _ := p_y_s h
    rw [h0, a_ef_s (by omega)] at e1 ey
    unfold a_at at ha
    rw [h0, a_cl_0] at ha
    refine ⟨?_, ?_⟩
    · have h13 : 1 ≤ Q'.1 ∧ Q'.1 ≤ 12 := by
        rw [e1]
        unfold a_st
        rw [if_pos rfl]
        generalize tk b n k = kd at ha hk
        repeat (first | omega | split)
      exact ⟨h13.1, by omega, fun _ _ => rfl, fun z => by omega⟩
    · show p_y b n (k + 1) = _
      rw [ey]
      exact p_nx_0 (by omega) (fun _ => hk)
  | i + 1, k, Q, Q', h, h0, hk, h', hs => by
    obtain ⟨Q1, h1, -, ha, e⟩ := a_run_pre (k := k + (i + 1)) h'
    have es := a_S_s (j := k + (i + 1)) h'
    have m1 := a_S_le h1
    have hs' : a_S b n (k + (i + 1) + 1) = a_S b n k := hs
    have hz : Q'.1 ≠ 0 := by
      intro z
      rw [if_pos z] at es
      omega
    rw [if_neg hz] at es
    obtain ⟨⟨i1, i2, i3, i4⟩, i5⟩ := p_in h h0 hk h1 (by omega)
    have e1 : Q'.1 = a_st (a_ef Q1.1 (tk b n (k + (i + 1)))) Q1.2.1 Q1.2.2.1 (tk b n (k + (i + 1))) := by rw [e, a_nx_1]
    have ey : p_y b n (k + (i + 1) + 1) = _ := p_y_s h1
    rw [a_ef_s (by omega)] at e1 ey
    refine ⟨?_, ?_⟩
    · unfold a_st at e1
      rw [if_neg (by omega), if_pos (by omega)] at e1
      have h13 : Q'.1 = 0 ∨ (Q'.1 = 13 ∧ 9 ≤ Q1.1 ∧ Q1.1 ≤ 12) ∨ (Q'.1 = Q1.1 + 1 ∧ Q1.1 < 8) := by
        rw [e1]
        by_cases g1 : Q1.1 = 4 ∨ Q1.1 = 8 ∨ Q1.1 = 13
        · rw [if_pos g1]
          exact Or.inl rfl
        · rw [if_neg g1]
          by_cases g2 : 9 ≤ Q1.1
          · rw [if_pos g2]
            exact Or.inr (Or.inl ⟨rfl, g2, by omega⟩)
          · rw [if_neg g2]
            exact Or.inr (Or.inr ⟨rfl, by omega⟩)
      refine ⟨by omega, by omega, fun g1 g2 => by omega, fun g => ?_⟩
      rcases h13 with z | ⟨-, g1, g2⟩ | ⟨g1, g2⟩
      · exact absurd z hz
      · have := i3 g1 g2
        omega
      · omega
    · show p_y b n (k + (i + 1) + 1) = _
      rw [ey, ← i5]
      exact p_nx_0 (by omega) (fun z => by omega)
/-- nothing of a statement that isn't a LAW changes the fold -/
theorem p_out {i k : Nat} {Q Q' : zQ} (h : a_run b n k = some Q) (h0 : Q.1 = 0) (hk : tk b n k < 260 ∨ 263 < tk b n k) (h' : a_run b n (k + i) = some Q') (h1 : Q'.1 = 0) (hs : a_S b n (k + i) = a_S b n k + 1) : p_y b n (k + i) = p_y b n k := by
  cases i with
  | zero => rfl
  | succ i =>
    obtain ⟨Q1, g1, -, ha, e⟩ := a_run_pre (k := k + i) h'
    have es := a_S_s (j := k + i) h'
    rw [if_pos h1] at es
    have hs' : a_S b n (k + i + 1) = a_S b n k + 1 := hs
    have ey : p_y b n (k + i + 1) = _ := p_y_s g1
    show p_y b n (k + i + 1) = _
    cases i with
    | zero =>
      have g1' : a_run b n k = some Q1 := g1
      rw [h] at g1'
      cases g1'
      rw [ey]
      rw [show tk b n (k + 0) = tk b n k from rfl, show p_y b n (k + 0) = p_y b n k from rfl, h0, a_ef_s (by omega)]
      exact p_nx_0 (by omega) (fun _ => hk)
    | succ i =>
      obtain ⟨⟨i1, i2, -, -⟩, i5⟩ := p_in h h0 hk g1 (by omega)
      rw [ey, i5, a_ef_s (by omega)]
      exact p_nx_0 (by omega) (fun z => by omega)
theorem c_cyM {H2 L2 W2 P2 S2 : Int} (hc : q_cy b f g h n c l 0) (hr : q_run b n c 0 0 0 H L W WP) (hs : S = a_S b n c.toNat) (hr2 : q_run b n d 0 0 0 H2 L2 W2 P2) (hs2 : S2 = a_S b n d.toNat) (hk : tk b n c.toNat = kd) (hd : c ≤ d) (h2 : S2 = S + 1) (h3 : kd < 260 ∨ 263 < kd) : q_cy b f g h n d l 0 := by
  obtain ⟨c0, Q, e0, e1, -⟩ := hr
  obtain ⟨d0, Q', g0, g1, -⟩ := hr2
  obtain ⟨c1, Q0, k0, k1, k2, k3⟩ := hc
  rw [e0] at k0
  cases k0
  have z1 : Q.1 = 0 := a_efq0 e1 (by omega)
  have z2 : Q'.1 = 0 := a_efq0 g1 (by omega)
  obtain ⟨i, hi⟩ : ∃ i, d.toNat = c.toNat + i := ⟨d.toNat - c.toNat, by omega⟩
  rw [hi] at g0 hs2
  have hy := p_out e0 z1 (by omega) g0 z2 (by omega)
  refine ⟨d0, Q', by rw [hi]; exact g0, fun z => by omega, ?_, ?_⟩
  · rw [hi, hy, z2]
    rw [z1] at k2
    exact k2
  · rw [hi, hy]
    exact k3
/-- = of a LAW -/
theorem c_cyeq {H2 L2 W2 P2 : Int} (hc : q_cy b f g h n (d - 1) l 0) (hr : q_run b n (d - 1) 20 0 0 H L W WP) (hk : tk b n (d - 1).toNat = 61) (hr2 : q_run b n (d - 2) 0 0 0 H2 L2 W2 P2) (hk2 : tk b n (d - 2).toNat = k + 260) (h3 : 0 ≤ k ∧ k ≤ 3) (h4 : d ≤ 400) : q_cy b f g h n d l 0 ∧ p_A (p_w b n d) = [] ∧ q_beg b n d l k := by
  obtain ⟨Q, Q', e0, e1, e2, e3, e4, e5, e6, ed⟩ := p_go hr hk (by rw [a_ef_s (by omega), show a_cl 20 0 0 H L 61 = 0 from rfl]) h4
  rw [a_ef_s (st := 20) (by omega)] at e3 e6
  have q20 : Q.1 = 20 := by
    rw [a_ef_s (st := 20) (by omega)] at e2
    exact a_efq0 (st := 20) (by rw [a_ef_s (st := 20) (by omega)]; exact e2) (by omega)
  rw [p_nx_0 (by omega) (fun z => by omega)] at e6
  have hi := p_iv_ok e0
  rw [q20] at hi
  have hb : (p_y b n (d - 1).toNat).2.1 = k := by
    obtain ⟨d0, Q2, k0, k1, k2, k3, -⟩ := hr2
    have z2 : Q2.1 = 0 := a_efq0 k1 (by omega)
    have hy := p_y_s k0
    rw [show (d - 2).toNat + 1 = (d - 1).toNat by omega, z2, a_ef_s (by omega), hk2] at hy
    rw [hy]
    generalize p_y b n (d - 2).toNat = Y
    obtain ⟨D, k', B, E, F, O, w⟩ := Y
    rw [p_nx_l (by omega)]
    show k + 260 - 260 = k
    omega
  obtain ⟨c1, Q0, k0, k1, k2, k3⟩ := hc
  rw [e0] at k0
  cases k0
  have q30 : Q'.1 = 30 := e3
  obtain ⟨i1, i2, i3, i4⟩ := hi
  have hcc : p_cc (p_y b n (d - 1).toNat) Q.1 = p_c0 (p_y b n (d - 1).toNat) ∧ p_cc (p_y b n (d - 1).toNat) 30 = p_c0 (p_y b n (d - 1).toNat) := by
    unfold p_cc p_c2
    rw [i1 (by omega), i2 (by omega), (i3 (by omega)).1, i4 (by omega), p_ph0 (by omega), p_ph0 (by omega)]
    simp [p_cb]
  rw [show p_ex 0 _ _ _ = [] from rfl, List.append_nil, hcc.1] at k2
  refine ⟨⟨by omega, Q', e1, fun z => by omega, ?_, by rw [e6]; exact k3⟩, ?_, ⟨by omega, Q', e1, by omega, by rw [e6, hb], by rw [e6]; exact k2.1⟩⟩
  · rw [e6, q30, show p_ex 0 _ _ _ = [] from rfl, List.append_nil, hcc.2]
    exact k2
  · unfold p_w
    rw [e6, (i3 (by omega)).2]
    rfl
theorem c_cyif (hc : q_cy b f g h n (d - 1) l 0) (hr : q_run b n (d - 1) st 0 0 H L W WP) (hk : tk b n (d - 1).toNat = 266) (h4 : d ≤ 400) (h1 : 30 ≤ st) (h2 : st ≤ 33) : q_cy b f g h n d l 0 ∧ p_A (p_w b n d) = [] := by
  have he : a_ef st 266 = st := by unfold a_ef; omega
  have ha : a_cl (a_ef st 266) 0 0 H L 266 = 0 := by
    rw [he]
    unfold a_cl
    rw [if_neg (by omega), if_neg (by omega), if_pos (by omega), if_pos rfl, if_pos h2]
  refine ⟨c_cy hc hr hk ha h4 fun D k B E F O w hi => ?_, ?_⟩
  · rw [he] at hi ⊢
    rw [p_nx_f h1 (by omega)]
    obtain ⟨i1, i2, i3, i4⟩ := hi
    have j1 : E = [] := i1 (by omega)
    have j2 : F = [] := i2 (by omega)
    obtain ⟨j3, j5⟩ := i3 (by omega)
    dsimp only at j3 j5
    subst j1 j2 j3
    refine ⟨?_, rfl⟩
    rw [show p_ex 0 _ _ _ = [] from rfl, List.append_nil]
    unfold p_cc
    rw [p_ph0 (by unfold a_st; rw [if_neg (by omega), if_neg (by omega), if_neg (by omega), if_pos (by omega)]; omega), p_ph0 (by omega)]
    rfl
  · have := p_w_s hr hk
    rw [show d - 1 + 1 = d by omega, he] at this
    rw [this]
    generalize p_y b n (d - 1).toNat = Y
    obtain ⟨D, k, B, E, F, O, w⟩ := Y
    rw [p_nx_f h1 (by omega)]
    rfl
theorem a_st_x (h : 200 ≤ st) (hk : a_p kd = false) : a_st st 1 0 kd = if st ≤ 304 then st + 100 else if st ≤ 404 then st - 370 else 0 := by
  unfold a_st
  rw [if_neg (by omega), if_neg (by omega), if_neg (by omega), if_neg (by omega), if_neg (by decide), if_neg (by rw [hk]; decide), if_neg (by decide)]
theorem c_cylt (hc : q_cy b f g h n (d - 1) l 2) (hr : q_run b n (d - 1) st 1 0 H L W WP) (hk : tk b n (d - 1).toNat = 60) (h4 : d ≤ 400) (h1 : 200 ≤ st) (h2 : st ≤ 204) : q_cy b f g h n d l 0 ∧ p_A (p_w b n d) = [] := by
  have hp : a_p 60 = false := by decide
  refine ⟨c_cy hc hr hk (by rw [a_ef_s (by omega)]; exact a_cl_1x h1 hp (by unfold a_x; rw [if_pos h2])) h4 fun D k B E F O w hi => ?_, ?_⟩
  · rw [a_ef_s (by omega)] at hi ⊢
    rw [p_nx_1 h1 h2 hp, a_st_x h1 hp, if_pos (by omega)]
    obtain ⟨i1, i2, i3, i4⟩ := hi
    have j1 : E = [] := i1 (by omega)
    have j2 : F = [] := i2 (by omega)
    subst j1 j2
    refine ⟨?_, rfl⟩
    rw [show p_ex 2 w _ _ = p_A w from rfl]
    unfold p_cc
    rw [p_ph0 (by omega), p_ph0 (by omega)]
    unfold p_c2 p_c0
    simp only [List.append_assoc, List.append_nil, List.nil_append]
  · have := p_w_s hr hk
    rw [show d - 1 + 1 = d by omega, a_ef_s (by omega)] at this
    rw [this]
    generalize p_y b n (d - 1).toNat = Y
    obtain ⟨D, k, B, E, F, O, w⟩ := Y
    rw [p_nx_1 h1 h2 hp]
    rfl
theorem c_cyth (hc : q_cy b f g h n (d - 1) l 3) (hr : q_run b n (d - 1) st 1 0 H L W WP) (hk : tk b n (d - 1).toNat = 267) (h4 : d ≤ 400) (h1 : 300 ≤ st) (h2 : st ≤ 304) : q_cy b f g h n d l 0 ∧ p_A (p_w b n d) = [] ∧ q_jmp b n d (l - 1) := by
  have hp : a_p 267 = false := by decide
  have hcy : q_cy b f g h n d l 0 := by
    refine c_cy hc hr hk (by rw [a_ef_s (by omega)]; exact a_cl_1x (by omega) hp (by unfold a_x; rw [if_neg (by omega), if_pos h2])) h4 fun D k B E F O w hi => ?_
    rw [a_ef_s (by omega)] at hi ⊢
    rw [p_nx_2 h1 h2 hp, a_st_x (by omega) hp, if_pos (by omega)]
    obtain ⟨i1, i2, i3, i4⟩ := hi
    have j2 : F = [] := i2 (by omega)
    subst j2
    refine ⟨?_, rfl⟩
    rw [show p_ex 3 w _ _ = p_A w ++ [(6, 0)] from rfl]
    unfold p_cc
    rw [p_ph1 (by omega), p_ph0 (by omega)]
    unfold p_c2 p_c0
    simp only [List.append_assoc, List.append_nil, List.nil_append]
  have hy : (p_y b n d.toNat).2.2.2.2.2 = ([], []) := by
    obtain ⟨Q, Q', e0, e1, e2, e3, e4, e5, e6, ed⟩ := p_go hr hk (by rw [a_ef_s (by omega)]; exact a_cl_1x (by omega) hp (by unfold a_x; rw [if_neg (by omega), if_pos h2])) h4
    rw [e6, a_ef_s (by omega)]
    generalize p_y b n (d - 1).toNat = Y
    obtain ⟨D, k, B, E, F, O, w⟩ := Y
    rw [p_nx_2 h1 h2 hp]
  have hq : ∃ Q', a_run b n d.toNat = some Q' ∧ Q'.1 = st + 100 := by
    obtain ⟨Q, Q', e0, e1, e2, e3, -⟩ := p_go hr hk (by rw [a_ef_s (by omega)]; exact a_cl_1x (by omega) hp (by unfold a_x; rw [if_neg (by omega), if_pos h2])) h4
    rw [a_ef_s (by omega), a_st_x (by omega) hp, if_pos (by omega)] at e3
    exact ⟨Q', e1, e3⟩
  refine ⟨hcy, ?_, ?_⟩
  · unfold p_w
    rw [hy]
    rfl
  · obtain ⟨Q', g1, g2⟩ := hq
    obtain ⟨c1, Q0, k0, k1, k2, k3⟩ := hcy
    rw [g1] at k0
    cases k0
    refine ⟨c1, Q', g1, by omega, by omega, ?_⟩
    have hl := k2.1
    rw [show p_ex 0 _ _ _ = [] from rfl, List.append_nil, g2] at hl
    unfold p_cc at hl
    rw [p_ph1 (by omega), show (p_y b n d.toNat).2.2.2.2.2.1 = [] by rw [hy], List.append_nil, List.length_append, List.length_singleton] at hl
    push_cast at hl
    omega
end ZM6
end
