noncomputable section
/-! ===== the LAWS told: else, ;, the whole text's ===== -/
section ZM7
variable {b : Int → Int} {v : zVw} {n c d e st mo op H L W WP S kd s x k l u j p : Int} {f g h : Int → Int}
/-- a place of a LAW's text: what is known there -/
theorem p_pl (hr : q_run b n c st mo op H L W WP) (hs : S = a_S b n c.toNat) (h : 200 ≤ st) : ∃ Q, a_run b n c.toNat = some Q ∧ a_ef Q.1 (tk b n c.toNat) = st ∧ a_S b n c.toNat = S := by
  obtain ⟨c0, Q, e0, e1, -⟩ := hr
  rw [a_ef_s (st := st) (by omega)] at e1
  exact ⟨Q, e0, e1, hs.symm⟩
theorem c_cyel {H2 L2 W2 P2 S2 : Int} (hc : q_cy b f g h n (d - 1) l 4) (hr : q_run b n (d - 1) st 1 0 H L W WP) (hs : S = a_S b n (d - 1).toNat) (hk : tk b n (d - 1).toNat = 268) (hj : q_jmp b n e j) (hr2 : q_run b n e st 0 0 H2 L2 W2 P2) (hs2 : S2 = a_S b n e.toNat) (h4 : d ≤ 400) (h1 : 400 ≤ st) (h2 : st ≤ 404) (h3 : S = S2) : q_cyj b f g h n d l j ∧ p_A (p_w b n d) = [] := by
  have hp : a_p 268 = false := by decide
  obtain ⟨Q, Q', e0, e1, e2, e3, e4, e5, e6, ed⟩ := p_go hr hk (by rw [a_ef_s (by omega)]; exact a_cl_1x (by omega) hp (by unfold a_x; rw [if_neg (by omega), if_neg (by omega), if_pos h2])) h4
  rw [a_ef_s (st := st) (by omega)] at e2 e3 e6
  rw [a_st_x (by omega) hp, if_neg (by omega), if_pos h2] at e3
  -- the jump's place
  obtain ⟨Qa, a1, a2, a3⟩ := p_pl hr hs (by omega)
  obtain ⟨Qb, b1, b2, b3⟩ := p_pl hr2 hs2 (by omega)
  have hsm := p_two b1 a1 (by omega) (by omega) (by omega) (by rw [a2, b2]; exact Int.le_refl _)
  rw [a2, b2, p_rk4 h1 h2] at hsm
  obtain ⟨-, m1, m2, m3⟩ := hsm
  obtain ⟨m4, m5, m6⟩ := m3 rfl
  have m5 := m5 (by omega)
  have m6 := m6 (by omega)
  obtain ⟨j0, Qj, j1, j2, j3, j4⟩ := hj
  have hj2 : j = (p_c2 (p_y b n (d - 1).toNat)).length := by
    rw [j4]
    unfold p_c2 p_c0
    rw [m1, m4, m5, m6]
  obtain ⟨c1, Q0, k0, k1, k2, k3⟩ := hc
  rw [e0] at k0
  cases k0
  have hQ : p_ph Q.1 = [(6, 0)] := by
    rcases a_efq (z := Q.1) (st := st) (kd := 268) (by rw [a_ef_s (st := st) (by omega)]; exact e2) (by omega) with q1 | ⟨q1, q2, q3⟩
    · rw [q1, p_ph1 ⟨h1, h2⟩]
    · omega
  have hi := p_iv_ok e0
  generalize p_y b n (d - 1).toNat = Y at k2 k3 e6 hj2
  obtain ⟨D, k', B, E, F, O, w⟩ := Y
  rw [p_nx_3 h1 h2 hp] at e6
  have hcc : p_cc (p_y b n d.toNat) Q'.1 = p_c2 (D, k', B, E, F, O, w) ++ (6, ((p_c2 (D, k', B, E, F, O, w)).length : Int) + (O ++ p_A w).length + 2) :: ((O ++ p_A w) ++ [(7, 0)]) := by
    have e9 : ((p_c2 (D, k', B, E, F, O, w)).length : Int) = ((p_c0 (D, k', B, E, F, O, w)).length : Int) + (p_cb ((p_c0 (D, k', B, E, F, O, w)).length : Int) B).length + E.length + F.length := by
      unfold p_c2
      dsimp only
      rw [List.length_append, List.length_append, List.length_append]
      omega
    rw [e6, e3, e9]
    unfold p_cc p_c2
    dsimp only
    rw [p_ph0 (by omega), show p_c0 (D, k', B ++ [(E, F, O ++ p_A w)], [], [], [], []) = p_c0 (D, k', B, E, F, O, w) from rfl, p_cb_app]
    simp only [List.append_assoc, List.append_nil, List.nil_append, List.cons_append]
  rw [show p_ex 4 w (tk b n (d - 1).toNat) (tx b n (d - 1).toNat) = p_A w ++ [(7, 0)] from rfl] at k2
  have hold : p_cc (D, k', B, E, F, O, w) Q.1 ++ (p_A w ++ [(7, 0)]) = p_c2 (D, k', B, E, F, O, w) ++ (6, 0) :: ((O ++ p_A w) ++ [(7, 0)]) := by
    unfold p_cc
    rw [hQ]
    simp only [List.append_assoc, List.nil_append, List.cons_append]
  rw [hold] at k2
  generalize p_c2 (D, k', B, E, F, O, w) = C at k2 hcc hj2
  generalize O ++ p_A w = T at k2 hcc
  obtain ⟨l1, l2⟩ := k2
  have hlen : l = (C.length : Int) + T.length + 2 := by
    rw [l1]
    simp only [List.length_append, List.length_cons, List.length_nil]
    push_cast
    omega
  refine ⟨⟨by omega, by omega, Q', _, e1, rfl, ?_, ?_, ?_, ?_⟩, ?_⟩
  · rw [hcc, l1]
    simp only [List.length_append, List.length_cons]
  · intro y hy
    rw [hcc, show j.toNat = C.length by omega, List.getElem?_append_right (Nat.le_refl _), Nat.sub_self] at hy
    cases hy
    dsimp only
    omega
  · intro i y hy
    rw [hcc] at hy
    rcases Nat.lt_trichotomy i C.length with g1 | g1 | g1
    · rw [List.getElem?_append_left g1] at hy
      have := l2 i y (by rw [List.getElem?_append_left g1]; exact hy)
      exact ⟨this.1, fun _ => this.2⟩
    · rw [g1, List.getElem?_append_right (Nat.le_refl _), Nat.sub_self] at hy
      cases hy
      have := l2 C.length (6, 0) (by rw [List.getElem?_append_right (Nat.le_refl _), Nat.sub_self]; rfl)
      exact ⟨by rw [g1]; exact this.1, fun hn => by omega⟩
    · obtain ⟨i', rfl⟩ : ∃ i', i = C.length + (i' + 1) := ⟨i - C.length - 1, by omega⟩
      rw [List.getElem?_append_right (by omega), Nat.add_sub_cancel_left, List.getElem?_cons_succ] at hy
      have := l2 (C.length + (i' + 1)) y (by rw [List.getElem?_append_right (by omega), Nat.add_sub_cancel_left, List.getElem?_cons_succ]; exact hy)
      exact ⟨this.1, fun _ => this.2⟩
  · intro i i0 i1
    rw [k3 i i0 i1, e6]
    rfl
  · unfold p_w
    rw [e6]
    rfl
theorem c_cyj (hc : q_cyj b f g h n d l j) (hg : g j = l) : q_cy b f g h n d l 0 := by
  obtain ⟨c0, j0, Q, C, e0, e1, e2, e3, e4, e5⟩ := hc
  refine ⟨c0, Q, e0, fun z => by omega, ?_, e5⟩
  rw [show p_ex 0 _ _ _ = [] from rfl, List.append_nil, ← e1]
  refine ⟨e2, fun i y hy => ?_⟩
  obtain ⟨a1, a2⟩ := e4 i y hy
  refine ⟨a1, ?_⟩
  by_cases hi : (i : Int) = j
  · rw [hi, hg]
    exact (e3 y (by rw [show j.toNat = i by omega]; exact hy)).symm
  · exact a2 hi
theorem c_cyse {st2 H2 L2 W2 P2 S2 : Int} (hc : q_cy b f g h n (d - 1) l 4) (hr : q_run b n (d - 1) st 1 0 H L W WP) (hs : S = a_S b n (d - 1).toNat) (hk : tk b n (d - 1).toNat = 59) (hj : q_beg b n e p k) (hr2 : q_run b n e st2 0 0 H2 L2 W2 P2) (hs2 : S2 = a_S b n e.toNat) (h4 : d ≤ 400) (h1 : 500 ≤ st) (h2 : st ≤ 504) (h5 : 30 ≤ st2) (h6 : st2 ≤ 34) (h3 : S = S2) : q_cyb b f g h n d l k p := by
  have hp : a_p 59 = false := by decide
  obtain ⟨Q, Q', e0, e1, e2, e3, e4, e5, e6, ed⟩ := p_go hr hk (by rw [a_ef_s (by omega)]; exact a_cl_1x (by omega) hp (by unfold a_x; rw [if_neg (by omega), if_neg (by omega), if_neg (by omega)])) h4
  rw [a_ef_s (st := st) (by omega)] at e2 e3 e6
  rw [a_st_x (by omega) hp, if_neg (by omega), if_neg (by omega)] at e3
  obtain ⟨Qa, a1, a2, a3⟩ := p_pl hr hs (by omega)
  obtain ⟨Qb, b1, b2⟩ : ∃ Qb, a_run b n e.toNat = some Qb ∧ a_ef Qb.1 (tk b n e.toNat) = a_ef st2 (tk b n e.toNat) := by
    obtain ⟨c0, Q, f0, f1, -⟩ := hr2
    exact ⟨Q, f0, f1⟩
  have b30 : 30 ≤ a_ef st2 (tk b n e.toNat) ∧ p_rk (a_ef st2 (tk b n e.toNat)) ≤ 20 := by
    unfold a_ef
    split
    · exact ⟨by omega, by rw [p_rk5 (by omega)]; exact Int.le_refl _⟩
    · exact ⟨by omega, by have := p_rk0 h5 h6; omega⟩
  have hsm := p_two b1 a1 (by omega) (by rw [b2]; exact b30.1) (by omega) (by rw [a2, b2, p_rk5 (st := st) (by omega)]; exact b30.2)
  obtain ⟨-, m1, m2, -⟩ := hsm
  obtain ⟨j0, Qj, j1, j2, j3, j4⟩ := hj
  rw [← m2] at j3
  have hj2 : p = (p_c0 (p_y b n (d - 1).toNat)).length := by
    rw [j4]
    unfold p_c0
    rw [m1]
  obtain ⟨c1, Q0, k0, k1, k2, k3⟩ := hc
  rw [e0] at k0
  cases k0
  have hi := p_iv_ok e0
  have hQ : p_ph Q.1 = [] := by rw [p_phe (z := Q.1) (st := st) (kd := 59) (by rw [a_ef_s (st := st) (by omega)]; exact e2), p_ph0 (by omega)]
  have hst2 : Q.1 < 300 ∨ 404 < Q.1 := by
    rcases a_efq (z := Q.1) (st := st) (kd := 59) (by rw [a_ef_s (st := st) (by omega)]; exact e2) (by omega) with q1 | ⟨q1, q2, q3⟩ <;> omega
  generalize p_y b n (d - 1).toNat = Y at k2 k3 e6 hj2 hi j3
  obtain ⟨D, k', B, E, F, O, w⟩ := Y
  obtain ⟨i1, i2, i3, i4⟩ := hi
  have j1 : E = [] := i1 (by omega)
  have j2 : F = [] := i2 (by omega)
  have jk : k = k' := j3
  subst j1 j2 jk
  rw [p_nx_4 h1 hp] at e6
  have hcc : p_cc (p_y b n d.toNat) Q'.1 = p_cc (D, k, B, [], [], O, w) Q.1 ++ (p_A w ++ [(7, 0)]) := by
    rw [e6, e3]
    unfold p_cc p_c2 p_c0
    dsimp only
    rw [hQ, p_ph0 (by omega), p_cd_app]
    simp only [List.append_assoc, List.append_nil, List.nil_append, List.cons_append, List.length_append, List.length_cons, List.length_nil, p_cb]
    congr 11
    push_cast
    omega
  refine ⟨by omega, Q', e1, ?_, ?_, fun i i0 i1 hn => ?_⟩
  · rw [hcc]
    exact k2
  · rw [e6, hj2]
    unfold p_st
    dsimp only
    rw [p_sD_app, if_pos rfl]
    unfold p_c0
    simp only [List.length_append, List.length_cons, List.length_nil]
    push_cast
    omega
  · rw [k3 i i0 i1, e6]
    unfold p_st
    dsimp only
    rw [p_sD_app, if_neg (show ¬ k = i from fun z => hn z.symm)]
theorem c_cyb (hc : q_cyb b f g h n d l k p) (hg : h k = p) : q_cy b f g h n d l 0 := by
  obtain ⟨c0, Q, e0, e1, e2, e3⟩ := hc
  refine ⟨c0, Q, e0, fun z => by omega, ?_, fun i i0 i1 => ?_⟩
  · rw [show p_ex 0 _ _ _ = [] from rfl, List.append_nil]
    exact e1
  · by_cases hi : i = k
    · rw [hi, hg]
      exact e2
    · exact e3 i i0 i1 hi
theorem c_flw (hc : q_cy b f g h n c l 0) (hr : q_run b n c 0 0 0 H L W WP) (hk : tk b n c.toNat = 0) : q_flw b f g h n l := by
  obtain ⟨c0, Q, e0, e1, -⟩ := hr
  obtain ⟨c1, Q0, k0, k1, k2, k3⟩ := hc
  rw [e0] at k0
  cases k0
  have z1 : Q.1 = 0 := a_efq0 e1 (by omega)
  have hi := p_iv_ok e0
  rw [z1] at hi
  obtain ⟨i1, i2, i3, i4⟩ := hi
  refine ⟨c.toNat, ⟨⟨Q, e0⟩, hk⟩, ?_, k3⟩
  rw [show p_ex 0 _ _ _ = [] from rfl, List.append_nil, z1] at k2
  unfold p_cc p_c2 at k2
  rw [i1 (by omega), i2 (by omega), (i3 (by omega)).1, i4 (by omega), p_ph0 (by omega)] at k2
  simpa [p_cb] using k2
/-! how long -/
theorem p_S_len : ∀ {w : List Int}, (p_S w).length + (p_Sr w).length = w.length
  | [] => rfl
  | o :: t => by
    unfold p_S p_Sr
    split
    · have := p_S_len (w := t)
      simp only [List.length_cons]
      omega
    · simp
theorem p_A_len : ∀ {w : List Int}, (p_A w).length + (p_Ar w).length = w.length
  | [] => rfl
  | o :: t => by
    unfold p_A p_Ar
    split
    · simp
    · have := p_A_len (w := t)
      simp only [List.length_cons]
      omega
def p_bl : List (List (Int × Int) × List (Int × Int) × List (Int × Int)) → Nat
  | [] => 0
  | (E, F, T) :: B => E.length + F.length + T.length + 2 + p_bl B
def p_dl : List (Int × List (List (Int × Int) × List (Int × Int) × List (Int × Int)) × List (Int × Int)) → Nat
  | [] => 0
  | (_, B, T) :: D => p_bl B + T.length + 1 + p_dl D
theorem p_cb_bl : ∀ {B : List (List (Int × Int) × List (Int × Int) × List (Int × Int))} {p : Int}, (p_cb p B).length = p_bl B
  | [], p => rfl
  | (E, F, T) :: B, p => by
    unfold p_cb p_bl
    simp only [List.length_append, List.length_cons, p_cb_bl (B := B)]
    omega
theorem p_cd_dl : ∀ {D : List (Int × List (List (Int × Int) × List (Int × Int) × List (Int × Int)) × List (Int × Int))} {p : Int}, (p_cd p D).length = p_dl D
  | [], p => rfl
  | (j, B, T) :: D, p => by
    unfold p_cd p_dl
    simp only [List.length_append, List.length_cons, p_cb_bl, p_cd_dl (D := D)]
    omega
theorem p_bl_app {E F T : List (Int × Int)} : ∀ {B : List (List (Int × Int) × List (Int × Int) × List (Int × Int))}, p_bl (B ++ [(E, F, T)]) = p_bl B + (E.length + F.length + T.length + 2)
  | [] => by
    show p_bl [(E, F, T)] = _
    unfold p_bl p_bl
    omega
  | (E0, F0, T0) :: B => by
    show p_bl ((E0, F0, T0) :: (B ++ [(E, F, T)])) = _
    rw [p_bl, p_bl, p_bl_app (B := B)]
    omega
theorem p_dl_app {j : Int} {B : List (List (Int × Int) × List (Int × Int) × List (Int × Int))} {T : List (Int × Int)} : ∀ {D : List (Int × List (List (Int × Int) × List (Int × Int) × List (Int × Int)) × List (Int × Int))}, p_dl (D ++ [(j, B, T)]) = p_dl D + (p_bl B + T.length + 1)
  | [] => by
    show p_dl [(j, B, T)] = _
    unfold p_dl p_dl
    omega
  | (j0, B0, T0) :: D => by
    show p_dl ((j0, B0, T0) :: (D ++ [(j, B, T)])) = _
    rw [p_dl, p_dl, p_dl_app (D := D)]
    omega
theorem p_cc_len {y : zYd} : (p_cc y st).length = 8 + p_dl y.1 + p_bl y.2.2.1 + y.2.2.2.1.length + y.2.2.2.2.1.length + (p_ph st).length + y.2.2.2.2.2.1.length := by
  unfold p_cc p_c2 p_c0
  simp only [List.length_append, List.length_cons, List.length_nil, p_cb_bl, p_cd_dl]
theorem p_ph_len : (p_ph st).length ≤ 1 ∧ (st < 400 ∨ 404 < st → (p_ph st).length = 0) := by
  unfold p_ph
  split
  · exact ⟨Nat.le_refl _, fun g => by omega⟩
  · exact ⟨Nat.zero_le _, fun _ => rfl⟩
/-- the steps and what waits are no more than the TOKENS -/
theorem p_len : ∀ {i : Nat} {Q : zQ}, a_run b n i = some Q → (p_cc (p_y b n i) Q.1).length + (p_y b n i).2.2.2.2.2.2.length ≤ 8 + i
  | 0, Q, h => by
    cases h
    show (p_cc ([], 0, [], [], [], [], []) 0).length + 0 ≤ 8 + 0
    rw [p_cc_len, p_ph0 (by omega)]
    simp [p_dl, p_bl]
  | i + 1, Q, h => by
    obtain ⟨Q0, h0, -, ha, e⟩ := a_run_pre h
    have ih := p_len h0
    have hv := a_vs_e (kd := tk b n i) (a_vs_ok h0)
    have e1 : Q.1 = a_st (a_ef Q0.1 (tk b n i)) Q0.2.1 Q0.2.2.1 (tk b n i) := by rw [e, a_nx_1]
    have hE := p_iv_e (kd := tk b n i) (p_iv_ok h0)
    have hp : p_ph Q0.1 = p_ph (a_ef Q0.1 (tk b n i)) := by
      have hq : Q0.1 = a_ef Q0.1 (tk b n i) ∨ ((Q0.1 < 400 ∨ 404 < Q0.1) ∧ (a_ef Q0.1 (tk b n i) < 400 ∨ 404 < a_ef Q0.1 (tk b n i))) := by
        unfold a_ef
        split <;> omega
      rcases hq with hq | ⟨q1, q2⟩
      · rw [← hq]
      · rw [p_ph0 q1, p_ph0 q2]
    rw [p_cc_len] at ih
    rw [p_y_s h0, e1, p_cc_len]
    rw [hp] at ih
    unfold a_at at ha
    generalize a_ef Q0.1 (tk b n i) = E at ih ha hv hE ⊢
    generalize tk b n i = kd at ha hv ⊢
    generalize tx b n i = x
    generalize p_y b n i = Y at ih hE ⊢
    generalize Q0.2.1 = mo at ha ⊢
    generalize Q0.2.2.1 = op at ha ⊢
    obtain ⟨D, k, B, A, F, O, w⟩ := Y
    obtain ⟨i1, i2, i3, i4⟩ := hE
    dsimp only at i1 i2 i3 i4 ih
    obtain ⟨hv, hif⟩ := hv
    unfold a_vs at hv
    have lS := p_S_len (w := w)
    have lA := p_A_len (w := w)
    have hph := p_ph_len (st := E)
    unfold p_nx
    dsimp only
    by_cases s0 : E = 0
    · rw [if_pos s0]
      have hz : a_st E mo op kd < 400 := by
        unfold a_st
        rw [if_pos s0]
        repeat (first | omega | split)
      have hz2 := (p_ph_len (st := a_st E mo op kd)).2 (Or.inl hz)
      split
      · dsimp only
        simp only [List.length_nil, p_bl]
        omega
      · dsimp only
        omega
    · rw [if_neg s0]
      by_cases s1 : E < 30
      · rw [if_pos s1]
        have hz : a_st E mo op kd < 400 := by
          unfold a_st
          rw [if_neg s0]
          repeat (first | omega | split)
        have hz2 := (p_ph_len (st := a_st E mo op kd)).2 (Or.inl hz)
        dsimp only
        omega
      · rw [if_neg s1]
        by_cases s2 : E < 200
        · rw [if_pos s2]
          have hz : a_st E mo op kd < 400 := by
            unfold a_st
            rw [if_neg s0, if_neg (by omega), if_neg (by omega), if_pos s2]
            omega
          have hz2 := (p_ph_len (st := a_st E mo op kd)).2 (Or.inl hz)
          dsimp only
          simp only [List.length_nil]
          omega
        · rw [if_neg s2]
          have hst : a_st E mo op kd = (if mo = 0 then E else if a_p kd = true then E else if 1 ≤ op then E else if E ≤ 304 then E + 100 else if E ≤ 404 then E - 370 else 0) := by
            unfold a_st
            rw [if_neg s0, if_neg (by omega), if_neg (by omega), if_neg s2]
          by_cases m0 : mo = 0
          · rw [if_pos m0] at hst ⊢
            rw [hst]
            split
            · dsimp only
              simp only [List.length_cons]
              omega
            · dsimp only
              simp only [List.length_append, List.length_cons, List.length_nil]
              omega
          · rw [if_neg m0] at hst ⊢
            by_cases pk : a_p kd = true
            · rw [if_pos pk] at hst ⊢
              rw [hst]
              split
              · dsimp only
                simp only [List.length_append, List.length_cons]
                omega
              · dsimp only
                simp only [List.length_append, List.length_cons]
                omega
            · rw [if_neg pk] at hst ⊢
              by_cases o1 : 1 ≤ op
              · rw [if_pos o1] at hst ⊢
                rw [hst]
                dsimp only
                simp only [List.length_append, List.length_tail]
                omega
              · rw [if_neg o1] at hst ⊢
                by_cases s3 : E ≤ 204
                · rw [if_pos s3]
                  rw [if_pos (show E ≤ 304 by omega)] at hst
                  have hz2 := (p_ph_len (st := a_st E mo op kd)).2 (Or.inl (by omega))
                  dsimp only
                  simp only [List.length_append, List.length_nil]
                  omega
                · rw [if_neg s3]
                  by_cases s4 : E ≤ 304
                  · rw [if_pos s4] at hst ⊢
                    have hz2 := (p_ph_len (st := a_st E mo op kd)).1
                    have hz3 := hph.2 (by omega)
                    dsimp only
                    simp only [List.length_append, List.length_nil]
                    omega
                  · rw [if_neg s4] at hst ⊢
                    by_cases s5 : E ≤ 404
                    · rw [if_pos s5] at hst ⊢
                      have hz2 := (p_ph_len (st := a_st E mo op kd)).2 (Or.inl (by omega))
                      have hz3 : (p_ph E).length = 1 := by rw [p_ph1 (by omega)]; rfl
                      dsimp only
                      rw [p_bl_app]
                      simp only [List.length_append, List.length_nil]
                      omega
                    · rw [if_neg s5] at hst ⊢
                      have hz2 := (p_ph_len (st := a_st E mo op kd)).2 (Or.inl (by omega))
                      have hz3 := hph.2 (by omega)
                      have j1 := congrArg List.length (i1 (by omega))
                      have j2 := congrArg List.length (i2 (by omega))
                      dsimp only
                      rw [p_dl_app]
                      simp only [List.length_append, List.length_nil, p_bl]
                      omega
theorem c_cylen (hc : q_cy b f g h n c l u) : l ≤ c + 9 ∧ 0 ≤ l := by
  obtain ⟨c0, Q, e0, e1, e2, e3⟩ := hc
  have h1 := p_len e0
  have lS := p_S_len (w := (p_y b n c.toNat).2.2.2.2.2.2)
  have lA := p_A_len (w := (p_y b n c.toNat).2.2.2.2.2.2)
  have l1 := e2.1
  rw [List.length_append] at l1
  have h2 : (p_ex u (p_y b n c.toNat).2.2.2.2.2.2 (tk b n c.toNat) (tx b n c.toNat)).length ≤ (p_y b n c.toNat).2.2.2.2.2.2.length + 1 := by
    unfold p_ex
    split
    · omega
    · split
      · omega
      · split
        · rw [List.length_append, List.length_singleton]
          omega
        · split
          · rw [List.length_append, List.length_singleton]
            omega
          · split
            · rw [List.length_singleton]
              omega
            · simp
  push_cast at l1
  omega
end ZM7
end
