noncomputable section
/-! ===== the LAWS told: the model's branches ===== -/
section ZM9
variable {v : zVw} {n c d e st mo op H L W WP S kd s x k l w bb u j p f : Int}
theorem p_ao_k {C : List (Int × Int)} (h : p_ao v s k C) : k = 420 * s + C.length := h.1
theorem c_mylen (hm : q_my v n c s k w bb u) : 0 ≤ k - 420 * s ∧ 0 ≤ bb - 130 * s := by
  obtain ⟨c0, s0, Q, u1, X, g0, g1, g2, g3, g4, g5, g6, g7⟩ := hm
  have h1 := g4.1
  have h2 := g6.1
  omega
theorem c_myif (hm : q_my v n (d - 1) s k w bb 0) (hr : q_run (t_b v) n (d - 1) st 0 0 H L W WP) (hk : tk (t_b v) n (d - 1).toNat = 266) (h4 : d ≤ 400) (h1 : 30 ≤ st) (h2 : st ≤ 33) : q_my v n d s k 0 bb 0 ∧ q_pb (t_b v) n d s k := by
  have he : a_ef st 266 = st := by unfold a_ef; omega
  have ha : a_cl (a_ef st 266) 0 0 H L 266 = 0 := by
    rw [he]
    unfold a_cl
    rw [if_neg (by omega), if_neg (by omega), if_pos (by omega), if_pos rfl, if_pos h2]
  have hmy : q_my v n d s k 0 bb 0 := by
    refine c_my hm hr hk ha h4 fun D kk B E F O u1 X hi hmo hwt => ?_
    have hu1 : u1 = [] := hmo
    subst hu1
    rw [he] at hi ⊢
    rw [p_nx_f h1 (by omega)]
    obtain ⟨i1, i2, i3, i4⟩ := hi
    have j1 : E = [] := i1 (by omega)
    have j2 : F = [] := i2 (by omega)
    obtain ⟨j3, j5⟩ := i3 (by omega)
    dsimp only at j3 j5
    subst j1 j2 j3
    exact ⟨by rw [show p_me 0 [] _ _ = [] from rfl, List.append_nil]; rfl, rfl, rfl, p_wt_0⟩
  refine ⟨hmy, ?_⟩
  obtain ⟨Q, Q', e0, e1, e2, e3, e4, e5, e6, ed⟩ := p_go hr hk ha h4
  obtain ⟨c0, s0, Q0, u1, X, g0, g1, g2, g3, g4, -⟩ := hmy
  rw [e1] at g0
  cases g0
  have hu1 : u1 = [] := g3
  subst hu1
  have hk2 := g4.1
  rw [he] at e3 e6
  have hs : Q'.1 = st + 171 := by
    rw [e3]
    unfold a_st
    rw [if_neg (by omega), if_neg (by omega), if_neg (by omega), if_pos (by omega)]
  refine ⟨c0, Q', e1, by omega, ?_⟩
  rw [show p_me 0 [] _ _ = [] from rfl, List.append_nil] at hk2
  generalize p_y (t_b v) n (d - 1).toNat = Y at e6
  obtain ⟨D, kk, B, E, F, O, w0⟩ := Y
  rw [p_nx_f h1 (by omega)] at e6
  rw [e6] at hk2 ⊢
  unfold p_mc at hk2
  simpa using hk2
/-- an expression's end -/
theorem c_myx1 (hm : q_my v n (d - 1) s k w bb 4) (hr : q_run (t_b v) n (d - 1) st 1 0 H L W WP) (hk : tk (t_b v) n (d - 1).toNat = kd) (h4 : d ≤ 400) (hx : (200 ≤ st ∧ st ≤ 204 ∧ kd = 60) ∨ (300 ≤ st ∧ st ≤ 304 ∧ kd = 267)) : q_my v n d s k 0 bb 0 ∧ ∃ Q', a_run (t_b v) n d.toNat = some Q' ∧ Q'.1 = st + 100 ∧ (p_y (t_b v) n d.toNat).2.2.2.2.2.1 = [] ∧ (st ≤ 204 → (p_y (t_b v) n d.toNat).2.2.2.2.1 = []) := by
  have hp : a_p kd = false := by rcases hx with ⟨-, -, rfl⟩ | ⟨-, -, rfl⟩ <;> decide
  have ha : a_cl (a_ef st kd) 1 0 H L kd = 0 := by
    rw [a_ef_s (by omega)]
    refine a_cl_1x (by omega) hp ?_
    unfold a_x
    rcases hx with ⟨h1, h2, rfl⟩ | ⟨h1, h2, rfl⟩
    · rw [if_pos h2]
    · rw [if_neg (by omega), if_pos h2]
  obtain ⟨Q, Q', e0, e1, e2, e3, e4, e5, e6, ed⟩ := p_go hr hk ha h4
  rw [a_ef_s (by omega)] at e3 e6
  rw [a_st_x (by omega) hp, if_pos (by omega)] at e3
  refine ⟨c_my hm hr hk ha h4 fun D kk B E F O u1 X hi hmo hwt => ?_, Q', e1, e3, ?_, fun g => ?_⟩
  · rw [a_ef_s (by omega)] at hi ⊢
    have hmo : (∀ o ∈ u1, o ≠ 40) ∧ p_A X = [] := hmo
    obtain ⟨a1, a2⟩ := p_mo_A hmo.1 hmo.2
    obtain ⟨i1, i2, i3, i4⟩ := hi
    have j2 : F = [] := i2 (by omega)
    subst j2
    rcases hx with ⟨h1, h2, -⟩ | ⟨h1, h2, -⟩
    · have j1 : E = [] := i1 (by omega)
      subst j1
      rw [p_nx_1 h1 h2 hp, a1]
      exact ⟨by unfold p_mc p_m1; simp only [List.append_assoc, List.append_nil, List.nil_append]; rfl, rfl, rfl, p_wt_0⟩
    · rw [p_nx_2 h1 h2 hp, a1]
      exact ⟨by unfold p_mc p_m1; simp only [List.append_assoc, List.append_nil, List.nil_append]; rfl, rfl, rfl, p_wt_0⟩
  · rw [e6]
    generalize p_y (t_b v) n (d - 1).toNat = Y
    obtain ⟨D, kk, B, E, F, O, w0⟩ := Y
    rcases hx with ⟨h1, h2, -⟩ | ⟨h1, h2, -⟩
    · rw [p_nx_1 h1 h2 hp]
    · rw [p_nx_2 h1 h2 hp]
  · rw [e6]
    generalize p_y (t_b v) n (d - 1).toNat = Y
    obtain ⟨D, kk, B, E, F, O, w0⟩ := Y
    rcases hx with ⟨h1, h2, -⟩ | ⟨h1, h2, -⟩
    · rw [p_nx_1 h1 h2 hp]
    · omega
theorem c_mylt (hm : q_my v n (d - 1) s k w bb 4) (hr : q_run (t_b v) n (d - 1) st 1 0 H L W WP) (hk : tk (t_b v) n (d - 1).toNat = 60) (h4 : d ≤ 400) (h1 : 200 ≤ st) (h2 : st ≤ 204) : q_my v n d s k 0 bb 0 ∧ q_pm (t_b v) n d s k := by
  obtain ⟨hmy, Q', g1, g2, g3, g4⟩ := c_myx1 hm hr hk h4 (Or.inl ⟨h1, h2, rfl⟩)
  refine ⟨hmy, ?_⟩
  obtain ⟨c0, s0, Q0, u1, X, f0, -, -, f3, f4, -⟩ := hmy
  rw [g1] at f0
  cases f0
  have hu1 : u1 = [] := f3
  subst hu1
  have hk2 := f4.1
  rw [show p_me 0 [] _ _ = [] from rfl, List.append_nil] at hk2
  unfold p_mc at hk2
  rw [g3, g4 h2, List.append_nil, List.append_nil, List.length_append] at hk2
  exact ⟨c0, Q', g1, by omega, by omega, by push_cast at hk2; omega⟩
theorem c_myth (hm : q_my v n (d - 1) s k w bb 4) (hr : q_run (t_b v) n (d - 1) st 1 0 H L W WP) (hk : tk (t_b v) n (d - 1).toNat = 267) (h4 : d ≤ 400) (h1 : 300 ≤ st) (h2 : st ≤ 304) : q_my v n d s k 0 bb 0 ∧ q_pt (t_b v) n d s k := by
  obtain ⟨hmy, Q', g1, g2, g3, g4⟩ := c_myx1 hm hr hk h4 (Or.inr ⟨h1, h2, rfl⟩)
  refine ⟨hmy, ?_⟩
  obtain ⟨c0, s0, Q0, u1, X, f0, -, -, f3, f4, -⟩ := hmy
  rw [g1] at f0
  cases f0
  have hu1 : u1 = [] := f3
  subst hu1
  have hk2 := f4.1
  rw [show p_me 0 [] _ _ = [] from rfl, List.append_nil] at hk2
  unfold p_mc at hk2
  rw [g3, List.append_nil, List.length_append, List.length_append] at hk2
  exact ⟨c0, Q', g1, by omega, by omega, by push_cast at hk2; omega⟩
theorem c_mylaw (hm : q_my v n (d - 1) s k w bb 0) (hr : q_run (t_b v) n (d - 1) 0 0 0 H L W WP) (hk : tk (t_b v) n (d - 1).toNat = kd) (h4 : d ≤ 400) (h3 : 260 ≤ kd ∧ kd ≤ 263) : q_my v n d s k 0 bb 0 := by
  refine c_my hm hr hk (by rw [a_cl_0]; omega) h4 fun D kk B E F O u1 X hi hmo hwt => ?_
  have hu1 : u1 = [] := hmo
  subst hu1
  rw [a_ef_s (by omega)] at hi ⊢
  rw [p_nx_l h3]
  obtain ⟨i1, i2, i3, i4⟩ := hi
  have j1 : E = [] := i1 (by omega)
  have j2 : F = [] := i2 (by omega)
  obtain ⟨j3, j5⟩ := i3 (by omega)
  have j4 : B = [] := i4 (by omega)
  dsimp only at j3 j5
  subst j1 j2 j3 j4
  exact ⟨by rw [show p_me 0 [] _ _ = [] from rfl, List.append_nil]; rfl, rfl, rfl, p_wt_0⟩
theorem c_myeq {H2 L2 W2 P2 : Int} (hm : q_my v n (d - 1) s k w bb 0) (hr : q_run (t_b v) n (d - 1) 20 0 0 H L W WP) (hk : tk (t_b v) n (d - 1).toNat = 61) (hr2 : q_run (t_b v) n (d - 2) 0 0 0 H2 L2 W2 P2) (hk2 : tk (t_b v) n (d - 2).toNat = j + 260) (h3 : 0 ≤ j ∧ j ≤ 3) (h4 : d ≤ 400) : q_my v n d s k 0 bb 0 ∧ q_bm (t_b v) n d s j bb := by
  have ha : a_cl (a_ef 20 61) 0 0 H L 61 = 0 := by rw [a_ef_s (by omega)]; rfl
  have hmy : q_my v n d s k 0 bb 0 := by
    refine c_my hm hr hk ha h4 fun D kk B E F O u1 X hi hmo hwt => ?_
    have hu1 : u1 = [] := hmo
    subst hu1
    rw [a_ef_s (by omega)] at hi ⊢
    rw [p_nx_0 (by omega) (fun z => by omega)]
    obtain ⟨i1, i2, i3, i4⟩ := hi
    obtain ⟨j3, j5⟩ := i3 (by omega)
    dsimp only at j3 j5 ⊢
    rw [j5]
    exact ⟨by rw [show p_me 0 [] _ _ = [] from rfl, List.append_nil], rfl, rfl, p_wt_0⟩
  refine ⟨hmy, ?_⟩
  obtain ⟨Q, Q', e0, e1, e2, e3, e4, e5, e6, ed⟩ := p_go hr hk ha h4
  rw [a_ef_s (st := 20) (by omega)] at e3 e6
  rw [p_nx_0 (by omega) (fun z => by omega)] at e6
  have q20 : Q.1 = 20 := a_efq0 (kd := 61) e2 (by omega)
  have hi := p_iv_ok e0
  rw [q20] at hi
  obtain ⟨i1, i2, i3, i4⟩ := hi
  have hb : (p_y (t_b v) n (d - 1).toNat).2.1 = j := by
    obtain ⟨d0, Q2, k0, k1, -⟩ := hr2
    have z2 : Q2.1 = 0 := a_efq0 k1 (by omega)
    have hy := p_y_s k0
    rw [show (d - 2).toNat + 1 = (d - 1).toNat by omega, z2, a_ef_s (by omega), hk2] at hy
    rw [hy]
    generalize p_y (t_b v) n (d - 2).toNat = Y
    obtain ⟨D, k', B, E, F, O, w⟩ := Y
    rw [p_nx_l (by omega)]
    show j + 260 - 260 = j
    omega
  obtain ⟨c0, s0, Q0, u1, X, f0, -, -, f3, -, -, f6, -⟩ := hmy
  rw [e1] at f0
  cases f0
  have q30 : Q'.1 = 30 := e3
  refine ⟨c0, Q', e1, by omega, by rw [e6, hb], ?_⟩
  have h6 := f6.1
  unfold p_en at h6
  rw [e6] at h6 ⊢
  rw [i4 (by omega)] at h6
  simpa [p_eb] using h6
/-- nothing waits ahead of an operand: nothing is out -/
theorem p_iv3 : ∀ {i : Nat} {b : Int → Int} {Q : zQ}, a_run b n i = some Q → Q.2.1 = 0 → (p_y b n i).2.2.2.2.2.2 = [] → (p_y b n i).2.2.2.2.2.1 = []
  | 0, b, Q, h, _, _ => rfl
  | i + 1, b, Q, h, hm, hw => by
    obtain ⟨Q0, h0, -, ha, e⟩ := a_run_pre h
    have e2 : Q.2.1 = a_mo (a_ef Q0.1 (tk b n i)) Q0.2.1 Q0.2.2.1 (tk b n i) := by rw [e, a_nx_2]
    have hE := p_iv_e (kd := tk b n i) (p_iv_ok h0)
    rw [e2] at hm
    rw [p_y_s h0] at hw ⊢
    generalize a_ef Q0.1 (tk b n i) = E at hm hw hE ⊢
    generalize tk b n i = kd at hm hw ⊢
    generalize tx b n i = x at hw ⊢
    generalize p_y b n i = Y at hw hE ⊢
    generalize Q0.2.1 = mo at hm hw ⊢
    generalize Q0.2.2.1 = op at hm hw ⊢
    obtain ⟨D, k, B, A, F, O, w⟩ := Y
    obtain ⟨i1, i2, i3, i4⟩ := hE
    dsimp only at i1 i2 i3 i4
    unfold a_mo at hm
    unfold p_nx at hw ⊢
    dsimp only at hw ⊢
    by_cases s0 : E = 0
    · rw [if_pos s0] at hw ⊢
      split
      · rfl
      · exact (i3 (by omega)).1
    · rw [if_neg s0] at hw ⊢
      by_cases s1 : E < 30
      · rw [if_pos s1] at hw ⊢
        exact (i3 (by omega)).1
      · rw [if_neg s1] at hw ⊢
        by_cases s2 : E < 200
        · rw [if_pos s2]
        · rw [if_neg s2] at hw hm ⊢
          by_cases m0 : mo = 0
          · rw [if_pos m0] at hw hm ⊢
            by_cases k40 : kd = 40
            · rw [if_pos k40] at hw
              cases hw
            · rw [if_neg k40] at hm
              cases hm
          · rw [if_neg m0] at hw hm ⊢
            by_cases pk : a_p kd = true
            · rw [if_pos pk] at hw ⊢
              split at hw <;> cases hw
            · rw [if_neg pk] at hw hm ⊢
              by_cases o1 : 1 ≤ op
              · rw [if_pos o1] at hm
                cases hm
              · rw [if_neg o1]
                split
                · rfl
                · split
                  · rfl
                  · split <;> rfl
theorem c_mypb (hm : q_my v n c s k 0 bb 0) (hr : q_run (t_b v) n c st 0 0 H L W WP) (h1 : 30 ≤ st) (h2 : st ≤ 34) : q_pb (t_b v) n c s k := by
  obtain ⟨c0, s0, Q, u1, X, g0, g1, g2, g3, g4, g5, -⟩ := hm
  obtain ⟨c1, Q0, e0, e1, e2, -⟩ := hr
  rw [g0] at e0
  cases e0
  have hv := a_vs_ok g0
  unfold a_vs at hv
  have hq : 30 ≤ Q.1 ∧ (Q.1 ≤ 34 ∨ 500 ≤ Q.1) := by
    unfold a_ef at e1
    split at e1 <;> split at e1 <;> omega
  have hu1 : u1 = [] := g3
  subst hu1
  have hX := p_wt_n g5
  subst hX
  obtain ⟨i1, i2, i3, i4⟩ := p_iv_ok g0
  have hO := p_iv3 g0 e2 g2
  have hk2 := g4.1
  rw [show p_me 0 [] _ _ = [] from rfl, List.append_nil] at hk2
  unfold p_mc at hk2
  rw [i1 (by omega), i2 (by omega), hO] at hk2
  exact ⟨c0, Q, g0, hq.1, by simpa using hk2⟩
/-! rows of branches -/
def p_ml : List (List (Int × Int) × List (Int × Int) × List (Int × Int)) → Nat
  | [] => 0
  | (E, F, T) :: B => E.length + F.length + T.length + p_ml B
theorem p_mb_len : ∀ {B : List (List (Int × Int) × List (Int × Int) × List (Int × Int))}, (p_mb B).length = p_ml B
  | [] => rfl
  | (E, F, T) :: B => by
    unfold p_mb p_ml
    rw [List.length_append, List.length_append, List.length_append, p_mb_len (B := B)]
theorem p_mb_app {E F T : List (Int × Int)} : ∀ {B : List (List (Int × Int) × List (Int × Int) × List (Int × Int))}, p_mb (B ++ [(E, F, T)]) = p_mb B ++ (E ++ F ++ T)
  | [] => by
    show p_mb [(E, F, T)] = _
    unfold p_mb p_mb
    simp
  | (E0, F0, T0) :: B => by
    show p_mb ((E0, F0, T0) :: (B ++ [(E, F, T)])) = _
    rw [p_mb, p_mb, p_mb_app (B := B)]
    simp only [List.append_assoc]
theorem p_md_app {i : Int} {B : List (List (Int × Int) × List (Int × Int) × List (Int × Int))} {T : List (Int × Int)} : ∀ {D : List (Int × List (List (Int × Int) × List (Int × Int) × List (Int × Int)) × List (Int × Int))}, p_md (D ++ [(i, B, T)]) = p_md D ++ (p_mb B ++ T)
  | [] => by
    show p_md [(i, B, T)] = _
    unfold p_md p_md
    simp
  | (i0, B0, T0) :: D => by
    show p_md ((i0, B0, T0) :: (D ++ [(i, B, T)])) = _
    rw [p_md, p_md, p_md_app (D := D)]
    simp only [List.append_assoc]
theorem p_eb_app {E F T : List (Int × Int)} : ∀ {B : List (List (Int × Int) × List (Int × Int) × List (Int × Int))} {p : Int}, p_eb p (B ++ [(E, F, T)]) = p_eb p B ++ [(1, p + (p_mb B).length, p + (p_mb B).length + E.length, p + (p_mb B).length + E.length + F.length, p + (p_mb B).length + E.length + F.length + T.length)]
  | [], p => by
    show p_eb p [(E, F, T)] = _
    unfold p_eb p_eb p_mb
    simp
  | (E0, F0, T0) :: B, p => by
    show p_eb p ((E0, F0, T0) :: (B ++ [(E, F, T)])) = _
    rw [p_eb, p_eb, p_eb_app (B := B), p_mb]
    simp only [List.cons_append, List.length_append]
    push_cast
    simp only [Int.add_assoc]
theorem p_ed_app {i : Int} {B : List (List (Int × Int) × List (Int × Int) × List (Int × Int))} {T : List (Int × Int)} : ∀ {D : List (Int × List (List (Int × Int) × List (Int × Int) × List (Int × Int)) × List (Int × Int))} {p : Int}, p_ed p (D ++ [(i, B, T)]) = p_ed p D ++ (p_eb (p + (p_md D).length) B ++ [(0, 0, 0, p + (p_md D).length + (p_mb B).length, p + (p_md D).length + (p_mb B).length + T.length)])
  | [], p => by
    show p_ed p [(i, B, T)] = _
    unfold p_ed p_ed p_md
    simp
  | (i0, B0, T0) :: D, p => by
    show p_ed p ((i0, B0, T0) :: (D ++ [(i, B, T)])) = _
    rw [p_ed, p_ed, p_ed_app (D := D), p_md]
    simp only [List.cons_append, List.append_assoc, List.length_append]
    push_cast
    simp only [Int.add_assoc]
theorem p_eb_len : ∀ {B : List (List (Int × Int) × List (Int × Int) × List (Int × Int))} {p : Int}, (p_eb p B).length = B.length
  | [], p => rfl
  | (E, F, T) :: B, p => by
    unfold p_eb
    rw [List.length_cons, List.length_cons, p_eb_len (B := B)]
def p_ll : List (Int × List (List (Int × Int) × List (Int × Int) × List (Int × Int)) × List (Int × Int)) → Nat
  | [] => 0
  | (_, B, _) :: D => B.length + 1 + p_ll D
theorem p_ed_len : ∀ {D : List (Int × List (List (Int × Int) × List (Int × Int) × List (Int × Int)) × List (Int × Int))} {p : Int}, (p_ed p D).length = p_ll D
  | [], p => rfl
  | (i, B, T) :: D, p => by
    unfold p_ed p_ll
    rw [List.length_append, List.length_cons, p_eb_len, p_ed_len (D := D)]
    omega
theorem p_fl_app {i : Int} {B : List (List (Int × Int) × List (Int × Int) × List (Int × Int))} {T : List (Int × Int)} : ∀ {D : List (Int × List (List (Int × Int) × List (Int × Int) × List (Int × Int)) × List (Int × Int))} {p k : Int} {d : Int × Int}, p_fl p (D ++ [(i, B, T)]) k d = if i = k then (p + p_ll D, p + p_ll D + B.length + 1) else p_fl p D k d
  | [], p, k, d => by
    show p_fl p [(i, B, T)] k d = _
    unfold p_fl p_fl p_ll
    simp
  | (i0, B0, T0) :: D, p, k, d => by
    show p_fl p ((i0, B0, T0) :: (D ++ [(i, B, T)])) k d = _
    rw [p_fl, p_fl_app (D := D), p_fl, p_ll]
    push_cast
    simp only [Int.add_assoc]
theorem p_bt_s {E : List (Int × Int × Int × Int × Int)} {y : Int × Int × Int × Int × Int} (q : p_bt v s bb E) (hf : p_b1 v bb y) : p_bt v s (bb + 1) (E ++ [y]) := by
  obtain ⟨q1, q2⟩ := q
  refine ⟨by rw [List.length_append, List.length_singleton]; push_cast; omega, fun i z hi => ?_⟩
  rcases Nat.lt_trichotomy i E.length with c1 | c1 | c1
  · rw [List.getElem?_append_left c1] at hi
    exact q2 i z hi
  · rw [c1, List.getElem?_append_right (Nat.le_refl _), Nat.sub_self] at hi
    cases hi
    rw [c1, ← q1]
    exact hf
  · rw [List.getElem?_append_right (by omega), List.getElem?_eq_none (by simp; omega)] at hi
    cases hi
end ZM9
end
