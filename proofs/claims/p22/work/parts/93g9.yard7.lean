/-! ===== the LAWS told: the model's branches, LAWS ===== -/
section ZMA
variable {v : zVw} {n c d e st mo op H L W WP S kd s x k l w bb u j p f : Int}
/-- places of one LAW's text -/
theorem p_pr {b : Int → Int} {st2 mo2 op2 H2 L2 W2 P2 S2 : Int} (hr : q_run b n c st mo op H L W WP) (hs : S = a_S b n c.toNat) (hr2 : q_run b n e st2 mo2 op2 H2 L2 W2 P2) (hs2 : S2 = a_S b n e.toNat) (h3 : S = S2) (h1 : 200 ≤ st) (h2 : 200 ≤ st2) (hk : p_rk st ≤ p_rk st2) : p_sm (p_rk st) (p_rk st2) (p_y b n c.toNat) (p_y b n e.toNat) := by
  obtain ⟨Qa, a1, a2, a3⟩ := p_pl hr hs h1
  obtain ⟨Qb, b1, b2, b3⟩ := p_pl hr2 hs2 h2
  have := p_two a1 b1 (by omega) (by omega) (by omega) (by rw [a2, b2]; exact hk)
  rw [a2, b2] at this
  exact this
theorem c_myel {a m t e1 e2 e3 st1 st2 st3 H1 L1 W1 P1 H2 L2 W2 P2 H3 L3 W3 P3 S2 S3 S4 b2 : Int} (hm : q_my v n (d - 1) s k w bb 4) (hr : q_run (t_b v) n (d - 1) st 1 0 H L W WP) (hs : S = a_S (t_b v) n (d - 1).toNat) (hk : tk (t_b v) n (d - 1).toNat = 268) (hb : q_pb (t_b v) n e1 s a) (r1 : q_run (t_b v) n e1 st1 0 0 H1 L1 W1 P1) (s1 : S2 = a_S (t_b v) n e1.toNat) (hp : q_pm (t_b v) n e2 s m) (r2 : q_run (t_b v) n e2 st2 0 0 H2 L2 W2 P2) (s2 : S3 = a_S (t_b v) n e2.toNat) (ht : q_pt (t_b v) n e3 s t) (r3 : q_run (t_b v) n e3 st3 0 0 H3 L3 W3 P3) (s3 : S4 = a_S (t_b v) n e3.toNat)
    (h4 : d ≤ 400) (h1 : 400 ≤ st) (h2 : st ≤ 404) (q1 : S = S2) (q2 : S = S3) (q3 : S = S4) (x1 : st1 = st - 200) (x2 : st2 = st - 100) (x3 : st3 = st) (hb2 : b2 = bb + 1) (f1 : v 67 bb = 1) (f2 : v 68 bb = a) (f3 : v 69 bb = m) (f4 : v 70 bb = t) (f5 : v 71 bb = k) : q_my v n d s k 0 b2 0 := by
  have hpk : a_p 268 = false := by decide
  have hrk := p_rk4 h1 h2
  have g1 := p_pr r1 s1 hr hs (by omega) (by omega) (by omega) (by rw [p_rk2 (by omega) (by omega), hrk]; omega)
  have g2 := p_pr r2 s2 hr hs (by omega) (by omega) (by omega) (by rw [p_rk3 (by omega) (by omega), hrk]; omega)
  have g3 := p_pr r3 s3 hr hs (by omega) (by omega) (by omega) (by rw [x3]; exact Int.le_refl _)
  rw [p_rk2 (by omega) (by omega), hrk] at g1
  rw [p_rk3 (by omega) (by omega), hrk] at g2
  rw [x3, hrk] at g3
  obtain ⟨-, a1, -, a2⟩ := g1
  obtain ⟨a3, -⟩ := a2 (by omega)
  obtain ⟨-, a4, -, a5⟩ := g2
  obtain ⟨a6, a7, -⟩ := a5 (by omega)
  have a7 := a7 (by omega)
  obtain ⟨-, a8, -, a9⟩ := g3
  obtain ⟨b0, b1, b3⟩ := a9 rfl
  have b1 := b1 (by omega)
  have b3 := b3 (by omega)
  obtain ⟨-, -, -, -, k1⟩ := hb
  obtain ⟨-, -, -, -, -, k2⟩ := hp
  obtain ⟨-, -, -, -, -, k3⟩ := ht
  have k1' : a = 420 * s + (p_m1 (p_y (t_b v) n (d - 1).toNat)).length := by
    rw [k1]
    unfold p_m1
    rw [a1, a3]
  have k2' : m = 420 * s + (p_m1 (p_y (t_b v) n (d - 1).toNat)).length + (p_y (t_b v) n (d - 1).toNat).2.2.2.1.length := by
    rw [k2]
    unfold p_m1
    rw [a4, a6, a7]
  have k3' : t = 420 * s + (p_m1 (p_y (t_b v) n (d - 1).toNat)).length + (p_y (t_b v) n (d - 1).toNat).2.2.2.1.length + (p_y (t_b v) n (d - 1).toNat).2.2.2.2.1.length := by
    rw [k3]
    unfold p_m1
    rw [a8, b0, b1, b3]
  obtain ⟨Q, Q', e0, e1', e2', e3', e4', e5', e6, ed⟩ := p_go hr hk (by rw [a_ef_s (by omega)]; exact a_cl_1x (by omega) hpk (by unfold a_x; rw [if_neg (by omega), if_neg (by omega), if_pos h2])) h4
  rw [a_ef_s (st := st) (by omega)] at e6
  obtain ⟨c0, s0, Q0, u1, X, g0, -, w2, w3, w4, w5, w6, w7⟩ := hm
  rw [e0] at g0
  cases g0
  have hmo : (∀ o ∈ u1, o ≠ 40) ∧ p_A X = [] := w3
  obtain ⟨z1, z2⟩ := p_mo_A hmo.1 hmo.2
  unfold p_w at w2
  rw [show p_me 4 u1 _ _ = u1.map p_em from rfl, ← z1, ← w2] at w4
  generalize p_y (t_b v) n (d - 1).toNat = Y at w4 w6 w7 e6 k1' k2' k3'
  obtain ⟨D, kk, B, E, F, O, w0⟩ := Y
  rw [p_nx_3 h1 h2 hpk] at e6
  refine ⟨by omega, s0, Q', [], [], e1', fun g => by omega, by unfold p_w; rw [e6]; rfl, rfl, ?_, p_wt_0, ?_, ?_⟩
  · rw [e6, show p_me 0 [] _ _ = [] from rfl, List.append_nil]
    have : p_mc (D, kk, B ++ [(E, F, O ++ p_A w0)], [], [], [], []) = p_mc (D, kk, B, E, F, O, w0) ++ p_A w0 := by
      unfold p_mc p_m1
      dsimp only
      rw [p_mb_app]
      simp only [List.append_assoc, List.append_nil]
    rw [this]
    exact w4
  · rw [e6, hb2]
    have hk3 := w4.1
    unfold p_mc at hk3
    unfold p_m1 at k1' k2' k3' hk3
    dsimp only at k1' k2' k3' hk3
    simp only [List.length_append] at k1' k2' k3' hk3
    push_cast at k1' k2' k3' hk3
    unfold p_en at w6 ⊢
    dsimp only at w6 ⊢
    rw [p_eb_app, ← List.append_assoc]
    refine p_bt_s w6 ⟨f1, fun _ => ⟨?_, ?_⟩, ?_, ?_⟩
    · rw [f2]
      dsimp only
      omega
    · rw [f3]
      dsimp only
      omega
    · rw [f4]
      dsimp only
      omega
    · rw [f5]
      dsimp only
      rw [List.length_append]
      push_cast
      omega
  · intro i i0 i1
    have := w7 i i0 i1
    unfold p_lw at this ⊢
    rw [e6]
    exact this
theorem c_myse {t e1 e2 st1 st2 H1 L1 W1 P1 H2 L2 W2 P2 S2 S3 b2 kk f' : Int} (hm : q_my v n (d - 1) s k w bb 4) (hr : q_run (t_b v) n (d - 1) st 1 0 H L W WP) (hs : S = a_S (t_b v) n (d - 1).toNat) (hk : tk (t_b v) n (d - 1).toNat = 59) (hb : q_bm (t_b v) n e1 s kk f') (r1 : q_run (t_b v) n e1 st1 0 0 H1 L1 W1 P1) (s1 : S2 = a_S (t_b v) n e1.toNat) (hp : q_pb (t_b v) n e2 s t) (r2 : q_run (t_b v) n e2 st2 0 0 H2 L2 W2 P2) (s2 : S3 = a_S (t_b v) n e2.toNat)
    (h4 : d ≤ 400) (h1 : 500 ≤ st) (h2 : st ≤ 504) (q1 : S = S2) (q2 : S = S3) (x0 : 0 ≤ kk) (x1 : 30 ≤ st1) (x2 : st1 ≤ 34) (x3 : st2 = st) (hb2 : b2 = bb + 1) (f1 : v 67 bb = 0) (f4 : v 70 bb = t) (f5 : v 71 bb = k) : q_myb v false n d s k 0 b2 kk (4 * s + kk) f' := by
  have hpk : a_p 59 = false := by decide
  have g2 := p_pr r2 s2 hr hs (by omega) (by omega) (by omega) (by rw [x3]; exact Int.le_refl _)
  rw [x3] at g2
  obtain ⟨-, a1, -, a2⟩ := g2
  obtain ⟨a3, -⟩ := a2 rfl
  obtain ⟨Qa, b1, b2', b3⟩ := p_pl hr hs (by omega)
  obtain ⟨Qb, c1, c2⟩ : ∃ Qb, a_run (t_b v) n e1.toNat = some Qb ∧ a_ef Qb.1 (tk (t_b v) n e1.toNat) = a_ef st1 (tk (t_b v) n e1.toNat) := by
    obtain ⟨c0, Q, f0, f1, -⟩ := r1
    exact ⟨Q, f0, f1⟩
  have b30 : 30 ≤ a_ef st1 (tk (t_b v) n e1.toNat) ∧ p_rk (a_ef st1 (tk (t_b v) n e1.toNat)) ≤ 20 := by
    unfold a_ef
    split
    · exact ⟨by omega, by rw [p_rk5 (by omega)]; exact Int.le_refl _⟩
    · exact ⟨by omega, by have := p_rk0 x1 x2; omega⟩
  have hsm := p_two c1 b1 (by omega) (by rw [c2]; exact b30.1) (by omega) (by rw [b2', c2, p_rk5 (st := st) (by omega)]; exact b30.2)
  obtain ⟨-, m1, m2, -⟩ := hsm
  obtain ⟨-, -, -, -, k0, k1⟩ := hb
  obtain ⟨-, -, -, -, k2⟩ := hp
  rw [← m2] at k0
  rw [← m1] at k1
  have k2' : t = 420 * s + (p_m1 (p_y (t_b v) n (d - 1).toNat)).length := by
    rw [k2]
    unfold p_m1
    rw [a1, a3]
  obtain ⟨Q, Q', e0, e1', e2', e3', e4', e5', e6, ed⟩ := p_go hr hk (by rw [a_ef_s (by omega)]; exact a_cl_1x (by omega) hpk (by unfold a_x; rw [if_neg (by omega), if_neg (by omega), if_neg (by omega)])) h4
  rw [a_ef_s (st := st) (by omega)] at e6 e2'
  obtain ⟨c0, s0, Q0, u1, X, g0, -, w2, w3, w4, w5, w6, w7⟩ := hm
  rw [e0] at g0
  cases g0
  have hst2 : Q.1 < 300 ∨ 404 < Q.1 := by
    rcases a_efq (z := Q.1) (st := st) (kd := 59) (by rw [a_ef_s (st := st) (by omega)]; exact e2') (by omega) with q1 | ⟨q1, q2, q3⟩ <;> omega
  have hi := p_iv_ok e0
  have hmo : (∀ o ∈ u1, o ≠ 40) ∧ p_A X = [] := w3
  obtain ⟨z1, z2⟩ := p_mo_A hmo.1 hmo.2
  unfold p_w at w2
  rw [show p_me 4 u1 _ _ = u1.map p_em from rfl, ← z1, ← w2] at w4
  generalize p_y (t_b v) n (d - 1).toNat = Y at w4 w6 w7 e6 k0 k1 k2' hi
  obtain ⟨D, kk', B, E, F, O, w0⟩ := Y
  obtain ⟨i1, i2, i3, i4⟩ := hi
  have j1 : E = [] := i1 (by omega)
  have j2 : F = [] := i2 (by omega)
  have jk : kk = kk' := k0
  subst j1 j2 jk
  rw [p_nx_4 h1 hpk] at e6
  have hen : p_bt v s b2 (p_en s (D ++ [(kk, B, O ++ p_A w0)], kk, [], [], [], [], [])) := by
    rw [hb2]
    have hk3 := w4.1
    unfold p_mc at hk3
    unfold p_m1 at k2' hk3
    dsimp only at k2' hk3
    simp only [List.length_append, List.append_nil] at k2' hk3
    push_cast at k2' hk3
    unfold p_en at w6 ⊢
    dsimp only at w6 ⊢
    rw [p_ed_app, show p_eb _ [] = [] from rfl, List.append_nil, ← List.append_assoc]
    refine p_bt_s w6 ⟨f1, (fun g => by dsimp only at g; omega), ?_, ?_⟩
    · rw [f4]
      dsimp only
      omega
    · rw [f5]
      dsimp only
      rw [List.length_append]
      push_cast
      omega
  refine ⟨by omega, s0, Q', e1', by unfold p_w; rw [e6], rfl, x0, rfl, ?_, ?_, by rw [e6]; exact hen, ?_, fun g => by cases g⟩
  · rw [e6]
    dsimp only
    rw [p_fl_app, if_pos rfl]
    have h6 := w6.1
    unfold p_en at h6
    dsimp only at h6 k1
    rw [List.length_append, p_ed_len, p_eb_len] at h6
    rw [p_ed_len] at k1
    push_cast at h6
    refine Prod.ext ?_ ?_
    · dsimp only
      omega
    · dsimp only
      omega
  · rw [e6]
    have : p_mc (D ++ [(kk, B, O ++ p_A w0)], kk, [], [], [], [], []) = p_mc (D, kk, B, [], [], O, w0) ++ p_A w0 := by
      unfold p_mc p_m1
      dsimp only
      rw [p_md_app]
      simp only [List.append_assoc, List.append_nil, p_mb]
    rw [this]
    exact w4
  · intro i i0 i1 hn
    have := w7 i i0 i1
    unfold p_lw at this ⊢
    rw [e6]
    dsimp only at this ⊢
    rw [p_fl_app, if_neg (fun z => hn z.symm)]
    exact this
theorem c_myb {kk : Int} (hm : q_myb v false n d s k 0 bb kk p f) (hf : v 65 p = f) : q_myb v true n d s k 0 bb kk p f := by
  obtain ⟨a1, a2, Q, a3, a4, a5, a6, a7, a8, a9, b1, b2, -⟩ := hm
  exact ⟨a1, a2, Q, a3, a4, a5, a6, a7, a8, a9, b1, b2, fun _ => hf⟩
theorem c_myc2 {kk : Int} (hm : q_myb v true n d s k 0 bb kk p f) (hf : v 66 p = bb) : q_my v n d s k 0 bb 0 := by
  obtain ⟨a1, a2, Q, a3, a4, a5, a6, a7, a8, a9, b1, b2, b3⟩ := hm
  refine ⟨a1, a2, Q, [], [], a3, fun g => by omega, a4, rfl, ?_, p_wt_0, b1, fun i i0 i1 => ?_⟩
  · rw [show p_me 0 [] _ _ = [] from rfl, List.append_nil]
    exact a9
  · by_cases hi : i = kk
    · subst hi
      unfold p_lw
      rw [a8, ← a7]
      exact ⟨b3 rfl, hf⟩
    · exact b2 i i0 i1 hi
theorem c_myM {H2 L2 W2 P2 S2 : Int} (hm : q_my v n c s k w bb 0) (hr : q_run (t_b v) n c 0 0 0 H L W WP) (hs : S = a_S (t_b v) n c.toNat) (hr2 : q_run (t_b v) n d 0 0 0 H2 L2 W2 P2) (hs2 : S2 = a_S (t_b v) n d.toNat) (hk : tk (t_b v) n c.toNat = kd) (hd : c ≤ d) (h2 : S2 = S + 1) (h3 : kd < 260 ∨ 263 < kd) : q_my v n d s k 0 bb 0 := by
  obtain ⟨c0, Q, e0, e1, -⟩ := hr
  obtain ⟨d0, Q', g0, g1, -⟩ := hr2
  obtain ⟨a1, s0, Q0, u1, X, k0, k1, k2, k3, k4, k5, k6, k7⟩ := hm
  rw [e0] at k0
  cases k0
  have z1 : Q.1 = 0 := a_efq0 e1 (by omega)
  have z2 : Q'.1 = 0 := a_efq0 g1 (by omega)
  obtain ⟨i, hi⟩ : ∃ i, d.toNat = c.toNat + i := ⟨d.toNat - c.toNat, by omega⟩
  rw [hi] at g0 hs2
  have hy := p_out e0 z1 (by omega) g0 z2 (by omega)
  have hu1 : u1 = [] := k3
  subst hu1
  have hw := ((p_iv_ok e0).2.2.1 (by omega)).2
  refine ⟨d0, s0, Q', [], [], by rw [hi]; exact g0, fun z => by omega, by unfold p_w; rw [hi, hy, hw]; rfl, rfl, ?_, p_wt_0, by rw [hi, hy]; exact k6, by rw [hi, hy]; exact k7⟩
  rw [hi, hy]
  exact k4
theorem c_my0 (hn : 0 ≤ n) (hc : c = 0) (hs : 0 ≤ s) (hk : k = 420 * s) (hb : bb = 130 * s) (h0 : ∀ j : Int, 0 ≤ j → j < 4 → v 65 (4 * s + j) = 0 ∧ v 66 (4 * s + j) = 0) : q_my v n c s k 0 bb 0 := by
  subst hc
  refine ⟨by omega, hs, _, [], [], rfl, fun g => by omega, rfl, rfl, ⟨?_, fun i y h => ?_⟩, p_wt_0, ⟨?_, fun i y h => ?_⟩, fun j j0 j1 => h0 j j0 j1⟩
  · rw [hk]
    exact (Int.add_zero _).symm
  · have h : ([] : List (Int × Int))[i]? = some y := h
    simp at h
  · rw [hb]
    exact (Int.add_zero _).symm
  · have h : ([] : List (Int × Int × Int × Int × Int))[i]? = some y := h
    simp at h
theorem c_mflw (hm : q_my v n c s k w bb 0) (hr : q_run (t_b v) n c 0 0 0 H L W WP) (hk : tk (t_b v) n c.toNat = 0) (hb : bb ≤ 130 * s + 130) : q_mflw v n s := by
  obtain ⟨c0, Q, e0, e1, -⟩ := hr
  obtain ⟨a1, s0, Q0, u1, X, k0, k1, k2, k3, k4, k5, k6, k7⟩ := hm
  rw [e0] at k0
  cases k0
  have z1 : Q.1 = 0 := a_efq0 e1 (by omega)
  have hi := p_iv_ok e0
  rw [z1] at hi
  obtain ⟨i1, i2, i3, i4⟩ := hi
  have hu1 : u1 = [] := k3
  subst hu1
  refine ⟨s0, c.toNat, k, bb, ⟨⟨Q, e0⟩, hk⟩, ?_, ?_, hb, k7⟩
  · rw [show p_me 0 [] _ _ = [] from rfl, List.append_nil] at k4
    unfold p_mc p_m1 at k4
    rw [i1 (by omega), i2 (by omega), (i3 (by omega)).1, i4 (by omega)] at k4
    simpa [p_mb] using k4
  · unfold p_en at k6
    rw [i4 (by omega)] at k6
    simpa [p_eb] using k6
end ZMA
