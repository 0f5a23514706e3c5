/-! ===== the LAWS told: the class's steps ===== -/
section ZM5
variable {b : Int → Int} {v : zVw} {n c d e st mo op H L W WP S kd s x k l u j : Int} {f g h : Int → Int}
theorem p_phe {z : Int} (h : a_ef z kd = a_ef st kd) : p_ph z = p_ph st := by
  have h2 : z = st ∨ ((z < 400 ∨ 404 < z) ∧ (st < 400 ∨ 404 < st)) := by
    unfold a_ef at h
    split at h <;> split at h <;> omega
  rcases h2 with rfl | ⟨h3, h4⟩
  · rfl
  · rw [p_ph0 h3, p_ph0 h4]
theorem p_iv_e {y : zYd} {z : Int} (h : p_iv y z) : p_iv y (a_ef z kd) := by
  unfold p_iv at h ⊢
  obtain ⟨i1, i2, i3, i4⟩ := h
  unfold a_ef
  split
  · exact ⟨fun _ => i1 (by omega), fun _ => i2 (by omega), fun g => by omega, fun g => by omega⟩
  · exact ⟨i1, i2, i3, i4⟩
theorem p_ar_s {C : List (Int × Int)} {a z : Int} (q : p_ar f g (l - 1) C) (hf : f (l - 1) = a) (hg : g (l - 1) = z) : p_ar f g l (C ++ [(a, z)]) := by
  obtain ⟨q1, q2⟩ := q
  refine ⟨by rw [List.length_append, List.length_singleton]; push_cast; omega, fun i y hi => ?_⟩
  rcases Nat.lt_trichotomy i C.length with c1 | c1 | c1
  · rw [List.getElem?_append_left c1] at hi
    exact q2 i y hi
  · rw [c1, List.getElem?_append_right (Nat.le_refl _), Nat.sub_self] at hi
    cases hi
    rw [c1, ← q1]
    exact ⟨hf, hg⟩
  · rw [List.getElem?_append_right (by omega)] at hi
    rw [List.getElem?_eq_none (by simp; omega)] at hi
    cases hi
/-- one TOKEN on: the class's steps -/
theorem c_cy (hc : q_cy b f g h n (d - 1) l u) (hr : q_run b n (d - 1) st mo op H L W WP) (hk : tk b n (d - 1).toNat = kd) (ha : a_cl (a_ef st kd) mo op H L kd = 0) (h4 : d ≤ 400)
    (hy : ∀ D k B E F O w, p_iv (D, k, B, E, F, O, w) (a_ef st kd) → p_cc (p_nx (D, k, B, E, F, O, w) (a_ef st kd) mo op kd (tx b n (d - 1).toNat)) (a_st (a_ef st kd) mo op kd) = p_cc (D, k, B, E, F, O, w) st ++ p_ex u w kd (tx b n (d - 1).toNat) ∧ (p_nx (D, k, B, E, F, O, w) (a_ef st kd) mo op kd (tx b n (d - 1).toNat)).1 = D) : q_cy b f g h n d l 0 := by
  obtain ⟨Q, Q', e0, e1, e2, e3, e4, e5, e6, ed⟩ := p_go hr hk ha h4
  obtain ⟨c0, Q0, g0, g1, g2, g3⟩ := hc
  rw [e0] at g0
  cases g0
  have hi := p_iv_e (kd := kd) (p_iv_ok e0)
  rw [e2] at hi
  generalize p_y b n (d - 1).toNat = Y at g2 g3 e6 hi
  obtain ⟨D, k, B, E, F, O, w⟩ := Y
  obtain ⟨h1, h2⟩ := hy D k B E F O w hi
  refine ⟨by omega, Q', e1, fun g => by omega, ?_, fun j j0 j1 => ?_⟩
  · rw [e6, e3, h1, show p_ex 0 _ _ _ = [] from rfl, List.append_nil]
    have e7 : p_cc (D, k, B, E, F, O, w) Q.1 = p_cc (D, k, B, E, F, O, w) st := by
      unfold p_cc
      rw [p_phe e2]
    rw [← e7, ← hk]
    exact g2
  · rw [g3 j j0 j1, e6]
    unfold p_st
    rw [h2]
/-- what waits behind one TOKEN -/
theorem p_w_s (hr : q_run b n c st mo op H L W WP) (hk : tk b n c.toNat = kd) : p_w b n (c + 1) = (p_nx (p_y b n c.toNat) (a_ef st kd) mo op kd (tx b n c.toNat)).2.2.2.2.2.2 := by
  obtain ⟨c0, Q, e0, e1, e2, e3, -⟩ := hr
  unfold p_w
  rw [show (c + 1).toNat = c.toNat + 1 by omega, p_y_s e0, e1, e2, e3, hk]
theorem p_w_o (hr : q_run b n c st 0 op H L W WP) (hk : tk b n c.toNat = 40) (h2 : 200 ≤ st) : p_w b n (c + 1) = 40 :: p_w b n c := by
  rw [p_w_s hr hk, a_ef_s (by omega)]
  unfold p_w
  generalize p_y b n c.toNat = Y
  obtain ⟨D, k, B, E, F, O, w⟩ := Y
  rw [p_nx_o h2]
theorem p_w_i (hr : q_run b n c st 0 op H L W WP) (hk : tk b n c.toNat = kd) (h2 : 200 ≤ st) (h3 : kd ≠ 40) : p_w b n (c + 1) = p_w b n c := by
  rw [p_w_s hr hk, a_ef_s (by omega)]
  unfold p_w
  generalize p_y b n c.toNat = Y
  obtain ⟨D, k, B, E, F, O, w⟩ := Y
  rw [p_nx_i h2 h3]
theorem p_w_p (hr : q_run b n c st 1 op H L W WP) (hk : tk b n c.toNat = kd) (h2 : 200 ≤ st) (h3 : kd = 42 ∨ kd = 47) : p_w b n (c + 1) = kd :: p_Sr (p_w b n c) := by
  rw [p_w_s hr hk, a_ef_s (by omega)]
  unfold p_w
  generalize p_y b n c.toNat = Y
  obtain ⟨D, k, B, E, F, O, w⟩ := Y
  rw [p_nx_s h2 h3]
theorem p_w_a (hr : q_run b n c st 1 op H L W WP) (hk : tk b n c.toNat = kd) (h2 : 200 ≤ st) (h3 : kd = 43 ∨ kd = 45) : p_w b n (c + 1) = kd :: p_Ar (p_w b n c) := by
  rw [p_w_s hr hk, a_ef_s (by omega)]
  unfold p_w
  generalize p_y b n c.toNat = Y
  obtain ⟨D, k, B, E, F, O, w⟩ := Y
  rw [p_nx_a h2 h3]
theorem p_w_c (hr : q_run b n c st 1 op H L W WP) (hk : tk b n c.toNat = 41) (h2 : 200 ≤ st) (h3 : 1 ≤ op) : p_w b n (c + 1) = (p_Ar (p_w b n c)).tail := by
  rw [p_w_s hr hk, a_ef_s (by omega)]
  unfold p_w
  generalize p_y b n c.toNat = Y
  obtain ⟨D, k, B, E, F, O, w⟩ := Y
  rw [p_nx_c h2 h3 (by decide)]
theorem a_st_e {st0 : Int} (h : 200 ≤ st0) : a_st st0 0 op kd = st0 := by
  unfold a_st
  rw [if_neg (by omega), if_neg (by omega), if_neg (by omega), if_neg (by omega), if_pos rfl]
theorem a_st_p {st0 : Int} (h : 200 ≤ st0) (hk : a_p kd = true ∨ 1 ≤ op) : a_st st0 1 op kd = st0 := by
  unfold a_st
  rw [if_neg (by omega), if_neg (by omega), if_neg (by omega), if_neg (by omega), if_neg (by decide)]
  by_cases hp : a_p kd = true
  · rw [if_pos hp]
  · rw [if_neg hp, if_pos (hk.resolve_left hp)]
theorem a_cl_0o {st0 : Int} (h : 200 ≤ st0) (ho : op ≤ 5) : a_cl st0 0 op H L 40 = 0 := by
  unfold a_cl
  rw [if_neg (by omega), if_neg (by omega), if_neg (by omega), if_pos rfl, if_pos rfl, if_pos ho]
theorem a_cl_0i {st0 : Int} (h : 200 ≤ st0) (hk : kd = 3 ∨ (269 ≤ kd ∧ kd ≤ 277)) : a_cl st0 0 op H L kd = 0 := by
  unfold a_cl
  rw [if_neg (by omega), if_neg (by omega), if_neg (by omega), if_pos rfl, if_neg (by omega), if_pos hk]
theorem a_cl_1p {st0 : Int} (h : 200 ≤ st0) (hk : a_p kd = true) : a_cl st0 1 op H L kd = 0 := by
  unfold a_cl
  rw [if_neg (by omega), if_neg (by omega), if_neg (by omega), if_neg (by decide), if_pos hk]
theorem a_cl_1c {st0 : Int} (h : 200 ≤ st0) (ho : 1 ≤ op) : a_cl st0 1 op H L 41 = 0 := by
  unfold a_cl
  rw [if_neg (by omega), if_neg (by omega), if_neg (by omega), if_neg (by decide), if_neg (by decide), if_pos ho, if_pos rfl]
theorem a_cl_1x {st0 : Int} (h : 200 ≤ st0) (hk : a_p kd = false) (hx : kd = a_x st0) : a_cl st0 1 0 H L kd = 0 := by
  unfold a_cl
  rw [if_neg (by omega), if_neg (by omega), if_neg (by omega), if_neg (by decide), if_neg (by rw [hk]; decide), if_neg (by decide), if_pos hx]
theorem c_cyo (hc : q_cy b f g h n (d - 1) l 0) (hr : q_run b n (d - 1) st 0 op H L W WP) (hk : tk b n (d - 1).toNat = 40) (h4 : d ≤ 400) (h2 : 200 ≤ st) (h5 : op ≤ 5) : q_cy b f g h n d l 0 ∧ p_A (p_w b n d) = [] := by
  refine ⟨c_cy hc hr hk (by rw [a_ef_s (by omega)]; exact a_cl_0o h2 h5) h4 fun D k B E F O w hi => ?_, ?_⟩
  · rw [a_ef_s (by omega), p_nx_o h2, a_st_e h2]
    exact ⟨by rw [show p_ex 0 _ _ _ = [] from rfl, List.append_nil]; rfl, rfl⟩
  · have := p_w_o hr hk h2
    rw [show d - 1 + 1 = d by omega] at this
    rw [this]
    rfl
theorem c_cyp (hc : q_cy b f g h n (d - 1) l 2) (hr : q_run b n (d - 1) st 1 op H L W WP) (hk : tk b n (d - 1).toNat = kd) (h4 : d ≤ 400) (h2 : 200 ≤ st) (h3 : kd = 43 ∨ kd = 45) : q_cy b f g h n d l 0 ∧ p_S (p_w b n d) = [] := by
  have hp : a_p kd = true := a_p_iff.mpr (by omega)
  refine ⟨c_cy hc hr hk (by rw [a_ef_s (by omega)]; exact a_cl_1p h2 hp) h4 fun D k B E F O w hi => ?_, ?_⟩
  · rw [a_ef_s (by omega), p_nx_a h2 h3, a_st_p h2 (Or.inl hp)]
    exact ⟨p_cc_O, rfl⟩
  · have := p_w_a hr hk h2 h3
    rw [show d - 1 + 1 = d by omega] at this
    rw [this, p_S, if_neg (by unfold p_sg; rw [decide_eq_true_eq]; omega)]
theorem c_cym (hc : q_cy b f g h n (d - 1) l 1) (hr : q_run b n (d - 1) st 1 op H L W WP) (hk : tk b n (d - 1).toNat = kd) (h4 : d ≤ 400) (h2 : 200 ≤ st) (h3 : kd = 42 ∨ kd = 47) : q_cy b f g h n d l 0 := by
  have hp : a_p kd = true := a_p_iff.mpr (by omega)
  refine c_cy hc hr hk (by rw [a_ef_s (by omega)]; exact a_cl_1p h2 hp) h4 fun D k B E F O w hi => ?_
  rw [a_ef_s (by omega), p_nx_s h2 h3, a_st_p h2 (Or.inl hp)]
  exact ⟨p_cc_O, rfl⟩
theorem c_cyc (hc : q_cy b f g h n (d - 1) l 2) (hr : q_run b n (d - 1) st 1 op H L W WP) (hk : tk b n (d - 1).toNat = 41) (h4 : d ≤ 400) (h2 : 200 ≤ st) (h5 : 1 ≤ op) : q_cy b f g h n d l 0 := by
  refine c_cy hc hr hk (by rw [a_ef_s (by omega)]; exact a_cl_1c h2 h5) h4 fun D k B E F O w hi => ?_
  rw [a_ef_s (by omega), p_nx_c h2 h5 (by decide), a_st_p h2 (Or.inr h5)]
  exact ⟨p_cc_O, rfl⟩
/-- an operand's step -/
theorem c_cyi (hc : q_cy b f g h n c (l - 1) 0) (hr : q_run b n c st 0 op H L W WP) (hk : tk b n c.toNat = kd) (h2 : 200 ≤ st) (h0 : 0 ≤ op) (h3 : kd = 3 ∨ (269 ≤ kd ∧ kd ≤ 277)) {a z : Int} (hi : p_it kd (tx b n c.toNat) = (a, z)) (hf : f (l - 1) = a) (hg : g (l - 1) = z) : q_cy b f g h n c l 5 := by
  obtain ⟨c0, Q, e0, e1, e2, e3, -⟩ := hr
  obtain ⟨c1, Q0, g0, g1, g2, g3⟩ := hc
  rw [e0] at g0
  cases g0
  rw [hk] at e1 g2
  rw [a_ef_s (st := st) (by omega)] at e1
  refine ⟨c0, Q, e0, fun _ => ?_, ?_, g3⟩
  · rw [hk]
    exact ⟨by omega, e2, by omega, h3⟩
  · rw [show p_ex 0 _ _ _ = [] from rfl, List.append_nil] at g2
    rw [hk, show p_ex 5 (p_y b n c.toNat).2.2.2.2.2.2 kd (tx b n c.toNat) = [p_it kd (tx b n c.toNat)] from rfl, hi]
    exact p_ar_s g2 hf hg
theorem c_cyt (hc : q_cy b f g h n (d - 1) l 5) (h4 : d ≤ 400) : q_cy b f g h n d l 0 ∧ p_w b n d = p_w b n (d - 1) := by
  have hc' := hc
  obtain ⟨c0, Q, e0, e1, e2, e3⟩ := hc'
  obtain ⟨o1, o2, o3, o4⟩ := e1 rfl
  generalize hk : tk b n (d - 1).toNat = kd at o1 o4
  have hr : q_run b n (d - 1) (a_ef Q.1 kd) 0 Q.2.2.1 Q.2.2.2.1 Q.2.2.2.2.1 Q.2.2.2.2.2.1 Q.2.2.2.2.2.2.1 := ⟨c0, Q, e0, by rw [hk]; exact (a_ef_s (by omega)).symm, o2, rfl, rfl, rfl, rfl, fun _ => rfl⟩
  have h40 : kd ≠ 40 := by omega
  refine ⟨c_cy hc hr hk (by rw [a_ef_s (st := a_ef Q.1 kd) (by omega)]; exact a_cl_0i o1 o4) h4 fun D k B E F O w hi => ?_, ?_⟩
  · rw [a_ef_s (st := a_ef Q.1 kd) (by omega), p_nx_i o1 h40, a_st_e o1]
    exact ⟨p_cc_O, rfl⟩
  · have := p_w_i hr hk o1 h40
    rw [show d - 1 + 1 = d by omega] at this
    exact this
/-! variants at one place -/
theorem c_cyx {u' : Int} (hc : q_cy b f g h n c l u) (hu : u' ≠ 5) (he : p_ex u' (p_w b n c) (tk b n c.toNat) (tx b n c.toNat) = p_ex u (p_w b n c) (tk b n c.toNat) (tx b n c.toNat)) : q_cy b f g h n c l u' := by
  obtain ⟨c0, Q, e0, e1, e2, e3⟩ := hc
  refine ⟨c0, Q, e0, fun g => absurd g hu, ?_, e3⟩
  unfold p_w at he
  rw [he]
  exact e2
theorem c_cye {u' a z : Int} (hc : q_cy b f g h n c (l - 1) u) (hu : u' ≠ 5) (he : p_ex u' (p_w b n c) (tk b n c.toNat) (tx b n c.toNat) = p_ex u (p_w b n c) (tk b n c.toNat) (tx b n c.toNat) ++ [(a, z)]) (hf : f (l - 1) = a) (hg : g (l - 1) = z) : q_cy b f g h n c l u' := by
  obtain ⟨c0, Q, e0, e1, e2, e3⟩ := hc
  refine ⟨c0, Q, e0, fun g => absurd g hu, ?_, e3⟩
  unfold p_w at he
  rw [he, ← List.append_assoc]
  exact p_ar_s e2 hf hg
theorem c_pexS (h1 : q_pex b n c e) (hr : q_run b n e st 1 op H L W WP) (hk : tk b n e.toNat = kd) (h2 : 200 ≤ st) (h3 : kd = 42 ∨ kd = 47) (hu : q_uex b n (e + 1) d) : p_S (p_w b n d) = [p_em kd] ∧ q_pex b n c d := by
  unfold q_uex at hu
  obtain ⟨h4, h5⟩ := h1
  rw [p_w_p hr hk h2 h3, h4] at hu
  have hs : p_sg kd = true := by unfold p_sg; rw [decide_eq_true_eq]; omega
  unfold q_pex
  rw [hu, p_S, p_Sr, if_pos hs, if_pos hs, h5]
  exact ⟨rfl, p_Sr_id h5, rfl⟩
theorem c_eexS (h1 : q_eex b n c e) (hr : q_run b n e st 1 op H L W WP) (hk : tk b n e.toNat = kd) (h2 : 200 ≤ st) (h3 : kd = 43 ∨ kd = 45) (hu : q_pex b n (e + 1) d) : p_A (p_w b n d) = p_S (p_w b n d) ++ [p_em kd] ∧ q_eex b n c d := by
  obtain ⟨h4, h5⟩ := h1
  obtain ⟨h6, h7⟩ := hu
  rw [p_w_a hr hk h2 h3, h4] at h6
  have h40 : kd ≠ 40 := by omega
  have h8 := p_A_S (w := p_w b n d)
  rw [h6, p_A, p_Ar, if_neg h40, if_neg h40, h5, p_Ar_id h5] at h8
  exact ⟨h8.1, h8.2, h5⟩
theorem c_eex0 (h1 : p_A (p_w b n c) = []) (h2 : q_pex b n c d) : p_A (p_w b n d) = p_S (p_w b n d) ∧ q_eex b n c d := by
  obtain ⟨h4, h5⟩ := h2
  have h8 := p_A_S (w := p_w b n d)
  rw [h4, h1, List.append_nil, p_Ar_id h1] at h8
  exact ⟨h8.1, h8.2, h1⟩
/-! a LAW's TOKENS -/
theorem c_cyl (hc : q_cy b f g h n (d - 1) l 0) (hr : q_run b n (d - 1) 0 0 0 H L W WP) (hk : tk b n (d - 1).toNat = kd) (h4 : d ≤ 400) (h3 : 260 ≤ kd ∧ kd ≤ 263) : q_cy b f g h n d l 0 := by
  refine c_cy hc hr hk (by rw [a_cl_0]; omega) h4 fun D k B E F O w hi => ?_
  rw [a_ef_s (by omega)] at hi ⊢
  rw [p_nx_l h3]
  obtain ⟨i1, i2, i3, i4⟩ := hi
  have j1 : E = [] := i1 (by omega)
  have j2 : F = [] := i2 (by omega)
  obtain ⟨j3, j5⟩ := i3 (by omega)
  have j4 : B = [] := i4 (by omega)
  dsimp only at j3 j5
  subst j1 j2 j3 j4
  refine ⟨?_, rfl⟩
  rw [show p_ex 0 _ _ _ = [] from rfl, List.append_nil]
  unfold p_cc
  rw [p_ph0 (by unfold a_st; rw [if_pos rfl]; repeat (first | omega | split)), p_ph0 (by omega)]
  rfl
end ZM5
