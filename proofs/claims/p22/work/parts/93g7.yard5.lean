/-! ===== the LAWS told: the model's code ===== -/
section ZM8
variable {v : zVw} {n c d e st mo op H L W WP S kd s x k l w bb u j p f : Int}
theorem p_ao_s {C : List (Int × Int)} {a z : Int} (q : p_ao v s (k - 1) C) (hf : v 72 (k - 1) = a) (hg : v 73 (k - 1) = z) : p_ao v s k (C ++ [(a, z)]) := by
  obtain ⟨q1, q2⟩ := q
  refine ⟨by rw [List.length_append, List.length_singleton]; push_cast; omega, fun i y hi => ?_⟩
  rcases Nat.lt_trichotomy i C.length with c1 | c1 | c1
  · rw [List.getElem?_append_left c1] at hi
    exact q2 i y hi
  · rw [c1, List.getElem?_append_right (Nat.le_refl _), Nat.sub_self] at hi
    cases hi
    rw [c1, ← q1]
    exact ⟨hf, hg⟩
  · rw [List.getElem?_append_right (by omega), List.getElem?_eq_none (by simp; omega)] at hi
    cases hi
theorem p_wt_s {X : List Int} {o : Int} (q : p_wt v (w - 1) X) (hf : v 74 (w - 1) = t_op o) : p_wt v w (o :: X) := by
  obtain ⟨q1, q2⟩ := q
  refine ⟨by rw [List.length_cons]; push_cast; omega, fun i y hi => ?_⟩
  rw [List.reverse_cons] at hi
  rcases Nat.lt_trichotomy i X.length with c1 | c1 | c1
  · rw [List.getElem?_append_left (by rw [List.length_reverse]; exact c1)] at hi
    exact q2 i y hi
  · rw [c1, List.getElem?_append_right (by rw [List.length_reverse]; exact Nat.le_refl _), List.length_reverse, Nat.sub_self] at hi
    cases hi
    rw [c1, ← q1]
    exact hf
  · rw [List.getElem?_append_right (by rw [List.length_reverse]; omega), List.getElem?_eq_none (by simp; omega)] at hi
    cases hi
theorem p_wt_0 : p_wt v 0 [] := ⟨rfl, fun i o h => by simp at h⟩
/-- the last one that waits -/
theorem p_wt_t {X : List Int} (q : p_wt v (w + 1) X) (hw : 0 ≤ w) : ∃ o t, X = o :: t ∧ v 74 w = t_op o ∧ p_wt v w t := by
  obtain ⟨q1, q2⟩ := q
  cases X with
  | nil => simp at q1; omega
  | cons o t =>
    have hl : w = t.length := by rw [List.length_cons] at q1; push_cast at q1; omega
    refine ⟨o, t, rfl, ?_, hl, fun i y hi => q2 i y ?_⟩
    · rw [hl]
      exact q2 t.length o (by rw [List.reverse_cons, List.getElem?_append_right (by rw [List.length_reverse]; exact Nat.le_refl _), List.length_reverse, Nat.sub_self]; rfl)
    · rw [List.reverse_cons, List.getElem?_append_left (by rw [List.length_reverse]; have := (List.getElem?_eq_some_iff.mp hi).1; rw [List.length_reverse] at this; exact this)]
      exact hi
theorem t_op_i {o : Int} : (t_op o = 6 ↔ o = 40) ∧ (t_op o = 8 ↔ o = 43) ∧ (t_op o = 9 ↔ o = 45) ∧ (t_op o = 10 ↔ o = 42) ∧ (11 ≤ t_op o ↔ (o ≠ 40 ∧ o ≠ 43 ∧ o ≠ 45 ∧ o ≠ 42)) := by
  unfold t_op
  repeat (first | omega | split)
/-! from what waited, u1 is out -/
theorem p_mo_S : ∀ {u1 X : List Int}, (∀ o ∈ u1, p_sg o = true) → p_S X = [] → p_S (u1 ++ X) = u1.map p_em ∧ p_Sr (u1 ++ X) = X
  | [], X, _, h => ⟨by simpa using h, by simpa using p_Sr_id h⟩
  | o :: t, X, ho, h => by
    have ih := p_mo_S (u1 := t) (fun a ha => ho a (List.mem_cons_of_mem _ ha)) h
    have h1 := ho o List.mem_cons_self
    rw [List.cons_append, p_S, p_Sr, if_pos h1, if_pos h1, ih.1, ih.2]
    exact ⟨rfl, rfl⟩
theorem p_mo_A : ∀ {u1 X : List Int}, (∀ o ∈ u1, o ≠ 40) → p_A X = [] → p_A (u1 ++ X) = u1.map p_em ∧ p_Ar (u1 ++ X) = X
  | [], X, _, h => ⟨by simpa using h, by simpa using p_Ar_id h⟩
  | o :: t, X, ho, h => by
    have ih := p_mo_A (u1 := t) (fun a ha => ho a (List.mem_cons_of_mem _ ha)) h
    have h1 := ho o List.mem_cons_self
    rw [List.cons_append, p_A, p_Ar, if_neg h1, if_neg h1, ih.1, ih.2]
    exact ⟨rfl, rfl⟩
/-- one TOKEN on: the model's code -/
theorem c_my {w' : Int} (hm : q_my v n (d - 1) s k w bb u) (hr : q_run (t_b v) n (d - 1) st mo op H L W WP) (hk : tk (t_b v) n (d - 1).toNat = kd) (ha : a_cl (a_ef st kd) mo op H L kd = 0) (h4 : d ≤ 400)
    (hy : ∀ D kk B E F O u1 X, p_iv (D, kk, B, E, F, O, u1 ++ X) (a_ef st kd) → p_mo u u1 X → p_wt v w X → p_mc (p_nx (D, kk, B, E, F, O, u1 ++ X) (a_ef st kd) mo op kd (tx (t_b v) n (d - 1).toNat)) = p_mc (D, kk, B, E, F, O, u1 ++ X) ++ p_me u u1 kd (tx (t_b v) n (d - 1).toNat) ∧ (p_nx (D, kk, B, E, F, O, u1 ++ X) (a_ef st kd) mo op kd (tx (t_b v) n (d - 1).toNat)).1 = D ∧ (p_nx (D, kk, B, E, F, O, u1 ++ X) (a_ef st kd) mo op kd (tx (t_b v) n (d - 1).toNat)).2.2.1 = B ∧ p_wt v w' (p_nx (D, kk, B, E, F, O, u1 ++ X) (a_ef st kd) mo op kd (tx (t_b v) n (d - 1).toNat)).2.2.2.2.2.2) : q_my v n d s k w' bb 0 := by
  obtain ⟨Q, Q', e0, e1, e2, e3, e4, e5, e6, ed⟩ := p_go hr hk ha h4
  obtain ⟨c0, s0, Q0, u1, X, g0, g1, g2, g3, g4, g5, g6, g7⟩ := hm
  rw [e0] at g0
  cases g0
  have hi := p_iv_e (kd := kd) (p_iv_ok e0)
  rw [e2] at hi
  unfold p_w at g2
  rw [hk] at g4
  generalize p_y (t_b v) n (d - 1).toNat = Y at g2 g4 g6 g7 e6 hi
  obtain ⟨D, kk, B, E, F, O, w0⟩ := Y
  dsimp only at g2
  subst g2
  obtain ⟨h1, h2, h3, h5⟩ := hy D kk B E F O u1 X hi g3 g5
  rw [← e6] at h1 h2 h3 h5
  refine ⟨by omega, s0, Q', [], (p_y (t_b v) n d.toNat).2.2.2.2.2.2, e1, fun g => by omega, rfl, rfl, ?_, h5, ?_, ?_⟩
  · rw [h1, show p_me 0 [] _ _ = [] from rfl, List.append_nil]
    exact g4
  · have e7 : p_en s (p_y (t_b v) n d.toNat) = p_en s (D, kk, B, E, F, O, u1 ++ X) := by
      unfold p_en
      rw [h2, h3]
    rw [e7]
    exact g6
  · intro j j0 j1
    have := g7 j j0 j1
    unfold p_lw at this ⊢
    rw [h2]
    exact this
/-- at one place: more is out -/
theorem c_mye {u' k' w' : Int} (hm : q_my v n c s k w bb u) (hu : u' ≠ 5) (hy : ∀ u1 X, p_mo u u1 X → p_wt v w X → ∀ C, p_ao v s k (C ++ p_me u u1 (tk (t_b v) n c.toNat) (tx (t_b v) n c.toNat)) → ∃ u2 X', u1 ++ X = u2 ++ X' ∧ p_mo u' u2 X' ∧ p_wt v w' X' ∧ p_ao v s k' (C ++ u2.map p_em)) : q_my v n c s k' w' bb u' := by
  obtain ⟨c0, s0, Q, u1, X, g0, g1, g2, g3, g4, g5, g6, g7⟩ := hm
  obtain ⟨u2, X', h1, h2, h3, h4⟩ := hy u1 X g3 g5 _ g4
  refine ⟨c0, s0, Q, u2, X', g0, fun g => absurd g hu, by rw [g2, h1], h2, ?_, h3, g6, g7⟩
  unfold p_me
  rw [if_neg hu]
  exact h4
theorem c_myi (hm : q_my v n c s (k - 1) w bb 0) (hr : q_run (t_b v) n c st 0 op H L W WP) (hk : tk (t_b v) n c.toNat = kd) (h2 : 200 ≤ st) (h0 : 0 ≤ op) (h3 : kd = 3 ∨ (269 ≤ kd ∧ kd ≤ 277)) {a z : Int} (hi : p_it kd (tx (t_b v) n c.toNat) = (a, z)) (hf : v 72 (k - 1) = a) (hg : v 73 (k - 1) = z) : q_my v n c s k w bb 5 := by
  obtain ⟨c0, Q, e0, e1, e2, e3, -⟩ := hr
  obtain ⟨c1, s0, Q0, u1, X, g0, g1, g2, g3, g4, g5, g6, g7⟩ := hm
  rw [e0] at g0
  cases g0
  rw [hk, a_ef_s (st := st) (by omega)] at e1
  have hu1 : u1 = [] := g3
  subst hu1
  refine ⟨c0, s0, Q, [], X, e0, fun _ => ?_, g2, rfl, ?_, g5, g6, g7⟩
  · rw [hk]
    exact ⟨by omega, e2, by omega, h3⟩
  · rw [show p_me 0 [] _ _ = [] from rfl, List.append_nil] at g4
    rw [hk, show p_me 5 [] kd (tx (t_b v) n c.toNat) = [p_it kd (tx (t_b v) n c.toNat)] from rfl, hi]
    exact p_ao_s g4 hf hg
theorem c_myt (hm : q_my v n (d - 1) s k w bb 5) (h4 : d ≤ 400) : q_my v n d s k w bb 0 := by
  have hm' := hm
  obtain ⟨c0, s0, Q, u1, X, g0, g1, g2, g3, -⟩ := hm'
  obtain ⟨o1, o2, o3, o4⟩ := g1 rfl
  generalize hk : tk (t_b v) n (d - 1).toNat = kd at o1 o4
  have hr : q_run (t_b v) n (d - 1) (a_ef Q.1 kd) 0 Q.2.2.1 Q.2.2.2.1 Q.2.2.2.2.1 Q.2.2.2.2.2.1 Q.2.2.2.2.2.2.1 := ⟨c0, Q, g0, by rw [hk]; exact (a_ef_s (by omega)).symm, o2, rfl, rfl, rfl, rfl, fun _ => rfl⟩
  refine c_my hm hr hk (by rw [a_ef_s (st := a_ef Q.1 kd) (by omega)]; exact a_cl_0i o1 o4) h4 fun D kk B E F O u1 X hi hmo hwt => ?_
  have hu1 : u1 = [] := hmo
  subst hu1
  rw [a_ef_s (st := a_ef Q.1 kd) (by omega), List.nil_append, p_nx_i o1 (by omega)]
  exact ⟨by unfold p_mc p_m1; simp only [List.append_assoc]; rfl, rfl, rfl, hwt⟩
theorem c_myo (hm : q_my v n (d - 1) s k (w - 1) bb 0) (hr : q_run (t_b v) n (d - 1) st 0 op H L W WP) (hk : tk (t_b v) n (d - 1).toNat = 40) (h4 : d ≤ 400) (h2 : 200 ≤ st) (h5 : op ≤ 5) (hf : v 74 (w - 1) = 6) : q_my v n d s k w bb 0 := by
  refine c_my hm hr hk (by rw [a_ef_s (by omega)]; exact a_cl_0o h2 h5) h4 fun D kk B E F O u1 X hi hmo hwt => ?_
  have hu1 : u1 = [] := hmo
  subst hu1
  rw [a_ef_s (by omega), List.nil_append, p_nx_o h2]
  exact ⟨by rw [show p_me 0 [] _ _ = [] from rfl, List.append_nil]; rfl, rfl, rfl, p_wt_s hwt hf⟩
theorem p_mc_O {D : List (Int × List (List (Int × Int) × List (Int × Int) × List (Int × Int)) × List (Int × Int))} {B : List (List (Int × Int) × List (Int × Int) × List (Int × Int))} {E F O Z : List (Int × Int)} {w w' : List Int} : p_mc (D, k, B, E, F, O ++ Z, w') = p_mc (D, k, B, E, F, O, w) ++ Z := by
  unfold p_mc p_m1
  simp only [List.append_assoc]
theorem c_myp (hm : q_my v n (d - 1) s k (w - 1) bb u) (hr : q_run (t_b v) n (d - 1) st 1 op H L W WP) (hk : tk (t_b v) n (d - 1).toNat = kd) (h4 : d ≤ 400) (h2 : 200 ≤ st) (h3 : (u = 4 ∧ (kd = 43 ∨ kd = 45)) ∨ (u = 3 ∧ (kd = 42 ∨ kd = 47))) (hf : v 74 (w - 1) = t_op kd) : q_my v n d s k w bb 0 := by
  have hp : a_p kd = true := a_p_iff.mpr (by omega)
  refine c_my hm hr hk (by rw [a_ef_s (by omega)]; exact a_cl_1p h2 hp) h4 fun D kk B E F O u1 X hi hmo hwt => ?_
  rw [a_ef_s (by omega)]
  rcases h3 with ⟨rfl, h3⟩ | ⟨rfl, h3⟩
  · have hmo : (∀ o ∈ u1, o ≠ 40) ∧ p_A X = [] := hmo
    obtain ⟨a1, a2⟩ := p_mo_A hmo.1 hmo.2
    rw [p_nx_a h2 h3, a1, a2]
    exact ⟨p_mc_O, rfl, rfl, p_wt_s hwt hf⟩
  · have hmo : (∀ o ∈ u1, p_sg o = true) ∧ p_S X = [] := hmo
    obtain ⟨a1, a2⟩ := p_mo_S hmo.1 hmo.2
    rw [p_nx_s h2 h3, a1, a2]
    exact ⟨p_mc_O, rfl, rfl, p_wt_s hwt hf⟩
theorem c_myc (hm : q_my v n (d - 1) s k (w + 1) bb 4) (hr : q_run (t_b v) n (d - 1) st 1 op H L W WP) (hk : tk (t_b v) n (d - 1).toNat = 41) (h4 : d ≤ 400) (h2 : 200 ≤ st) (h5 : 1 ≤ op) (hw : 0 ≤ w) : q_my v n d s k w bb 0 := by
  refine c_my hm hr hk (by rw [a_ef_s (by omega)]; exact a_cl_1c h2 h5) h4 fun D kk B E F O u1 X hi hmo hwt => ?_
  rw [a_ef_s (by omega)]
  have hmo : (∀ o ∈ u1, o ≠ 40) ∧ p_A X = [] := hmo
  obtain ⟨a1, a2⟩ := p_mo_A hmo.1 hmo.2
  obtain ⟨o, t, rfl, -, ht⟩ := p_wt_t hwt hw
  rw [p_nx_c h2 h5 (by decide), a1, a2]
  exact ⟨p_mc_O, rfl, rfl, ht⟩
/-! comesOut -/
theorem c_myx (hm : q_my v n c s k w bb 0) (hu : u = 1 ∨ u = 2) : q_my v n c s k w bb u := by
  refine c_mye hm (by omega) fun u1 X hmo hwt C hC => ⟨[], X, ?_, ?_, hwt, ?_⟩
  · have hu1 : u1 = [] := hmo
    rw [hu1]
  · rcases hu with rfl | rfl
    · intro o ho
      exact absurd ho List.not_mem_nil
    · intro o ho
      exact absurd ho List.not_mem_nil
  · have hu1 : u1 = [] := hmo
    subst hu1
    exact hC
theorem c_myr {a z : Int} (hm : q_my v n c s (k - 1) (w + 1) bb u) (hu : u = 1 ∨ u = 2) (hw : 0 ≤ w) (h74 : v 74 w = x) (hx : ∀ o, t_op o = x → o ≠ 40 ∧ (u = 1 → p_sg o = true) ∧ p_em o = (a, z)) (hf : v 72 (k - 1) = a) (hg : v 73 (k - 1) = z) : q_my v n c s k w bb u := by
  refine c_mye hm (by omega) fun u1 X hmo hwt C hC => ?_
  obtain ⟨o, t, rfl, h1, h2⟩ := p_wt_t hwt hw
  obtain ⟨x1, x2, x3⟩ := hx o (by rw [← h1, h74])
  refine ⟨u1 ++ [o], t, by simp, ?_, h2, ?_⟩
  · rcases hu with rfl | rfl
    · have hmo : ∀ o ∈ u1, p_sg o = true := hmo
      intro a ha
      rcases List.mem_append.mp ha with g | g
      · exact hmo a g
      · rw [List.mem_singleton.mp g]
        exact x2 rfl
    · have hmo : ∀ o ∈ u1, o ≠ 40 := hmo
      intro a ha
      rcases List.mem_append.mp ha with g | g
      · exact hmo a g
      · rw [List.mem_singleton.mp g]
        exact x1
  · unfold p_me at hC
    rw [if_neg (by omega)] at hC
    rw [List.map_append, ← List.append_assoc, List.map_singleton, x3]
    exact p_ao_s hC hf hg
theorem c_mye0 (hm : q_my v n c s k w bb u) (hu : u = 1 ∨ u = 2) (hX : ∀ X, p_wt v w X → (u = 1 → p_S X = []) ∧ (u = 2 → p_A X = [])) : q_my v n c s k w bb (u + 2) := by
  refine c_mye hm (by omega) fun u1 X hmo hwt C hC => ⟨u1, X, rfl, ?_, hwt, ?_⟩
  · rcases hu with rfl | rfl
    · exact ⟨hmo, (hX X hwt).1 rfl⟩
    · exact ⟨hmo, (hX X hwt).2 rfl⟩
  · unfold p_me at hC
    rw [if_neg (by omega)] at hC
    exact hC
theorem p_wt_n {X : List Int} (h : p_wt v 0 X) : X = [] := by
  have := h.1
  cases X with
  | nil => rfl
  | cons a t => rw [List.length_cons] at this; push_cast at this; omega
theorem p_wt_h {X : List Int} (h : p_wt v w X) (hw : 1 ≤ w) : ∃ o t, X = o :: t ∧ v 74 (w - 1) = t_op o := by
  obtain ⟨o, t, h1, h2, -⟩ := p_wt_t (w := w - 1) (by rw [show w - 1 + 1 = w by omega]; exact h) (by omega)
  exact ⟨o, t, h1, h2⟩
end ZM8
