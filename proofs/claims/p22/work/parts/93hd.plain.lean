/-! ===== the lemmas in plain numbers, by program ===== -/
theorem k_mw_12 {V : zVw} {n c H L W WP u s S : Int} (T0 : q_run2 (t_b V) n c (12 : Int) (0 : Int) (0 : Int) H L W WP S) (T1 : 0 ≤ c ∧ 0 ≤ u ∧ u ≤ 41 ∧ t_km u = tk (t_b V) n c.toNat ∧ s = t_s (t_b V) n c.toNat) : (True) ∧ (((u ≠ (2 : Int) → q_res (t_b V) n 1 s) ∧ (u = (2 : Int) → q_go (t_b V) n c s)) ∧ True) := by
  have U0 := T0.2
  have T0 := T0.1
  have hu := t_km_alt T1.2.1 T1.2.2.1
  exact ⟨trivial, ⟨fun h => by first | (exfalso; omega) | exact c_res T0 T1.2.2.2.1.symm T1.2.2.2.2.symm (f := 1) (by first | (rw [a_cl_0]; omega) | (rw [a_cl_1 (by omega) (by omega)]; unfold a_one; omega) | (rw [a_cl_e0 (by omega)]; omega) | (rw [a_cl_e1 (by omega), if_neg (by rw [a_p_no (by omega)]; decide), if_pos (by omega)]; omega) | (rw [a_cl_e1 (by omega), if_neg (by rw [a_p_no (by omega)]; decide), if_neg (by omega)]; unfold a_x; omega) | (rw [a_cl_if (by omega) (by omega) (by omega)]; omega)) (Or.inl rfl), fun h => c_go T0 T1.2.2.2.1.symm T1.2.2.2.2.symm (by first | (rw [a_cl_0]; omega) | (rw [a_cl_1 (by omega) (by omega)]; unfold a_one; omega) | (rw [a_cl_e0 (by omega)]; omega) | (rw [a_cl_e1 (by omega), if_pos (a_p_iff.mpr (by omega))]) | (rw [a_cl_e1 (by omega), if_neg (by rw [a_p_no (by omega)]; decide), if_pos (by omega)]; omega) | (rw [a_cl_e1 (by omega), if_neg (by rw [a_p_no (by omega)]; decide), if_neg (by omega)]; unfold a_x; omega) | (rw [a_cl_if (by omega) (by omega) (by omega)]; omega))⟩, trivial⟩
theorem k_mw_13 {V : zVw} {n c H L W WP u s S : Int} (T0 : q_run2 (t_b V) n c (13 : Int) (0 : Int) (0 : Int) H L W WP S) (T1 : 0 ≤ c ∧ 0 ≤ u ∧ u ≤ 41 ∧ t_km u = tk (t_b V) n c.toNat ∧ s = t_s (t_b V) n c.toNat) : (True) ∧ (((u ≠ (4 : Int) → q_res (t_b V) n 1 s) ∧ (u = (4 : Int) → q_go (t_b V) n c s)) ∧ True) := by
  have U0 := T0.2
  have T0 := T0.1
  have hu := t_km_alt T1.2.1 T1.2.2.1
  exact ⟨trivial, ⟨fun h => by first | (exfalso; omega) | exact c_res T0 T1.2.2.2.1.symm T1.2.2.2.2.symm (f := 1) (by first | (rw [a_cl_0]; omega) | (rw [a_cl_1 (by omega) (by omega)]; unfold a_one; omega) | (rw [a_cl_e0 (by omega)]; omega) | (rw [a_cl_e1 (by omega), if_neg (by rw [a_p_no (by omega)]; decide), if_pos (by omega)]; omega) | (rw [a_cl_e1 (by omega), if_neg (by rw [a_p_no (by omega)]; decide), if_neg (by omega)]; unfold a_x; omega) | (rw [a_cl_if (by omega) (by omega) (by omega)]; omega)) (Or.inl rfl), fun h => c_go T0 T1.2.2.2.1.symm T1.2.2.2.2.symm (by first | (rw [a_cl_0]; omega) | (rw [a_cl_1 (by omega) (by omega)]; unfold a_one; omega) | (rw [a_cl_e0 (by omega)]; omega) | (rw [a_cl_e1 (by omega), if_pos (a_p_iff.mpr (by omega))]) | (rw [a_cl_e1 (by omega), if_neg (by rw [a_p_no (by omega)]; decide), if_pos (by omega)]; omega) | (rw [a_cl_e1 (by omega), if_neg (by rw [a_p_no (by omega)]; decide), if_neg (by omega)]; unfold a_x; omega) | (rw [a_cl_if (by omega) (by omega) (by omega)]; omega))⟩, trivial⟩
theorem k_mw_20 {V : zVw} {n c H L W WP u s S : Int} (T0 : q_run2 (t_b V) n c (20 : Int) (0 : Int) (0 : Int) H L W WP S) (T1 : 0 ≤ c ∧ 0 ≤ u ∧ u ≤ 41 ∧ t_km u = tk (t_b V) n c.toNat ∧ s = t_s (t_b V) n c.toNat) : (True) ∧ (((u ≠ (5 : Int) → q_res (t_b V) n 1 s) ∧ (u = (5 : Int) → q_go (t_b V) n c s)) ∧ True) := by
  have U0 := T0.2
  have T0 := T0.1
  have hu := t_km_alt T1.2.1 T1.2.2.1
  exact ⟨trivial, ⟨fun h => by first | (exfalso; omega) | exact c_res T0 T1.2.2.2.1.symm T1.2.2.2.2.symm (f := 1) (by first | (rw [a_cl_0]; omega) | (rw [a_cl_1 (by omega) (by omega)]; unfold a_one; omega) | (rw [a_cl_e0 (by omega)]; omega) | (rw [a_cl_e1 (by omega), if_neg (by rw [a_p_no (by omega)]; decide), if_pos (by omega)]; omega) | (rw [a_cl_e1 (by omega), if_neg (by rw [a_p_no (by omega)]; decide), if_neg (by omega)]; unfold a_x; omega) | (rw [a_cl_if (by omega) (by omega) (by omega)]; omega)) (Or.inl rfl), fun h => c_go T0 T1.2.2.2.1.symm T1.2.2.2.2.symm (by first | (rw [a_cl_0]; omega) | (rw [a_cl_1 (by omega) (by omega)]; unfold a_one; omega) | (rw [a_cl_e0 (by omega)]; omega) | (rw [a_cl_e1 (by omega), if_pos (a_p_iff.mpr (by omega))]) | (rw [a_cl_e1 (by omega), if_neg (by rw [a_p_no (by omega)]; decide), if_pos (by omega)]; omega) | (rw [a_cl_e1 (by omega), if_neg (by rw [a_p_no (by omega)]; decide), if_neg (by omega)]; unfold a_x; omega) | (rw [a_cl_if (by omega) (by omega) (by omega)]; omega))⟩, trivial⟩
theorem k_mw_x1 {V : zVw} {n c H L W WP u s st S : Int} (T0 : q_run2 (t_b V) n c st (1 : Int) (0 : Int) H L W WP S) (T1 : 0 ≤ c ∧ 0 ≤ u ∧ u ≤ 41 ∧ t_km u = tk (t_b V) n c.toNat ∧ s = t_s (t_b V) n c.toNat) (T2 : a_p (tk (t_b V) n c.toNat) = false) (C0 : 0 ≤ st - 200) (C1 : 0 ≤ 204 - st) : (True) ∧ (((u ≠ (13 : Int) → q_res (t_b V) n 1 s) ∧ (u = (13 : Int) → q_go (t_b V) n c s)) ∧ True) := by
  have U0 := T0.2
  have T0 := T0.1
  have hu := t_km_alt T1.2.1 T1.2.2.1
  have np := a_p_no' T2
  rw [← T1.2.2.2.1] at np
  exact ⟨trivial, ⟨fun h => by first | (exfalso; omega) | exact c_res T0 T1.2.2.2.1.symm T1.2.2.2.2.symm (f := 1) (by first | (rw [a_cl_0]; omega) | (rw [a_cl_1 (by omega) (by omega)]; unfold a_one; omega) | (rw [a_cl_e0 (by omega)]; omega) | (rw [a_cl_e1 (by omega), if_neg (by rw [a_p_no (by omega)]; decide), if_pos (by omega)]; omega) | (rw [a_cl_e1 (by omega), if_neg (by rw [a_p_no (by omega)]; decide), if_neg (by omega)]; unfold a_x; omega) | (rw [a_cl_if (by omega) (by omega) (by omega)]; omega)) (Or.inl rfl), fun h => c_go T0 T1.2.2.2.1.symm T1.2.2.2.2.symm (by first | (rw [a_cl_0]; omega) | (rw [a_cl_1 (by omega) (by omega)]; unfold a_one; omega) | (rw [a_cl_e0 (by omega)]; omega) | (rw [a_cl_e1 (by omega), if_pos (a_p_iff.mpr (by omega))]) | (rw [a_cl_e1 (by omega), if_neg (by rw [a_p_no (by omega)]; decide), if_pos (by omega)]; omega) | (rw [a_cl_e1 (by omega), if_neg (by rw [a_p_no (by omega)]; decide), if_neg (by omega)]; unfold a_x; omega) | (rw [a_cl_if (by omega) (by omega) (by omega)]; omega))⟩, trivial⟩
theorem k_mw_x2 {V : zVw} {n c H L W WP u s st S : Int} (T0 : q_run2 (t_b V) n c st (1 : Int) (0 : Int) H L W WP S) (T1 : 0 ≤ c ∧ 0 ≤ u ∧ u ≤ 41 ∧ t_km u = tk (t_b V) n c.toNat ∧ s = t_s (t_b V) n c.toNat) (T2 : a_p (tk (t_b V) n c.toNat) = false) (C0 : 0 ≤ st - 300) (C1 : 0 ≤ 304 - st) : (True) ∧ (((u ≠ (31 : Int) → q_res (t_b V) n 1 s) ∧ (u = (31 : Int) → q_go (t_b V) n c s)) ∧ True) := by
  have U0 := T0.2
  have T0 := T0.1
  have hu := t_km_alt T1.2.1 T1.2.2.1
  have np := a_p_no' T2
  rw [← T1.2.2.2.1] at np
  exact ⟨trivial, ⟨fun h => by first | (exfalso; omega) | exact c_res T0 T1.2.2.2.1.symm T1.2.2.2.2.symm (f := 1) (by first | (rw [a_cl_0]; omega) | (rw [a_cl_1 (by omega) (by omega)]; unfold a_one; omega) | (rw [a_cl_e0 (by omega)]; omega) | (rw [a_cl_e1 (by omega), if_neg (by rw [a_p_no (by omega)]; decide), if_pos (by omega)]; omega) | (rw [a_cl_e1 (by omega), if_neg (by rw [a_p_no (by omega)]; decide), if_neg (by omega)]; unfold a_x; omega) | (rw [a_cl_if (by omega) (by omega) (by omega)]; omega)) (Or.inl rfl), fun h => c_go T0 T1.2.2.2.1.symm T1.2.2.2.2.symm (by first | (rw [a_cl_0]; omega) | (rw [a_cl_1 (by omega) (by omega)]; unfold a_one; omega) | (rw [a_cl_e0 (by omega)]; omega) | (rw [a_cl_e1 (by omega), if_pos (a_p_iff.mpr (by omega))]) | (rw [a_cl_e1 (by omega), if_neg (by rw [a_p_no (by omega)]; decide), if_pos (by omega)]; omega) | (rw [a_cl_e1 (by omega), if_neg (by rw [a_p_no (by omega)]; decide), if_neg (by omega)]; unfold a_x; omega) | (rw [a_cl_if (by omega) (by omega) (by omega)]; omega))⟩, trivial⟩
theorem k_mw_x3 {V : zVw} {n c H L W WP u s st S : Int} (T0 : q_run2 (t_b V) n c st (1 : Int) (0 : Int) H L W WP S) (T1 : 0 ≤ c ∧ 0 ≤ u ∧ u ≤ 41 ∧ t_km u = tk (t_b V) n c.toNat ∧ s = t_s (t_b V) n c.toNat) (T2 : a_p (tk (t_b V) n c.toNat) = false) (C0 : 0 ≤ st - 400) (C1 : 0 ≤ 404 - st) : (True) ∧ (((u ≠ (32 : Int) → q_res (t_b V) n 1 s) ∧ (u = (32 : Int) → q_go (t_b V) n c s)) ∧ True) := by
  have U0 := T0.2
  have T0 := T0.1
  have hu := t_km_alt T1.2.1 T1.2.2.1
  have np := a_p_no' T2
  rw [← T1.2.2.2.1] at np
  exact ⟨trivial, ⟨fun h => by first | (exfalso; omega) | exact c_res T0 T1.2.2.2.1.symm T1.2.2.2.2.symm (f := 1) (by first | (rw [a_cl_0]; omega) | (rw [a_cl_1 (by omega) (by omega)]; unfold a_one; omega) | (rw [a_cl_e0 (by omega)]; omega) | (rw [a_cl_e1 (by omega), if_neg (by rw [a_p_no (by omega)]; decide), if_pos (by omega)]; omega) | (rw [a_cl_e1 (by omega), if_neg (by rw [a_p_no (by omega)]; decide), if_neg (by omega)]; unfold a_x; omega) | (rw [a_cl_if (by omega) (by omega) (by omega)]; omega)) (Or.inl rfl), fun h => c_go T0 T1.2.2.2.1.symm T1.2.2.2.2.symm (by first | (rw [a_cl_0]; omega) | (rw [a_cl_1 (by omega) (by omega)]; unfold a_one; omega) | (rw [a_cl_e0 (by omega)]; omega) | (rw [a_cl_e1 (by omega), if_pos (a_p_iff.mpr (by omega))]) | (rw [a_cl_e1 (by omega), if_neg (by rw [a_p_no (by omega)]; decide), if_pos (by omega)]; omega) | (rw [a_cl_e1 (by omega), if_neg (by rw [a_p_no (by omega)]; decide), if_neg (by omega)]; unfold a_x; omega) | (rw [a_cl_if (by omega) (by omega) (by omega)]; omega))⟩, trivial⟩
theorem k_mw_x4 {V : zVw} {n c H L W WP u s st S : Int} (T0 : q_run2 (t_b V) n c st (1 : Int) (0 : Int) H L W WP S) (T1 : 0 ≤ c ∧ 0 ≤ u ∧ u ≤ 41 ∧ t_km u = tk (t_b V) n c.toNat ∧ s = t_s (t_b V) n c.toNat) (T2 : a_p (tk (t_b V) n c.toNat) = false) (C0 : 0 ≤ st - 500) (C1 : 0 ≤ 504 - st) : (True) ∧ (((u ≠ (4 : Int) → q_res (t_b V) n 1 s) ∧ (u = (4 : Int) → q_go (t_b V) n c s)) ∧ True) := by
  have U0 := T0.2
  have T0 := T0.1
  have hu := t_km_alt T1.2.1 T1.2.2.1
  have np := a_p_no' T2
  rw [← T1.2.2.2.1] at np
  exact ⟨trivial, ⟨fun h => by first | (exfalso; omega) | exact c_res T0 T1.2.2.2.1.symm T1.2.2.2.2.symm (f := 1) (by first | (rw [a_cl_0]; omega) | (rw [a_cl_1 (by omega) (by omega)]; unfold a_one; omega) | (rw [a_cl_e0 (by omega)]; omega) | (rw [a_cl_e1 (by omega), if_neg (by rw [a_p_no (by omega)]; decide), if_pos (by omega)]; omega) | (rw [a_cl_e1 (by omega), if_neg (by rw [a_p_no (by omega)]; decide), if_neg (by omega)]; unfold a_x; omega) | (rw [a_cl_if (by omega) (by omega) (by omega)]; omega)) (Or.inl rfl), fun h => c_go T0 T1.2.2.2.1.symm T1.2.2.2.2.symm (by first | (rw [a_cl_0]; omega) | (rw [a_cl_1 (by omega) (by omega)]; unfold a_one; omega) | (rw [a_cl_e0 (by omega)]; omega) | (rw [a_cl_e1 (by omega), if_pos (a_p_iff.mpr (by omega))]) | (rw [a_cl_e1 (by omega), if_neg (by rw [a_p_no (by omega)]; decide), if_pos (by omega)]; omega) | (rw [a_cl_e1 (by omega), if_neg (by rw [a_p_no (by omega)]; decide), if_neg (by omega)]; unfold a_x; omega) | (rw [a_cl_if (by omega) (by omega) (by omega)]; omega))⟩, trivial⟩
theorem k_mnp_a {V : zVw} {n c u s : Int} (T0 : 0 ≤ c ∧ 0 ≤ u ∧ u ≤ 41 ∧ t_km u = tk (t_b V) n c.toNat ∧ s = t_s (t_b V) n c.toNat) (C0 : 0 ≤ 7 - u) (F0 : (0 : Int) ≤ c ∧ (c : Int) < j_len 50 ∧ V 50 (c) = u) : (True) ∧ ((a_p (tk (t_b V) n c.toNat) = false) ∧ True) := by
  have hu := t_km_alt T0.2.1 T0.2.2.1
  refine ⟨trivial, ?_, trivial⟩
  rw [← T0.2.2.2.1]
  exact a_p_no (by omega)
theorem k_mnp_b {V : zVw} {n c u s : Int} (T0 : 0 ≤ c ∧ 0 ≤ u ∧ u ≤ 41 ∧ t_km u = tk (t_b V) n c.toNat ∧ s = t_s (t_b V) n c.toNat) (C0 : 0 ≤ u - 11) (C1 : 0 ≤ 14 - u) (F0 : (0 : Int) ≤ c ∧ (c : Int) < j_len 50 ∧ V 50 (c) = u) : (True) ∧ ((a_p (tk (t_b V) n c.toNat) = false) ∧ True) := by
  have hu := t_km_alt T0.2.1 T0.2.2.1
  refine ⟨trivial, ?_, trivial⟩
  rw [← T0.2.2.2.1]
  exact a_p_no (by omega)
theorem k_mnp_c {V : zVw} {n c u s : Int} (T0 : 0 ≤ c ∧ 0 ≤ u ∧ u ≤ 41 ∧ t_km u = tk (t_b V) n c.toNat ∧ s = t_s (t_b V) n c.toNat) (C0 : 0 ≤ u - 16) (F0 : (0 : Int) ≤ c ∧ (c : Int) < j_len 50 ∧ V 50 (c) = u) : (True) ∧ ((a_p (tk (t_b V) n c.toNat) = false) ∧ True) := by
  have hu := t_km_alt T0.2.1 T0.2.2.1
  refine ⟨trivial, ?_, trivial⟩
  rw [← T0.2.2.2.1]
  exact a_p_no (by omega)
theorem k_mres1a {V : zVw} {n c k u s : Int} (T0 : (u ≠ k → q_res (t_b V) n 1 s) ∧ (u = k → q_go (t_b V) n c s)) (C0 : 0 ≤ u - k - 1) : (True) ∧ (q_res (t_b V) n (1 : Int) s ∧ True) := by
  exact ⟨trivial, T0.1 (by omega), trivial⟩
theorem k_mres1b {V : zVw} {n c k u s : Int} (T0 : (u ≠ k → q_res (t_b V) n 1 s) ∧ (u = k → q_go (t_b V) n c s)) (C0 : 0 ≤ k - u - 1) : (True) ∧ (q_res (t_b V) n (1 : Int) s ∧ True) := by
  exact ⟨trivial, T0.1 (by omega), trivial⟩
theorem k_mgo {V : zVw} {n c k u s : Int} (T0 : (u ≠ k → q_res (t_b V) n 1 s) ∧ (u = k → q_go (t_b V) n c s)) (C0 : 0 ≤ u - k) (C1 : 0 ≤ k - u) : (True) ∧ (q_go (t_b V) n c s ∧ True) := by
  exact ⟨trivial, T0.2 (by omega), trivial⟩
theorem k_mres2 {V : zVw} {n c s : Int} (T0 : q_go (t_b V) n c s) (C0 : 0 ≤ c - 400) : (True) ∧ (q_res (t_b V) n (2 : Int) s ∧ True) := by
  exact ⟨trivial, T0 (by omega), trivial⟩
theorem k_mg_n1 {V : zVw} {n c H L W WP u s S : Int} (T0 : q_run2 (t_b V) n c (0 : Int) (0 : Int) (0 : Int) H L W WP S) (T1 : 0 ≤ c ∧ 0 ≤ u ∧ u ≤ 41 ∧ t_km u = tk (t_b V) n c.toNat ∧ s = t_s (t_b V) n c.toNat) (C0 : 0 ≤ u - 22) (C1 : 0 ≤ 23 - u) : (True) ∧ (q_go (t_b V) n c s ∧ True) := by
  have U0 := T0.2
  have T0 := T0.1
  have hu := t_km_alt T1.2.1 T1.2.2.1
  exact ⟨trivial, c_go T0 T1.2.2.2.1.symm T1.2.2.2.2.symm (by first | (rw [a_cl_0]; omega) | (rw [a_cl_1 (by omega) (by omega)]; unfold a_one; omega) | (rw [a_cl_e0 (by omega)]; omega) | (rw [a_cl_e1 (by omega), if_pos (a_p_iff.mpr (by omega))]) | (rw [a_cl_e1 (by omega), if_neg (by rw [a_p_no (by omega)]; decide), if_pos (by omega)]; omega) | (rw [a_cl_e1 (by omega), if_neg (by rw [a_p_no (by omega)]; decide), if_neg (by omega)]; unfold a_x; omega) | (rw [a_cl_if (by omega) (by omega) (by omega)]; omega)), trivial⟩
theorem k_mg_n2 {V : zVw} {n c H L W WP u s S : Int} (T0 : q_run2 (t_b V) n c (0 : Int) (0 : Int) (0 : Int) H L W WP S) (T1 : 0 ≤ c ∧ 0 ≤ u ∧ u ≤ 41 ∧ t_km u = tk (t_b V) n c.toNat ∧ s = t_s (t_b V) n c.toNat) (C0 : 0 ≤ u - 28) (C1 : 0 ≤ 29 - u) : (True) ∧ (q_go (t_b V) n c s ∧ True) := by
  have U0 := T0.2
  have T0 := T0.1
  have hu := t_km_alt T1.2.1 T1.2.2.1
  exact ⟨trivial, c_go T0 T1.2.2.2.1.symm T1.2.2.2.2.symm (by first | (rw [a_cl_0]; omega) | (rw [a_cl_1 (by omega) (by omega)]; unfold a_one; omega) | (rw [a_cl_e0 (by omega)]; omega) | (rw [a_cl_e1 (by omega), if_pos (a_p_iff.mpr (by omega))]) | (rw [a_cl_e1 (by omega), if_neg (by rw [a_p_no (by omega)]; decide), if_pos (by omega)]; omega) | (rw [a_cl_e1 (by omega), if_neg (by rw [a_p_no (by omega)]; decide), if_neg (by omega)]; unfold a_x; omega) | (rw [a_cl_if (by omega) (by omega) (by omega)]; omega)), trivial⟩
theorem k_mg_law {V : zVw} {n c H L W WP u s S : Int} (T0 : q_run2 (t_b V) n c (0 : Int) (0 : Int) (0 : Int) H L W WP S) (T1 : 0 ≤ c ∧ 0 ≤ u ∧ u ≤ 41 ∧ t_km u = tk (t_b V) n c.toNat ∧ s = t_s (t_b V) n c.toNat) (C0 : 0 ≤ u - 24) (C1 : 0 ≤ 27 - u) : (True) ∧ (q_go (t_b V) n c s ∧ True) := by
  have U0 := T0.2
  have T0 := T0.1
  have hu := t_km_alt T1.2.1 T1.2.2.1
  exact ⟨trivial, c_go T0 T1.2.2.2.1.symm T1.2.2.2.2.symm (by first | (rw [a_cl_0]; omega) | (rw [a_cl_1 (by omega) (by omega)]; unfold a_one; omega) | (rw [a_cl_e0 (by omega)]; omega) | (rw [a_cl_e1 (by omega), if_pos (a_p_iff.mpr (by omega))]) | (rw [a_cl_e1 (by omega), if_neg (by rw [a_p_no (by omega)]; decide), if_pos (by omega)]; omega) | (rw [a_cl_e1 (by omega), if_neg (by rw [a_p_no (by omega)]; decide), if_neg (by omega)]; unfold a_x; omega) | (rw [a_cl_if (by omega) (by omega) (by omega)]; omega)), trivial⟩
theorem k_mg_if {V : zVw} {n c H L W WP u s st S : Int} (T0 : q_run2 (t_b V) n c st (0 : Int) (0 : Int) H L W WP S) (T1 : 0 ≤ c ∧ 0 ≤ u ∧ u ≤ 41 ∧ t_km u = tk (t_b V) n c.toNat ∧ s = t_s (t_b V) n c.toNat) (C0 : 0 ≤ st - 30) (C1 : 0 ≤ 33 - st) (C2 : 0 ≤ u - 30) (C3 : 0 ≤ 30 - u) : (True) ∧ (q_go (t_b V) n c s ∧ True) := by
  have U0 := T0.2
  have T0 := T0.1
  have hu := t_km_alt T1.2.1 T1.2.2.1
  exact ⟨trivial, c_go T0 T1.2.2.2.1.symm T1.2.2.2.2.symm (by first | (rw [a_cl_0]; omega) | (rw [a_cl_1 (by omega) (by omega)]; unfold a_one; omega) | (rw [a_cl_e0 (by omega)]; omega) | (rw [a_cl_e1 (by omega), if_pos (a_p_iff.mpr (by omega))]) | (rw [a_cl_e1 (by omega), if_neg (by rw [a_p_no (by omega)]; decide), if_pos (by omega)]; omega) | (rw [a_cl_e1 (by omega), if_neg (by rw [a_p_no (by omega)]; decide), if_neg (by omega)]; unfold a_x; omega) | (rw [a_cl_if (by omega) (by omega) (by omega)]; omega)), trivial⟩
theorem k_mg_o {V : zVw} {n c H L W WP u s st op S : Int} (T0 : q_run2 (t_b V) n c st (0 : Int) op H L W WP S) (T1 : 0 ≤ c ∧ 0 ≤ u ∧ u ≤ 41 ∧ t_km u = tk (t_b V) n c.toNat ∧ s = t_s (t_b V) n c.toNat) (C0 : 0 ≤ st - 200) (C1 : 0 ≤ op) (C2 : 0 ≤ 5 - op) (C3 : 0 ≤ u - 6) (C4 : 0 ≤ 6 - u) : (True) ∧ (q_go (t_b V) n c s ∧ True) := by
  have U0 := T0.2
  have T0 := T0.1
  have hu := t_km_alt T1.2.1 T1.2.2.1
  exact ⟨trivial, c_go T0 T1.2.2.2.1.symm T1.2.2.2.2.symm (by first | (rw [a_cl_0]; omega) | (rw [a_cl_1 (by omega) (by omega)]; unfold a_one; omega) | (rw [a_cl_e0 (by omega)]; omega) | (rw [a_cl_e1 (by omega), if_pos (a_p_iff.mpr (by omega))]) | (rw [a_cl_e1 (by omega), if_neg (by rw [a_p_no (by omega)]; decide), if_pos (by omega)]; omega) | (rw [a_cl_e1 (by omega), if_neg (by rw [a_p_no (by omega)]; decide), if_neg (by omega)]; unfold a_x; omega) | (rw [a_cl_if (by omega) (by omega) (by omega)]; omega)), trivial⟩
theorem k_mg_i {V : zVw} {n c H L W WP u s st op S : Int} (T0 : q_run2 (t_b V) n c st (0 : Int) op H L W WP S) (T1 : 0 ≤ c ∧ 0 ≤ u ∧ u ≤ 41 ∧ t_km u = tk (t_b V) n c.toNat ∧ s = t_s (t_b V) n c.toNat) (C0 : 0 ≤ st - 200) (C1 : 0 ≤ op) (C2 : 0 ≤ u - 2) (C3 : 0 ≤ 2 - u) : (True) ∧ (q_go (t_b V) n c s ∧ True) := by
  have U0 := T0.2
  have T0 := T0.1
  have hu := t_km_alt T1.2.1 T1.2.2.1
  exact ⟨trivial, c_go T0 T1.2.2.2.1.symm T1.2.2.2.2.symm (by first | (rw [a_cl_0]; omega) | (rw [a_cl_1 (by omega) (by omega)]; unfold a_one; omega) | (rw [a_cl_e0 (by omega)]; omega) | (rw [a_cl_e1 (by omega), if_pos (a_p_iff.mpr (by omega))]) | (rw [a_cl_e1 (by omega), if_neg (by rw [a_p_no (by omega)]; decide), if_pos (by omega)]; omega) | (rw [a_cl_e1 (by omega), if_neg (by rw [a_p_no (by omega)]; decide), if_neg (by omega)]; unfold a_x; omega) | (rw [a_cl_if (by omega) (by omega) (by omega)]; omega)), trivial⟩
theorem k_mg_v {V : zVw} {n c H L W WP u s st op S : Int} (T0 : q_run2 (t_b V) n c st (0 : Int) op H L W WP S) (T1 : 0 ≤ c ∧ 0 ≤ u ∧ u ≤ 41 ∧ t_km u = tk (t_b V) n c.toNat ∧ s = t_s (t_b V) n c.toNat) (C0 : 0 ≤ st - 200) (C1 : 0 ≤ op) (C2 : 0 ≤ u - 33) (C3 : 0 ≤ 41 - u) : (True) ∧ (q_go (t_b V) n c s ∧ True) := by
  have U0 := T0.2
  have T0 := T0.1
  have hu := t_km_alt T1.2.1 T1.2.2.1
  exact ⟨trivial, c_go T0 T1.2.2.2.1.symm T1.2.2.2.2.symm (by first | (rw [a_cl_0]; omega) | (rw [a_cl_1 (by omega) (by omega)]; unfold a_one; omega) | (rw [a_cl_e0 (by omega)]; omega) | (rw [a_cl_e1 (by omega), if_pos (a_p_iff.mpr (by omega))]) | (rw [a_cl_e1 (by omega), if_neg (by rw [a_p_no (by omega)]; decide), if_pos (by omega)]; omega) | (rw [a_cl_e1 (by omega), if_neg (by rw [a_p_no (by omega)]; decide), if_neg (by omega)]; unfold a_x; omega) | (rw [a_cl_if (by omega) (by omega) (by omega)]; omega)), trivial⟩
theorem k_mg_c {V : zVw} {n c H L W WP u s st op S : Int} (T0 : q_run2 (t_b V) n c st (1 : Int) op H L W WP S) (T1 : 0 ≤ c ∧ 0 ≤ u ∧ u ≤ 41 ∧ t_km u = tk (t_b V) n c.toNat ∧ s = t_s (t_b V) n c.toNat) (C0 : 0 ≤ st - 200) (C1 : 0 ≤ op - 1) (C2 : 0 ≤ u - 7) (C3 : 0 ≤ 7 - u) : (True) ∧ (q_go (t_b V) n c s ∧ True) := by
  have U0 := T0.2
  have T0 := T0.1
  have hu := t_km_alt T1.2.1 T1.2.2.1
  exact ⟨trivial, c_go T0 T1.2.2.2.1.symm T1.2.2.2.2.symm (by first | (rw [a_cl_0]; omega) | (rw [a_cl_1 (by omega) (by omega)]; unfold a_one; omega) | (rw [a_cl_e0 (by omega)]; omega) | (rw [a_cl_e1 (by omega), if_pos (a_p_iff.mpr (by omega))]) | (rw [a_cl_e1 (by omega), if_neg (by rw [a_p_no (by omega)]; decide), if_pos (by omega)]; omega) | (rw [a_cl_e1 (by omega), if_neg (by rw [a_p_no (by omega)]; decide), if_neg (by omega)]; unfold a_x; omega) | (rw [a_cl_if (by omega) (by omega) (by omega)]; omega)), trivial⟩
theorem k_mg_p8 {V : zVw} {n c H L W WP u s st op S : Int} (T0 : q_run2 (t_b V) n c st (1 : Int) op H L W WP S) (T1 : 0 ≤ c ∧ 0 ≤ u ∧ u ≤ 41 ∧ t_km u = tk (t_b V) n c.toNat ∧ s = t_s (t_b V) n c.toNat) (C0 : 0 ≤ st - 200) (C1 : 0 ≤ op) (C2 : 0 ≤ u - 8) (C3 : 0 ≤ 8 - u) : (True) ∧ (q_go (t_b V) n c s ∧ True) := by
  have U0 := T0.2
  have T0 := T0.1
  have hu := t_km_alt T1.2.1 T1.2.2.1
  exact ⟨trivial, c_go T0 T1.2.2.2.1.symm T1.2.2.2.2.symm (by first | (rw [a_cl_0]; omega) | (rw [a_cl_1 (by omega) (by omega)]; unfold a_one; omega) | (rw [a_cl_e0 (by omega)]; omega) | (rw [a_cl_e1 (by omega), if_pos (a_p_iff.mpr (by omega))]) | (rw [a_cl_e1 (by omega), if_neg (by rw [a_p_no (by omega)]; decide), if_pos (by omega)]; omega) | (rw [a_cl_e1 (by omega), if_neg (by rw [a_p_no (by omega)]; decide), if_neg (by omega)]; unfold a_x; omega) | (rw [a_cl_if (by omega) (by omega) (by omega)]; omega)), trivial⟩
theorem k_mg_p9 {V : zVw} {n c H L W WP u s st op S : Int} (T0 : q_run2 (t_b V) n c st (1 : Int) op H L W WP S) (T1 : 0 ≤ c ∧ 0 ≤ u ∧ u ≤ 41 ∧ t_km u = tk (t_b V) n c.toNat ∧ s = t_s (t_b V) n c.toNat) (C0 : 0 ≤ st - 200) (C1 : 0 ≤ op) (C2 : 0 ≤ u - 9) (C3 : 0 ≤ 9 - u) : (True) ∧ (q_go (t_b V) n c s ∧ True) := by
  have U0 := T0.2
  have T0 := T0.1
  have hu := t_km_alt T1.2.1 T1.2.2.1
  exact ⟨trivial, c_go T0 T1.2.2.2.1.symm T1.2.2.2.2.symm (by first | (rw [a_cl_0]; omega) | (rw [a_cl_1 (by omega) (by omega)]; unfold a_one; omega) | (rw [a_cl_e0 (by omega)]; omega) | (rw [a_cl_e1 (by omega), if_pos (a_p_iff.mpr (by omega))]) | (rw [a_cl_e1 (by omega), if_neg (by rw [a_p_no (by omega)]; decide), if_pos (by omega)]; omega) | (rw [a_cl_e1 (by omega), if_neg (by rw [a_p_no (by omega)]; decide), if_neg (by omega)]; unfold a_x; omega) | (rw [a_cl_if (by omega) (by omega) (by omega)]; omega)), trivial⟩
theorem k_mg_p10 {V : zVw} {n c H L W WP u s st op S : Int} (T0 : q_run2 (t_b V) n c st (1 : Int) op H L W WP S) (T1 : 0 ≤ c ∧ 0 ≤ u ∧ u ≤ 41 ∧ t_km u = tk (t_b V) n c.toNat ∧ s = t_s (t_b V) n c.toNat) (C0 : 0 ≤ st - 200) (C1 : 0 ≤ op) (C2 : 0 ≤ u - 10) (C3 : 0 ≤ 10 - u) : (True) ∧ (q_go (t_b V) n c s ∧ True) := by
  have U0 := T0.2
  have T0 := T0.1
  have hu := t_km_alt T1.2.1 T1.2.2.1
  exact ⟨trivial, c_go T0 T1.2.2.2.1.symm T1.2.2.2.2.symm (by first | (rw [a_cl_0]; omega) | (rw [a_cl_1 (by omega) (by omega)]; unfold a_one; omega) | (rw [a_cl_e0 (by omega)]; omega) | (rw [a_cl_e1 (by omega), if_pos (a_p_iff.mpr (by omega))]) | (rw [a_cl_e1 (by omega), if_neg (by rw [a_p_no (by omega)]; decide), if_pos (by omega)]; omega) | (rw [a_cl_e1 (by omega), if_neg (by rw [a_p_no (by omega)]; decide), if_neg (by omega)]; unfold a_x; omega) | (rw [a_cl_if (by omega) (by omega) (by omega)]; omega)), trivial⟩
theorem k_mg_p15 {V : zVw} {n c H L W WP u s st op S : Int} (T0 : q_run2 (t_b V) n c st (1 : Int) op H L W WP S) (T1 : 0 ≤ c ∧ 0 ≤ u ∧ u ≤ 41 ∧ t_km u = tk (t_b V) n c.toNat ∧ s = t_s (t_b V) n c.toNat) (C0 : 0 ≤ st - 200) (C1 : 0 ≤ op) (C2 : 0 ≤ u - 15) (C3 : 0 ≤ 15 - u) : (True) ∧ (q_go (t_b V) n c s ∧ True) := by
  have U0 := T0.2
  have T0 := T0.1
  have hu := t_km_alt T1.2.1 T1.2.2.1
  exact ⟨trivial, c_go T0 T1.2.2.2.1.symm T1.2.2.2.2.symm (by first | (rw [a_cl_0]; omega) | (rw [a_cl_1 (by omega) (by omega)]; unfold a_one; omega) | (rw [a_cl_e0 (by omega)]; omega) | (rw [a_cl_e1 (by omega), if_pos (a_p_iff.mpr (by omega))]) | (rw [a_cl_e1 (by omega), if_neg (by rw [a_p_no (by omega)]; decide), if_pos (by omega)]; omega) | (rw [a_cl_e1 (by omega), if_neg (by rw [a_p_no (by omega)]; decide), if_neg (by omega)]; unfold a_x; omega) | (rw [a_cl_if (by omega) (by omega) (by omega)]; omega)), trivial⟩
theorem k_mr_h {V : zVw} {n c H L W WP u s S : Int} (T0 : q_run2 (t_b V) n c (0 : Int) (0 : Int) (0 : Int) H L W WP S) (T1 : 0 ≤ c ∧ 0 ≤ u ∧ u ≤ 41 ∧ t_km u = tk (t_b V) n c.toNat ∧ s = t_s (t_b V) n c.toNat) (C0 : 0 ≤ u - 20) (C1 : 0 ≤ 20 - u) (C2 : 0 ≤ H - 6) : (True) ∧ (q_res (t_b V) n (2 : Int) s ∧ True) := by
  have U0 := T0.2
  have T0 := T0.1
  have hu := t_km_alt T1.2.1 T1.2.2.1
  exact ⟨trivial, c_res T0 T1.2.2.2.1.symm T1.2.2.2.2.symm (f := 2) (by first | (rw [a_cl_0]; omega) | (rw [a_cl_1 (by omega) (by omega)]; unfold a_one; omega) | (rw [a_cl_e0 (by omega)]; omega) | (rw [a_cl_e1 (by omega), if_neg (by rw [a_p_no (by omega)]; decide), if_pos (by omega)]; omega) | (rw [a_cl_e1 (by omega), if_neg (by rw [a_p_no (by omega)]; decide), if_neg (by omega)]; unfold a_x; omega) | (rw [a_cl_if (by omega) (by omega) (by omega)]; omega)) (by decide), trivial⟩
theorem k_mr_l {V : zVw} {n c H L W WP u s S : Int} (T0 : q_run2 (t_b V) n c (0 : Int) (0 : Int) (0 : Int) H L W WP S) (T1 : 0 ≤ c ∧ 0 ≤ u ∧ u ≤ 41 ∧ t_km u = tk (t_b V) n c.toNat ∧ s = t_s (t_b V) n c.toNat) (C0 : 0 ≤ u - 21) (C1 : 0 ≤ 21 - u) (C2 : 0 ≤ L - 20) : (True) ∧ (q_res (t_b V) n (2 : Int) s ∧ True) := by
  have U0 := T0.2
  have T0 := T0.1
  have hu := t_km_alt T1.2.1 T1.2.2.1
  exact ⟨trivial, c_res T0 T1.2.2.2.1.symm T1.2.2.2.2.symm (f := 2) (by first | (rw [a_cl_0]; omega) | (rw [a_cl_1 (by omega) (by omega)]; unfold a_one; omega) | (rw [a_cl_e0 (by omega)]; omega) | (rw [a_cl_e1 (by omega), if_neg (by rw [a_p_no (by omega)]; decide), if_pos (by omega)]; omega) | (rw [a_cl_e1 (by omega), if_neg (by rw [a_p_no (by omega)]; decide), if_neg (by omega)]; unfold a_x; omega) | (rw [a_cl_if (by omega) (by omega) (by omega)]; omega)) (by decide), trivial⟩
theorem k_mr_0a {V : zVw} {n c H L W WP u s S : Int} (T0 : q_run2 (t_b V) n c (0 : Int) (0 : Int) (0 : Int) H L W WP S) (T1 : 0 ≤ c ∧ 0 ≤ u ∧ u ≤ 41 ∧ t_km u = tk (t_b V) n c.toNat ∧ s = t_s (t_b V) n c.toNat) (C0 : 0 ≤ u - 1) (C1 : 0 ≤ 19 - u) : (True) ∧ (q_res (t_b V) n (1 : Int) s ∧ True) := by
  have U0 := T0.2
  have T0 := T0.1
  have hu := t_km_alt T1.2.1 T1.2.2.1
  exact ⟨trivial, c_res T0 T1.2.2.2.1.symm T1.2.2.2.2.symm (f := 1) (by first | (rw [a_cl_0]; omega) | (rw [a_cl_1 (by omega) (by omega)]; unfold a_one; omega) | (rw [a_cl_e0 (by omega)]; omega) | (rw [a_cl_e1 (by omega), if_neg (by rw [a_p_no (by omega)]; decide), if_pos (by omega)]; omega) | (rw [a_cl_e1 (by omega), if_neg (by rw [a_p_no (by omega)]; decide), if_neg (by omega)]; unfold a_x; omega) | (rw [a_cl_if (by omega) (by omega) (by omega)]; omega)) (by decide), trivial⟩
theorem k_mr_0b {V : zVw} {n c H L W WP u s S : Int} (T0 : q_run2 (t_b V) n c (0 : Int) (0 : Int) (0 : Int) H L W WP S) (T1 : 0 ≤ c ∧ 0 ≤ u ∧ u ≤ 41 ∧ t_km u = tk (t_b V) n c.toNat ∧ s = t_s (t_b V) n c.toNat) (C0 : 0 ≤ u - 30) : (True) ∧ (q_res (t_b V) n (1 : Int) s ∧ True) := by
  have U0 := T0.2
  have T0 := T0.1
  have hu := t_km_alt T1.2.1 T1.2.2.1
  exact ⟨trivial, c_res T0 T1.2.2.2.1.symm T1.2.2.2.2.symm (f := 1) (by first | (rw [a_cl_0]; omega) | (rw [a_cl_1 (by omega) (by omega)]; unfold a_one; omega) | (rw [a_cl_e0 (by omega)]; omega) | (rw [a_cl_e1 (by omega), if_neg (by rw [a_p_no (by omega)]; decide), if_pos (by omega)]; omega) | (rw [a_cl_e1 (by omega), if_neg (by rw [a_p_no (by omega)]; decide), if_neg (by omega)]; unfold a_x; omega) | (rw [a_cl_if (by omega) (by omega) (by omega)]; omega)) (by decide), trivial⟩
theorem k_mr_if {V : zVw} {n c H L W WP u s st S : Int} (T0 : q_run2 (t_b V) n c st (0 : Int) (0 : Int) H L W WP S) (T1 : 0 ≤ c ∧ 0 ≤ u ∧ u ≤ 41 ∧ t_km u = tk (t_b V) n c.toNat ∧ s = t_s (t_b V) n c.toNat) (C0 : 0 ≤ st - 34) (C1 : 0 ≤ 34 - st) (C2 : 0 ≤ u - 30) (C3 : 0 ≤ 30 - u) : (True) ∧ (q_res (t_b V) n (2 : Int) s ∧ True) := by
  have U0 := T0.2
  have T0 := T0.1
  have hu := t_km_alt T1.2.1 T1.2.2.1
  exact ⟨trivial, c_res T0 T1.2.2.2.1.symm T1.2.2.2.2.symm (f := 2) (by first | (rw [a_cl_0]; omega) | (rw [a_cl_1 (by omega) (by omega)]; unfold a_one; omega) | (rw [a_cl_e0 (by omega)]; omega) | (rw [a_cl_e1 (by omega), if_neg (by rw [a_p_no (by omega)]; decide), if_pos (by omega)]; omega) | (rw [a_cl_e1 (by omega), if_neg (by rw [a_p_no (by omega)]; decide), if_neg (by omega)]; unfold a_x; omega) | (rw [a_cl_if (by omega) (by omega) (by omega)]; omega)) (by decide), trivial⟩
theorem k_mr_o {V : zVw} {n c H L W WP u s st op S : Int} (T0 : q_run2 (t_b V) n c st (0 : Int) op H L W WP S) (T1 : 0 ≤ c ∧ 0 ≤ u ∧ u ≤ 41 ∧ t_km u = tk (t_b V) n c.toNat ∧ s = t_s (t_b V) n c.toNat) (C0 : 0 ≤ st - 200) (C1 : 0 ≤ op - 6) (C2 : 0 ≤ u - 6) (C3 : 0 ≤ 6 - u) : (True) ∧ (q_res (t_b V) n (2 : Int) s ∧ True) := by
  have U0 := T0.2
  have T0 := T0.1
  have hu := t_km_alt T1.2.1 T1.2.2.1
  exact ⟨trivial, c_res T0 T1.2.2.2.1.symm T1.2.2.2.2.symm (f := 2) (by first | (rw [a_cl_0]; omega) | (rw [a_cl_1 (by omega) (by omega)]; unfold a_one; omega) | (rw [a_cl_e0 (by omega)]; omega) | (rw [a_cl_e1 (by omega), if_neg (by rw [a_p_no (by omega)]; decide), if_pos (by omega)]; omega) | (rw [a_cl_e1 (by omega), if_neg (by rw [a_p_no (by omega)]; decide), if_neg (by omega)]; unfold a_x; omega) | (rw [a_cl_if (by omega) (by omega) (by omega)]; omega)) (by decide), trivial⟩
theorem k_mr_ea {V : zVw} {n c H L W WP u s st op S : Int} (T0 : q_run2 (t_b V) n c st (0 : Int) op H L W WP S) (T1 : 0 ≤ c ∧ 0 ≤ u ∧ u ≤ 41 ∧ t_km u = tk (t_b V) n c.toNat ∧ s = t_s (t_b V) n c.toNat) (C0 : 0 ≤ st - 200) (C1 : 0 ≤ op) (C2 : 0 ≤ 1 - u) : (True) ∧ (q_res (t_b V) n (1 : Int) s ∧ True) := by
  have U0 := T0.2
  have T0 := T0.1
  have hu := t_km_alt T1.2.1 T1.2.2.1
  exact ⟨trivial, c_res T0 T1.2.2.2.1.symm T1.2.2.2.2.symm (f := 1) (by first | (rw [a_cl_0]; omega) | (rw [a_cl_1 (by omega) (by omega)]; unfold a_one; omega) | (rw [a_cl_e0 (by omega)]; omega) | (rw [a_cl_e1 (by omega), if_neg (by rw [a_p_no (by omega)]; decide), if_pos (by omega)]; omega) | (rw [a_cl_e1 (by omega), if_neg (by rw [a_p_no (by omega)]; decide), if_neg (by omega)]; unfold a_x; omega) | (rw [a_cl_if (by omega) (by omega) (by omega)]; omega)) (by decide), trivial⟩
theorem k_mr_eb {V : zVw} {n c H L W WP u s st op S : Int} (T0 : q_run2 (t_b V) n c st (0 : Int) op H L W WP S) (T1 : 0 ≤ c ∧ 0 ≤ u ∧ u ≤ 41 ∧ t_km u = tk (t_b V) n c.toNat ∧ s = t_s (t_b V) n c.toNat) (C0 : 0 ≤ st - 200) (C1 : 0 ≤ op) (C2 : 0 ≤ u - 3) (C3 : 0 ≤ 5 - u) : (True) ∧ (q_res (t_b V) n (1 : Int) s ∧ True) := by
  have U0 := T0.2
  have T0 := T0.1
  have hu := t_km_alt T1.2.1 T1.2.2.1
  exact ⟨trivial, c_res T0 T1.2.2.2.1.symm T1.2.2.2.2.symm (f := 1) (by first | (rw [a_cl_0]; omega) | (rw [a_cl_1 (by omega) (by omega)]; unfold a_one; omega) | (rw [a_cl_e0 (by omega)]; omega) | (rw [a_cl_e1 (by omega), if_neg (by rw [a_p_no (by omega)]; decide), if_pos (by omega)]; omega) | (rw [a_cl_e1 (by omega), if_neg (by rw [a_p_no (by omega)]; decide), if_neg (by omega)]; unfold a_x; omega) | (rw [a_cl_if (by omega) (by omega) (by omega)]; omega)) (by decide), trivial⟩
theorem k_mr_ec {V : zVw} {n c H L W WP u s st op S : Int} (T0 : q_run2 (t_b V) n c st (0 : Int) op H L W WP S) (T1 : 0 ≤ c ∧ 0 ≤ u ∧ u ≤ 41 ∧ t_km u = tk (t_b V) n c.toNat ∧ s = t_s (t_b V) n c.toNat) (C0 : 0 ≤ st - 200) (C1 : 0 ≤ op) (C2 : 0 ≤ u - 7) (C3 : 0 ≤ 32 - u) : (True) ∧ (q_res (t_b V) n (1 : Int) s ∧ True) := by
  have U0 := T0.2
  have T0 := T0.1
  have hu := t_km_alt T1.2.1 T1.2.2.1
  exact ⟨trivial, c_res T0 T1.2.2.2.1.symm T1.2.2.2.2.symm (f := 1) (by first | (rw [a_cl_0]; omega) | (rw [a_cl_1 (by omega) (by omega)]; unfold a_one; omega) | (rw [a_cl_e0 (by omega)]; omega) | (rw [a_cl_e1 (by omega), if_neg (by rw [a_p_no (by omega)]; decide), if_pos (by omega)]; omega) | (rw [a_cl_e1 (by omega), if_neg (by rw [a_p_no (by omega)]; decide), if_neg (by omega)]; unfold a_x; omega) | (rw [a_cl_if (by omega) (by omega) (by omega)]; omega)) (by decide), trivial⟩
theorem k_mr_ca {V : zVw} {n c H L W WP u s st op S : Int} (T0 : q_run2 (t_b V) n c st (1 : Int) op H L W WP S) (T1 : 0 ≤ c ∧ 0 ≤ u ∧ u ≤ 41 ∧ t_km u = tk (t_b V) n c.toNat ∧ s = t_s (t_b V) n c.toNat) (C0 : 0 ≤ st - 200) (C1 : 0 ≤ op - 1) (C2 : 0 ≤ 6 - u) : (True) ∧ (q_res (t_b V) n (1 : Int) s ∧ True) := by
  have U0 := T0.2
  have T0 := T0.1
  have hu := t_km_alt T1.2.1 T1.2.2.1
  exact ⟨trivial, c_res T0 T1.2.2.2.1.symm T1.2.2.2.2.symm (f := 1) (by first | (rw [a_cl_0]; omega) | (rw [a_cl_1 (by omega) (by omega)]; unfold a_one; omega) | (rw [a_cl_e0 (by omega)]; omega) | (rw [a_cl_e1 (by omega), if_neg (by rw [a_p_no (by omega)]; decide), if_pos (by omega)]; omega) | (rw [a_cl_e1 (by omega), if_neg (by rw [a_p_no (by omega)]; decide), if_neg (by omega)]; unfold a_x; omega) | (rw [a_cl_if (by omega) (by omega) (by omega)]; omega)) (by decide), trivial⟩
theorem k_mr_cb {V : zVw} {n c H L W WP u s st op S : Int} (T0 : q_run2 (t_b V) n c st (1 : Int) op H L W WP S) (T1 : 0 ≤ c ∧ 0 ≤ u ∧ u ≤ 41 ∧ t_km u = tk (t_b V) n c.toNat ∧ s = t_s (t_b V) n c.toNat) (C0 : 0 ≤ st - 200) (C1 : 0 ≤ op - 1) (C2 : 0 ≤ u - 11) (C3 : 0 ≤ 14 - u) : (True) ∧ (q_res (t_b V) n (1 : Int) s ∧ True) := by
  have U0 := T0.2
  have T0 := T0.1
  have hu := t_km_alt T1.2.1 T1.2.2.1
  exact ⟨trivial, c_res T0 T1.2.2.2.1.symm T1.2.2.2.2.symm (f := 1) (by first | (rw [a_cl_0]; omega) | (rw [a_cl_1 (by omega) (by omega)]; unfold a_one; omega) | (rw [a_cl_e0 (by omega)]; omega) | (rw [a_cl_e1 (by omega), if_neg (by rw [a_p_no (by omega)]; decide), if_pos (by omega)]; omega) | (rw [a_cl_e1 (by omega), if_neg (by rw [a_p_no (by omega)]; decide), if_neg (by omega)]; unfold a_x; omega) | (rw [a_cl_if (by omega) (by omega) (by omega)]; omega)) (by decide), trivial⟩
theorem k_mr_cc {V : zVw} {n c H L W WP u s st op S : Int} (T0 : q_run2 (t_b V) n c st (1 : Int) op H L W WP S) (T1 : 0 ≤ c ∧ 0 ≤ u ∧ u ≤ 41 ∧ t_km u = tk (t_b V) n c.toNat ∧ s = t_s (t_b V) n c.toNat) (C0 : 0 ≤ st - 200) (C1 : 0 ≤ op - 1) (C2 : 0 ≤ u - 16) : (True) ∧ (q_res (t_b V) n (1 : Int) s ∧ True) := by
  have U0 := T0.2
  have T0 := T0.1
  have hu := t_km_alt T1.2.1 T1.2.2.1
  exact ⟨trivial, c_res T0 T1.2.2.2.1.symm T1.2.2.2.2.symm (f := 1) (by first | (rw [a_cl_0]; omega) | (rw [a_cl_1 (by omega) (by omega)]; unfold a_one; omega) | (rw [a_cl_e0 (by omega)]; omega) | (rw [a_cl_e1 (by omega), if_neg (by rw [a_p_no (by omega)]; decide), if_pos (by omega)]; omega) | (rw [a_cl_e1 (by omega), if_neg (by rw [a_p_no (by omega)]; decide), if_neg (by omega)]; unfold a_x; omega) | (rw [a_cl_if (by omega) (by omega) (by omega)]; omega)) (by decide), trivial⟩
theorem k_mqlast_a {V : zVw} {n c st H L W WP u s S : Int} (T0 : q_run2 (t_b V) n c st (0 : Int) (0 : Int) H L W WP S) (T1 : 0 ≤ c ∧ 0 ≤ u ∧ u ≤ 41 ∧ t_km u = tk (t_b V) n c.toNat ∧ s = t_s (t_b V) n c.toNat) (C0 : 0 ≤ st - 30) (C1 : 0 ≤ 34 - st) (C2 : 0 ≤ 29 - u) : (True) ∧ (q_run2 (t_b V) n c (st + 470) (0 : Int) (0 : Int) H L W WP S ∧ True) := by
  have U0 := T0.2
  have T0 := T0.1
  have hu := t_km_alt T1.2.1 T1.2.2.1
  exact ⟨trivial, ⟨c_last T0 T1.2.2.2.1.symm (by unfold a_ef; omega), U0⟩, trivial⟩
theorem k_mqlast_b {V : zVw} {n c st H L W WP u s S : Int} (T0 : q_run2 (t_b V) n c st (0 : Int) (0 : Int) H L W WP S) (T1 : 0 ≤ c ∧ 0 ≤ u ∧ u ≤ 41 ∧ t_km u = tk (t_b V) n c.toNat ∧ s = t_s (t_b V) n c.toNat) (C0 : 0 ≤ st - 30) (C1 : 0 ≤ 34 - st) (C2 : 0 ≤ u - 31) : (True) ∧ (q_run2 (t_b V) n c (st + 470) (0 : Int) (0 : Int) H L W WP S ∧ True) := by
  have U0 := T0.2
  have T0 := T0.1
  have hu := t_km_alt T1.2.1 T1.2.2.1
  exact ⟨trivial, ⟨c_last T0 T1.2.2.2.1.symm (by unfold a_ef; omega), U0⟩, trivial⟩
theorem k_mend {V : zVw} {n c H L W WP u s S : Int} (T0 : q_run2 (t_b V) n c (0 : Int) (0 : Int) (0 : Int) H L W WP S) (T1 : 0 ≤ c ∧ 0 ≤ u ∧ u ≤ 41 ∧ t_km u = tk (t_b V) n c.toNat ∧ s = t_s (t_b V) n c.toNat) (C0 : 0 ≤ u) (C1 : 0 ≤ -u) : (True) ∧ (q_res (t_b V) n W WP ∧ True) := by
  have U0 := T0.2
  have T0 := T0.1
  have hu := t_km_alt T1.2.1 T1.2.2.1
  exact ⟨trivial, c_end T0 T1.2.2.2.1.symm (by first | (rw [a_cl_0]; omega) | (rw [a_cl_1 (by omega) (by omega)]; unfold a_one; omega) | (rw [a_cl_e0 (by omega)]; omega) | (rw [a_cl_e1 (by omega), if_neg (by rw [a_p_no (by omega)]; decide), if_pos (by omega)]; omega) | (rw [a_cl_e1 (by omega), if_neg (by rw [a_p_no (by omega)]; decide), if_neg (by omega)]; unfold a_x; omega) | (rw [a_cl_if (by omega) (by omega) (by omega)]; omega)), trivial⟩
theorem k_wpl {V : zVw} {n c st mo op H L W WP u s S : Int} (T0 : q_run2 (t_b V) n c st mo op H L W WP S) (T1 : 0 ≤ c ∧ 0 ≤ u ∧ u ≤ 41 ∧ t_km u = tk (t_b V) n c.toNat ∧ s = t_s (t_b V) n c.toNat) (C0 : 0 ≤ W - 1) (C1 : 0 ≤ n) : (0 ≤ s - WP - 1 ∧ True) ∧ (True) := by
  have U0 := T0.2
  have T0 := T0.1
  have h9 := c_wp (by omega) T0 T1.2.2.2.2 (by omega)
  exact ⟨⟨by omega, trivial⟩, trivial⟩
theorem k_mnm0 {V : zVw} {n c L W WP S : Int} (T0 : q_run2 (t_b V) n c (0 : Int) (0 : Int) (0 : Int) (0 : Int) L W WP S) : (True) ∧ (q_nms (t_b V) n c (0 : Int) (ty (t_b V) n) (V 55) ∧ True) := by
  have U0 := T0.2
  have T0 := T0.1
  obtain ⟨-, q, e9, -, -, -, e8, -⟩ := T0
  have hl := a_run_H e9
  refine ⟨trivial, ⟨q, e9, e8, fun i m hm => ?_⟩, trivial⟩
  have := (List.getElem?_eq_some_iff.mp hm).1
  omega
theorem k_mnmM {V : zVw} {n c d st mo op H L W WP st2 mo2 op2 L2 W2 WP2 S S2 : Int} (T0 : q_nms (t_b V) n c H (ty (t_b V) n) (V 55)) (T1 : q_run2 (t_b V) n d st mo op H L W WP S) (T2 : q_run2 (t_b V) n c st2 mo2 op2 H L2 W2 WP2 S2) (C0 : 0 ≤ d - c) : (True) ∧ (q_nms (t_b V) n d H (ty (t_b V) n) (V 55) ∧ True) := by
  have U1 := T1.2
  have T1 := T1.1
  have U2 := T2.2
  have T2 := T2.1
  exact ⟨trivial, c_nmsM T0 T1 T2 (by omega), trivial⟩
theorem k_mnmH {V : zVw} {n c d H L W WP s1 v1 w st2 mo2 op2 L2 W2 WP2 S S2 : Int} (T0 : q_run2 (t_b V) n (d - 1) (4 : Int) (0 : Int) (0 : Int) H L W WP S) (T1 : q_tok (t_b V) n (d - 1) (59 : Int) s1 v1) (T2 : q_nms (t_b V) n c H (ty (t_b V) n) (V 55)) (T3 : q_run2 (t_b V) n c st2 mo2 op2 H L2 W2 WP2 S2) (T4 : tk (t_b V) n (d - 4).toNat = 2 ∧ w = ty (t_b V) n (d - 4).toNat) (C0 : 0 ≤ 400 - d) (C1 : 0 ≤ 5 - H) (C2 : 0 ≤ d - c - 1) (F0 : (0 : Int) ≤ H ∧ (H : Int) < j_len 55 ∧ V 55 (H) = w) : (True) ∧ (q_nms (t_b V) n d (H + 1) (ty (t_b V) n) (V 55) ∧ True) := by
  have U0 := T0.2
  have T0 := T0.1
  have U3 := T3.2
  have T3 := T3.1
  exact ⟨trivial, c_nmsH (c_nmsM T2 T0 T3 (by omega)) T0 T1.2.1.symm (by omega) T4.1 (by rw [F0.2.2]; exact T4.2), trivial⟩
theorem k_mtn {V : zVw} {n d c s w : Int} (T0 : q_upto (t_b V) n d (q_mr V n)) (T1 : 0 ≤ c ∧ 0 ≤ (1 : Int) ∧ (1 : Int) ≤ 41 ∧ t_km (1 : Int) = tk (t_b V) n c.toNat ∧ s = t_s (t_b V) n c.toNat) (C0 : 0 ≤ d - c) (F0 : (0 : Int) ≤ c ∧ (c : Int) < j_len 53 ∧ V 53 (c) = w) : (True) ∧ ((tk (t_b V) n c.toNat = 2 ∧ w = ty (t_b V) n c.toNat) ∧ True) := by
  have hk : tk (t_b V) n c.toNat = 2 := by rw [← T1.2.2.2.1]; rfl
  have h9 := c_at T0 T1.1 (by omega)
  have h8 := h9.2.2.2.2.2 hk
  rw [show ((c.toNat : Nat) : Int) = c by have := T1.1; omega, F0.2.2] at h8
  exact ⟨trivial, ⟨hk, h8⟩, trivial⟩
theorem k_mfd0 {V : zVw} {n c H : Int} (T0 : q_nms (t_b V) n c H (ty (t_b V) n) (V 55)) : (True) ∧ (q_nfd (t_b V) n c (0 : Int) ∧ True) := by
  exact ⟨trivial, c_nfd0 T0, trivial⟩
theorem k_mfdS {V : zVw} {n c H j w u : Int} (T0 : q_nfd (t_b V) n c j) (T1 : q_nms (t_b V) n c H (ty (t_b V) n) (V 55)) (T2 : tk (t_b V) n c.toNat = 2 ∧ w = ty (t_b V) n c.toNat) (C0 : 0 ≤ H - j - 1) (C1 : 0 ≤ u - w - 1) (F0 : (0 : Int) ≤ j ∧ (j : Int) < j_len 55 ∧ V 55 (j) = u) : (True) ∧ (q_nfd (t_b V) n c (j + 1) ∧ True) := by
  exact ⟨trivial, c_nfdS T1 T0 (by omega) (fun m hm e9 h9 => by have h8 := (tx_ty hm T2.1).mp h9; have h7 := T2.2; rw [F0.2.2] at e9; omega), trivial⟩
theorem k_mfdT {V : zVw} {n c H j w u : Int} (T0 : q_nfd (t_b V) n c j) (T1 : q_nms (t_b V) n c H (ty (t_b V) n) (V 55)) (T2 : tk (t_b V) n c.toNat = 2 ∧ w = ty (t_b V) n c.toNat) (C0 : 0 ≤ H - j - 1) (C1 : 0 ≤ w - u - 1) (F0 : (0 : Int) ≤ j ∧ (j : Int) < j_len 55 ∧ V 55 (j) = u) : (True) ∧ (q_nfd (t_b V) n c (j + 1) ∧ True) := by
  exact ⟨trivial, c_nfdS T1 T0 (by omega) (fun m hm e9 h9 => by have h8 := (tx_ty hm T2.1).mp h9; have h7 := T2.2; rw [F0.2.2] at e9; omega), trivial⟩
theorem k_mfndY {V : zVw} {n c H j w : Int} (T0 : q_nfd (t_b V) n c j) (T1 : q_nms (t_b V) n c H (ty (t_b V) n) (V 55)) (T2 : tk (t_b V) n c.toNat = 2 ∧ w = ty (t_b V) n c.toNat) (C0 : 0 ≤ H - j - 1) (F0 : (0 : Int) ≤ j ∧ (j : Int) < j_len 55 ∧ V 55 (j) = w) : (True) ∧ (q_fnd (t_b V) n c j ∧ True) := by
  exact ⟨trivial, c_fndY T1 T0 (by omega) (fun m hm e9 => (tx_ty hm T2.1).mpr (by have h7 := T2.2; rw [F0.2.2] at e9; omega)), trivial⟩
theorem k_mfndN {V : zVw} {n c H j : Int} (T0 : q_nfd (t_b V) n c j) (T1 : q_nms (t_b V) n c H (ty (t_b V) n) (V 55)) (C0 : 0 ≤ j - H) : (True) ∧ (q_fnd (t_b V) n c (-1 : Int) ∧ True) := by
  exact ⟨trivial, c_fndN T1 T0 (by omega), trivial⟩
theorem k_mhit {V : zVw} {n c H j w : Int} (T0 : q_nms (t_b V) n c H (ty (t_b V) n) (V 55)) (T1 : tk (t_b V) n c.toNat = 2 ∧ w = ty (t_b V) n c.toNat) (C0 : 0 ≤ j) (C1 : 0 ≤ H - j - 1) (F0 : (0 : Int) ≤ j ∧ (j : Int) < j_len 55 ∧ V 55 (j) = w) : (True) ∧ (q_hit (t_b V) n c ∧ True) := by
  exact ⟨trivial, c_hit (j := j) T0 (by omega) (by omega) (fun m hm e9 => (tx_ty hm T1.1).mpr (by have h7 := T1.2; rw [F0.2.2] at e9; omega)), trivial⟩
theorem k_mhit_w {V : zVw} {n d H L W WP s v S : Int} (T0 : q_run2 (t_b V) n (d - 1) (1 : Int) (0 : Int) (0 : Int) H L W WP S) (T1 : q_tok (t_b V) n (d - 1) (2 : Int) s v) (T2 : q_hit (t_b V) n (d - 1)) (C0 : 0 ≤ 400 - d) (C1 : 0 ≤ W - 1) : (True) ∧ (q_run2 (t_b V) n d (2 : Int) (0 : Int) (0 : Int) H L W WP S ∧ True) := by
  have U0 := T0.2
  have T0 := T0.1
  obtain ⟨r, hr, hr0⟩ := c_hit_fnd T2
  have e9 := c_step (kd := 2) (s := s) (x := v) (r := r) (rq := 0) (st' := 2) (mo' := 0) (op' := 0) (H' := H) (L' := L) (W' := W) (WP' := WP) T0 T1.2.1.symm T1.2.2.1.symm (fun h => (T1.2.2.2 (Or.inr h)).symm) (by omega) (by first | (rw [a_cl_0]; omega) | (rw [a_cl_1 (by omega) (by omega)]; unfold a_one; omega) | (rw [a_cl_e0 (by omega)]; omega) | (rw [a_cl_e1 (by omega), if_pos (a_p_iff.mpr (by omega))]) | (rw [a_cl_e1 (by omega), if_neg (by rw [a_p_no (by omega)]; decide), if_pos (by omega)]; omega) | (rw [a_cl_e1 (by omega), if_neg (by rw [a_p_no (by omega)]; decide), if_neg (by omega)]; unfold a_x; omega) | (rw [a_cl_if (by omega) (by omega) (by omega)]; omega)) (fun _ => hr) (fun h => by unfold a_ef at h; omega) (by first | decide | (rw [a_ef_s (by omega)]; unfold a_st; omega) | (unfold a_st a_ef; omega) | (rw [a_ef_s (by omega)]; unfold a_st; rw [a_p_no (by omega)]; simp only [Bool.false_eq_true, if_false]; omega) | (rw [a_ef_s (by omega)]; unfold a_st; rw [a_p_iff.mpr (by omega)]; simp only [if_true]; omega)) (by first | decide | (rw [a_ef_s (by omega)]; unfold a_mo; omega) | (unfold a_mo a_ef; omega) | (rw [a_ef_s (by omega)]; unfold a_mo; rw [a_p_no (by omega)]; simp only [Bool.false_eq_true, if_false]; omega) | (rw [a_ef_s (by omega)]; unfold a_mo; rw [a_p_iff.mpr (by omega)]; simp only [if_true]; omega)) (by first | decide | (rw [a_ef_s (by omega)]; unfold a_op; omega) | (unfold a_op a_ef; omega) | (rw [a_ef_s (by omega)]; unfold a_op; rw [a_p_no (by omega)]; simp only [Bool.false_eq_true, if_false]; omega) | (rw [a_ef_s (by omega)]; unfold a_op; rw [a_p_iff.mpr (by omega)]; simp only [if_true]; omega)) (by unfold a_ef; omega) (by unfold a_ef; omega) (by rw [a_ef_s (by omega)]; unfold a_ck; omega) (fun h => by omega)
  rw [show d - 1 + 1 = d by omega] at e9
  exact ⟨trivial, ⟨e9, by exact c_S1 U0 e9 (by omega) T0.1⟩, trivial⟩
theorem k_mhit_tw {V : zVw} {n d H L W WP s v S : Int} (T0 : q_run2 (t_b V) n (d - 1) (1 : Int) (0 : Int) (0 : Int) H L W WP S) (T1 : q_tok (t_b V) n (d - 1) (2 : Int) s v) (T2 : q_hit (t_b V) n (d - 1)) (C0 : 0 ≤ 400 - d) (C1 : 0 ≤ W) (C2 : 0 ≤ -W) : (True) ∧ (q_run2 (t_b V) n d (2 : Int) (0 : Int) (0 : Int) H L (3 : Int) s S ∧ True) := by
  have U0 := T0.2
  have T0 := T0.1
  obtain ⟨r, hr, hr0⟩ := c_hit_fnd T2
  have e9 := c_step (kd := 2) (s := s) (x := v) (r := r) (rq := 0) (st' := 2) (mo' := 0) (op' := 0) (H' := H) (L' := L) (W' := 3) (WP' := s) T0 T1.2.1.symm T1.2.2.1.symm (fun h => (T1.2.2.2 (Or.inr h)).symm) (by omega) (by first | (rw [a_cl_0]; omega) | (rw [a_cl_1 (by omega) (by omega)]; unfold a_one; omega) | (rw [a_cl_e0 (by omega)]; omega) | (rw [a_cl_e1 (by omega), if_pos (a_p_iff.mpr (by omega))]) | (rw [a_cl_e1 (by omega), if_neg (by rw [a_p_no (by omega)]; decide), if_pos (by omega)]; omega) | (rw [a_cl_e1 (by omega), if_neg (by rw [a_p_no (by omega)]; decide), if_neg (by omega)]; unfold a_x; omega) | (rw [a_cl_if (by omega) (by omega) (by omega)]; omega)) (fun _ => hr) (fun h => by unfold a_ef at h; omega) (by first | decide | (rw [a_ef_s (by omega)]; unfold a_st; omega) | (unfold a_st a_ef; omega) | (rw [a_ef_s (by omega)]; unfold a_st; rw [a_p_no (by omega)]; simp only [Bool.false_eq_true, if_false]; omega) | (rw [a_ef_s (by omega)]; unfold a_st; rw [a_p_iff.mpr (by omega)]; simp only [if_true]; omega)) (by first | decide | (rw [a_ef_s (by omega)]; unfold a_mo; omega) | (unfold a_mo a_ef; omega) | (rw [a_ef_s (by omega)]; unfold a_mo; rw [a_p_no (by omega)]; simp only [Bool.false_eq_true, if_false]; omega) | (rw [a_ef_s (by omega)]; unfold a_mo; rw [a_p_iff.mpr (by omega)]; simp only [if_true]; omega)) (by first | decide | (rw [a_ef_s (by omega)]; unfold a_op; omega) | (unfold a_op a_ef; omega) | (rw [a_ef_s (by omega)]; unfold a_op; rw [a_p_no (by omega)]; simp only [Bool.false_eq_true, if_false]; omega) | (rw [a_ef_s (by omega)]; unfold a_op; rw [a_p_iff.mpr (by omega)]; simp only [if_true]; omega)) (by unfold a_ef; omega) (by unfold a_ef; omega) (by rw [a_ef_s (by omega)]; unfold a_ck; omega) (fun h => by omega)
  rw [show d - 1 + 1 = d by omega] at e9
  exact ⟨trivial, ⟨e9, by exact c_S1 U0 e9 (by omega) T0.1⟩, trivial⟩
theorem k_wsplit {V : zVw} {w : Int} (C0 : 0 ≤ w) : ((0 ≤ w ∧ 0 ≤ -w ∧ True) ∧ (True)) ∨ ((0 ≤ w - 1 ∧ True) ∧ (True)) := by
  simp only [and_true]
  omega
theorem k_rfrH {V : zVw} {n c H L W WP u s S : Int} (T0 : q_run2 (t_b V) n c (0 : Int) (0 : Int) (0 : Int) H L W WP S) (T1 : 0 ≤ c ∧ 0 ≤ u ∧ u ≤ 41 ∧ t_km u = tk (t_b V) n c.toNat ∧ s = t_s (t_b V) n c.toNat) (C0 : 0 ≤ u - 20) (C1 : 0 ≤ 20 - u) : (True) ∧ (((H = (6 : Int) → q_res (t_b V) n 2 s) ∧ (H < (6 : Int) → q_go (t_b V) n c s)) ∧ True) := by
  have U0 := T0.2
  have T0 := T0.1
  have hu := t_km_alt T1.2.1 T1.2.2.1
  exact ⟨trivial, ⟨fun h => c_res T0 T1.2.2.2.1.symm T1.2.2.2.2.symm (f := 2) (by first | (rw [a_cl_0]; omega) | (rw [a_cl_1 (by omega) (by omega)]; unfold a_one; omega) | (rw [a_cl_e0 (by omega)]; omega) | (rw [a_cl_e1 (by omega), if_neg (by rw [a_p_no (by omega)]; decide), if_pos (by omega)]; omega) | (rw [a_cl_e1 (by omega), if_neg (by rw [a_p_no (by omega)]; decide), if_neg (by omega)]; unfold a_x; omega) | (rw [a_cl_if (by omega) (by omega) (by omega)]; omega)) (Or.inr rfl), fun h => c_go T0 T1.2.2.2.1.symm T1.2.2.2.2.symm (by first | (rw [a_cl_0]; omega) | (rw [a_cl_1 (by omega) (by omega)]; unfold a_one; omega) | (rw [a_cl_e0 (by omega)]; omega) | (rw [a_cl_e1 (by omega), if_pos (a_p_iff.mpr (by omega))]) | (rw [a_cl_e1 (by omega), if_neg (by rw [a_p_no (by omega)]; decide), if_pos (by omega)]; omega) | (rw [a_cl_e1 (by omega), if_neg (by rw [a_p_no (by omega)]; decide), if_neg (by omega)]; unfold a_x; omega) | (rw [a_cl_if (by omega) (by omega) (by omega)]; omega))⟩, trivial⟩
theorem k_rfrL {V : zVw} {n c H L W WP u s S : Int} (T0 : q_run2 (t_b V) n c (0 : Int) (0 : Int) (0 : Int) H L W WP S) (T1 : 0 ≤ c ∧ 0 ≤ u ∧ u ≤ 41 ∧ t_km u = tk (t_b V) n c.toNat ∧ s = t_s (t_b V) n c.toNat) (C0 : 0 ≤ u - 21) (C1 : 0 ≤ 21 - u) : (True) ∧ (((L = (20 : Int) → q_res (t_b V) n 2 s) ∧ (L < (20 : Int) → q_go (t_b V) n c s)) ∧ True) := by
  have U0 := T0.2
  have T0 := T0.1
  have hu := t_km_alt T1.2.1 T1.2.2.1
  exact ⟨trivial, ⟨fun h => c_res T0 T1.2.2.2.1.symm T1.2.2.2.2.symm (f := 2) (by first | (rw [a_cl_0]; omega) | (rw [a_cl_1 (by omega) (by omega)]; unfold a_one; omega) | (rw [a_cl_e0 (by omega)]; omega) | (rw [a_cl_e1 (by omega), if_neg (by rw [a_p_no (by omega)]; decide), if_pos (by omega)]; omega) | (rw [a_cl_e1 (by omega), if_neg (by rw [a_p_no (by omega)]; decide), if_neg (by omega)]; unfold a_x; omega) | (rw [a_cl_if (by omega) (by omega) (by omega)]; omega)) (Or.inr rfl), fun h => c_go T0 T1.2.2.2.1.symm T1.2.2.2.2.symm (by first | (rw [a_cl_0]; omega) | (rw [a_cl_1 (by omega) (by omega)]; unfold a_one; omega) | (rw [a_cl_e0 (by omega)]; omega) | (rw [a_cl_e1 (by omega), if_pos (a_p_iff.mpr (by omega))]) | (rw [a_cl_e1 (by omega), if_neg (by rw [a_p_no (by omega)]; decide), if_pos (by omega)]; omega) | (rw [a_cl_e1 (by omega), if_neg (by rw [a_p_no (by omega)]; decide), if_neg (by omega)]; unfold a_x; omega) | (rw [a_cl_if (by omega) (by omega) (by omega)]; omega))⟩, trivial⟩
theorem k_rfrA {V : zVw} {n c h k s : Int} (T0 : (h = k → q_res (t_b V) n 2 s) ∧ (h < k → q_go (t_b V) n c s)) (C0 : 0 ≤ h - k) (C1 : 0 ≤ k - h) : (True) ∧ (q_res (t_b V) n (2 : Int) s ∧ True) := by
  exact ⟨trivial, T0.1 (by omega), trivial⟩
theorem k_rfrB {V : zVw} {n c h k s : Int} (T0 : (h = k → q_res (t_b V) n 2 s) ∧ (h < k → q_go (t_b V) n c s)) (C0 : 0 ≤ k - h - 1) : (True) ∧ (q_go (t_b V) n c s ∧ True) := by
  exact ⟨trivial, T0.2 (by omega), trivial⟩
theorem k_noo_a {V : zVw} {c u : Int} (C0 : 0 ≤ 5 - u) (F0 : (0 : Int) ≤ c ∧ (c : Int) < j_len 50 ∧ V 50 (c) = u) : (True) ∧ (u ≠ 6 ∧ True) := by
  refine ⟨trivial, ?_, trivial⟩
  omega
theorem k_noo_b {V : zVw} {c u : Int} (C0 : 0 ≤ u - 7) (F0 : (0 : Int) ≤ c ∧ (c : Int) < j_len 50 ∧ V 50 (c) = u) : (True) ∧ (u ≠ 6 ∧ True) := by
  refine ⟨trivial, ?_, trivial⟩
  omega
theorem k_noo6 {V : zVw} {c u : Int} (T0 : u ≠ 6) (F0 : (0 : Int) ≤ c ∧ (c : Int) < j_len 50 ∧ V 50 (c) = u) : ((0 ≤ 5 - u ∧ True) ∧ (True)) ∨ ((0 ≤ u - 7 ∧ True) ∧ (True)) := by
  simp only [and_true]
  omega
theorem k_srun {V : zVw} {n c H L W WP S : Int} (T0 : q_run2 (t_b V) n c (0 : Int) (0 : Int) (0 : Int) H L W WP S) : (0 ≤ c - S ∧ 0 ≤ S ∧ True) ∧ (True) := by
  have U0 := T0.2
  have T0 := T0.1
  have h9 := c_Sr (b := t_b V) (n := n) (c := c.toNat)
  have h8 := T0.1
  exact ⟨⟨by omega, by omega, trivial⟩, trivial⟩
theorem k_cpy0 {V : zVw} : (True) ∧ ((∀ i_ : Int, 0 ≤ i_ → i_ < (0 : Int) → V 49 i_ = V 48 i_) ∧ True) := by
  exact ⟨trivial, fun i h0 h1 => by omega, trivial⟩
theorem k_cpyS {V : zVw} {i b : Int} (T0 : ∀ i_ : Int, 0 ≤ i_ → i_ < i → V 49 i_ = V 48 i_) (C0 : 0 ≤ i) (F0 : (0 : Int) ≤ i ∧ (i : Int) < j_len 48 ∧ V 48 (i) = b) (F1 : (0 : Int) ≤ i ∧ (i : Int) < j_len 49 ∧ V 49 (i) = b) : (True) ∧ ((∀ i_ : Int, 0 ≤ i_ → i_ < (i + 1) → V 49 i_ = V 48 i_) ∧ True) := by
  refine ⟨trivial, fun j h0 h1 => ?_, trivial⟩
  by_cases c9 : j < i
  · exact T0 j h0 c9
  · have e9 : j = i := by omega
    rw [e9, F0.2.2, F1.2.2]
theorem k_txt {V : zVw} {n i : Int} (T0 : ∀ i_ : Int, 0 ≤ i_ → i_ < n → V 13 i_ = V 48 i_) (T1 : ∀ i_ : Int, 0 ≤ i_ → i_ < i → V 49 i_ = V 48 i_) (C0 : 0 ≤ i - n) : (True) ∧ ((∀ i_ : Int, 0 ≤ i_ → i_ < n → V 49 i_ = V 13 i_) ∧ True) := by
  exact ⟨trivial, fun j h0 h1 => by rw [T1 j h0 (by omega), T0 j h0 h1], trivial⟩
theorem k_mfin9 {V : zVw} {n f p q : Int} (T0 : q_res (t_b V) n f p) (C0 : 0 ≤ f) (C1 : 0 ≤ -f) (C2 : 0 ≤ q + 1) (C3 : 0 ≤ -q - 1) : (True) ∧ (q_fin (t_b V) n (0 : Int) q ∧ True) := by
  have hf : f = 0 := by omega
  subst hf
  refine ⟨trivial, ⟨p, T0, ?_⟩, trivial⟩
  rw [if_pos rfl]
  omega
theorem k_w4 {V : zVw} {d w u0 u1 u2 v0 v1 v2 v3 u3 : Int} (T0 : (mOP 106 (Int32.ofInt w) (Int32.ofInt (24 : Int))).toInt = u0) (T1 : (mOP 109 (Int32.ofInt u0) (Int32.ofInt (0 : Int))).toInt = v0) (T2 : (mOP 106 (Int32.ofInt w) (Int32.ofInt (16 : Int))).toInt = u1) (T3 : (mOP 109 (Int32.ofInt u1) (Int32.ofInt (0 : Int))).toInt = v1) (T4 : (mOP 106 (Int32.ofInt w) (Int32.ofInt (8 : Int))).toInt = u2) (T5 : (mOP 109 (Int32.ofInt u2) (Int32.ofInt (0 : Int))).toInt = v2) (T6 : (mOP 106 (Int32.ofInt w) (Int32.ofInt (0 : Int))).toInt = u3) (T7 : (mOP 109 (Int32.ofInt u3) (Int32.ofInt (0 : Int))).toInt = v3) (C0 : 0 ≤ d - 4) (F0 : (0 : Int) ≤ d - 4 ∧ (d - 4 : Int) < j_len 13 ∧ V 13 (d - 4) = v0) (F1 : (0 : Int) ≤ d - 3 ∧ (d - 3 : Int) < j_len 13 ∧ V 13 (d - 3) = v1) (F2 : (0 : Int) ≤ d - 2 ∧ (d - 2 : Int) < j_len 13 ∧ V 13 (d - 2) = v2) (F3 : (0 : Int) ≤ d - 1 ∧ (d - 1 : Int) < j_len 13 ∧ V 13 (d - 1) = v3) : (True) ∧ ((0 ≤ (d - 4) ∧ d = (d - 4) + 4 ∧ ∀ i_ : Nat, i_ < 4 → V 13 ((d - 4) + i_) = t_w4 w i_) ∧ True) := by
  refine ⟨trivial, ⟨by omega, by omega, fun i hi => ?_⟩, trivial⟩
  have hc : i = 0 ∨ i = 1 ∨ i = 2 ∨ i = 3 := by omega
  rcases hc with rfl | rfl | rfl | rfl
  · rw [show d - 4 + ((0 : Nat) : Int) = d - 4 by omega, F0.2.2]
    exact w4_x (k := 0) (by omega) T0 T1
  · rw [show d - 4 + ((1 : Nat) : Int) = d - 3 by omega, F1.2.2]
    exact w4_x (k := 1) (by omega) T2 T3
  · rw [show d - 4 + ((2 : Nat) : Int) = d - 2 by omega, F2.2.2]
    exact w4_x (k := 2) (by omega) T4 T5
  · rw [show d - 4 + ((3 : Nat) : Int) = d - 1 by omega, F3.2.2]
    exact w4_x (k := 3) (by omega) T6 T7
theorem k_w4m {V : zVw} {d w u0 u1 u2 v0 v1 v2 v3 : Int} (T0 : (mOP 105 (Int32.ofInt w) (Int32.ofInt (24 : Int))).toInt = u0) (T1 : (mOP 109 (Int32.ofInt u0) (Int32.ofInt (0 : Int))).toInt = v0) (T2 : (mOP 105 (Int32.ofInt w) (Int32.ofInt (16 : Int))).toInt = u1) (T3 : (mOP 109 (Int32.ofInt u1) (Int32.ofInt (0 : Int))).toInt = v1) (T4 : (mOP 105 (Int32.ofInt w) (Int32.ofInt (8 : Int))).toInt = u2) (T5 : (mOP 109 (Int32.ofInt u2) (Int32.ofInt (0 : Int))).toInt = v2) (T6 : (mOP 109 (Int32.ofInt w) (Int32.ofInt (0 : Int))).toInt = v3) (C0 : 0 ≤ d - 4) (F0 : (0 : Int) ≤ d - 4 ∧ (d - 4 : Int) < j_len 48 ∧ V 48 (d - 4) = v0) (F1 : (0 : Int) ≤ d - 3 ∧ (d - 3 : Int) < j_len 48 ∧ V 48 (d - 3) = v1) (F2 : (0 : Int) ≤ d - 2 ∧ (d - 2 : Int) < j_len 48 ∧ V 48 (d - 2) = v2) (F3 : (0 : Int) ≤ d - 1 ∧ (d - 1 : Int) < j_len 48 ∧ V 48 (d - 1) = v3) : (True) ∧ ((0 ≤ (d - 4) ∧ d = (d - 4) + 4 ∧ ∀ i_ : Nat, i_ < 4 → V 48 ((d - 4) + i_) = t_w4 w i_) ∧ True) := by
  refine ⟨trivial, ⟨by omega, by omega, fun i hi => ?_⟩, trivial⟩
  have hc : i = 0 ∨ i = 1 ∨ i = 2 ∨ i = 3 := by omega
  rcases hc with rfl | rfl | rfl | rfl
  · rw [show d - 4 + ((0 : Nat) : Int) = d - 4 by omega, F0.2.2]
    exact w4_m (k := 0) (by omega) T0 T1
  · rw [show d - 4 + ((1 : Nat) : Int) = d - 3 by omega, F1.2.2]
    exact w4_m (k := 1) (by omega) T2 T3
  · rw [show d - 4 + ((2 : Nat) : Int) = d - 2 by omega, F2.2.2]
    exact w4_m (k := 2) (by omega) T4 T5
  · rw [show d - 4 + ((3 : Nat) : Int) = d - 1 by omega, F3.2.2]
    exact w4_last T6
theorem k_eqt20 {V : zVw} {d a b c2 e2 f : Int} (T0 : ∀ i_ : Int, 0 ≤ i_ → i_ < (d - 20) → V 13 i_ = V 48 i_) (T1 : 0 ≤ (d - 20) ∧ (d - 16) = (d - 20) + 4 ∧ ∀ i_ : Nat, i_ < 4 → V 13 ((d - 20) + i_) = t_w4 a i_) (T2 : 0 ≤ (d - 16) ∧ (d - 12) = (d - 16) + 4 ∧ ∀ i_ : Nat, i_ < 4 → V 13 ((d - 16) + i_) = t_w4 b i_) (T3 : 0 ≤ (d - 12) ∧ (d - 8) = (d - 12) + 4 ∧ ∀ i_ : Nat, i_ < 4 → V 13 ((d - 12) + i_) = t_w4 c2 i_) (T4 : 0 ≤ (d - 8) ∧ (d - 4) = (d - 8) + 4 ∧ ∀ i_ : Nat, i_ < 4 → V 13 ((d - 8) + i_) = t_w4 e2 i_) (T5 : 0 ≤ (d - 4) ∧ d = (d - 4) + 4 ∧ ∀ i_ : Nat, i_ < 4 → V 13 ((d - 4) + i_) = t_w4 f i_) (T6 : 0 ≤ (d - 20) ∧ (d - 16) = (d - 20) + 4 ∧ ∀ i_ : Nat, i_ < 4 → V 48 ((d - 20) + i_) = t_w4 a i_) (T7 : 0 ≤ (d - 16) ∧ (d - 12) = (d - 16) + 4 ∧ ∀ i_ : Nat, i_ < 4 → V 48 ((d - 16) + i_) = t_w4 b i_) (T8 : 0 ≤ (d - 12) ∧ (d - 8) = (d - 12) + 4 ∧ ∀ i_ : Nat, i_ < 4 → V 48 ((d - 12) + i_) = t_w4 c2 i_) (T9 : 0 ≤ (d - 8) ∧ (d - 4) = (d - 8) + 4 ∧ ∀ i_ : Nat, i_ < 4 → V 48 ((d - 8) + i_) = t_w4 e2 i_) (T10 : 0 ≤ (d - 4) ∧ d = (d - 4) + 4 ∧ ∀ i_ : Nat, i_ < 4 → V 48 ((d - 4) + i_) = t_w4 f i_) (C0 : 0 ≤ d - 20) : (True) ∧ ((∀ i_ : Int, 0 ≤ i_ → i_ < d → V 13 i_ = V 48 i_) ∧ True) := by
  refine ⟨trivial, fun j h0 h1 => ?_, trivial⟩
  by_cases c0 : j < d - 20
  · exact T0 j h0 c0
  by_cases c1 : j < d - 16
  · obtain ⟨i, e9⟩ : ∃ i : Nat, j = d - 20 + i := ⟨(j - (d - 20)).toNat, by omega⟩
    rw [e9, T1.2.2 i (by omega), T6.2.2 i (by omega)]
  by_cases c2 : j < d - 12
  · obtain ⟨i, e9⟩ : ∃ i : Nat, j = d - 16 + i := ⟨(j - (d - 16)).toNat, by omega⟩
    rw [e9, T2.2.2 i (by omega), T7.2.2 i (by omega)]
  by_cases c3 : j < d - 8
  · obtain ⟨i, e9⟩ : ∃ i : Nat, j = d - 12 + i := ⟨(j - (d - 12)).toNat, by omega⟩
    rw [e9, T3.2.2 i (by omega), T8.2.2 i (by omega)]
  by_cases c4 : j < d - 4
  · obtain ⟨i, e9⟩ : ∃ i : Nat, j = d - 8 + i := ⟨(j - (d - 8)).toNat, by omega⟩
    rw [e9, T4.2.2 i (by omega), T9.2.2 i (by omega)]
  have c5 : j < d := h1
  obtain ⟨i, e9⟩ : ∃ i : Nat, j = d - 4 + i := ⟨(j - (d - 4)).toNat, by omega⟩
  rw [e9, T5.2.2 i (by omega), T10.2.2 i (by omega)]
theorem k_eqtLe {V : zVw} {n d : Int} (T0 : ∀ i_ : Int, 0 ≤ i_ → i_ < n → V 13 i_ = V 48 i_) (C0 : 0 ≤ n - d) (C1 : 0 ≤ d) : (True) ∧ ((∀ i_ : Int, 0 ≤ i_ → i_ < d → V 13 i_ = V 48 i_) ∧ True) := by
  exact ⟨trivial, fun j h0 h1 => T0 j h0 (by omega), trivial⟩
theorem k_eqt0 {V : zVw} {d : Int} (C0 : 0 ≤ d) (C1 : 0 ≤ -d) : (True) ∧ ((∀ i_ : Int, 0 ≤ i_ → i_ < d → V 13 i_ = V 48 i_) ∧ True) := by
  exact ⟨trivial, fun j h0 h1 => by omega, trivial⟩
theorem k_fineq2 {V : zVw} {n f q g r : Int} (T0 : q_fin (t_b V) n f q) (T1 : q_fin (t_b V) n g r) : (0 ≤ f - g ∧ 0 ≤ g - f ∧ 0 ≤ q - r ∧ 0 ≤ r - q ∧ True) ∧ (True) := by
  have h9 := c_finU T0 T1
  exact ⟨⟨by omega, by omega, by omega, by omega, trivial⟩, trivial⟩
theorem k_fll0 {V : zVw} {i : Int} (C0 : 0 ≤ -i) (C1 : 0 ≤ i) : (True) ∧ ((∀ k_ : Int, 0 ≤ k_ → k_ < i → V 98 k_ = 5) ∧ True) := by
  refine ⟨trivial, fun k_ h0 h1 => ?_, trivial⟩
  omega
theorem k_fllS {V : zVw} {i : Int} (T0 : ∀ k_ : Int, 0 ≤ k_ → k_ < i → V 98 k_ = 5) (C0 : 0 ≤ i) (F0 : (0 : Int) ≤ i ∧ (i : Int) < j_len 98 ∧ V 98 (i) = 5) : (True) ∧ ((∀ k_ : Int, 0 ≤ k_ → k_ < (i + 1) → V 98 k_ = 5) ∧ True) := by
  refine ⟨trivial, fun k_ h0 h1 => ?_, trivial⟩
  by_cases c9 : k_ < i
  · exact T0 k_ h0 c9
  · have e9 : k_ = i := by omega
    rw [e9]
    exact F0.2.2
theorem k_clk0 {V : zVw} {n : Int} (T0 : ∀ k_ : Int, 0 ≤ k_ → k_ < (36 : Int) → V 98 k_ = 5) (T1 : q_nms (t_b V) n (0 : Int) (0 : Int) (tx (t_b V) n) (V 97)) : (True) ∧ ((0 ≤ (0 : Int) ∧ q_66 fun a b => V 98 (6 * a + b) = a_lk (t_b V) n (0 : Int).toNat a b) ∧ True) := by
  refine ⟨trivial, ⟨by omega, fun a b a0 a1 b0 b1 => ?_⟩, trivial⟩
  dsimp only
  rw [T0 (6 * a + b) (by omega) (by omega)]
  rfl
theorem k_cld {V : zVw} {n c j : Int} (T0 : 0 ≤ c ∧ q_66 fun a b => V 98 (6 * a + b) = a_lk (t_b V) n c.toNat a b) : (True) ∧ ((0 ≤ c ∧ q_66 fun a b => 6 * a + b ≠ j → V 98 (6 * a + b) = a_lk (t_b V) n c.toNat a b) ∧ True) := by
  exact ⟨trivial, ⟨T0.1, fun a b a0 a1 b0 b1 _ => T0.2 a b a0 a1 b0 b1⟩, trivial⟩
theorem k_cl2 {V : zVw} {n c r q x k : Int} (T0 : 0 ≤ c ∧ q_66 fun a b => 6 * a + b ≠ (6 * r + q) → V 98 (6 * a + b) = a_lk (t_b V) n c.toNat a b) (F0 : (0 : Int) ≤ 6 * r + q ∧ (6 * r + q : Int) < j_len 98 ∧ V 98 (6 * r + q) = x) : (True) ∧ ((0 ≤ c ∧ (q_66 fun a b => 6 * a + b ≠ (6 * r + q) → 6 * a + b ≠ k → V 98 (6 * a + b) = a_lk (t_b V) n c.toNat a b) ∧ (0 ≤ (6 * r + q) → (6 * r + q) ≠ k → V 98 (6 * r + q) = x)) ∧ True) := by
  exact ⟨trivial, ⟨T0.1, fun a b a0 a1 b0 b1 h _ => T0.2 a b a0 a1 b0 b1 h, fun _ _ => F0.2.2⟩, trivial⟩
theorem k_cluA {V : zVw} {n c r q x : Int} (T0 : 0 ≤ c ∧ (q_66 fun a b => 6 * a + b ≠ (6 * r + q) → 6 * a + b ≠ (r + 6 * q) → V 98 (6 * a + b) = a_lk (t_b V) n c.toNat a b) ∧ (0 ≤ (6 * r + q) → (6 * r + q) ≠ (r + 6 * q) → V 98 (6 * r + q) = x)) (C0 : 0 ≤ r) (C1 : 0 ≤ q) (C2 : 0 ≤ 5 - r) (C3 : 0 ≤ 5 - q) (F0 : (0 : Int) ≤ r + 6 * q ∧ (r + 6 * q : Int) < j_len 98 ∧ V 98 (r + 6 * q) = x) : (True) ∧ ((0 ≤ c ∧ q_66 fun a b => V 98 (6 * a + b) = a_up (a_lk (t_b V) n c.toNat) r q x a b) ∧ True) := by
  refine ⟨trivial, ⟨T0.1, fun a b a0 a1 b0 b1 => ?_⟩, trivial⟩
  dsimp only
  have h9 := T0.2.2
  by_cases g1 : (a = q ∧ b = r)
  · rw [a_up_at (by omega) (by omega) (Or.inr g1)]
    obtain ⟨rfl, rfl⟩ := g1
    first | exact F0.2.2 | (rw [show 6 * a + b = b + 6 * a by omega]; exact F0.2.2) | (rw [show 6 * q + r = r + 6 * q by omega]; exact F0.2.2)
  · by_cases g2 : (a = r ∧ b = q)
    · rw [a_up_at (by omega) (by omega) (Or.inl g2)]
      have h8 := h9 (by omega) (by omega)
      rw [show 6 * a + b = 6 * r + q by omega]
      exact h8
    · rw [a_up_off (by omega)]
      exact T0.2.1 a b a0 a1 b0 b1 (by omega) (by omega)
theorem k_cluB {V : zVw} {n c r q x : Int} (T0 : 0 ≤ c ∧ q_66 fun a b => V 98 (6 * a + b) = a_lk (t_b V) n c.toNat a b) (C0 : 0 ≤ -r - 1) : (True) ∧ ((0 ≤ c ∧ q_66 fun a b => V 98 (6 * a + b) = a_up (a_lk (t_b V) n c.toNat) r q x a b) ∧ True) := by
  refine ⟨trivial, ⟨T0.1, fun a b a0 a1 b0 b1 => ?_⟩, trivial⟩
  dsimp only
  rw [a_up_no (by omega)]
  exact T0.2 a b a0 a1 b0 b1
theorem k_cluC {V : zVw} {n c r q x : Int} (T0 : 0 ≤ c ∧ q_66 fun a b => V 98 (6 * a + b) = a_lk (t_b V) n c.toNat a b) (C0 : 0 ≤ r - 6) : (True) ∧ ((0 ≤ c ∧ q_66 fun a b => V 98 (6 * a + b) = a_up (a_lk (t_b V) n c.toNat) r q x a b) ∧ True) := by
  refine ⟨trivial, ⟨T0.1, fun a b a0 a1 b0 b1 => ?_⟩, trivial⟩
  dsimp only
  rw [a_up_no (by omega)]
  exact T0.2 a b a0 a1 b0 b1
theorem k_cluD {V : zVw} {n c r q x : Int} (T0 : 0 ≤ c ∧ q_66 fun a b => V 98 (6 * a + b) = a_lk (t_b V) n c.toNat a b) (C0 : 0 ≤ -q - 1) : (True) ∧ ((0 ≤ c ∧ q_66 fun a b => V 98 (6 * a + b) = a_up (a_lk (t_b V) n c.toNat) r q x a b) ∧ True) := by
  refine ⟨trivial, ⟨T0.1, fun a b a0 a1 b0 b1 => ?_⟩, trivial⟩
  dsimp only
  rw [a_up_no (by omega)]
  exact T0.2 a b a0 a1 b0 b1
theorem k_cluE {V : zVw} {n c r q x : Int} (T0 : 0 ≤ c ∧ q_66 fun a b => V 98 (6 * a + b) = a_lk (t_b V) n c.toNat a b) (C0 : 0 ≤ q - 6) : (True) ∧ ((0 ≤ c ∧ q_66 fun a b => V 98 (6 * a + b) = a_up (a_lk (t_b V) n c.toNat) r q x a b) ∧ True) := by
  refine ⟨trivial, ⟨T0.1, fun a b a0 a1 b0 b1 => ?_⟩, trivial⟩
  dsimp only
  rw [a_up_no (by omega)]
  exact T0.2 a b a0 a1 b0 b1
theorem k_mtic {V : zVw} {n d s v : Int} (T0 : q_tok (t_b V) n (d - 1) (3 : Int) s v) (C0 : 0 ≤ v) (C1 : 0 ≤ 9999 - v) : (True) ∧ ((tk (t_b V) n (d - 1).toNat = 3 ∧ v = tx (t_b V) n (d - 1).toNat) ∧ True) := by
  exact ⟨trivial, ⟨T0.2.1.symm, T0.2.2.2 (Or.inr rfl)⟩, trivial⟩
theorem k_clkM {V : zVw} {n c d st mo op H L W WP H2 st2 mo2 op2 W2 P2 S S2 : Int} (T0 : 0 ≤ c ∧ q_66 fun a b => V 98 (6 * a + b) = a_lk (t_b V) n c.toNat a b) (T1 : q_run2 (t_b V) n c st2 mo2 op2 H2 L W2 P2 S) (T2 : q_run2 (t_b V) n d st mo op H L W WP S2) (C0 : 0 ≤ d - c) : (True) ∧ ((0 ≤ d ∧ q_66 fun a b => V 98 (6 * a + b) = a_lk (t_b V) n d.toNat a b) ∧ True) := by
  have U1 := T1.2
  have T1 := T1.1
  have U2 := T2.2
  have T2 := T2.1
  have hc := T1.1
  refine ⟨trivial, ⟨by omega, fun a b a0 a1 b0 b1 => ?_⟩, trivial⟩
  dsimp only
  rw [c_lkM T1 T2 (by omega)]
  exact T0.2 a b a0 a1 b0 b1
theorem k_clkS {V : zVw} {n c d H L W WP s v r q x H2 st2 mo2 op2 W2 P2 W5 P5 W6 P6 S S2 S3 S4 : Int} (T0 : 0 ≤ c ∧ q_66 fun a b => V 98 (6 * a + b) = a_up (a_lk (t_b V) n c.toNat) r q x a b) (T1 : q_run2 (t_b V) n c st2 mo2 op2 H2 L W2 P2 S) (T2 : q_run2 (t_b V) n (d - 1) (8 : Int) (0 : Int) (0 : Int) H L W WP S2) (T3 : q_run2 (t_b V) n (d - 4) (5 : Int) (0 : Int) (0 : Int) H L W5 P5 S3) (T4 : q_run2 (t_b V) n (d - 3) (6 : Int) (0 : Int) (0 : Int) H L W6 P6 S4) (T5 : q_tok (t_b V) n (d - 1) (59 : Int) s v) (T6 : q_fnd (t_b V) n (d - 4) r) (T7 : q_fnd (t_b V) n (d - 3) q) (T8 : tk (t_b V) n (d - 2).toNat = 3 ∧ x = tx (t_b V) n (d - 2).toNat) (C0 : 0 ≤ 400 - d) (C1 : 0 ≤ d - c - 1) (C2 : 0 ≤ 19 - L) : (True) ∧ ((0 ≤ d ∧ q_66 fun a b => V 98 (6 * a + b) = a_lk (t_b V) n d.toNat a b) ∧ True) := by
  have U1 := T1.2
  have T1 := T1.1
  have U2 := T2.2
  have T2 := T2.1
  have U3 := T3.2
  have T3 := T3.1
  have U4 := T4.2
  have T4 := T4.1
  have hc := T1.1
  refine ⟨trivial, ⟨by omega, fun a b a0 a1 b0 b1 => ?_⟩, trivial⟩
  dsimp only
  rw [c_lkS T2 T3 T4 T5.2.1.symm T6 T7 T8.2, c_lkM T1 T2 (by omega)]
  exact T0.2 a b a0 a1 b0 b1
theorem k_fck {V : zVw} {n c H L W WP s v S : Int} (T0 : 0 ≤ c ∧ q_66 fun a b => V 98 (6 * a + b) = a_lk (t_b V) n c.toNat a b) (T1 : q_run2 (t_b V) n c (0 : Int) (0 : Int) (0 : Int) H L W WP S) (T2 : q_tok (t_b V) n c (0 : Int) s v) : (True) ∧ ((∃ c : Nat, q_end (t_b V) n c ∧ q_66 fun a b => V 98 (6 * a + b) = a_lk (t_b V) n c a b) ∧ True) := by
  have U1 := T1.2
  have T1 := T1.1
  exact ⟨trivial, ⟨c.toNat, ⟨by obtain ⟨-, Q, e, -⟩ := T1; exact ⟨Q, e⟩, T2.2.1.symm⟩, T0.2⟩, trivial⟩
theorem k_fih {V : zVw} {n c H L W WP s v S : Int} (T0 : q_run2 (t_b V) n c (0 : Int) (0 : Int) (0 : Int) H L W WP S) (T1 : q_tok (t_b V) n c (0 : Int) s v) : (True) ∧ (q_fih (t_b V) n H ∧ True) := by
  have U0 := T0.2
  have T0 := T0.1
  obtain ⟨-, Q, e9, -, -, -, g9, -⟩ := T0
  exact ⟨trivial, ⟨c.toNat, Q, e9, T1.2.1.symm, g9⟩, trivial⟩
theorem k_flm0 {V : zVw} {s : Int} : (True) ∧ ((∀ k_ : Int, 0 ≤ k_ → 36 * s ≤ k_ → k_ < (36 * s) → V 60 k_ = 5) ∧ True) := by
  refine ⟨trivial, fun k_ h0 h1 h2 => ?_, trivial⟩
  omega
theorem k_flmS {V : zVw} {s k : Int} (T0 : ∀ k_ : Int, 0 ≤ k_ → 36 * s ≤ k_ → k_ < (36 * s + k) → V 60 k_ = 5) (C0 : 0 ≤ s) (C1 : 0 ≤ k) (F0 : (0 : Int) ≤ 36 * s + k ∧ (36 * s + k : Int) < j_len 60 ∧ V 60 (36 * s + k) = 5) : (True) ∧ ((∀ k_ : Int, 0 ≤ k_ → 36 * s ≤ k_ → k_ < (36 * s + k + 1) → V 60 k_ = 5) ∧ True) := by
  refine ⟨trivial, fun k_ h0 h1 h2 => ?_, trivial⟩
  by_cases c9 : k_ < 36 * s + k
  · exact T0 k_ h0 h1 c9
  · have e9 : k_ = 36 * s + k := by omega
    rw [e9]
    exact F0.2.2
