noncomputable section
/-! ===== the lemmas as data, by program ===== -/
def lm_314p : zS := ((lm_137pi_0 (lm_137pi_1 [])), [(12, false)], [(400, [(1, (-1))]), ((-200), [(2, 1)]), (0, [(3, 1)])], [], [], [(0, (false, 11, 0, []), 0, 0, 0, [(1, 1)])], [(40, [(0, [(0, 1)]), ((-1), [(1, 1)]), (0, [(2, 1)]), (1, []), (0, [(3, 1)]), (0, [(4, 1)]), (0, [(5, 1)]), (0, [(6, 1)]), (0, [(7, 1)]), (0, [(10, 1)])]), (36, [(0, [(0, 1)]), ((-1), [(1, 1)]), (43, []), (0, [(8, 1)]), (0, [(9, 1)])])])
def lm_314 : zLem := (lm_314p, [([((-2147483648), 2147483647), ((-2147483648), 2147483647), ((-2147483648), 2147483647), ((-2147483648), 2147483647), ((-2147483648), 2147483647), ((-2147483648), 2147483647), ((-2147483648), 2147483647), ((-2147483648), 2147483647), ((-2147483648), 2147483647), ((-9223372036854775808), 9223372036854775807), ((-2147483648), 2147483647)], [(12, false)], [], [], [], [], [(40, [(0, [(0, 1)]), (0, [(1, 1)]), (0, [(2, 1)]), (0, []), (0, [(3, 1)]), (0, [(4, 1)]), (0, [(5, 1)]), (0, [(6, 1)]), (0, [(7, 1)]), (0, [(10, 1)])])])])
theorem lk_314 : l_core lm_314 := by
  first
  | skip
    intro v x h
    have K := k_s_e1p (V := v) (n := x 0) (d := x 1) (st := x 2) (op := x 3) (H := x 4) (L := x 5) (W := x 6) (WP := x 7) (s := x 8) (v := x 9) (S := x 10) (l_c10 (fun w0 w1 w2 w3 w4 w5 w6 w7 w8 w9 : Int => q_run2 (t_b v) w0 w1 w2 w3 w4 w5 w6 w7 w8 w9) (l_e1 x 0) (l_q2 1 x 1) (l_e1 x 2) (l_e0 x (1)) (l_e1 x 3) (l_e1 x 4) (l_e1 x 5) (l_e1 x 6) (l_e1 x 7) (l_e1 x 10) (h.2.2.2.1)) (l_c5 (fun w0 w1 w2 w3 w4 : Int => q_tok (t_b v) w0 w1 w2 w3 w4) (l_e1 x 0) (l_q2 1 x 1) (l_e0 x (43)) (l_e1 x 8) (l_e1 x 9) (h.2.2.2.2.1)) (l_cc (l_q1 400 x 1) (h.2.1.1)) (l_cc (l_q2 200 x 2) (h.2.1.2.1)) (l_cc (l_e1 x 3) (h.2.1.2.2.1))
    refine l_outH rfl (And.intro h.1 ?_)
    exact l_o10 (fun w0 w1 w2 w3 w4 w5 w6 w7 w8 w9 : Int => (True) ∧ (q_run2 (t_b v) w0 w1 w2 w3 w4 w5 w6 w7 w8 w9 ∧ True)) (l_e1 x 0) (l_e1 x 1) (l_e1 x 2) (l_e0 x (0)) (l_e1 x 3) (l_e1 x 4) (l_e1 x 5) (l_e1 x 6) (l_e1 x 7) (l_e1 x 10) K
  | skip
    intro v x h
    have C0 : (0 : Int) ≤ 400 - x 1 := l_cc (a := y_ev x (400, [(1, (-1))])) (by show ((400) : Int) + ((-1) * x 1 + 0) = 400 - x 1; omega) (h.2.1.1)
    have C1 : (0 : Int) ≤ x 2 - 200 := l_cc (a := y_ev x ((-200), [(2, 1)])) (by show ((-200) : Int) + ((1) * x 2 + 0) = x 2 - 200; omega) (h.2.1.2.1)
    have C2 : (0 : Int) ≤ x 3 := l_cc (a := y_ev x (0, [(3, 1)])) (l_e1 _ _) (h.2.1.2.2.1)
    have E0 : y_ev x (0, [(0, 1)]) = x 0 := (l_e1 _ _)
    have E1 : y_ev x ((-1), [(1, 1)]) = x 1 - 1 := (by show ((-1) : Int) + ((1) * x 1 + 0) = x 1 - 1; omega)
    have E2 : y_ev x (0, [(2, 1)]) = x 2 := (l_e1 _ _)
    have E3 : y_ev x (1, []) = 1 := (l_e0 _ _)
    have E4 : y_ev x (0, [(3, 1)]) = x 3 := (l_e1 _ _)
    have E5 : y_ev x (0, [(4, 1)]) = x 4 := (l_e1 _ _)
    have E6 : y_ev x (0, [(5, 1)]) = x 5 := (l_e1 _ _)
    have E7 : y_ev x (0, [(6, 1)]) = x 6 := (l_e1 _ _)
    have E8 : y_ev x (0, [(7, 1)]) = x 7 := (l_e1 _ _)
    have E9 : y_ev x (0, [(10, 1)]) = x 10 := (l_e1 _ _)
    have E10 : y_ev x (43, []) = 43 := (l_e0 _ _)
    have E11 : y_ev x (0, [(8, 1)]) = x 8 := (l_e1 _ _)
    have E12 : y_ev x (0, [(9, 1)]) = x 9 := (l_e1 _ _)
    have T0 : q_run2 (t_b v) (y_ev x (0, [(0, 1)])) (y_ev x ((-1), [(1, 1)])) (y_ev x (0, [(2, 1)])) (y_ev x (1, [])) (y_ev x (0, [(3, 1)])) (y_ev x (0, [(4, 1)])) (y_ev x (0, [(5, 1)])) (y_ev x (0, [(6, 1)])) (y_ev x (0, [(7, 1)])) (y_ev x (0, [(10, 1)])) := h.2.2.2.1
    (try rw [E0] at T0); (try rw [E1] at T0); (try rw [E2] at T0); (try rw [E3] at T0); (try rw [E4] at T0); (try rw [E5] at T0); (try rw [E6] at T0); (try rw [E7] at T0); (try rw [E8] at T0); (try rw [E9] at T0)
    have T1 : q_tok (t_b v) (y_ev x (0, [(0, 1)])) (y_ev x ((-1), [(1, 1)])) (y_ev x (43, [])) (y_ev x (0, [(8, 1)])) (y_ev x (0, [(9, 1)])) := h.2.2.2.2.1
    (try rw [E0] at T1); (try rw [E1] at T1); (try rw [E10] at T1); (try rw [E11] at T1); (try rw [E12] at T1)
    have K := k_s_e1p (V := v) (n := x 0) (d := x 1) (st := x 2) (op := x 3) (H := x 4) (L := x 5) (W := x 6) (WP := x 7) (s := x 8) (v := x 9) (S := x 10) T0 T1 C0 C1 C2
    refine l_outH rfl (And.intro h.1 ?_)
    have O0 : y_ev x (0, [(0, 1)]) = x 0 := l_e1 _ _
    have O1 : y_ev x (0, [(1, 1)]) = x 1 := l_e1 _ _
    have O2 : y_ev x (0, [(2, 1)]) = x 2 := l_e1 _ _
    have O3 : y_ev x (0, []) = 0 := l_e0 _ _
    have O4 : y_ev x (0, [(3, 1)]) = x 3 := l_e1 _ _
    have O5 : y_ev x (0, [(4, 1)]) = x 4 := l_e1 _ _
    have O6 : y_ev x (0, [(5, 1)]) = x 5 := l_e1 _ _
    have O7 : y_ev x (0, [(6, 1)]) = x 6 := l_e1 _ _
    have O8 : y_ev x (0, [(7, 1)]) = x 7 := l_e1 _ _
    have O9 : y_ev x (0, [(10, 1)]) = x 10 := l_e1 _ _
    show (True) ∧ (q_run2 (t_b v) (y_ev x (0, [(0, 1)])) (y_ev x (0, [(1, 1)])) (y_ev x (0, [(2, 1)])) (y_ev x (0, [])) (y_ev x (0, [(3, 1)])) (y_ev x (0, [(4, 1)])) (y_ev x (0, [(5, 1)])) (y_ev x (0, [(6, 1)])) (y_ev x (0, [(7, 1)])) (y_ev x (0, [(10, 1)])) ∧ True)
    (try rw [O0]); (try rw [O1]); (try rw [O2]); (try rw [O3]); (try rw [O4]); (try rw [O5]); (try rw [O6]); (try rw [O7]); (try rw [O8]); (try rw [O9])
    exact K
def lm_316p : zS := ((lm_137pi_0 (lm_137pi_1 [])), [(12, false)], [(400, [(1, (-1))]), ((-200), [(2, 1)]), (0, [(3, 1)])], [], [], [(0, (false, 11, 0, []), 0, 0, 0, [(1, 1)])], [(40, [(0, [(0, 1)]), ((-1), [(1, 1)]), (0, [(2, 1)]), (1, []), (0, [(3, 1)]), (0, [(4, 1)]), (0, [(5, 1)]), (0, [(6, 1)]), (0, [(7, 1)]), (0, [(10, 1)])]), (36, [(0, [(0, 1)]), ((-1), [(1, 1)]), (45, []), (0, [(8, 1)]), (0, [(9, 1)])])])
def lm_316 : zLem := (lm_316p, [([((-2147483648), 2147483647), ((-2147483648), 2147483647), ((-2147483648), 2147483647), ((-2147483648), 2147483647), ((-2147483648), 2147483647), ((-2147483648), 2147483647), ((-2147483648), 2147483647), ((-2147483648), 2147483647), ((-2147483648), 2147483647), ((-9223372036854775808), 9223372036854775807), ((-2147483648), 2147483647)], [(12, false)], [], [], [], [], [(40, [(0, [(0, 1)]), (0, [(1, 1)]), (0, [(2, 1)]), (0, []), (0, [(3, 1)]), (0, [(4, 1)]), (0, [(5, 1)]), (0, [(6, 1)]), (0, [(7, 1)]), (0, [(10, 1)])])])])
theorem lk_316 : l_core lm_316 := by
  first
  | skip
    intro v x h
    have K := k_s_e1m (V := v) (n := x 0) (d := x 1) (st := x 2) (op := x 3) (H := x 4) (L := x 5) (W := x 6) (WP := x 7) (s := x 8) (v := x 9) (S := x 10) (l_c10 (fun w0 w1 w2 w3 w4 w5 w6 w7 w8 w9 : Int => q_run2 (t_b v) w0 w1 w2 w3 w4 w5 w6 w7 w8 w9) (l_e1 x 0) (l_q2 1 x 1) (l_e1 x 2) (l_e0 x (1)) (l_e1 x 3) (l_e1 x 4) (l_e1 x 5) (l_e1 x 6) (l_e1 x 7) (l_e1 x 10) (h.2.2.2.1)) (l_c5 (fun w0 w1 w2 w3 w4 : Int => q_tok (t_b v) w0 w1 w2 w3 w4) (l_e1 x 0) (l_q2 1 x 1) (l_e0 x (45)) (l_e1 x 8) (l_e1 x 9) (h.2.2.2.2.1)) (l_cc (l_q1 400 x 1) (h.2.1.1)) (l_cc (l_q2 200 x 2) (h.2.1.2.1)) (l_cc (l_e1 x 3) (h.2.1.2.2.1))
    refine l_outH rfl (And.intro h.1 ?_)
    exact l_o10 (fun w0 w1 w2 w3 w4 w5 w6 w7 w8 w9 : Int => (True) ∧ (q_run2 (t_b v) w0 w1 w2 w3 w4 w5 w6 w7 w8 w9 ∧ True)) (l_e1 x 0) (l_e1 x 1) (l_e1 x 2) (l_e0 x (0)) (l_e1 x 3) (l_e1 x 4) (l_e1 x 5) (l_e1 x 6) (l_e1 x 7) (l_e1 x 10) K
  | skip
    intro v x h
    have C0 : (0 : Int) ≤ 400 - x 1 := l_cc (a := y_ev x (400, [(1, (-1))])) (by show ((400) : Int) + ((-1) * x 1 + 0) = 400 - x 1; omega) (h.2.1.1)
    have C1 : (0 : Int) ≤ x 2 - 200 := l_cc (a := y_ev x ((-200), [(2, 1)])) (by show ((-200) : Int) + ((1) * x 2 + 0) = x 2 - 200; omega) (h.2.1.2.1)
    have C2 : (0 : Int) ≤ x 3 := l_cc (a := y_ev x (0, [(3, 1)])) (l_e1 _ _) (h.2.1.2.2.1)
    have E0 : y_ev x (0, [(0, 1)]) = x 0 := (l_e1 _ _)
    have E1 : y_ev x ((-1), [(1, 1)]) = x 1 - 1 := (by show ((-1) : Int) + ((1) * x 1 + 0) = x 1 - 1; omega)
    have E2 : y_ev x (0, [(2, 1)]) = x 2 := (l_e1 _ _)
    have E3 : y_ev x (1, []) = 1 := (l_e0 _ _)
    have E4 : y_ev x (0, [(3, 1)]) = x 3 := (l_e1 _ _)
    have E5 : y_ev x (0, [(4, 1)]) = x 4 := (l_e1 _ _)
    have E6 : y_ev x (0, [(5, 1)]) = x 5 := (l_e1 _ _)
    have E7 : y_ev x (0, [(6, 1)]) = x 6 := (l_e1 _ _)
    have E8 : y_ev x (0, [(7, 1)]) = x 7 := (l_e1 _ _)
    have E9 : y_ev x (0, [(10, 1)]) = x 10 := (l_e1 _ _)
    have E10 : y_ev x (45, []) = 45 := (l_e0 _ _)
    have E11 : y_ev x (0, [(8, 1)]) = x 8 := (l_e1 _ _)
    have E12 : y_ev x (0, [(9, 1)]) = x 9 := (l_e1 _ _)
    have T0 : q_run2 (t_b v) (y_ev x (0, [(0, 1)])) (y_ev x ((-1), [(1, 1)])) (y_ev x (0, [(2, 1)])) (y_ev x (1, [])) (y_ev x (0, [(3, 1)])) (y_ev x (0, [(4, 1)])) (y_ev x (0, [(5, 1)])) (y_ev x (0, [(6, 1)])) (y_ev x (0, [(7, 1)])) (y_ev x (0, [(10, 1)])) := h.2.2.2.1
    (try rw [E0] at T0); (try rw [E1] at T0); (try rw [E2] at T0); (try rw [E3] at T0); (try rw [E4] at T0); (try rw [E5] at T0); (try rw [E6] at T0); (try rw [E7] at T0); (try rw [E8] at T0); (try rw [E9] at T0)
    have T1 : q_tok (t_b v) (y_ev x (0, [(0, 1)])) (y_ev x ((-1), [(1, 1)])) (y_ev x (45, [])) (y_ev x (0, [(8, 1)])) (y_ev x (0, [(9, 1)])) := h.2.2.2.2.1
    (try rw [E0] at T1); (try rw [E1] at T1); (try rw [E10] at T1); (try rw [E11] at T1); (try rw [E12] at T1)
    have K := k_s_e1m (V := v) (n := x 0) (d := x 1) (st := x 2) (op := x 3) (H := x 4) (L := x 5) (W := x 6) (WP := x 7) (s := x 8) (v := x 9) (S := x 10) T0 T1 C0 C1 C2
    refine l_outH rfl (And.intro h.1 ?_)
    have O0 : y_ev x (0, [(0, 1)]) = x 0 := l_e1 _ _
    have O1 : y_ev x (0, [(1, 1)]) = x 1 := l_e1 _ _
    have O2 : y_ev x (0, [(2, 1)]) = x 2 := l_e1 _ _
    have O3 : y_ev x (0, []) = 0 := l_e0 _ _
    have O4 : y_ev x (0, [(3, 1)]) = x 3 := l_e1 _ _
    have O5 : y_ev x (0, [(4, 1)]) = x 4 := l_e1 _ _
    have O6 : y_ev x (0, [(5, 1)]) = x 5 := l_e1 _ _
    have O7 : y_ev x (0, [(6, 1)]) = x 6 := l_e1 _ _
    have O8 : y_ev x (0, [(7, 1)]) = x 7 := l_e1 _ _
    have O9 : y_ev x (0, [(10, 1)]) = x 10 := l_e1 _ _
    show (True) ∧ (q_run2 (t_b v) (y_ev x (0, [(0, 1)])) (y_ev x (0, [(1, 1)])) (y_ev x (0, [(2, 1)])) (y_ev x (0, [])) (y_ev x (0, [(3, 1)])) (y_ev x (0, [(4, 1)])) (y_ev x (0, [(5, 1)])) (y_ev x (0, [(6, 1)])) (y_ev x (0, [(7, 1)])) (y_ev x (0, [(10, 1)])) ∧ True)
    (try rw [O0]); (try rw [O1]); (try rw [O2]); (try rw [O3]); (try rw [O4]); (try rw [O5]); (try rw [O6]); (try rw [O7]); (try rw [O8]); (try rw [O9])
    exact K
def lm_318p : zS := ((lm_137pi_0 (lm_137pi_1 [])), [(12, false)], [(400, [(1, (-1))]), ((-200), [(2, 1)]), (0, [(3, 1)])], [], [], [(0, (false, 11, 0, []), 0, 0, 0, [(1, 1)])], [(40, [(0, [(0, 1)]), ((-1), [(1, 1)]), (0, [(2, 1)]), (1, []), (0, [(3, 1)]), (0, [(4, 1)]), (0, [(5, 1)]), (0, [(6, 1)]), (0, [(7, 1)]), (0, [(10, 1)])]), (36, [(0, [(0, 1)]), ((-1), [(1, 1)]), (42, []), (0, [(8, 1)]), (0, [(9, 1)])])])
def lm_318 : zLem := (lm_318p, [([((-2147483648), 2147483647), ((-2147483648), 2147483647), ((-2147483648), 2147483647), ((-2147483648), 2147483647), ((-2147483648), 2147483647), ((-2147483648), 2147483647), ((-2147483648), 2147483647), ((-2147483648), 2147483647), ((-2147483648), 2147483647), ((-9223372036854775808), 9223372036854775807), ((-2147483648), 2147483647)], [(12, false)], [], [], [], [], [(40, [(0, [(0, 1)]), (0, [(1, 1)]), (0, [(2, 1)]), (0, []), (0, [(3, 1)]), (0, [(4, 1)]), (0, [(5, 1)]), (0, [(6, 1)]), (0, [(7, 1)]), (0, [(10, 1)])])])])
theorem lk_318 : l_core lm_318 := by
  first
  | skip
    intro v x h
    have K := k_s_e1t (V := v) (n := x 0) (d := x 1) (st := x 2) (op := x 3) (H := x 4) (L := x 5) (W := x 6) (WP := x 7) (s := x 8) (v := x 9) (S := x 10) (l_c10 (fun w0 w1 w2 w3 w4 w5 w6 w7 w8 w9 : Int => q_run2 (t_b v) w0 w1 w2 w3 w4 w5 w6 w7 w8 w9) (l_e1 x 0) (l_q2 1 x 1) (l_e1 x 2) (l_e0 x (1)) (l_e1 x 3) (l_e1 x 4) (l_e1 x 5) (l_e1 x 6) (l_e1 x 7) (l_e1 x 10) (h.2.2.2.1)) (l_c5 (fun w0 w1 w2 w3 w4 : Int => q_tok (t_b v) w0 w1 w2 w3 w4) (l_e1 x 0) (l_q2 1 x 1) (l_e0 x (42)) (l_e1 x 8) (l_e1 x 9) (h.2.2.2.2.1)) (l_cc (l_q1 400 x 1) (h.2.1.1)) (l_cc (l_q2 200 x 2) (h.2.1.2.1)) (l_cc (l_e1 x 3) (h.2.1.2.2.1))
    refine l_outH rfl (And.intro h.1 ?_)
    exact l_o10 (fun w0 w1 w2 w3 w4 w5 w6 w7 w8 w9 : Int => (True) ∧ (q_run2 (t_b v) w0 w1 w2 w3 w4 w5 w6 w7 w8 w9 ∧ True)) (l_e1 x 0) (l_e1 x 1) (l_e1 x 2) (l_e0 x (0)) (l_e1 x 3) (l_e1 x 4) (l_e1 x 5) (l_e1 x 6) (l_e1 x 7) (l_e1 x 10) K
  | skip
    intro v x h
    have C0 : (0 : Int) ≤ 400 - x 1 := l_cc (a := y_ev x (400, [(1, (-1))])) (by show ((400) : Int) + ((-1) * x 1 + 0) = 400 - x 1; omega) (h.2.1.1)
    have C1 : (0 : Int) ≤ x 2 - 200 := l_cc (a := y_ev x ((-200), [(2, 1)])) (by show ((-200) : Int) + ((1) * x 2 + 0) = x 2 - 200; omega) (h.2.1.2.1)
    have C2 : (0 : Int) ≤ x 3 := l_cc (a := y_ev x (0, [(3, 1)])) (l_e1 _ _) (h.2.1.2.2.1)
    have E0 : y_ev x (0, [(0, 1)]) = x 0 := (l_e1 _ _)
    have E1 : y_ev x ((-1), [(1, 1)]) = x 1 - 1 := (by show ((-1) : Int) + ((1) * x 1 + 0) = x 1 - 1; omega)
    have E2 : y_ev x (0, [(2, 1)]) = x 2 := (l_e1 _ _)
    have E3 : y_ev x (1, []) = 1 := (l_e0 _ _)
    have E4 : y_ev x (0, [(3, 1)]) = x 3 := (l_e1 _ _)
    have E5 : y_ev x (0, [(4, 1)]) = x 4 := (l_e1 _ _)
    have E6 : y_ev x (0, [(5, 1)]) = x 5 := (l_e1 _ _)
    have E7 : y_ev x (0, [(6, 1)]) = x 6 := (l_e1 _ _)
    have E8 : y_ev x (0, [(7, 1)]) = x 7 := (l_e1 _ _)
    have E9 : y_ev x (0, [(10, 1)]) = x 10 := (l_e1 _ _)
    have E10 : y_ev x (42, []) = 42 := (l_e0 _ _)
    have E11 : y_ev x (0, [(8, 1)]) = x 8 := (l_e1 _ _)
    have E12 : y_ev x (0, [(9, 1)]) = x 9 := (l_e1 _ _)
    have T0 : q_run2 (t_b v) (y_ev x (0, [(0, 1)])) (y_ev x ((-1), [(1, 1)])) (y_ev x (0, [(2, 1)])) (y_ev x (1, [])) (y_ev x (0, [(3, 1)])) (y_ev x (0, [(4, 1)])) (y_ev x (0, [(5, 1)])) (y_ev x (0, [(6, 1)])) (y_ev x (0, [(7, 1)])) (y_ev x (0, [(10, 1)])) := h.2.2.2.1
    (try rw [E0] at T0); (try rw [E1] at T0); (try rw [E2] at T0); (try rw [E3] at T0); (try rw [E4] at T0); (try rw [E5] at T0); (try rw [E6] at T0); (try rw [E7] at T0); (try rw [E8] at T0); (try rw [E9] at T0)
    have T1 : q_tok (t_b v) (y_ev x (0, [(0, 1)])) (y_ev x ((-1), [(1, 1)])) (y_ev x (42, [])) (y_ev x (0, [(8, 1)])) (y_ev x (0, [(9, 1)])) := h.2.2.2.2.1
    (try rw [E0] at T1); (try rw [E1] at T1); (try rw [E10] at T1); (try rw [E11] at T1); (try rw [E12] at T1)
    have K := k_s_e1t (V := v) (n := x 0) (d := x 1) (st := x 2) (op := x 3) (H := x 4) (L := x 5) (W := x 6) (WP := x 7) (s := x 8) (v := x 9) (S := x 10) T0 T1 C0 C1 C2
    refine l_outH rfl (And.intro h.1 ?_)
    have O0 : y_ev x (0, [(0, 1)]) = x 0 := l_e1 _ _
    have O1 : y_ev x (0, [(1, 1)]) = x 1 := l_e1 _ _
    have O2 : y_ev x (0, [(2, 1)]) = x 2 := l_e1 _ _
    have O3 : y_ev x (0, []) = 0 := l_e0 _ _
    have O4 : y_ev x (0, [(3, 1)]) = x 3 := l_e1 _ _
    have O5 : y_ev x (0, [(4, 1)]) = x 4 := l_e1 _ _
    have O6 : y_ev x (0, [(5, 1)]) = x 5 := l_e1 _ _
    have O7 : y_ev x (0, [(6, 1)]) = x 6 := l_e1 _ _
    have O8 : y_ev x (0, [(7, 1)]) = x 7 := l_e1 _ _
    have O9 : y_ev x (0, [(10, 1)]) = x 10 := l_e1 _ _
    show (True) ∧ (q_run2 (t_b v) (y_ev x (0, [(0, 1)])) (y_ev x (0, [(1, 1)])) (y_ev x (0, [(2, 1)])) (y_ev x (0, [])) (y_ev x (0, [(3, 1)])) (y_ev x (0, [(4, 1)])) (y_ev x (0, [(5, 1)])) (y_ev x (0, [(6, 1)])) (y_ev x (0, [(7, 1)])) (y_ev x (0, [(10, 1)])) ∧ True)
    (try rw [O0]); (try rw [O1]); (try rw [O2]); (try rw [O3]); (try rw [O4]); (try rw [O5]); (try rw [O6]); (try rw [O7]); (try rw [O8]); (try rw [O9])
    exact K
def lm_320p : zS := ((lm_137pi_0 (lm_137pi_1 [])), [(12, false)], [(400, [(1, (-1))]), ((-200), [(2, 1)]), (0, [(3, 1)])], [], [], [(0, (false, 11, 0, []), 0, 0, 0, [(1, 1)])], [(40, [(0, [(0, 1)]), ((-1), [(1, 1)]), (0, [(2, 1)]), (1, []), (0, [(3, 1)]), (0, [(4, 1)]), (0, [(5, 1)]), (0, [(6, 1)]), (0, [(7, 1)]), (0, [(10, 1)])]), (36, [(0, [(0, 1)]), ((-1), [(1, 1)]), (47, []), (0, [(8, 1)]), (0, [(9, 1)])])])
def lm_320 : zLem := (lm_320p, [([((-2147483648), 2147483647), ((-2147483648), 2147483647), ((-2147483648), 2147483647), ((-2147483648), 2147483647), ((-2147483648), 2147483647), ((-2147483648), 2147483647), ((-2147483648), 2147483647), ((-2147483648), 2147483647), ((-2147483648), 2147483647), ((-9223372036854775808), 9223372036854775807), ((-2147483648), 2147483647)], [(12, false)], [], [], [], [], [(40, [(0, [(0, 1)]), (0, [(1, 1)]), (0, [(2, 1)]), (0, []), (0, [(3, 1)]), (0, [(4, 1)]), (0, [(5, 1)]), (0, [(6, 1)]), (0, [(7, 1)]), (0, [(10, 1)])])])])
theorem lk_320 : l_core lm_320 := by
  first
  | skip
    intro v x h
    have K := k_s_e1o (V := v) (n := x 0) (d := x 1) (st := x 2) (op := x 3) (H := x 4) (L := x 5) (W := x 6) (WP := x 7) (s := x 8) (v := x 9) (S := x 10) (l_c10 (fun w0 w1 w2 w3 w4 w5 w6 w7 w8 w9 : Int => q_run2 (t_b v) w0 w1 w2 w3 w4 w5 w6 w7 w8 w9) (l_e1 x 0) (l_q2 1 x 1) (l_e1 x 2) (l_e0 x (1)) (l_e1 x 3) (l_e1 x 4) (l_e1 x 5) (l_e1 x 6) (l_e1 x 7) (l_e1 x 10) (h.2.2.2.1)) (l_c5 (fun w0 w1 w2 w3 w4 : Int => q_tok (t_b v) w0 w1 w2 w3 w4) (l_e1 x 0) (l_q2 1 x 1) (l_e0 x (47)) (l_e1 x 8) (l_e1 x 9) (h.2.2.2.2.1)) (l_cc (l_q1 400 x 1) (h.2.1.1)) (l_cc (l_q2 200 x 2) (h.2.1.2.1)) (l_cc (l_e1 x 3) (h.2.1.2.2.1))
    refine l_outH rfl (And.intro h.1 ?_)
    exact l_o10 (fun w0 w1 w2 w3 w4 w5 w6 w7 w8 w9 : Int => (True) ∧ (q_run2 (t_b v) w0 w1 w2 w3 w4 w5 w6 w7 w8 w9 ∧ True)) (l_e1 x 0) (l_e1 x 1) (l_e1 x 2) (l_e0 x (0)) (l_e1 x 3) (l_e1 x 4) (l_e1 x 5) (l_e1 x 6) (l_e1 x 7) (l_e1 x 10) K
  | skip
    intro v x h
    have C0 : (0 : Int) ≤ 400 - x 1 := l_cc (a := y_ev x (400, [(1, (-1))])) (by show ((400) : Int) + ((-1) * x 1 + 0) = 400 - x 1; omega) (h.2.1.1)
    have C1 : (0 : Int) ≤ x 2 - 200 := l_cc (a := y_ev x ((-200), [(2, 1)])) (by show ((-200) : Int) + ((1) * x 2 + 0) = x 2 - 200; omega) (h.2.1.2.1)
    have C2 : (0 : Int) ≤ x 3 := l_cc (a := y_ev x (0, [(3, 1)])) (l_e1 _ _) (h.2.1.2.2.1)
    have E0 : y_ev x (0, [(0, 1)]) = x 0 := (l_e1 _ _)
    have E1 : y_ev x ((-1), [(1, 1)]) = x 1 - 1 := (by show ((-1) : Int) + ((1) * x 1 + 0) = x 1 - 1; omega)
    have E2 : y_ev x (0, [(2, 1)]) = x 2 := (l_e1 _ _)
    have E3 : y_ev x (1, []) = 1 := (l_e0 _ _)
    have E4 : y_ev x (0, [(3, 1)]) = x 3 := (l_e1 _ _)
    have E5 : y_ev x (0, [(4, 1)]) = x 4 := (l_e1 _ _)
    have E6 : y_ev x (0, [(5, 1)]) = x 5 := (l_e1 _ _)
    have E7 : y_ev x (0, [(6, 1)]) = x 6 := (l_e1 _ _)
    have E8 : y_ev x (0, [(7, 1)]) = x 7 := (l_e1 _ _)
    have E9 : y_ev x (0, [(10, 1)]) = x 10 := (l_e1 _ _)
    have E10 : y_ev x (47, []) = 47 := (l_e0 _ _)
    have E11 : y_ev x (0, [(8, 1)]) = x 8 := (l_e1 _ _)
    have E12 : y_ev x (0, [(9, 1)]) = x 9 := (l_e1 _ _)
    have T0 : q_run2 (t_b v) (y_ev x (0, [(0, 1)])) (y_ev x ((-1), [(1, 1)])) (y_ev x (0, [(2, 1)])) (y_ev x (1, [])) (y_ev x (0, [(3, 1)])) (y_ev x (0, [(4, 1)])) (y_ev x (0, [(5, 1)])) (y_ev x (0, [(6, 1)])) (y_ev x (0, [(7, 1)])) (y_ev x (0, [(10, 1)])) := h.2.2.2.1
    (try rw [E0] at T0); (try rw [E1] at T0); (try rw [E2] at T0); (try rw [E3] at T0); (try rw [E4] at T0); (try rw [E5] at T0); (try rw [E6] at T0); (try rw [E7] at T0); (try rw [E8] at T0); (try rw [E9] at T0)
    have T1 : q_tok (t_b v) (y_ev x (0, [(0, 1)])) (y_ev x ((-1), [(1, 1)])) (y_ev x (47, [])) (y_ev x (0, [(8, 1)])) (y_ev x (0, [(9, 1)])) := h.2.2.2.2.1
    (try rw [E0] at T1); (try rw [E1] at T1); (try rw [E10] at T1); (try rw [E11] at T1); (try rw [E12] at T1)
    have K := k_s_e1o (V := v) (n := x 0) (d := x 1) (st := x 2) (op := x 3) (H := x 4) (L := x 5) (W := x 6) (WP := x 7) (s := x 8) (v := x 9) (S := x 10) T0 T1 C0 C1 C2
    refine l_outH rfl (And.intro h.1 ?_)
    have O0 : y_ev x (0, [(0, 1)]) = x 0 := l_e1 _ _
    have O1 : y_ev x (0, [(1, 1)]) = x 1 := l_e1 _ _
    have O2 : y_ev x (0, [(2, 1)]) = x 2 := l_e1 _ _
    have O3 : y_ev x (0, []) = 0 := l_e0 _ _
    have O4 : y_ev x (0, [(3, 1)]) = x 3 := l_e1 _ _
    have O5 : y_ev x (0, [(4, 1)]) = x 4 := l_e1 _ _
    have O6 : y_ev x (0, [(5, 1)]) = x 5 := l_e1 _ _
    have O7 : y_ev x (0, [(6, 1)]) = x 6 := l_e1 _ _
    have O8 : y_ev x (0, [(7, 1)]) = x 7 := l_e1 _ _
    have O9 : y_ev x (0, [(10, 1)]) = x 10 := l_e1 _ _
    show (True) ∧ (q_run2 (t_b v) (y_ev x (0, [(0, 1)])) (y_ev x (0, [(1, 1)])) (y_ev x (0, [(2, 1)])) (y_ev x (0, [])) (y_ev x (0, [(3, 1)])) (y_ev x (0, [(4, 1)])) (y_ev x (0, [(5, 1)])) (y_ev x (0, [(6, 1)])) (y_ev x (0, [(7, 1)])) (y_ev x (0, [(10, 1)])) ∧ True)
    (try rw [O0]); (try rw [O1]); (try rw [O2]); (try rw [O3]); (try rw [O4]); (try rw [O5]); (try rw [O6]); (try rw [O7]); (try rw [O8]); (try rw [O9])
    exact K
def lm_322p : zS := ((lm_145pi_0 (lm_145pi_1 [])), [(12, false)], [(400, [(1, (-1))]), ((-200), [(2, 1)]), (5, [(3, (-1))]), (0, [(3, 1)]), ((-40), [(8, 1)]), (40, [(8, (-1))])], [], [], [(0, (false, 11, 0, []), 0, 0, 0, [(1, 1)])], [(40, [(0, [(0, 1)]), ((-1), [(1, 1)]), (0, [(2, 1)]), (0, []), (0, [(3, 1)]), (0, [(4, 1)]), (0, [(5, 1)]), (0, [(6, 1)]), (0, [(7, 1)]), (0, [(11, 1)])]), (36, [(0, [(0, 1)]), ((-1), [(1, 1)]), (0, [(8, 1)]), (0, [(9, 1)]), (0, [(10, 1)])])])
def lm_322 : zLem := (lm_322p, [([((-2147483648), 2147483647), ((-2147483648), 2147483647), ((-2147483648), 2147483647), ((-2147483648), 2147483647), ((-2147483648), 2147483647), ((-2147483648), 2147483647), ((-2147483648), 2147483647), ((-2147483648), 2147483647), ((-2147483648), 2147483647), ((-2147483648), 2147483647), ((-9223372036854775808), 9223372036854775807), ((-2147483648), 2147483647)], [(12, false)], [], [], [], [], [(40, [(0, [(0, 1)]), (0, [(1, 1)]), (0, [(2, 1)]), (0, []), (1, [(3, 1)]), (0, [(4, 1)]), (0, [(5, 1)]), (0, [(6, 1)]), (0, [(7, 1)]), (0, [(11, 1)])])])])
theorem lk_322 : l_core lm_322 := by
  first
  | skip
    intro v x h
    have K := k_s_e0o (V := v) (n := x 0) (d := x 1) (st := x 2) (op := x 3) (H := x 4) (L := x 5) (W := x 6) (WP := x 7) (kd := x 8) (s := x 9) (v := x 10) (S := x 11) (l_c10 (fun w0 w1 w2 w3 w4 w5 w6 w7 w8 w9 : Int => q_run2 (t_b v) w0 w1 w2 w3 w4 w5 w6 w7 w8 w9) (l_e1 x 0) (l_q2 1 x 1) (l_e1 x 2) (l_e0 x (0)) (l_e1 x 3) (l_e1 x 4) (l_e1 x 5) (l_e1 x 6) (l_e1 x 7) (l_e1 x 11) (h.2.2.2.1)) (l_c5 (fun w0 w1 w2 w3 w4 : Int => q_tok (t_b v) w0 w1 w2 w3 w4) (l_e1 x 0) (l_q2 1 x 1) (l_e1 x 8) (l_e1 x 9) (l_e1 x 10) (h.2.2.2.2.1)) (l_cc (l_q1 400 x 1) (h.2.1.1)) (l_cc (l_q2 200 x 2) (h.2.1.2.1)) (l_cc (l_q1 5 x 3) (h.2.1.2.2.1)) (l_cc (l_e1 x 3) (h.2.1.2.2.2.1)) (l_cc (l_q2 40 x 8) (h.2.1.2.2.2.2.1)) (l_cc (l_q1 40 x 8) (h.2.1.2.2.2.2.2.1))
    refine l_outH rfl (And.intro h.1 ?_)
    exact l_o10 (fun w0 w1 w2 w3 w4 w5 w6 w7 w8 w9 : Int => (True) ∧ (q_run2 (t_b v) w0 w1 w2 w3 w4 w5 w6 w7 w8 w9 ∧ True)) (l_e1 x 0) (l_e1 x 1) (l_e1 x 2) (l_e0 x (0)) (l_q3 1 x 3) (l_e1 x 4) (l_e1 x 5) (l_e1 x 6) (l_e1 x 7) (l_e1 x 11) K
  | skip
    intro v x h
    have C0 : (0 : Int) ≤ 400 - x 1 := l_cc (a := y_ev x (400, [(1, (-1))])) (by show ((400) : Int) + ((-1) * x 1 + 0) = 400 - x 1; omega) (h.2.1.1)
    have C1 : (0 : Int) ≤ x 2 - 200 := l_cc (a := y_ev x ((-200), [(2, 1)])) (by show ((-200) : Int) + ((1) * x 2 + 0) = x 2 - 200; omega) (h.2.1.2.1)
    have C2 : (0 : Int) ≤ 5 - x 3 := l_cc (a := y_ev x (5, [(3, (-1))])) (by show ((5) : Int) + ((-1) * x 3 + 0) = 5 - x 3; omega) (h.2.1.2.2.1)
    have C3 : (0 : Int) ≤ x 3 := l_cc (a := y_ev x (0, [(3, 1)])) (l_e1 _ _) (h.2.1.2.2.2.1)
    have C4 : (0 : Int) ≤ x 8 - 40 := l_cc (a := y_ev x ((-40), [(8, 1)])) (by show ((-40) : Int) + ((1) * x 8 + 0) = x 8 - 40; omega) (h.2.1.2.2.2.2.1)
    have C5 : (0 : Int) ≤ 40 - x 8 := l_cc (a := y_ev x (40, [(8, (-1))])) (by show ((40) : Int) + ((-1) * x 8 + 0) = 40 - x 8; omega) (h.2.1.2.2.2.2.2.1)
    have E0 : y_ev x (0, [(0, 1)]) = x 0 := (l_e1 _ _)
    have E1 : y_ev x ((-1), [(1, 1)]) = x 1 - 1 := (by show ((-1) : Int) + ((1) * x 1 + 0) = x 1 - 1; omega)
    have E2 : y_ev x (0, [(2, 1)]) = x 2 := (l_e1 _ _)
    have E3 : y_ev x (0, []) = 0 := (l_e0 _ _)
    have E4 : y_ev x (0, [(3, 1)]) = x 3 := (l_e1 _ _)
    have E5 : y_ev x (0, [(4, 1)]) = x 4 := (l_e1 _ _)
    have E6 : y_ev x (0, [(5, 1)]) = x 5 := (l_e1 _ _)
    have E7 : y_ev x (0, [(6, 1)]) = x 6 := (l_e1 _ _)
    have E8 : y_ev x (0, [(7, 1)]) = x 7 := (l_e1 _ _)
    have E9 : y_ev x (0, [(11, 1)]) = x 11 := (l_e1 _ _)
    have E10 : y_ev x (0, [(8, 1)]) = x 8 := (l_e1 _ _)
    have E11 : y_ev x (0, [(9, 1)]) = x 9 := (l_e1 _ _)
    have E12 : y_ev x (0, [(10, 1)]) = x 10 := (l_e1 _ _)
    have T0 : q_run2 (t_b v) (y_ev x (0, [(0, 1)])) (y_ev x ((-1), [(1, 1)])) (y_ev x (0, [(2, 1)])) (y_ev x (0, [])) (y_ev x (0, [(3, 1)])) (y_ev x (0, [(4, 1)])) (y_ev x (0, [(5, 1)])) (y_ev x (0, [(6, 1)])) (y_ev x (0, [(7, 1)])) (y_ev x (0, [(11, 1)])) := h.2.2.2.1
    (try rw [E0] at T0); (try rw [E1] at T0); (try rw [E2] at T0); (try rw [E3] at T0); (try rw [E4] at T0); (try rw [E5] at T0); (try rw [E6] at T0); (try rw [E7] at T0); (try rw [E8] at T0); (try rw [E9] at T0)
    have T1 : q_tok (t_b v) (y_ev x (0, [(0, 1)])) (y_ev x ((-1), [(1, 1)])) (y_ev x (0, [(8, 1)])) (y_ev x (0, [(9, 1)])) (y_ev x (0, [(10, 1)])) := h.2.2.2.2.1
    (try rw [E0] at T1); (try rw [E1] at T1); (try rw [E10] at T1); (try rw [E11] at T1); (try rw [E12] at T1)
    have K := k_s_e0o (V := v) (n := x 0) (d := x 1) (st := x 2) (op := x 3) (H := x 4) (L := x 5) (W := x 6) (WP := x 7) (kd := x 8) (s := x 9) (v := x 10) (S := x 11) T0 T1 C0 C1 C2 C3 C4 C5
    refine l_outH rfl (And.intro h.1 ?_)
    have O0 : y_ev x (0, [(0, 1)]) = x 0 := l_e1 _ _
    have O1 : y_ev x (0, [(1, 1)]) = x 1 := l_e1 _ _
    have O2 : y_ev x (0, [(2, 1)]) = x 2 := l_e1 _ _
    have O3 : y_ev x (0, []) = 0 := l_e0 _ _
    have O4 : y_ev x (1, [(3, 1)]) = x 3 + 1 := by show ((1) : Int) + ((1) * x 3 + 0) = _; omega
    have O5 : y_ev x (0, [(4, 1)]) = x 4 := l_e1 _ _
    have O6 : y_ev x (0, [(5, 1)]) = x 5 := l_e1 _ _
    have O7 : y_ev x (0, [(6, 1)]) = x 6 := l_e1 _ _
    have O8 : y_ev x (0, [(7, 1)]) = x 7 := l_e1 _ _
    have O9 : y_ev x (0, [(11, 1)]) = x 11 := l_e1 _ _
    show (True) ∧ (q_run2 (t_b v) (y_ev x (0, [(0, 1)])) (y_ev x (0, [(1, 1)])) (y_ev x (0, [(2, 1)])) (y_ev x (0, [])) (y_ev x (1, [(3, 1)])) (y_ev x (0, [(4, 1)])) (y_ev x (0, [(5, 1)])) (y_ev x (0, [(6, 1)])) (y_ev x (0, [(7, 1)])) (y_ev x (0, [(11, 1)])) ∧ True)
    (try rw [O0]); (try rw [O1]); (try rw [O2]); (try rw [O3]); (try rw [O4]); (try rw [O5]); (try rw [O6]); (try rw [O7]); (try rw [O8]); (try rw [O9])
    exact K
def lm_325p : zS := ((lm_145pi_0 (lm_145pi_1 [])), [(12, false)], [(400, [(1, (-1))]), ((-200), [(2, 1)]), (0, [(3, 1)]), ((-3), [(8, 1)]), (3, [(8, (-1))])], [], [], [(0, (false, 11, 0, []), 0, 0, 0, [(1, 1)])], [(40, [(0, [(0, 1)]), ((-1), [(1, 1)]), (0, [(2, 1)]), (0, []), (0, [(3, 1)]), (0, [(4, 1)]), (0, [(5, 1)]), (0, [(6, 1)]), (0, [(7, 1)]), (0, [(11, 1)])]), (36, [(0, [(0, 1)]), ((-1), [(1, 1)]), (0, [(8, 1)]), (0, [(9, 1)]), (0, [(10, 1)])])])
def lm_325 : zLem := (lm_325p, [([((-2147483648), 2147483647), ((-2147483648), 2147483647), ((-2147483648), 2147483647), ((-2147483648), 2147483647), ((-2147483648), 2147483647), ((-2147483648), 2147483647), ((-2147483648), 2147483647), ((-2147483648), 2147483647), ((-2147483648), 2147483647), ((-2147483648), 2147483647), ((-9223372036854775808), 9223372036854775807), ((-2147483648), 2147483647)], [(12, false)], [], [], [], [], [(40, [(0, [(0, 1)]), (0, [(1, 1)]), (0, [(2, 1)]), (1, []), (0, [(3, 1)]), (0, [(4, 1)]), (0, [(5, 1)]), (0, [(6, 1)]), (0, [(7, 1)]), (0, [(11, 1)])])])])
theorem lk_325 : l_core lm_325 := by
  first
  | skip
    intro v x h
    have K := k_s_e0i (V := v) (n := x 0) (d := x 1) (st := x 2) (op := x 3) (H := x 4) (L := x 5) (W := x 6) (WP := x 7) (kd := x 8) (s := x 9) (v := x 10) (S := x 11) (l_c10 (fun w0 w1 w2 w3 w4 w5 w6 w7 w8 w9 : Int => q_run2 (t_b v) w0 w1 w2 w3 w4 w5 w6 w7 w8 w9) (l_e1 x 0) (l_q2 1 x 1) (l_e1 x 2) (l_e0 x (0)) (l_e1 x 3) (l_e1 x 4) (l_e1 x 5) (l_e1 x 6) (l_e1 x 7) (l_e1 x 11) (h.2.2.2.1)) (l_c5 (fun w0 w1 w2 w3 w4 : Int => q_tok (t_b v) w0 w1 w2 w3 w4) (l_e1 x 0) (l_q2 1 x 1) (l_e1 x 8) (l_e1 x 9) (l_e1 x 10) (h.2.2.2.2.1)) (l_cc (l_q1 400 x 1) (h.2.1.1)) (l_cc (l_q2 200 x 2) (h.2.1.2.1)) (l_cc (l_e1 x 3) (h.2.1.2.2.1)) (l_cc (l_q2 3 x 8) (h.2.1.2.2.2.1)) (l_cc (l_q1 3 x 8) (h.2.1.2.2.2.2.1))
    refine l_outH rfl (And.intro h.1 ?_)
    exact l_o10 (fun w0 w1 w2 w3 w4 w5 w6 w7 w8 w9 : Int => (True) ∧ (q_run2 (t_b v) w0 w1 w2 w3 w4 w5 w6 w7 w8 w9 ∧ True)) (l_e1 x 0) (l_e1 x 1) (l_e1 x 2) (l_e0 x (1)) (l_e1 x 3) (l_e1 x 4) (l_e1 x 5) (l_e1 x 6) (l_e1 x 7) (l_e1 x 11) K
  | skip
    intro v x h
    have C0 : (0 : Int) ≤ 400 - x 1 := l_cc (a := y_ev x (400, [(1, (-1))])) (by show ((400) : Int) + ((-1) * x 1 + 0) = 400 - x 1; omega) (h.2.1.1)
    have C1 : (0 : Int) ≤ x 2 - 200 := l_cc (a := y_ev x ((-200), [(2, 1)])) (by show ((-200) : Int) + ((1) * x 2 + 0) = x 2 - 200; omega) (h.2.1.2.1)
    have C2 : (0 : Int) ≤ x 3 := l_cc (a := y_ev x (0, [(3, 1)])) (l_e1 _ _) (h.2.1.2.2.1)
    have C3 : (0 : Int) ≤ x 8 - 3 := l_cc (a := y_ev x ((-3), [(8, 1)])) (by show ((-3) : Int) + ((1) * x 8 + 0) = x 8 - 3; omega) (h.2.1.2.2.2.1)
    have C4 : (0 : Int) ≤ 3 - x 8 := l_cc (a := y_ev x (3, [(8, (-1))])) (by show ((3) : Int) + ((-1) * x 8 + 0) = 3 - x 8; omega) (h.2.1.2.2.2.2.1)
    have E0 : y_ev x (0, [(0, 1)]) = x 0 := (l_e1 _ _)
    have E1 : y_ev x ((-1), [(1, 1)]) = x 1 - 1 := (by show ((-1) : Int) + ((1) * x 1 + 0) = x 1 - 1; omega)
    have E2 : y_ev x (0, [(2, 1)]) = x 2 := (l_e1 _ _)
    have E3 : y_ev x (0, []) = 0 := (l_e0 _ _)
    have E4 : y_ev x (0, [(3, 1)]) = x 3 := (l_e1 _ _)
    have E5 : y_ev x (0, [(4, 1)]) = x 4 := (l_e1 _ _)
    have E6 : y_ev x (0, [(5, 1)]) = x 5 := (l_e1 _ _)
    have E7 : y_ev x (0, [(6, 1)]) = x 6 := (l_e1 _ _)
    have E8 : y_ev x (0, [(7, 1)]) = x 7 := (l_e1 _ _)
    have E9 : y_ev x (0, [(11, 1)]) = x 11 := (l_e1 _ _)
    have E10 : y_ev x (0, [(8, 1)]) = x 8 := (l_e1 _ _)
    have E11 : y_ev x (0, [(9, 1)]) = x 9 := (l_e1 _ _)
    have E12 : y_ev x (0, [(10, 1)]) = x 10 := (l_e1 _ _)
    have T0 : q_run2 (t_b v) (y_ev x (0, [(0, 1)])) (y_ev x ((-1), [(1, 1)])) (y_ev x (0, [(2, 1)])) (y_ev x (0, [])) (y_ev x (0, [(3, 1)])) (y_ev x (0, [(4, 1)])) (y_ev x (0, [(5, 1)])) (y_ev x (0, [(6, 1)])) (y_ev x (0, [(7, 1)])) (y_ev x (0, [(11, 1)])) := h.2.2.2.1
    (try rw [E0] at T0); (try rw [E1] at T0); (try rw [E2] at T0); (try rw [E3] at T0); (try rw [E4] at T0); (try rw [E5] at T0); (try rw [E6] at T0); (try rw [E7] at T0); (try rw [E8] at T0); (try rw [E9] at T0)
    have T1 : q_tok (t_b v) (y_ev x (0, [(0, 1)])) (y_ev x ((-1), [(1, 1)])) (y_ev x (0, [(8, 1)])) (y_ev x (0, [(9, 1)])) (y_ev x (0, [(10, 1)])) := h.2.2.2.2.1
    (try rw [E0] at T1); (try rw [E1] at T1); (try rw [E10] at T1); (try rw [E11] at T1); (try rw [E12] at T1)
    have K := k_s_e0i (V := v) (n := x 0) (d := x 1) (st := x 2) (op := x 3) (H := x 4) (L := x 5) (W := x 6) (WP := x 7) (kd := x 8) (s := x 9) (v := x 10) (S := x 11) T0 T1 C0 C1 C2 C3 C4
    refine l_outH rfl (And.intro h.1 ?_)
    have O0 : y_ev x (0, [(0, 1)]) = x 0 := l_e1 _ _
    have O1 : y_ev x (0, [(1, 1)]) = x 1 := l_e1 _ _
    have O2 : y_ev x (0, [(2, 1)]) = x 2 := l_e1 _ _
    have O3 : y_ev x (1, []) = 1 := l_e0 _ _
    have O4 : y_ev x (0, [(3, 1)]) = x 3 := l_e1 _ _
    have O5 : y_ev x (0, [(4, 1)]) = x 4 := l_e1 _ _
    have O6 : y_ev x (0, [(5, 1)]) = x 5 := l_e1 _ _
    have O7 : y_ev x (0, [(6, 1)]) = x 6 := l_e1 _ _
    have O8 : y_ev x (0, [(7, 1)]) = x 7 := l_e1 _ _
    have O9 : y_ev x (0, [(11, 1)]) = x 11 := l_e1 _ _
    show (True) ∧ (q_run2 (t_b v) (y_ev x (0, [(0, 1)])) (y_ev x (0, [(1, 1)])) (y_ev x (0, [(2, 1)])) (y_ev x (1, [])) (y_ev x (0, [(3, 1)])) (y_ev x (0, [(4, 1)])) (y_ev x (0, [(5, 1)])) (y_ev x (0, [(6, 1)])) (y_ev x (0, [(7, 1)])) (y_ev x (0, [(11, 1)])) ∧ True)
    (try rw [O0]); (try rw [O1]); (try rw [O2]); (try rw [O3]); (try rw [O4]); (try rw [O5]); (try rw [O6]); (try rw [O7]); (try rw [O8]); (try rw [O9])
    exact K
def lm_327p : zS := ((lm_145pi_0 (lm_145pi_1 [])), [(12, false)], [(400, [(1, (-1))]), ((-200), [(2, 1)]), (0, [(3, 1)]), ((-269), [(8, 1)]), (277, [(8, (-1))])], [], [], [(0, (false, 11, 0, []), 0, 0, 0, [(1, 1)])], [(40, [(0, [(0, 1)]), ((-1), [(1, 1)]), (0, [(2, 1)]), (0, []), (0, [(3, 1)]), (0, [(4, 1)]), (0, [(5, 1)]), (0, [(6, 1)]), (0, [(7, 1)]), (0, [(11, 1)])]), (36, [(0, [(0, 1)]), ((-1), [(1, 1)]), (0, [(8, 1)]), (0, [(9, 1)]), (0, [(10, 1)])])])
def lm_327 : zLem := (lm_327p, [([((-2147483648), 2147483647), ((-2147483648), 2147483647), ((-2147483648), 2147483647), ((-2147483648), 2147483647), ((-2147483648), 2147483647), ((-2147483648), 2147483647), ((-2147483648), 2147483647), ((-2147483648), 2147483647), ((-2147483648), 2147483647), ((-2147483648), 2147483647), ((-9223372036854775808), 9223372036854775807), ((-2147483648), 2147483647)], [(12, false)], [], [], [], [], [(40, [(0, [(0, 1)]), (0, [(1, 1)]), (0, [(2, 1)]), (1, []), (0, [(3, 1)]), (0, [(4, 1)]), (0, [(5, 1)]), (0, [(6, 1)]), (0, [(7, 1)]), (0, [(11, 1)])])])])
theorem lk_327 : l_core lm_327 := by
  first
  | skip
    intro v x h
    have K := k_s_e0v (V := v) (n := x 0) (d := x 1) (st := x 2) (op := x 3) (H := x 4) (L := x 5) (W := x 6) (WP := x 7) (kd := x 8) (s := x 9) (v := x 10) (S := x 11) (l_c10 (fun w0 w1 w2 w3 w4 w5 w6 w7 w8 w9 : Int => q_run2 (t_b v) w0 w1 w2 w3 w4 w5 w6 w7 w8 w9) (l_e1 x 0) (l_q2 1 x 1) (l_e1 x 2) (l_e0 x (0)) (l_e1 x 3) (l_e1 x 4) (l_e1 x 5) (l_e1 x 6) (l_e1 x 7) (l_e1 x 11) (h.2.2.2.1)) (l_c5 (fun w0 w1 w2 w3 w4 : Int => q_tok (t_b v) w0 w1 w2 w3 w4) (l_e1 x 0) (l_q2 1 x 1) (l_e1 x 8) (l_e1 x 9) (l_e1 x 10) (h.2.2.2.2.1)) (l_cc (l_q1 400 x 1) (h.2.1.1)) (l_cc (l_q2 200 x 2) (h.2.1.2.1)) (l_cc (l_e1 x 3) (h.2.1.2.2.1)) (l_cc (l_q2 269 x 8) (h.2.1.2.2.2.1)) (l_cc (l_q1 277 x 8) (h.2.1.2.2.2.2.1))
    refine l_outH rfl (And.intro h.1 ?_)
    exact l_o10 (fun w0 w1 w2 w3 w4 w5 w6 w7 w8 w9 : Int => (True) ∧ (q_run2 (t_b v) w0 w1 w2 w3 w4 w5 w6 w7 w8 w9 ∧ True)) (l_e1 x 0) (l_e1 x 1) (l_e1 x 2) (l_e0 x (1)) (l_e1 x 3) (l_e1 x 4) (l_e1 x 5) (l_e1 x 6) (l_e1 x 7) (l_e1 x 11) K
  | skip
    intro v x h
    have C0 : (0 : Int) ≤ 400 - x 1 := l_cc (a := y_ev x (400, [(1, (-1))])) (by show ((400) : Int) + ((-1) * x 1 + 0) = 400 - x 1; omega) (h.2.1.1)
    have C1 : (0 : Int) ≤ x 2 - 200 := l_cc (a := y_ev x ((-200), [(2, 1)])) (by show ((-200) : Int) + ((1) * x 2 + 0) = x 2 - 200; omega) (h.2.1.2.1)
    have C2 : (0 : Int) ≤ x 3 := l_cc (a := y_ev x (0, [(3, 1)])) (l_e1 _ _) (h.2.1.2.2.1)
    have C3 : (0 : Int) ≤ x 8 - 269 := l_cc (a := y_ev x ((-269), [(8, 1)])) (by show ((-269) : Int) + ((1) * x 8 + 0) = x 8 - 269; omega) (h.2.1.2.2.2.1)
    have C4 : (0 : Int) ≤ 277 - x 8 := l_cc (a := y_ev x (277, [(8, (-1))])) (by show ((277) : Int) + ((-1) * x 8 + 0) = 277 - x 8; omega) (h.2.1.2.2.2.2.1)
    have E0 : y_ev x (0, [(0, 1)]) = x 0 := (l_e1 _ _)
    have E1 : y_ev x ((-1), [(1, 1)]) = x 1 - 1 := (by show ((-1) : Int) + ((1) * x 1 + 0) = x 1 - 1; omega)
    have E2 : y_ev x (0, [(2, 1)]) = x 2 := (l_e1 _ _)
    have E3 : y_ev x (0, []) = 0 := (l_e0 _ _)
    have E4 : y_ev x (0, [(3, 1)]) = x 3 := (l_e1 _ _)
    have E5 : y_ev x (0, [(4, 1)]) = x 4 := (l_e1 _ _)
    have E6 : y_ev x (0, [(5, 1)]) = x 5 := (l_e1 _ _)
    have E7 : y_ev x (0, [(6, 1)]) = x 6 := (l_e1 _ _)
    have E8 : y_ev x (0, [(7, 1)]) = x 7 := (l_e1 _ _)
    have E9 : y_ev x (0, [(11, 1)]) = x 11 := (l_e1 _ _)
    have E10 : y_ev x (0, [(8, 1)]) = x 8 := (l_e1 _ _)
    have E11 : y_ev x (0, [(9, 1)]) = x 9 := (l_e1 _ _)
    have E12 : y_ev x (0, [(10, 1)]) = x 10 := (l_e1 _ _)
    have T0 : q_run2 (t_b v) (y_ev x (0, [(0, 1)])) (y_ev x ((-1), [(1, 1)])) (y_ev x (0, [(2, 1)])) (y_ev x (0, [])) (y_ev x (0, [(3, 1)])) (y_ev x (0, [(4, 1)])) (y_ev x (0, [(5, 1)])) (y_ev x (0, [(6, 1)])) (y_ev x (0, [(7, 1)])) (y_ev x (0, [(11, 1)])) := h.2.2.2.1
    (try rw [E0] at T0); (try rw [E1] at T0); (try rw [E2] at T0); (try rw [E3] at T0); (try rw [E4] at T0); (try rw [E5] at T0); (try rw [E6] at T0); (try rw [E7] at T0); (try rw [E8] at T0); (try rw [E9] at T0)
    have T1 : q_tok (t_b v) (y_ev x (0, [(0, 1)])) (y_ev x ((-1), [(1, 1)])) (y_ev x (0, [(8, 1)])) (y_ev x (0, [(9, 1)])) (y_ev x (0, [(10, 1)])) := h.2.2.2.2.1
    (try rw [E0] at T1); (try rw [E1] at T1); (try rw [E10] at T1); (try rw [E11] at T1); (try rw [E12] at T1)
    have K := k_s_e0v (V := v) (n := x 0) (d := x 1) (st := x 2) (op := x 3) (H := x 4) (L := x 5) (W := x 6) (WP := x 7) (kd := x 8) (s := x 9) (v := x 10) (S := x 11) T0 T1 C0 C1 C2 C3 C4
    refine l_outH rfl (And.intro h.1 ?_)
    have O0 : y_ev x (0, [(0, 1)]) = x 0 := l_e1 _ _
    have O1 : y_ev x (0, [(1, 1)]) = x 1 := l_e1 _ _
    have O2 : y_ev x (0, [(2, 1)]) = x 2 := l_e1 _ _
    have O3 : y_ev x (1, []) = 1 := l_e0 _ _
    have O4 : y_ev x (0, [(3, 1)]) = x 3 := l_e1 _ _
    have O5 : y_ev x (0, [(4, 1)]) = x 4 := l_e1 _ _
    have O6 : y_ev x (0, [(5, 1)]) = x 5 := l_e1 _ _
    have O7 : y_ev x (0, [(6, 1)]) = x 6 := l_e1 _ _
    have O8 : y_ev x (0, [(7, 1)]) = x 7 := l_e1 _ _
    have O9 : y_ev x (0, [(11, 1)]) = x 11 := l_e1 _ _
    show (True) ∧ (q_run2 (t_b v) (y_ev x (0, [(0, 1)])) (y_ev x (0, [(1, 1)])) (y_ev x (0, [(2, 1)])) (y_ev x (1, [])) (y_ev x (0, [(3, 1)])) (y_ev x (0, [(4, 1)])) (y_ev x (0, [(5, 1)])) (y_ev x (0, [(6, 1)])) (y_ev x (0, [(7, 1)])) (y_ev x (0, [(11, 1)])) ∧ True)
    (try rw [O0]); (try rw [O1]); (try rw [O2]); (try rw [O3]); (try rw [O4]); (try rw [O5]); (try rw [O6]); (try rw [O7]); (try rw [O8]); (try rw [O9])
    exact K
def lm_334p : zS := ((lm_137pi_0 (lm_137pi_1 [])), [(12, false)], [(400, [(1, (-1))]), ((-200), [(2, 1)]), ((-1), [(3, 1)])], [], [], [(0, (false, 11, 0, []), 0, 0, 0, [(1, 1)])], [(40, [(0, [(0, 1)]), ((-1), [(1, 1)]), (0, [(2, 1)]), (1, []), (0, [(3, 1)]), (0, [(4, 1)]), (0, [(5, 1)]), (0, [(6, 1)]), (0, [(7, 1)]), (0, [(10, 1)])]), (36, [(0, [(0, 1)]), ((-1), [(1, 1)]), (41, []), (0, [(8, 1)]), (0, [(9, 1)])])])
def lm_334 : zLem := (lm_334p, [([((-2147483648), 2147483647), ((-2147483648), 2147483647), ((-2147483648), 2147483647), ((-2147483648), 2147483647), ((-2147483648), 2147483647), ((-2147483648), 2147483647), ((-2147483648), 2147483647), ((-2147483648), 2147483647), ((-2147483648), 2147483647), ((-9223372036854775808), 9223372036854775807), ((-2147483648), 2147483647)], [(12, false)], [], [], [], [], [(40, [(0, [(0, 1)]), (0, [(1, 1)]), (0, [(2, 1)]), (1, []), ((-1), [(3, 1)]), (0, [(4, 1)]), (0, [(5, 1)]), (0, [(6, 1)]), (0, [(7, 1)]), (0, [(10, 1)])])])])
theorem lk_334 : l_core lm_334 := by
  first
  | skip
    intro v x h
    have K := k_s_e1c (V := v) (n := x 0) (d := x 1) (st := x 2) (op := x 3) (H := x 4) (L := x 5) (W := x 6) (WP := x 7) (s := x 8) (v := x 9) (S := x 10) (l_c10 (fun w0 w1 w2 w3 w4 w5 w6 w7 w8 w9 : Int => q_run2 (t_b v) w0 w1 w2 w3 w4 w5 w6 w7 w8 w9) (l_e1 x 0) (l_q2 1 x 1) (l_e1 x 2) (l_e0 x (1)) (l_e1 x 3) (l_e1 x 4) (l_e1 x 5) (l_e1 x 6) (l_e1 x 7) (l_e1 x 10) (h.2.2.2.1)) (l_c5 (fun w0 w1 w2 w3 w4 : Int => q_tok (t_b v) w0 w1 w2 w3 w4) (l_e1 x 0) (l_q2 1 x 1) (l_e0 x (41)) (l_e1 x 8) (l_e1 x 9) (h.2.2.2.2.1)) (l_cc (l_q1 400 x 1) (h.2.1.1)) (l_cc (l_q2 200 x 2) (h.2.1.2.1)) (l_cc (l_q2 1 x 3) (h.2.1.2.2.1))
    refine l_outH rfl (And.intro h.1 ?_)
    exact l_o10 (fun w0 w1 w2 w3 w4 w5 w6 w7 w8 w9 : Int => (True) ∧ (q_run2 (t_b v) w0 w1 w2 w3 w4 w5 w6 w7 w8 w9 ∧ True)) (l_e1 x 0) (l_e1 x 1) (l_e1 x 2) (l_e0 x (1)) (l_q2 1 x 3) (l_e1 x 4) (l_e1 x 5) (l_e1 x 6) (l_e1 x 7) (l_e1 x 10) K
  | skip
    intro v x h
    have C0 : (0 : Int) ≤ 400 - x 1 := l_cc (a := y_ev x (400, [(1, (-1))])) (by show ((400) : Int) + ((-1) * x 1 + 0) = 400 - x 1; omega) (h.2.1.1)
    have C1 : (0 : Int) ≤ x 2 - 200 := l_cc (a := y_ev x ((-200), [(2, 1)])) (by show ((-200) : Int) + ((1) * x 2 + 0) = x 2 - 200; omega) (h.2.1.2.1)
    have C2 : (0 : Int) ≤ x 3 - 1 := l_cc (a := y_ev x ((-1), [(3, 1)])) (by show ((-1) : Int) + ((1) * x 3 + 0) = x 3 - 1; omega) (h.2.1.2.2.1)
    have E0 : y_ev x (0, [(0, 1)]) = x 0 := (l_e1 _ _)
    have E1 : y_ev x ((-1), [(1, 1)]) = x 1 - 1 := (by show ((-1) : Int) + ((1) * x 1 + 0) = x 1 - 1; omega)
    have E2 : y_ev x (0, [(2, 1)]) = x 2 := (l_e1 _ _)
    have E3 : y_ev x (1, []) = 1 := (l_e0 _ _)
    have E4 : y_ev x (0, [(3, 1)]) = x 3 := (l_e1 _ _)
    have E5 : y_ev x (0, [(4, 1)]) = x 4 := (l_e1 _ _)
    have E6 : y_ev x (0, [(5, 1)]) = x 5 := (l_e1 _ _)
    have E7 : y_ev x (0, [(6, 1)]) = x 6 := (l_e1 _ _)
    have E8 : y_ev x (0, [(7, 1)]) = x 7 := (l_e1 _ _)
    have E9 : y_ev x (0, [(10, 1)]) = x 10 := (l_e1 _ _)
    have E10 : y_ev x (41, []) = 41 := (l_e0 _ _)
    have E11 : y_ev x (0, [(8, 1)]) = x 8 := (l_e1 _ _)
    have E12 : y_ev x (0, [(9, 1)]) = x 9 := (l_e1 _ _)
    have T0 : q_run2 (t_b v) (y_ev x (0, [(0, 1)])) (y_ev x ((-1), [(1, 1)])) (y_ev x (0, [(2, 1)])) (y_ev x (1, [])) (y_ev x (0, [(3, 1)])) (y_ev x (0, [(4, 1)])) (y_ev x (0, [(5, 1)])) (y_ev x (0, [(6, 1)])) (y_ev x (0, [(7, 1)])) (y_ev x (0, [(10, 1)])) := h.2.2.2.1
    (try rw [E0] at T0); (try rw [E1] at T0); (try rw [E2] at T0); (try rw [E3] at T0); (try rw [E4] at T0); (try rw [E5] at T0); (try rw [E6] at T0); (try rw [E7] at T0); (try rw [E8] at T0); (try rw [E9] at T0)
    have T1 : q_tok (t_b v) (y_ev x (0, [(0, 1)])) (y_ev x ((-1), [(1, 1)])) (y_ev x (41, [])) (y_ev x (0, [(8, 1)])) (y_ev x (0, [(9, 1)])) := h.2.2.2.2.1
    (try rw [E0] at T1); (try rw [E1] at T1); (try rw [E10] at T1); (try rw [E11] at T1); (try rw [E12] at T1)
    have K := k_s_e1c (V := v) (n := x 0) (d := x 1) (st := x 2) (op := x 3) (H := x 4) (L := x 5) (W := x 6) (WP := x 7) (s := x 8) (v := x 9) (S := x 10) T0 T1 C0 C1 C2
    refine l_outH rfl (And.intro h.1 ?_)
    have O0 : y_ev x (0, [(0, 1)]) = x 0 := l_e1 _ _
    have O1 : y_ev x (0, [(1, 1)]) = x 1 := l_e1 _ _
    have O2 : y_ev x (0, [(2, 1)]) = x 2 := l_e1 _ _
    have O3 : y_ev x (1, []) = 1 := l_e0 _ _
    have O4 : y_ev x ((-1), [(3, 1)]) = x 3 - 1 := by show ((-1) : Int) + ((1) * x 3 + 0) = _; omega
    have O5 : y_ev x (0, [(4, 1)]) = x 4 := l_e1 _ _
    have O6 : y_ev x (0, [(5, 1)]) = x 5 := l_e1 _ _
    have O7 : y_ev x (0, [(6, 1)]) = x 6 := l_e1 _ _
    have O8 : y_ev x (0, [(7, 1)]) = x 7 := l_e1 _ _
    have O9 : y_ev x (0, [(10, 1)]) = x 10 := l_e1 _ _
    show (True) ∧ (q_run2 (t_b v) (y_ev x (0, [(0, 1)])) (y_ev x (0, [(1, 1)])) (y_ev x (0, [(2, 1)])) (y_ev x (1, [])) (y_ev x ((-1), [(3, 1)])) (y_ev x (0, [(4, 1)])) (y_ev x (0, [(5, 1)])) (y_ev x (0, [(6, 1)])) (y_ev x (0, [(7, 1)])) (y_ev x (0, [(10, 1)])) ∧ True)
    (try rw [O0]); (try rw [O1]); (try rw [O2]); (try rw [O3]); (try rw [O4]); (try rw [O5]); (try rw [O6]); (try rw [O7]); (try rw [O8]); (try rw [O9])
    exact K
def lm_336 : zLem := (([((-2147483648), 2147483647), ((-2147483648), 2147483647), ((-2147483648), 2147483647), ((-2147483648), 2147483647), ((-2147483648), 2147483647), ((-2147483648), 2147483647), ((-2147483648), 2147483647), ((-2147483648), 2147483647), ((-9223372036854775808), 9223372036854775807), ((-2147483648), 2147483647)], [(12, false)], [(400, [(1, (-1))]), ((-200), [(2, 1)]), (204, [(2, (-1))])], [], [], [(0, (false, 11, 0, []), 0, 0, 0, [(1, 1)])], [(40, [(0, [(0, 1)]), ((-1), [(1, 1)]), (0, [(2, 1)]), (1, []), (0, []), (0, [(3, 1)]), (0, [(4, 1)]), (0, [(5, 1)]), (0, [(6, 1)]), (0, [(9, 1)])]), (36, [(0, [(0, 1)]), ((-1), [(1, 1)]), (60, []), (0, [(7, 1)]), (0, [(8, 1)])])]), [([((-2147483648), 2147483647), ((-2147483648), 2147483647), ((-2147483648), 2147483647), ((-2147483648), 2147483647), ((-2147483648), 2147483647), ((-2147483648), 2147483647), ((-2147483648), 2147483647), ((-2147483648), 2147483647), ((-9223372036854775808), 9223372036854775807), ((-2147483648), 2147483647)], [(12, false)], [], [], [], [], [(40, [(0, [(0, 1)]), (0, [(1, 1)]), (100, [(2, 1)]), (0, []), (0, []), (0, [(3, 1)]), (0, [(4, 1)]), (0, [(5, 1)]), (0, [(6, 1)]), (0, [(9, 1)])])])])
theorem lk_336 : l_core lm_336 := by
  first
  | skip
    intro v x h
    have K := k_s_x1 (V := v) (n := x 0) (d := x 1) (st := x 2) (H := x 3) (L := x 4) (W := x 5) (WP := x 6) (s := x 7) (v := x 8) (S := x 9) (l_c10 (fun w0 w1 w2 w3 w4 w5 w6 w7 w8 w9 : Int => q_run2 (t_b v) w0 w1 w2 w3 w4 w5 w6 w7 w8 w9) (l_e1 x 0) (l_q2 1 x 1) (l_e1 x 2) (l_e0 x (1)) (l_e0 x (0)) (l_e1 x 3) (l_e1 x 4) (l_e1 x 5) (l_e1 x 6) (l_e1 x 9) (h.2.2.2.1)) (l_c5 (fun w0 w1 w2 w3 w4 : Int => q_tok (t_b v) w0 w1 w2 w3 w4) (l_e1 x 0) (l_q2 1 x 1) (l_e0 x (60)) (l_e1 x 7) (l_e1 x 8) (h.2.2.2.2.1)) (l_cc (l_q1 400 x 1) (h.2.1.1)) (l_cc (l_q2 200 x 2) (h.2.1.2.1)) (l_cc (l_q1 204 x 2) (h.2.1.2.2.1))
    refine l_outH rfl (And.intro h.1 ?_)
    exact l_o9 (fun w0 w1 w2 w3 w4 w5 w6 w7 w8 : Int => (True) ∧ (q_run2 (t_b v) w0 w1 w2 w3 w3 w4 w5 w6 w7 w8 ∧ True)) (l_e1 x 0) (l_e1 x 1) (l_q3 100 x 2) (l_e0 x (0)) (l_e1 x 3) (l_e1 x 4) (l_e1 x 5) (l_e1 x 6) (l_e1 x 9) K
  | skip
    intro v x h
    have C0 : (0 : Int) ≤ 400 - x 1 := l_cc (a := y_ev x (400, [(1, (-1))])) (by show ((400) : Int) + ((-1) * x 1 + 0) = 400 - x 1; omega) (h.2.1.1)
    have C1 : (0 : Int) ≤ x 2 - 200 := l_cc (a := y_ev x ((-200), [(2, 1)])) (by show ((-200) : Int) + ((1) * x 2 + 0) = x 2 - 200; omega) (h.2.1.2.1)
    have C2 : (0 : Int) ≤ 204 - x 2 := l_cc (a := y_ev x (204, [(2, (-1))])) (by show ((204) : Int) + ((-1) * x 2 + 0) = 204 - x 2; omega) (h.2.1.2.2.1)
    have E0 : y_ev x (0, [(0, 1)]) = x 0 := (l_e1 _ _)
    have E1 : y_ev x ((-1), [(1, 1)]) = x 1 - 1 := (by show ((-1) : Int) + ((1) * x 1 + 0) = x 1 - 1; omega)
    have E2 : y_ev x (0, [(2, 1)]) = x 2 := (l_e1 _ _)
    have E3 : y_ev x (1, []) = 1 := (l_e0 _ _)
    have E4 : y_ev x (0, []) = 0 := (l_e0 _ _)
    have E5 : y_ev x (0, [(3, 1)]) = x 3 := (l_e1 _ _)
    have E6 : y_ev x (0, [(4, 1)]) = x 4 := (l_e1 _ _)
    have E7 : y_ev x (0, [(5, 1)]) = x 5 := (l_e1 _ _)
    have E8 : y_ev x (0, [(6, 1)]) = x 6 := (l_e1 _ _)
    have E9 : y_ev x (0, [(9, 1)]) = x 9 := (l_e1 _ _)
    have E10 : y_ev x (60, []) = 60 := (l_e0 _ _)
    have E11 : y_ev x (0, [(7, 1)]) = x 7 := (l_e1 _ _)
    have E12 : y_ev x (0, [(8, 1)]) = x 8 := (l_e1 _ _)
    have T0 : q_run2 (t_b v) (y_ev x (0, [(0, 1)])) (y_ev x ((-1), [(1, 1)])) (y_ev x (0, [(2, 1)])) (y_ev x (1, [])) (y_ev x (0, [])) (y_ev x (0, [(3, 1)])) (y_ev x (0, [(4, 1)])) (y_ev x (0, [(5, 1)])) (y_ev x (0, [(6, 1)])) (y_ev x (0, [(9, 1)])) := h.2.2.2.1
    (try rw [E0] at T0); (try rw [E1] at T0); (try rw [E2] at T0); (try rw [E3] at T0); (try rw [E4] at T0); (try rw [E5] at T0); (try rw [E6] at T0); (try rw [E7] at T0); (try rw [E8] at T0); (try rw [E9] at T0)
    have T1 : q_tok (t_b v) (y_ev x (0, [(0, 1)])) (y_ev x ((-1), [(1, 1)])) (y_ev x (60, [])) (y_ev x (0, [(7, 1)])) (y_ev x (0, [(8, 1)])) := h.2.2.2.2.1
    (try rw [E0] at T1); (try rw [E1] at T1); (try rw [E10] at T1); (try rw [E11] at T1); (try rw [E12] at T1)
    have K := k_s_x1 (V := v) (n := x 0) (d := x 1) (st := x 2) (H := x 3) (L := x 4) (W := x 5) (WP := x 6) (s := x 7) (v := x 8) (S := x 9) T0 T1 C0 C1 C2
    refine l_outH rfl (And.intro h.1 ?_)
    have O0 : y_ev x (0, [(0, 1)]) = x 0 := l_e1 _ _
    have O1 : y_ev x (0, [(1, 1)]) = x 1 := l_e1 _ _
    have O2 : y_ev x (100, [(2, 1)]) = x 2 + 100 := by show ((100) : Int) + ((1) * x 2 + 0) = _; omega
    have O3 : y_ev x (0, []) = 0 := l_e0 _ _
    have O4 : y_ev x (0, [(3, 1)]) = x 3 := l_e1 _ _
    have O5 : y_ev x (0, [(4, 1)]) = x 4 := l_e1 _ _
    have O6 : y_ev x (0, [(5, 1)]) = x 5 := l_e1 _ _
    have O7 : y_ev x (0, [(6, 1)]) = x 6 := l_e1 _ _
    have O8 : y_ev x (0, [(9, 1)]) = x 9 := l_e1 _ _
    show (True) ∧ (q_run2 (t_b v) (y_ev x (0, [(0, 1)])) (y_ev x (0, [(1, 1)])) (y_ev x (100, [(2, 1)])) (y_ev x (0, [])) (y_ev x (0, [])) (y_ev x (0, [(3, 1)])) (y_ev x (0, [(4, 1)])) (y_ev x (0, [(5, 1)])) (y_ev x (0, [(6, 1)])) (y_ev x (0, [(9, 1)])) ∧ True)
    (try rw [O0]); (try rw [O1]); (try rw [O2]); (try rw [O3]); (try rw [O4]); (try rw [O5]); (try rw [O6]); (try rw [O7]); (try rw [O8])
    exact K
def lm_338 : zLem := (([((-2147483648), 2147483647), ((-2147483648), 2147483647), ((-2147483648), 2147483647), ((-2147483648), 2147483647), ((-2147483648), 2147483647), ((-2147483648), 2147483647), ((-2147483648), 2147483647), ((-2147483648), 2147483647), ((-9223372036854775808), 9223372036854775807), ((-2147483648), 2147483647)], [(12, false)], [(400, [(1, (-1))]), ((-300), [(2, 1)]), (304, [(2, (-1))])], [], [], [(0, (false, 11, 0, []), 0, 0, 0, [(1, 1)])], [(40, [(0, [(0, 1)]), ((-1), [(1, 1)]), (0, [(2, 1)]), (1, []), (0, []), (0, [(3, 1)]), (0, [(4, 1)]), (0, [(5, 1)]), (0, [(6, 1)]), (0, [(9, 1)])]), (36, [(0, [(0, 1)]), ((-1), [(1, 1)]), (267, []), (0, [(7, 1)]), (0, [(8, 1)])])]), [([((-2147483648), 2147483647), ((-2147483648), 2147483647), ((-2147483648), 2147483647), ((-2147483648), 2147483647), ((-2147483648), 2147483647), ((-2147483648), 2147483647), ((-2147483648), 2147483647), ((-2147483648), 2147483647), ((-9223372036854775808), 9223372036854775807), ((-2147483648), 2147483647)], [(12, false)], [], [], [], [], [(40, [(0, [(0, 1)]), (0, [(1, 1)]), (100, [(2, 1)]), (0, []), (0, []), (0, [(3, 1)]), (0, [(4, 1)]), (0, [(5, 1)]), (0, [(6, 1)]), (0, [(9, 1)])])])])
theorem lk_338 : l_core lm_338 := by
  first
  | skip
    intro v x h
    have K := k_s_x2 (V := v) (n := x 0) (d := x 1) (st := x 2) (H := x 3) (L := x 4) (W := x 5) (WP := x 6) (s := x 7) (v := x 8) (S := x 9) (l_c10 (fun w0 w1 w2 w3 w4 w5 w6 w7 w8 w9 : Int => q_run2 (t_b v) w0 w1 w2 w3 w4 w5 w6 w7 w8 w9) (l_e1 x 0) (l_q2 1 x 1) (l_e1 x 2) (l_e0 x (1)) (l_e0 x (0)) (l_e1 x 3) (l_e1 x 4) (l_e1 x 5) (l_e1 x 6) (l_e1 x 9) (h.2.2.2.1)) (l_c5 (fun w0 w1 w2 w3 w4 : Int => q_tok (t_b v) w0 w1 w2 w3 w4) (l_e1 x 0) (l_q2 1 x 1) (l_e0 x (267)) (l_e1 x 7) (l_e1 x 8) (h.2.2.2.2.1)) (l_cc (l_q1 400 x 1) (h.2.1.1)) (l_cc (l_q2 300 x 2) (h.2.1.2.1)) (l_cc (l_q1 304 x 2) (h.2.1.2.2.1))
    refine l_outH rfl (And.intro h.1 ?_)
    exact l_o9 (fun w0 w1 w2 w3 w4 w5 w6 w7 w8 : Int => (True) ∧ (q_run2 (t_b v) w0 w1 w2 w3 w3 w4 w5 w6 w7 w8 ∧ True)) (l_e1 x 0) (l_e1 x 1) (l_q3 100 x 2) (l_e0 x (0)) (l_e1 x 3) (l_e1 x 4) (l_e1 x 5) (l_e1 x 6) (l_e1 x 9) K
  | skip
    intro v x h
    have C0 : (0 : Int) ≤ 400 - x 1 := l_cc (a := y_ev x (400, [(1, (-1))])) (by show ((400) : Int) + ((-1) * x 1 + 0) = 400 - x 1; omega) (h.2.1.1)
    have C1 : (0 : Int) ≤ x 2 - 300 := l_cc (a := y_ev x ((-300), [(2, 1)])) (by show ((-300) : Int) + ((1) * x 2 + 0) = x 2 - 300; omega) (h.2.1.2.1)
    have C2 : (0 : Int) ≤ 304 - x 2 := l_cc (a := y_ev x (304, [(2, (-1))])) (by show ((304) : Int) + ((-1) * x 2 + 0) = 304 - x 2; omega) (h.2.1.2.2.1)
    have E0 : y_ev x (0, [(0, 1)]) = x 0 := (l_e1 _ _)
    have E1 : y_ev x ((-1), [(1, 1)]) = x 1 - 1 := (by show ((-1) : Int) + ((1) * x 1 + 0) = x 1 - 1; omega)
    have E2 : y_ev x (0, [(2, 1)]) = x 2 := (l_e1 _ _)
    have E3 : y_ev x (1, []) = 1 := (l_e0 _ _)
    have E4 : y_ev x (0, []) = 0 := (l_e0 _ _)
    have E5 : y_ev x (0, [(3, 1)]) = x 3 := (l_e1 _ _)
    have E6 : y_ev x (0, [(4, 1)]) = x 4 := (l_e1 _ _)
    have E7 : y_ev x (0, [(5, 1)]) = x 5 := (l_e1 _ _)
    have E8 : y_ev x (0, [(6, 1)]) = x 6 := (l_e1 _ _)
    have E9 : y_ev x (0, [(9, 1)]) = x 9 := (l_e1 _ _)
    have E10 : y_ev x (267, []) = 267 := (l_e0 _ _)
    have E11 : y_ev x (0, [(7, 1)]) = x 7 := (l_e1 _ _)
    have E12 : y_ev x (0, [(8, 1)]) = x 8 := (l_e1 _ _)
    have T0 : q_run2 (t_b v) (y_ev x (0, [(0, 1)])) (y_ev x ((-1), [(1, 1)])) (y_ev x (0, [(2, 1)])) (y_ev x (1, [])) (y_ev x (0, [])) (y_ev x (0, [(3, 1)])) (y_ev x (0, [(4, 1)])) (y_ev x (0, [(5, 1)])) (y_ev x (0, [(6, 1)])) (y_ev x (0, [(9, 1)])) := h.2.2.2.1
    (try rw [E0] at T0); (try rw [E1] at T0); (try rw [E2] at T0); (try rw [E3] at T0); (try rw [E4] at T0); (try rw [E5] at T0); (try rw [E6] at T0); (try rw [E7] at T0); (try rw [E8] at T0); (try rw [E9] at T0)
    have T1 : q_tok (t_b v) (y_ev x (0, [(0, 1)])) (y_ev x ((-1), [(1, 1)])) (y_ev x (267, [])) (y_ev x (0, [(7, 1)])) (y_ev x (0, [(8, 1)])) := h.2.2.2.2.1
    (try rw [E0] at T1); (try rw [E1] at T1); (try rw [E10] at T1); (try rw [E11] at T1); (try rw [E12] at T1)
    have K := k_s_x2 (V := v) (n := x 0) (d := x 1) (st := x 2) (H := x 3) (L := x 4) (W := x 5) (WP := x 6) (s := x 7) (v := x 8) (S := x 9) T0 T1 C0 C1 C2
    refine l_outH rfl (And.intro h.1 ?_)
    have O0 : y_ev x (0, [(0, 1)]) = x 0 := l_e1 _ _
    have O1 : y_ev x (0, [(1, 1)]) = x 1 := l_e1 _ _
    have O2 : y_ev x (100, [(2, 1)]) = x 2 + 100 := by show ((100) : Int) + ((1) * x 2 + 0) = _; omega
    have O3 : y_ev x (0, []) = 0 := l_e0 _ _
    have O4 : y_ev x (0, [(3, 1)]) = x 3 := l_e1 _ _
    have O5 : y_ev x (0, [(4, 1)]) = x 4 := l_e1 _ _
    have O6 : y_ev x (0, [(5, 1)]) = x 5 := l_e1 _ _
    have O7 : y_ev x (0, [(6, 1)]) = x 6 := l_e1 _ _
    have O8 : y_ev x (0, [(9, 1)]) = x 9 := l_e1 _ _
    show (True) ∧ (q_run2 (t_b v) (y_ev x (0, [(0, 1)])) (y_ev x (0, [(1, 1)])) (y_ev x (100, [(2, 1)])) (y_ev x (0, [])) (y_ev x (0, [])) (y_ev x (0, [(3, 1)])) (y_ev x (0, [(4, 1)])) (y_ev x (0, [(5, 1)])) (y_ev x (0, [(6, 1)])) (y_ev x (0, [(9, 1)])) ∧ True)
    (try rw [O0]); (try rw [O1]); (try rw [O2]); (try rw [O3]); (try rw [O4]); (try rw [O5]); (try rw [O6]); (try rw [O7]); (try rw [O8])
    exact K
def lm_340 : zLem := (([((-2147483648), 2147483647), ((-2147483648), 2147483647), ((-2147483648), 2147483647), ((-2147483648), 2147483647), ((-2147483648), 2147483647), ((-2147483648), 2147483647), ((-2147483648), 2147483647), ((-2147483648), 2147483647), ((-9223372036854775808), 9223372036854775807), ((-2147483648), 2147483647)], [(12, false)], [(400, [(1, (-1))]), ((-400), [(2, 1)]), (404, [(2, (-1))])], [], [], [(0, (false, 11, 0, []), 0, 0, 0, [(1, 1)])], [(40, [(0, [(0, 1)]), ((-1), [(1, 1)]), (0, [(2, 1)]), (1, []), (0, []), (0, [(3, 1)]), (0, [(4, 1)]), (0, [(5, 1)]), (0, [(6, 1)]), (0, [(9, 1)])]), (36, [(0, [(0, 1)]), ((-1), [(1, 1)]), (268, []), (0, [(7, 1)]), (0, [(8, 1)])])]), [([((-2147483648), 2147483647), ((-2147483648), 2147483647), ((-2147483648), 2147483647), ((-2147483648), 2147483647), ((-2147483648), 2147483647), ((-2147483648), 2147483647), ((-2147483648), 2147483647), ((-2147483648), 2147483647), ((-9223372036854775808), 9223372036854775807), ((-2147483648), 2147483647)], [(12, false)], [], [], [], [], [(40, [(0, [(0, 1)]), (0, [(1, 1)]), ((-370), [(2, 1)]), (0, []), (0, []), (0, [(3, 1)]), (0, [(4, 1)]), (0, [(5, 1)]), (0, [(6, 1)]), (0, [(9, 1)])])])])
theorem lk_340 : l_core lm_340 := by
  first
  | skip
    intro v x h
    have K := k_s_x3 (V := v) (n := x 0) (d := x 1) (st := x 2) (H := x 3) (L := x 4) (W := x 5) (WP := x 6) (s := x 7) (v := x 8) (S := x 9) (l_c10 (fun w0 w1 w2 w3 w4 w5 w6 w7 w8 w9 : Int => q_run2 (t_b v) w0 w1 w2 w3 w4 w5 w6 w7 w8 w9) (l_e1 x 0) (l_q2 1 x 1) (l_e1 x 2) (l_e0 x (1)) (l_e0 x (0)) (l_e1 x 3) (l_e1 x 4) (l_e1 x 5) (l_e1 x 6) (l_e1 x 9) (h.2.2.2.1)) (l_c5 (fun w0 w1 w2 w3 w4 : Int => q_tok (t_b v) w0 w1 w2 w3 w4) (l_e1 x 0) (l_q2 1 x 1) (l_e0 x (268)) (l_e1 x 7) (l_e1 x 8) (h.2.2.2.2.1)) (l_cc (l_q1 400 x 1) (h.2.1.1)) (l_cc (l_q2 400 x 2) (h.2.1.2.1)) (l_cc (l_q1 404 x 2) (h.2.1.2.2.1))
    refine l_outH rfl (And.intro h.1 ?_)
    exact l_o9 (fun w0 w1 w2 w3 w4 w5 w6 w7 w8 : Int => (True) ∧ (q_run2 (t_b v) w0 w1 w2 w3 w3 w4 w5 w6 w7 w8 ∧ True)) (l_e1 x 0) (l_e1 x 1) (l_q2 370 x 2) (l_e0 x (0)) (l_e1 x 3) (l_e1 x 4) (l_e1 x 5) (l_e1 x 6) (l_e1 x 9) K
  | skip
    intro v x h
    have C0 : (0 : Int) ≤ 400 - x 1 := l_cc (a := y_ev x (400, [(1, (-1))])) (by show ((400) : Int) + ((-1) * x 1 + 0) = 400 - x 1; omega) (h.2.1.1)
    have C1 : (0 : Int) ≤ x 2 - 400 := l_cc (a := y_ev x ((-400), [(2, 1)])) (by show ((-400) : Int) + ((1) * x 2 + 0) = x 2 - 400; omega) (h.2.1.2.1)
    have C2 : (0 : Int) ≤ 404 - x 2 := l_cc (a := y_ev x (404, [(2, (-1))])) (by show ((404) : Int) + ((-1) * x 2 + 0) = 404 - x 2; omega) (h.2.1.2.2.1)
    have E0 : y_ev x (0, [(0, 1)]) = x 0 := (l_e1 _ _)
    have E1 : y_ev x ((-1), [(1, 1)]) = x 1 - 1 := (by show ((-1) : Int) + ((1) * x 1 + 0) = x 1 - 1; omega)
    have E2 : y_ev x (0, [(2, 1)]) = x 2 := (l_e1 _ _)
    have E3 : y_ev x (1, []) = 1 := (l_e0 _ _)
    have E4 : y_ev x (0, []) = 0 := (l_e0 _ _)
    have E5 : y_ev x (0, [(3, 1)]) = x 3 := (l_e1 _ _)
    have E6 : y_ev x (0, [(4, 1)]) = x 4 := (l_e1 _ _)
    have E7 : y_ev x (0, [(5, 1)]) = x 5 := (l_e1 _ _)
    have E8 : y_ev x (0, [(6, 1)]) = x 6 := (l_e1 _ _)
    have E9 : y_ev x (0, [(9, 1)]) = x 9 := (l_e1 _ _)
    have E10 : y_ev x (268, []) = 268 := (l_e0 _ _)
    have E11 : y_ev x (0, [(7, 1)]) = x 7 := (l_e1 _ _)
    have E12 : y_ev x (0, [(8, 1)]) = x 8 := (l_e1 _ _)
    have T0 : q_run2 (t_b v) (y_ev x (0, [(0, 1)])) (y_ev x ((-1), [(1, 1)])) (y_ev x (0, [(2, 1)])) (y_ev x (1, [])) (y_ev x (0, [])) (y_ev x (0, [(3, 1)])) (y_ev x (0, [(4, 1)])) (y_ev x (0, [(5, 1)])) (y_ev x (0, [(6, 1)])) (y_ev x (0, [(9, 1)])) := h.2.2.2.1
    (try rw [E0] at T0); (try rw [E1] at T0); (try rw [E2] at T0); (try rw [E3] at T0); (try rw [E4] at T0); (try rw [E5] at T0); (try rw [E6] at T0); (try rw [E7] at T0); (try rw [E8] at T0); (try rw [E9] at T0)
    have T1 : q_tok (t_b v) (y_ev x (0, [(0, 1)])) (y_ev x ((-1), [(1, 1)])) (y_ev x (268, [])) (y_ev x (0, [(7, 1)])) (y_ev x (0, [(8, 1)])) := h.2.2.2.2.1
    (try rw [E0] at T1); (try rw [E1] at T1); (try rw [E10] at T1); (try rw [E11] at T1); (try rw [E12] at T1)
    have K := k_s_x3 (V := v) (n := x 0) (d := x 1) (st := x 2) (H := x 3) (L := x 4) (W := x 5) (WP := x 6) (s := x 7) (v := x 8) (S := x 9) T0 T1 C0 C1 C2
    refine l_outH rfl (And.intro h.1 ?_)
    have O0 : y_ev x (0, [(0, 1)]) = x 0 := l_e1 _ _
    have O1 : y_ev x (0, [(1, 1)]) = x 1 := l_e1 _ _
    have O2 : y_ev x ((-370), [(2, 1)]) = x 2 - 370 := by show ((-370) : Int) + ((1) * x 2 + 0) = _; omega
    have O3 : y_ev x (0, []) = 0 := l_e0 _ _
    have O4 : y_ev x (0, [(3, 1)]) = x 3 := l_e1 _ _
    have O5 : y_ev x (0, [(4, 1)]) = x 4 := l_e1 _ _
    have O6 : y_ev x (0, [(5, 1)]) = x 5 := l_e1 _ _
    have O7 : y_ev x (0, [(6, 1)]) = x 6 := l_e1 _ _
    have O8 : y_ev x (0, [(9, 1)]) = x 9 := l_e1 _ _
    show (True) ∧ (q_run2 (t_b v) (y_ev x (0, [(0, 1)])) (y_ev x (0, [(1, 1)])) (y_ev x ((-370), [(2, 1)])) (y_ev x (0, [])) (y_ev x (0, [])) (y_ev x (0, [(3, 1)])) (y_ev x (0, [(4, 1)])) (y_ev x (0, [(5, 1)])) (y_ev x (0, [(6, 1)])) (y_ev x (0, [(9, 1)])) ∧ True)
    (try rw [O0]); (try rw [O1]); (try rw [O2]); (try rw [O3]); (try rw [O4]); (try rw [O5]); (try rw [O6]); (try rw [O7]); (try rw [O8])
    exact K
def lm_342 : zLem := (([((-2147483648), 2147483647), ((-2147483648), 2147483647), ((-2147483648), 2147483647), ((-2147483648), 2147483647), ((-2147483648), 2147483647), ((-2147483648), 2147483647), ((-2147483648), 2147483647), ((-2147483648), 2147483647), ((-9223372036854775808), 9223372036854775807), ((-2147483648), 2147483647)], [(12, false)], [(400, [(1, (-1))]), ((-500), [(2, 1)]), (504, [(2, (-1))])], [], [], [(0, (false, 11, 0, []), 0, 0, 0, [(1, 1)])], [(40, [(0, [(0, 1)]), ((-1), [(1, 1)]), (0, [(2, 1)]), (1, []), (0, []), (0, [(3, 1)]), (0, [(4, 1)]), (0, [(5, 1)]), (0, [(6, 1)]), (0, [(9, 1)])]), (36, [(0, [(0, 1)]), ((-1), [(1, 1)]), (59, []), (0, [(7, 1)]), (0, [(8, 1)])])]), [([((-2147483648), 2147483647), ((-2147483648), 2147483647), ((-2147483648), 2147483647), ((-2147483648), 2147483647), ((-2147483648), 2147483647), ((-2147483648), 2147483647), ((-2147483648), 2147483647), ((-2147483648), 2147483647), ((-9223372036854775808), 9223372036854775807), ((-2147483648), 2147483647)], [(12, false)], [], [], [], [], [(40, [(0, [(0, 1)]), (0, [(1, 1)]), (0, []), (0, []), (0, []), (0, [(3, 1)]), (0, [(4, 1)]), (0, [(5, 1)]), (0, [(6, 1)]), (1, [(9, 1)])])])])
theorem lk_342 : l_core lm_342 := by
  first
  | skip
    intro v x h
    have K := k_s_x4 (V := v) (n := x 0) (d := x 1) (st := x 2) (H := x 3) (L := x 4) (W := x 5) (WP := x 6) (s := x 7) (v := x 8) (S := x 9) (l_c10 (fun w0 w1 w2 w3 w4 w5 w6 w7 w8 w9 : Int => q_run2 (t_b v) w0 w1 w2 w3 w4 w5 w6 w7 w8 w9) (l_e1 x 0) (l_q2 1 x 1) (l_e1 x 2) (l_e0 x (1)) (l_e0 x (0)) (l_e1 x 3) (l_e1 x 4) (l_e1 x 5) (l_e1 x 6) (l_e1 x 9) (h.2.2.2.1)) (l_c5 (fun w0 w1 w2 w3 w4 : Int => q_tok (t_b v) w0 w1 w2 w3 w4) (l_e1 x 0) (l_q2 1 x 1) (l_e0 x (59)) (l_e1 x 7) (l_e1 x 8) (h.2.2.2.2.1)) (l_cc (l_q1 400 x 1) (h.2.1.1)) (l_cc (l_q2 500 x 2) (h.2.1.2.1)) (l_cc (l_q1 504 x 2) (h.2.1.2.2.1))
    refine l_outH rfl (And.intro h.1 ?_)
    exact l_o8 (fun w0 w1 w2 w3 w4 w5 w6 w7 : Int => (True) ∧ (q_run2 (t_b v) w0 w1 w2 w2 w2 w3 w4 w5 w6 w7 ∧ True)) (l_e1 x 0) (l_e1 x 1) (l_e0 x (0)) (l_e1 x 3) (l_e1 x 4) (l_e1 x 5) (l_e1 x 6) (l_q3 1 x 9) K
  | skip
    intro v x h
    have C0 : (0 : Int) ≤ 400 - x 1 := l_cc (a := y_ev x (400, [(1, (-1))])) (by show ((400) : Int) + ((-1) * x 1 + 0) = 400 - x 1; omega) (h.2.1.1)
    have C1 : (0 : Int) ≤ x 2 - 500 := l_cc (a := y_ev x ((-500), [(2, 1)])) (by show ((-500) : Int) + ((1) * x 2 + 0) = x 2 - 500; omega) (h.2.1.2.1)
    have C2 : (0 : Int) ≤ 504 - x 2 := l_cc (a := y_ev x (504, [(2, (-1))])) (by show ((504) : Int) + ((-1) * x 2 + 0) = 504 - x 2; omega) (h.2.1.2.2.1)
    have E0 : y_ev x (0, [(0, 1)]) = x 0 := (l_e1 _ _)
    have E1 : y_ev x ((-1), [(1, 1)]) = x 1 - 1 := (by show ((-1) : Int) + ((1) * x 1 + 0) = x 1 - 1; omega)
    have E2 : y_ev x (0, [(2, 1)]) = x 2 := (l_e1 _ _)
    have E3 : y_ev x (1, []) = 1 := (l_e0 _ _)
    have E4 : y_ev x (0, []) = 0 := (l_e0 _ _)
    have E5 : y_ev x (0, [(3, 1)]) = x 3 := (l_e1 _ _)
    have E6 : y_ev x (0, [(4, 1)]) = x 4 := (l_e1 _ _)
    have E7 : y_ev x (0, [(5, 1)]) = x 5 := (l_e1 _ _)
    have E8 : y_ev x (0, [(6, 1)]) = x 6 := (l_e1 _ _)
    have E9 : y_ev x (0, [(9, 1)]) = x 9 := (l_e1 _ _)
    have E10 : y_ev x (59, []) = 59 := (l_e0 _ _)
    have E11 : y_ev x (0, [(7, 1)]) = x 7 := (l_e1 _ _)
    have E12 : y_ev x (0, [(8, 1)]) = x 8 := (l_e1 _ _)
    have T0 : q_run2 (t_b v) (y_ev x (0, [(0, 1)])) (y_ev x ((-1), [(1, 1)])) (y_ev x (0, [(2, 1)])) (y_ev x (1, [])) (y_ev x (0, [])) (y_ev x (0, [(3, 1)])) (y_ev x (0, [(4, 1)])) (y_ev x (0, [(5, 1)])) (y_ev x (0, [(6, 1)])) (y_ev x (0, [(9, 1)])) := h.2.2.2.1
    (try rw [E0] at T0); (try rw [E1] at T0); (try rw [E2] at T0); (try rw [E3] at T0); (try rw [E4] at T0); (try rw [E5] at T0); (try rw [E6] at T0); (try rw [E7] at T0); (try rw [E8] at T0); (try rw [E9] at T0)
    have T1 : q_tok (t_b v) (y_ev x (0, [(0, 1)])) (y_ev x ((-1), [(1, 1)])) (y_ev x (59, [])) (y_ev x (0, [(7, 1)])) (y_ev x (0, [(8, 1)])) := h.2.2.2.2.1
    (try rw [E0] at T1); (try rw [E1] at T1); (try rw [E10] at T1); (try rw [E11] at T1); (try rw [E12] at T1)
    have K := k_s_x4 (V := v) (n := x 0) (d := x 1) (st := x 2) (H := x 3) (L := x 4) (W := x 5) (WP := x 6) (s := x 7) (v := x 8) (S := x 9) T0 T1 C0 C1 C2
    refine l_outH rfl (And.intro h.1 ?_)
    have O0 : y_ev x (0, [(0, 1)]) = x 0 := l_e1 _ _
    have O1 : y_ev x (0, [(1, 1)]) = x 1 := l_e1 _ _
    have O2 : y_ev x (0, []) = 0 := l_e0 _ _
    have O3 : y_ev x (0, [(3, 1)]) = x 3 := l_e1 _ _
    have O4 : y_ev x (0, [(4, 1)]) = x 4 := l_e1 _ _
    have O5 : y_ev x (0, [(5, 1)]) = x 5 := l_e1 _ _
    have O6 : y_ev x (0, [(6, 1)]) = x 6 := l_e1 _ _
    have O7 : y_ev x (1, [(9, 1)]) = x 9 + 1 := by show ((1) : Int) + ((1) * x 9 + 0) = _; omega
    show (True) ∧ (q_run2 (t_b v) (y_ev x (0, [(0, 1)])) (y_ev x (0, [(1, 1)])) (y_ev x (0, [])) (y_ev x (0, [])) (y_ev x (0, [])) (y_ev x (0, [(3, 1)])) (y_ev x (0, [(4, 1)])) (y_ev x (0, [(5, 1)])) (y_ev x (0, [(6, 1)])) (y_ev x (1, [(9, 1)])) ∧ True)
    (try rw [O0]); (try rw [O1]); (try rw [O2]); (try rw [O3]); (try rw [O4]); (try rw [O5]); (try rw [O6]); (try rw [O7])
    exact K
def lm_344 : zLem := (([((-2147483648), 2147483647), ((-2147483648), 2147483647), ((-2147483648), 2147483647), ((-2147483648), 2147483647), ((-2147483648), 2147483647), ((-2147483648), 2147483647), ((-2147483648), 2147483647), ((-2147483648), 2147483647), ((-9223372036854775808), 9223372036854775807), ((-2147483648), 2147483647)], [(12, false)], [(400, [(1, (-1))]), ((-30), [(2, 1)]), (33, [(2, (-1))])], [], [], [(0, (false, 11, 0, []), 0, 0, 0, [(1, 1)])], [(40, [(0, [(0, 1)]), ((-1), [(1, 1)]), (0, [(2, 1)]), (0, []), (0, []), (0, [(3, 1)]), (0, [(4, 1)]), (0, [(5, 1)]), (0, [(6, 1)]), (0, [(9, 1)])]), (36, [(0, [(0, 1)]), ((-1), [(1, 1)]), (266, []), (0, [(7, 1)]), (0, [(8, 1)])])]), [([((-2147483648), 2147483647), ((-2147483648), 2147483647), ((-2147483648), 2147483647), ((-2147483648), 2147483647), ((-2147483648), 2147483647), ((-2147483648), 2147483647), ((-2147483648), 2147483647), ((-2147483648), 2147483647), ((-9223372036854775808), 9223372036854775807), ((-2147483648), 2147483647)], [(12, false)], [], [], [], [], [(40, [(0, [(0, 1)]), (0, [(1, 1)]), (171, [(2, 1)]), (0, []), (0, []), (0, [(3, 1)]), (0, [(4, 1)]), (0, [(5, 1)]), (0, [(6, 1)]), (0, [(9, 1)])])])])
theorem lk_344 : l_core lm_344 := by
  first
  | skip
    intro v x h
    have K := k_s_if (V := v) (n := x 0) (d := x 1) (st := x 2) (H := x 3) (L := x 4) (W := x 5) (WP := x 6) (s := x 7) (v := x 8) (S := x 9) (l_c9 (fun w0 w1 w2 w3 w4 w5 w6 w7 w8 : Int => q_run2 (t_b v) w0 w1 w2 w3 w3 w4 w5 w6 w7 w8) (l_e1 x 0) (l_q2 1 x 1) (l_e1 x 2) (l_e0 x (0)) (l_e1 x 3) (l_e1 x 4) (l_e1 x 5) (l_e1 x 6) (l_e1 x 9) (h.2.2.2.1)) (l_c5 (fun w0 w1 w2 w3 w4 : Int => q_tok (t_b v) w0 w1 w2 w3 w4) (l_e1 x 0) (l_q2 1 x 1) (l_e0 x (266)) (l_e1 x 7) (l_e1 x 8) (h.2.2.2.2.1)) (l_cc (l_q1 400 x 1) (h.2.1.1)) (l_cc (l_q2 30 x 2) (h.2.1.2.1)) (l_cc (l_q1 33 x 2) (h.2.1.2.2.1))
    refine l_outH rfl (And.intro h.1 ?_)
    exact l_o9 (fun w0 w1 w2 w3 w4 w5 w6 w7 w8 : Int => (True) ∧ (q_run2 (t_b v) w0 w1 w2 w3 w3 w4 w5 w6 w7 w8 ∧ True)) (l_e1 x 0) (l_e1 x 1) (l_q3 171 x 2) (l_e0 x (0)) (l_e1 x 3) (l_e1 x 4) (l_e1 x 5) (l_e1 x 6) (l_e1 x 9) K
  | skip
    intro v x h
    have C0 : (0 : Int) ≤ 400 - x 1 := l_cc (a := y_ev x (400, [(1, (-1))])) (by show ((400) : Int) + ((-1) * x 1 + 0) = 400 - x 1; omega) (h.2.1.1)
    have C1 : (0 : Int) ≤ x 2 - 30 := l_cc (a := y_ev x ((-30), [(2, 1)])) (by show ((-30) : Int) + ((1) * x 2 + 0) = x 2 - 30; omega) (h.2.1.2.1)
    have C2 : (0 : Int) ≤ 33 - x 2 := l_cc (a := y_ev x (33, [(2, (-1))])) (by show ((33) : Int) + ((-1) * x 2 + 0) = 33 - x 2; omega) (h.2.1.2.2.1)
    have E0 : y_ev x (0, [(0, 1)]) = x 0 := (l_e1 _ _)
    have E1 : y_ev x ((-1), [(1, 1)]) = x 1 - 1 := (by show ((-1) : Int) + ((1) * x 1 + 0) = x 1 - 1; omega)
    have E2 : y_ev x (0, [(2, 1)]) = x 2 := (l_e1 _ _)
    have E3 : y_ev x (0, []) = 0 := (l_e0 _ _)
    have E4 : y_ev x (0, [(3, 1)]) = x 3 := (l_e1 _ _)
    have E5 : y_ev x (0, [(4, 1)]) = x 4 := (l_e1 _ _)
    have E6 : y_ev x (0, [(5, 1)]) = x 5 := (l_e1 _ _)
    have E7 : y_ev x (0, [(6, 1)]) = x 6 := (l_e1 _ _)
    have E8 : y_ev x (0, [(9, 1)]) = x 9 := (l_e1 _ _)
    have E9 : y_ev x (266, []) = 266 := (l_e0 _ _)
    have E10 : y_ev x (0, [(7, 1)]) = x 7 := (l_e1 _ _)
    have E11 : y_ev x (0, [(8, 1)]) = x 8 := (l_e1 _ _)
    have T0 : q_run2 (t_b v) (y_ev x (0, [(0, 1)])) (y_ev x ((-1), [(1, 1)])) (y_ev x (0, [(2, 1)])) (y_ev x (0, [])) (y_ev x (0, [])) (y_ev x (0, [(3, 1)])) (y_ev x (0, [(4, 1)])) (y_ev x (0, [(5, 1)])) (y_ev x (0, [(6, 1)])) (y_ev x (0, [(9, 1)])) := h.2.2.2.1
    (try rw [E0] at T0); (try rw [E1] at T0); (try rw [E2] at T0); (try rw [E3] at T0); (try rw [E4] at T0); (try rw [E5] at T0); (try rw [E6] at T0); (try rw [E7] at T0); (try rw [E8] at T0)
    have T1 : q_tok (t_b v) (y_ev x (0, [(0, 1)])) (y_ev x ((-1), [(1, 1)])) (y_ev x (266, [])) (y_ev x (0, [(7, 1)])) (y_ev x (0, [(8, 1)])) := h.2.2.2.2.1
    (try rw [E0] at T1); (try rw [E1] at T1); (try rw [E9] at T1); (try rw [E10] at T1); (try rw [E11] at T1)
    have K := k_s_if (V := v) (n := x 0) (d := x 1) (st := x 2) (H := x 3) (L := x 4) (W := x 5) (WP := x 6) (s := x 7) (v := x 8) (S := x 9) T0 T1 C0 C1 C2
    refine l_outH rfl (And.intro h.1 ?_)
    have O0 : y_ev x (0, [(0, 1)]) = x 0 := l_e1 _ _
    have O1 : y_ev x (0, [(1, 1)]) = x 1 := l_e1 _ _
    have O2 : y_ev x (171, [(2, 1)]) = x 2 + 171 := by show ((171) : Int) + ((1) * x 2 + 0) = _; omega
    have O3 : y_ev x (0, []) = 0 := l_e0 _ _
    have O4 : y_ev x (0, [(3, 1)]) = x 3 := l_e1 _ _
    have O5 : y_ev x (0, [(4, 1)]) = x 4 := l_e1 _ _
    have O6 : y_ev x (0, [(5, 1)]) = x 5 := l_e1 _ _
    have O7 : y_ev x (0, [(6, 1)]) = x 6 := l_e1 _ _
    have O8 : y_ev x (0, [(9, 1)]) = x 9 := l_e1 _ _
    show (True) ∧ (q_run2 (t_b v) (y_ev x (0, [(0, 1)])) (y_ev x (0, [(1, 1)])) (y_ev x (171, [(2, 1)])) (y_ev x (0, [])) (y_ev x (0, [])) (y_ev x (0, [(3, 1)])) (y_ev x (0, [(4, 1)])) (y_ev x (0, [(5, 1)])) (y_ev x (0, [(6, 1)])) (y_ev x (0, [(9, 1)])) ∧ True)
    (try rw [O0]); (try rw [O1]); (try rw [O2]); (try rw [O3]); (try rw [O4]); (try rw [O5]); (try rw [O6]); (try rw [O7]); (try rw [O8])
    exact K
def lm_354 : zLem := (([((-2147483648), 2147483647), ((-2147483648), 2147483647)], [(12, false)], [(0, [(1, 1)]), (0, [(1, (-1))])], [], [], [(0, (false, 11, 0, []), 0, 0, 0, [(1, 1)])], [(57, [(0, [(0, 1)])])]), [([((-2147483648), 2147483647), ((-2147483648), 2147483647)], [(12, false)], [], [], [], [], [(58, [(0, [(0, 1)]), (0, [(1, 1)])])])])
theorem lk_354 : l_core lm_354 := by
  first
  | skip
    intro v x h
    have K := k_msc0 (V := v) (n := x 0) (c := x 1) (l_c1 (fun w0 : Int => q_all (t_b v) w0 (q_mr v w0)) (l_e1 x 0) (h.2.2.2.1)) (l_cc (l_e1 x 1) (h.2.1.1)) (l_cc (l_q7 x 1) (h.2.1.2.1))
    refine l_outH rfl (And.intro h.1 ?_)
    exact l_o2 (fun w0 w1 : Int => (True) ∧ (q_upto (t_b v) w0 w1 (q_mr v w0) ∧ True)) (l_e1 x 0) (l_e1 x 1) K
  | skip
    intro v x h
    have C0 : (0 : Int) ≤ x 1 := l_cc (a := y_ev x (0, [(1, 1)])) (l_e1 _ _) (h.2.1.1)
    have C1 : (0 : Int) ≤ -x 1 := l_cc (a := y_ev x (0, [(1, (-1))])) (by show ((0) : Int) + ((-1) * x 1 + 0) = -x 1; omega) (h.2.1.2.1)
    have E0 : y_ev x (0, [(0, 1)]) = x 0 := (l_e1 _ _)
    have T0 : q_all (t_b v) (y_ev x (0, [(0, 1)])) (q_mr v (y_ev x (0, [(0, 1)]))) := h.2.2.2.1
    (try rw [E0] at T0)
    have K := k_msc0 (V := v) (n := x 0) (c := x 1) T0 C0 C1
    refine l_outH rfl (And.intro h.1 ?_)
    have O0 : y_ev x (0, [(0, 1)]) = x 0 := l_e1 _ _
    have O1 : y_ev x (0, [(1, 1)]) = x 1 := l_e1 _ _
    show (True) ∧ (q_upto (t_b v) (y_ev x (0, [(0, 1)])) (y_ev x (0, [(1, 1)])) (q_mr v (y_ev x (0, [(0, 1)]))) ∧ True)
    (try rw [O0]); (try rw [O1])
    exact K
def lm_355 : zLem := (([((-2147483648), 2147483647), ((-2147483648), 2147483647), ((-2147483648), 2147483647), ((-2147483648), 2147483647)], [(12, false), (50, false), (51, false)], [], [], [], [(0, (false, 11, 0, []), 0, 0, 0, [(1, 1)]), (1, (true, 0, 0, [(1, 1)]), 0, 0, 0, [(2, 1)]), (2, (true, 0, 0, [(1, 1)]), 0, 0, 0, [(3, 1)])], [(58, [(0, [(0, 1)]), (0, [(1, 1)])])]), [([((-2147483648), 2147483647), ((-2147483648), 2147483647), ((-2147483648), 2147483647), ((-2147483648), 2147483647)], [(12, false), (50, false), (51, false)], [(0, [(2, 1)]), (41, [(2, (-1))]), (0, [(3, 1)]), (0, [(0, 1), (3, (-1))])], [], [], [], [(59, [(0, [(0, 1)]), (0, [(1, 1)]), (0, [(2, 1)]), (0, [(3, 1)])])])])
theorem lk_355 : l_core lm_355 := by
  first
  | skip
    intro v x h
    have G0 := h.2.2.1
    have G1 := G0.2
    have G2 := G1.2
    have K := k_mto (V := v) (n := x 0) (c := x 1) (u := x 2) (s := x 3) (l_c2 (fun w0 w1 : Int => q_upto (t_b v) w0 w1 (q_mr v w0)) (l_e1 x 0) (l_e1 x 1) (h.2.2.2.1)) (l_ff (f := v 50) (L := j_len 50) (l_e1 x 1) (l_e1 x 2) (G1.1.1)) (l_ff (f := v 51) (L := j_len 51) (l_e1 x 1) (l_e1 x 3) (G2.1.1))
    refine l_outH rfl (And.intro h.1 ?_)
    exact l_o6 (fun w0 w1 w2 w3 w4 w5 : Int => (0 ≤ w0 ∧ 0 ≤ w1 ∧ 0 ≤ w2 ∧ 0 ≤ w3 ∧ True) ∧ ((0 ≤ w5 ∧ 0 ≤ w0 ∧ w0 ≤ 41 ∧ t_km w0 = tk (t_b v) w4 w5.toNat ∧ w2 = t_s (t_b v) w4 w5.toNat) ∧ True)) (l_e1 x 2) (l_q1 41 x 2) (l_e1 x 3) (l_q5 x 0 3) (l_e1 x 0) (l_e1 x 1) K
  | skip
    intro v x h
    have G0 := h.2.2.1
    have G1 := G0.2
    have G2 := G1.2
    have F0 : (0 : Int) ≤ x 1 ∧ (x 1 : Int) < j_len 50 ∧ v 50 (x 1) = x 2 := l_ff (f := v 50) (L := j_len 50) (a := y_ev x (0, [(1, 1)])) (b := y_ev x (0, [(2, 1)])) (l_e1 _ _) (l_e1 _ _) (G1.1.1)
    have F1 : (0 : Int) ≤ x 1 ∧ (x 1 : Int) < j_len 51 ∧ v 51 (x 1) = x 3 := l_ff (f := v 51) (L := j_len 51) (a := y_ev x (0, [(1, 1)])) (b := y_ev x (0, [(3, 1)])) (l_e1 _ _) (l_e1 _ _) (G2.1.1)
    have E0 : y_ev x (0, [(0, 1)]) = x 0 := (l_e1 _ _)
    have E1 : y_ev x (0, [(1, 1)]) = x 1 := (l_e1 _ _)
    have T0 : q_upto (t_b v) (y_ev x (0, [(0, 1)])) (y_ev x (0, [(1, 1)])) (q_mr v (y_ev x (0, [(0, 1)]))) := h.2.2.2.1
    (try rw [E0] at T0); (try rw [E1] at T0)
    have K := k_mto (V := v) (n := x 0) (c := x 1) (u := x 2) (s := x 3) T0 F0 F1
    refine l_outH rfl (And.intro h.1 ?_)
    have O0 : y_ev x (0, [(2, 1)]) = x 2 := l_e1 _ _
    have O1 : y_ev x (41, [(2, (-1))]) = 41 - x 2 := by show ((41) : Int) + ((-1) * x 2 + 0) = _; omega
    have O2 : y_ev x (0, [(3, 1)]) = x 3 := l_e1 _ _
    have O3 : y_ev x (0, [(0, 1), (3, (-1))]) = x 0 - x 3 := by show ((0) : Int) + ((1) * x 0 + ((-1) * x 3 + 0)) = _; omega
    have O4 : y_ev x (0, [(0, 1)]) = x 0 := l_e1 _ _
    have O5 : y_ev x (0, [(1, 1)]) = x 1 := l_e1 _ _
    show (0 ≤ y_ev x (0, [(2, 1)]) ∧ 0 ≤ y_ev x (41, [(2, (-1))]) ∧ 0 ≤ y_ev x (0, [(3, 1)]) ∧ 0 ≤ y_ev x (0, [(0, 1), (3, (-1))]) ∧ True) ∧ ((0 ≤ (y_ev x (0, [(1, 1)])) ∧ 0 ≤ (y_ev x (0, [(2, 1)])) ∧ (y_ev x (0, [(2, 1)])) ≤ 41 ∧ t_km (y_ev x (0, [(2, 1)])) = tk (t_b v) (y_ev x (0, [(0, 1)])) (y_ev x (0, [(1, 1)])).toNat ∧ (y_ev x (0, [(3, 1)])) = t_s (t_b v) (y_ev x (0, [(0, 1)])) (y_ev x (0, [(1, 1)])).toNat) ∧ True)
    (try rw [O0]); (try rw [O1]); (try rw [O2]); (try rw [O3]); (try rw [O4]); (try rw [O5])
    exact K
def lm_356 : zLem := (([((-2147483648), 2147483647), ((-2147483648), 2147483647), ((-2147483648), 2147483647), ((-2147483648), 2147483647)], [(12, false)], [((-1), [(2, 1)]), (400, [(1, (-1))])], [], [], [(0, (false, 11, 0, []), 0, 0, 0, [(1, 1)])], [(58, [(0, [(0, 1)]), ((-1), [(1, 1)])]), (59, [(0, [(0, 1)]), ((-1), [(1, 1)]), (0, [(2, 1)]), (0, [(3, 1)])])]), [([((-2147483648), 2147483647), ((-2147483648), 2147483647), ((-2147483648), 2147483647), ((-2147483648), 2147483647)], [(12, false)], [], [], [], [], [(58, [(0, [(0, 1)]), (0, [(1, 1)])])])])
theorem lk_356 : l_core lm_356 := by
  first
  | skip
    intro v x h
    have K := k_mscS (V := v) (n := x 0) (d := x 1) (u := x 2) (s := x 3) (l_c2 (fun w0 w1 : Int => q_upto (t_b v) w0 w1 (q_mr v w0)) (l_e1 x 0) (l_q2 1 x 1) (h.2.2.2.1)) (l_c4 (fun w0 w1 w2 w3 : Int => 0 ≤ w1 ∧ 0 ≤ w2 ∧ w2 ≤ 41 ∧ t_km w2 = tk (t_b v) w0 w1.toNat ∧ w3 = t_s (t_b v) w0 w1.toNat) (l_e1 x 0) (l_q2 1 x 1) (l_e1 x 2) (l_e1 x 3) (h.2.2.2.2.1)) (l_cc (l_q2 1 x 2) (h.2.1.1)) (l_cc (l_q1 400 x 1) (h.2.1.2.1))
    refine l_outH rfl (And.intro h.1 ?_)
    exact l_o2 (fun w0 w1 : Int => (True) ∧ (q_upto (t_b v) w0 w1 (q_mr v w0) ∧ True)) (l_e1 x 0) (l_e1 x 1) K
  | skip
    intro v x h
    have C0 : (0 : Int) ≤ x 2 - 1 := l_cc (a := y_ev x ((-1), [(2, 1)])) (by show ((-1) : Int) + ((1) * x 2 + 0) = x 2 - 1; omega) (h.2.1.1)
    have C1 : (0 : Int) ≤ 400 - x 1 := l_cc (a := y_ev x (400, [(1, (-1))])) (by show ((400) : Int) + ((-1) * x 1 + 0) = 400 - x 1; omega) (h.2.1.2.1)
    have E0 : y_ev x (0, [(0, 1)]) = x 0 := (l_e1 _ _)
    have E1 : y_ev x ((-1), [(1, 1)]) = x 1 - 1 := (by show ((-1) : Int) + ((1) * x 1 + 0) = x 1 - 1; omega)
    have E2 : y_ev x (0, [(2, 1)]) = x 2 := (l_e1 _ _)
    have E3 : y_ev x (0, [(3, 1)]) = x 3 := (l_e1 _ _)
    have T0 : q_upto (t_b v) (y_ev x (0, [(0, 1)])) (y_ev x ((-1), [(1, 1)])) (q_mr v (y_ev x (0, [(0, 1)]))) := h.2.2.2.1
    (try rw [E0] at T0); (try rw [E1] at T0)
    have T1 : 0 ≤ (y_ev x ((-1), [(1, 1)])) ∧ 0 ≤ (y_ev x (0, [(2, 1)])) ∧ (y_ev x (0, [(2, 1)])) ≤ 41 ∧ t_km (y_ev x (0, [(2, 1)])) = tk (t_b v) (y_ev x (0, [(0, 1)])) (y_ev x ((-1), [(1, 1)])).toNat ∧ (y_ev x (0, [(3, 1)])) = t_s (t_b v) (y_ev x (0, [(0, 1)])) (y_ev x ((-1), [(1, 1)])).toNat := h.2.2.2.2.1
    (try rw [E0] at T1); (try rw [E1] at T1); (try rw [E2] at T1); (try rw [E3] at T1)
    have K := k_mscS (V := v) (n := x 0) (d := x 1) (u := x 2) (s := x 3) T0 T1 C0 C1
    refine l_outH rfl (And.intro h.1 ?_)
    have O0 : y_ev x (0, [(0, 1)]) = x 0 := l_e1 _ _
    have O1 : y_ev x (0, [(1, 1)]) = x 1 := l_e1 _ _
    show (True) ∧ (q_upto (t_b v) (y_ev x (0, [(0, 1)])) (y_ev x (0, [(1, 1)])) (q_mr v (y_ev x (0, [(0, 1)]))) ∧ True)
    (try rw [O0]); (try rw [O1])
    exact K
def lm_357 : zLem := (([((-2147483648), 2147483647), ((-2147483648), 2147483647), ((-2147483648), 2147483647)], [(12, false)], [((-1), [(1, 1)])], [], [], [(0, (false, 11, 0, []), 0, 0, 0, [(1, 1)])], [(59, [(0, [(0, 1)]), ((-1), [(1, 1)]), (1, []), (0, [(2, 1)])])]), [([((-2147483648), 2147483647), ((-2147483648), 2147483647), ((-2147483648), 2147483647), ((-9223372036854775808), 9223372036854775807)], [(12, false)], [], [], [], [], [(36, [(0, [(0, 1)]), ((-1), [(1, 1)]), (2, []), (0, [(2, 1)]), (0, [(3, 1)])])])])
theorem lk_357 : l_core lm_357 := by
  first
  | skip
    intro v x h
    have K := k_m2t_1 (V := v) (n := x 0) (d := x 1) (s := x 2) (l_c4 (fun w0 w1 w2 w3 : Int => 0 ≤ w1 ∧ 0 ≤ w2 ∧ w2 ≤ 41 ∧ t_km w2 = tk (t_b v) w0 w1.toNat ∧ w3 = t_s (t_b v) w0 w1.toNat) (l_e1 x 0) (l_q2 1 x 1) (l_e0 x (1)) (l_e1 x 2) (h.2.2.2.1)) (l_cc (l_q2 1 x 1) (h.2.1.1))
    obtain ⟨z, K1, K2⟩ := K
    refine l_outN rfl z (And.intro (And.intro h.1.1 (And.intro h.1.2.1 (And.intro h.1.2.2.1 (And.intro K1 trivial)))) ?_)
    exact l_o5 (fun w0 w1 w2 w3 w4 : Int => (True) ∧ (q_tok (t_b v) w0 w1 w2 w3 w4 ∧ True)) (show y_ev (l_ex x 3 z) (0, [(0, 1)]) = x 0 from l_e1 (l_ex x 3 z) 0) (show y_ev (l_ex x 3 z) ((-1), [(1, 1)]) = x 1 - 1 by show ((-1) : Int) + ((1) * x 1 + 0) = _; omega) (l_e0 (l_ex x 3 z) (2)) (show y_ev (l_ex x 3 z) (0, [(2, 1)]) = x 2 from l_e1 (l_ex x 3 z) 2) (show y_ev (l_ex x 3 z) (0, [(3, 1)]) = z from l_e1 (l_ex x 3 z) 3) K2
  | skip
    intro v x h
    have C0 : (0 : Int) ≤ x 1 - 1 := l_cc (a := y_ev x ((-1), [(1, 1)])) (by show ((-1) : Int) + ((1) * x 1 + 0) = x 1 - 1; omega) (h.2.1.1)
    have E0 : y_ev x (0, [(0, 1)]) = x 0 := (l_e1 _ _)
    have E1 : y_ev x ((-1), [(1, 1)]) = x 1 - 1 := (by show ((-1) : Int) + ((1) * x 1 + 0) = x 1 - 1; omega)
    have E2 : y_ev x (1, []) = 1 := (l_e0 _ _)
    have E3 : y_ev x (0, [(2, 1)]) = x 2 := (l_e1 _ _)
    have T0 : 0 ≤ (y_ev x ((-1), [(1, 1)])) ∧ 0 ≤ (y_ev x (1, [])) ∧ (y_ev x (1, [])) ≤ 41 ∧ t_km (y_ev x (1, [])) = tk (t_b v) (y_ev x (0, [(0, 1)])) (y_ev x ((-1), [(1, 1)])).toNat ∧ (y_ev x (0, [(2, 1)])) = t_s (t_b v) (y_ev x (0, [(0, 1)])) (y_ev x ((-1), [(1, 1)])).toNat := h.2.2.2.1
    (try rw [E0] at T0); (try rw [E1] at T0); (try rw [E2] at T0); (try rw [E3] at T0)
    have K := k_m2t_1 (V := v) (n := x 0) (d := x 1) (s := x 2) T0 C0
    obtain ⟨z, K1, K2⟩ := K
    refine l_outN rfl z (And.intro (And.intro h.1.1 (And.intro h.1.2.1 (And.intro h.1.2.2.1 (And.intro K1 trivial)))) ?_)
    have O0 : y_ev (l_ex x 3 z) (0, [(0, 1)]) = x 0 := by show ((0) : Int) + ((1) * x 0 + 0) = _; omega
    have O1 : y_ev (l_ex x 3 z) ((-1), [(1, 1)]) = x 1 - 1 := by show ((-1) : Int) + ((1) * x 1 + 0) = _; omega
    have O2 : y_ev (l_ex x 3 z) (2, []) = 2 := by show ((2) : Int) + 0 = _; omega
    have O3 : y_ev (l_ex x 3 z) (0, [(2, 1)]) = x 2 := by show ((0) : Int) + ((1) * x 2 + 0) = _; omega
    have O4 : y_ev (l_ex x 3 z) (0, [(3, 1)]) = z := by show ((0) : Int) + ((1) * z + 0) = _; omega
    show (True) ∧ (q_tok (t_b v) (y_ev (l_ex x 3 z) (0, [(0, 1)])) (y_ev (l_ex x 3 z) ((-1), [(1, 1)])) (y_ev (l_ex x 3 z) (2, [])) (y_ev (l_ex x 3 z) (0, [(2, 1)])) (y_ev (l_ex x 3 z) (0, [(3, 1)])) ∧ True)
    (try rw [O0]); (try rw [O1]); (try rw [O2]); (try rw [O3]); (try rw [O4])
    exact K2
def lm_358 : zLem := (([((-2147483648), 2147483647), ((-2147483648), 2147483647), ((-2147483648), 2147483647)], [(12, false)], [((-1), [(1, 1)])], [], [], [(0, (false, 11, 0, []), 0, 0, 0, [(1, 1)])], [(59, [(0, [(0, 1)]), ((-1), [(1, 1)]), (2, []), (0, [(2, 1)])])]), [([((-2147483648), 2147483647), ((-2147483648), 2147483647), ((-2147483648), 2147483647), ((-9223372036854775808), 9223372036854775807)], [(12, false)], [], [], [], [], [(36, [(0, [(0, 1)]), ((-1), [(1, 1)]), (3, []), (0, [(2, 1)]), (0, [(3, 1)])])])])
theorem lk_358 : l_core lm_358 := by
  first
  | skip
    intro v x h
    have K := k_m2t_2 (V := v) (n := x 0) (d := x 1) (s := x 2) (l_c4 (fun w0 w1 w2 w3 : Int => 0 ≤ w1 ∧ 0 ≤ w2 ∧ w2 ≤ 41 ∧ t_km w2 = tk (t_b v) w0 w1.toNat ∧ w3 = t_s (t_b v) w0 w1.toNat) (l_e1 x 0) (l_q2 1 x 1) (l_e0 x (2)) (l_e1 x 2) (h.2.2.2.1)) (l_cc (l_q2 1 x 1) (h.2.1.1))
    obtain ⟨z, K1, K2⟩ := K
    refine l_outN rfl z (And.intro (And.intro h.1.1 (And.intro h.1.2.1 (And.intro h.1.2.2.1 (And.intro K1 trivial)))) ?_)
    exact l_o5 (fun w0 w1 w2 w3 w4 : Int => (True) ∧ (q_tok (t_b v) w0 w1 w2 w3 w4 ∧ True)) (show y_ev (l_ex x 3 z) (0, [(0, 1)]) = x 0 from l_e1 (l_ex x 3 z) 0) (show y_ev (l_ex x 3 z) ((-1), [(1, 1)]) = x 1 - 1 by show ((-1) : Int) + ((1) * x 1 + 0) = _; omega) (l_e0 (l_ex x 3 z) (3)) (show y_ev (l_ex x 3 z) (0, [(2, 1)]) = x 2 from l_e1 (l_ex x 3 z) 2) (show y_ev (l_ex x 3 z) (0, [(3, 1)]) = z from l_e1 (l_ex x 3 z) 3) K2
  | skip
    intro v x h
    have C0 : (0 : Int) ≤ x 1 - 1 := l_cc (a := y_ev x ((-1), [(1, 1)])) (by show ((-1) : Int) + ((1) * x 1 + 0) = x 1 - 1; omega) (h.2.1.1)
    have E0 : y_ev x (0, [(0, 1)]) = x 0 := (l_e1 _ _)
    have E1 : y_ev x ((-1), [(1, 1)]) = x 1 - 1 := (by show ((-1) : Int) + ((1) * x 1 + 0) = x 1 - 1; omega)
    have E2 : y_ev x (2, []) = 2 := (l_e0 _ _)
    have E3 : y_ev x (0, [(2, 1)]) = x 2 := (l_e1 _ _)
    have T0 : 0 ≤ (y_ev x ((-1), [(1, 1)])) ∧ 0 ≤ (y_ev x (2, [])) ∧ (y_ev x (2, [])) ≤ 41 ∧ t_km (y_ev x (2, [])) = tk (t_b v) (y_ev x (0, [(0, 1)])) (y_ev x ((-1), [(1, 1)])).toNat ∧ (y_ev x (0, [(2, 1)])) = t_s (t_b v) (y_ev x (0, [(0, 1)])) (y_ev x ((-1), [(1, 1)])).toNat := h.2.2.2.1
    (try rw [E0] at T0); (try rw [E1] at T0); (try rw [E2] at T0); (try rw [E3] at T0)
    have K := k_m2t_2 (V := v) (n := x 0) (d := x 1) (s := x 2) T0 C0
    obtain ⟨z, K1, K2⟩ := K
    refine l_outN rfl z (And.intro (And.intro h.1.1 (And.intro h.1.2.1 (And.intro h.1.2.2.1 (And.intro K1 trivial)))) ?_)
    have O0 : y_ev (l_ex x 3 z) (0, [(0, 1)]) = x 0 := by show ((0) : Int) + ((1) * x 0 + 0) = _; omega
    have O1 : y_ev (l_ex x 3 z) ((-1), [(1, 1)]) = x 1 - 1 := by show ((-1) : Int) + ((1) * x 1 + 0) = _; omega
    have O2 : y_ev (l_ex x 3 z) (3, []) = 3 := by show ((3) : Int) + 0 = _; omega
    have O3 : y_ev (l_ex x 3 z) (0, [(2, 1)]) = x 2 := by show ((0) : Int) + ((1) * x 2 + 0) = _; omega
    have O4 : y_ev (l_ex x 3 z) (0, [(3, 1)]) = z := by show ((0) : Int) + ((1) * z + 0) = _; omega
    show (True) ∧ (q_tok (t_b v) (y_ev (l_ex x 3 z) (0, [(0, 1)])) (y_ev (l_ex x 3 z) ((-1), [(1, 1)])) (y_ev (l_ex x 3 z) (3, [])) (y_ev (l_ex x 3 z) (0, [(2, 1)])) (y_ev (l_ex x 3 z) (0, [(3, 1)])) ∧ True)
    (try rw [O0]); (try rw [O1]); (try rw [O2]); (try rw [O3]); (try rw [O4])
    exact K2
def lm_360 : zLem := (([((-2147483648), 2147483647), ((-2147483648), 2147483647), ((-2147483648), 2147483647)], [(12, false)], [((-1), [(1, 1)])], [], [], [(0, (false, 11, 0, []), 0, 0, 0, [(1, 1)])], [(59, [(0, [(0, 1)]), ((-1), [(1, 1)]), (4, []), (0, [(2, 1)])])]), [([((-2147483648), 2147483647), ((-2147483648), 2147483647), ((-2147483648), 2147483647), ((-9223372036854775808), 9223372036854775807)], [(12, false)], [], [], [], [], [(36, [(0, [(0, 1)]), ((-1), [(1, 1)]), (59, []), (0, [(2, 1)]), (0, [(3, 1)])])])])
theorem lk_360 : l_core lm_360 := by
  first
  | skip
    intro v x h
    have K := k_m2t_4 (V := v) (n := x 0) (d := x 1) (s := x 2) (l_c4 (fun w0 w1 w2 w3 : Int => 0 ≤ w1 ∧ 0 ≤ w2 ∧ w2 ≤ 41 ∧ t_km w2 = tk (t_b v) w0 w1.toNat ∧ w3 = t_s (t_b v) w0 w1.toNat) (l_e1 x 0) (l_q2 1 x 1) (l_e0 x (4)) (l_e1 x 2) (h.2.2.2.1)) (l_cc (l_q2 1 x 1) (h.2.1.1))
    obtain ⟨z, K1, K2⟩ := K
    refine l_outN rfl z (And.intro (And.intro h.1.1 (And.intro h.1.2.1 (And.intro h.1.2.2.1 (And.intro K1 trivial)))) ?_)
    exact l_o5 (fun w0 w1 w2 w3 w4 : Int => (True) ∧ (q_tok (t_b v) w0 w1 w2 w3 w4 ∧ True)) (show y_ev (l_ex x 3 z) (0, [(0, 1)]) = x 0 from l_e1 (l_ex x 3 z) 0) (show y_ev (l_ex x 3 z) ((-1), [(1, 1)]) = x 1 - 1 by show ((-1) : Int) + ((1) * x 1 + 0) = _; omega) (l_e0 (l_ex x 3 z) (59)) (show y_ev (l_ex x 3 z) (0, [(2, 1)]) = x 2 from l_e1 (l_ex x 3 z) 2) (show y_ev (l_ex x 3 z) (0, [(3, 1)]) = z from l_e1 (l_ex x 3 z) 3) K2
  | skip
    intro v x h
    have C0 : (0 : Int) ≤ x 1 - 1 := l_cc (a := y_ev x ((-1), [(1, 1)])) (by show ((-1) : Int) + ((1) * x 1 + 0) = x 1 - 1; omega) (h.2.1.1)
    have E0 : y_ev x (0, [(0, 1)]) = x 0 := (l_e1 _ _)
    have E1 : y_ev x ((-1), [(1, 1)]) = x 1 - 1 := (by show ((-1) : Int) + ((1) * x 1 + 0) = x 1 - 1; omega)
    have E2 : y_ev x (4, []) = 4 := (l_e0 _ _)
    have E3 : y_ev x (0, [(2, 1)]) = x 2 := (l_e1 _ _)
    have T0 : 0 ≤ (y_ev x ((-1), [(1, 1)])) ∧ 0 ≤ (y_ev x (4, [])) ∧ (y_ev x (4, [])) ≤ 41 ∧ t_km (y_ev x (4, [])) = tk (t_b v) (y_ev x (0, [(0, 1)])) (y_ev x ((-1), [(1, 1)])).toNat ∧ (y_ev x (0, [(2, 1)])) = t_s (t_b v) (y_ev x (0, [(0, 1)])) (y_ev x ((-1), [(1, 1)])).toNat := h.2.2.2.1
    (try rw [E0] at T0); (try rw [E1] at T0); (try rw [E2] at T0); (try rw [E3] at T0)
    have K := k_m2t_4 (V := v) (n := x 0) (d := x 1) (s := x 2) T0 C0
    obtain ⟨z, K1, K2⟩ := K
    refine l_outN rfl z (And.intro (And.intro h.1.1 (And.intro h.1.2.1 (And.intro h.1.2.2.1 (And.intro K1 trivial)))) ?_)
    have O0 : y_ev (l_ex x 3 z) (0, [(0, 1)]) = x 0 := by show ((0) : Int) + ((1) * x 0 + 0) = _; omega
    have O1 : y_ev (l_ex x 3 z) ((-1), [(1, 1)]) = x 1 - 1 := by show ((-1) : Int) + ((1) * x 1 + 0) = _; omega
    have O2 : y_ev (l_ex x 3 z) (59, []) = 59 := by show ((59) : Int) + 0 = _; omega
    have O3 : y_ev (l_ex x 3 z) (0, [(2, 1)]) = x 2 := by show ((0) : Int) + ((1) * x 2 + 0) = _; omega
    have O4 : y_ev (l_ex x 3 z) (0, [(3, 1)]) = z := by show ((0) : Int) + ((1) * z + 0) = _; omega
    show (True) ∧ (q_tok (t_b v) (y_ev (l_ex x 3 z) (0, [(0, 1)])) (y_ev (l_ex x 3 z) ((-1), [(1, 1)])) (y_ev (l_ex x 3 z) (59, [])) (y_ev (l_ex x 3 z) (0, [(2, 1)])) (y_ev (l_ex x 3 z) (0, [(3, 1)])) ∧ True)
    (try rw [O0]); (try rw [O1]); (try rw [O2]); (try rw [O3]); (try rw [O4])
    exact K2
def lm_361 : zLem := (([((-2147483648), 2147483647), ((-2147483648), 2147483647), ((-2147483648), 2147483647)], [(12, false)], [((-1), [(1, 1)])], [], [], [(0, (false, 11, 0, []), 0, 0, 0, [(1, 1)])], [(59, [(0, [(0, 1)]), ((-1), [(1, 1)]), (5, []), (0, [(2, 1)])])]), [([((-2147483648), 2147483647), ((-2147483648), 2147483647), ((-2147483648), 2147483647), ((-9223372036854775808), 9223372036854775807)], [(12, false)], [], [], [], [], [(36, [(0, [(0, 1)]), ((-1), [(1, 1)]), (61, []), (0, [(2, 1)]), (0, [(3, 1)])])])])
theorem lk_361 : l_core lm_361 := by
  first
  | skip
    intro v x h
    have K := k_m2t_5 (V := v) (n := x 0) (d := x 1) (s := x 2) (l_c4 (fun w0 w1 w2 w3 : Int => 0 ≤ w1 ∧ 0 ≤ w2 ∧ w2 ≤ 41 ∧ t_km w2 = tk (t_b v) w0 w1.toNat ∧ w3 = t_s (t_b v) w0 w1.toNat) (l_e1 x 0) (l_q2 1 x 1) (l_e0 x (5)) (l_e1 x 2) (h.2.2.2.1)) (l_cc (l_q2 1 x 1) (h.2.1.1))
    obtain ⟨z, K1, K2⟩ := K
    refine l_outN rfl z (And.intro (And.intro h.1.1 (And.intro h.1.2.1 (And.intro h.1.2.2.1 (And.intro K1 trivial)))) ?_)
    exact l_o5 (fun w0 w1 w2 w3 w4 : Int => (True) ∧ (q_tok (t_b v) w0 w1 w2 w3 w4 ∧ True)) (show y_ev (l_ex x 3 z) (0, [(0, 1)]) = x 0 from l_e1 (l_ex x 3 z) 0) (show y_ev (l_ex x 3 z) ((-1), [(1, 1)]) = x 1 - 1 by show ((-1) : Int) + ((1) * x 1 + 0) = _; omega) (l_e0 (l_ex x 3 z) (61)) (show y_ev (l_ex x 3 z) (0, [(2, 1)]) = x 2 from l_e1 (l_ex x 3 z) 2) (show y_ev (l_ex x 3 z) (0, [(3, 1)]) = z from l_e1 (l_ex x 3 z) 3) K2
  | skip
    intro v x h
    have C0 : (0 : Int) ≤ x 1 - 1 := l_cc (a := y_ev x ((-1), [(1, 1)])) (by show ((-1) : Int) + ((1) * x 1 + 0) = x 1 - 1; omega) (h.2.1.1)
    have E0 : y_ev x (0, [(0, 1)]) = x 0 := (l_e1 _ _)
    have E1 : y_ev x ((-1), [(1, 1)]) = x 1 - 1 := (by show ((-1) : Int) + ((1) * x 1 + 0) = x 1 - 1; omega)
    have E2 : y_ev x (5, []) = 5 := (l_e0 _ _)
    have E3 : y_ev x (0, [(2, 1)]) = x 2 := (l_e1 _ _)
    have T0 : 0 ≤ (y_ev x ((-1), [(1, 1)])) ∧ 0 ≤ (y_ev x (5, [])) ∧ (y_ev x (5, [])) ≤ 41 ∧ t_km (y_ev x (5, [])) = tk (t_b v) (y_ev x (0, [(0, 1)])) (y_ev x ((-1), [(1, 1)])).toNat ∧ (y_ev x (0, [(2, 1)])) = t_s (t_b v) (y_ev x (0, [(0, 1)])) (y_ev x ((-1), [(1, 1)])).toNat := h.2.2.2.1
    (try rw [E0] at T0); (try rw [E1] at T0); (try rw [E2] at T0); (try rw [E3] at T0)
    have K := k_m2t_5 (V := v) (n := x 0) (d := x 1) (s := x 2) T0 C0
    obtain ⟨z, K1, K2⟩ := K
    refine l_outN rfl z (And.intro (And.intro h.1.1 (And.intro h.1.2.1 (And.intro h.1.2.2.1 (And.intro K1 trivial)))) ?_)
    have O0 : y_ev (l_ex x 3 z) (0, [(0, 1)]) = x 0 := by show ((0) : Int) + ((1) * x 0 + 0) = _; omega
    have O1 : y_ev (l_ex x 3 z) ((-1), [(1, 1)]) = x 1 - 1 := by show ((-1) : Int) + ((1) * x 1 + 0) = _; omega
    have O2 : y_ev (l_ex x 3 z) (61, []) = 61 := by show ((61) : Int) + 0 = _; omega
    have O3 : y_ev (l_ex x 3 z) (0, [(2, 1)]) = x 2 := by show ((0) : Int) + ((1) * x 2 + 0) = _; omega
    have O4 : y_ev (l_ex x 3 z) (0, [(3, 1)]) = z := by show ((0) : Int) + ((1) * z + 0) = _; omega
    show (True) ∧ (q_tok (t_b v) (y_ev (l_ex x 3 z) (0, [(0, 1)])) (y_ev (l_ex x 3 z) ((-1), [(1, 1)])) (y_ev (l_ex x 3 z) (61, [])) (y_ev (l_ex x 3 z) (0, [(2, 1)])) (y_ev (l_ex x 3 z) (0, [(3, 1)])) ∧ True)
    (try rw [O0]); (try rw [O1]); (try rw [O2]); (try rw [O3]); (try rw [O4])
    exact K2
def lm_362 : zLem := (([((-2147483648), 2147483647), ((-2147483648), 2147483647), ((-2147483648), 2147483647)], [(12, false)], [((-1), [(1, 1)])], [], [], [(0, (false, 11, 0, []), 0, 0, 0, [(1, 1)])], [(59, [(0, [(0, 1)]), ((-1), [(1, 1)]), (6, []), (0, [(2, 1)])])]), [([((-2147483648), 2147483647), ((-2147483648), 2147483647), ((-2147483648), 2147483647), ((-9223372036854775808), 9223372036854775807)], [(12, false)], [], [], [], [], [(36, [(0, [(0, 1)]), ((-1), [(1, 1)]), (40, []), (0, [(2, 1)]), (0, [(3, 1)])])])])
theorem lk_362 : l_core lm_362 := by
  first
  | skip
    intro v x h
    have K := k_m2t_6 (V := v) (n := x 0) (d := x 1) (s := x 2) (l_c4 (fun w0 w1 w2 w3 : Int => 0 ≤ w1 ∧ 0 ≤ w2 ∧ w2 ≤ 41 ∧ t_km w2 = tk (t_b v) w0 w1.toNat ∧ w3 = t_s (t_b v) w0 w1.toNat) (l_e1 x 0) (l_q2 1 x 1) (l_e0 x (6)) (l_e1 x 2) (h.2.2.2.1)) (l_cc (l_q2 1 x 1) (h.2.1.1))
    obtain ⟨z, K1, K2⟩ := K
    refine l_outN rfl z (And.intro (And.intro h.1.1 (And.intro h.1.2.1 (And.intro h.1.2.2.1 (And.intro K1 trivial)))) ?_)
    exact l_o5 (fun w0 w1 w2 w3 w4 : Int => (True) ∧ (q_tok (t_b v) w0 w1 w2 w3 w4 ∧ True)) (show y_ev (l_ex x 3 z) (0, [(0, 1)]) = x 0 from l_e1 (l_ex x 3 z) 0) (show y_ev (l_ex x 3 z) ((-1), [(1, 1)]) = x 1 - 1 by show ((-1) : Int) + ((1) * x 1 + 0) = _; omega) (l_e0 (l_ex x 3 z) (40)) (show y_ev (l_ex x 3 z) (0, [(2, 1)]) = x 2 from l_e1 (l_ex x 3 z) 2) (show y_ev (l_ex x 3 z) (0, [(3, 1)]) = z from l_e1 (l_ex x 3 z) 3) K2
  | skip
    intro v x h
    have C0 : (0 : Int) ≤ x 1 - 1 := l_cc (a := y_ev x ((-1), [(1, 1)])) (by show ((-1) : Int) + ((1) * x 1 + 0) = x 1 - 1; omega) (h.2.1.1)
    have E0 : y_ev x (0, [(0, 1)]) = x 0 := (l_e1 _ _)
    have E1 : y_ev x ((-1), [(1, 1)]) = x 1 - 1 := (by show ((-1) : Int) + ((1) * x 1 + 0) = x 1 - 1; omega)
    have E2 : y_ev x (6, []) = 6 := (l_e0 _ _)
    have E3 : y_ev x (0, [(2, 1)]) = x 2 := (l_e1 _ _)
    have T0 : 0 ≤ (y_ev x ((-1), [(1, 1)])) ∧ 0 ≤ (y_ev x (6, [])) ∧ (y_ev x (6, [])) ≤ 41 ∧ t_km (y_ev x (6, [])) = tk (t_b v) (y_ev x (0, [(0, 1)])) (y_ev x ((-1), [(1, 1)])).toNat ∧ (y_ev x (0, [(2, 1)])) = t_s (t_b v) (y_ev x (0, [(0, 1)])) (y_ev x ((-1), [(1, 1)])).toNat := h.2.2.2.1
    (try rw [E0] at T0); (try rw [E1] at T0); (try rw [E2] at T0); (try rw [E3] at T0)
    have K := k_m2t_6 (V := v) (n := x 0) (d := x 1) (s := x 2) T0 C0
    obtain ⟨z, K1, K2⟩ := K
    refine l_outN rfl z (And.intro (And.intro h.1.1 (And.intro h.1.2.1 (And.intro h.1.2.2.1 (And.intro K1 trivial)))) ?_)
    have O0 : y_ev (l_ex x 3 z) (0, [(0, 1)]) = x 0 := by show ((0) : Int) + ((1) * x 0 + 0) = _; omega
    have O1 : y_ev (l_ex x 3 z) ((-1), [(1, 1)]) = x 1 - 1 := by show ((-1) : Int) + ((1) * x 1 + 0) = _; omega
    have O2 : y_ev (l_ex x 3 z) (40, []) = 40 := by show ((40) : Int) + 0 = _; omega
    have O3 : y_ev (l_ex x 3 z) (0, [(2, 1)]) = x 2 := by show ((0) : Int) + ((1) * x 2 + 0) = _; omega
    have O4 : y_ev (l_ex x 3 z) (0, [(3, 1)]) = z := by show ((0) : Int) + ((1) * z + 0) = _; omega
    show (True) ∧ (q_tok (t_b v) (y_ev (l_ex x 3 z) (0, [(0, 1)])) (y_ev (l_ex x 3 z) ((-1), [(1, 1)])) (y_ev (l_ex x 3 z) (40, [])) (y_ev (l_ex x 3 z) (0, [(2, 1)])) (y_ev (l_ex x 3 z) (0, [(3, 1)])) ∧ True)
    (try rw [O0]); (try rw [O1]); (try rw [O2]); (try rw [O3]); (try rw [O4])
    exact K2
def lm_363 : zLem := (([((-2147483648), 2147483647), ((-2147483648), 2147483647), ((-2147483648), 2147483647)], [(12, false)], [((-1), [(1, 1)])], [], [], [(0, (false, 11, 0, []), 0, 0, 0, [(1, 1)])], [(59, [(0, [(0, 1)]), ((-1), [(1, 1)]), (7, []), (0, [(2, 1)])])]), [([((-2147483648), 2147483647), ((-2147483648), 2147483647), ((-2147483648), 2147483647), ((-9223372036854775808), 9223372036854775807)], [(12, false)], [], [], [], [], [(36, [(0, [(0, 1)]), ((-1), [(1, 1)]), (41, []), (0, [(2, 1)]), (0, [(3, 1)])])])])
theorem lk_363 : l_core lm_363 := by
  first
  | skip
    intro v x h
    have K := k_m2t_7 (V := v) (n := x 0) (d := x 1) (s := x 2) (l_c4 (fun w0 w1 w2 w3 : Int => 0 ≤ w1 ∧ 0 ≤ w2 ∧ w2 ≤ 41 ∧ t_km w2 = tk (t_b v) w0 w1.toNat ∧ w3 = t_s (t_b v) w0 w1.toNat) (l_e1 x 0) (l_q2 1 x 1) (l_e0 x (7)) (l_e1 x 2) (h.2.2.2.1)) (l_cc (l_q2 1 x 1) (h.2.1.1))
    obtain ⟨z, K1, K2⟩ := K
    refine l_outN rfl z (And.intro (And.intro h.1.1 (And.intro h.1.2.1 (And.intro h.1.2.2.1 (And.intro K1 trivial)))) ?_)
    exact l_o5 (fun w0 w1 w2 w3 w4 : Int => (True) ∧ (q_tok (t_b v) w0 w1 w2 w3 w4 ∧ True)) (show y_ev (l_ex x 3 z) (0, [(0, 1)]) = x 0 from l_e1 (l_ex x 3 z) 0) (show y_ev (l_ex x 3 z) ((-1), [(1, 1)]) = x 1 - 1 by show ((-1) : Int) + ((1) * x 1 + 0) = _; omega) (l_e0 (l_ex x 3 z) (41)) (show y_ev (l_ex x 3 z) (0, [(2, 1)]) = x 2 from l_e1 (l_ex x 3 z) 2) (show y_ev (l_ex x 3 z) (0, [(3, 1)]) = z from l_e1 (l_ex x 3 z) 3) K2
  | skip
    intro v x h
    have C0 : (0 : Int) ≤ x 1 - 1 := l_cc (a := y_ev x ((-1), [(1, 1)])) (by show ((-1) : Int) + ((1) * x 1 + 0) = x 1 - 1; omega) (h.2.1.1)
    have E0 : y_ev x (0, [(0, 1)]) = x 0 := (l_e1 _ _)
    have E1 : y_ev x ((-1), [(1, 1)]) = x 1 - 1 := (by show ((-1) : Int) + ((1) * x 1 + 0) = x 1 - 1; omega)
    have E2 : y_ev x (7, []) = 7 := (l_e0 _ _)
    have E3 : y_ev x (0, [(2, 1)]) = x 2 := (l_e1 _ _)
    have T0 : 0 ≤ (y_ev x ((-1), [(1, 1)])) ∧ 0 ≤ (y_ev x (7, [])) ∧ (y_ev x (7, [])) ≤ 41 ∧ t_km (y_ev x (7, [])) = tk (t_b v) (y_ev x (0, [(0, 1)])) (y_ev x ((-1), [(1, 1)])).toNat ∧ (y_ev x (0, [(2, 1)])) = t_s (t_b v) (y_ev x (0, [(0, 1)])) (y_ev x ((-1), [(1, 1)])).toNat := h.2.2.2.1
    (try rw [E0] at T0); (try rw [E1] at T0); (try rw [E2] at T0); (try rw [E3] at T0)
    have K := k_m2t_7 (V := v) (n := x 0) (d := x 1) (s := x 2) T0 C0
    obtain ⟨z, K1, K2⟩ := K
    refine l_outN rfl z (And.intro (And.intro h.1.1 (And.intro h.1.2.1 (And.intro h.1.2.2.1 (And.intro K1 trivial)))) ?_)
    have O0 : y_ev (l_ex x 3 z) (0, [(0, 1)]) = x 0 := by show ((0) : Int) + ((1) * x 0 + 0) = _; omega
    have O1 : y_ev (l_ex x 3 z) ((-1), [(1, 1)]) = x 1 - 1 := by show ((-1) : Int) + ((1) * x 1 + 0) = _; omega
    have O2 : y_ev (l_ex x 3 z) (41, []) = 41 := by show ((41) : Int) + 0 = _; omega
    have O3 : y_ev (l_ex x 3 z) (0, [(2, 1)]) = x 2 := by show ((0) : Int) + ((1) * x 2 + 0) = _; omega
    have O4 : y_ev (l_ex x 3 z) (0, [(3, 1)]) = z := by show ((0) : Int) + ((1) * z + 0) = _; omega
    show (True) ∧ (q_tok (t_b v) (y_ev (l_ex x 3 z) (0, [(0, 1)])) (y_ev (l_ex x 3 z) ((-1), [(1, 1)])) (y_ev (l_ex x 3 z) (41, [])) (y_ev (l_ex x 3 z) (0, [(2, 1)])) (y_ev (l_ex x 3 z) (0, [(3, 1)])) ∧ True)
    (try rw [O0]); (try rw [O1]); (try rw [O2]); (try rw [O3]); (try rw [O4])
    exact K2
def lm_364 : zLem := (([((-2147483648), 2147483647), ((-2147483648), 2147483647), ((-2147483648), 2147483647)], [(12, false)], [((-1), [(1, 1)])], [], [], [(0, (false, 11, 0, []), 0, 0, 0, [(1, 1)])], [(59, [(0, [(0, 1)]), ((-1), [(1, 1)]), (8, []), (0, [(2, 1)])])]), [([((-2147483648), 2147483647), ((-2147483648), 2147483647), ((-2147483648), 2147483647), ((-9223372036854775808), 9223372036854775807)], [(12, false)], [], [], [], [], [(36, [(0, [(0, 1)]), ((-1), [(1, 1)]), (43, []), (0, [(2, 1)]), (0, [(3, 1)])])])])
theorem lk_364 : l_core lm_364 := by
  first
  | skip
    intro v x h
    have K := k_m2t_8 (V := v) (n := x 0) (d := x 1) (s := x 2) (l_c4 (fun w0 w1 w2 w3 : Int => 0 ≤ w1 ∧ 0 ≤ w2 ∧ w2 ≤ 41 ∧ t_km w2 = tk (t_b v) w0 w1.toNat ∧ w3 = t_s (t_b v) w0 w1.toNat) (l_e1 x 0) (l_q2 1 x 1) (l_e0 x (8)) (l_e1 x 2) (h.2.2.2.1)) (l_cc (l_q2 1 x 1) (h.2.1.1))
    obtain ⟨z, K1, K2⟩ := K
    refine l_outN rfl z (And.intro (And.intro h.1.1 (And.intro h.1.2.1 (And.intro h.1.2.2.1 (And.intro K1 trivial)))) ?_)
    exact l_o5 (fun w0 w1 w2 w3 w4 : Int => (True) ∧ (q_tok (t_b v) w0 w1 w2 w3 w4 ∧ True)) (show y_ev (l_ex x 3 z) (0, [(0, 1)]) = x 0 from l_e1 (l_ex x 3 z) 0) (show y_ev (l_ex x 3 z) ((-1), [(1, 1)]) = x 1 - 1 by show ((-1) : Int) + ((1) * x 1 + 0) = _; omega) (l_e0 (l_ex x 3 z) (43)) (show y_ev (l_ex x 3 z) (0, [(2, 1)]) = x 2 from l_e1 (l_ex x 3 z) 2) (show y_ev (l_ex x 3 z) (0, [(3, 1)]) = z from l_e1 (l_ex x 3 z) 3) K2
  | skip
    intro v x h
    have C0 : (0 : Int) ≤ x 1 - 1 := l_cc (a := y_ev x ((-1), [(1, 1)])) (by show ((-1) : Int) + ((1) * x 1 + 0) = x 1 - 1; omega) (h.2.1.1)
    have E0 : y_ev x (0, [(0, 1)]) = x 0 := (l_e1 _ _)
    have E1 : y_ev x ((-1), [(1, 1)]) = x 1 - 1 := (by show ((-1) : Int) + ((1) * x 1 + 0) = x 1 - 1; omega)
    have E2 : y_ev x (8, []) = 8 := (l_e0 _ _)
    have E3 : y_ev x (0, [(2, 1)]) = x 2 := (l_e1 _ _)
    have T0 : 0 ≤ (y_ev x ((-1), [(1, 1)])) ∧ 0 ≤ (y_ev x (8, [])) ∧ (y_ev x (8, [])) ≤ 41 ∧ t_km (y_ev x (8, [])) = tk (t_b v) (y_ev x (0, [(0, 1)])) (y_ev x ((-1), [(1, 1)])).toNat ∧ (y_ev x (0, [(2, 1)])) = t_s (t_b v) (y_ev x (0, [(0, 1)])) (y_ev x ((-1), [(1, 1)])).toNat := h.2.2.2.1
    (try rw [E0] at T0); (try rw [E1] at T0); (try rw [E2] at T0); (try rw [E3] at T0)
    have K := k_m2t_8 (V := v) (n := x 0) (d := x 1) (s := x 2) T0 C0
    obtain ⟨z, K1, K2⟩ := K
    refine l_outN rfl z (And.intro (And.intro h.1.1 (And.intro h.1.2.1 (And.intro h.1.2.2.1 (And.intro K1 trivial)))) ?_)
    have O0 : y_ev (l_ex x 3 z) (0, [(0, 1)]) = x 0 := by show ((0) : Int) + ((1) * x 0 + 0) = _; omega
    have O1 : y_ev (l_ex x 3 z) ((-1), [(1, 1)]) = x 1 - 1 := by show ((-1) : Int) + ((1) * x 1 + 0) = _; omega
    have O2 : y_ev (l_ex x 3 z) (43, []) = 43 := by show ((43) : Int) + 0 = _; omega
    have O3 : y_ev (l_ex x 3 z) (0, [(2, 1)]) = x 2 := by show ((0) : Int) + ((1) * x 2 + 0) = _; omega
    have O4 : y_ev (l_ex x 3 z) (0, [(3, 1)]) = z := by show ((0) : Int) + ((1) * z + 0) = _; omega
    show (True) ∧ (q_tok (t_b v) (y_ev (l_ex x 3 z) (0, [(0, 1)])) (y_ev (l_ex x 3 z) ((-1), [(1, 1)])) (y_ev (l_ex x 3 z) (43, [])) (y_ev (l_ex x 3 z) (0, [(2, 1)])) (y_ev (l_ex x 3 z) (0, [(3, 1)])) ∧ True)
    (try rw [O0]); (try rw [O1]); (try rw [O2]); (try rw [O3]); (try rw [O4])
    exact K2
def lm_365 : zLem := (([((-2147483648), 2147483647), ((-2147483648), 2147483647), ((-2147483648), 2147483647)], [(12, false)], [((-1), [(1, 1)])], [], [], [(0, (false, 11, 0, []), 0, 0, 0, [(1, 1)])], [(59, [(0, [(0, 1)]), ((-1), [(1, 1)]), (9, []), (0, [(2, 1)])])]), [([((-2147483648), 2147483647), ((-2147483648), 2147483647), ((-2147483648), 2147483647), ((-9223372036854775808), 9223372036854775807)], [(12, false)], [], [], [], [], [(36, [(0, [(0, 1)]), ((-1), [(1, 1)]), (45, []), (0, [(2, 1)]), (0, [(3, 1)])])])])
theorem lk_365 : l_core lm_365 := by
  first
  | skip
    intro v x h
    have K := k_m2t_9 (V := v) (n := x 0) (d := x 1) (s := x 2) (l_c4 (fun w0 w1 w2 w3 : Int => 0 ≤ w1 ∧ 0 ≤ w2 ∧ w2 ≤ 41 ∧ t_km w2 = tk (t_b v) w0 w1.toNat ∧ w3 = t_s (t_b v) w0 w1.toNat) (l_e1 x 0) (l_q2 1 x 1) (l_e0 x (9)) (l_e1 x 2) (h.2.2.2.1)) (l_cc (l_q2 1 x 1) (h.2.1.1))
    obtain ⟨z, K1, K2⟩ := K
    refine l_outN rfl z (And.intro (And.intro h.1.1 (And.intro h.1.2.1 (And.intro h.1.2.2.1 (And.intro K1 trivial)))) ?_)
    exact l_o5 (fun w0 w1 w2 w3 w4 : Int => (True) ∧ (q_tok (t_b v) w0 w1 w2 w3 w4 ∧ True)) (show y_ev (l_ex x 3 z) (0, [(0, 1)]) = x 0 from l_e1 (l_ex x 3 z) 0) (show y_ev (l_ex x 3 z) ((-1), [(1, 1)]) = x 1 - 1 by show ((-1) : Int) + ((1) * x 1 + 0) = _; omega) (l_e0 (l_ex x 3 z) (45)) (show y_ev (l_ex x 3 z) (0, [(2, 1)]) = x 2 from l_e1 (l_ex x 3 z) 2) (show y_ev (l_ex x 3 z) (0, [(3, 1)]) = z from l_e1 (l_ex x 3 z) 3) K2
  | skip
    intro v x h
    have C0 : (0 : Int) ≤ x 1 - 1 := l_cc (a := y_ev x ((-1), [(1, 1)])) (by show ((-1) : Int) + ((1) * x 1 + 0) = x 1 - 1; omega) (h.2.1.1)
    have E0 : y_ev x (0, [(0, 1)]) = x 0 := (l_e1 _ _)
    have E1 : y_ev x ((-1), [(1, 1)]) = x 1 - 1 := (by show ((-1) : Int) + ((1) * x 1 + 0) = x 1 - 1; omega)
    have E2 : y_ev x (9, []) = 9 := (l_e0 _ _)
    have E3 : y_ev x (0, [(2, 1)]) = x 2 := (l_e1 _ _)
    have T0 : 0 ≤ (y_ev x ((-1), [(1, 1)])) ∧ 0 ≤ (y_ev x (9, [])) ∧ (y_ev x (9, [])) ≤ 41 ∧ t_km (y_ev x (9, [])) = tk (t_b v) (y_ev x (0, [(0, 1)])) (y_ev x ((-1), [(1, 1)])).toNat ∧ (y_ev x (0, [(2, 1)])) = t_s (t_b v) (y_ev x (0, [(0, 1)])) (y_ev x ((-1), [(1, 1)])).toNat := h.2.2.2.1
    (try rw [E0] at T0); (try rw [E1] at T0); (try rw [E2] at T0); (try rw [E3] at T0)
    have K := k_m2t_9 (V := v) (n := x 0) (d := x 1) (s := x 2) T0 C0
    obtain ⟨z, K1, K2⟩ := K
    refine l_outN rfl z (And.intro (And.intro h.1.1 (And.intro h.1.2.1 (And.intro h.1.2.2.1 (And.intro K1 trivial)))) ?_)
    have O0 : y_ev (l_ex x 3 z) (0, [(0, 1)]) = x 0 := by show ((0) : Int) + ((1) * x 0 + 0) = _; omega
    have O1 : y_ev (l_ex x 3 z) ((-1), [(1, 1)]) = x 1 - 1 := by show ((-1) : Int) + ((1) * x 1 + 0) = _; omega
    have O2 : y_ev (l_ex x 3 z) (45, []) = 45 := by show ((45) : Int) + 0 = _; omega
    have O3 : y_ev (l_ex x 3 z) (0, [(2, 1)]) = x 2 := by show ((0) : Int) + ((1) * x 2 + 0) = _; omega
    have O4 : y_ev (l_ex x 3 z) (0, [(3, 1)]) = z := by show ((0) : Int) + ((1) * z + 0) = _; omega
    show (True) ∧ (q_tok (t_b v) (y_ev (l_ex x 3 z) (0, [(0, 1)])) (y_ev (l_ex x 3 z) ((-1), [(1, 1)])) (y_ev (l_ex x 3 z) (45, [])) (y_ev (l_ex x 3 z) (0, [(2, 1)])) (y_ev (l_ex x 3 z) (0, [(3, 1)])) ∧ True)
    (try rw [O0]); (try rw [O1]); (try rw [O2]); (try rw [O3]); (try rw [O4])
    exact K2
def lm_366 : zLem := (([((-2147483648), 2147483647), ((-2147483648), 2147483647), ((-2147483648), 2147483647)], [(12, false)], [((-1), [(1, 1)])], [], [], [(0, (false, 11, 0, []), 0, 0, 0, [(1, 1)])], [(59, [(0, [(0, 1)]), ((-1), [(1, 1)]), (10, []), (0, [(2, 1)])])]), [([((-2147483648), 2147483647), ((-2147483648), 2147483647), ((-2147483648), 2147483647), ((-9223372036854775808), 9223372036854775807)], [(12, false)], [], [], [], [], [(36, [(0, [(0, 1)]), ((-1), [(1, 1)]), (42, []), (0, [(2, 1)]), (0, [(3, 1)])])])])
theorem lk_366 : l_core lm_366 := by
  first
  | skip
    intro v x h
    have K := k_m2t_10 (V := v) (n := x 0) (d := x 1) (s := x 2) (l_c4 (fun w0 w1 w2 w3 : Int => 0 ≤ w1 ∧ 0 ≤ w2 ∧ w2 ≤ 41 ∧ t_km w2 = tk (t_b v) w0 w1.toNat ∧ w3 = t_s (t_b v) w0 w1.toNat) (l_e1 x 0) (l_q2 1 x 1) (l_e0 x (10)) (l_e1 x 2) (h.2.2.2.1)) (l_cc (l_q2 1 x 1) (h.2.1.1))
    obtain ⟨z, K1, K2⟩ := K
    refine l_outN rfl z (And.intro (And.intro h.1.1 (And.intro h.1.2.1 (And.intro h.1.2.2.1 (And.intro K1 trivial)))) ?_)
    exact l_o5 (fun w0 w1 w2 w3 w4 : Int => (True) ∧ (q_tok (t_b v) w0 w1 w2 w3 w4 ∧ True)) (show y_ev (l_ex x 3 z) (0, [(0, 1)]) = x 0 from l_e1 (l_ex x 3 z) 0) (show y_ev (l_ex x 3 z) ((-1), [(1, 1)]) = x 1 - 1 by show ((-1) : Int) + ((1) * x 1 + 0) = _; omega) (l_e0 (l_ex x 3 z) (42)) (show y_ev (l_ex x 3 z) (0, [(2, 1)]) = x 2 from l_e1 (l_ex x 3 z) 2) (show y_ev (l_ex x 3 z) (0, [(3, 1)]) = z from l_e1 (l_ex x 3 z) 3) K2
  | skip
    intro v x h
    have C0 : (0 : Int) ≤ x 1 - 1 := l_cc (a := y_ev x ((-1), [(1, 1)])) (by show ((-1) : Int) + ((1) * x 1 + 0) = x 1 - 1; omega) (h.2.1.1)
    have E0 : y_ev x (0, [(0, 1)]) = x 0 := (l_e1 _ _)
    have E1 : y_ev x ((-1), [(1, 1)]) = x 1 - 1 := (by show ((-1) : Int) + ((1) * x 1 + 0) = x 1 - 1; omega)
    have E2 : y_ev x (10, []) = 10 := (l_e0 _ _)
    have E3 : y_ev x (0, [(2, 1)]) = x 2 := (l_e1 _ _)
    have T0 : 0 ≤ (y_ev x ((-1), [(1, 1)])) ∧ 0 ≤ (y_ev x (10, [])) ∧ (y_ev x (10, [])) ≤ 41 ∧ t_km (y_ev x (10, [])) = tk (t_b v) (y_ev x (0, [(0, 1)])) (y_ev x ((-1), [(1, 1)])).toNat ∧ (y_ev x (0, [(2, 1)])) = t_s (t_b v) (y_ev x (0, [(0, 1)])) (y_ev x ((-1), [(1, 1)])).toNat := h.2.2.2.1
    (try rw [E0] at T0); (try rw [E1] at T0); (try rw [E2] at T0); (try rw [E3] at T0)
    have K := k_m2t_10 (V := v) (n := x 0) (d := x 1) (s := x 2) T0 C0
    obtain ⟨z, K1, K2⟩ := K
    refine l_outN rfl z (And.intro (And.intro h.1.1 (And.intro h.1.2.1 (And.intro h.1.2.2.1 (And.intro K1 trivial)))) ?_)
    have O0 : y_ev (l_ex x 3 z) (0, [(0, 1)]) = x 0 := by show ((0) : Int) + ((1) * x 0 + 0) = _; omega
    have O1 : y_ev (l_ex x 3 z) ((-1), [(1, 1)]) = x 1 - 1 := by show ((-1) : Int) + ((1) * x 1 + 0) = _; omega
    have O2 : y_ev (l_ex x 3 z) (42, []) = 42 := by show ((42) : Int) + 0 = _; omega
    have O3 : y_ev (l_ex x 3 z) (0, [(2, 1)]) = x 2 := by show ((0) : Int) + ((1) * x 2 + 0) = _; omega
    have O4 : y_ev (l_ex x 3 z) (0, [(3, 1)]) = z := by show ((0) : Int) + ((1) * z + 0) = _; omega
    show (True) ∧ (q_tok (t_b v) (y_ev (l_ex x 3 z) (0, [(0, 1)])) (y_ev (l_ex x 3 z) ((-1), [(1, 1)])) (y_ev (l_ex x 3 z) (42, [])) (y_ev (l_ex x 3 z) (0, [(2, 1)])) (y_ev (l_ex x 3 z) (0, [(3, 1)])) ∧ True)
    (try rw [O0]); (try rw [O1]); (try rw [O2]); (try rw [O3]); (try rw [O4])
    exact K2
def lm_367 : zLem := (([((-2147483648), 2147483647), ((-2147483648), 2147483647), ((-2147483648), 2147483647)], [(12, false)], [((-1), [(1, 1)])], [], [], [(0, (false, 11, 0, []), 0, 0, 0, [(1, 1)])], [(59, [(0, [(0, 1)]), ((-1), [(1, 1)]), (13, []), (0, [(2, 1)])])]), [([((-2147483648), 2147483647), ((-2147483648), 2147483647), ((-2147483648), 2147483647), ((-9223372036854775808), 9223372036854775807)], [(12, false)], [], [], [], [], [(36, [(0, [(0, 1)]), ((-1), [(1, 1)]), (60, []), (0, [(2, 1)]), (0, [(3, 1)])])])])
theorem lk_367 : l_core lm_367 := by
  first
  | skip
    intro v x h
    have K := k_m2t_13 (V := v) (n := x 0) (d := x 1) (s := x 2) (l_c4 (fun w0 w1 w2 w3 : Int => 0 ≤ w1 ∧ 0 ≤ w2 ∧ w2 ≤ 41 ∧ t_km w2 = tk (t_b v) w0 w1.toNat ∧ w3 = t_s (t_b v) w0 w1.toNat) (l_e1 x 0) (l_q2 1 x 1) (l_e0 x (13)) (l_e1 x 2) (h.2.2.2.1)) (l_cc (l_q2 1 x 1) (h.2.1.1))
    obtain ⟨z, K1, K2⟩ := K
    refine l_outN rfl z (And.intro (And.intro h.1.1 (And.intro h.1.2.1 (And.intro h.1.2.2.1 (And.intro K1 trivial)))) ?_)
    exact l_o5 (fun w0 w1 w2 w3 w4 : Int => (True) ∧ (q_tok (t_b v) w0 w1 w2 w3 w4 ∧ True)) (show y_ev (l_ex x 3 z) (0, [(0, 1)]) = x 0 from l_e1 (l_ex x 3 z) 0) (show y_ev (l_ex x 3 z) ((-1), [(1, 1)]) = x 1 - 1 by show ((-1) : Int) + ((1) * x 1 + 0) = _; omega) (l_e0 (l_ex x 3 z) (60)) (show y_ev (l_ex x 3 z) (0, [(2, 1)]) = x 2 from l_e1 (l_ex x 3 z) 2) (show y_ev (l_ex x 3 z) (0, [(3, 1)]) = z from l_e1 (l_ex x 3 z) 3) K2
  | skip
    intro v x h
    have C0 : (0 : Int) ≤ x 1 - 1 := l_cc (a := y_ev x ((-1), [(1, 1)])) (by show ((-1) : Int) + ((1) * x 1 + 0) = x 1 - 1; omega) (h.2.1.1)
    have E0 : y_ev x (0, [(0, 1)]) = x 0 := (l_e1 _ _)
    have E1 : y_ev x ((-1), [(1, 1)]) = x 1 - 1 := (by show ((-1) : Int) + ((1) * x 1 + 0) = x 1 - 1; omega)
    have E2 : y_ev x (13, []) = 13 := (l_e0 _ _)
    have E3 : y_ev x (0, [(2, 1)]) = x 2 := (l_e1 _ _)
    have T0 : 0 ≤ (y_ev x ((-1), [(1, 1)])) ∧ 0 ≤ (y_ev x (13, [])) ∧ (y_ev x (13, [])) ≤ 41 ∧ t_km (y_ev x (13, [])) = tk (t_b v) (y_ev x (0, [(0, 1)])) (y_ev x ((-1), [(1, 1)])).toNat ∧ (y_ev x (0, [(2, 1)])) = t_s (t_b v) (y_ev x (0, [(0, 1)])) (y_ev x ((-1), [(1, 1)])).toNat := h.2.2.2.1
    (try rw [E0] at T0); (try rw [E1] at T0); (try rw [E2] at T0); (try rw [E3] at T0)
    have K := k_m2t_13 (V := v) (n := x 0) (d := x 1) (s := x 2) T0 C0
    obtain ⟨z, K1, K2⟩ := K
    refine l_outN rfl z (And.intro (And.intro h.1.1 (And.intro h.1.2.1 (And.intro h.1.2.2.1 (And.intro K1 trivial)))) ?_)
    have O0 : y_ev (l_ex x 3 z) (0, [(0, 1)]) = x 0 := by show ((0) : Int) + ((1) * x 0 + 0) = _; omega
    have O1 : y_ev (l_ex x 3 z) ((-1), [(1, 1)]) = x 1 - 1 := by show ((-1) : Int) + ((1) * x 1 + 0) = _; omega
    have O2 : y_ev (l_ex x 3 z) (60, []) = 60 := by show ((60) : Int) + 0 = _; omega
    have O3 : y_ev (l_ex x 3 z) (0, [(2, 1)]) = x 2 := by show ((0) : Int) + ((1) * x 2 + 0) = _; omega
    have O4 : y_ev (l_ex x 3 z) (0, [(3, 1)]) = z := by show ((0) : Int) + ((1) * z + 0) = _; omega
    show (True) ∧ (q_tok (t_b v) (y_ev (l_ex x 3 z) (0, [(0, 1)])) (y_ev (l_ex x 3 z) ((-1), [(1, 1)])) (y_ev (l_ex x 3 z) (60, [])) (y_ev (l_ex x 3 z) (0, [(2, 1)])) (y_ev (l_ex x 3 z) (0, [(3, 1)])) ∧ True)
    (try rw [O0]); (try rw [O1]); (try rw [O2]); (try rw [O3]); (try rw [O4])
    exact K2
def lm_368 : zLem := (([((-2147483648), 2147483647), ((-2147483648), 2147483647), ((-2147483648), 2147483647)], [(12, false)], [((-1), [(1, 1)])], [], [], [(0, (false, 11, 0, []), 0, 0, 0, [(1, 1)])], [(59, [(0, [(0, 1)]), ((-1), [(1, 1)]), (15, []), (0, [(2, 1)])])]), [([((-2147483648), 2147483647), ((-2147483648), 2147483647), ((-2147483648), 2147483647), ((-9223372036854775808), 9223372036854775807)], [(12, false)], [], [], [], [], [(36, [(0, [(0, 1)]), ((-1), [(1, 1)]), (47, []), (0, [(2, 1)]), (0, [(3, 1)])])])])
theorem lk_368 : l_core lm_368 := by
  first
  | skip
    intro v x h
    have K := k_m2t_15 (V := v) (n := x 0) (d := x 1) (s := x 2) (l_c4 (fun w0 w1 w2 w3 : Int => 0 ≤ w1 ∧ 0 ≤ w2 ∧ w2 ≤ 41 ∧ t_km w2 = tk (t_b v) w0 w1.toNat ∧ w3 = t_s (t_b v) w0 w1.toNat) (l_e1 x 0) (l_q2 1 x 1) (l_e0 x (15)) (l_e1 x 2) (h.2.2.2.1)) (l_cc (l_q2 1 x 1) (h.2.1.1))
    obtain ⟨z, K1, K2⟩ := K
    refine l_outN rfl z (And.intro (And.intro h.1.1 (And.intro h.1.2.1 (And.intro h.1.2.2.1 (And.intro K1 trivial)))) ?_)
    exact l_o5 (fun w0 w1 w2 w3 w4 : Int => (True) ∧ (q_tok (t_b v) w0 w1 w2 w3 w4 ∧ True)) (show y_ev (l_ex x 3 z) (0, [(0, 1)]) = x 0 from l_e1 (l_ex x 3 z) 0) (show y_ev (l_ex x 3 z) ((-1), [(1, 1)]) = x 1 - 1 by show ((-1) : Int) + ((1) * x 1 + 0) = _; omega) (l_e0 (l_ex x 3 z) (47)) (show y_ev (l_ex x 3 z) (0, [(2, 1)]) = x 2 from l_e1 (l_ex x 3 z) 2) (show y_ev (l_ex x 3 z) (0, [(3, 1)]) = z from l_e1 (l_ex x 3 z) 3) K2
  | skip
    intro v x h
    have C0 : (0 : Int) ≤ x 1 - 1 := l_cc (a := y_ev x ((-1), [(1, 1)])) (by show ((-1) : Int) + ((1) * x 1 + 0) = x 1 - 1; omega) (h.2.1.1)
    have E0 : y_ev x (0, [(0, 1)]) = x 0 := (l_e1 _ _)
    have E1 : y_ev x ((-1), [(1, 1)]) = x 1 - 1 := (by show ((-1) : Int) + ((1) * x 1 + 0) = x 1 - 1; omega)
    have E2 : y_ev x (15, []) = 15 := (l_e0 _ _)
    have E3 : y_ev x (0, [(2, 1)]) = x 2 := (l_e1 _ _)
    have T0 : 0 ≤ (y_ev x ((-1), [(1, 1)])) ∧ 0 ≤ (y_ev x (15, [])) ∧ (y_ev x (15, [])) ≤ 41 ∧ t_km (y_ev x (15, [])) = tk (t_b v) (y_ev x (0, [(0, 1)])) (y_ev x ((-1), [(1, 1)])).toNat ∧ (y_ev x (0, [(2, 1)])) = t_s (t_b v) (y_ev x (0, [(0, 1)])) (y_ev x ((-1), [(1, 1)])).toNat := h.2.2.2.1
    (try rw [E0] at T0); (try rw [E1] at T0); (try rw [E2] at T0); (try rw [E3] at T0)
    have K := k_m2t_15 (V := v) (n := x 0) (d := x 1) (s := x 2) T0 C0
    obtain ⟨z, K1, K2⟩ := K
    refine l_outN rfl z (And.intro (And.intro h.1.1 (And.intro h.1.2.1 (And.intro h.1.2.2.1 (And.intro K1 trivial)))) ?_)
    have O0 : y_ev (l_ex x 3 z) (0, [(0, 1)]) = x 0 := by show ((0) : Int) + ((1) * x 0 + 0) = _; omega
    have O1 : y_ev (l_ex x 3 z) ((-1), [(1, 1)]) = x 1 - 1 := by show ((-1) : Int) + ((1) * x 1 + 0) = _; omega
    have O2 : y_ev (l_ex x 3 z) (47, []) = 47 := by show ((47) : Int) + 0 = _; omega
    have O3 : y_ev (l_ex x 3 z) (0, [(2, 1)]) = x 2 := by show ((0) : Int) + ((1) * x 2 + 0) = _; omega
    have O4 : y_ev (l_ex x 3 z) (0, [(3, 1)]) = z := by show ((0) : Int) + ((1) * z + 0) = _; omega
    show (True) ∧ (q_tok (t_b v) (y_ev (l_ex x 3 z) (0, [(0, 1)])) (y_ev (l_ex x 3 z) ((-1), [(1, 1)])) (y_ev (l_ex x 3 z) (47, [])) (y_ev (l_ex x 3 z) (0, [(2, 1)])) (y_ev (l_ex x 3 z) (0, [(3, 1)])) ∧ True)
    (try rw [O0]); (try rw [O1]); (try rw [O2]); (try rw [O3]); (try rw [O4])
    exact K2
def lm_369 : zLem := (([((-2147483648), 2147483647), ((-2147483648), 2147483647), ((-2147483648), 2147483647)], [(12, false)], [((-1), [(1, 1)])], [], [], [(0, (false, 11, 0, []), 0, 0, 0, [(1, 1)])], [(59, [(0, [(0, 1)]), ((-1), [(1, 1)]), (20, []), (0, [(2, 1)])])]), [([((-2147483648), 2147483647), ((-2147483648), 2147483647), ((-2147483648), 2147483647), ((-9223372036854775808), 9223372036854775807)], [(12, false)], [], [], [], [], [(36, [(0, [(0, 1)]), ((-1), [(1, 1)]), (256, []), (0, [(2, 1)]), (0, [(3, 1)])])])])
theorem lk_369 : l_core lm_369 := by
  first
  | skip
    intro v x h
    have K := k_m2t_20 (V := v) (n := x 0) (d := x 1) (s := x 2) (l_c4 (fun w0 w1 w2 w3 : Int => 0 ≤ w1 ∧ 0 ≤ w2 ∧ w2 ≤ 41 ∧ t_km w2 = tk (t_b v) w0 w1.toNat ∧ w3 = t_s (t_b v) w0 w1.toNat) (l_e1 x 0) (l_q2 1 x 1) (l_e0 x (20)) (l_e1 x 2) (h.2.2.2.1)) (l_cc (l_q2 1 x 1) (h.2.1.1))
    obtain ⟨z, K1, K2⟩ := K
    refine l_outN rfl z (And.intro (And.intro h.1.1 (And.intro h.1.2.1 (And.intro h.1.2.2.1 (And.intro K1 trivial)))) ?_)
    exact l_o5 (fun w0 w1 w2 w3 w4 : Int => (True) ∧ (q_tok (t_b v) w0 w1 w2 w3 w4 ∧ True)) (show y_ev (l_ex x 3 z) (0, [(0, 1)]) = x 0 from l_e1 (l_ex x 3 z) 0) (show y_ev (l_ex x 3 z) ((-1), [(1, 1)]) = x 1 - 1 by show ((-1) : Int) + ((1) * x 1 + 0) = _; omega) (l_e0 (l_ex x 3 z) (256)) (show y_ev (l_ex x 3 z) (0, [(2, 1)]) = x 2 from l_e1 (l_ex x 3 z) 2) (show y_ev (l_ex x 3 z) (0, [(3, 1)]) = z from l_e1 (l_ex x 3 z) 3) K2
  | skip
    intro v x h
    have C0 : (0 : Int) ≤ x 1 - 1 := l_cc (a := y_ev x ((-1), [(1, 1)])) (by show ((-1) : Int) + ((1) * x 1 + 0) = x 1 - 1; omega) (h.2.1.1)
    have E0 : y_ev x (0, [(0, 1)]) = x 0 := (l_e1 _ _)
    have E1 : y_ev x ((-1), [(1, 1)]) = x 1 - 1 := (by show ((-1) : Int) + ((1) * x 1 + 0) = x 1 - 1; omega)
    have E2 : y_ev x (20, []) = 20 := (l_e0 _ _)
    have E3 : y_ev x (0, [(2, 1)]) = x 2 := (l_e1 _ _)
    have T0 : 0 ≤ (y_ev x ((-1), [(1, 1)])) ∧ 0 ≤ (y_ev x (20, [])) ∧ (y_ev x (20, [])) ≤ 41 ∧ t_km (y_ev x (20, [])) = tk (t_b v) (y_ev x (0, [(0, 1)])) (y_ev x ((-1), [(1, 1)])).toNat ∧ (y_ev x (0, [(2, 1)])) = t_s (t_b v) (y_ev x (0, [(0, 1)])) (y_ev x ((-1), [(1, 1)])).toNat := h.2.2.2.1
    (try rw [E0] at T0); (try rw [E1] at T0); (try rw [E2] at T0); (try rw [E3] at T0)
    have K := k_m2t_20 (V := v) (n := x 0) (d := x 1) (s := x 2) T0 C0
    obtain ⟨z, K1, K2⟩ := K
    refine l_outN rfl z (And.intro (And.intro h.1.1 (And.intro h.1.2.1 (And.intro h.1.2.2.1 (And.intro K1 trivial)))) ?_)
    have O0 : y_ev (l_ex x 3 z) (0, [(0, 1)]) = x 0 := by show ((0) : Int) + ((1) * x 0 + 0) = _; omega
    have O1 : y_ev (l_ex x 3 z) ((-1), [(1, 1)]) = x 1 - 1 := by show ((-1) : Int) + ((1) * x 1 + 0) = _; omega
    have O2 : y_ev (l_ex x 3 z) (256, []) = 256 := by show ((256) : Int) + 0 = _; omega
    have O3 : y_ev (l_ex x 3 z) (0, [(2, 1)]) = x 2 := by show ((0) : Int) + ((1) * x 2 + 0) = _; omega
    have O4 : y_ev (l_ex x 3 z) (0, [(3, 1)]) = z := by show ((0) : Int) + ((1) * z + 0) = _; omega
    show (True) ∧ (q_tok (t_b v) (y_ev (l_ex x 3 z) (0, [(0, 1)])) (y_ev (l_ex x 3 z) ((-1), [(1, 1)])) (y_ev (l_ex x 3 z) (256, [])) (y_ev (l_ex x 3 z) (0, [(2, 1)])) (y_ev (l_ex x 3 z) (0, [(3, 1)])) ∧ True)
    (try rw [O0]); (try rw [O1]); (try rw [O2]); (try rw [O3]); (try rw [O4])
    exact K2
def lm_370 : zLem := (([((-2147483648), 2147483647), ((-2147483648), 2147483647), ((-2147483648), 2147483647)], [(12, false)], [((-1), [(1, 1)])], [], [], [(0, (false, 11, 0, []), 0, 0, 0, [(1, 1)])], [(59, [(0, [(0, 1)]), ((-1), [(1, 1)]), (21, []), (0, [(2, 1)])])]), [([((-2147483648), 2147483647), ((-2147483648), 2147483647), ((-2147483648), 2147483647), ((-9223372036854775808), 9223372036854775807)], [(12, false)], [], [], [], [], [(36, [(0, [(0, 1)]), ((-1), [(1, 1)]), (257, []), (0, [(2, 1)]), (0, [(3, 1)])])])])
theorem lk_370 : l_core lm_370 := by
  first
  | skip
    intro v x h
    have K := k_m2t_21 (V := v) (n := x 0) (d := x 1) (s := x 2) (l_c4 (fun w0 w1 w2 w3 : Int => 0 ≤ w1 ∧ 0 ≤ w2 ∧ w2 ≤ 41 ∧ t_km w2 = tk (t_b v) w0 w1.toNat ∧ w3 = t_s (t_b v) w0 w1.toNat) (l_e1 x 0) (l_q2 1 x 1) (l_e0 x (21)) (l_e1 x 2) (h.2.2.2.1)) (l_cc (l_q2 1 x 1) (h.2.1.1))
    obtain ⟨z, K1, K2⟩ := K
    refine l_outN rfl z (And.intro (And.intro h.1.1 (And.intro h.1.2.1 (And.intro h.1.2.2.1 (And.intro K1 trivial)))) ?_)
    exact l_o5 (fun w0 w1 w2 w3 w4 : Int => (True) ∧ (q_tok (t_b v) w0 w1 w2 w3 w4 ∧ True)) (show y_ev (l_ex x 3 z) (0, [(0, 1)]) = x 0 from l_e1 (l_ex x 3 z) 0) (show y_ev (l_ex x 3 z) ((-1), [(1, 1)]) = x 1 - 1 by show ((-1) : Int) + ((1) * x 1 + 0) = _; omega) (l_e0 (l_ex x 3 z) (257)) (show y_ev (l_ex x 3 z) (0, [(2, 1)]) = x 2 from l_e1 (l_ex x 3 z) 2) (show y_ev (l_ex x 3 z) (0, [(3, 1)]) = z from l_e1 (l_ex x 3 z) 3) K2
  | skip
    intro v x h
    have C0 : (0 : Int) ≤ x 1 - 1 := l_cc (a := y_ev x ((-1), [(1, 1)])) (by show ((-1) : Int) + ((1) * x 1 + 0) = x 1 - 1; omega) (h.2.1.1)
    have E0 : y_ev x (0, [(0, 1)]) = x 0 := (l_e1 _ _)
    have E1 : y_ev x ((-1), [(1, 1)]) = x 1 - 1 := (by show ((-1) : Int) + ((1) * x 1 + 0) = x 1 - 1; omega)
    have E2 : y_ev x (21, []) = 21 := (l_e0 _ _)
    have E3 : y_ev x (0, [(2, 1)]) = x 2 := (l_e1 _ _)
    have T0 : 0 ≤ (y_ev x ((-1), [(1, 1)])) ∧ 0 ≤ (y_ev x (21, [])) ∧ (y_ev x (21, [])) ≤ 41 ∧ t_km (y_ev x (21, [])) = tk (t_b v) (y_ev x (0, [(0, 1)])) (y_ev x ((-1), [(1, 1)])).toNat ∧ (y_ev x (0, [(2, 1)])) = t_s (t_b v) (y_ev x (0, [(0, 1)])) (y_ev x ((-1), [(1, 1)])).toNat := h.2.2.2.1
    (try rw [E0] at T0); (try rw [E1] at T0); (try rw [E2] at T0); (try rw [E3] at T0)
    have K := k_m2t_21 (V := v) (n := x 0) (d := x 1) (s := x 2) T0 C0
    obtain ⟨z, K1, K2⟩ := K
    refine l_outN rfl z (And.intro (And.intro h.1.1 (And.intro h.1.2.1 (And.intro h.1.2.2.1 (And.intro K1 trivial)))) ?_)
    have O0 : y_ev (l_ex x 3 z) (0, [(0, 1)]) = x 0 := by show ((0) : Int) + ((1) * x 0 + 0) = _; omega
    have O1 : y_ev (l_ex x 3 z) ((-1), [(1, 1)]) = x 1 - 1 := by show ((-1) : Int) + ((1) * x 1 + 0) = _; omega
    have O2 : y_ev (l_ex x 3 z) (257, []) = 257 := by show ((257) : Int) + 0 = _; omega
    have O3 : y_ev (l_ex x 3 z) (0, [(2, 1)]) = x 2 := by show ((0) : Int) + ((1) * x 2 + 0) = _; omega
    have O4 : y_ev (l_ex x 3 z) (0, [(3, 1)]) = z := by show ((0) : Int) + ((1) * z + 0) = _; omega
    show (True) ∧ (q_tok (t_b v) (y_ev (l_ex x 3 z) (0, [(0, 1)])) (y_ev (l_ex x 3 z) ((-1), [(1, 1)])) (y_ev (l_ex x 3 z) (257, [])) (y_ev (l_ex x 3 z) (0, [(2, 1)])) (y_ev (l_ex x 3 z) (0, [(3, 1)])) ∧ True)
    (try rw [O0]); (try rw [O1]); (try rw [O2]); (try rw [O3]); (try rw [O4])
    exact K2
def lm_371 : zLem := (([((-2147483648), 2147483647), ((-2147483648), 2147483647), ((-2147483648), 2147483647)], [(12, false)], [((-1), [(1, 1)])], [], [], [(0, (false, 11, 0, []), 0, 0, 0, [(1, 1)])], [(59, [(0, [(0, 1)]), ((-1), [(1, 1)]), (22, []), (0, [(2, 1)])])]), [([((-2147483648), 2147483647), ((-2147483648), 2147483647), ((-2147483648), 2147483647), ((-9223372036854775808), 9223372036854775807)], [(12, false)], [], [], [], [], [(36, [(0, [(0, 1)]), ((-1), [(1, 1)]), (258, []), (0, [(2, 1)]), (0, [(3, 1)])])])])
theorem lk_371 : l_core lm_371 := by
  first
  | skip
    intro v x h
    have K := k_m2t_22 (V := v) (n := x 0) (d := x 1) (s := x 2) (l_c4 (fun w0 w1 w2 w3 : Int => 0 ≤ w1 ∧ 0 ≤ w2 ∧ w2 ≤ 41 ∧ t_km w2 = tk (t_b v) w0 w1.toNat ∧ w3 = t_s (t_b v) w0 w1.toNat) (l_e1 x 0) (l_q2 1 x 1) (l_e0 x (22)) (l_e1 x 2) (h.2.2.2.1)) (l_cc (l_q2 1 x 1) (h.2.1.1))
    obtain ⟨z, K1, K2⟩ := K
    refine l_outN rfl z (And.intro (And.intro h.1.1 (And.intro h.1.2.1 (And.intro h.1.2.2.1 (And.intro K1 trivial)))) ?_)
    exact l_o5 (fun w0 w1 w2 w3 w4 : Int => (True) ∧ (q_tok (t_b v) w0 w1 w2 w3 w4 ∧ True)) (show y_ev (l_ex x 3 z) (0, [(0, 1)]) = x 0 from l_e1 (l_ex x 3 z) 0) (show y_ev (l_ex x 3 z) ((-1), [(1, 1)]) = x 1 - 1 by show ((-1) : Int) + ((1) * x 1 + 0) = _; omega) (l_e0 (l_ex x 3 z) (258)) (show y_ev (l_ex x 3 z) (0, [(2, 1)]) = x 2 from l_e1 (l_ex x 3 z) 2) (show y_ev (l_ex x 3 z) (0, [(3, 1)]) = z from l_e1 (l_ex x 3 z) 3) K2
  | skip
    intro v x h
    have C0 : (0 : Int) ≤ x 1 - 1 := l_cc (a := y_ev x ((-1), [(1, 1)])) (by show ((-1) : Int) + ((1) * x 1 + 0) = x 1 - 1; omega) (h.2.1.1)
    have E0 : y_ev x (0, [(0, 1)]) = x 0 := (l_e1 _ _)
    have E1 : y_ev x ((-1), [(1, 1)]) = x 1 - 1 := (by show ((-1) : Int) + ((1) * x 1 + 0) = x 1 - 1; omega)
    have E2 : y_ev x (22, []) = 22 := (l_e0 _ _)
    have E3 : y_ev x (0, [(2, 1)]) = x 2 := (l_e1 _ _)
    have T0 : 0 ≤ (y_ev x ((-1), [(1, 1)])) ∧ 0 ≤ (y_ev x (22, [])) ∧ (y_ev x (22, [])) ≤ 41 ∧ t_km (y_ev x (22, [])) = tk (t_b v) (y_ev x (0, [(0, 1)])) (y_ev x ((-1), [(1, 1)])).toNat ∧ (y_ev x (0, [(2, 1)])) = t_s (t_b v) (y_ev x (0, [(0, 1)])) (y_ev x ((-1), [(1, 1)])).toNat := h.2.2.2.1
    (try rw [E0] at T0); (try rw [E1] at T0); (try rw [E2] at T0); (try rw [E3] at T0)
    have K := k_m2t_22 (V := v) (n := x 0) (d := x 1) (s := x 2) T0 C0
    obtain ⟨z, K1, K2⟩ := K
    refine l_outN rfl z (And.intro (And.intro h.1.1 (And.intro h.1.2.1 (And.intro h.1.2.2.1 (And.intro K1 trivial)))) ?_)
    have O0 : y_ev (l_ex x 3 z) (0, [(0, 1)]) = x 0 := by show ((0) : Int) + ((1) * x 0 + 0) = _; omega
    have O1 : y_ev (l_ex x 3 z) ((-1), [(1, 1)]) = x 1 - 1 := by show ((-1) : Int) + ((1) * x 1 + 0) = _; omega
    have O2 : y_ev (l_ex x 3 z) (258, []) = 258 := by show ((258) : Int) + 0 = _; omega
    have O3 : y_ev (l_ex x 3 z) (0, [(2, 1)]) = x 2 := by show ((0) : Int) + ((1) * x 2 + 0) = _; omega
    have O4 : y_ev (l_ex x 3 z) (0, [(3, 1)]) = z := by show ((0) : Int) + ((1) * z + 0) = _; omega
    show (True) ∧ (q_tok (t_b v) (y_ev (l_ex x 3 z) (0, [(0, 1)])) (y_ev (l_ex x 3 z) ((-1), [(1, 1)])) (y_ev (l_ex x 3 z) (258, [])) (y_ev (l_ex x 3 z) (0, [(2, 1)])) (y_ev (l_ex x 3 z) (0, [(3, 1)])) ∧ True)
    (try rw [O0]); (try rw [O1]); (try rw [O2]); (try rw [O3]); (try rw [O4])
    exact K2
def lm_372 : zLem := (([((-2147483648), 2147483647), ((-2147483648), 2147483647), ((-2147483648), 2147483647)], [(12, false)], [((-1), [(1, 1)])], [], [], [(0, (false, 11, 0, []), 0, 0, 0, [(1, 1)])], [(59, [(0, [(0, 1)]), ((-1), [(1, 1)]), (23, []), (0, [(2, 1)])])]), [([((-2147483648), 2147483647), ((-2147483648), 2147483647), ((-2147483648), 2147483647), ((-9223372036854775808), 9223372036854775807)], [(12, false)], [], [], [], [], [(36, [(0, [(0, 1)]), ((-1), [(1, 1)]), (259, []), (0, [(2, 1)]), (0, [(3, 1)])])])])
theorem lk_372 : l_core lm_372 := by
  first
  | skip
    intro v x h
    have K := k_m2t_23 (V := v) (n := x 0) (d := x 1) (s := x 2) (l_c4 (fun w0 w1 w2 w3 : Int => 0 ≤ w1 ∧ 0 ≤ w2 ∧ w2 ≤ 41 ∧ t_km w2 = tk (t_b v) w0 w1.toNat ∧ w3 = t_s (t_b v) w0 w1.toNat) (l_e1 x 0) (l_q2 1 x 1) (l_e0 x (23)) (l_e1 x 2) (h.2.2.2.1)) (l_cc (l_q2 1 x 1) (h.2.1.1))
    obtain ⟨z, K1, K2⟩ := K
    refine l_outN rfl z (And.intro (And.intro h.1.1 (And.intro h.1.2.1 (And.intro h.1.2.2.1 (And.intro K1 trivial)))) ?_)
    exact l_o5 (fun w0 w1 w2 w3 w4 : Int => (True) ∧ (q_tok (t_b v) w0 w1 w2 w3 w4 ∧ True)) (show y_ev (l_ex x 3 z) (0, [(0, 1)]) = x 0 from l_e1 (l_ex x 3 z) 0) (show y_ev (l_ex x 3 z) ((-1), [(1, 1)]) = x 1 - 1 by show ((-1) : Int) + ((1) * x 1 + 0) = _; omega) (l_e0 (l_ex x 3 z) (259)) (show y_ev (l_ex x 3 z) (0, [(2, 1)]) = x 2 from l_e1 (l_ex x 3 z) 2) (show y_ev (l_ex x 3 z) (0, [(3, 1)]) = z from l_e1 (l_ex x 3 z) 3) K2
  | skip
    intro v x h
    have C0 : (0 : Int) ≤ x 1 - 1 := l_cc (a := y_ev x ((-1), [(1, 1)])) (by show ((-1) : Int) + ((1) * x 1 + 0) = x 1 - 1; omega) (h.2.1.1)
    have E0 : y_ev x (0, [(0, 1)]) = x 0 := (l_e1 _ _)
    have E1 : y_ev x ((-1), [(1, 1)]) = x 1 - 1 := (by show ((-1) : Int) + ((1) * x 1 + 0) = x 1 - 1; omega)
    have E2 : y_ev x (23, []) = 23 := (l_e0 _ _)
    have E3 : y_ev x (0, [(2, 1)]) = x 2 := (l_e1 _ _)
    have T0 : 0 ≤ (y_ev x ((-1), [(1, 1)])) ∧ 0 ≤ (y_ev x (23, [])) ∧ (y_ev x (23, [])) ≤ 41 ∧ t_km (y_ev x (23, [])) = tk (t_b v) (y_ev x (0, [(0, 1)])) (y_ev x ((-1), [(1, 1)])).toNat ∧ (y_ev x (0, [(2, 1)])) = t_s (t_b v) (y_ev x (0, [(0, 1)])) (y_ev x ((-1), [(1, 1)])).toNat := h.2.2.2.1
    (try rw [E0] at T0); (try rw [E1] at T0); (try rw [E2] at T0); (try rw [E3] at T0)
    have K := k_m2t_23 (V := v) (n := x 0) (d := x 1) (s := x 2) T0 C0
    obtain ⟨z, K1, K2⟩ := K
    refine l_outN rfl z (And.intro (And.intro h.1.1 (And.intro h.1.2.1 (And.intro h.1.2.2.1 (And.intro K1 trivial)))) ?_)
    have O0 : y_ev (l_ex x 3 z) (0, [(0, 1)]) = x 0 := by show ((0) : Int) + ((1) * x 0 + 0) = _; omega
    have O1 : y_ev (l_ex x 3 z) ((-1), [(1, 1)]) = x 1 - 1 := by show ((-1) : Int) + ((1) * x 1 + 0) = _; omega
    have O2 : y_ev (l_ex x 3 z) (259, []) = 259 := by show ((259) : Int) + 0 = _; omega
    have O3 : y_ev (l_ex x 3 z) (0, [(2, 1)]) = x 2 := by show ((0) : Int) + ((1) * x 2 + 0) = _; omega
    have O4 : y_ev (l_ex x 3 z) (0, [(3, 1)]) = z := by show ((0) : Int) + ((1) * z + 0) = _; omega
    show (True) ∧ (q_tok (t_b v) (y_ev (l_ex x 3 z) (0, [(0, 1)])) (y_ev (l_ex x 3 z) ((-1), [(1, 1)])) (y_ev (l_ex x 3 z) (259, [])) (y_ev (l_ex x 3 z) (0, [(2, 1)])) (y_ev (l_ex x 3 z) (0, [(3, 1)])) ∧ True)
    (try rw [O0]); (try rw [O1]); (try rw [O2]); (try rw [O3]); (try rw [O4])
    exact K2
def lm_373 : zLem := (([((-2147483648), 2147483647), ((-2147483648), 2147483647), ((-2147483648), 2147483647)], [(12, false)], [((-1), [(1, 1)])], [], [], [(0, (false, 11, 0, []), 0, 0, 0, [(1, 1)])], [(59, [(0, [(0, 1)]), ((-1), [(1, 1)]), (24, []), (0, [(2, 1)])])]), [([((-2147483648), 2147483647), ((-2147483648), 2147483647), ((-2147483648), 2147483647), ((-9223372036854775808), 9223372036854775807)], [(12, false)], [], [], [], [], [(36, [(0, [(0, 1)]), ((-1), [(1, 1)]), (260, []), (0, [(2, 1)]), (0, [(3, 1)])])])])
theorem lk_373 : l_core lm_373 := by
  first
  | skip
    intro v x h
    have K := k_m2t_24 (V := v) (n := x 0) (d := x 1) (s := x 2) (l_c4 (fun w0 w1 w2 w3 : Int => 0 ≤ w1 ∧ 0 ≤ w2 ∧ w2 ≤ 41 ∧ t_km w2 = tk (t_b v) w0 w1.toNat ∧ w3 = t_s (t_b v) w0 w1.toNat) (l_e1 x 0) (l_q2 1 x 1) (l_e0 x (24)) (l_e1 x 2) (h.2.2.2.1)) (l_cc (l_q2 1 x 1) (h.2.1.1))
    obtain ⟨z, K1, K2⟩ := K
    refine l_outN rfl z (And.intro (And.intro h.1.1 (And.intro h.1.2.1 (And.intro h.1.2.2.1 (And.intro K1 trivial)))) ?_)
    exact l_o5 (fun w0 w1 w2 w3 w4 : Int => (True) ∧ (q_tok (t_b v) w0 w1 w2 w3 w4 ∧ True)) (show y_ev (l_ex x 3 z) (0, [(0, 1)]) = x 0 from l_e1 (l_ex x 3 z) 0) (show y_ev (l_ex x 3 z) ((-1), [(1, 1)]) = x 1 - 1 by show ((-1) : Int) + ((1) * x 1 + 0) = _; omega) (l_e0 (l_ex x 3 z) (260)) (show y_ev (l_ex x 3 z) (0, [(2, 1)]) = x 2 from l_e1 (l_ex x 3 z) 2) (show y_ev (l_ex x 3 z) (0, [(3, 1)]) = z from l_e1 (l_ex x 3 z) 3) K2
  | skip
    intro v x h
    have C0 : (0 : Int) ≤ x 1 - 1 := l_cc (a := y_ev x ((-1), [(1, 1)])) (by show ((-1) : Int) + ((1) * x 1 + 0) = x 1 - 1; omega) (h.2.1.1)
    have E0 : y_ev x (0, [(0, 1)]) = x 0 := (l_e1 _ _)
    have E1 : y_ev x ((-1), [(1, 1)]) = x 1 - 1 := (by show ((-1) : Int) + ((1) * x 1 + 0) = x 1 - 1; omega)
    have E2 : y_ev x (24, []) = 24 := (l_e0 _ _)
    have E3 : y_ev x (0, [(2, 1)]) = x 2 := (l_e1 _ _)
    have T0 : 0 ≤ (y_ev x ((-1), [(1, 1)])) ∧ 0 ≤ (y_ev x (24, [])) ∧ (y_ev x (24, [])) ≤ 41 ∧ t_km (y_ev x (24, [])) = tk (t_b v) (y_ev x (0, [(0, 1)])) (y_ev x ((-1), [(1, 1)])).toNat ∧ (y_ev x (0, [(2, 1)])) = t_s (t_b v) (y_ev x (0, [(0, 1)])) (y_ev x ((-1), [(1, 1)])).toNat := h.2.2.2.1
    (try rw [E0] at T0); (try rw [E1] at T0); (try rw [E2] at T0); (try rw [E3] at T0)
    have K := k_m2t_24 (V := v) (n := x 0) (d := x 1) (s := x 2) T0 C0
    obtain ⟨z, K1, K2⟩ := K
    refine l_outN rfl z (And.intro (And.intro h.1.1 (And.intro h.1.2.1 (And.intro h.1.2.2.1 (And.intro K1 trivial)))) ?_)
    have O0 : y_ev (l_ex x 3 z) (0, [(0, 1)]) = x 0 := by show ((0) : Int) + ((1) * x 0 + 0) = _; omega
    have O1 : y_ev (l_ex x 3 z) ((-1), [(1, 1)]) = x 1 - 1 := by show ((-1) : Int) + ((1) * x 1 + 0) = _; omega
    have O2 : y_ev (l_ex x 3 z) (260, []) = 260 := by show ((260) : Int) + 0 = _; omega
    have O3 : y_ev (l_ex x 3 z) (0, [(2, 1)]) = x 2 := by show ((0) : Int) + ((1) * x 2 + 0) = _; omega
    have O4 : y_ev (l_ex x 3 z) (0, [(3, 1)]) = z := by show ((0) : Int) + ((1) * z + 0) = _; omega
    show (True) ∧ (q_tok (t_b v) (y_ev (l_ex x 3 z) (0, [(0, 1)])) (y_ev (l_ex x 3 z) ((-1), [(1, 1)])) (y_ev (l_ex x 3 z) (260, [])) (y_ev (l_ex x 3 z) (0, [(2, 1)])) (y_ev (l_ex x 3 z) (0, [(3, 1)])) ∧ True)
    (try rw [O0]); (try rw [O1]); (try rw [O2]); (try rw [O3]); (try rw [O4])
    exact K2
def lm_374 : zLem := (([((-2147483648), 2147483647), ((-2147483648), 2147483647), ((-2147483648), 2147483647)], [(12, false)], [((-1), [(1, 1)])], [], [], [(0, (false, 11, 0, []), 0, 0, 0, [(1, 1)])], [(59, [(0, [(0, 1)]), ((-1), [(1, 1)]), (25, []), (0, [(2, 1)])])]), [([((-2147483648), 2147483647), ((-2147483648), 2147483647), ((-2147483648), 2147483647), ((-9223372036854775808), 9223372036854775807)], [(12, false)], [], [], [], [], [(36, [(0, [(0, 1)]), ((-1), [(1, 1)]), (261, []), (0, [(2, 1)]), (0, [(3, 1)])])])])
theorem lk_374 : l_core lm_374 := by
  first
  | skip
    intro v x h
    have K := k_m2t_25 (V := v) (n := x 0) (d := x 1) (s := x 2) (l_c4 (fun w0 w1 w2 w3 : Int => 0 ≤ w1 ∧ 0 ≤ w2 ∧ w2 ≤ 41 ∧ t_km w2 = tk (t_b v) w0 w1.toNat ∧ w3 = t_s (t_b v) w0 w1.toNat) (l_e1 x 0) (l_q2 1 x 1) (l_e0 x (25)) (l_e1 x 2) (h.2.2.2.1)) (l_cc (l_q2 1 x 1) (h.2.1.1))
    obtain ⟨z, K1, K2⟩ := K
    refine l_outN rfl z (And.intro (And.intro h.1.1 (And.intro h.1.2.1 (And.intro h.1.2.2.1 (And.intro K1 trivial)))) ?_)
    exact l_o5 (fun w0 w1 w2 w3 w4 : Int => (True) ∧ (q_tok (t_b v) w0 w1 w2 w3 w4 ∧ True)) (show y_ev (l_ex x 3 z) (0, [(0, 1)]) = x 0 from l_e1 (l_ex x 3 z) 0) (show y_ev (l_ex x 3 z) ((-1), [(1, 1)]) = x 1 - 1 by show ((-1) : Int) + ((1) * x 1 + 0) = _; omega) (l_e0 (l_ex x 3 z) (261)) (show y_ev (l_ex x 3 z) (0, [(2, 1)]) = x 2 from l_e1 (l_ex x 3 z) 2) (show y_ev (l_ex x 3 z) (0, [(3, 1)]) = z from l_e1 (l_ex x 3 z) 3) K2
  | skip
    intro v x h
    have C0 : (0 : Int) ≤ x 1 - 1 := l_cc (a := y_ev x ((-1), [(1, 1)])) (by show ((-1) : Int) + ((1) * x 1 + 0) = x 1 - 1; omega) (h.2.1.1)
    have E0 : y_ev x (0, [(0, 1)]) = x 0 := (l_e1 _ _)
    have E1 : y_ev x ((-1), [(1, 1)]) = x 1 - 1 := (by show ((-1) : Int) + ((1) * x 1 + 0) = x 1 - 1; omega)
    have E2 : y_ev x (25, []) = 25 := (l_e0 _ _)
    have E3 : y_ev x (0, [(2, 1)]) = x 2 := (l_e1 _ _)
    have T0 : 0 ≤ (y_ev x ((-1), [(1, 1)])) ∧ 0 ≤ (y_ev x (25, [])) ∧ (y_ev x (25, [])) ≤ 41 ∧ t_km (y_ev x (25, [])) = tk (t_b v) (y_ev x (0, [(0, 1)])) (y_ev x ((-1), [(1, 1)])).toNat ∧ (y_ev x (0, [(2, 1)])) = t_s (t_b v) (y_ev x (0, [(0, 1)])) (y_ev x ((-1), [(1, 1)])).toNat := h.2.2.2.1
    (try rw [E0] at T0); (try rw [E1] at T0); (try rw [E2] at T0); (try rw [E3] at T0)
    have K := k_m2t_25 (V := v) (n := x 0) (d := x 1) (s := x 2) T0 C0
    obtain ⟨z, K1, K2⟩ := K
    refine l_outN rfl z (And.intro (And.intro h.1.1 (And.intro h.1.2.1 (And.intro h.1.2.2.1 (And.intro K1 trivial)))) ?_)
    have O0 : y_ev (l_ex x 3 z) (0, [(0, 1)]) = x 0 := by show ((0) : Int) + ((1) * x 0 + 0) = _; omega
    have O1 : y_ev (l_ex x 3 z) ((-1), [(1, 1)]) = x 1 - 1 := by show ((-1) : Int) + ((1) * x 1 + 0) = _; omega
    have O2 : y_ev (l_ex x 3 z) (261, []) = 261 := by show ((261) : Int) + 0 = _; omega
    have O3 : y_ev (l_ex x 3 z) (0, [(2, 1)]) = x 2 := by show ((0) : Int) + ((1) * x 2 + 0) = _; omega
    have O4 : y_ev (l_ex x 3 z) (0, [(3, 1)]) = z := by show ((0) : Int) + ((1) * z + 0) = _; omega
    show (True) ∧ (q_tok (t_b v) (y_ev (l_ex x 3 z) (0, [(0, 1)])) (y_ev (l_ex x 3 z) ((-1), [(1, 1)])) (y_ev (l_ex x 3 z) (261, [])) (y_ev (l_ex x 3 z) (0, [(2, 1)])) (y_ev (l_ex x 3 z) (0, [(3, 1)])) ∧ True)
    (try rw [O0]); (try rw [O1]); (try rw [O2]); (try rw [O3]); (try rw [O4])
    exact K2
def lm_375 : zLem := (([((-2147483648), 2147483647), ((-2147483648), 2147483647), ((-2147483648), 2147483647)], [(12, false)], [((-1), [(1, 1)])], [], [], [(0, (false, 11, 0, []), 0, 0, 0, [(1, 1)])], [(59, [(0, [(0, 1)]), ((-1), [(1, 1)]), (26, []), (0, [(2, 1)])])]), [([((-2147483648), 2147483647), ((-2147483648), 2147483647), ((-2147483648), 2147483647), ((-9223372036854775808), 9223372036854775807)], [(12, false)], [], [], [], [], [(36, [(0, [(0, 1)]), ((-1), [(1, 1)]), (262, []), (0, [(2, 1)]), (0, [(3, 1)])])])])
theorem lk_375 : l_core lm_375 := by
  first
  | skip
    intro v x h
    have K := k_m2t_26 (V := v) (n := x 0) (d := x 1) (s := x 2) (l_c4 (fun w0 w1 w2 w3 : Int => 0 ≤ w1 ∧ 0 ≤ w2 ∧ w2 ≤ 41 ∧ t_km w2 = tk (t_b v) w0 w1.toNat ∧ w3 = t_s (t_b v) w0 w1.toNat) (l_e1 x 0) (l_q2 1 x 1) (l_e0 x (26)) (l_e1 x 2) (h.2.2.2.1)) (l_cc (l_q2 1 x 1) (h.2.1.1))
    obtain ⟨z, K1, K2⟩ := K
    refine l_outN rfl z (And.intro (And.intro h.1.1 (And.intro h.1.2.1 (And.intro h.1.2.2.1 (And.intro K1 trivial)))) ?_)
    exact l_o5 (fun w0 w1 w2 w3 w4 : Int => (True) ∧ (q_tok (t_b v) w0 w1 w2 w3 w4 ∧ True)) (show y_ev (l_ex x 3 z) (0, [(0, 1)]) = x 0 from l_e1 (l_ex x 3 z) 0) (show y_ev (l_ex x 3 z) ((-1), [(1, 1)]) = x 1 - 1 by show ((-1) : Int) + ((1) * x 1 + 0) = _; omega) (l_e0 (l_ex x 3 z) (262)) (show y_ev (l_ex x 3 z) (0, [(2, 1)]) = x 2 from l_e1 (l_ex x 3 z) 2) (show y_ev (l_ex x 3 z) (0, [(3, 1)]) = z from l_e1 (l_ex x 3 z) 3) K2
  | skip
    intro v x h
    have C0 : (0 : Int) ≤ x 1 - 1 := l_cc (a := y_ev x ((-1), [(1, 1)])) (by show ((-1) : Int) + ((1) * x 1 + 0) = x 1 - 1; omega) (h.2.1.1)
    have E0 : y_ev x (0, [(0, 1)]) = x 0 := (l_e1 _ _)
    have E1 : y_ev x ((-1), [(1, 1)]) = x 1 - 1 := (by show ((-1) : Int) + ((1) * x 1 + 0) = x 1 - 1; omega)
    have E2 : y_ev x (26, []) = 26 := (l_e0 _ _)
    have E3 : y_ev x (0, [(2, 1)]) = x 2 := (l_e1 _ _)
    have T0 : 0 ≤ (y_ev x ((-1), [(1, 1)])) ∧ 0 ≤ (y_ev x (26, [])) ∧ (y_ev x (26, [])) ≤ 41 ∧ t_km (y_ev x (26, [])) = tk (t_b v) (y_ev x (0, [(0, 1)])) (y_ev x ((-1), [(1, 1)])).toNat ∧ (y_ev x (0, [(2, 1)])) = t_s (t_b v) (y_ev x (0, [(0, 1)])) (y_ev x ((-1), [(1, 1)])).toNat := h.2.2.2.1
    (try rw [E0] at T0); (try rw [E1] at T0); (try rw [E2] at T0); (try rw [E3] at T0)
    have K := k_m2t_26 (V := v) (n := x 0) (d := x 1) (s := x 2) T0 C0
    obtain ⟨z, K1, K2⟩ := K
    refine l_outN rfl z (And.intro (And.intro h.1.1 (And.intro h.1.2.1 (And.intro h.1.2.2.1 (And.intro K1 trivial)))) ?_)
    have O0 : y_ev (l_ex x 3 z) (0, [(0, 1)]) = x 0 := by show ((0) : Int) + ((1) * x 0 + 0) = _; omega
    have O1 : y_ev (l_ex x 3 z) ((-1), [(1, 1)]) = x 1 - 1 := by show ((-1) : Int) + ((1) * x 1 + 0) = _; omega
    have O2 : y_ev (l_ex x 3 z) (262, []) = 262 := by show ((262) : Int) + 0 = _; omega
    have O3 : y_ev (l_ex x 3 z) (0, [(2, 1)]) = x 2 := by show ((0) : Int) + ((1) * x 2 + 0) = _; omega
    have O4 : y_ev (l_ex x 3 z) (0, [(3, 1)]) = z := by show ((0) : Int) + ((1) * z + 0) = _; omega
    show (True) ∧ (q_tok (t_b v) (y_ev (l_ex x 3 z) (0, [(0, 1)])) (y_ev (l_ex x 3 z) ((-1), [(1, 1)])) (y_ev (l_ex x 3 z) (262, [])) (y_ev (l_ex x 3 z) (0, [(2, 1)])) (y_ev (l_ex x 3 z) (0, [(3, 1)])) ∧ True)
    (try rw [O0]); (try rw [O1]); (try rw [O2]); (try rw [O3]); (try rw [O4])
    exact K2
def lm_376 : zLem := (([((-2147483648), 2147483647), ((-2147483648), 2147483647), ((-2147483648), 2147483647)], [(12, false)], [((-1), [(1, 1)])], [], [], [(0, (false, 11, 0, []), 0, 0, 0, [(1, 1)])], [(59, [(0, [(0, 1)]), ((-1), [(1, 1)]), (27, []), (0, [(2, 1)])])]), [([((-2147483648), 2147483647), ((-2147483648), 2147483647), ((-2147483648), 2147483647), ((-9223372036854775808), 9223372036854775807)], [(12, false)], [], [], [], [], [(36, [(0, [(0, 1)]), ((-1), [(1, 1)]), (263, []), (0, [(2, 1)]), (0, [(3, 1)])])])])
theorem lk_376 : l_core lm_376 := by
  first
  | skip
    intro v x h
    have K := k_m2t_27 (V := v) (n := x 0) (d := x 1) (s := x 2) (l_c4 (fun w0 w1 w2 w3 : Int => 0 ≤ w1 ∧ 0 ≤ w2 ∧ w2 ≤ 41 ∧ t_km w2 = tk (t_b v) w0 w1.toNat ∧ w3 = t_s (t_b v) w0 w1.toNat) (l_e1 x 0) (l_q2 1 x 1) (l_e0 x (27)) (l_e1 x 2) (h.2.2.2.1)) (l_cc (l_q2 1 x 1) (h.2.1.1))
    obtain ⟨z, K1, K2⟩ := K
    refine l_outN rfl z (And.intro (And.intro h.1.1 (And.intro h.1.2.1 (And.intro h.1.2.2.1 (And.intro K1 trivial)))) ?_)
    exact l_o5 (fun w0 w1 w2 w3 w4 : Int => (True) ∧ (q_tok (t_b v) w0 w1 w2 w3 w4 ∧ True)) (show y_ev (l_ex x 3 z) (0, [(0, 1)]) = x 0 from l_e1 (l_ex x 3 z) 0) (show y_ev (l_ex x 3 z) ((-1), [(1, 1)]) = x 1 - 1 by show ((-1) : Int) + ((1) * x 1 + 0) = _; omega) (l_e0 (l_ex x 3 z) (263)) (show y_ev (l_ex x 3 z) (0, [(2, 1)]) = x 2 from l_e1 (l_ex x 3 z) 2) (show y_ev (l_ex x 3 z) (0, [(3, 1)]) = z from l_e1 (l_ex x 3 z) 3) K2
  | skip
    intro v x h
    have C0 : (0 : Int) ≤ x 1 - 1 := l_cc (a := y_ev x ((-1), [(1, 1)])) (by show ((-1) : Int) + ((1) * x 1 + 0) = x 1 - 1; omega) (h.2.1.1)
    have E0 : y_ev x (0, [(0, 1)]) = x 0 := (l_e1 _ _)
    have E1 : y_ev x ((-1), [(1, 1)]) = x 1 - 1 := (by show ((-1) : Int) + ((1) * x 1 + 0) = x 1 - 1; omega)
    have E2 : y_ev x (27, []) = 27 := (l_e0 _ _)
    have E3 : y_ev x (0, [(2, 1)]) = x 2 := (l_e1 _ _)
    have T0 : 0 ≤ (y_ev x ((-1), [(1, 1)])) ∧ 0 ≤ (y_ev x (27, [])) ∧ (y_ev x (27, [])) ≤ 41 ∧ t_km (y_ev x (27, [])) = tk (t_b v) (y_ev x (0, [(0, 1)])) (y_ev x ((-1), [(1, 1)])).toNat ∧ (y_ev x (0, [(2, 1)])) = t_s (t_b v) (y_ev x (0, [(0, 1)])) (y_ev x ((-1), [(1, 1)])).toNat := h.2.2.2.1
    (try rw [E0] at T0); (try rw [E1] at T0); (try rw [E2] at T0); (try rw [E3] at T0)
    have K := k_m2t_27 (V := v) (n := x 0) (d := x 1) (s := x 2) T0 C0
    obtain ⟨z, K1, K2⟩ := K
    refine l_outN rfl z (And.intro (And.intro h.1.1 (And.intro h.1.2.1 (And.intro h.1.2.2.1 (And.intro K1 trivial)))) ?_)
    have O0 : y_ev (l_ex x 3 z) (0, [(0, 1)]) = x 0 := by show ((0) : Int) + ((1) * x 0 + 0) = _; omega
    have O1 : y_ev (l_ex x 3 z) ((-1), [(1, 1)]) = x 1 - 1 := by show ((-1) : Int) + ((1) * x 1 + 0) = _; omega
    have O2 : y_ev (l_ex x 3 z) (263, []) = 263 := by show ((263) : Int) + 0 = _; omega
    have O3 : y_ev (l_ex x 3 z) (0, [(2, 1)]) = x 2 := by show ((0) : Int) + ((1) * x 2 + 0) = _; omega
    have O4 : y_ev (l_ex x 3 z) (0, [(3, 1)]) = z := by show ((0) : Int) + ((1) * z + 0) = _; omega
    show (True) ∧ (q_tok (t_b v) (y_ev (l_ex x 3 z) (0, [(0, 1)])) (y_ev (l_ex x 3 z) ((-1), [(1, 1)])) (y_ev (l_ex x 3 z) (263, [])) (y_ev (l_ex x 3 z) (0, [(2, 1)])) (y_ev (l_ex x 3 z) (0, [(3, 1)])) ∧ True)
    (try rw [O0]); (try rw [O1]); (try rw [O2]); (try rw [O3]); (try rw [O4])
    exact K2
def lm_377 : zLem := (([((-2147483648), 2147483647), ((-2147483648), 2147483647), ((-2147483648), 2147483647)], [(12, false)], [((-1), [(1, 1)])], [], [], [(0, (false, 11, 0, []), 0, 0, 0, [(1, 1)])], [(59, [(0, [(0, 1)]), ((-1), [(1, 1)]), (28, []), (0, [(2, 1)])])]), [([((-2147483648), 2147483647), ((-2147483648), 2147483647), ((-2147483648), 2147483647), ((-9223372036854775808), 9223372036854775807)], [(12, false)], [], [], [], [], [(36, [(0, [(0, 1)]), ((-1), [(1, 1)]), (264, []), (0, [(2, 1)]), (0, [(3, 1)])])])])
theorem lk_377 : l_core lm_377 := by
  first
  | skip
    intro v x h
    have K := k_m2t_28 (V := v) (n := x 0) (d := x 1) (s := x 2) (l_c4 (fun w0 w1 w2 w3 : Int => 0 ≤ w1 ∧ 0 ≤ w2 ∧ w2 ≤ 41 ∧ t_km w2 = tk (t_b v) w0 w1.toNat ∧ w3 = t_s (t_b v) w0 w1.toNat) (l_e1 x 0) (l_q2 1 x 1) (l_e0 x (28)) (l_e1 x 2) (h.2.2.2.1)) (l_cc (l_q2 1 x 1) (h.2.1.1))
    obtain ⟨z, K1, K2⟩ := K
    refine l_outN rfl z (And.intro (And.intro h.1.1 (And.intro h.1.2.1 (And.intro h.1.2.2.1 (And.intro K1 trivial)))) ?_)
    exact l_o5 (fun w0 w1 w2 w3 w4 : Int => (True) ∧ (q_tok (t_b v) w0 w1 w2 w3 w4 ∧ True)) (show y_ev (l_ex x 3 z) (0, [(0, 1)]) = x 0 from l_e1 (l_ex x 3 z) 0) (show y_ev (l_ex x 3 z) ((-1), [(1, 1)]) = x 1 - 1 by show ((-1) : Int) + ((1) * x 1 + 0) = _; omega) (l_e0 (l_ex x 3 z) (264)) (show y_ev (l_ex x 3 z) (0, [(2, 1)]) = x 2 from l_e1 (l_ex x 3 z) 2) (show y_ev (l_ex x 3 z) (0, [(3, 1)]) = z from l_e1 (l_ex x 3 z) 3) K2
  | skip
    intro v x h
    have C0 : (0 : Int) ≤ x 1 - 1 := l_cc (a := y_ev x ((-1), [(1, 1)])) (by show ((-1) : Int) + ((1) * x 1 + 0) = x 1 - 1; omega) (h.2.1.1)
    have E0 : y_ev x (0, [(0, 1)]) = x 0 := (l_e1 _ _)
    have E1 : y_ev x ((-1), [(1, 1)]) = x 1 - 1 := (by show ((-1) : Int) + ((1) * x 1 + 0) = x 1 - 1; omega)
    have E2 : y_ev x (28, []) = 28 := (l_e0 _ _)
    have E3 : y_ev x (0, [(2, 1)]) = x 2 := (l_e1 _ _)
    have T0 : 0 ≤ (y_ev x ((-1), [(1, 1)])) ∧ 0 ≤ (y_ev x (28, [])) ∧ (y_ev x (28, [])) ≤ 41 ∧ t_km (y_ev x (28, [])) = tk (t_b v) (y_ev x (0, [(0, 1)])) (y_ev x ((-1), [(1, 1)])).toNat ∧ (y_ev x (0, [(2, 1)])) = t_s (t_b v) (y_ev x (0, [(0, 1)])) (y_ev x ((-1), [(1, 1)])).toNat := h.2.2.2.1
    (try rw [E0] at T0); (try rw [E1] at T0); (try rw [E2] at T0); (try rw [E3] at T0)
    have K := k_m2t_28 (V := v) (n := x 0) (d := x 1) (s := x 2) T0 C0
    obtain ⟨z, K1, K2⟩ := K
    refine l_outN rfl z (And.intro (And.intro h.1.1 (And.intro h.1.2.1 (And.intro h.1.2.2.1 (And.intro K1 trivial)))) ?_)
    have O0 : y_ev (l_ex x 3 z) (0, [(0, 1)]) = x 0 := by show ((0) : Int) + ((1) * x 0 + 0) = _; omega
    have O1 : y_ev (l_ex x 3 z) ((-1), [(1, 1)]) = x 1 - 1 := by show ((-1) : Int) + ((1) * x 1 + 0) = _; omega
    have O2 : y_ev (l_ex x 3 z) (264, []) = 264 := by show ((264) : Int) + 0 = _; omega
    have O3 : y_ev (l_ex x 3 z) (0, [(2, 1)]) = x 2 := by show ((0) : Int) + ((1) * x 2 + 0) = _; omega
    have O4 : y_ev (l_ex x 3 z) (0, [(3, 1)]) = z := by show ((0) : Int) + ((1) * z + 0) = _; omega
    show (True) ∧ (q_tok (t_b v) (y_ev (l_ex x 3 z) (0, [(0, 1)])) (y_ev (l_ex x 3 z) ((-1), [(1, 1)])) (y_ev (l_ex x 3 z) (264, [])) (y_ev (l_ex x 3 z) (0, [(2, 1)])) (y_ev (l_ex x 3 z) (0, [(3, 1)])) ∧ True)
    (try rw [O0]); (try rw [O1]); (try rw [O2]); (try rw [O3]); (try rw [O4])
    exact K2
def lm_378 : zLem := (([((-2147483648), 2147483647), ((-2147483648), 2147483647), ((-2147483648), 2147483647)], [(12, false)], [((-1), [(1, 1)])], [], [], [(0, (false, 11, 0, []), 0, 0, 0, [(1, 1)])], [(59, [(0, [(0, 1)]), ((-1), [(1, 1)]), (29, []), (0, [(2, 1)])])]), [([((-2147483648), 2147483647), ((-2147483648), 2147483647), ((-2147483648), 2147483647), ((-9223372036854775808), 9223372036854775807)], [(12, false)], [], [], [], [], [(36, [(0, [(0, 1)]), ((-1), [(1, 1)]), (265, []), (0, [(2, 1)]), (0, [(3, 1)])])])])
theorem lk_378 : l_core lm_378 := by
  first
  | skip
    intro v x h
    have K := k_m2t_29 (V := v) (n := x 0) (d := x 1) (s := x 2) (l_c4 (fun w0 w1 w2 w3 : Int => 0 ≤ w1 ∧ 0 ≤ w2 ∧ w2 ≤ 41 ∧ t_km w2 = tk (t_b v) w0 w1.toNat ∧ w3 = t_s (t_b v) w0 w1.toNat) (l_e1 x 0) (l_q2 1 x 1) (l_e0 x (29)) (l_e1 x 2) (h.2.2.2.1)) (l_cc (l_q2 1 x 1) (h.2.1.1))
    obtain ⟨z, K1, K2⟩ := K
    refine l_outN rfl z (And.intro (And.intro h.1.1 (And.intro h.1.2.1 (And.intro h.1.2.2.1 (And.intro K1 trivial)))) ?_)
    exact l_o5 (fun w0 w1 w2 w3 w4 : Int => (True) ∧ (q_tok (t_b v) w0 w1 w2 w3 w4 ∧ True)) (show y_ev (l_ex x 3 z) (0, [(0, 1)]) = x 0 from l_e1 (l_ex x 3 z) 0) (show y_ev (l_ex x 3 z) ((-1), [(1, 1)]) = x 1 - 1 by show ((-1) : Int) + ((1) * x 1 + 0) = _; omega) (l_e0 (l_ex x 3 z) (265)) (show y_ev (l_ex x 3 z) (0, [(2, 1)]) = x 2 from l_e1 (l_ex x 3 z) 2) (show y_ev (l_ex x 3 z) (0, [(3, 1)]) = z from l_e1 (l_ex x 3 z) 3) K2
  | skip
    intro v x h
    have C0 : (0 : Int) ≤ x 1 - 1 := l_cc (a := y_ev x ((-1), [(1, 1)])) (by show ((-1) : Int) + ((1) * x 1 + 0) = x 1 - 1; omega) (h.2.1.1)
    have E0 : y_ev x (0, [(0, 1)]) = x 0 := (l_e1 _ _)
    have E1 : y_ev x ((-1), [(1, 1)]) = x 1 - 1 := (by show ((-1) : Int) + ((1) * x 1 + 0) = x 1 - 1; omega)
    have E2 : y_ev x (29, []) = 29 := (l_e0 _ _)
    have E3 : y_ev x (0, [(2, 1)]) = x 2 := (l_e1 _ _)
    have T0 : 0 ≤ (y_ev x ((-1), [(1, 1)])) ∧ 0 ≤ (y_ev x (29, [])) ∧ (y_ev x (29, [])) ≤ 41 ∧ t_km (y_ev x (29, [])) = tk (t_b v) (y_ev x (0, [(0, 1)])) (y_ev x ((-1), [(1, 1)])).toNat ∧ (y_ev x (0, [(2, 1)])) = t_s (t_b v) (y_ev x (0, [(0, 1)])) (y_ev x ((-1), [(1, 1)])).toNat := h.2.2.2.1
    (try rw [E0] at T0); (try rw [E1] at T0); (try rw [E2] at T0); (try rw [E3] at T0)
    have K := k_m2t_29 (V := v) (n := x 0) (d := x 1) (s := x 2) T0 C0
    obtain ⟨z, K1, K2⟩ := K
    refine l_outN rfl z (And.intro (And.intro h.1.1 (And.intro h.1.2.1 (And.intro h.1.2.2.1 (And.intro K1 trivial)))) ?_)
    have O0 : y_ev (l_ex x 3 z) (0, [(0, 1)]) = x 0 := by show ((0) : Int) + ((1) * x 0 + 0) = _; omega
    have O1 : y_ev (l_ex x 3 z) ((-1), [(1, 1)]) = x 1 - 1 := by show ((-1) : Int) + ((1) * x 1 + 0) = _; omega
    have O2 : y_ev (l_ex x 3 z) (265, []) = 265 := by show ((265) : Int) + 0 = _; omega
    have O3 : y_ev (l_ex x 3 z) (0, [(2, 1)]) = x 2 := by show ((0) : Int) + ((1) * x 2 + 0) = _; omega
    have O4 : y_ev (l_ex x 3 z) (0, [(3, 1)]) = z := by show ((0) : Int) + ((1) * z + 0) = _; omega
    show (True) ∧ (q_tok (t_b v) (y_ev (l_ex x 3 z) (0, [(0, 1)])) (y_ev (l_ex x 3 z) ((-1), [(1, 1)])) (y_ev (l_ex x 3 z) (265, [])) (y_ev (l_ex x 3 z) (0, [(2, 1)])) (y_ev (l_ex x 3 z) (0, [(3, 1)])) ∧ True)
    (try rw [O0]); (try rw [O1]); (try rw [O2]); (try rw [O3]); (try rw [O4])
    exact K2
def lm_379 : zLem := (([((-2147483648), 2147483647), ((-2147483648), 2147483647), ((-2147483648), 2147483647)], [(12, false)], [((-1), [(1, 1)])], [], [], [(0, (false, 11, 0, []), 0, 0, 0, [(1, 1)])], [(59, [(0, [(0, 1)]), ((-1), [(1, 1)]), (30, []), (0, [(2, 1)])])]), [([((-2147483648), 2147483647), ((-2147483648), 2147483647), ((-2147483648), 2147483647), ((-9223372036854775808), 9223372036854775807)], [(12, false)], [], [], [], [], [(36, [(0, [(0, 1)]), ((-1), [(1, 1)]), (266, []), (0, [(2, 1)]), (0, [(3, 1)])])])])
theorem lk_379 : l_core lm_379 := by
  first
  | skip
    intro v x h
    have K := k_m2t_30 (V := v) (n := x 0) (d := x 1) (s := x 2) (l_c4 (fun w0 w1 w2 w3 : Int => 0 ≤ w1 ∧ 0 ≤ w2 ∧ w2 ≤ 41 ∧ t_km w2 = tk (t_b v) w0 w1.toNat ∧ w3 = t_s (t_b v) w0 w1.toNat) (l_e1 x 0) (l_q2 1 x 1) (l_e0 x (30)) (l_e1 x 2) (h.2.2.2.1)) (l_cc (l_q2 1 x 1) (h.2.1.1))
    obtain ⟨z, K1, K2⟩ := K
    refine l_outN rfl z (And.intro (And.intro h.1.1 (And.intro h.1.2.1 (And.intro h.1.2.2.1 (And.intro K1 trivial)))) ?_)
    exact l_o5 (fun w0 w1 w2 w3 w4 : Int => (True) ∧ (q_tok (t_b v) w0 w1 w2 w3 w4 ∧ True)) (show y_ev (l_ex x 3 z) (0, [(0, 1)]) = x 0 from l_e1 (l_ex x 3 z) 0) (show y_ev (l_ex x 3 z) ((-1), [(1, 1)]) = x 1 - 1 by show ((-1) : Int) + ((1) * x 1 + 0) = _; omega) (l_e0 (l_ex x 3 z) (266)) (show y_ev (l_ex x 3 z) (0, [(2, 1)]) = x 2 from l_e1 (l_ex x 3 z) 2) (show y_ev (l_ex x 3 z) (0, [(3, 1)]) = z from l_e1 (l_ex x 3 z) 3) K2
  | skip
    intro v x h
    have C0 : (0 : Int) ≤ x 1 - 1 := l_cc (a := y_ev x ((-1), [(1, 1)])) (by show ((-1) : Int) + ((1) * x 1 + 0) = x 1 - 1; omega) (h.2.1.1)
    have E0 : y_ev x (0, [(0, 1)]) = x 0 := (l_e1 _ _)
    have E1 : y_ev x ((-1), [(1, 1)]) = x 1 - 1 := (by show ((-1) : Int) + ((1) * x 1 + 0) = x 1 - 1; omega)
    have E2 : y_ev x (30, []) = 30 := (l_e0 _ _)
    have E3 : y_ev x (0, [(2, 1)]) = x 2 := (l_e1 _ _)
    have T0 : 0 ≤ (y_ev x ((-1), [(1, 1)])) ∧ 0 ≤ (y_ev x (30, [])) ∧ (y_ev x (30, [])) ≤ 41 ∧ t_km (y_ev x (30, [])) = tk (t_b v) (y_ev x (0, [(0, 1)])) (y_ev x ((-1), [(1, 1)])).toNat ∧ (y_ev x (0, [(2, 1)])) = t_s (t_b v) (y_ev x (0, [(0, 1)])) (y_ev x ((-1), [(1, 1)])).toNat := h.2.2.2.1
    (try rw [E0] at T0); (try rw [E1] at T0); (try rw [E2] at T0); (try rw [E3] at T0)
    have K := k_m2t_30 (V := v) (n := x 0) (d := x 1) (s := x 2) T0 C0
    obtain ⟨z, K1, K2⟩ := K
    refine l_outN rfl z (And.intro (And.intro h.1.1 (And.intro h.1.2.1 (And.intro h.1.2.2.1 (And.intro K1 trivial)))) ?_)
    have O0 : y_ev (l_ex x 3 z) (0, [(0, 1)]) = x 0 := by show ((0) : Int) + ((1) * x 0 + 0) = _; omega
    have O1 : y_ev (l_ex x 3 z) ((-1), [(1, 1)]) = x 1 - 1 := by show ((-1) : Int) + ((1) * x 1 + 0) = _; omega
    have O2 : y_ev (l_ex x 3 z) (266, []) = 266 := by show ((266) : Int) + 0 = _; omega
    have O3 : y_ev (l_ex x 3 z) (0, [(2, 1)]) = x 2 := by show ((0) : Int) + ((1) * x 2 + 0) = _; omega
    have O4 : y_ev (l_ex x 3 z) (0, [(3, 1)]) = z := by show ((0) : Int) + ((1) * z + 0) = _; omega
    show (True) ∧ (q_tok (t_b v) (y_ev (l_ex x 3 z) (0, [(0, 1)])) (y_ev (l_ex x 3 z) ((-1), [(1, 1)])) (y_ev (l_ex x 3 z) (266, [])) (y_ev (l_ex x 3 z) (0, [(2, 1)])) (y_ev (l_ex x 3 z) (0, [(3, 1)])) ∧ True)
    (try rw [O0]); (try rw [O1]); (try rw [O2]); (try rw [O3]); (try rw [O4])
    exact K2
def lm_380 : zLem := (([((-2147483648), 2147483647), ((-2147483648), 2147483647), ((-2147483648), 2147483647)], [(12, false)], [((-1), [(1, 1)])], [], [], [(0, (false, 11, 0, []), 0, 0, 0, [(1, 1)])], [(59, [(0, [(0, 1)]), ((-1), [(1, 1)]), (31, []), (0, [(2, 1)])])]), [([((-2147483648), 2147483647), ((-2147483648), 2147483647), ((-2147483648), 2147483647), ((-9223372036854775808), 9223372036854775807)], [(12, false)], [], [], [], [], [(36, [(0, [(0, 1)]), ((-1), [(1, 1)]), (267, []), (0, [(2, 1)]), (0, [(3, 1)])])])])
theorem lk_380 : l_core lm_380 := by
  first
  | skip
    intro v x h
    have K := k_m2t_31 (V := v) (n := x 0) (d := x 1) (s := x 2) (l_c4 (fun w0 w1 w2 w3 : Int => 0 ≤ w1 ∧ 0 ≤ w2 ∧ w2 ≤ 41 ∧ t_km w2 = tk (t_b v) w0 w1.toNat ∧ w3 = t_s (t_b v) w0 w1.toNat) (l_e1 x 0) (l_q2 1 x 1) (l_e0 x (31)) (l_e1 x 2) (h.2.2.2.1)) (l_cc (l_q2 1 x 1) (h.2.1.1))
    obtain ⟨z, K1, K2⟩ := K
    refine l_outN rfl z (And.intro (And.intro h.1.1 (And.intro h.1.2.1 (And.intro h.1.2.2.1 (And.intro K1 trivial)))) ?_)
    exact l_o5 (fun w0 w1 w2 w3 w4 : Int => (True) ∧ (q_tok (t_b v) w0 w1 w2 w3 w4 ∧ True)) (show y_ev (l_ex x 3 z) (0, [(0, 1)]) = x 0 from l_e1 (l_ex x 3 z) 0) (show y_ev (l_ex x 3 z) ((-1), [(1, 1)]) = x 1 - 1 by show ((-1) : Int) + ((1) * x 1 + 0) = _; omega) (l_e0 (l_ex x 3 z) (267)) (show y_ev (l_ex x 3 z) (0, [(2, 1)]) = x 2 from l_e1 (l_ex x 3 z) 2) (show y_ev (l_ex x 3 z) (0, [(3, 1)]) = z from l_e1 (l_ex x 3 z) 3) K2
  | skip
    intro v x h
    have C0 : (0 : Int) ≤ x 1 - 1 := l_cc (a := y_ev x ((-1), [(1, 1)])) (by show ((-1) : Int) + ((1) * x 1 + 0) = x 1 - 1; omega) (h.2.1.1)
    have E0 : y_ev x (0, [(0, 1)]) = x 0 := (l_e1 _ _)
    have E1 : y_ev x ((-1), [(1, 1)]) = x 1 - 1 := (by show ((-1) : Int) + ((1) * x 1 + 0) = x 1 - 1; omega)
    have E2 : y_ev x (31, []) = 31 := (l_e0 _ _)
    have E3 : y_ev x (0, [(2, 1)]) = x 2 := (l_e1 _ _)
    have T0 : 0 ≤ (y_ev x ((-1), [(1, 1)])) ∧ 0 ≤ (y_ev x (31, [])) ∧ (y_ev x (31, [])) ≤ 41 ∧ t_km (y_ev x (31, [])) = tk (t_b v) (y_ev x (0, [(0, 1)])) (y_ev x ((-1), [(1, 1)])).toNat ∧ (y_ev x (0, [(2, 1)])) = t_s (t_b v) (y_ev x (0, [(0, 1)])) (y_ev x ((-1), [(1, 1)])).toNat := h.2.2.2.1
    (try rw [E0] at T0); (try rw [E1] at T0); (try rw [E2] at T0); (try rw [E3] at T0)
    have K := k_m2t_31 (V := v) (n := x 0) (d := x 1) (s := x 2) T0 C0
    obtain ⟨z, K1, K2⟩ := K
    refine l_outN rfl z (And.intro (And.intro h.1.1 (And.intro h.1.2.1 (And.intro h.1.2.2.1 (And.intro K1 trivial)))) ?_)
    have O0 : y_ev (l_ex x 3 z) (0, [(0, 1)]) = x 0 := by show ((0) : Int) + ((1) * x 0 + 0) = _; omega
    have O1 : y_ev (l_ex x 3 z) ((-1), [(1, 1)]) = x 1 - 1 := by show ((-1) : Int) + ((1) * x 1 + 0) = _; omega
    have O2 : y_ev (l_ex x 3 z) (267, []) = 267 := by show ((267) : Int) + 0 = _; omega
    have O3 : y_ev (l_ex x 3 z) (0, [(2, 1)]) = x 2 := by show ((0) : Int) + ((1) * x 2 + 0) = _; omega
    have O4 : y_ev (l_ex x 3 z) (0, [(3, 1)]) = z := by show ((0) : Int) + ((1) * z + 0) = _; omega
    show (True) ∧ (q_tok (t_b v) (y_ev (l_ex x 3 z) (0, [(0, 1)])) (y_ev (l_ex x 3 z) ((-1), [(1, 1)])) (y_ev (l_ex x 3 z) (267, [])) (y_ev (l_ex x 3 z) (0, [(2, 1)])) (y_ev (l_ex x 3 z) (0, [(3, 1)])) ∧ True)
    (try rw [O0]); (try rw [O1]); (try rw [O2]); (try rw [O3]); (try rw [O4])
    exact K2
def lm_381 : zLem := (([((-2147483648), 2147483647), ((-2147483648), 2147483647), ((-2147483648), 2147483647)], [(12, false)], [((-1), [(1, 1)])], [], [], [(0, (false, 11, 0, []), 0, 0, 0, [(1, 1)])], [(59, [(0, [(0, 1)]), ((-1), [(1, 1)]), (32, []), (0, [(2, 1)])])]), [([((-2147483648), 2147483647), ((-2147483648), 2147483647), ((-2147483648), 2147483647), ((-9223372036854775808), 9223372036854775807)], [(12, false)], [], [], [], [], [(36, [(0, [(0, 1)]), ((-1), [(1, 1)]), (268, []), (0, [(2, 1)]), (0, [(3, 1)])])])])
theorem lk_381 : l_core lm_381 := by
  first
  | skip
    intro v x h
    have K := k_m2t_32 (V := v) (n := x 0) (d := x 1) (s := x 2) (l_c4 (fun w0 w1 w2 w3 : Int => 0 ≤ w1 ∧ 0 ≤ w2 ∧ w2 ≤ 41 ∧ t_km w2 = tk (t_b v) w0 w1.toNat ∧ w3 = t_s (t_b v) w0 w1.toNat) (l_e1 x 0) (l_q2 1 x 1) (l_e0 x (32)) (l_e1 x 2) (h.2.2.2.1)) (l_cc (l_q2 1 x 1) (h.2.1.1))
    obtain ⟨z, K1, K2⟩ := K
    refine l_outN rfl z (And.intro (And.intro h.1.1 (And.intro h.1.2.1 (And.intro h.1.2.2.1 (And.intro K1 trivial)))) ?_)
    exact l_o5 (fun w0 w1 w2 w3 w4 : Int => (True) ∧ (q_tok (t_b v) w0 w1 w2 w3 w4 ∧ True)) (show y_ev (l_ex x 3 z) (0, [(0, 1)]) = x 0 from l_e1 (l_ex x 3 z) 0) (show y_ev (l_ex x 3 z) ((-1), [(1, 1)]) = x 1 - 1 by show ((-1) : Int) + ((1) * x 1 + 0) = _; omega) (l_e0 (l_ex x 3 z) (268)) (show y_ev (l_ex x 3 z) (0, [(2, 1)]) = x 2 from l_e1 (l_ex x 3 z) 2) (show y_ev (l_ex x 3 z) (0, [(3, 1)]) = z from l_e1 (l_ex x 3 z) 3) K2
  | skip
    intro v x h
    have C0 : (0 : Int) ≤ x 1 - 1 := l_cc (a := y_ev x ((-1), [(1, 1)])) (by show ((-1) : Int) + ((1) * x 1 + 0) = x 1 - 1; omega) (h.2.1.1)
    have E0 : y_ev x (0, [(0, 1)]) = x 0 := (l_e1 _ _)
    have E1 : y_ev x ((-1), [(1, 1)]) = x 1 - 1 := (by show ((-1) : Int) + ((1) * x 1 + 0) = x 1 - 1; omega)
    have E2 : y_ev x (32, []) = 32 := (l_e0 _ _)
    have E3 : y_ev x (0, [(2, 1)]) = x 2 := (l_e1 _ _)
    have T0 : 0 ≤ (y_ev x ((-1), [(1, 1)])) ∧ 0 ≤ (y_ev x (32, [])) ∧ (y_ev x (32, [])) ≤ 41 ∧ t_km (y_ev x (32, [])) = tk (t_b v) (y_ev x (0, [(0, 1)])) (y_ev x ((-1), [(1, 1)])).toNat ∧ (y_ev x (0, [(2, 1)])) = t_s (t_b v) (y_ev x (0, [(0, 1)])) (y_ev x ((-1), [(1, 1)])).toNat := h.2.2.2.1
    (try rw [E0] at T0); (try rw [E1] at T0); (try rw [E2] at T0); (try rw [E3] at T0)
    have K := k_m2t_32 (V := v) (n := x 0) (d := x 1) (s := x 2) T0 C0
    obtain ⟨z, K1, K2⟩ := K
    refine l_outN rfl z (And.intro (And.intro h.1.1 (And.intro h.1.2.1 (And.intro h.1.2.2.1 (And.intro K1 trivial)))) ?_)
    have O0 : y_ev (l_ex x 3 z) (0, [(0, 1)]) = x 0 := by show ((0) : Int) + ((1) * x 0 + 0) = _; omega
    have O1 : y_ev (l_ex x 3 z) ((-1), [(1, 1)]) = x 1 - 1 := by show ((-1) : Int) + ((1) * x 1 + 0) = _; omega
    have O2 : y_ev (l_ex x 3 z) (268, []) = 268 := by show ((268) : Int) + 0 = _; omega
    have O3 : y_ev (l_ex x 3 z) (0, [(2, 1)]) = x 2 := by show ((0) : Int) + ((1) * x 2 + 0) = _; omega
    have O4 : y_ev (l_ex x 3 z) (0, [(3, 1)]) = z := by show ((0) : Int) + ((1) * z + 0) = _; omega
    show (True) ∧ (q_tok (t_b v) (y_ev (l_ex x 3 z) (0, [(0, 1)])) (y_ev (l_ex x 3 z) ((-1), [(1, 1)])) (y_ev (l_ex x 3 z) (268, [])) (y_ev (l_ex x 3 z) (0, [(2, 1)])) (y_ev (l_ex x 3 z) (0, [(3, 1)])) ∧ True)
    (try rw [O0]); (try rw [O1]); (try rw [O2]); (try rw [O3]); (try rw [O4])
    exact K2
def lm_382 : zLem := (([((-2147483648), 2147483647), ((-2147483648), 2147483647), ((-2147483648), 2147483647), ((-2147483648), 2147483647)], [(12, false)], [((-1), [(1, 1)]), ((-33), [(2, 1)]), (41, [(2, (-1))])], [], [], [(0, (false, 11, 0, []), 0, 0, 0, [(1, 1)])], [(59, [(0, [(0, 1)]), ((-1), [(1, 1)]), (0, [(2, 1)]), (0, [(3, 1)])])]), [([((-2147483648), 2147483647), ((-2147483648), 2147483647), ((-2147483648), 2147483647), ((-2147483648), 2147483647), ((-9223372036854775808), 9223372036854775807)], [(12, false)], [], [], [], [], [(36, [(0, [(0, 1)]), ((-1), [(1, 1)]), (236, [(2, 1)]), (0, [(3, 1)]), (0, [(4, 1)])])])])
theorem lk_382 : l_core lm_382 := by
  first
  | skip
    intro v x h
    have K := k_m2t_v (V := v) (n := x 0) (d := x 1) (u := x 2) (s := x 3) (l_c4 (fun w0 w1 w2 w3 : Int => 0 ≤ w1 ∧ 0 ≤ w2 ∧ w2 ≤ 41 ∧ t_km w2 = tk (t_b v) w0 w1.toNat ∧ w3 = t_s (t_b v) w0 w1.toNat) (l_e1 x 0) (l_q2 1 x 1) (l_e1 x 2) (l_e1 x 3) (h.2.2.2.1)) (l_cc (l_q2 1 x 1) (h.2.1.1)) (l_cc (l_q2 33 x 2) (h.2.1.2.1)) (l_cc (l_q1 41 x 2) (h.2.1.2.2.1))
    obtain ⟨z, K1, K2⟩ := K
    refine l_outN rfl z (And.intro (And.intro h.1.1 (And.intro h.1.2.1 (And.intro h.1.2.2.1 (And.intro h.1.2.2.2.1 (And.intro K1 trivial))))) ?_)
    exact l_o5 (fun w0 w1 w2 w3 w4 : Int => (True) ∧ (q_tok (t_b v) w0 w1 w2 w3 w4 ∧ True)) (show y_ev (l_ex x 4 z) (0, [(0, 1)]) = x 0 from l_e1 (l_ex x 4 z) 0) (show y_ev (l_ex x 4 z) ((-1), [(1, 1)]) = x 1 - 1 by show ((-1) : Int) + ((1) * x 1 + 0) = _; omega) (show y_ev (l_ex x 4 z) (236, [(2, 1)]) = x 2 + 236 by show ((236) : Int) + ((1) * x 2 + 0) = _; omega) (show y_ev (l_ex x 4 z) (0, [(3, 1)]) = x 3 from l_e1 (l_ex x 4 z) 3) (show y_ev (l_ex x 4 z) (0, [(4, 1)]) = z from l_e1 (l_ex x 4 z) 4) K2
  | skip
    intro v x h
    have C0 : (0 : Int) ≤ x 1 - 1 := l_cc (a := y_ev x ((-1), [(1, 1)])) (by show ((-1) : Int) + ((1) * x 1 + 0) = x 1 - 1; omega) (h.2.1.1)
    have C1 : (0 : Int) ≤ x 2 - 33 := l_cc (a := y_ev x ((-33), [(2, 1)])) (by show ((-33) : Int) + ((1) * x 2 + 0) = x 2 - 33; omega) (h.2.1.2.1)
    have C2 : (0 : Int) ≤ 41 - x 2 := l_cc (a := y_ev x (41, [(2, (-1))])) (by show ((41) : Int) + ((-1) * x 2 + 0) = 41 - x 2; omega) (h.2.1.2.2.1)
    have E0 : y_ev x (0, [(0, 1)]) = x 0 := (l_e1 _ _)
    have E1 : y_ev x ((-1), [(1, 1)]) = x 1 - 1 := (by show ((-1) : Int) + ((1) * x 1 + 0) = x 1 - 1; omega)
    have E2 : y_ev x (0, [(2, 1)]) = x 2 := (l_e1 _ _)
    have E3 : y_ev x (0, [(3, 1)]) = x 3 := (l_e1 _ _)
    have T0 : 0 ≤ (y_ev x ((-1), [(1, 1)])) ∧ 0 ≤ (y_ev x (0, [(2, 1)])) ∧ (y_ev x (0, [(2, 1)])) ≤ 41 ∧ t_km (y_ev x (0, [(2, 1)])) = tk (t_b v) (y_ev x (0, [(0, 1)])) (y_ev x ((-1), [(1, 1)])).toNat ∧ (y_ev x (0, [(3, 1)])) = t_s (t_b v) (y_ev x (0, [(0, 1)])) (y_ev x ((-1), [(1, 1)])).toNat := h.2.2.2.1
    (try rw [E0] at T0); (try rw [E1] at T0); (try rw [E2] at T0); (try rw [E3] at T0)
    have K := k_m2t_v (V := v) (n := x 0) (d := x 1) (u := x 2) (s := x 3) T0 C0 C1 C2
    obtain ⟨z, K1, K2⟩ := K
    refine l_outN rfl z (And.intro (And.intro h.1.1 (And.intro h.1.2.1 (And.intro h.1.2.2.1 (And.intro h.1.2.2.2.1 (And.intro K1 trivial))))) ?_)
    have O0 : y_ev (l_ex x 4 z) (0, [(0, 1)]) = x 0 := by show ((0) : Int) + ((1) * x 0 + 0) = _; omega
    have O1 : y_ev (l_ex x 4 z) ((-1), [(1, 1)]) = x 1 - 1 := by show ((-1) : Int) + ((1) * x 1 + 0) = _; omega
    have O2 : y_ev (l_ex x 4 z) (236, [(2, 1)]) = x 2 + 236 := by show ((236) : Int) + ((1) * x 2 + 0) = _; omega
    have O3 : y_ev (l_ex x 4 z) (0, [(3, 1)]) = x 3 := by show ((0) : Int) + ((1) * x 3 + 0) = _; omega
    have O4 : y_ev (l_ex x 4 z) (0, [(4, 1)]) = z := by show ((0) : Int) + ((1) * z + 0) = _; omega
    show (True) ∧ (q_tok (t_b v) (y_ev (l_ex x 4 z) (0, [(0, 1)])) (y_ev (l_ex x 4 z) ((-1), [(1, 1)])) (y_ev (l_ex x 4 z) (236, [(2, 1)])) (y_ev (l_ex x 4 z) (0, [(3, 1)])) (y_ev (l_ex x 4 z) (0, [(4, 1)])) ∧ True)
    (try rw [O0]); (try rw [O1]); (try rw [O2]); (try rw [O3]); (try rw [O4])
    exact K2
def lm_383 : zLem := (([((-2147483648), 2147483647), ((-2147483648), 2147483647), ((-2147483648), 2147483647), ((-2147483648), 2147483647)], [(12, false)], [((-1), [(1, 1)])], [], [], [(0, (false, 11, 0, []), 0, 0, 0, [(1, 1)])], [(59, [(0, [(0, 1)]), ((-1), [(1, 1)]), (2, []), (0, [(2, 1)])]), (61, [(0, [(0, 1)]), ((-1), [(1, 1)]), (0, [(3, 1)])])]), [([((-2147483648), 2147483647), ((-2147483648), 2147483647), ((-2147483648), 2147483647), ((-2147483648), 2147483647)], [(12, false)], [], [], [], [], [(36, [(0, [(0, 1)]), ((-1), [(1, 1)]), (3, []), (0, [(2, 1)]), (0, [(3, 1)])])])])
theorem lk_383 : l_core lm_383 := by
  first
  | skip
    intro v x h
    have K := k_m2t_i (V := v) (n := x 0) (d := x 1) (s := x 2) (i := x 3) (l_c4 (fun w0 w1 w2 w3 : Int => 0 ≤ w1 ∧ 0 ≤ w2 ∧ w2 ≤ 41 ∧ t_km w2 = tk (t_b v) w0 w1.toNat ∧ w3 = t_s (t_b v) w0 w1.toNat) (l_e1 x 0) (l_q2 1 x 1) (l_e0 x (2)) (l_e1 x 2) (h.2.2.2.1)) (l_c3 (fun w0 w1 w2 : Int => tk (t_b v) w0 w1.toNat = 3 ∧ w2 = tx (t_b v) w0 w1.toNat) (l_e1 x 0) (l_q2 1 x 1) (l_e1 x 3) (h.2.2.2.2.1)) (l_cc (l_q2 1 x 1) (h.2.1.1))
    refine l_outH rfl (And.intro h.1 ?_)
    exact l_o5 (fun w0 w1 w2 w3 w4 : Int => (True) ∧ (q_tok (t_b v) w0 w1 w2 w3 w4 ∧ True)) (l_e1 x 0) (l_q2 1 x 1) (l_e0 x (3)) (l_e1 x 2) (l_e1 x 3) K
  | skip
    intro v x h
    have C0 : (0 : Int) ≤ x 1 - 1 := l_cc (a := y_ev x ((-1), [(1, 1)])) (by show ((-1) : Int) + ((1) * x 1 + 0) = x 1 - 1; omega) (h.2.1.1)
    have E0 : y_ev x (0, [(0, 1)]) = x 0 := (l_e1 _ _)
    have E1 : y_ev x ((-1), [(1, 1)]) = x 1 - 1 := (by show ((-1) : Int) + ((1) * x 1 + 0) = x 1 - 1; omega)
    have E2 : y_ev x (2, []) = 2 := (l_e0 _ _)
    have E3 : y_ev x (0, [(2, 1)]) = x 2 := (l_e1 _ _)
    have E4 : y_ev x (0, [(3, 1)]) = x 3 := (l_e1 _ _)
    have T0 : 0 ≤ (y_ev x ((-1), [(1, 1)])) ∧ 0 ≤ (y_ev x (2, [])) ∧ (y_ev x (2, [])) ≤ 41 ∧ t_km (y_ev x (2, [])) = tk (t_b v) (y_ev x (0, [(0, 1)])) (y_ev x ((-1), [(1, 1)])).toNat ∧ (y_ev x (0, [(2, 1)])) = t_s (t_b v) (y_ev x (0, [(0, 1)])) (y_ev x ((-1), [(1, 1)])).toNat := h.2.2.2.1
    (try rw [E0] at T0); (try rw [E1] at T0); (try rw [E2] at T0); (try rw [E3] at T0)
    have T1 : tk (t_b v) (y_ev x (0, [(0, 1)])) (y_ev x ((-1), [(1, 1)])).toNat = 3 ∧ (y_ev x (0, [(3, 1)])) = tx (t_b v) (y_ev x (0, [(0, 1)])) (y_ev x ((-1), [(1, 1)])).toNat := h.2.2.2.2.1
    (try rw [E0] at T1); (try rw [E1] at T1); (try rw [E4] at T1)
    have K := k_m2t_i (V := v) (n := x 0) (d := x 1) (s := x 2) (i := x 3) T0 T1 C0
    refine l_outH rfl (And.intro h.1 ?_)
    have O0 : y_ev x (0, [(0, 1)]) = x 0 := l_e1 _ _
    have O1 : y_ev x ((-1), [(1, 1)]) = x 1 - 1 := by show ((-1) : Int) + ((1) * x 1 + 0) = _; omega
    have O2 : y_ev x (3, []) = 3 := l_e0 _ _
    have O3 : y_ev x (0, [(2, 1)]) = x 2 := l_e1 _ _
    have O4 : y_ev x (0, [(3, 1)]) = x 3 := l_e1 _ _
    show (True) ∧ (q_tok (t_b v) (y_ev x (0, [(0, 1)])) (y_ev x ((-1), [(1, 1)])) (y_ev x (3, [])) (y_ev x (0, [(2, 1)])) (y_ev x (0, [(3, 1)])) ∧ True)
    (try rw [O0]); (try rw [O1]); (try rw [O2]); (try rw [O3]); (try rw [O4])
    exact K
def lm_384 : zLem := (([((-2147483648), 2147483647), ((-2147483648), 2147483647), ((-2147483648), 2147483647), ((-2147483648), 2147483647)], [(12, false), (52, false)], [], [], [], [(0, (false, 11, 0, []), 0, 0, 0, [(1, 1)]), (1, (true, 0, 0, [(1, 1)]), 0, 0, 0, [(2, 1)])], [(58, [(0, [(0, 1)]), (0, [(1, 1)])]), (59, [(0, [(0, 1)]), (0, [(1, 1)]), (2, []), (0, [(3, 1)])])]), [([((-2147483648), 2147483647), ((-2147483648), 2147483647), ((-2147483648), 2147483647), ((-2147483648), 2147483647)], [(12, false), (52, false)], [(0, [(2, 1)]), (9999, [(2, (-1))])], [], [], [], [(61, [(0, [(0, 1)]), (0, [(1, 1)]), (0, [(2, 1)])])])])
theorem lk_384 : l_core lm_384 := by
  first
  | skip
    intro v x h
    have G0 := h.2.2.1
    have G1 := G0.2
    have K := k_mti (V := v) (n := x 0) (c := x 1) (i := x 2) (s := x 3) (l_c2 (fun w0 w1 : Int => q_upto (t_b v) w0 w1 (q_mr v w0)) (l_e1 x 0) (l_e1 x 1) (h.2.2.2.1)) (l_c4 (fun w0 w1 w2 w3 : Int => 0 ≤ w1 ∧ 0 ≤ w2 ∧ w2 ≤ 41 ∧ t_km w2 = tk (t_b v) w0 w1.toNat ∧ w3 = t_s (t_b v) w0 w1.toNat) (l_e1 x 0) (l_e1 x 1) (l_e0 x (2)) (l_e1 x 3) (h.2.2.2.2.1)) (l_ff (f := v 52) (L := j_len 52) (l_e1 x 1) (l_e1 x 2) (G1.1.1))
    refine l_outH rfl (And.intro h.1 ?_)
    exact l_o4 (fun w0 w1 w2 w3 : Int => (0 ≤ w0 ∧ 0 ≤ w1 ∧ True) ∧ ((tk (t_b v) w2 w3.toNat = 3 ∧ w0 = tx (t_b v) w2 w3.toNat) ∧ True)) (l_e1 x 2) (l_q1 9999 x 2) (l_e1 x 0) (l_e1 x 1) K
  | skip
    intro v x h
    have G0 := h.2.2.1
    have G1 := G0.2
    have F0 : (0 : Int) ≤ x 1 ∧ (x 1 : Int) < j_len 52 ∧ v 52 (x 1) = x 2 := l_ff (f := v 52) (L := j_len 52) (a := y_ev x (0, [(1, 1)])) (b := y_ev x (0, [(2, 1)])) (l_e1 _ _) (l_e1 _ _) (G1.1.1)
    have E0 : y_ev x (0, [(0, 1)]) = x 0 := (l_e1 _ _)
    have E1 : y_ev x (0, [(1, 1)]) = x 1 := (l_e1 _ _)
    have E2 : y_ev x (2, []) = 2 := (l_e0 _ _)
    have E3 : y_ev x (0, [(3, 1)]) = x 3 := (l_e1 _ _)
    have T0 : q_upto (t_b v) (y_ev x (0, [(0, 1)])) (y_ev x (0, [(1, 1)])) (q_mr v (y_ev x (0, [(0, 1)]))) := h.2.2.2.1
    (try rw [E0] at T0); (try rw [E1] at T0)
    have T1 : 0 ≤ (y_ev x (0, [(1, 1)])) ∧ 0 ≤ (y_ev x (2, [])) ∧ (y_ev x (2, [])) ≤ 41 ∧ t_km (y_ev x (2, [])) = tk (t_b v) (y_ev x (0, [(0, 1)])) (y_ev x (0, [(1, 1)])).toNat ∧ (y_ev x (0, [(3, 1)])) = t_s (t_b v) (y_ev x (0, [(0, 1)])) (y_ev x (0, [(1, 1)])).toNat := h.2.2.2.2.1
    (try rw [E0] at T1); (try rw [E1] at T1); (try rw [E2] at T1); (try rw [E3] at T1)
    have K := k_mti (V := v) (n := x 0) (c := x 1) (i := x 2) (s := x 3) T0 T1 F0
    refine l_outH rfl (And.intro h.1 ?_)
    have O0 : y_ev x (0, [(2, 1)]) = x 2 := l_e1 _ _
    have O1 : y_ev x (9999, [(2, (-1))]) = 9999 - x 2 := by show ((9999) : Int) + ((-1) * x 2 + 0) = _; omega
    have O2 : y_ev x (0, [(0, 1)]) = x 0 := l_e1 _ _
    have O3 : y_ev x (0, [(1, 1)]) = x 1 := l_e1 _ _
    show (0 ≤ y_ev x (0, [(2, 1)]) ∧ 0 ≤ y_ev x (9999, [(2, (-1))]) ∧ True) ∧ ((tk (t_b v) (y_ev x (0, [(0, 1)])) (y_ev x (0, [(1, 1)])).toNat = 3 ∧ (y_ev x (0, [(2, 1)])) = tx (t_b v) (y_ev x (0, [(0, 1)])) (y_ev x (0, [(1, 1)])).toNat) ∧ True)
    (try rw [O0]); (try rw [O1]); (try rw [O2]); (try rw [O3])
    exact K
def lm_385 : zLem := (([((-2147483648), 2147483647), ((-2147483648), 2147483647), ((-2147483648), 2147483647), ((-2147483648), 2147483647), ((-2147483648), 2147483647), ((-2147483648), 2147483647), ((-2147483648), 2147483647), ((-2147483648), 2147483647), ((-2147483648), 2147483647)], [(12, false)], [], [], [], [(0, (false, 11, 0, []), 0, 0, 0, [(1, 1)])], [(40, [(0, [(0, 1)]), (0, [(1, 1)]), (1, []), (0, []), (0, []), (0, [(2, 1)]), (0, [(3, 1)]), (0, [(4, 1)]), (0, [(5, 1)]), (0, [(8, 1)])]), (59, [(0, [(0, 1)]), (0, [(1, 1)]), (0, [(6, 1)]), (0, [(7, 1)])])]), [([((-2147483648), 2147483647), ((-2147483648), 2147483647), ((-2147483648), 2147483647), ((-2147483648), 2147483647), ((-2147483648), 2147483647), ((-2147483648), 2147483647), ((-2147483648), 2147483647), ((-2147483648), 2147483647), ((-2147483648), 2147483647)], [(12, false)], [], [], [], [], [(62, [(0, [(0, 1)]), (0, [(1, 1)]), (1, []), (0, [(6, 1)]), (0, [(7, 1)])])])])
theorem lk_385 : l_core lm_385 := by
  first
  | skip
    intro v x h
    have K := k_mw_1 (V := v) (n := x 0) (c := x 1) (H := x 2) (L := x 3) (W := x 4) (WP := x 5) (u := x 6) (s := x 7) (S := x 8) (l_c9 (fun w0 w1 w2 w3 w4 w5 w6 w7 w8 : Int => q_run2 (t_b v) w0 w1 w2 w3 w3 w4 w5 w6 w7 w8) (l_e1 x 0) (l_e1 x 1) (l_e0 x (1)) (l_e0 x (0)) (l_e1 x 2) (l_e1 x 3) (l_e1 x 4) (l_e1 x 5) (l_e1 x 8) (h.2.2.2.1)) (l_c4 (fun w0 w1 w2 w3 : Int => 0 ≤ w1 ∧ 0 ≤ w2 ∧ w2 ≤ 41 ∧ t_km w2 = tk (t_b v) w0 w1.toNat ∧ w3 = t_s (t_b v) w0 w1.toNat) (l_e1 x 0) (l_e1 x 1) (l_e1 x 6) (l_e1 x 7) (h.2.2.2.2.1))
    refine l_outH rfl (And.intro h.1 ?_)
    exact l_o5 (fun w0 w1 w2 w3 w4 : Int => (True) ∧ (((w3 ≠ w2 → q_res (t_b v) w0 1 w4) ∧ (w3 = w2 → q_go (t_b v) w0 w1 w4)) ∧ True)) (l_e1 x 0) (l_e1 x 1) (l_e0 x (1)) (l_e1 x 6) (l_e1 x 7) K
  | skip
    intro v x h
    have E0 : y_ev x (0, [(0, 1)]) = x 0 := (l_e1 _ _)
    have E1 : y_ev x (0, [(1, 1)]) = x 1 := (l_e1 _ _)
    have E2 : y_ev x (1, []) = 1 := (l_e0 _ _)
    have E3 : y_ev x (0, []) = 0 := (l_e0 _ _)
    have E4 : y_ev x (0, [(2, 1)]) = x 2 := (l_e1 _ _)
    have E5 : y_ev x (0, [(3, 1)]) = x 3 := (l_e1 _ _)
    have E6 : y_ev x (0, [(4, 1)]) = x 4 := (l_e1 _ _)
    have E7 : y_ev x (0, [(5, 1)]) = x 5 := (l_e1 _ _)
    have E8 : y_ev x (0, [(8, 1)]) = x 8 := (l_e1 _ _)
    have E9 : y_ev x (0, [(6, 1)]) = x 6 := (l_e1 _ _)
    have E10 : y_ev x (0, [(7, 1)]) = x 7 := (l_e1 _ _)
    have T0 : q_run2 (t_b v) (y_ev x (0, [(0, 1)])) (y_ev x (0, [(1, 1)])) (y_ev x (1, [])) (y_ev x (0, [])) (y_ev x (0, [])) (y_ev x (0, [(2, 1)])) (y_ev x (0, [(3, 1)])) (y_ev x (0, [(4, 1)])) (y_ev x (0, [(5, 1)])) (y_ev x (0, [(8, 1)])) := h.2.2.2.1
    (try rw [E0] at T0); (try rw [E1] at T0); (try rw [E2] at T0); (try rw [E3] at T0); (try rw [E4] at T0); (try rw [E5] at T0); (try rw [E6] at T0); (try rw [E7] at T0); (try rw [E8] at T0)
    have T1 : 0 ≤ (y_ev x (0, [(1, 1)])) ∧ 0 ≤ (y_ev x (0, [(6, 1)])) ∧ (y_ev x (0, [(6, 1)])) ≤ 41 ∧ t_km (y_ev x (0, [(6, 1)])) = tk (t_b v) (y_ev x (0, [(0, 1)])) (y_ev x (0, [(1, 1)])).toNat ∧ (y_ev x (0, [(7, 1)])) = t_s (t_b v) (y_ev x (0, [(0, 1)])) (y_ev x (0, [(1, 1)])).toNat := h.2.2.2.2.1
    (try rw [E0] at T1); (try rw [E1] at T1); (try rw [E9] at T1); (try rw [E10] at T1)
    have K := k_mw_1 (V := v) (n := x 0) (c := x 1) (H := x 2) (L := x 3) (W := x 4) (WP := x 5) (u := x 6) (s := x 7) (S := x 8) T0 T1
    refine l_outH rfl (And.intro h.1 ?_)
    have O0 : y_ev x (0, [(0, 1)]) = x 0 := l_e1 _ _
    have O1 : y_ev x (0, [(1, 1)]) = x 1 := l_e1 _ _
    have O2 : y_ev x (1, []) = 1 := l_e0 _ _
    have O3 : y_ev x (0, [(6, 1)]) = x 6 := l_e1 _ _
    have O4 : y_ev x (0, [(7, 1)]) = x 7 := l_e1 _ _
    show (True) ∧ ((((y_ev x (0, [(6, 1)])) ≠ (y_ev x (1, [])) → q_res (t_b v) (y_ev x (0, [(0, 1)])) 1 (y_ev x (0, [(7, 1)]))) ∧ ((y_ev x (0, [(6, 1)])) = (y_ev x (1, [])) → q_go (t_b v) (y_ev x (0, [(0, 1)])) (y_ev x (0, [(1, 1)])) (y_ev x (0, [(7, 1)])))) ∧ True)
    (try rw [O0]); (try rw [O1]); (try rw [O2]); (try rw [O3]); (try rw [O4])
    exact K
def lm_386 : zLem := (([((-2147483648), 2147483647), ((-2147483648), 2147483647), ((-2147483648), 2147483647), ((-2147483648), 2147483647), ((-2147483648), 2147483647), ((-2147483648), 2147483647), ((-2147483648), 2147483647), ((-2147483648), 2147483647), ((-2147483648), 2147483647)], [(12, false)], [], [], [], [(0, (false, 11, 0, []), 0, 0, 0, [(1, 1)])], [(40, [(0, [(0, 1)]), (0, [(1, 1)]), (2, []), (0, []), (0, []), (0, [(2, 1)]), (0, [(3, 1)]), (0, [(4, 1)]), (0, [(5, 1)]), (0, [(8, 1)])]), (59, [(0, [(0, 1)]), (0, [(1, 1)]), (0, [(6, 1)]), (0, [(7, 1)])])]), [([((-2147483648), 2147483647), ((-2147483648), 2147483647), ((-2147483648), 2147483647), ((-2147483648), 2147483647), ((-2147483648), 2147483647), ((-2147483648), 2147483647), ((-2147483648), 2147483647), ((-2147483648), 2147483647), ((-2147483648), 2147483647)], [(12, false)], [], [], [], [], [(62, [(0, [(0, 1)]), (0, [(1, 1)]), (2, []), (0, [(6, 1)]), (0, [(7, 1)])])])])
theorem lk_386 : l_core lm_386 := by
  first
  | skip
    intro v x h
    have K := k_mw_2 (V := v) (n := x 0) (c := x 1) (H := x 2) (L := x 3) (W := x 4) (WP := x 5) (u := x 6) (s := x 7) (S := x 8) (l_c9 (fun w0 w1 w2 w3 w4 w5 w6 w7 w8 : Int => q_run2 (t_b v) w0 w1 w2 w3 w3 w4 w5 w6 w7 w8) (l_e1 x 0) (l_e1 x 1) (l_e0 x (2)) (l_e0 x (0)) (l_e1 x 2) (l_e1 x 3) (l_e1 x 4) (l_e1 x 5) (l_e1 x 8) (h.2.2.2.1)) (l_c4 (fun w0 w1 w2 w3 : Int => 0 ≤ w1 ∧ 0 ≤ w2 ∧ w2 ≤ 41 ∧ t_km w2 = tk (t_b v) w0 w1.toNat ∧ w3 = t_s (t_b v) w0 w1.toNat) (l_e1 x 0) (l_e1 x 1) (l_e1 x 6) (l_e1 x 7) (h.2.2.2.2.1))
    refine l_outH rfl (And.intro h.1 ?_)
    exact l_o5 (fun w0 w1 w2 w3 w4 : Int => (True) ∧ (((w3 ≠ w2 → q_res (t_b v) w0 1 w4) ∧ (w3 = w2 → q_go (t_b v) w0 w1 w4)) ∧ True)) (l_e1 x 0) (l_e1 x 1) (l_e0 x (2)) (l_e1 x 6) (l_e1 x 7) K
  | skip
    intro v x h
    have E0 : y_ev x (0, [(0, 1)]) = x 0 := (l_e1 _ _)
    have E1 : y_ev x (0, [(1, 1)]) = x 1 := (l_e1 _ _)
    have E2 : y_ev x (2, []) = 2 := (l_e0 _ _)
    have E3 : y_ev x (0, []) = 0 := (l_e0 _ _)
    have E4 : y_ev x (0, [(2, 1)]) = x 2 := (l_e1 _ _)
    have E5 : y_ev x (0, [(3, 1)]) = x 3 := (l_e1 _ _)
    have E6 : y_ev x (0, [(4, 1)]) = x 4 := (l_e1 _ _)
    have E7 : y_ev x (0, [(5, 1)]) = x 5 := (l_e1 _ _)
    have E8 : y_ev x (0, [(8, 1)]) = x 8 := (l_e1 _ _)
    have E9 : y_ev x (0, [(6, 1)]) = x 6 := (l_e1 _ _)
    have E10 : y_ev x (0, [(7, 1)]) = x 7 := (l_e1 _ _)
    have T0 : q_run2 (t_b v) (y_ev x (0, [(0, 1)])) (y_ev x (0, [(1, 1)])) (y_ev x (2, [])) (y_ev x (0, [])) (y_ev x (0, [])) (y_ev x (0, [(2, 1)])) (y_ev x (0, [(3, 1)])) (y_ev x (0, [(4, 1)])) (y_ev x (0, [(5, 1)])) (y_ev x (0, [(8, 1)])) := h.2.2.2.1
    (try rw [E0] at T0); (try rw [E1] at T0); (try rw [E2] at T0); (try rw [E3] at T0); (try rw [E4] at T0); (try rw [E5] at T0); (try rw [E6] at T0); (try rw [E7] at T0); (try rw [E8] at T0)
    have T1 : 0 ≤ (y_ev x (0, [(1, 1)])) ∧ 0 ≤ (y_ev x (0, [(6, 1)])) ∧ (y_ev x (0, [(6, 1)])) ≤ 41 ∧ t_km (y_ev x (0, [(6, 1)])) = tk (t_b v) (y_ev x (0, [(0, 1)])) (y_ev x (0, [(1, 1)])).toNat ∧ (y_ev x (0, [(7, 1)])) = t_s (t_b v) (y_ev x (0, [(0, 1)])) (y_ev x (0, [(1, 1)])).toNat := h.2.2.2.2.1
    (try rw [E0] at T1); (try rw [E1] at T1); (try rw [E9] at T1); (try rw [E10] at T1)
    have K := k_mw_2 (V := v) (n := x 0) (c := x 1) (H := x 2) (L := x 3) (W := x 4) (WP := x 5) (u := x 6) (s := x 7) (S := x 8) T0 T1
    refine l_outH rfl (And.intro h.1 ?_)
    have O0 : y_ev x (0, [(0, 1)]) = x 0 := l_e1 _ _
    have O1 : y_ev x (0, [(1, 1)]) = x 1 := l_e1 _ _
    have O2 : y_ev x (2, []) = 2 := l_e0 _ _
    have O3 : y_ev x (0, [(6, 1)]) = x 6 := l_e1 _ _
    have O4 : y_ev x (0, [(7, 1)]) = x 7 := l_e1 _ _
    show (True) ∧ ((((y_ev x (0, [(6, 1)])) ≠ (y_ev x (2, [])) → q_res (t_b v) (y_ev x (0, [(0, 1)])) 1 (y_ev x (0, [(7, 1)]))) ∧ ((y_ev x (0, [(6, 1)])) = (y_ev x (2, [])) → q_go (t_b v) (y_ev x (0, [(0, 1)])) (y_ev x (0, [(1, 1)])) (y_ev x (0, [(7, 1)])))) ∧ True)
    (try rw [O0]); (try rw [O1]); (try rw [O2]); (try rw [O3]); (try rw [O4])
    exact K
def lm_387 : zLem := (([((-2147483648), 2147483647), ((-2147483648), 2147483647), ((-2147483648), 2147483647), ((-2147483648), 2147483647), ((-2147483648), 2147483647), ((-2147483648), 2147483647), ((-2147483648), 2147483647), ((-2147483648), 2147483647), ((-2147483648), 2147483647)], [(12, false)], [], [], [], [(0, (false, 11, 0, []), 0, 0, 0, [(1, 1)])], [(40, [(0, [(0, 1)]), (0, [(1, 1)]), (3, []), (0, []), (0, []), (0, [(2, 1)]), (0, [(3, 1)]), (0, [(4, 1)]), (0, [(5, 1)]), (0, [(8, 1)])]), (59, [(0, [(0, 1)]), (0, [(1, 1)]), (0, [(6, 1)]), (0, [(7, 1)])])]), [([((-2147483648), 2147483647), ((-2147483648), 2147483647), ((-2147483648), 2147483647), ((-2147483648), 2147483647), ((-2147483648), 2147483647), ((-2147483648), 2147483647), ((-2147483648), 2147483647), ((-2147483648), 2147483647), ((-2147483648), 2147483647)], [(12, false)], [], [], [], [], [(62, [(0, [(0, 1)]), (0, [(1, 1)]), (2, []), (0, [(6, 1)]), (0, [(7, 1)])])])])
theorem lk_387 : l_core lm_387 := by
  first
  | skip
    intro v x h
    have K := k_mw_3 (V := v) (n := x 0) (c := x 1) (H := x 2) (L := x 3) (W := x 4) (WP := x 5) (u := x 6) (s := x 7) (S := x 8) (l_c9 (fun w0 w1 w2 w3 w4 w5 w6 w7 w8 : Int => q_run2 (t_b v) w0 w1 w2 w3 w3 w4 w5 w6 w7 w8) (l_e1 x 0) (l_e1 x 1) (l_e0 x (3)) (l_e0 x (0)) (l_e1 x 2) (l_e1 x 3) (l_e1 x 4) (l_e1 x 5) (l_e1 x 8) (h.2.2.2.1)) (l_c4 (fun w0 w1 w2 w3 : Int => 0 ≤ w1 ∧ 0 ≤ w2 ∧ w2 ≤ 41 ∧ t_km w2 = tk (t_b v) w0 w1.toNat ∧ w3 = t_s (t_b v) w0 w1.toNat) (l_e1 x 0) (l_e1 x 1) (l_e1 x 6) (l_e1 x 7) (h.2.2.2.2.1))
    refine l_outH rfl (And.intro h.1 ?_)
    exact l_o5 (fun w0 w1 w2 w3 w4 : Int => (True) ∧ (((w3 ≠ w2 → q_res (t_b v) w0 1 w4) ∧ (w3 = w2 → q_go (t_b v) w0 w1 w4)) ∧ True)) (l_e1 x 0) (l_e1 x 1) (l_e0 x (2)) (l_e1 x 6) (l_e1 x 7) K
  | skip
    intro v x h
    have E0 : y_ev x (0, [(0, 1)]) = x 0 := (l_e1 _ _)
    have E1 : y_ev x (0, [(1, 1)]) = x 1 := (l_e1 _ _)
    have E2 : y_ev x (3, []) = 3 := (l_e0 _ _)
    have E3 : y_ev x (0, []) = 0 := (l_e0 _ _)
    have E4 : y_ev x (0, [(2, 1)]) = x 2 := (l_e1 _ _)
    have E5 : y_ev x (0, [(3, 1)]) = x 3 := (l_e1 _ _)
    have E6 : y_ev x (0, [(4, 1)]) = x 4 := (l_e1 _ _)
    have E7 : y_ev x (0, [(5, 1)]) = x 5 := (l_e1 _ _)
    have E8 : y_ev x (0, [(8, 1)]) = x 8 := (l_e1 _ _)
    have E9 : y_ev x (0, [(6, 1)]) = x 6 := (l_e1 _ _)
    have E10 : y_ev x (0, [(7, 1)]) = x 7 := (l_e1 _ _)
    have T0 : q_run2 (t_b v) (y_ev x (0, [(0, 1)])) (y_ev x (0, [(1, 1)])) (y_ev x (3, [])) (y_ev x (0, [])) (y_ev x (0, [])) (y_ev x (0, [(2, 1)])) (y_ev x (0, [(3, 1)])) (y_ev x (0, [(4, 1)])) (y_ev x (0, [(5, 1)])) (y_ev x (0, [(8, 1)])) := h.2.2.2.1
    (try rw [E0] at T0); (try rw [E1] at T0); (try rw [E2] at T0); (try rw [E3] at T0); (try rw [E4] at T0); (try rw [E5] at T0); (try rw [E6] at T0); (try rw [E7] at T0); (try rw [E8] at T0)
    have T1 : 0 ≤ (y_ev x (0, [(1, 1)])) ∧ 0 ≤ (y_ev x (0, [(6, 1)])) ∧ (y_ev x (0, [(6, 1)])) ≤ 41 ∧ t_km (y_ev x (0, [(6, 1)])) = tk (t_b v) (y_ev x (0, [(0, 1)])) (y_ev x (0, [(1, 1)])).toNat ∧ (y_ev x (0, [(7, 1)])) = t_s (t_b v) (y_ev x (0, [(0, 1)])) (y_ev x (0, [(1, 1)])).toNat := h.2.2.2.2.1
    (try rw [E0] at T1); (try rw [E1] at T1); (try rw [E9] at T1); (try rw [E10] at T1)
    have K := k_mw_3 (V := v) (n := x 0) (c := x 1) (H := x 2) (L := x 3) (W := x 4) (WP := x 5) (u := x 6) (s := x 7) (S := x 8) T0 T1
    refine l_outH rfl (And.intro h.1 ?_)
    have O0 : y_ev x (0, [(0, 1)]) = x 0 := l_e1 _ _
    have O1 : y_ev x (0, [(1, 1)]) = x 1 := l_e1 _ _
    have O2 : y_ev x (2, []) = 2 := l_e0 _ _
    have O3 : y_ev x (0, [(6, 1)]) = x 6 := l_e1 _ _
    have O4 : y_ev x (0, [(7, 1)]) = x 7 := l_e1 _ _
    show (True) ∧ ((((y_ev x (0, [(6, 1)])) ≠ (y_ev x (2, [])) → q_res (t_b v) (y_ev x (0, [(0, 1)])) 1 (y_ev x (0, [(7, 1)]))) ∧ ((y_ev x (0, [(6, 1)])) = (y_ev x (2, [])) → q_go (t_b v) (y_ev x (0, [(0, 1)])) (y_ev x (0, [(1, 1)])) (y_ev x (0, [(7, 1)])))) ∧ True)
    (try rw [O0]); (try rw [O1]); (try rw [O2]); (try rw [O3]); (try rw [O4])
    exact K
def lm_388 : zLem := (([((-2147483648), 2147483647), ((-2147483648), 2147483647), ((-2147483648), 2147483647), ((-2147483648), 2147483647), ((-2147483648), 2147483647), ((-2147483648), 2147483647), ((-2147483648), 2147483647), ((-2147483648), 2147483647), ((-2147483648), 2147483647)], [(12, false)], [], [], [], [(0, (false, 11, 0, []), 0, 0, 0, [(1, 1)])], [(40, [(0, [(0, 1)]), (0, [(1, 1)]), (4, []), (0, []), (0, []), (0, [(2, 1)]), (0, [(3, 1)]), (0, [(4, 1)]), (0, [(5, 1)]), (0, [(8, 1)])]), (59, [(0, [(0, 1)]), (0, [(1, 1)]), (0, [(6, 1)]), (0, [(7, 1)])])]), [([((-2147483648), 2147483647), ((-2147483648), 2147483647), ((-2147483648), 2147483647), ((-2147483648), 2147483647), ((-2147483648), 2147483647), ((-2147483648), 2147483647), ((-2147483648), 2147483647), ((-2147483648), 2147483647), ((-2147483648), 2147483647)], [(12, false)], [], [], [], [], [(62, [(0, [(0, 1)]), (0, [(1, 1)]), (4, []), (0, [(6, 1)]), (0, [(7, 1)])])])])
theorem lk_388 : l_core lm_388 := by
  first
  | skip
    intro v x h
    have K := k_mw_4 (V := v) (n := x 0) (c := x 1) (H := x 2) (L := x 3) (W := x 4) (WP := x 5) (u := x 6) (s := x 7) (S := x 8) (l_c9 (fun w0 w1 w2 w3 w4 w5 w6 w7 w8 : Int => q_run2 (t_b v) w0 w1 w2 w3 w3 w4 w5 w6 w7 w8) (l_e1 x 0) (l_e1 x 1) (l_e0 x (4)) (l_e0 x (0)) (l_e1 x 2) (l_e1 x 3) (l_e1 x 4) (l_e1 x 5) (l_e1 x 8) (h.2.2.2.1)) (l_c4 (fun w0 w1 w2 w3 : Int => 0 ≤ w1 ∧ 0 ≤ w2 ∧ w2 ≤ 41 ∧ t_km w2 = tk (t_b v) w0 w1.toNat ∧ w3 = t_s (t_b v) w0 w1.toNat) (l_e1 x 0) (l_e1 x 1) (l_e1 x 6) (l_e1 x 7) (h.2.2.2.2.1))
    refine l_outH rfl (And.intro h.1 ?_)
    exact l_o5 (fun w0 w1 w2 w3 w4 : Int => (True) ∧ (((w3 ≠ w2 → q_res (t_b v) w0 1 w4) ∧ (w3 = w2 → q_go (t_b v) w0 w1 w4)) ∧ True)) (l_e1 x 0) (l_e1 x 1) (l_e0 x (4)) (l_e1 x 6) (l_e1 x 7) K
  | skip
    intro v x h
    have E0 : y_ev x (0, [(0, 1)]) = x 0 := (l_e1 _ _)
    have E1 : y_ev x (0, [(1, 1)]) = x 1 := (l_e1 _ _)
    have E2 : y_ev x (4, []) = 4 := (l_e0 _ _)
    have E3 : y_ev x (0, []) = 0 := (l_e0 _ _)
    have E4 : y_ev x (0, [(2, 1)]) = x 2 := (l_e1 _ _)
    have E5 : y_ev x (0, [(3, 1)]) = x 3 := (l_e1 _ _)
    have E6 : y_ev x (0, [(4, 1)]) = x 4 := (l_e1 _ _)
    have E7 : y_ev x (0, [(5, 1)]) = x 5 := (l_e1 _ _)
    have E8 : y_ev x (0, [(8, 1)]) = x 8 := (l_e1 _ _)
    have E9 : y_ev x (0, [(6, 1)]) = x 6 := (l_e1 _ _)
    have E10 : y_ev x (0, [(7, 1)]) = x 7 := (l_e1 _ _)
    have T0 : q_run2 (t_b v) (y_ev x (0, [(0, 1)])) (y_ev x (0, [(1, 1)])) (y_ev x (4, [])) (y_ev x (0, [])) (y_ev x (0, [])) (y_ev x (0, [(2, 1)])) (y_ev x (0, [(3, 1)])) (y_ev x (0, [(4, 1)])) (y_ev x (0, [(5, 1)])) (y_ev x (0, [(8, 1)])) := h.2.2.2.1
    (try rw [E0] at T0); (try rw [E1] at T0); (try rw [E2] at T0); (try rw [E3] at T0); (try rw [E4] at T0); (try rw [E5] at T0); (try rw [E6] at T0); (try rw [E7] at T0); (try rw [E8] at T0)
    have T1 : 0 ≤ (y_ev x (0, [(1, 1)])) ∧ 0 ≤ (y_ev x (0, [(6, 1)])) ∧ (y_ev x (0, [(6, 1)])) ≤ 41 ∧ t_km (y_ev x (0, [(6, 1)])) = tk (t_b v) (y_ev x (0, [(0, 1)])) (y_ev x (0, [(1, 1)])).toNat ∧ (y_ev x (0, [(7, 1)])) = t_s (t_b v) (y_ev x (0, [(0, 1)])) (y_ev x (0, [(1, 1)])).toNat := h.2.2.2.2.1
    (try rw [E0] at T1); (try rw [E1] at T1); (try rw [E9] at T1); (try rw [E10] at T1)
    have K := k_mw_4 (V := v) (n := x 0) (c := x 1) (H := x 2) (L := x 3) (W := x 4) (WP := x 5) (u := x 6) (s := x 7) (S := x 8) T0 T1
    refine l_outH rfl (And.intro h.1 ?_)
    have O0 : y_ev x (0, [(0, 1)]) = x 0 := l_e1 _ _
    have O1 : y_ev x (0, [(1, 1)]) = x 1 := l_e1 _ _
    have O2 : y_ev x (4, []) = 4 := l_e0 _ _
    have O3 : y_ev x (0, [(6, 1)]) = x 6 := l_e1 _ _
    have O4 : y_ev x (0, [(7, 1)]) = x 7 := l_e1 _ _
    show (True) ∧ ((((y_ev x (0, [(6, 1)])) ≠ (y_ev x (4, [])) → q_res (t_b v) (y_ev x (0, [(0, 1)])) 1 (y_ev x (0, [(7, 1)]))) ∧ ((y_ev x (0, [(6, 1)])) = (y_ev x (4, [])) → q_go (t_b v) (y_ev x (0, [(0, 1)])) (y_ev x (0, [(1, 1)])) (y_ev x (0, [(7, 1)])))) ∧ True)
    (try rw [O0]); (try rw [O1]); (try rw [O2]); (try rw [O3]); (try rw [O4])
    exact K
def lm_389 : zLem := (([((-2147483648), 2147483647), ((-2147483648), 2147483647), ((-2147483648), 2147483647), ((-2147483648), 2147483647), ((-2147483648), 2147483647), ((-2147483648), 2147483647), ((-2147483648), 2147483647), ((-2147483648), 2147483647), ((-2147483648), 2147483647)], [(12, false)], [], [], [], [(0, (false, 11, 0, []), 0, 0, 0, [(1, 1)])], [(40, [(0, [(0, 1)]), (0, [(1, 1)]), (5, []), (0, []), (0, []), (0, [(2, 1)]), (0, [(3, 1)]), (0, [(4, 1)]), (0, [(5, 1)]), (0, [(8, 1)])]), (59, [(0, [(0, 1)]), (0, [(1, 1)]), (0, [(6, 1)]), (0, [(7, 1)])])]), [([((-2147483648), 2147483647), ((-2147483648), 2147483647), ((-2147483648), 2147483647), ((-2147483648), 2147483647), ((-2147483648), 2147483647), ((-2147483648), 2147483647), ((-2147483648), 2147483647), ((-2147483648), 2147483647), ((-2147483648), 2147483647)], [(12, false)], [], [], [], [], [(62, [(0, [(0, 1)]), (0, [(1, 1)]), (1, []), (0, [(6, 1)]), (0, [(7, 1)])])])])
theorem lk_389 : l_core lm_389 := by
  first
  | skip
    intro v x h
    have K := k_mw_5 (V := v) (n := x 0) (c := x 1) (H := x 2) (L := x 3) (W := x 4) (WP := x 5) (u := x 6) (s := x 7) (S := x 8) (l_c9 (fun w0 w1 w2 w3 w4 w5 w6 w7 w8 : Int => q_run2 (t_b v) w0 w1 w2 w3 w3 w4 w5 w6 w7 w8) (l_e1 x 0) (l_e1 x 1) (l_e0 x (5)) (l_e0 x (0)) (l_e1 x 2) (l_e1 x 3) (l_e1 x 4) (l_e1 x 5) (l_e1 x 8) (h.2.2.2.1)) (l_c4 (fun w0 w1 w2 w3 : Int => 0 ≤ w1 ∧ 0 ≤ w2 ∧ w2 ≤ 41 ∧ t_km w2 = tk (t_b v) w0 w1.toNat ∧ w3 = t_s (t_b v) w0 w1.toNat) (l_e1 x 0) (l_e1 x 1) (l_e1 x 6) (l_e1 x 7) (h.2.2.2.2.1))
    refine l_outH rfl (And.intro h.1 ?_)
    exact l_o5 (fun w0 w1 w2 w3 w4 : Int => (True) ∧ (((w3 ≠ w2 → q_res (t_b v) w0 1 w4) ∧ (w3 = w2 → q_go (t_b v) w0 w1 w4)) ∧ True)) (l_e1 x 0) (l_e1 x 1) (l_e0 x (1)) (l_e1 x 6) (l_e1 x 7) K
  | skip
    intro v x h
    have E0 : y_ev x (0, [(0, 1)]) = x 0 := (l_e1 _ _)
    have E1 : y_ev x (0, [(1, 1)]) = x 1 := (l_e1 _ _)
    have E2 : y_ev x (5, []) = 5 := (l_e0 _ _)
    have E3 : y_ev x (0, []) = 0 := (l_e0 _ _)
    have E4 : y_ev x (0, [(2, 1)]) = x 2 := (l_e1 _ _)
    have E5 : y_ev x (0, [(3, 1)]) = x 3 := (l_e1 _ _)
    have E6 : y_ev x (0, [(4, 1)]) = x 4 := (l_e1 _ _)
    have E7 : y_ev x (0, [(5, 1)]) = x 5 := (l_e1 _ _)
    have E8 : y_ev x (0, [(8, 1)]) = x 8 := (l_e1 _ _)
    have E9 : y_ev x (0, [(6, 1)]) = x 6 := (l_e1 _ _)
    have E10 : y_ev x (0, [(7, 1)]) = x 7 := (l_e1 _ _)
    have T0 : q_run2 (t_b v) (y_ev x (0, [(0, 1)])) (y_ev x (0, [(1, 1)])) (y_ev x (5, [])) (y_ev x (0, [])) (y_ev x (0, [])) (y_ev x (0, [(2, 1)])) (y_ev x (0, [(3, 1)])) (y_ev x (0, [(4, 1)])) (y_ev x (0, [(5, 1)])) (y_ev x (0, [(8, 1)])) := h.2.2.2.1
    (try rw [E0] at T0); (try rw [E1] at T0); (try rw [E2] at T0); (try rw [E3] at T0); (try rw [E4] at T0); (try rw [E5] at T0); (try rw [E6] at T0); (try rw [E7] at T0); (try rw [E8] at T0)
    have T1 : 0 ≤ (y_ev x (0, [(1, 1)])) ∧ 0 ≤ (y_ev x (0, [(6, 1)])) ∧ (y_ev x (0, [(6, 1)])) ≤ 41 ∧ t_km (y_ev x (0, [(6, 1)])) = tk (t_b v) (y_ev x (0, [(0, 1)])) (y_ev x (0, [(1, 1)])).toNat ∧ (y_ev x (0, [(7, 1)])) = t_s (t_b v) (y_ev x (0, [(0, 1)])) (y_ev x (0, [(1, 1)])).toNat := h.2.2.2.2.1
    (try rw [E0] at T1); (try rw [E1] at T1); (try rw [E9] at T1); (try rw [E10] at T1)
    have K := k_mw_5 (V := v) (n := x 0) (c := x 1) (H := x 2) (L := x 3) (W := x 4) (WP := x 5) (u := x 6) (s := x 7) (S := x 8) T0 T1
    refine l_outH rfl (And.intro h.1 ?_)
    have O0 : y_ev x (0, [(0, 1)]) = x 0 := l_e1 _ _
    have O1 : y_ev x (0, [(1, 1)]) = x 1 := l_e1 _ _
    have O2 : y_ev x (1, []) = 1 := l_e0 _ _
    have O3 : y_ev x (0, [(6, 1)]) = x 6 := l_e1 _ _
    have O4 : y_ev x (0, [(7, 1)]) = x 7 := l_e1 _ _
    show (True) ∧ ((((y_ev x (0, [(6, 1)])) ≠ (y_ev x (1, [])) → q_res (t_b v) (y_ev x (0, [(0, 1)])) 1 (y_ev x (0, [(7, 1)]))) ∧ ((y_ev x (0, [(6, 1)])) = (y_ev x (1, [])) → q_go (t_b v) (y_ev x (0, [(0, 1)])) (y_ev x (0, [(1, 1)])) (y_ev x (0, [(7, 1)])))) ∧ True)
    (try rw [O0]); (try rw [O1]); (try rw [O2]); (try rw [O3]); (try rw [O4])
    exact K
def lm_390 : zLem := (([((-2147483648), 2147483647), ((-2147483648), 2147483647), ((-2147483648), 2147483647), ((-2147483648), 2147483647), ((-2147483648), 2147483647), ((-2147483648), 2147483647), ((-2147483648), 2147483647), ((-2147483648), 2147483647), ((-2147483648), 2147483647)], [(12, false)], [], [], [], [(0, (false, 11, 0, []), 0, 0, 0, [(1, 1)])], [(40, [(0, [(0, 1)]), (0, [(1, 1)]), (6, []), (0, []), (0, []), (0, [(2, 1)]), (0, [(3, 1)]), (0, [(4, 1)]), (0, [(5, 1)]), (0, [(8, 1)])]), (59, [(0, [(0, 1)]), (0, [(1, 1)]), (0, [(6, 1)]), (0, [(7, 1)])])]), [([((-2147483648), 2147483647), ((-2147483648), 2147483647), ((-2147483648), 2147483647), ((-2147483648), 2147483647), ((-2147483648), 2147483647), ((-2147483648), 2147483647), ((-2147483648), 2147483647), ((-2147483648), 2147483647), ((-2147483648), 2147483647)], [(12, false)], [], [], [], [], [(62, [(0, [(0, 1)]), (0, [(1, 1)]), (1, []), (0, [(6, 1)]), (0, [(7, 1)])])])])
theorem lk_390 : l_core lm_390 := by
  first
  | skip
    intro v x h
    have K := k_mw_6 (V := v) (n := x 0) (c := x 1) (H := x 2) (L := x 3) (W := x 4) (WP := x 5) (u := x 6) (s := x 7) (S := x 8) (l_c9 (fun w0 w1 w2 w3 w4 w5 w6 w7 w8 : Int => q_run2 (t_b v) w0 w1 w2 w3 w3 w4 w5 w6 w7 w8) (l_e1 x 0) (l_e1 x 1) (l_e0 x (6)) (l_e0 x (0)) (l_e1 x 2) (l_e1 x 3) (l_e1 x 4) (l_e1 x 5) (l_e1 x 8) (h.2.2.2.1)) (l_c4 (fun w0 w1 w2 w3 : Int => 0 ≤ w1 ∧ 0 ≤ w2 ∧ w2 ≤ 41 ∧ t_km w2 = tk (t_b v) w0 w1.toNat ∧ w3 = t_s (t_b v) w0 w1.toNat) (l_e1 x 0) (l_e1 x 1) (l_e1 x 6) (l_e1 x 7) (h.2.2.2.2.1))
    refine l_outH rfl (And.intro h.1 ?_)
    exact l_o5 (fun w0 w1 w2 w3 w4 : Int => (True) ∧ (((w3 ≠ w2 → q_res (t_b v) w0 1 w4) ∧ (w3 = w2 → q_go (t_b v) w0 w1 w4)) ∧ True)) (l_e1 x 0) (l_e1 x 1) (l_e0 x (1)) (l_e1 x 6) (l_e1 x 7) K
  | skip
    intro v x h
    have E0 : y_ev x (0, [(0, 1)]) = x 0 := (l_e1 _ _)
    have E1 : y_ev x (0, [(1, 1)]) = x 1 := (l_e1 _ _)
    have E2 : y_ev x (6, []) = 6 := (l_e0 _ _)
    have E3 : y_ev x (0, []) = 0 := (l_e0 _ _)
    have E4 : y_ev x (0, [(2, 1)]) = x 2 := (l_e1 _ _)
    have E5 : y_ev x (0, [(3, 1)]) = x 3 := (l_e1 _ _)
    have E6 : y_ev x (0, [(4, 1)]) = x 4 := (l_e1 _ _)
    have E7 : y_ev x (0, [(5, 1)]) = x 5 := (l_e1 _ _)
    have E8 : y_ev x (0, [(8, 1)]) = x 8 := (l_e1 _ _)
    have E9 : y_ev x (0, [(6, 1)]) = x 6 := (l_e1 _ _)
    have E10 : y_ev x (0, [(7, 1)]) = x 7 := (l_e1 _ _)
    have T0 : q_run2 (t_b v) (y_ev x (0, [(0, 1)])) (y_ev x (0, [(1, 1)])) (y_ev x (6, [])) (y_ev x (0, [])) (y_ev x (0, [])) (y_ev x (0, [(2, 1)])) (y_ev x (0, [(3, 1)])) (y_ev x (0, [(4, 1)])) (y_ev x (0, [(5, 1)])) (y_ev x (0, [(8, 1)])) := h.2.2.2.1
    (try rw [E0] at T0); (try rw [E1] at T0); (try rw [E2] at T0); (try rw [E3] at T0); (try rw [E4] at T0); (try rw [E5] at T0); (try rw [E6] at T0); (try rw [E7] at T0); (try rw [E8] at T0)
    have T1 : 0 ≤ (y_ev x (0, [(1, 1)])) ∧ 0 ≤ (y_ev x (0, [(6, 1)])) ∧ (y_ev x (0, [(6, 1)])) ≤ 41 ∧ t_km (y_ev x (0, [(6, 1)])) = tk (t_b v) (y_ev x (0, [(0, 1)])) (y_ev x (0, [(1, 1)])).toNat ∧ (y_ev x (0, [(7, 1)])) = t_s (t_b v) (y_ev x (0, [(0, 1)])) (y_ev x (0, [(1, 1)])).toNat := h.2.2.2.2.1
    (try rw [E0] at T1); (try rw [E1] at T1); (try rw [E9] at T1); (try rw [E10] at T1)
    have K := k_mw_6 (V := v) (n := x 0) (c := x 1) (H := x 2) (L := x 3) (W := x 4) (WP := x 5) (u := x 6) (s := x 7) (S := x 8) T0 T1
    refine l_outH rfl (And.intro h.1 ?_)
    have O0 : y_ev x (0, [(0, 1)]) = x 0 := l_e1 _ _
    have O1 : y_ev x (0, [(1, 1)]) = x 1 := l_e1 _ _
    have O2 : y_ev x (1, []) = 1 := l_e0 _ _
    have O3 : y_ev x (0, [(6, 1)]) = x 6 := l_e1 _ _
    have O4 : y_ev x (0, [(7, 1)]) = x 7 := l_e1 _ _
    show (True) ∧ ((((y_ev x (0, [(6, 1)])) ≠ (y_ev x (1, [])) → q_res (t_b v) (y_ev x (0, [(0, 1)])) 1 (y_ev x (0, [(7, 1)]))) ∧ ((y_ev x (0, [(6, 1)])) = (y_ev x (1, [])) → q_go (t_b v) (y_ev x (0, [(0, 1)])) (y_ev x (0, [(1, 1)])) (y_ev x (0, [(7, 1)])))) ∧ True)
    (try rw [O0]); (try rw [O1]); (try rw [O2]); (try rw [O3]); (try rw [O4])
    exact K
def lm_391 : zLem := (([((-2147483648), 2147483647), ((-2147483648), 2147483647), ((-2147483648), 2147483647), ((-2147483648), 2147483647), ((-2147483648), 2147483647), ((-2147483648), 2147483647), ((-2147483648), 2147483647), ((-2147483648), 2147483647), ((-2147483648), 2147483647)], [(12, false)], [], [], [], [(0, (false, 11, 0, []), 0, 0, 0, [(1, 1)])], [(40, [(0, [(0, 1)]), (0, [(1, 1)]), (7, []), (0, []), (0, []), (0, [(2, 1)]), (0, [(3, 1)]), (0, [(4, 1)]), (0, [(5, 1)]), (0, [(8, 1)])]), (59, [(0, [(0, 1)]), (0, [(1, 1)]), (0, [(6, 1)]), (0, [(7, 1)])])]), [([((-2147483648), 2147483647), ((-2147483648), 2147483647), ((-2147483648), 2147483647), ((-2147483648), 2147483647), ((-2147483648), 2147483647), ((-2147483648), 2147483647), ((-2147483648), 2147483647), ((-2147483648), 2147483647), ((-2147483648), 2147483647)], [(12, false)], [], [], [], [], [(62, [(0, [(0, 1)]), (0, [(1, 1)]), (2, []), (0, [(6, 1)]), (0, [(7, 1)])])])])
theorem lk_391 : l_core lm_391 := by
  first
  | skip
    intro v x h
    have K := k_mw_7 (V := v) (n := x 0) (c := x 1) (H := x 2) (L := x 3) (W := x 4) (WP := x 5) (u := x 6) (s := x 7) (S := x 8) (l_c9 (fun w0 w1 w2 w3 w4 w5 w6 w7 w8 : Int => q_run2 (t_b v) w0 w1 w2 w3 w3 w4 w5 w6 w7 w8) (l_e1 x 0) (l_e1 x 1) (l_e0 x (7)) (l_e0 x (0)) (l_e1 x 2) (l_e1 x 3) (l_e1 x 4) (l_e1 x 5) (l_e1 x 8) (h.2.2.2.1)) (l_c4 (fun w0 w1 w2 w3 : Int => 0 ≤ w1 ∧ 0 ≤ w2 ∧ w2 ≤ 41 ∧ t_km w2 = tk (t_b v) w0 w1.toNat ∧ w3 = t_s (t_b v) w0 w1.toNat) (l_e1 x 0) (l_e1 x 1) (l_e1 x 6) (l_e1 x 7) (h.2.2.2.2.1))
    refine l_outH rfl (And.intro h.1 ?_)
    exact l_o5 (fun w0 w1 w2 w3 w4 : Int => (True) ∧ (((w3 ≠ w2 → q_res (t_b v) w0 1 w4) ∧ (w3 = w2 → q_go (t_b v) w0 w1 w4)) ∧ True)) (l_e1 x 0) (l_e1 x 1) (l_e0 x (2)) (l_e1 x 6) (l_e1 x 7) K
  | skip
    intro v x h
    have E0 : y_ev x (0, [(0, 1)]) = x 0 := (l_e1 _ _)
    have E1 : y_ev x (0, [(1, 1)]) = x 1 := (l_e1 _ _)
    have E2 : y_ev x (7, []) = 7 := (l_e0 _ _)
    have E3 : y_ev x (0, []) = 0 := (l_e0 _ _)
    have E4 : y_ev x (0, [(2, 1)]) = x 2 := (l_e1 _ _)
    have E5 : y_ev x (0, [(3, 1)]) = x 3 := (l_e1 _ _)
    have E6 : y_ev x (0, [(4, 1)]) = x 4 := (l_e1 _ _)
    have E7 : y_ev x (0, [(5, 1)]) = x 5 := (l_e1 _ _)
    have E8 : y_ev x (0, [(8, 1)]) = x 8 := (l_e1 _ _)
    have E9 : y_ev x (0, [(6, 1)]) = x 6 := (l_e1 _ _)
    have E10 : y_ev x (0, [(7, 1)]) = x 7 := (l_e1 _ _)
    have T0 : q_run2 (t_b v) (y_ev x (0, [(0, 1)])) (y_ev x (0, [(1, 1)])) (y_ev x (7, [])) (y_ev x (0, [])) (y_ev x (0, [])) (y_ev x (0, [(2, 1)])) (y_ev x (0, [(3, 1)])) (y_ev x (0, [(4, 1)])) (y_ev x (0, [(5, 1)])) (y_ev x (0, [(8, 1)])) := h.2.2.2.1
    (try rw [E0] at T0); (try rw [E1] at T0); (try rw [E2] at T0); (try rw [E3] at T0); (try rw [E4] at T0); (try rw [E5] at T0); (try rw [E6] at T0); (try rw [E7] at T0); (try rw [E8] at T0)
    have T1 : 0 ≤ (y_ev x (0, [(1, 1)])) ∧ 0 ≤ (y_ev x (0, [(6, 1)])) ∧ (y_ev x (0, [(6, 1)])) ≤ 41 ∧ t_km (y_ev x (0, [(6, 1)])) = tk (t_b v) (y_ev x (0, [(0, 1)])) (y_ev x (0, [(1, 1)])).toNat ∧ (y_ev x (0, [(7, 1)])) = t_s (t_b v) (y_ev x (0, [(0, 1)])) (y_ev x (0, [(1, 1)])).toNat := h.2.2.2.2.1
    (try rw [E0] at T1); (try rw [E1] at T1); (try rw [E9] at T1); (try rw [E10] at T1)
    have K := k_mw_7 (V := v) (n := x 0) (c := x 1) (H := x 2) (L := x 3) (W := x 4) (WP := x 5) (u := x 6) (s := x 7) (S := x 8) T0 T1
    refine l_outH rfl (And.intro h.1 ?_)
    have O0 : y_ev x (0, [(0, 1)]) = x 0 := l_e1 _ _
    have O1 : y_ev x (0, [(1, 1)]) = x 1 := l_e1 _ _
    have O2 : y_ev x (2, []) = 2 := l_e0 _ _
    have O3 : y_ev x (0, [(6, 1)]) = x 6 := l_e1 _ _
    have O4 : y_ev x (0, [(7, 1)]) = x 7 := l_e1 _ _
    show (True) ∧ ((((y_ev x (0, [(6, 1)])) ≠ (y_ev x (2, [])) → q_res (t_b v) (y_ev x (0, [(0, 1)])) 1 (y_ev x (0, [(7, 1)]))) ∧ ((y_ev x (0, [(6, 1)])) = (y_ev x (2, [])) → q_go (t_b v) (y_ev x (0, [(0, 1)])) (y_ev x (0, [(1, 1)])) (y_ev x (0, [(7, 1)])))) ∧ True)
    (try rw [O0]); (try rw [O1]); (try rw [O2]); (try rw [O3]); (try rw [O4])
    exact K
def lm_392 : zLem := (([((-2147483648), 2147483647), ((-2147483648), 2147483647), ((-2147483648), 2147483647), ((-2147483648), 2147483647), ((-2147483648), 2147483647), ((-2147483648), 2147483647), ((-2147483648), 2147483647), ((-2147483648), 2147483647), ((-2147483648), 2147483647)], [(12, false)], [], [], [], [(0, (false, 11, 0, []), 0, 0, 0, [(1, 1)])], [(40, [(0, [(0, 1)]), (0, [(1, 1)]), (8, []), (0, []), (0, []), (0, [(2, 1)]), (0, [(3, 1)]), (0, [(4, 1)]), (0, [(5, 1)]), (0, [(8, 1)])]), (59, [(0, [(0, 1)]), (0, [(1, 1)]), (0, [(6, 1)]), (0, [(7, 1)])])]), [([((-2147483648), 2147483647), ((-2147483648), 2147483647), ((-2147483648), 2147483647), ((-2147483648), 2147483647), ((-2147483648), 2147483647), ((-2147483648), 2147483647), ((-2147483648), 2147483647), ((-2147483648), 2147483647), ((-2147483648), 2147483647)], [(12, false)], [], [], [], [], [(62, [(0, [(0, 1)]), (0, [(1, 1)]), (4, []), (0, [(6, 1)]), (0, [(7, 1)])])])])
theorem lk_392 : l_core lm_392 := by
  first
  | skip
    intro v x h
    have K := k_mw_8 (V := v) (n := x 0) (c := x 1) (H := x 2) (L := x 3) (W := x 4) (WP := x 5) (u := x 6) (s := x 7) (S := x 8) (l_c9 (fun w0 w1 w2 w3 w4 w5 w6 w7 w8 : Int => q_run2 (t_b v) w0 w1 w2 w3 w3 w4 w5 w6 w7 w8) (l_e1 x 0) (l_e1 x 1) (l_e0 x (8)) (l_e0 x (0)) (l_e1 x 2) (l_e1 x 3) (l_e1 x 4) (l_e1 x 5) (l_e1 x 8) (h.2.2.2.1)) (l_c4 (fun w0 w1 w2 w3 : Int => 0 ≤ w1 ∧ 0 ≤ w2 ∧ w2 ≤ 41 ∧ t_km w2 = tk (t_b v) w0 w1.toNat ∧ w3 = t_s (t_b v) w0 w1.toNat) (l_e1 x 0) (l_e1 x 1) (l_e1 x 6) (l_e1 x 7) (h.2.2.2.2.1))
    refine l_outH rfl (And.intro h.1 ?_)
    exact l_o5 (fun w0 w1 w2 w3 w4 : Int => (True) ∧ (((w3 ≠ w2 → q_res (t_b v) w0 1 w4) ∧ (w3 = w2 → q_go (t_b v) w0 w1 w4)) ∧ True)) (l_e1 x 0) (l_e1 x 1) (l_e0 x (4)) (l_e1 x 6) (l_e1 x 7) K
  | skip
    intro v x h
    have E0 : y_ev x (0, [(0, 1)]) = x 0 := (l_e1 _ _)
    have E1 : y_ev x (0, [(1, 1)]) = x 1 := (l_e1 _ _)
    have E2 : y_ev x (8, []) = 8 := (l_e0 _ _)
    have E3 : y_ev x (0, []) = 0 := (l_e0 _ _)
    have E4 : y_ev x (0, [(2, 1)]) = x 2 := (l_e1 _ _)
    have E5 : y_ev x (0, [(3, 1)]) = x 3 := (l_e1 _ _)
    have E6 : y_ev x (0, [(4, 1)]) = x 4 := (l_e1 _ _)
    have E7 : y_ev x (0, [(5, 1)]) = x 5 := (l_e1 _ _)
    have E8 : y_ev x (0, [(8, 1)]) = x 8 := (l_e1 _ _)
    have E9 : y_ev x (0, [(6, 1)]) = x 6 := (l_e1 _ _)
    have E10 : y_ev x (0, [(7, 1)]) = x 7 := (l_e1 _ _)
    have T0 : q_run2 (t_b v) (y_ev x (0, [(0, 1)])) (y_ev x (0, [(1, 1)])) (y_ev x (8, [])) (y_ev x (0, [])) (y_ev x (0, [])) (y_ev x (0, [(2, 1)])) (y_ev x (0, [(3, 1)])) (y_ev x (0, [(4, 1)])) (y_ev x (0, [(5, 1)])) (y_ev x (0, [(8, 1)])) := h.2.2.2.1
    (try rw [E0] at T0); (try rw [E1] at T0); (try rw [E2] at T0); (try rw [E3] at T0); (try rw [E4] at T0); (try rw [E5] at T0); (try rw [E6] at T0); (try rw [E7] at T0); (try rw [E8] at T0)
    have T1 : 0 ≤ (y_ev x (0, [(1, 1)])) ∧ 0 ≤ (y_ev x (0, [(6, 1)])) ∧ (y_ev x (0, [(6, 1)])) ≤ 41 ∧ t_km (y_ev x (0, [(6, 1)])) = tk (t_b v) (y_ev x (0, [(0, 1)])) (y_ev x (0, [(1, 1)])).toNat ∧ (y_ev x (0, [(7, 1)])) = t_s (t_b v) (y_ev x (0, [(0, 1)])) (y_ev x (0, [(1, 1)])).toNat := h.2.2.2.2.1
    (try rw [E0] at T1); (try rw [E1] at T1); (try rw [E9] at T1); (try rw [E10] at T1)
    have K := k_mw_8 (V := v) (n := x 0) (c := x 1) (H := x 2) (L := x 3) (W := x 4) (WP := x 5) (u := x 6) (s := x 7) (S := x 8) T0 T1
    refine l_outH rfl (And.intro h.1 ?_)
    have O0 : y_ev x (0, [(0, 1)]) = x 0 := l_e1 _ _
    have O1 : y_ev x (0, [(1, 1)]) = x 1 := l_e1 _ _
    have O2 : y_ev x (4, []) = 4 := l_e0 _ _
    have O3 : y_ev x (0, [(6, 1)]) = x 6 := l_e1 _ _
    have O4 : y_ev x (0, [(7, 1)]) = x 7 := l_e1 _ _
    show (True) ∧ ((((y_ev x (0, [(6, 1)])) ≠ (y_ev x (4, [])) → q_res (t_b v) (y_ev x (0, [(0, 1)])) 1 (y_ev x (0, [(7, 1)]))) ∧ ((y_ev x (0, [(6, 1)])) = (y_ev x (4, [])) → q_go (t_b v) (y_ev x (0, [(0, 1)])) (y_ev x (0, [(1, 1)])) (y_ev x (0, [(7, 1)])))) ∧ True)
    (try rw [O0]); (try rw [O1]); (try rw [O2]); (try rw [O3]); (try rw [O4])
    exact K
def lm_393 : zLem := (([((-2147483648), 2147483647), ((-2147483648), 2147483647), ((-2147483648), 2147483647), ((-2147483648), 2147483647), ((-2147483648), 2147483647), ((-2147483648), 2147483647), ((-2147483648), 2147483647), ((-2147483648), 2147483647), ((-2147483648), 2147483647)], [(12, false)], [], [], [], [(0, (false, 11, 0, []), 0, 0, 0, [(1, 1)])], [(40, [(0, [(0, 1)]), (0, [(1, 1)]), (9, []), (0, []), (0, []), (0, [(2, 1)]), (0, [(3, 1)]), (0, [(4, 1)]), (0, [(5, 1)]), (0, [(8, 1)])]), (59, [(0, [(0, 1)]), (0, [(1, 1)]), (0, [(6, 1)]), (0, [(7, 1)])])]), [([((-2147483648), 2147483647), ((-2147483648), 2147483647), ((-2147483648), 2147483647), ((-2147483648), 2147483647), ((-2147483648), 2147483647), ((-2147483648), 2147483647), ((-2147483648), 2147483647), ((-2147483648), 2147483647), ((-2147483648), 2147483647)], [(12, false)], [], [], [], [], [(62, [(0, [(0, 1)]), (0, [(1, 1)]), (2, []), (0, [(6, 1)]), (0, [(7, 1)])])])])
theorem lk_393 : l_core lm_393 := by
  first
  | skip
    intro v x h
    have K := k_mw_9 (V := v) (n := x 0) (c := x 1) (H := x 2) (L := x 3) (W := x 4) (WP := x 5) (u := x 6) (s := x 7) (S := x 8) (l_c9 (fun w0 w1 w2 w3 w4 w5 w6 w7 w8 : Int => q_run2 (t_b v) w0 w1 w2 w3 w3 w4 w5 w6 w7 w8) (l_e1 x 0) (l_e1 x 1) (l_e0 x (9)) (l_e0 x (0)) (l_e1 x 2) (l_e1 x 3) (l_e1 x 4) (l_e1 x 5) (l_e1 x 8) (h.2.2.2.1)) (l_c4 (fun w0 w1 w2 w3 : Int => 0 ≤ w1 ∧ 0 ≤ w2 ∧ w2 ≤ 41 ∧ t_km w2 = tk (t_b v) w0 w1.toNat ∧ w3 = t_s (t_b v) w0 w1.toNat) (l_e1 x 0) (l_e1 x 1) (l_e1 x 6) (l_e1 x 7) (h.2.2.2.2.1))
    refine l_outH rfl (And.intro h.1 ?_)
    exact l_o5 (fun w0 w1 w2 w3 w4 : Int => (True) ∧ (((w3 ≠ w2 → q_res (t_b v) w0 1 w4) ∧ (w3 = w2 → q_go (t_b v) w0 w1 w4)) ∧ True)) (l_e1 x 0) (l_e1 x 1) (l_e0 x (2)) (l_e1 x 6) (l_e1 x 7) K
  | skip
    intro v x h
    have E0 : y_ev x (0, [(0, 1)]) = x 0 := (l_e1 _ _)
    have E1 : y_ev x (0, [(1, 1)]) = x 1 := (l_e1 _ _)
    have E2 : y_ev x (9, []) = 9 := (l_e0 _ _)
    have E3 : y_ev x (0, []) = 0 := (l_e0 _ _)
    have E4 : y_ev x (0, [(2, 1)]) = x 2 := (l_e1 _ _)
    have E5 : y_ev x (0, [(3, 1)]) = x 3 := (l_e1 _ _)
    have E6 : y_ev x (0, [(4, 1)]) = x 4 := (l_e1 _ _)
    have E7 : y_ev x (0, [(5, 1)]) = x 5 := (l_e1 _ _)
    have E8 : y_ev x (0, [(8, 1)]) = x 8 := (l_e1 _ _)
    have E9 : y_ev x (0, [(6, 1)]) = x 6 := (l_e1 _ _)
    have E10 : y_ev x (0, [(7, 1)]) = x 7 := (l_e1 _ _)
    have T0 : q_run2 (t_b v) (y_ev x (0, [(0, 1)])) (y_ev x (0, [(1, 1)])) (y_ev x (9, [])) (y_ev x (0, [])) (y_ev x (0, [])) (y_ev x (0, [(2, 1)])) (y_ev x (0, [(3, 1)])) (y_ev x (0, [(4, 1)])) (y_ev x (0, [(5, 1)])) (y_ev x (0, [(8, 1)])) := h.2.2.2.1
    (try rw [E0] at T0); (try rw [E1] at T0); (try rw [E2] at T0); (try rw [E3] at T0); (try rw [E4] at T0); (try rw [E5] at T0); (try rw [E6] at T0); (try rw [E7] at T0); (try rw [E8] at T0)
    have T1 : 0 ≤ (y_ev x (0, [(1, 1)])) ∧ 0 ≤ (y_ev x (0, [(6, 1)])) ∧ (y_ev x (0, [(6, 1)])) ≤ 41 ∧ t_km (y_ev x (0, [(6, 1)])) = tk (t_b v) (y_ev x (0, [(0, 1)])) (y_ev x (0, [(1, 1)])).toNat ∧ (y_ev x (0, [(7, 1)])) = t_s (t_b v) (y_ev x (0, [(0, 1)])) (y_ev x (0, [(1, 1)])).toNat := h.2.2.2.2.1
    (try rw [E0] at T1); (try rw [E1] at T1); (try rw [E9] at T1); (try rw [E10] at T1)
    have K := k_mw_9 (V := v) (n := x 0) (c := x 1) (H := x 2) (L := x 3) (W := x 4) (WP := x 5) (u := x 6) (s := x 7) (S := x 8) T0 T1
    refine l_outH rfl (And.intro h.1 ?_)
    have O0 : y_ev x (0, [(0, 1)]) = x 0 := l_e1 _ _
    have O1 : y_ev x (0, [(1, 1)]) = x 1 := l_e1 _ _
    have O2 : y_ev x (2, []) = 2 := l_e0 _ _
    have O3 : y_ev x (0, [(6, 1)]) = x 6 := l_e1 _ _
    have O4 : y_ev x (0, [(7, 1)]) = x 7 := l_e1 _ _
    show (True) ∧ ((((y_ev x (0, [(6, 1)])) ≠ (y_ev x (2, [])) → q_res (t_b v) (y_ev x (0, [(0, 1)])) 1 (y_ev x (0, [(7, 1)]))) ∧ ((y_ev x (0, [(6, 1)])) = (y_ev x (2, [])) → q_go (t_b v) (y_ev x (0, [(0, 1)])) (y_ev x (0, [(1, 1)])) (y_ev x (0, [(7, 1)])))) ∧ True)
    (try rw [O0]); (try rw [O1]); (try rw [O2]); (try rw [O3]); (try rw [O4])
    exact K
def lm_394 : zLem := (([((-2147483648), 2147483647), ((-2147483648), 2147483647), ((-2147483648), 2147483647), ((-2147483648), 2147483647), ((-2147483648), 2147483647), ((-2147483648), 2147483647), ((-2147483648), 2147483647), ((-2147483648), 2147483647), ((-2147483648), 2147483647)], [(12, false)], [], [], [], [(0, (false, 11, 0, []), 0, 0, 0, [(1, 1)])], [(40, [(0, [(0, 1)]), (0, [(1, 1)]), (10, []), (0, []), (0, []), (0, [(2, 1)]), (0, [(3, 1)]), (0, [(4, 1)]), (0, [(5, 1)]), (0, [(8, 1)])]), (59, [(0, [(0, 1)]), (0, [(1, 1)]), (0, [(6, 1)]), (0, [(7, 1)])])]), [([((-2147483648), 2147483647), ((-2147483648), 2147483647), ((-2147483648), 2147483647), ((-2147483648), 2147483647), ((-2147483648), 2147483647), ((-2147483648), 2147483647), ((-2147483648), 2147483647), ((-2147483648), 2147483647), ((-2147483648), 2147483647)], [(12, false)], [], [], [], [], [(62, [(0, [(0, 1)]), (0, [(1, 1)]), (2, []), (0, [(6, 1)]), (0, [(7, 1)])])])])
theorem lk_394 : l_core lm_394 := by
  first
  | skip
    intro v x h
    have K := k_mw_10 (V := v) (n := x 0) (c := x 1) (H := x 2) (L := x 3) (W := x 4) (WP := x 5) (u := x 6) (s := x 7) (S := x 8) (l_c9 (fun w0 w1 w2 w3 w4 w5 w6 w7 w8 : Int => q_run2 (t_b v) w0 w1 w2 w3 w3 w4 w5 w6 w7 w8) (l_e1 x 0) (l_e1 x 1) (l_e0 x (10)) (l_e0 x (0)) (l_e1 x 2) (l_e1 x 3) (l_e1 x 4) (l_e1 x 5) (l_e1 x 8) (h.2.2.2.1)) (l_c4 (fun w0 w1 w2 w3 : Int => 0 ≤ w1 ∧ 0 ≤ w2 ∧ w2 ≤ 41 ∧ t_km w2 = tk (t_b v) w0 w1.toNat ∧ w3 = t_s (t_b v) w0 w1.toNat) (l_e1 x 0) (l_e1 x 1) (l_e1 x 6) (l_e1 x 7) (h.2.2.2.2.1))
    refine l_outH rfl (And.intro h.1 ?_)
    exact l_o5 (fun w0 w1 w2 w3 w4 : Int => (True) ∧ (((w3 ≠ w2 → q_res (t_b v) w0 1 w4) ∧ (w3 = w2 → q_go (t_b v) w0 w1 w4)) ∧ True)) (l_e1 x 0) (l_e1 x 1) (l_e0 x (2)) (l_e1 x 6) (l_e1 x 7) K
  | skip
    intro v x h
    have E0 : y_ev x (0, [(0, 1)]) = x 0 := (l_e1 _ _)
    have E1 : y_ev x (0, [(1, 1)]) = x 1 := (l_e1 _ _)
    have E2 : y_ev x (10, []) = 10 := (l_e0 _ _)
    have E3 : y_ev x (0, []) = 0 := (l_e0 _ _)
    have E4 : y_ev x (0, [(2, 1)]) = x 2 := (l_e1 _ _)
    have E5 : y_ev x (0, [(3, 1)]) = x 3 := (l_e1 _ _)
    have E6 : y_ev x (0, [(4, 1)]) = x 4 := (l_e1 _ _)
    have E7 : y_ev x (0, [(5, 1)]) = x 5 := (l_e1 _ _)
    have E8 : y_ev x (0, [(8, 1)]) = x 8 := (l_e1 _ _)
    have E9 : y_ev x (0, [(6, 1)]) = x 6 := (l_e1 _ _)
    have E10 : y_ev x (0, [(7, 1)]) = x 7 := (l_e1 _ _)
    have T0 : q_run2 (t_b v) (y_ev x (0, [(0, 1)])) (y_ev x (0, [(1, 1)])) (y_ev x (10, [])) (y_ev x (0, [])) (y_ev x (0, [])) (y_ev x (0, [(2, 1)])) (y_ev x (0, [(3, 1)])) (y_ev x (0, [(4, 1)])) (y_ev x (0, [(5, 1)])) (y_ev x (0, [(8, 1)])) := h.2.2.2.1
    (try rw [E0] at T0); (try rw [E1] at T0); (try rw [E2] at T0); (try rw [E3] at T0); (try rw [E4] at T0); (try rw [E5] at T0); (try rw [E6] at T0); (try rw [E7] at T0); (try rw [E8] at T0)
    have T1 : 0 ≤ (y_ev x (0, [(1, 1)])) ∧ 0 ≤ (y_ev x (0, [(6, 1)])) ∧ (y_ev x (0, [(6, 1)])) ≤ 41 ∧ t_km (y_ev x (0, [(6, 1)])) = tk (t_b v) (y_ev x (0, [(0, 1)])) (y_ev x (0, [(1, 1)])).toNat ∧ (y_ev x (0, [(7, 1)])) = t_s (t_b v) (y_ev x (0, [(0, 1)])) (y_ev x (0, [(1, 1)])).toNat := h.2.2.2.2.1
    (try rw [E0] at T1); (try rw [E1] at T1); (try rw [E9] at T1); (try rw [E10] at T1)
    have K := k_mw_10 (V := v) (n := x 0) (c := x 1) (H := x 2) (L := x 3) (W := x 4) (WP := x 5) (u := x 6) (s := x 7) (S := x 8) T0 T1
    refine l_outH rfl (And.intro h.1 ?_)
    have O0 : y_ev x (0, [(0, 1)]) = x 0 := l_e1 _ _
    have O1 : y_ev x (0, [(1, 1)]) = x 1 := l_e1 _ _
    have O2 : y_ev x (2, []) = 2 := l_e0 _ _
    have O3 : y_ev x (0, [(6, 1)]) = x 6 := l_e1 _ _
    have O4 : y_ev x (0, [(7, 1)]) = x 7 := l_e1 _ _
    show (True) ∧ ((((y_ev x (0, [(6, 1)])) ≠ (y_ev x (2, [])) → q_res (t_b v) (y_ev x (0, [(0, 1)])) 1 (y_ev x (0, [(7, 1)]))) ∧ ((y_ev x (0, [(6, 1)])) = (y_ev x (2, [])) → q_go (t_b v) (y_ev x (0, [(0, 1)])) (y_ev x (0, [(1, 1)])) (y_ev x (0, [(7, 1)])))) ∧ True)
    (try rw [O0]); (try rw [O1]); (try rw [O2]); (try rw [O3]); (try rw [O4])
    exact K
def lm_395 : zLem := (([((-2147483648), 2147483647), ((-2147483648), 2147483647), ((-2147483648), 2147483647), ((-2147483648), 2147483647), ((-2147483648), 2147483647), ((-2147483648), 2147483647), ((-2147483648), 2147483647), ((-2147483648), 2147483647), ((-2147483648), 2147483647)], [(12, false)], [], [], [], [(0, (false, 11, 0, []), 0, 0, 0, [(1, 1)])], [(40, [(0, [(0, 1)]), (0, [(1, 1)]), (11, []), (0, []), (0, []), (0, [(2, 1)]), (0, [(3, 1)]), (0, [(4, 1)]), (0, [(5, 1)]), (0, [(8, 1)])]), (59, [(0, [(0, 1)]), (0, [(1, 1)]), (0, [(6, 1)]), (0, [(7, 1)])])]), [([((-2147483648), 2147483647), ((-2147483648), 2147483647), ((-2147483648), 2147483647), ((-2147483648), 2147483647), ((-2147483648), 2147483647), ((-2147483648), 2147483647), ((-2147483648), 2147483647), ((-2147483648), 2147483647), ((-2147483648), 2147483647)], [(12, false)], [], [], [], [], [(62, [(0, [(0, 1)]), (0, [(1, 1)]), (2, []), (0, [(6, 1)]), (0, [(7, 1)])])])])
theorem lk_395 : l_core lm_395 := by
  first
  | skip
    intro v x h
    have K := k_mw_11 (V := v) (n := x 0) (c := x 1) (H := x 2) (L := x 3) (W := x 4) (WP := x 5) (u := x 6) (s := x 7) (S := x 8) (l_c9 (fun w0 w1 w2 w3 w4 w5 w6 w7 w8 : Int => q_run2 (t_b v) w0 w1 w2 w3 w3 w4 w5 w6 w7 w8) (l_e1 x 0) (l_e1 x 1) (l_e0 x (11)) (l_e0 x (0)) (l_e1 x 2) (l_e1 x 3) (l_e1 x 4) (l_e1 x 5) (l_e1 x 8) (h.2.2.2.1)) (l_c4 (fun w0 w1 w2 w3 : Int => 0 ≤ w1 ∧ 0 ≤ w2 ∧ w2 ≤ 41 ∧ t_km w2 = tk (t_b v) w0 w1.toNat ∧ w3 = t_s (t_b v) w0 w1.toNat) (l_e1 x 0) (l_e1 x 1) (l_e1 x 6) (l_e1 x 7) (h.2.2.2.2.1))
    refine l_outH rfl (And.intro h.1 ?_)
    exact l_o5 (fun w0 w1 w2 w3 w4 : Int => (True) ∧ (((w3 ≠ w2 → q_res (t_b v) w0 1 w4) ∧ (w3 = w2 → q_go (t_b v) w0 w1 w4)) ∧ True)) (l_e1 x 0) (l_e1 x 1) (l_e0 x (2)) (l_e1 x 6) (l_e1 x 7) K
  | skip
    intro v x h
    have E0 : y_ev x (0, [(0, 1)]) = x 0 := (l_e1 _ _)
    have E1 : y_ev x (0, [(1, 1)]) = x 1 := (l_e1 _ _)
    have E2 : y_ev x (11, []) = 11 := (l_e0 _ _)
    have E3 : y_ev x (0, []) = 0 := (l_e0 _ _)
    have E4 : y_ev x (0, [(2, 1)]) = x 2 := (l_e1 _ _)
    have E5 : y_ev x (0, [(3, 1)]) = x 3 := (l_e1 _ _)
    have E6 : y_ev x (0, [(4, 1)]) = x 4 := (l_e1 _ _)
    have E7 : y_ev x (0, [(5, 1)]) = x 5 := (l_e1 _ _)
    have E8 : y_ev x (0, [(8, 1)]) = x 8 := (l_e1 _ _)
    have E9 : y_ev x (0, [(6, 1)]) = x 6 := (l_e1 _ _)
    have E10 : y_ev x (0, [(7, 1)]) = x 7 := (l_e1 _ _)
    have T0 : q_run2 (t_b v) (y_ev x (0, [(0, 1)])) (y_ev x (0, [(1, 1)])) (y_ev x (11, [])) (y_ev x (0, [])) (y_ev x (0, [])) (y_ev x (0, [(2, 1)])) (y_ev x (0, [(3, 1)])) (y_ev x (0, [(4, 1)])) (y_ev x (0, [(5, 1)])) (y_ev x (0, [(8, 1)])) := h.2.2.2.1
    (try rw [E0] at T0); (try rw [E1] at T0); (try rw [E2] at T0); (try rw [E3] at T0); (try rw [E4] at T0); (try rw [E5] at T0); (try rw [E6] at T0); (try rw [E7] at T0); (try rw [E8] at T0)
    have T1 : 0 ≤ (y_ev x (0, [(1, 1)])) ∧ 0 ≤ (y_ev x (0, [(6, 1)])) ∧ (y_ev x (0, [(6, 1)])) ≤ 41 ∧ t_km (y_ev x (0, [(6, 1)])) = tk (t_b v) (y_ev x (0, [(0, 1)])) (y_ev x (0, [(1, 1)])).toNat ∧ (y_ev x (0, [(7, 1)])) = t_s (t_b v) (y_ev x (0, [(0, 1)])) (y_ev x (0, [(1, 1)])).toNat := h.2.2.2.2.1
    (try rw [E0] at T1); (try rw [E1] at T1); (try rw [E9] at T1); (try rw [E10] at T1)
    have K := k_mw_11 (V := v) (n := x 0) (c := x 1) (H := x 2) (L := x 3) (W := x 4) (WP := x 5) (u := x 6) (s := x 7) (S := x 8) T0 T1
    refine l_outH rfl (And.intro h.1 ?_)
    have O0 : y_ev x (0, [(0, 1)]) = x 0 := l_e1 _ _
    have O1 : y_ev x (0, [(1, 1)]) = x 1 := l_e1 _ _
    have O2 : y_ev x (2, []) = 2 := l_e0 _ _
    have O3 : y_ev x (0, [(6, 1)]) = x 6 := l_e1 _ _
    have O4 : y_ev x (0, [(7, 1)]) = x 7 := l_e1 _ _
    show (True) ∧ ((((y_ev x (0, [(6, 1)])) ≠ (y_ev x (2, [])) → q_res (t_b v) (y_ev x (0, [(0, 1)])) 1 (y_ev x (0, [(7, 1)]))) ∧ ((y_ev x (0, [(6, 1)])) = (y_ev x (2, [])) → q_go (t_b v) (y_ev x (0, [(0, 1)])) (y_ev x (0, [(1, 1)])) (y_ev x (0, [(7, 1)])))) ∧ True)
    (try rw [O0]); (try rw [O1]); (try rw [O2]); (try rw [O3]); (try rw [O4])
    exact K
def lm_396 : zLem := (([((-2147483648), 2147483647), ((-2147483648), 2147483647), ((-2147483648), 2147483647), ((-2147483648), 2147483647), ((-2147483648), 2147483647), ((-2147483648), 2147483647), ((-2147483648), 2147483647), ((-2147483648), 2147483647), ((-2147483648), 2147483647)], [(12, false)], [], [], [], [(0, (false, 11, 0, []), 0, 0, 0, [(1, 1)])], [(40, [(0, [(0, 1)]), (0, [(1, 1)]), (12, []), (0, []), (0, []), (0, [(2, 1)]), (0, [(3, 1)]), (0, [(4, 1)]), (0, [(5, 1)]), (0, [(8, 1)])]), (59, [(0, [(0, 1)]), (0, [(1, 1)]), (0, [(6, 1)]), (0, [(7, 1)])])]), [([((-2147483648), 2147483647), ((-2147483648), 2147483647), ((-2147483648), 2147483647), ((-2147483648), 2147483647), ((-2147483648), 2147483647), ((-2147483648), 2147483647), ((-2147483648), 2147483647), ((-2147483648), 2147483647), ((-2147483648), 2147483647)], [(12, false)], [], [], [], [], [(62, [(0, [(0, 1)]), (0, [(1, 1)]), (2, []), (0, [(6, 1)]), (0, [(7, 1)])])])])
theorem lk_396 : l_core lm_396 := by
  first
  | skip
    intro v x h
    have K := k_mw_12 (V := v) (n := x 0) (c := x 1) (H := x 2) (L := x 3) (W := x 4) (WP := x 5) (u := x 6) (s := x 7) (S := x 8) (l_c9 (fun w0 w1 w2 w3 w4 w5 w6 w7 w8 : Int => q_run2 (t_b v) w0 w1 w2 w3 w3 w4 w5 w6 w7 w8) (l_e1 x 0) (l_e1 x 1) (l_e0 x (12)) (l_e0 x (0)) (l_e1 x 2) (l_e1 x 3) (l_e1 x 4) (l_e1 x 5) (l_e1 x 8) (h.2.2.2.1)) (l_c4 (fun w0 w1 w2 w3 : Int => 0 ≤ w1 ∧ 0 ≤ w2 ∧ w2 ≤ 41 ∧ t_km w2 = tk (t_b v) w0 w1.toNat ∧ w3 = t_s (t_b v) w0 w1.toNat) (l_e1 x 0) (l_e1 x 1) (l_e1 x 6) (l_e1 x 7) (h.2.2.2.2.1))
    refine l_outH rfl (And.intro h.1 ?_)
    exact l_o5 (fun w0 w1 w2 w3 w4 : Int => (True) ∧ (((w3 ≠ w2 → q_res (t_b v) w0 1 w4) ∧ (w3 = w2 → q_go (t_b v) w0 w1 w4)) ∧ True)) (l_e1 x 0) (l_e1 x 1) (l_e0 x (2)) (l_e1 x 6) (l_e1 x 7) K
  | skip
    intro v x h
    have E0 : y_ev x (0, [(0, 1)]) = x 0 := (l_e1 _ _)
    have E1 : y_ev x (0, [(1, 1)]) = x 1 := (l_e1 _ _)
    have E2 : y_ev x (12, []) = 12 := (l_e0 _ _)
    have E3 : y_ev x (0, []) = 0 := (l_e0 _ _)
    have E4 : y_ev x (0, [(2, 1)]) = x 2 := (l_e1 _ _)
    have E5 : y_ev x (0, [(3, 1)]) = x 3 := (l_e1 _ _)
    have E6 : y_ev x (0, [(4, 1)]) = x 4 := (l_e1 _ _)
    have E7 : y_ev x (0, [(5, 1)]) = x 5 := (l_e1 _ _)
    have E8 : y_ev x (0, [(8, 1)]) = x 8 := (l_e1 _ _)
    have E9 : y_ev x (0, [(6, 1)]) = x 6 := (l_e1 _ _)
    have E10 : y_ev x (0, [(7, 1)]) = x 7 := (l_e1 _ _)
    have T0 : q_run2 (t_b v) (y_ev x (0, [(0, 1)])) (y_ev x (0, [(1, 1)])) (y_ev x (12, [])) (y_ev x (0, [])) (y_ev x (0, [])) (y_ev x (0, [(2, 1)])) (y_ev x (0, [(3, 1)])) (y_ev x (0, [(4, 1)])) (y_ev x (0, [(5, 1)])) (y_ev x (0, [(8, 1)])) := h.2.2.2.1
    (try rw [E0] at T0); (try rw [E1] at T0); (try rw [E2] at T0); (try rw [E3] at T0); (try rw [E4] at T0); (try rw [E5] at T0); (try rw [E6] at T0); (try rw [E7] at T0); (try rw [E8] at T0)
    have T1 : 0 ≤ (y_ev x (0, [(1, 1)])) ∧ 0 ≤ (y_ev x (0, [(6, 1)])) ∧ (y_ev x (0, [(6, 1)])) ≤ 41 ∧ t_km (y_ev x (0, [(6, 1)])) = tk (t_b v) (y_ev x (0, [(0, 1)])) (y_ev x (0, [(1, 1)])).toNat ∧ (y_ev x (0, [(7, 1)])) = t_s (t_b v) (y_ev x (0, [(0, 1)])) (y_ev x (0, [(1, 1)])).toNat := h.2.2.2.2.1
    (try rw [E0] at T1); (try rw [E1] at T1); (try rw [E9] at T1); (try rw [E10] at T1)
    have K := k_mw_12 (V := v) (n := x 0) (c := x 1) (H := x 2) (L := x 3) (W := x 4) (WP := x 5) (u := x 6) (s := x 7) (S := x 8) T0 T1
    refine l_outH rfl (And.intro h.1 ?_)
    have O0 : y_ev x (0, [(0, 1)]) = x 0 := l_e1 _ _
    have O1 : y_ev x (0, [(1, 1)]) = x 1 := l_e1 _ _
    have O2 : y_ev x (2, []) = 2 := l_e0 _ _
    have O3 : y_ev x (0, [(6, 1)]) = x 6 := l_e1 _ _
    have O4 : y_ev x (0, [(7, 1)]) = x 7 := l_e1 _ _
    show (True) ∧ ((((y_ev x (0, [(6, 1)])) ≠ (y_ev x (2, [])) → q_res (t_b v) (y_ev x (0, [(0, 1)])) 1 (y_ev x (0, [(7, 1)]))) ∧ ((y_ev x (0, [(6, 1)])) = (y_ev x (2, [])) → q_go (t_b v) (y_ev x (0, [(0, 1)])) (y_ev x (0, [(1, 1)])) (y_ev x (0, [(7, 1)])))) ∧ True)
    (try rw [O0]); (try rw [O1]); (try rw [O2]); (try rw [O3]); (try rw [O4])
    exact K
def lm_397 : zLem := (([((-2147483648), 2147483647), ((-2147483648), 2147483647), ((-2147483648), 2147483647), ((-2147483648), 2147483647), ((-2147483648), 2147483647), ((-2147483648), 2147483647), ((-2147483648), 2147483647), ((-2147483648), 2147483647), ((-2147483648), 2147483647)], [(12, false)], [], [], [], [(0, (false, 11, 0, []), 0, 0, 0, [(1, 1)])], [(40, [(0, [(0, 1)]), (0, [(1, 1)]), (13, []), (0, []), (0, []), (0, [(2, 1)]), (0, [(3, 1)]), (0, [(4, 1)]), (0, [(5, 1)]), (0, [(8, 1)])]), (59, [(0, [(0, 1)]), (0, [(1, 1)]), (0, [(6, 1)]), (0, [(7, 1)])])]), [([((-2147483648), 2147483647), ((-2147483648), 2147483647), ((-2147483648), 2147483647), ((-2147483648), 2147483647), ((-2147483648), 2147483647), ((-2147483648), 2147483647), ((-2147483648), 2147483647), ((-2147483648), 2147483647), ((-2147483648), 2147483647)], [(12, false)], [], [], [], [], [(62, [(0, [(0, 1)]), (0, [(1, 1)]), (4, []), (0, [(6, 1)]), (0, [(7, 1)])])])])
theorem lk_397 : l_core lm_397 := by
  first
  | skip
    intro v x h
    have K := k_mw_13 (V := v) (n := x 0) (c := x 1) (H := x 2) (L := x 3) (W := x 4) (WP := x 5) (u := x 6) (s := x 7) (S := x 8) (l_c9 (fun w0 w1 w2 w3 w4 w5 w6 w7 w8 : Int => q_run2 (t_b v) w0 w1 w2 w3 w3 w4 w5 w6 w7 w8) (l_e1 x 0) (l_e1 x 1) (l_e0 x (13)) (l_e0 x (0)) (l_e1 x 2) (l_e1 x 3) (l_e1 x 4) (l_e1 x 5) (l_e1 x 8) (h.2.2.2.1)) (l_c4 (fun w0 w1 w2 w3 : Int => 0 ≤ w1 ∧ 0 ≤ w2 ∧ w2 ≤ 41 ∧ t_km w2 = tk (t_b v) w0 w1.toNat ∧ w3 = t_s (t_b v) w0 w1.toNat) (l_e1 x 0) (l_e1 x 1) (l_e1 x 6) (l_e1 x 7) (h.2.2.2.2.1))
    refine l_outH rfl (And.intro h.1 ?_)
    exact l_o5 (fun w0 w1 w2 w3 w4 : Int => (True) ∧ (((w3 ≠ w2 → q_res (t_b v) w0 1 w4) ∧ (w3 = w2 → q_go (t_b v) w0 w1 w4)) ∧ True)) (l_e1 x 0) (l_e1 x 1) (l_e0 x (4)) (l_e1 x 6) (l_e1 x 7) K
  | skip
    intro v x h
    have E0 : y_ev x (0, [(0, 1)]) = x 0 := (l_e1 _ _)
    have E1 : y_ev x (0, [(1, 1)]) = x 1 := (l_e1 _ _)
    have E2 : y_ev x (13, []) = 13 := (l_e0 _ _)
    have E3 : y_ev x (0, []) = 0 := (l_e0 _ _)
    have E4 : y_ev x (0, [(2, 1)]) = x 2 := (l_e1 _ _)
    have E5 : y_ev x (0, [(3, 1)]) = x 3 := (l_e1 _ _)
    have E6 : y_ev x (0, [(4, 1)]) = x 4 := (l_e1 _ _)
    have E7 : y_ev x (0, [(5, 1)]) = x 5 := (l_e1 _ _)
    have E8 : y_ev x (0, [(8, 1)]) = x 8 := (l_e1 _ _)
    have E9 : y_ev x (0, [(6, 1)]) = x 6 := (l_e1 _ _)
    have E10 : y_ev x (0, [(7, 1)]) = x 7 := (l_e1 _ _)
    have T0 : q_run2 (t_b v) (y_ev x (0, [(0, 1)])) (y_ev x (0, [(1, 1)])) (y_ev x (13, [])) (y_ev x (0, [])) (y_ev x (0, [])) (y_ev x (0, [(2, 1)])) (y_ev x (0, [(3, 1)])) (y_ev x (0, [(4, 1)])) (y_ev x (0, [(5, 1)])) (y_ev x (0, [(8, 1)])) := h.2.2.2.1
    (try rw [E0] at T0); (try rw [E1] at T0); (try rw [E2] at T0); (try rw [E3] at T0); (try rw [E4] at T0); (try rw [E5] at T0); (try rw [E6] at T0); (try rw [E7] at T0); (try rw [E8] at T0)
    have T1 : 0 ≤ (y_ev x (0, [(1, 1)])) ∧ 0 ≤ (y_ev x (0, [(6, 1)])) ∧ (y_ev x (0, [(6, 1)])) ≤ 41 ∧ t_km (y_ev x (0, [(6, 1)])) = tk (t_b v) (y_ev x (0, [(0, 1)])) (y_ev x (0, [(1, 1)])).toNat ∧ (y_ev x (0, [(7, 1)])) = t_s (t_b v) (y_ev x (0, [(0, 1)])) (y_ev x (0, [(1, 1)])).toNat := h.2.2.2.2.1
    (try rw [E0] at T1); (try rw [E1] at T1); (try rw [E9] at T1); (try rw [E10] at T1)
    have K := k_mw_13 (V := v) (n := x 0) (c := x 1) (H := x 2) (L := x 3) (W := x 4) (WP := x 5) (u := x 6) (s := x 7) (S := x 8) T0 T1
    refine l_outH rfl (And.intro h.1 ?_)
    have O0 : y_ev x (0, [(0, 1)]) = x 0 := l_e1 _ _
    have O1 : y_ev x (0, [(1, 1)]) = x 1 := l_e1 _ _
    have O2 : y_ev x (4, []) = 4 := l_e0 _ _
    have O3 : y_ev x (0, [(6, 1)]) = x 6 := l_e1 _ _
    have O4 : y_ev x (0, [(7, 1)]) = x 7 := l_e1 _ _
    show (True) ∧ ((((y_ev x (0, [(6, 1)])) ≠ (y_ev x (4, [])) → q_res (t_b v) (y_ev x (0, [(0, 1)])) 1 (y_ev x (0, [(7, 1)]))) ∧ ((y_ev x (0, [(6, 1)])) = (y_ev x (4, [])) → q_go (t_b v) (y_ev x (0, [(0, 1)])) (y_ev x (0, [(1, 1)])) (y_ev x (0, [(7, 1)])))) ∧ True)
    (try rw [O0]); (try rw [O1]); (try rw [O2]); (try rw [O3]); (try rw [O4])
    exact K
def lm_398 : zLem := (([((-2147483648), 2147483647), ((-2147483648), 2147483647), ((-2147483648), 2147483647), ((-2147483648), 2147483647), ((-2147483648), 2147483647), ((-2147483648), 2147483647), ((-2147483648), 2147483647), ((-2147483648), 2147483647), ((-2147483648), 2147483647)], [(12, false)], [], [], [], [(0, (false, 11, 0, []), 0, 0, 0, [(1, 1)])], [(40, [(0, [(0, 1)]), (0, [(1, 1)]), (20, []), (0, []), (0, []), (0, [(2, 1)]), (0, [(3, 1)]), (0, [(4, 1)]), (0, [(5, 1)]), (0, [(8, 1)])]), (59, [(0, [(0, 1)]), (0, [(1, 1)]), (0, [(6, 1)]), (0, [(7, 1)])])]), [([((-2147483648), 2147483647), ((-2147483648), 2147483647), ((-2147483648), 2147483647), ((-2147483648), 2147483647), ((-2147483648), 2147483647), ((-2147483648), 2147483647), ((-2147483648), 2147483647), ((-2147483648), 2147483647), ((-2147483648), 2147483647)], [(12, false)], [], [], [], [], [(62, [(0, [(0, 1)]), (0, [(1, 1)]), (5, []), (0, [(6, 1)]), (0, [(7, 1)])])])])
theorem lk_398 : l_core lm_398 := by
  first
  | skip
    intro v x h
    have K := k_mw_20 (V := v) (n := x 0) (c := x 1) (H := x 2) (L := x 3) (W := x 4) (WP := x 5) (u := x 6) (s := x 7) (S := x 8) (l_c9 (fun w0 w1 w2 w3 w4 w5 w6 w7 w8 : Int => q_run2 (t_b v) w0 w1 w2 w3 w3 w4 w5 w6 w7 w8) (l_e1 x 0) (l_e1 x 1) (l_e0 x (20)) (l_e0 x (0)) (l_e1 x 2) (l_e1 x 3) (l_e1 x 4) (l_e1 x 5) (l_e1 x 8) (h.2.2.2.1)) (l_c4 (fun w0 w1 w2 w3 : Int => 0 ≤ w1 ∧ 0 ≤ w2 ∧ w2 ≤ 41 ∧ t_km w2 = tk (t_b v) w0 w1.toNat ∧ w3 = t_s (t_b v) w0 w1.toNat) (l_e1 x 0) (l_e1 x 1) (l_e1 x 6) (l_e1 x 7) (h.2.2.2.2.1))
    refine l_outH rfl (And.intro h.1 ?_)
    exact l_o5 (fun w0 w1 w2 w3 w4 : Int => (True) ∧ (((w3 ≠ w2 → q_res (t_b v) w0 1 w4) ∧ (w3 = w2 → q_go (t_b v) w0 w1 w4)) ∧ True)) (l_e1 x 0) (l_e1 x 1) (l_e0 x (5)) (l_e1 x 6) (l_e1 x 7) K
  | skip
    intro v x h
    have E0 : y_ev x (0, [(0, 1)]) = x 0 := (l_e1 _ _)
    have E1 : y_ev x (0, [(1, 1)]) = x 1 := (l_e1 _ _)
    have E2 : y_ev x (20, []) = 20 := (l_e0 _ _)
    have E3 : y_ev x (0, []) = 0 := (l_e0 _ _)
    have E4 : y_ev x (0, [(2, 1)]) = x 2 := (l_e1 _ _)
    have E5 : y_ev x (0, [(3, 1)]) = x 3 := (l_e1 _ _)
    have E6 : y_ev x (0, [(4, 1)]) = x 4 := (l_e1 _ _)
    have E7 : y_ev x (0, [(5, 1)]) = x 5 := (l_e1 _ _)
    have E8 : y_ev x (0, [(8, 1)]) = x 8 := (l_e1 _ _)
    have E9 : y_ev x (0, [(6, 1)]) = x 6 := (l_e1 _ _)
    have E10 : y_ev x (0, [(7, 1)]) = x 7 := (l_e1 _ _)
    have T0 : q_run2 (t_b v) (y_ev x (0, [(0, 1)])) (y_ev x (0, [(1, 1)])) (y_ev x (20, [])) (y_ev x (0, [])) (y_ev x (0, [])) (y_ev x (0, [(2, 1)])) (y_ev x (0, [(3, 1)])) (y_ev x (0, [(4, 1)])) (y_ev x (0, [(5, 1)])) (y_ev x (0, [(8, 1)])) := h.2.2.2.1
    (try rw [E0] at T0); (try rw [E1] at T0); (try rw [E2] at T0); (try rw [E3] at T0); (try rw [E4] at T0); (try rw [E5] at T0); (try rw [E6] at T0); (try rw [E7] at T0); (try rw [E8] at T0)
    have T1 : 0 ≤ (y_ev x (0, [(1, 1)])) ∧ 0 ≤ (y_ev x (0, [(6, 1)])) ∧ (y_ev x (0, [(6, 1)])) ≤ 41 ∧ t_km (y_ev x (0, [(6, 1)])) = tk (t_b v) (y_ev x (0, [(0, 1)])) (y_ev x (0, [(1, 1)])).toNat ∧ (y_ev x (0, [(7, 1)])) = t_s (t_b v) (y_ev x (0, [(0, 1)])) (y_ev x (0, [(1, 1)])).toNat := h.2.2.2.2.1
    (try rw [E0] at T1); (try rw [E1] at T1); (try rw [E9] at T1); (try rw [E10] at T1)
    have K := k_mw_20 (V := v) (n := x 0) (c := x 1) (H := x 2) (L := x 3) (W := x 4) (WP := x 5) (u := x 6) (s := x 7) (S := x 8) T0 T1
    refine l_outH rfl (And.intro h.1 ?_)
    have O0 : y_ev x (0, [(0, 1)]) = x 0 := l_e1 _ _
    have O1 : y_ev x (0, [(1, 1)]) = x 1 := l_e1 _ _
    have O2 : y_ev x (5, []) = 5 := l_e0 _ _
    have O3 : y_ev x (0, [(6, 1)]) = x 6 := l_e1 _ _
    have O4 : y_ev x (0, [(7, 1)]) = x 7 := l_e1 _ _
    show (True) ∧ ((((y_ev x (0, [(6, 1)])) ≠ (y_ev x (5, [])) → q_res (t_b v) (y_ev x (0, [(0, 1)])) 1 (y_ev x (0, [(7, 1)]))) ∧ ((y_ev x (0, [(6, 1)])) = (y_ev x (5, [])) → q_go (t_b v) (y_ev x (0, [(0, 1)])) (y_ev x (0, [(1, 1)])) (y_ev x (0, [(7, 1)])))) ∧ True)
    (try rw [O0]); (try rw [O1]); (try rw [O2]); (try rw [O3]); (try rw [O4])
    exact K
def lm_399 : zLem := (([((-2147483648), 2147483647), ((-2147483648), 2147483647), ((-2147483648), 2147483647), ((-2147483648), 2147483647), ((-2147483648), 2147483647), ((-2147483648), 2147483647), ((-2147483648), 2147483647), ((-2147483648), 2147483647), ((-2147483648), 2147483647), ((-2147483648), 2147483647)], [(12, false)], [((-200), [(8, 1)]), (204, [(8, (-1))])], [], [], [(0, (false, 11, 0, []), 0, 0, 0, [(1, 1)])], [(40, [(0, [(0, 1)]), (0, [(1, 1)]), (0, [(8, 1)]), (1, []), (0, []), (0, [(2, 1)]), (0, [(3, 1)]), (0, [(4, 1)]), (0, [(5, 1)]), (0, [(9, 1)])]), (59, [(0, [(0, 1)]), (0, [(1, 1)]), (0, [(6, 1)]), (0, [(7, 1)])]), (71, [(0, [(0, 1)]), (0, [(1, 1)])])]), [([((-2147483648), 2147483647), ((-2147483648), 2147483647), ((-2147483648), 2147483647), ((-2147483648), 2147483647), ((-2147483648), 2147483647), ((-2147483648), 2147483647), ((-2147483648), 2147483647), ((-2147483648), 2147483647), ((-2147483648), 2147483647), ((-2147483648), 2147483647)], [(12, false)], [], [], [], [], [(62, [(0, [(0, 1)]), (0, [(1, 1)]), (13, []), (0, [(6, 1)]), (0, [(7, 1)])])])])
theorem lk_399 : l_core lm_399 := by
  first
  | skip
    intro v x h
    have K := k_mw_x1 (V := v) (n := x 0) (c := x 1) (H := x 2) (L := x 3) (W := x 4) (WP := x 5) (u := x 6) (s := x 7) (st := x 8) (S := x 9) (l_c10 (fun w0 w1 w2 w3 w4 w5 w6 w7 w8 w9 : Int => q_run2 (t_b v) w0 w1 w2 w3 w4 w5 w6 w7 w8 w9) (l_e1 x 0) (l_e1 x 1) (l_e1 x 8) (l_e0 x (1)) (l_e0 x (0)) (l_e1 x 2) (l_e1 x 3) (l_e1 x 4) (l_e1 x 5) (l_e1 x 9) (h.2.2.2.1)) (l_c4 (fun w0 w1 w2 w3 : Int => 0 ≤ w1 ∧ 0 ≤ w2 ∧ w2 ≤ 41 ∧ t_km w2 = tk (t_b v) w0 w1.toNat ∧ w3 = t_s (t_b v) w0 w1.toNat) (l_e1 x 0) (l_e1 x 1) (l_e1 x 6) (l_e1 x 7) (h.2.2.2.2.1)) (l_c2 (fun w0 w1 : Int => a_p (tk (t_b v) w0 w1.toNat) = false) (l_e1 x 0) (l_e1 x 1) (h.2.2.2.2.2.1)) (l_cc (l_q2 200 x 8) (h.2.1.1)) (l_cc (l_q1 204 x 8) (h.2.1.2.1))
    refine l_outH rfl (And.intro h.1 ?_)
    exact l_o5 (fun w0 w1 w2 w3 w4 : Int => (True) ∧ (((w3 ≠ w2 → q_res (t_b v) w0 1 w4) ∧ (w3 = w2 → q_go (t_b v) w0 w1 w4)) ∧ True)) (l_e1 x 0) (l_e1 x 1) (l_e0 x (13)) (l_e1 x 6) (l_e1 x 7) K
  | skip
    intro v x h
    have C0 : (0 : Int) ≤ x 8 - 200 := l_cc (a := y_ev x ((-200), [(8, 1)])) (by show ((-200) : Int) + ((1) * x 8 + 0) = x 8 - 200; omega) (h.2.1.1)
    have C1 : (0 : Int) ≤ 204 - x 8 := l_cc (a := y_ev x (204, [(8, (-1))])) (by show ((204) : Int) + ((-1) * x 8 + 0) = 204 - x 8; omega) (h.2.1.2.1)
    have E0 : y_ev x (0, [(0, 1)]) = x 0 := (l_e1 _ _)
    have E1 : y_ev x (0, [(1, 1)]) = x 1 := (l_e1 _ _)
    have E2 : y_ev x (0, [(8, 1)]) = x 8 := (l_e1 _ _)
    have E3 : y_ev x (1, []) = 1 := (l_e0 _ _)
    have E4 : y_ev x (0, []) = 0 := (l_e0 _ _)
    have E5 : y_ev x (0, [(2, 1)]) = x 2 := (l_e1 _ _)
    have E6 : y_ev x (0, [(3, 1)]) = x 3 := (l_e1 _ _)
    have E7 : y_ev x (0, [(4, 1)]) = x 4 := (l_e1 _ _)
    have E8 : y_ev x (0, [(5, 1)]) = x 5 := (l_e1 _ _)
    have E9 : y_ev x (0, [(9, 1)]) = x 9 := (l_e1 _ _)
    have E10 : y_ev x (0, [(6, 1)]) = x 6 := (l_e1 _ _)
    have E11 : y_ev x (0, [(7, 1)]) = x 7 := (l_e1 _ _)
    have T0 : q_run2 (t_b v) (y_ev x (0, [(0, 1)])) (y_ev x (0, [(1, 1)])) (y_ev x (0, [(8, 1)])) (y_ev x (1, [])) (y_ev x (0, [])) (y_ev x (0, [(2, 1)])) (y_ev x (0, [(3, 1)])) (y_ev x (0, [(4, 1)])) (y_ev x (0, [(5, 1)])) (y_ev x (0, [(9, 1)])) := h.2.2.2.1
    (try rw [E0] at T0); (try rw [E1] at T0); (try rw [E2] at T0); (try rw [E3] at T0); (try rw [E4] at T0); (try rw [E5] at T0); (try rw [E6] at T0); (try rw [E7] at T0); (try rw [E8] at T0); (try rw [E9] at T0)
    have T1 : 0 ≤ (y_ev x (0, [(1, 1)])) ∧ 0 ≤ (y_ev x (0, [(6, 1)])) ∧ (y_ev x (0, [(6, 1)])) ≤ 41 ∧ t_km (y_ev x (0, [(6, 1)])) = tk (t_b v) (y_ev x (0, [(0, 1)])) (y_ev x (0, [(1, 1)])).toNat ∧ (y_ev x (0, [(7, 1)])) = t_s (t_b v) (y_ev x (0, [(0, 1)])) (y_ev x (0, [(1, 1)])).toNat := h.2.2.2.2.1
    (try rw [E0] at T1); (try rw [E1] at T1); (try rw [E10] at T1); (try rw [E11] at T1)
    have T2 : a_p (tk (t_b v) (y_ev x (0, [(0, 1)])) (y_ev x (0, [(1, 1)])).toNat) = false := h.2.2.2.2.2.1
    (try rw [E0] at T2); (try rw [E1] at T2)
    have K := k_mw_x1 (V := v) (n := x 0) (c := x 1) (H := x 2) (L := x 3) (W := x 4) (WP := x 5) (u := x 6) (s := x 7) (st := x 8) (S := x 9) T0 T1 T2 C0 C1
    refine l_outH rfl (And.intro h.1 ?_)
    have O0 : y_ev x (0, [(0, 1)]) = x 0 := l_e1 _ _
    have O1 : y_ev x (0, [(1, 1)]) = x 1 := l_e1 _ _
    have O2 : y_ev x (13, []) = 13 := l_e0 _ _
    have O3 : y_ev x (0, [(6, 1)]) = x 6 := l_e1 _ _
    have O4 : y_ev x (0, [(7, 1)]) = x 7 := l_e1 _ _
    show (True) ∧ ((((y_ev x (0, [(6, 1)])) ≠ (y_ev x (13, [])) → q_res (t_b v) (y_ev x (0, [(0, 1)])) 1 (y_ev x (0, [(7, 1)]))) ∧ ((y_ev x (0, [(6, 1)])) = (y_ev x (13, [])) → q_go (t_b v) (y_ev x (0, [(0, 1)])) (y_ev x (0, [(1, 1)])) (y_ev x (0, [(7, 1)])))) ∧ True)
    (try rw [O0]); (try rw [O1]); (try rw [O2]); (try rw [O3]); (try rw [O4])
    exact K
def lm_400 : zLem := (([((-2147483648), 2147483647), ((-2147483648), 2147483647), ((-2147483648), 2147483647), ((-2147483648), 2147483647), ((-2147483648), 2147483647), ((-2147483648), 2147483647), ((-2147483648), 2147483647), ((-2147483648), 2147483647), ((-2147483648), 2147483647), ((-2147483648), 2147483647)], [(12, false)], [((-300), [(8, 1)]), (304, [(8, (-1))])], [], [], [(0, (false, 11, 0, []), 0, 0, 0, [(1, 1)])], [(40, [(0, [(0, 1)]), (0, [(1, 1)]), (0, [(8, 1)]), (1, []), (0, []), (0, [(2, 1)]), (0, [(3, 1)]), (0, [(4, 1)]), (0, [(5, 1)]), (0, [(9, 1)])]), (59, [(0, [(0, 1)]), (0, [(1, 1)]), (0, [(6, 1)]), (0, [(7, 1)])]), (71, [(0, [(0, 1)]), (0, [(1, 1)])])]), [([((-2147483648), 2147483647), ((-2147483648), 2147483647), ((-2147483648), 2147483647), ((-2147483648), 2147483647), ((-2147483648), 2147483647), ((-2147483648), 2147483647), ((-2147483648), 2147483647), ((-2147483648), 2147483647), ((-2147483648), 2147483647), ((-2147483648), 2147483647)], [(12, false)], [], [], [], [], [(62, [(0, [(0, 1)]), (0, [(1, 1)]), (31, []), (0, [(6, 1)]), (0, [(7, 1)])])])])
theorem lk_400 : l_core lm_400 := by
  first
  | skip
    intro v x h
    have K := k_mw_x2 (V := v) (n := x 0) (c := x 1) (H := x 2) (L := x 3) (W := x 4) (WP := x 5) (u := x 6) (s := x 7) (st := x 8) (S := x 9) (l_c10 (fun w0 w1 w2 w3 w4 w5 w6 w7 w8 w9 : Int => q_run2 (t_b v) w0 w1 w2 w3 w4 w5 w6 w7 w8 w9) (l_e1 x 0) (l_e1 x 1) (l_e1 x 8) (l_e0 x (1)) (l_e0 x (0)) (l_e1 x 2) (l_e1 x 3) (l_e1 x 4) (l_e1 x 5) (l_e1 x 9) (h.2.2.2.1)) (l_c4 (fun w0 w1 w2 w3 : Int => 0 ≤ w1 ∧ 0 ≤ w2 ∧ w2 ≤ 41 ∧ t_km w2 = tk (t_b v) w0 w1.toNat ∧ w3 = t_s (t_b v) w0 w1.toNat) (l_e1 x 0) (l_e1 x 1) (l_e1 x 6) (l_e1 x 7) (h.2.2.2.2.1)) (l_c2 (fun w0 w1 : Int => a_p (tk (t_b v) w0 w1.toNat) = false) (l_e1 x 0) (l_e1 x 1) (h.2.2.2.2.2.1)) (l_cc (l_q2 300 x 8) (h.2.1.1)) (l_cc (l_q1 304 x 8) (h.2.1.2.1))
    refine l_outH rfl (And.intro h.1 ?_)
    exact l_o5 (fun w0 w1 w2 w3 w4 : Int => (True) ∧ (((w3 ≠ w2 → q_res (t_b v) w0 1 w4) ∧ (w3 = w2 → q_go (t_b v) w0 w1 w4)) ∧ True)) (l_e1 x 0) (l_e1 x 1) (l_e0 x (31)) (l_e1 x 6) (l_e1 x 7) K
  | skip
    intro v x h
    have C0 : (0 : Int) ≤ x 8 - 300 := l_cc (a := y_ev x ((-300), [(8, 1)])) (by show ((-300) : Int) + ((1) * x 8 + 0) = x 8 - 300; omega) (h.2.1.1)
    have C1 : (0 : Int) ≤ 304 - x 8 := l_cc (a := y_ev x (304, [(8, (-1))])) (by show ((304) : Int) + ((-1) * x 8 + 0) = 304 - x 8; omega) (h.2.1.2.1)
    have E0 : y_ev x (0, [(0, 1)]) = x 0 := (l_e1 _ _)
    have E1 : y_ev x (0, [(1, 1)]) = x 1 := (l_e1 _ _)
    have E2 : y_ev x (0, [(8, 1)]) = x 8 := (l_e1 _ _)
    have E3 : y_ev x (1, []) = 1 := (l_e0 _ _)
    have E4 : y_ev x (0, []) = 0 := (l_e0 _ _)
    have E5 : y_ev x (0, [(2, 1)]) = x 2 := (l_e1 _ _)
    have E6 : y_ev x (0, [(3, 1)]) = x 3 := (l_e1 _ _)
    have E7 : y_ev x (0, [(4, 1)]) = x 4 := (l_e1 _ _)
    have E8 : y_ev x (0, [(5, 1)]) = x 5 := (l_e1 _ _)
    have E9 : y_ev x (0, [(9, 1)]) = x 9 := (l_e1 _ _)
    have E10 : y_ev x (0, [(6, 1)]) = x 6 := (l_e1 _ _)
    have E11 : y_ev x (0, [(7, 1)]) = x 7 := (l_e1 _ _)
    have T0 : q_run2 (t_b v) (y_ev x (0, [(0, 1)])) (y_ev x (0, [(1, 1)])) (y_ev x (0, [(8, 1)])) (y_ev x (1, [])) (y_ev x (0, [])) (y_ev x (0, [(2, 1)])) (y_ev x (0, [(3, 1)])) (y_ev x (0, [(4, 1)])) (y_ev x (0, [(5, 1)])) (y_ev x (0, [(9, 1)])) := h.2.2.2.1
    (try rw [E0] at T0); (try rw [E1] at T0); (try rw [E2] at T0); (try rw [E3] at T0); (try rw [E4] at T0); (try rw [E5] at T0); (try rw [E6] at T0); (try rw [E7] at T0); (try rw [E8] at T0); (try rw [E9] at T0)
    have T1 : 0 ≤ (y_ev x (0, [(1, 1)])) ∧ 0 ≤ (y_ev x (0, [(6, 1)])) ∧ (y_ev x (0, [(6, 1)])) ≤ 41 ∧ t_km (y_ev x (0, [(6, 1)])) = tk (t_b v) (y_ev x (0, [(0, 1)])) (y_ev x (0, [(1, 1)])).toNat ∧ (y_ev x (0, [(7, 1)])) = t_s (t_b v) (y_ev x (0, [(0, 1)])) (y_ev x (0, [(1, 1)])).toNat := h.2.2.2.2.1
    (try rw [E0] at T1); (try rw [E1] at T1); (try rw [E10] at T1); (try rw [E11] at T1)
    have T2 : a_p (tk (t_b v) (y_ev x (0, [(0, 1)])) (y_ev x (0, [(1, 1)])).toNat) = false := h.2.2.2.2.2.1
    (try rw [E0] at T2); (try rw [E1] at T2)
    have K := k_mw_x2 (V := v) (n := x 0) (c := x 1) (H := x 2) (L := x 3) (W := x 4) (WP := x 5) (u := x 6) (s := x 7) (st := x 8) (S := x 9) T0 T1 T2 C0 C1
    refine l_outH rfl (And.intro h.1 ?_)
    have O0 : y_ev x (0, [(0, 1)]) = x 0 := l_e1 _ _
    have O1 : y_ev x (0, [(1, 1)]) = x 1 := l_e1 _ _
    have O2 : y_ev x (31, []) = 31 := l_e0 _ _
    have O3 : y_ev x (0, [(6, 1)]) = x 6 := l_e1 _ _
    have O4 : y_ev x (0, [(7, 1)]) = x 7 := l_e1 _ _
    show (True) ∧ ((((y_ev x (0, [(6, 1)])) ≠ (y_ev x (31, [])) → q_res (t_b v) (y_ev x (0, [(0, 1)])) 1 (y_ev x (0, [(7, 1)]))) ∧ ((y_ev x (0, [(6, 1)])) = (y_ev x (31, [])) → q_go (t_b v) (y_ev x (0, [(0, 1)])) (y_ev x (0, [(1, 1)])) (y_ev x (0, [(7, 1)])))) ∧ True)
    (try rw [O0]); (try rw [O1]); (try rw [O2]); (try rw [O3]); (try rw [O4])
    exact K
def lm_401 : zLem := (([((-2147483648), 2147483647), ((-2147483648), 2147483647), ((-2147483648), 2147483647), ((-2147483648), 2147483647), ((-2147483648), 2147483647), ((-2147483648), 2147483647), ((-2147483648), 2147483647), ((-2147483648), 2147483647), ((-2147483648), 2147483647), ((-2147483648), 2147483647)], [(12, false)], [((-400), [(8, 1)]), (404, [(8, (-1))])], [], [], [(0, (false, 11, 0, []), 0, 0, 0, [(1, 1)])], [(40, [(0, [(0, 1)]), (0, [(1, 1)]), (0, [(8, 1)]), (1, []), (0, []), (0, [(2, 1)]), (0, [(3, 1)]), (0, [(4, 1)]), (0, [(5, 1)]), (0, [(9, 1)])]), (59, [(0, [(0, 1)]), (0, [(1, 1)]), (0, [(6, 1)]), (0, [(7, 1)])]), (71, [(0, [(0, 1)]), (0, [(1, 1)])])]), [([((-2147483648), 2147483647), ((-2147483648), 2147483647), ((-2147483648), 2147483647), ((-2147483648), 2147483647), ((-2147483648), 2147483647), ((-2147483648), 2147483647), ((-2147483648), 2147483647), ((-2147483648), 2147483647), ((-2147483648), 2147483647), ((-2147483648), 2147483647)], [(12, false)], [], [], [], [], [(62, [(0, [(0, 1)]), (0, [(1, 1)]), (32, []), (0, [(6, 1)]), (0, [(7, 1)])])])])
theorem lk_401 : l_core lm_401 := by
  first
  | skip
    intro v x h
    have K := k_mw_x3 (V := v) (n := x 0) (c := x 1) (H := x 2) (L := x 3) (W := x 4) (WP := x 5) (u := x 6) (s := x 7) (st := x 8) (S := x 9) (l_c10 (fun w0 w1 w2 w3 w4 w5 w6 w7 w8 w9 : Int => q_run2 (t_b v) w0 w1 w2 w3 w4 w5 w6 w7 w8 w9) (l_e1 x 0) (l_e1 x 1) (l_e1 x 8) (l_e0 x (1)) (l_e0 x (0)) (l_e1 x 2) (l_e1 x 3) (l_e1 x 4) (l_e1 x 5) (l_e1 x 9) (h.2.2.2.1)) (l_c4 (fun w0 w1 w2 w3 : Int => 0 ≤ w1 ∧ 0 ≤ w2 ∧ w2 ≤ 41 ∧ t_km w2 = tk (t_b v) w0 w1.toNat ∧ w3 = t_s (t_b v) w0 w1.toNat) (l_e1 x 0) (l_e1 x 1) (l_e1 x 6) (l_e1 x 7) (h.2.2.2.2.1)) (l_c2 (fun w0 w1 : Int => a_p (tk (t_b v) w0 w1.toNat) = false) (l_e1 x 0) (l_e1 x 1) (h.2.2.2.2.2.1)) (l_cc (l_q2 400 x 8) (h.2.1.1)) (l_cc (l_q1 404 x 8) (h.2.1.2.1))
    refine l_outH rfl (And.intro h.1 ?_)
    exact l_o5 (fun w0 w1 w2 w3 w4 : Int => (True) ∧ (((w3 ≠ w2 → q_res (t_b v) w0 1 w4) ∧ (w3 = w2 → q_go (t_b v) w0 w1 w4)) ∧ True)) (l_e1 x 0) (l_e1 x 1) (l_e0 x (32)) (l_e1 x 6) (l_e1 x 7) K
  | skip
    intro v x h
    have C0 : (0 : Int) ≤ x 8 - 400 := l_cc (a := y_ev x ((-400), [(8, 1)])) (by show ((-400) : Int) + ((1) * x 8 + 0) = x 8 - 400; omega) (h.2.1.1)
    have C1 : (0 : Int) ≤ 404 - x 8 := l_cc (a := y_ev x (404, [(8, (-1))])) (by show ((404) : Int) + ((-1) * x 8 + 0) = 404 - x 8; omega) (h.2.1.2.1)
    have E0 : y_ev x (0, [(0, 1)]) = x 0 := (l_e1 _ _)
    have E1 : y_ev x (0, [(1, 1)]) = x 1 := (l_e1 _ _)
    have E2 : y_ev x (0, [(8, 1)]) = x 8 := (l_e1 _ _)
    have E3 : y_ev x (1, []) = 1 := (l_e0 _ _)
    have E4 : y_ev x (0, []) = 0 := (l_e0 _ _)
    have E5 : y_ev x (0, [(2, 1)]) = x 2 := (l_e1 _ _)
    have E6 : y_ev x (0, [(3, 1)]) = x 3 := (l_e1 _ _)
    have E7 : y_ev x (0, [(4, 1)]) = x 4 := (l_e1 _ _)
    have E8 : y_ev x (0, [(5, 1)]) = x 5 := (l_e1 _ _)
    have E9 : y_ev x (0, [(9, 1)]) = x 9 := (l_e1 _ _)
    have E10 : y_ev x (0, [(6, 1)]) = x 6 := (l_e1 _ _)
    have E11 : y_ev x (0, [(7, 1)]) = x 7 := (l_e1 _ _)
    have T0 : q_run2 (t_b v) (y_ev x (0, [(0, 1)])) (y_ev x (0, [(1, 1)])) (y_ev x (0, [(8, 1)])) (y_ev x (1, [])) (y_ev x (0, [])) (y_ev x (0, [(2, 1)])) (y_ev x (0, [(3, 1)])) (y_ev x (0, [(4, 1)])) (y_ev x (0, [(5, 1)])) (y_ev x (0, [(9, 1)])) := h.2.2.2.1
    (try rw [E0] at T0); (try rw [E1] at T0); (try rw [E2] at T0); (try rw [E3] at T0); (try rw [E4] at T0); (try rw [E5] at T0); (try rw [E6] at T0); (try rw [E7] at T0); (try rw [E8] at T0); (try rw [E9] at T0)
    have T1 : 0 ≤ (y_ev x (0, [(1, 1)])) ∧ 0 ≤ (y_ev x (0, [(6, 1)])) ∧ (y_ev x (0, [(6, 1)])) ≤ 41 ∧ t_km (y_ev x (0, [(6, 1)])) = tk (t_b v) (y_ev x (0, [(0, 1)])) (y_ev x (0, [(1, 1)])).toNat ∧ (y_ev x (0, [(7, 1)])) = t_s (t_b v) (y_ev x (0, [(0, 1)])) (y_ev x (0, [(1, 1)])).toNat := h.2.2.2.2.1
    (try rw [E0] at T1); (try rw [E1] at T1); (try rw [E10] at T1); (try rw [E11] at T1)
    have T2 : a_p (tk (t_b v) (y_ev x (0, [(0, 1)])) (y_ev x (0, [(1, 1)])).toNat) = false := h.2.2.2.2.2.1
    (try rw [E0] at T2); (try rw [E1] at T2)
    have K := k_mw_x3 (V := v) (n := x 0) (c := x 1) (H := x 2) (L := x 3) (W := x 4) (WP := x 5) (u := x 6) (s := x 7) (st := x 8) (S := x 9) T0 T1 T2 C0 C1
    refine l_outH rfl (And.intro h.1 ?_)
    have O0 : y_ev x (0, [(0, 1)]) = x 0 := l_e1 _ _
    have O1 : y_ev x (0, [(1, 1)]) = x 1 := l_e1 _ _
    have O2 : y_ev x (32, []) = 32 := l_e0 _ _
    have O3 : y_ev x (0, [(6, 1)]) = x 6 := l_e1 _ _
    have O4 : y_ev x (0, [(7, 1)]) = x 7 := l_e1 _ _
    show (True) ∧ ((((y_ev x (0, [(6, 1)])) ≠ (y_ev x (32, [])) → q_res (t_b v) (y_ev x (0, [(0, 1)])) 1 (y_ev x (0, [(7, 1)]))) ∧ ((y_ev x (0, [(6, 1)])) = (y_ev x (32, [])) → q_go (t_b v) (y_ev x (0, [(0, 1)])) (y_ev x (0, [(1, 1)])) (y_ev x (0, [(7, 1)])))) ∧ True)
    (try rw [O0]); (try rw [O1]); (try rw [O2]); (try rw [O3]); (try rw [O4])
    exact K
def lm_402 : zLem := (([((-2147483648), 2147483647), ((-2147483648), 2147483647), ((-2147483648), 2147483647), ((-2147483648), 2147483647), ((-2147483648), 2147483647), ((-2147483648), 2147483647), ((-2147483648), 2147483647), ((-2147483648), 2147483647), ((-2147483648), 2147483647), ((-2147483648), 2147483647)], [(12, false)], [((-500), [(8, 1)]), (504, [(8, (-1))])], [], [], [(0, (false, 11, 0, []), 0, 0, 0, [(1, 1)])], [(40, [(0, [(0, 1)]), (0, [(1, 1)]), (0, [(8, 1)]), (1, []), (0, []), (0, [(2, 1)]), (0, [(3, 1)]), (0, [(4, 1)]), (0, [(5, 1)]), (0, [(9, 1)])]), (59, [(0, [(0, 1)]), (0, [(1, 1)]), (0, [(6, 1)]), (0, [(7, 1)])]), (71, [(0, [(0, 1)]), (0, [(1, 1)])])]), [([((-2147483648), 2147483647), ((-2147483648), 2147483647), ((-2147483648), 2147483647), ((-2147483648), 2147483647), ((-2147483648), 2147483647), ((-2147483648), 2147483647), ((-2147483648), 2147483647), ((-2147483648), 2147483647), ((-2147483648), 2147483647), ((-2147483648), 2147483647)], [(12, false)], [], [], [], [], [(62, [(0, [(0, 1)]), (0, [(1, 1)]), (4, []), (0, [(6, 1)]), (0, [(7, 1)])])])])
theorem lk_402 : l_core lm_402 := by
  first
  | skip
    intro v x h
    have K := k_mw_x4 (V := v) (n := x 0) (c := x 1) (H := x 2) (L := x 3) (W := x 4) (WP := x 5) (u := x 6) (s := x 7) (st := x 8) (S := x 9) (l_c10 (fun w0 w1 w2 w3 w4 w5 w6 w7 w8 w9 : Int => q_run2 (t_b v) w0 w1 w2 w3 w4 w5 w6 w7 w8 w9) (l_e1 x 0) (l_e1 x 1) (l_e1 x 8) (l_e0 x (1)) (l_e0 x (0)) (l_e1 x 2) (l_e1 x 3) (l_e1 x 4) (l_e1 x 5) (l_e1 x 9) (h.2.2.2.1)) (l_c4 (fun w0 w1 w2 w3 : Int => 0 ≤ w1 ∧ 0 ≤ w2 ∧ w2 ≤ 41 ∧ t_km w2 = tk (t_b v) w0 w1.toNat ∧ w3 = t_s (t_b v) w0 w1.toNat) (l_e1 x 0) (l_e1 x 1) (l_e1 x 6) (l_e1 x 7) (h.2.2.2.2.1)) (l_c2 (fun w0 w1 : Int => a_p (tk (t_b v) w0 w1.toNat) = false) (l_e1 x 0) (l_e1 x 1) (h.2.2.2.2.2.1)) (l_cc (l_q2 500 x 8) (h.2.1.1)) (l_cc (l_q1 504 x 8) (h.2.1.2.1))
    refine l_outH rfl (And.intro h.1 ?_)
    exact l_o5 (fun w0 w1 w2 w3 w4 : Int => (True) ∧ (((w3 ≠ w2 → q_res (t_b v) w0 1 w4) ∧ (w3 = w2 → q_go (t_b v) w0 w1 w4)) ∧ True)) (l_e1 x 0) (l_e1 x 1) (l_e0 x (4)) (l_e1 x 6) (l_e1 x 7) K
  | skip
    intro v x h
    have C0 : (0 : Int) ≤ x 8 - 500 := l_cc (a := y_ev x ((-500), [(8, 1)])) (by show ((-500) : Int) + ((1) * x 8 + 0) = x 8 - 500; omega) (h.2.1.1)
    have C1 : (0 : Int) ≤ 504 - x 8 := l_cc (a := y_ev x (504, [(8, (-1))])) (by show ((504) : Int) + ((-1) * x 8 + 0) = 504 - x 8; omega) (h.2.1.2.1)
    have E0 : y_ev x (0, [(0, 1)]) = x 0 := (l_e1 _ _)
    have E1 : y_ev x (0, [(1, 1)]) = x 1 := (l_e1 _ _)
    have E2 : y_ev x (0, [(8, 1)]) = x 8 := (l_e1 _ _)
    have E3 : y_ev x (1, []) = 1 := (l_e0 _ _)
    have E4 : y_ev x (0, []) = 0 := (l_e0 _ _)
    have E5 : y_ev x (0, [(2, 1)]) = x 2 := (l_e1 _ _)
    have E6 : y_ev x (0, [(3, 1)]) = x 3 := (l_e1 _ _)
    have E7 : y_ev x (0, [(4, 1)]) = x 4 := (l_e1 _ _)
    have E8 : y_ev x (0, [(5, 1)]) = x 5 := (l_e1 _ _)
    have E9 : y_ev x (0, [(9, 1)]) = x 9 := (l_e1 _ _)
    have E10 : y_ev x (0, [(6, 1)]) = x 6 := (l_e1 _ _)
    have E11 : y_ev x (0, [(7, 1)]) = x 7 := (l_e1 _ _)
    have T0 : q_run2 (t_b v) (y_ev x (0, [(0, 1)])) (y_ev x (0, [(1, 1)])) (y_ev x (0, [(8, 1)])) (y_ev x (1, [])) (y_ev x (0, [])) (y_ev x (0, [(2, 1)])) (y_ev x (0, [(3, 1)])) (y_ev x (0, [(4, 1)])) (y_ev x (0, [(5, 1)])) (y_ev x (0, [(9, 1)])) := h.2.2.2.1
    (try rw [E0] at T0); (try rw [E1] at T0); (try rw [E2] at T0); (try rw [E3] at T0); (try rw [E4] at T0); (try rw [E5] at T0); (try rw [E6] at T0); (try rw [E7] at T0); (try rw [E8] at T0); (try rw [E9] at T0)
    have T1 : 0 ≤ (y_ev x (0, [(1, 1)])) ∧ 0 ≤ (y_ev x (0, [(6, 1)])) ∧ (y_ev x (0, [(6, 1)])) ≤ 41 ∧ t_km (y_ev x (0, [(6, 1)])) = tk (t_b v) (y_ev x (0, [(0, 1)])) (y_ev x (0, [(1, 1)])).toNat ∧ (y_ev x (0, [(7, 1)])) = t_s (t_b v) (y_ev x (0, [(0, 1)])) (y_ev x (0, [(1, 1)])).toNat := h.2.2.2.2.1
    (try rw [E0] at T1); (try rw [E1] at T1); (try rw [E10] at T1); (try rw [E11] at T1)
    have T2 : a_p (tk (t_b v) (y_ev x (0, [(0, 1)])) (y_ev x (0, [(1, 1)])).toNat) = false := h.2.2.2.2.2.1
    (try rw [E0] at T2); (try rw [E1] at T2)
    have K := k_mw_x4 (V := v) (n := x 0) (c := x 1) (H := x 2) (L := x 3) (W := x 4) (WP := x 5) (u := x 6) (s := x 7) (st := x 8) (S := x 9) T0 T1 T2 C0 C1
    refine l_outH rfl (And.intro h.1 ?_)
    have O0 : y_ev x (0, [(0, 1)]) = x 0 := l_e1 _ _
    have O1 : y_ev x (0, [(1, 1)]) = x 1 := l_e1 _ _
    have O2 : y_ev x (4, []) = 4 := l_e0 _ _
    have O3 : y_ev x (0, [(6, 1)]) = x 6 := l_e1 _ _
    have O4 : y_ev x (0, [(7, 1)]) = x 7 := l_e1 _ _
    show (True) ∧ ((((y_ev x (0, [(6, 1)])) ≠ (y_ev x (4, [])) → q_res (t_b v) (y_ev x (0, [(0, 1)])) 1 (y_ev x (0, [(7, 1)]))) ∧ ((y_ev x (0, [(6, 1)])) = (y_ev x (4, [])) → q_go (t_b v) (y_ev x (0, [(0, 1)])) (y_ev x (0, [(1, 1)])) (y_ev x (0, [(7, 1)])))) ∧ True)
    (try rw [O0]); (try rw [O1]); (try rw [O2]); (try rw [O3]); (try rw [O4])
    exact K
def lm_403 : zLem := (([((-2147483648), 2147483647), ((-2147483648), 2147483647), ((-2147483648), 2147483647), ((-2147483648), 2147483647)], [(12, false), (50, false)], [(7, [(2, (-1))])], [], [], [(0, (false, 11, 0, []), 0, 0, 0, [(1, 1)]), (1, (true, 0, 0, [(1, 1)]), 0, 0, 0, [(2, 1)])], [(59, [(0, [(0, 1)]), (0, [(1, 1)]), (0, [(2, 1)]), (0, [(3, 1)])])]), [([((-2147483648), 2147483647), ((-2147483648), 2147483647), ((-2147483648), 2147483647), ((-2147483648), 2147483647)], [(12, false), (50, false)], [], [], [], [], [(71, [(0, [(0, 1)]), (0, [(1, 1)])])])])
theorem lk_403 : l_core lm_403 := by
  first
  | skip
    intro v x h
    have G0 := h.2.2.1
    have G1 := G0.2
    have K := k_mnp_a (V := v) (n := x 0) (c := x 1) (u := x 2) (s := x 3) (l_c4 (fun w0 w1 w2 w3 : Int => 0 ≤ w1 ∧ 0 ≤ w2 ∧ w2 ≤ 41 ∧ t_km w2 = tk (t_b v) w0 w1.toNat ∧ w3 = t_s (t_b v) w0 w1.toNat) (l_e1 x 0) (l_e1 x 1) (l_e1 x 2) (l_e1 x 3) (h.2.2.2.1)) (l_cc (l_q1 7 x 2) (h.2.1.1)) (l_ff (f := v 50) (L := j_len 50) (l_e1 x 1) (l_e1 x 2) (G1.1.1))
    refine l_outH rfl (And.intro h.1 ?_)
    exact l_o2 (fun w0 w1 : Int => (True) ∧ ((a_p (tk (t_b v) w0 w1.toNat) = false) ∧ True)) (l_e1 x 0) (l_e1 x 1) K
  | skip
    intro v x h
    have G0 := h.2.2.1
    have G1 := G0.2
    have C0 : (0 : Int) ≤ 7 - x 2 := l_cc (a := y_ev x (7, [(2, (-1))])) (by show ((7) : Int) + ((-1) * x 2 + 0) = 7 - x 2; omega) (h.2.1.1)
    have F0 : (0 : Int) ≤ x 1 ∧ (x 1 : Int) < j_len 50 ∧ v 50 (x 1) = x 2 := l_ff (f := v 50) (L := j_len 50) (a := y_ev x (0, [(1, 1)])) (b := y_ev x (0, [(2, 1)])) (l_e1 _ _) (l_e1 _ _) (G1.1.1)
    have E0 : y_ev x (0, [(0, 1)]) = x 0 := (l_e1 _ _)
    have E1 : y_ev x (0, [(1, 1)]) = x 1 := (l_e1 _ _)
    have E2 : y_ev x (0, [(2, 1)]) = x 2 := (l_e1 _ _)
    have E3 : y_ev x (0, [(3, 1)]) = x 3 := (l_e1 _ _)
    have T0 : 0 ≤ (y_ev x (0, [(1, 1)])) ∧ 0 ≤ (y_ev x (0, [(2, 1)])) ∧ (y_ev x (0, [(2, 1)])) ≤ 41 ∧ t_km (y_ev x (0, [(2, 1)])) = tk (t_b v) (y_ev x (0, [(0, 1)])) (y_ev x (0, [(1, 1)])).toNat ∧ (y_ev x (0, [(3, 1)])) = t_s (t_b v) (y_ev x (0, [(0, 1)])) (y_ev x (0, [(1, 1)])).toNat := h.2.2.2.1
    (try rw [E0] at T0); (try rw [E1] at T0); (try rw [E2] at T0); (try rw [E3] at T0)
    have K := k_mnp_a (V := v) (n := x 0) (c := x 1) (u := x 2) (s := x 3) T0 C0 F0
    refine l_outH rfl (And.intro h.1 ?_)
    have O0 : y_ev x (0, [(0, 1)]) = x 0 := l_e1 _ _
    have O1 : y_ev x (0, [(1, 1)]) = x 1 := l_e1 _ _
    show (True) ∧ ((a_p (tk (t_b v) (y_ev x (0, [(0, 1)])) (y_ev x (0, [(1, 1)])).toNat) = false) ∧ True)
    (try rw [O0]); (try rw [O1])
    exact K
def lm_404 : zLem := (([((-2147483648), 2147483647), ((-2147483648), 2147483647), ((-2147483648), 2147483647), ((-2147483648), 2147483647)], [(12, false), (50, false)], [((-11), [(2, 1)]), (14, [(2, (-1))])], [], [], [(0, (false, 11, 0, []), 0, 0, 0, [(1, 1)]), (1, (true, 0, 0, [(1, 1)]), 0, 0, 0, [(2, 1)])], [(59, [(0, [(0, 1)]), (0, [(1, 1)]), (0, [(2, 1)]), (0, [(3, 1)])])]), [([((-2147483648), 2147483647), ((-2147483648), 2147483647), ((-2147483648), 2147483647), ((-2147483648), 2147483647)], [(12, false), (50, false)], [], [], [], [], [(71, [(0, [(0, 1)]), (0, [(1, 1)])])])])
theorem lk_404 : l_core lm_404 := by
  first
  | skip
    intro v x h
    have G0 := h.2.2.1
    have G1 := G0.2
    have K := k_mnp_b (V := v) (n := x 0) (c := x 1) (u := x 2) (s := x 3) (l_c4 (fun w0 w1 w2 w3 : Int => 0 ≤ w1 ∧ 0 ≤ w2 ∧ w2 ≤ 41 ∧ t_km w2 = tk (t_b v) w0 w1.toNat ∧ w3 = t_s (t_b v) w0 w1.toNat) (l_e1 x 0) (l_e1 x 1) (l_e1 x 2) (l_e1 x 3) (h.2.2.2.1)) (l_cc (l_q2 11 x 2) (h.2.1.1)) (l_cc (l_q1 14 x 2) (h.2.1.2.1)) (l_ff (f := v 50) (L := j_len 50) (l_e1 x 1) (l_e1 x 2) (G1.1.1))
    refine l_outH rfl (And.intro h.1 ?_)
    exact l_o2 (fun w0 w1 : Int => (True) ∧ ((a_p (tk (t_b v) w0 w1.toNat) = false) ∧ True)) (l_e1 x 0) (l_e1 x 1) K
  | skip
    intro v x h
    have G0 := h.2.2.1
    have G1 := G0.2
    have C0 : (0 : Int) ≤ x 2 - 11 := l_cc (a := y_ev x ((-11), [(2, 1)])) (by show ((-11) : Int) + ((1) * x 2 + 0) = x 2 - 11; omega) (h.2.1.1)
    have C1 : (0 : Int) ≤ 14 - x 2 := l_cc (a := y_ev x (14, [(2, (-1))])) (by show ((14) : Int) + ((-1) * x 2 + 0) = 14 - x 2; omega) (h.2.1.2.1)
    have F0 : (0 : Int) ≤ x 1 ∧ (x 1 : Int) < j_len 50 ∧ v 50 (x 1) = x 2 := l_ff (f := v 50) (L := j_len 50) (a := y_ev x (0, [(1, 1)])) (b := y_ev x (0, [(2, 1)])) (l_e1 _ _) (l_e1 _ _) (G1.1.1)
    have E0 : y_ev x (0, [(0, 1)]) = x 0 := (l_e1 _ _)
    have E1 : y_ev x (0, [(1, 1)]) = x 1 := (l_e1 _ _)
    have E2 : y_ev x (0, [(2, 1)]) = x 2 := (l_e1 _ _)
    have E3 : y_ev x (0, [(3, 1)]) = x 3 := (l_e1 _ _)
    have T0 : 0 ≤ (y_ev x (0, [(1, 1)])) ∧ 0 ≤ (y_ev x (0, [(2, 1)])) ∧ (y_ev x (0, [(2, 1)])) ≤ 41 ∧ t_km (y_ev x (0, [(2, 1)])) = tk (t_b v) (y_ev x (0, [(0, 1)])) (y_ev x (0, [(1, 1)])).toNat ∧ (y_ev x (0, [(3, 1)])) = t_s (t_b v) (y_ev x (0, [(0, 1)])) (y_ev x (0, [(1, 1)])).toNat := h.2.2.2.1
    (try rw [E0] at T0); (try rw [E1] at T0); (try rw [E2] at T0); (try rw [E3] at T0)
    have K := k_mnp_b (V := v) (n := x 0) (c := x 1) (u := x 2) (s := x 3) T0 C0 C1 F0
    refine l_outH rfl (And.intro h.1 ?_)
    have O0 : y_ev x (0, [(0, 1)]) = x 0 := l_e1 _ _
    have O1 : y_ev x (0, [(1, 1)]) = x 1 := l_e1 _ _
    show (True) ∧ ((a_p (tk (t_b v) (y_ev x (0, [(0, 1)])) (y_ev x (0, [(1, 1)])).toNat) = false) ∧ True)
    (try rw [O0]); (try rw [O1])
    exact K
def lm_405 : zLem := (([((-2147483648), 2147483647), ((-2147483648), 2147483647), ((-2147483648), 2147483647), ((-2147483648), 2147483647)], [(12, false), (50, false)], [((-16), [(2, 1)])], [], [], [(0, (false, 11, 0, []), 0, 0, 0, [(1, 1)]), (1, (true, 0, 0, [(1, 1)]), 0, 0, 0, [(2, 1)])], [(59, [(0, [(0, 1)]), (0, [(1, 1)]), (0, [(2, 1)]), (0, [(3, 1)])])]), [([((-2147483648), 2147483647), ((-2147483648), 2147483647), ((-2147483648), 2147483647), ((-2147483648), 2147483647)], [(12, false), (50, false)], [], [], [], [], [(71, [(0, [(0, 1)]), (0, [(1, 1)])])])])
theorem lk_405 : l_core lm_405 := by
  first
  | skip
    intro v x h
    have G0 := h.2.2.1
    have G1 := G0.2
    have K := k_mnp_c (V := v) (n := x 0) (c := x 1) (u := x 2) (s := x 3) (l_c4 (fun w0 w1 w2 w3 : Int => 0 ≤ w1 ∧ 0 ≤ w2 ∧ w2 ≤ 41 ∧ t_km w2 = tk (t_b v) w0 w1.toNat ∧ w3 = t_s (t_b v) w0 w1.toNat) (l_e1 x 0) (l_e1 x 1) (l_e1 x 2) (l_e1 x 3) (h.2.2.2.1)) (l_cc (l_q2 16 x 2) (h.2.1.1)) (l_ff (f := v 50) (L := j_len 50) (l_e1 x 1) (l_e1 x 2) (G1.1.1))
    refine l_outH rfl (And.intro h.1 ?_)
    exact l_o2 (fun w0 w1 : Int => (True) ∧ ((a_p (tk (t_b v) w0 w1.toNat) = false) ∧ True)) (l_e1 x 0) (l_e1 x 1) K
  | skip
    intro v x h
    have G0 := h.2.2.1
    have G1 := G0.2
    have C0 : (0 : Int) ≤ x 2 - 16 := l_cc (a := y_ev x ((-16), [(2, 1)])) (by show ((-16) : Int) + ((1) * x 2 + 0) = x 2 - 16; omega) (h.2.1.1)
    have F0 : (0 : Int) ≤ x 1 ∧ (x 1 : Int) < j_len 50 ∧ v 50 (x 1) = x 2 := l_ff (f := v 50) (L := j_len 50) (a := y_ev x (0, [(1, 1)])) (b := y_ev x (0, [(2, 1)])) (l_e1 _ _) (l_e1 _ _) (G1.1.1)
    have E0 : y_ev x (0, [(0, 1)]) = x 0 := (l_e1 _ _)
    have E1 : y_ev x (0, [(1, 1)]) = x 1 := (l_e1 _ _)
    have E2 : y_ev x (0, [(2, 1)]) = x 2 := (l_e1 _ _)
    have E3 : y_ev x (0, [(3, 1)]) = x 3 := (l_e1 _ _)
    have T0 : 0 ≤ (y_ev x (0, [(1, 1)])) ∧ 0 ≤ (y_ev x (0, [(2, 1)])) ∧ (y_ev x (0, [(2, 1)])) ≤ 41 ∧ t_km (y_ev x (0, [(2, 1)])) = tk (t_b v) (y_ev x (0, [(0, 1)])) (y_ev x (0, [(1, 1)])).toNat ∧ (y_ev x (0, [(3, 1)])) = t_s (t_b v) (y_ev x (0, [(0, 1)])) (y_ev x (0, [(1, 1)])).toNat := h.2.2.2.1
    (try rw [E0] at T0); (try rw [E1] at T0); (try rw [E2] at T0); (try rw [E3] at T0)
    have K := k_mnp_c (V := v) (n := x 0) (c := x 1) (u := x 2) (s := x 3) T0 C0 F0
    refine l_outH rfl (And.intro h.1 ?_)
    have O0 : y_ev x (0, [(0, 1)]) = x 0 := l_e1 _ _
    have O1 : y_ev x (0, [(1, 1)]) = x 1 := l_e1 _ _
    show (True) ∧ ((a_p (tk (t_b v) (y_ev x (0, [(0, 1)])) (y_ev x (0, [(1, 1)])).toNat) = false) ∧ True)
    (try rw [O0]); (try rw [O1])
    exact K
def lm_406 : zLem := (([((-2147483648), 2147483647), ((-2147483648), 2147483647), ((-2147483648), 2147483647), ((-2147483648), 2147483647), ((-2147483648), 2147483647)], [(12, false)], [((-1), [(2, (-1)), (3, 1)])], [], [(0, 0, 0, [(2, 1)])], [(0, (false, 11, 0, []), 0, 0, 0, [(1, 1)])], [(62, [(0, [(0, 1)]), (0, [(1, 1)]), (0, [(2, 1)]), (0, [(3, 1)]), (0, [(4, 1)])])]), [([((-2147483648), 2147483647), ((-2147483648), 2147483647), ((-2147483648), 2147483647), ((-2147483648), 2147483647), ((-2147483648), 2147483647)], [(12, false)], [], [], [], [], [(41, [(0, [(0, 1)]), (1, []), (0, [(4, 1)])])])])
theorem lk_406 : l_core lm_406 := by
  first
  | skip
    intro v x h
    have K := k_mres1a (V := v) (n := x 0) (c := x 1) (k := x 2) (u := x 3) (s := x 4) (l_c5 (fun w0 w1 w2 w3 w4 : Int => (w3 ≠ w2 → q_res (t_b v) w0 1 w4) ∧ (w3 = w2 → q_go (t_b v) w0 w1 w4)) (l_e1 x 0) (l_e1 x 1) (l_e1 x 2) (l_e1 x 3) (l_e1 x 4) (h.2.2.2.1)) (l_cc (l_q6 1 x 2 3) (h.2.1.1))
    refine l_outH rfl (And.intro h.1 ?_)
    exact l_o3 (fun w0 w1 w2 : Int => (True) ∧ (q_res (t_b v) w0 w1 w2 ∧ True)) (l_e1 x 0) (l_e0 x (1)) (l_e1 x 4) K
  | skip
    intro v x h
    have C0 : (0 : Int) ≤ x 3 - x 2 - 1 := l_cc (a := y_ev x ((-1), [(2, (-1)), (3, 1)])) (by show ((-1) : Int) + ((-1) * x 2 + ((1) * x 3 + 0)) = x 3 - x 2 - 1; omega) (h.2.1.1)
    have E0 : y_ev x (0, [(0, 1)]) = x 0 := (l_e1 _ _)
    have E1 : y_ev x (0, [(1, 1)]) = x 1 := (l_e1 _ _)
    have E2 : y_ev x (0, [(2, 1)]) = x 2 := (l_e1 _ _)
    have E3 : y_ev x (0, [(3, 1)]) = x 3 := (l_e1 _ _)
    have E4 : y_ev x (0, [(4, 1)]) = x 4 := (l_e1 _ _)
    have T0 : ((y_ev x (0, [(3, 1)])) ≠ (y_ev x (0, [(2, 1)])) → q_res (t_b v) (y_ev x (0, [(0, 1)])) 1 (y_ev x (0, [(4, 1)]))) ∧ ((y_ev x (0, [(3, 1)])) = (y_ev x (0, [(2, 1)])) → q_go (t_b v) (y_ev x (0, [(0, 1)])) (y_ev x (0, [(1, 1)])) (y_ev x (0, [(4, 1)]))) := h.2.2.2.1
    (try rw [E0] at T0); (try rw [E1] at T0); (try rw [E2] at T0); (try rw [E3] at T0); (try rw [E4] at T0)
    have K := k_mres1a (V := v) (n := x 0) (c := x 1) (k := x 2) (u := x 3) (s := x 4) T0 C0
    refine l_outH rfl (And.intro h.1 ?_)
    have O0 : y_ev x (0, [(0, 1)]) = x 0 := l_e1 _ _
    have O1 : y_ev x (1, []) = 1 := l_e0 _ _
    have O2 : y_ev x (0, [(4, 1)]) = x 4 := l_e1 _ _
    show (True) ∧ (q_res (t_b v) (y_ev x (0, [(0, 1)])) (y_ev x (1, [])) (y_ev x (0, [(4, 1)])) ∧ True)
    (try rw [O0]); (try rw [O1]); (try rw [O2])
    exact K
def lm_407 : zLem := (([((-2147483648), 2147483647), ((-2147483648), 2147483647), ((-2147483648), 2147483647), ((-2147483648), 2147483647), ((-2147483648), 2147483647)], [(12, false)], [((-1), [(2, 1), (3, (-1))])], [], [(0, 0, 0, [(2, 1)])], [(0, (false, 11, 0, []), 0, 0, 0, [(1, 1)])], [(62, [(0, [(0, 1)]), (0, [(1, 1)]), (0, [(2, 1)]), (0, [(3, 1)]), (0, [(4, 1)])])]), [([((-2147483648), 2147483647), ((-2147483648), 2147483647), ((-2147483648), 2147483647), ((-2147483648), 2147483647), ((-2147483648), 2147483647)], [(12, false)], [], [], [], [], [(41, [(0, [(0, 1)]), (1, []), (0, [(4, 1)])])])])
theorem lk_407 : l_core lm_407 := by
  first
  | skip
    intro v x h
    have K := k_mres1b (V := v) (n := x 0) (c := x 1) (k := x 2) (u := x 3) (s := x 4) (l_c5 (fun w0 w1 w2 w3 w4 : Int => (w3 ≠ w2 → q_res (t_b v) w0 1 w4) ∧ (w3 = w2 → q_go (t_b v) w0 w1 w4)) (l_e1 x 0) (l_e1 x 1) (l_e1 x 2) (l_e1 x 3) (l_e1 x 4) (h.2.2.2.1)) (l_cc (l_q8 1 x 2 3) (h.2.1.1))
    refine l_outH rfl (And.intro h.1 ?_)
    exact l_o3 (fun w0 w1 w2 : Int => (True) ∧ (q_res (t_b v) w0 w1 w2 ∧ True)) (l_e1 x 0) (l_e0 x (1)) (l_e1 x 4) K
  | skip
    intro v x h
    have C0 : (0 : Int) ≤ x 2 - x 3 - 1 := l_cc (a := y_ev x ((-1), [(2, 1), (3, (-1))])) (by show ((-1) : Int) + ((1) * x 2 + ((-1) * x 3 + 0)) = x 2 - x 3 - 1; omega) (h.2.1.1)
    have E0 : y_ev x (0, [(0, 1)]) = x 0 := (l_e1 _ _)
    have E1 : y_ev x (0, [(1, 1)]) = x 1 := (l_e1 _ _)
    have E2 : y_ev x (0, [(2, 1)]) = x 2 := (l_e1 _ _)
    have E3 : y_ev x (0, [(3, 1)]) = x 3 := (l_e1 _ _)
    have E4 : y_ev x (0, [(4, 1)]) = x 4 := (l_e1 _ _)
    have T0 : ((y_ev x (0, [(3, 1)])) ≠ (y_ev x (0, [(2, 1)])) → q_res (t_b v) (y_ev x (0, [(0, 1)])) 1 (y_ev x (0, [(4, 1)]))) ∧ ((y_ev x (0, [(3, 1)])) = (y_ev x (0, [(2, 1)])) → q_go (t_b v) (y_ev x (0, [(0, 1)])) (y_ev x (0, [(1, 1)])) (y_ev x (0, [(4, 1)]))) := h.2.2.2.1
    (try rw [E0] at T0); (try rw [E1] at T0); (try rw [E2] at T0); (try rw [E3] at T0); (try rw [E4] at T0)
    have K := k_mres1b (V := v) (n := x 0) (c := x 1) (k := x 2) (u := x 3) (s := x 4) T0 C0
    refine l_outH rfl (And.intro h.1 ?_)
    have O0 : y_ev x (0, [(0, 1)]) = x 0 := l_e1 _ _
    have O1 : y_ev x (1, []) = 1 := l_e0 _ _
    have O2 : y_ev x (0, [(4, 1)]) = x 4 := l_e1 _ _
    show (True) ∧ (q_res (t_b v) (y_ev x (0, [(0, 1)])) (y_ev x (1, [])) (y_ev x (0, [(4, 1)])) ∧ True)
    (try rw [O0]); (try rw [O1]); (try rw [O2])
    exact K
def lm_408 : zLem := (([((-2147483648), 2147483647), ((-2147483648), 2147483647), ((-2147483648), 2147483647), ((-2147483648), 2147483647), ((-2147483648), 2147483647)], [(12, false)], [(0, [(2, (-1)), (3, 1)]), (0, [(2, 1), (3, (-1))])], [], [(0, 0, 0, [(2, 1)])], [(0, (false, 11, 0, []), 0, 0, 0, [(1, 1)])], [(62, [(0, [(0, 1)]), (0, [(1, 1)]), (0, [(2, 1)]), (0, [(3, 1)]), (0, [(4, 1)])])]), [([((-2147483648), 2147483647), ((-2147483648), 2147483647), ((-2147483648), 2147483647), ((-2147483648), 2147483647), ((-2147483648), 2147483647)], [(12, false)], [], [], [], [], [(68, [(0, [(0, 1)]), (0, [(1, 1)]), (0, [(4, 1)])])])])
theorem lk_408 : l_core lm_408 := by
  first
  | skip
    intro v x h
    have K := k_mgo (V := v) (n := x 0) (c := x 1) (k := x 2) (u := x 3) (s := x 4) (l_c5 (fun w0 w1 w2 w3 w4 : Int => (w3 ≠ w2 → q_res (t_b v) w0 1 w4) ∧ (w3 = w2 → q_go (t_b v) w0 w1 w4)) (l_e1 x 0) (l_e1 x 1) (l_e1 x 2) (l_e1 x 3) (l_e1 x 4) (h.2.2.2.1)) (l_cc (l_q4 x 2 3) (h.2.1.1)) (l_cc (l_q5 x 2 3) (h.2.1.2.1))
    refine l_outH rfl (And.intro h.1 ?_)
    exact l_o3 (fun w0 w1 w2 : Int => (True) ∧ (q_go (t_b v) w0 w1 w2 ∧ True)) (l_e1 x 0) (l_e1 x 1) (l_e1 x 4) K
  | skip
    intro v x h
    have C0 : (0 : Int) ≤ x 3 - x 2 := l_cc (a := y_ev x (0, [(2, (-1)), (3, 1)])) (by show ((0) : Int) + ((-1) * x 2 + ((1) * x 3 + 0)) = x 3 - x 2; omega) (h.2.1.1)
    have C1 : (0 : Int) ≤ x 2 - x 3 := l_cc (a := y_ev x (0, [(2, 1), (3, (-1))])) (by show ((0) : Int) + ((1) * x 2 + ((-1) * x 3 + 0)) = x 2 - x 3; omega) (h.2.1.2.1)
    have E0 : y_ev x (0, [(0, 1)]) = x 0 := (l_e1 _ _)
    have E1 : y_ev x (0, [(1, 1)]) = x 1 := (l_e1 _ _)
    have E2 : y_ev x (0, [(2, 1)]) = x 2 := (l_e1 _ _)
    have E3 : y_ev x (0, [(3, 1)]) = x 3 := (l_e1 _ _)
    have E4 : y_ev x (0, [(4, 1)]) = x 4 := (l_e1 _ _)
    have T0 : ((y_ev x (0, [(3, 1)])) ≠ (y_ev x (0, [(2, 1)])) → q_res (t_b v) (y_ev x (0, [(0, 1)])) 1 (y_ev x (0, [(4, 1)]))) ∧ ((y_ev x (0, [(3, 1)])) = (y_ev x (0, [(2, 1)])) → q_go (t_b v) (y_ev x (0, [(0, 1)])) (y_ev x (0, [(1, 1)])) (y_ev x (0, [(4, 1)]))) := h.2.2.2.1
    (try rw [E0] at T0); (try rw [E1] at T0); (try rw [E2] at T0); (try rw [E3] at T0); (try rw [E4] at T0)
    have K := k_mgo (V := v) (n := x 0) (c := x 1) (k := x 2) (u := x 3) (s := x 4) T0 C0 C1
    refine l_outH rfl (And.intro h.1 ?_)
    have O0 : y_ev x (0, [(0, 1)]) = x 0 := l_e1 _ _
    have O1 : y_ev x (0, [(1, 1)]) = x 1 := l_e1 _ _
    have O2 : y_ev x (0, [(4, 1)]) = x 4 := l_e1 _ _
    show (True) ∧ (q_go (t_b v) (y_ev x (0, [(0, 1)])) (y_ev x (0, [(1, 1)])) (y_ev x (0, [(4, 1)])) ∧ True)
    (try rw [O0]); (try rw [O1]); (try rw [O2])
    exact K
def lm_409 : zLem := (([((-2147483648), 2147483647), ((-2147483648), 2147483647), ((-2147483648), 2147483647)], [(12, false)], [((-400), [(1, 1)])], [], [], [(0, (false, 11, 0, []), 0, 0, 0, [(1, 1)])], [(68, [(0, [(0, 1)]), (0, [(1, 1)]), (0, [(2, 1)])])]), [([((-2147483648), 2147483647), ((-2147483648), 2147483647), ((-2147483648), 2147483647)], [(12, false)], [], [], [], [], [(41, [(0, [(0, 1)]), (2, []), (0, [(2, 1)])])])])
theorem lk_409 : l_core lm_409 := by
  first
  | skip
    intro v x h
    have K := k_mres2 (V := v) (n := x 0) (c := x 1) (s := x 2) (l_c3 (fun w0 w1 w2 : Int => q_go (t_b v) w0 w1 w2) (l_e1 x 0) (l_e1 x 1) (l_e1 x 2) (h.2.2.2.1)) (l_cc (l_q2 400 x 1) (h.2.1.1))
    refine l_outH rfl (And.intro h.1 ?_)
    exact l_o3 (fun w0 w1 w2 : Int => (True) ∧ (q_res (t_b v) w0 w1 w2 ∧ True)) (l_e1 x 0) (l_e0 x (2)) (l_e1 x 2) K
  | skip
    intro v x h
    have C0 : (0 : Int) ≤ x 1 - 400 := l_cc (a := y_ev x ((-400), [(1, 1)])) (by show ((-400) : Int) + ((1) * x 1 + 0) = x 1 - 400; omega) (h.2.1.1)
    have E0 : y_ev x (0, [(0, 1)]) = x 0 := (l_e1 _ _)
    have E1 : y_ev x (0, [(1, 1)]) = x 1 := (l_e1 _ _)
    have E2 : y_ev x (0, [(2, 1)]) = x 2 := (l_e1 _ _)
    have T0 : q_go (t_b v) (y_ev x (0, [(0, 1)])) (y_ev x (0, [(1, 1)])) (y_ev x (0, [(2, 1)])) := h.2.2.2.1
    (try rw [E0] at T0); (try rw [E1] at T0); (try rw [E2] at T0)
    have K := k_mres2 (V := v) (n := x 0) (c := x 1) (s := x 2) T0 C0
    refine l_outH rfl (And.intro h.1 ?_)
    have O0 : y_ev x (0, [(0, 1)]) = x 0 := l_e1 _ _
    have O1 : y_ev x (2, []) = 2 := l_e0 _ _
    have O2 : y_ev x (0, [(2, 1)]) = x 2 := l_e1 _ _
    show (True) ∧ (q_res (t_b v) (y_ev x (0, [(0, 1)])) (y_ev x (2, [])) (y_ev x (0, [(2, 1)])) ∧ True)
    (try rw [O0]); (try rw [O1]); (try rw [O2])
    exact K
def lm_412 : zLem := (([((-2147483648), 2147483647), ((-2147483648), 2147483647), ((-2147483648), 2147483647), ((-2147483648), 2147483647), ((-2147483648), 2147483647), ((-2147483648), 2147483647), ((-2147483648), 2147483647), ((-2147483648), 2147483647), ((-2147483648), 2147483647)], [(12, false)], [((-22), [(6, 1)]), (23, [(6, (-1))])], [], [], [(0, (false, 11, 0, []), 0, 0, 0, [(1, 1)])], [(40, [(0, [(0, 1)]), (0, [(1, 1)]), (0, []), (0, []), (0, []), (0, [(2, 1)]), (0, [(3, 1)]), (0, [(4, 1)]), (0, [(5, 1)]), (0, [(8, 1)])]), (59, [(0, [(0, 1)]), (0, [(1, 1)]), (0, [(6, 1)]), (0, [(7, 1)])])]), [([((-2147483648), 2147483647), ((-2147483648), 2147483647), ((-2147483648), 2147483647), ((-2147483648), 2147483647), ((-2147483648), 2147483647), ((-2147483648), 2147483647), ((-2147483648), 2147483647), ((-2147483648), 2147483647), ((-2147483648), 2147483647)], [(12, false)], [], [], [], [], [(68, [(0, [(0, 1)]), (0, [(1, 1)]), (0, [(7, 1)])])])])
theorem lk_412 : l_core lm_412 := by
  first
  | skip
    intro v x h
    have K := k_mg_n1 (V := v) (n := x 0) (c := x 1) (H := x 2) (L := x 3) (W := x 4) (WP := x 5) (u := x 6) (s := x 7) (S := x 8) (l_c8 (fun w0 w1 w2 w3 w4 w5 w6 w7 : Int => q_run2 (t_b v) w0 w1 w2 w2 w2 w3 w4 w5 w6 w7) (l_e1 x 0) (l_e1 x 1) (l_e0 x (0)) (l_e1 x 2) (l_e1 x 3) (l_e1 x 4) (l_e1 x 5) (l_e1 x 8) (h.2.2.2.1)) (l_c4 (fun w0 w1 w2 w3 : Int => 0 ≤ w1 ∧ 0 ≤ w2 ∧ w2 ≤ 41 ∧ t_km w2 = tk (t_b v) w0 w1.toNat ∧ w3 = t_s (t_b v) w0 w1.toNat) (l_e1 x 0) (l_e1 x 1) (l_e1 x 6) (l_e1 x 7) (h.2.2.2.2.1)) (l_cc (l_q2 22 x 6) (h.2.1.1)) (l_cc (l_q1 23 x 6) (h.2.1.2.1))
    refine l_outH rfl (And.intro h.1 ?_)
    exact l_o3 (fun w0 w1 w2 : Int => (True) ∧ (q_go (t_b v) w0 w1 w2 ∧ True)) (l_e1 x 0) (l_e1 x 1) (l_e1 x 7) K
  | skip
    intro v x h
    have C0 : (0 : Int) ≤ x 6 - 22 := l_cc (a := y_ev x ((-22), [(6, 1)])) (by show ((-22) : Int) + ((1) * x 6 + 0) = x 6 - 22; omega) (h.2.1.1)
    have C1 : (0 : Int) ≤ 23 - x 6 := l_cc (a := y_ev x (23, [(6, (-1))])) (by show ((23) : Int) + ((-1) * x 6 + 0) = 23 - x 6; omega) (h.2.1.2.1)
    have E0 : y_ev x (0, [(0, 1)]) = x 0 := (l_e1 _ _)
    have E1 : y_ev x (0, [(1, 1)]) = x 1 := (l_e1 _ _)
    have E2 : y_ev x (0, []) = 0 := (l_e0 _ _)
    have E3 : y_ev x (0, [(2, 1)]) = x 2 := (l_e1 _ _)
    have E4 : y_ev x (0, [(3, 1)]) = x 3 := (l_e1 _ _)
    have E5 : y_ev x (0, [(4, 1)]) = x 4 := (l_e1 _ _)
    have E6 : y_ev x (0, [(5, 1)]) = x 5 := (l_e1 _ _)
    have E7 : y_ev x (0, [(8, 1)]) = x 8 := (l_e1 _ _)
    have E8 : y_ev x (0, [(6, 1)]) = x 6 := (l_e1 _ _)
    have E9 : y_ev x (0, [(7, 1)]) = x 7 := (l_e1 _ _)
    have T0 : q_run2 (t_b v) (y_ev x (0, [(0, 1)])) (y_ev x (0, [(1, 1)])) (y_ev x (0, [])) (y_ev x (0, [])) (y_ev x (0, [])) (y_ev x (0, [(2, 1)])) (y_ev x (0, [(3, 1)])) (y_ev x (0, [(4, 1)])) (y_ev x (0, [(5, 1)])) (y_ev x (0, [(8, 1)])) := h.2.2.2.1
    (try rw [E0] at T0); (try rw [E1] at T0); (try rw [E2] at T0); (try rw [E3] at T0); (try rw [E4] at T0); (try rw [E5] at T0); (try rw [E6] at T0); (try rw [E7] at T0)
    have T1 : 0 ≤ (y_ev x (0, [(1, 1)])) ∧ 0 ≤ (y_ev x (0, [(6, 1)])) ∧ (y_ev x (0, [(6, 1)])) ≤ 41 ∧ t_km (y_ev x (0, [(6, 1)])) = tk (t_b v) (y_ev x (0, [(0, 1)])) (y_ev x (0, [(1, 1)])).toNat ∧ (y_ev x (0, [(7, 1)])) = t_s (t_b v) (y_ev x (0, [(0, 1)])) (y_ev x (0, [(1, 1)])).toNat := h.2.2.2.2.1
    (try rw [E0] at T1); (try rw [E1] at T1); (try rw [E8] at T1); (try rw [E9] at T1)
    have K := k_mg_n1 (V := v) (n := x 0) (c := x 1) (H := x 2) (L := x 3) (W := x 4) (WP := x 5) (u := x 6) (s := x 7) (S := x 8) T0 T1 C0 C1
    refine l_outH rfl (And.intro h.1 ?_)
    have O0 : y_ev x (0, [(0, 1)]) = x 0 := l_e1 _ _
    have O1 : y_ev x (0, [(1, 1)]) = x 1 := l_e1 _ _
    have O2 : y_ev x (0, [(7, 1)]) = x 7 := l_e1 _ _
    show (True) ∧ (q_go (t_b v) (y_ev x (0, [(0, 1)])) (y_ev x (0, [(1, 1)])) (y_ev x (0, [(7, 1)])) ∧ True)
    (try rw [O0]); (try rw [O1]); (try rw [O2])
    exact K
def lm_413 : zLem := (([((-2147483648), 2147483647), ((-2147483648), 2147483647), ((-2147483648), 2147483647), ((-2147483648), 2147483647), ((-2147483648), 2147483647), ((-2147483648), 2147483647), ((-2147483648), 2147483647), ((-2147483648), 2147483647), ((-2147483648), 2147483647)], [(12, false)], [((-28), [(6, 1)]), (29, [(6, (-1))])], [], [], [(0, (false, 11, 0, []), 0, 0, 0, [(1, 1)])], [(40, [(0, [(0, 1)]), (0, [(1, 1)]), (0, []), (0, []), (0, []), (0, [(2, 1)]), (0, [(3, 1)]), (0, [(4, 1)]), (0, [(5, 1)]), (0, [(8, 1)])]), (59, [(0, [(0, 1)]), (0, [(1, 1)]), (0, [(6, 1)]), (0, [(7, 1)])])]), [([((-2147483648), 2147483647), ((-2147483648), 2147483647), ((-2147483648), 2147483647), ((-2147483648), 2147483647), ((-2147483648), 2147483647), ((-2147483648), 2147483647), ((-2147483648), 2147483647), ((-2147483648), 2147483647), ((-2147483648), 2147483647)], [(12, false)], [], [], [], [], [(68, [(0, [(0, 1)]), (0, [(1, 1)]), (0, [(7, 1)])])])])
theorem lk_413 : l_core lm_413 := by
  first
  | skip
    intro v x h
    have K := k_mg_n2 (V := v) (n := x 0) (c := x 1) (H := x 2) (L := x 3) (W := x 4) (WP := x 5) (u := x 6) (s := x 7) (S := x 8) (l_c8 (fun w0 w1 w2 w3 w4 w5 w6 w7 : Int => q_run2 (t_b v) w0 w1 w2 w2 w2 w3 w4 w5 w6 w7) (l_e1 x 0) (l_e1 x 1) (l_e0 x (0)) (l_e1 x 2) (l_e1 x 3) (l_e1 x 4) (l_e1 x 5) (l_e1 x 8) (h.2.2.2.1)) (l_c4 (fun w0 w1 w2 w3 : Int => 0 ≤ w1 ∧ 0 ≤ w2 ∧ w2 ≤ 41 ∧ t_km w2 = tk (t_b v) w0 w1.toNat ∧ w3 = t_s (t_b v) w0 w1.toNat) (l_e1 x 0) (l_e1 x 1) (l_e1 x 6) (l_e1 x 7) (h.2.2.2.2.1)) (l_cc (l_q2 28 x 6) (h.2.1.1)) (l_cc (l_q1 29 x 6) (h.2.1.2.1))
    refine l_outH rfl (And.intro h.1 ?_)
    exact l_o3 (fun w0 w1 w2 : Int => (True) ∧ (q_go (t_b v) w0 w1 w2 ∧ True)) (l_e1 x 0) (l_e1 x 1) (l_e1 x 7) K
  | skip
    intro v x h
    have C0 : (0 : Int) ≤ x 6 - 28 := l_cc (a := y_ev x ((-28), [(6, 1)])) (by show ((-28) : Int) + ((1) * x 6 + 0) = x 6 - 28; omega) (h.2.1.1)
    have C1 : (0 : Int) ≤ 29 - x 6 := l_cc (a := y_ev x (29, [(6, (-1))])) (by show ((29) : Int) + ((-1) * x 6 + 0) = 29 - x 6; omega) (h.2.1.2.1)
    have E0 : y_ev x (0, [(0, 1)]) = x 0 := (l_e1 _ _)
    have E1 : y_ev x (0, [(1, 1)]) = x 1 := (l_e1 _ _)
    have E2 : y_ev x (0, []) = 0 := (l_e0 _ _)
    have E3 : y_ev x (0, [(2, 1)]) = x 2 := (l_e1 _ _)
    have E4 : y_ev x (0, [(3, 1)]) = x 3 := (l_e1 _ _)
    have E5 : y_ev x (0, [(4, 1)]) = x 4 := (l_e1 _ _)
    have E6 : y_ev x (0, [(5, 1)]) = x 5 := (l_e1 _ _)
    have E7 : y_ev x (0, [(8, 1)]) = x 8 := (l_e1 _ _)
    have E8 : y_ev x (0, [(6, 1)]) = x 6 := (l_e1 _ _)
    have E9 : y_ev x (0, [(7, 1)]) = x 7 := (l_e1 _ _)
    have T0 : q_run2 (t_b v) (y_ev x (0, [(0, 1)])) (y_ev x (0, [(1, 1)])) (y_ev x (0, [])) (y_ev x (0, [])) (y_ev x (0, [])) (y_ev x (0, [(2, 1)])) (y_ev x (0, [(3, 1)])) (y_ev x (0, [(4, 1)])) (y_ev x (0, [(5, 1)])) (y_ev x (0, [(8, 1)])) := h.2.2.2.1
    (try rw [E0] at T0); (try rw [E1] at T0); (try rw [E2] at T0); (try rw [E3] at T0); (try rw [E4] at T0); (try rw [E5] at T0); (try rw [E6] at T0); (try rw [E7] at T0)
    have T1 : 0 ≤ (y_ev x (0, [(1, 1)])) ∧ 0 ≤ (y_ev x (0, [(6, 1)])) ∧ (y_ev x (0, [(6, 1)])) ≤ 41 ∧ t_km (y_ev x (0, [(6, 1)])) = tk (t_b v) (y_ev x (0, [(0, 1)])) (y_ev x (0, [(1, 1)])).toNat ∧ (y_ev x (0, [(7, 1)])) = t_s (t_b v) (y_ev x (0, [(0, 1)])) (y_ev x (0, [(1, 1)])).toNat := h.2.2.2.2.1
    (try rw [E0] at T1); (try rw [E1] at T1); (try rw [E8] at T1); (try rw [E9] at T1)
    have K := k_mg_n2 (V := v) (n := x 0) (c := x 1) (H := x 2) (L := x 3) (W := x 4) (WP := x 5) (u := x 6) (s := x 7) (S := x 8) T0 T1 C0 C1
    refine l_outH rfl (And.intro h.1 ?_)
    have O0 : y_ev x (0, [(0, 1)]) = x 0 := l_e1 _ _
    have O1 : y_ev x (0, [(1, 1)]) = x 1 := l_e1 _ _
    have O2 : y_ev x (0, [(7, 1)]) = x 7 := l_e1 _ _
    show (True) ∧ (q_go (t_b v) (y_ev x (0, [(0, 1)])) (y_ev x (0, [(1, 1)])) (y_ev x (0, [(7, 1)])) ∧ True)
    (try rw [O0]); (try rw [O1]); (try rw [O2])
    exact K
end
