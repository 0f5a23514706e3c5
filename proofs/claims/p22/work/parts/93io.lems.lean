noncomputable section
/-! ===== the lemmas as data, by program ===== -/
set_option maxRecDepth 100000
def lm_1057 : zLem := (([((-2147483648), 2147483647), ((-2147483648), 2147483647), ((-2147483648), 2147483647), ((-2147483648), 2147483647), ((-2147483648), 2147483647)], [], [((-1), [(3, 1), (4, 1)]), (1, [(3, (-1)), (4, (-1))]), ((-1), [(0, (-1)), (1, 1)]), (1, [(0, 1), (1, (-1))]), (0, [(0, 1)]), (100, [(0, (-1))])], [], [(0, 0, 0, [(2, 1)]), (0, 0, 0, [(4, 1)])], [], [(108, [(0, [(0, 1)]), (2, []), (0, [(2, 1)])]), (108, [(0, [(1, 1)]), (2, []), (0, [(3, 1)])])]), [([((-2147483648), 2147483647), ((-2147483648), 2147483647), ((-2147483648), 2147483647), ((-2147483648), 2147483647), ((-2147483648), 2147483647)], [], [(0, [(2, 1), (4, (-1))]), (0, [(2, (-1)), (4, 1)])], [], [], [], [])])
theorem lk_1057 : l_core lm_1057 := by
  first
  | skip
    intro v x h
    have K := k_qrem (V := v) (a := x 0) (b := x 1) (u := x 2) (w := x 3) (x := x 4) (l_c3 (fun w0 w1 w2 : Int => (mOP 108 (Int32.ofInt w0) (Int32.ofInt w1)).toInt = w2) (l_e1 x 0) (l_e0 x (2)) (l_e1 x 2) (h.2.2.2.1)) (l_c3 (fun w0 w1 w2 : Int => (mOP 108 (Int32.ofInt w0) (Int32.ofInt w1)).toInt = w2) (l_e1 x 1) (l_e0 x (2)) (l_e1 x 3) (h.2.2.2.2.1)) (l_cc (show y_ev x ((-1), [(3, 1), (4, 1)]) = x 3 + x 4 - 1 by show ((-1) : Int) + ((1) * x 3 + ((1) * x 4 + 0)) = _; omega) (h.2.1.1)) (l_cc (show y_ev x (1, [(3, (-1)), (4, (-1))]) = 1 - x 3 - x 4 by show ((1) : Int) + ((-1) * x 3 + ((-1) * x 4 + 0)) = _; omega) (h.2.1.2.1)) (l_cc (l_q6 1 x 0 1) (h.2.1.2.2.1)) (l_cc (l_q13 1 x 0 1) (h.2.1.2.2.2.1)) (l_cc (l_e1 x 0) (h.2.1.2.2.2.2.1)) (l_cc (l_q1 100 x 0) (h.2.1.2.2.2.2.2.1))
    refine l_outH rfl (And.intro h.1 ?_)
    exact l_o2 (fun w0 w1 : Int => (0 ≤ w0 ∧ 0 ≤ w1 ∧ True) ∧ (True)) (l_q5 x 2 4) (l_q4 x 2 4) K
  | skip
    intro v x h
    have C0 : (0 : Int) ≤ x 3 + x 4 - 1 := l_cc (a := y_ev x ((-1), [(3, 1), (4, 1)])) (by show ((-1) : Int) + ((1) * x 3 + ((1) * x 4 + 0)) = x 3 + x 4 - 1; omega) (h.2.1.1)
    have C1 : (0 : Int) ≤ 1 - x 3 - x 4 := l_cc (a := y_ev x (1, [(3, (-1)), (4, (-1))])) (by show ((1) : Int) + ((-1) * x 3 + ((-1) * x 4 + 0)) = 1 - x 3 - x 4; omega) (h.2.1.2.1)
    have C2 : (0 : Int) ≤ x 1 - x 0 - 1 := l_cc (a := y_ev x ((-1), [(0, (-1)), (1, 1)])) (by show ((-1) : Int) + ((-1) * x 0 + ((1) * x 1 + 0)) = x 1 - x 0 - 1; omega) (h.2.1.2.2.1)
    have C3 : (0 : Int) ≤ x 0 - x 1 + 1 := l_cc (a := y_ev x (1, [(0, 1), (1, (-1))])) (by show ((1) : Int) + ((1) * x 0 + ((-1) * x 1 + 0)) = x 0 - x 1 + 1; omega) (h.2.1.2.2.2.1)
    have C4 : (0 : Int) ≤ x 0 := l_cc (a := y_ev x (0, [(0, 1)])) (l_e1 _ _) (h.2.1.2.2.2.2.1)
    have C5 : (0 : Int) ≤ 100 - x 0 := l_cc (a := y_ev x (100, [(0, (-1))])) (by show ((100) : Int) + ((-1) * x 0 + 0) = 100 - x 0; omega) (h.2.1.2.2.2.2.2.1)
    have E0 : y_ev x (0, [(0, 1)]) = x 0 := (l_e1 _ _)
    have E1 : y_ev x (2, []) = 2 := (l_e0 _ _)
    have E2 : y_ev x (0, [(2, 1)]) = x 2 := (l_e1 _ _)
    have E3 : y_ev x (0, [(1, 1)]) = x 1 := (l_e1 _ _)
    have E4 : y_ev x (0, [(3, 1)]) = x 3 := (l_e1 _ _)
    have T0 : (mOP 108 (Int32.ofInt (y_ev x (0, [(0, 1)]))) (Int32.ofInt (y_ev x (2, [])))).toInt = (y_ev x (0, [(2, 1)])) := h.2.2.2.1
    (try rw [E0] at T0); (try rw [E1] at T0); (try rw [E2] at T0)
    have T1 : (mOP 108 (Int32.ofInt (y_ev x (0, [(1, 1)]))) (Int32.ofInt (y_ev x (2, [])))).toInt = (y_ev x (0, [(3, 1)])) := h.2.2.2.2.1
    (try rw [E3] at T1); (try rw [E1] at T1); (try rw [E4] at T1)
    have K := k_qrem (V := v) (a := x 0) (b := x 1) (u := x 2) (w := x 3) (x := x 4) T0 T1 C0 C1 C2 C3 C4 C5
    refine l_outH rfl (And.intro h.1 ?_)
    have O0 : y_ev x (0, [(2, 1), (4, (-1))]) = x 2 - x 4 := by show ((0) : Int) + ((1) * x 2 + ((-1) * x 4 + 0)) = _; omega
    have O1 : y_ev x (0, [(2, (-1)), (4, 1)]) = x 4 - x 2 := by show ((0) : Int) + ((-1) * x 2 + ((1) * x 4 + 0)) = _; omega
    show (0 ≤ y_ev x (0, [(2, 1), (4, (-1))]) ∧ 0 ≤ y_ev x (0, [(2, (-1)), (4, 1)]) ∧ True) ∧ (True)
    (try rw [O0]); (try rw [O1])
    exact K
def lm_1058 : zLem := (([((-2147483648), 2147483647), ((-2147483648), 2147483647), ((-2147483648), 2147483647), ((-2147483648), 2147483647), ((-2147483648), 2147483647), ((-2147483648), 2147483647), ((-2147483648), 2147483647), ((-2147483648), 2147483647), ((-2147483648), 2147483647), ((-2147483648), 2147483647), ((-2147483648), 2147483647)], [], [], [], [], [], [(235, [(0, [(3, 1)]), (0, [(0, 1)]), (0, [(1, 1)]), (0, [(2, 1)]), (0, [(4, 1)]), (0, [(5, 1)]), (0, [(6, 1)]), (0, [(7, 1)]), (0, [(8, 1)]), (0, [(9, 1)]), (0, [(10, 1)])])]), [([((-2147483648), 2147483647), ((-2147483648), 2147483647), ((-2147483648), 2147483647), ((-2147483648), 2147483647), ((-2147483648), 2147483647), ((-2147483648), 2147483647), ((-2147483648), 2147483647), ((-2147483648), 2147483647), ((-2147483648), 2147483647), ((-2147483648), 2147483647), ((-2147483648), 2147483647)], [], [], [], [], [], [(238, [(28, []), (0, [(4, 1)]), (0, [(5, 1)]), (0, [(6, 1)]), (0, [(7, 1)]), (0, [(8, 1)]), (0, [(9, 1)]), (0, [(10, 1)]), (1, []), ((-2), []), ((-2), [])])])])
theorem lk_1058 : l_core lm_1058 := by
  first
  | skip
    intro v x h
    have K := k_qua0 (V := v) (p := x 0) (y := x 1) (d := x 2) (H := x 3) (q := x 4) (b := x 5) (s := x 6) (o := x 7) (a1 := x 8) (a2 := x 9) (a3 := x 10) (l_c11 (fun w0 w1 w2 w3 w4 w5 w6 w7 w8 w9 w10 : Int => q_sto v 0 w0 w1 w2 w3 w4 w5 w6 w7 w8 w9 w10) (l_e1 x 3) (l_e1 x 0) (l_e1 x 1) (l_e1 x 2) (l_e1 x 4) (l_e1 x 5) (l_e1 x 6) (l_e1 x 7) (l_e1 x 8) (l_e1 x 9) (l_e1 x 10) (h.2.2.2.1))
    refine l_outH rfl (And.intro h.1 ?_)
    exact l_o10 (fun w0 w1 w2 w3 w4 w5 w6 w7 w8 w9 : Int => (True) ∧ (q_qry v w0 w1 w2 w3 w4 w5 w6 w7 w8 w9 w9 ∧ True)) (l_e0 x (28)) (l_e1 x 4) (l_e1 x 5) (l_e1 x 6) (l_e1 x 7) (l_e1 x 8) (l_e1 x 9) (l_e1 x 10) (l_e0 x (1)) (l_e0 x (-2)) K
  | skip
    intro v x h
    have E0 : y_ev x (0, [(3, 1)]) = x 3 := (l_e1 _ _)
    have E1 : y_ev x (0, [(0, 1)]) = x 0 := (l_e1 _ _)
    have E2 : y_ev x (0, [(1, 1)]) = x 1 := (l_e1 _ _)
    have E3 : y_ev x (0, [(2, 1)]) = x 2 := (l_e1 _ _)
    have E4 : y_ev x (0, [(4, 1)]) = x 4 := (l_e1 _ _)
    have E5 : y_ev x (0, [(5, 1)]) = x 5 := (l_e1 _ _)
    have E6 : y_ev x (0, [(6, 1)]) = x 6 := (l_e1 _ _)
    have E7 : y_ev x (0, [(7, 1)]) = x 7 := (l_e1 _ _)
    have E8 : y_ev x (0, [(8, 1)]) = x 8 := (l_e1 _ _)
    have E9 : y_ev x (0, [(9, 1)]) = x 9 := (l_e1 _ _)
    have E10 : y_ev x (0, [(10, 1)]) = x 10 := (l_e1 _ _)
    have T0 : q_sto v 0 (y_ev x (0, [(3, 1)])) (y_ev x (0, [(0, 1)])) (y_ev x (0, [(1, 1)])) (y_ev x (0, [(2, 1)])) (y_ev x (0, [(4, 1)])) (y_ev x (0, [(5, 1)])) (y_ev x (0, [(6, 1)])) (y_ev x (0, [(7, 1)])) (y_ev x (0, [(8, 1)])) (y_ev x (0, [(9, 1)])) (y_ev x (0, [(10, 1)])) := h.2.2.2.1
    (try rw [E0] at T0); (try rw [E1] at T0); (try rw [E2] at T0); (try rw [E3] at T0); (try rw [E4] at T0); (try rw [E5] at T0); (try rw [E6] at T0); (try rw [E7] at T0); (try rw [E8] at T0); (try rw [E9] at T0); (try rw [E10] at T0)
    have K := k_qua0 (V := v) (p := x 0) (y := x 1) (d := x 2) (H := x 3) (q := x 4) (b := x 5) (s := x 6) (o := x 7) (a1 := x 8) (a2 := x 9) (a3 := x 10) T0
    refine l_outH rfl (And.intro h.1 ?_)
    have O0 : y_ev x (28, []) = 28 := l_e0 _ _
    have O1 : y_ev x (0, [(4, 1)]) = x 4 := l_e1 _ _
    have O2 : y_ev x (0, [(5, 1)]) = x 5 := l_e1 _ _
    have O3 : y_ev x (0, [(6, 1)]) = x 6 := l_e1 _ _
    have O4 : y_ev x (0, [(7, 1)]) = x 7 := l_e1 _ _
    have O5 : y_ev x (0, [(8, 1)]) = x 8 := l_e1 _ _
    have O6 : y_ev x (0, [(9, 1)]) = x 9 := l_e1 _ _
    have O7 : y_ev x (0, [(10, 1)]) = x 10 := l_e1 _ _
    have O8 : y_ev x (1, []) = 1 := l_e0 _ _
    have O9 : y_ev x ((-2), []) = (-2) := l_e0 _ _
    show (True) ∧ (q_qry v (y_ev x (28, [])) (y_ev x (0, [(4, 1)])) (y_ev x (0, [(5, 1)])) (y_ev x (0, [(6, 1)])) (y_ev x (0, [(7, 1)])) (y_ev x (0, [(8, 1)])) (y_ev x (0, [(9, 1)])) (y_ev x (0, [(10, 1)])) (y_ev x (1, [])) (y_ev x ((-2), [])) (y_ev x ((-2), [])) ∧ True)
    (try rw [O0]); (try rw [O1]); (try rw [O2]); (try rw [O3]); (try rw [O4]); (try rw [O5]); (try rw [O6]); (try rw [O7]); (try rw [O8]); (try rw [O9])
    exact K
def lm_1059pg_0 (t : List zTg) : List zTg := (235, [(0, [(4, 1)]), (0, [(5, 1)]), (0, [(6, 1)]), (0, [(7, 1)]), (0, [(8, 1)]), (0, [(9, 1)]), (0, [(10, 1)]), (0, [(11, 1)]), (0, [(12, 1)]), (0, [(13, 1)]), (0, [(14, 1)])]) :: (238, [(28, []), (0, [(8, 1)]), (0, [(9, 1)]), (0, [(10, 1)]), (0, [(11, 1)]), (0, [(12, 1)]), (0, [(13, 1)]), (0, [(14, 1)]), (0, [(0, 1)]), (0, [(2, 1)]), (0, [(3, 1)])]) :: (238, [(17, []), (0, [(8, 1)]), (0, [(9, 1)]), (0, [(10, 1)]), (0, [(11, 1)]), (0, [(12, 1)]), (0, [(13, 1)]), (0, [(14, 1)]), (0, [(0, 1)]), (0, []), (0, [(1, 1)])]) :: t
def lm_1059p : zS := ((lm_624pi_0 (lm_624pi_1 [])), [], [((-1), [(0, 1)]), ((-1), [(0, (-1)), (5, 1)]), ((-1), [(2, (-1))])], [], [(0, 0, 0, [(0, 1)]), (0, 0, 0, [(1, 1)])], [], (lm_1059pg_0 []))
def lm_1059 : zLem := (lm_1059p, [([((-2147483648), 2147483647), ((-2147483648), 2147483647), ((-2147483648), 2147483647), ((-2147483648), 2147483647), ((-2147483648), 2147483647), ((-2147483648), 2147483647), ((-2147483648), 2147483647), ((-2147483648), 2147483647), ((-2147483648), 2147483647), ((-2147483648), 2147483647), ((-2147483648), 2147483647), ((-2147483648), 2147483647), ((-2147483648), 2147483647), ((-2147483648), 2147483647), ((-2147483648), 2147483647)], [], [], [], [], [], [(238, [(28, []), (0, [(8, 1)]), (0, [(9, 1)]), (0, [(10, 1)]), (0, [(11, 1)]), (0, [(12, 1)]), (0, [(13, 1)]), (0, [(14, 1)]), (1, [(0, 1)]), (0, [(0, 1)]), (0, [(1, 1)])])])])
theorem lk_1059 : l_core lm_1059 := by
  first
  | skip
    intro v x h
    have K := k_quaT1 (V := v) (i := x 0) (u := x 1) (bb := x 2) (l := x 3) (H := x 4) (p := x 5) (y := x 6) (d := x 7) (q := x 8) (b := x 9) (s := x 10) (o := x 11) (a1 := x 12) (a2 := x 13) (a3 := x 14) (l_c11 (fun w0 w1 w2 w3 w4 w5 w6 w7 w8 w9 w10 : Int => q_sto v 0 w0 w1 w2 w3 w4 w5 w6 w7 w8 w9 w10) (l_e1 x 4) (l_e1 x 5) (l_e1 x 6) (l_e1 x 7) (l_e1 x 8) (l_e1 x 9) (l_e1 x 10) (l_e1 x 11) (l_e1 x 12) (l_e1 x 13) (l_e1 x 14) (h.2.2.2.1)) (l_c11 (fun w0 w1 w2 w3 w4 w5 w6 w7 w8 w9 w10 : Int => q_qry v w0 w1 w2 w3 w4 w5 w6 w7 w8 w9 w10) (l_e0 x (28)) (l_e1 x 8) (l_e1 x 9) (l_e1 x 10) (l_e1 x 11) (l_e1 x 12) (l_e1 x 13) (l_e1 x 14) (l_e1 x 0) (l_e1 x 2) (l_e1 x 3) (h.2.2.2.2.1)) (l_c11 (fun w0 w1 w2 w3 w4 w5 w6 w7 w8 w9 w10 : Int => q_qry v w0 w1 w2 w3 w4 w5 w6 w7 w8 w9 w10) (l_e0 x (17)) (l_e1 x 8) (l_e1 x 9) (l_e1 x 10) (l_e1 x 11) (l_e1 x 12) (l_e1 x 13) (l_e1 x 14) (l_e1 x 0) (l_e0 x (0)) (l_e1 x 1) (h.2.2.2.2.2.1)) (l_cc (l_q2 1 x 0) (h.2.1.1)) (l_cc (l_q6 1 x 0 5) (h.2.1.2.1)) (l_cc (l_q11 1 x 2) (h.2.1.2.2.1))
    refine l_outH rfl (And.intro h.1 ?_)
    exact l_o11 (fun w0 w1 w2 w3 w4 w5 w6 w7 w8 w9 w10 : Int => (True) ∧ (q_qry v w0 w1 w2 w3 w4 w5 w6 w7 w8 w9 w10 ∧ True)) (l_e0 x (28)) (l_e1 x 8) (l_e1 x 9) (l_e1 x 10) (l_e1 x 11) (l_e1 x 12) (l_e1 x 13) (l_e1 x 14) (l_q3 1 x 0) (l_e1 x 0) (l_e1 x 1) K
  | skip
    intro v x h
    have C0 : (0 : Int) ≤ x 0 - 1 := l_cc (a := y_ev x ((-1), [(0, 1)])) (by show ((-1) : Int) + ((1) * x 0 + 0) = x 0 - 1; omega) (h.2.1.1)
    have C1 : (0 : Int) ≤ x 5 - x 0 - 1 := l_cc (a := y_ev x ((-1), [(0, (-1)), (5, 1)])) (by show ((-1) : Int) + ((-1) * x 0 + ((1) * x 5 + 0)) = x 5 - x 0 - 1; omega) (h.2.1.2.1)
    have C2 : (0 : Int) ≤ -x 2 - 1 := l_cc (a := y_ev x ((-1), [(2, (-1))])) (by show ((-1) : Int) + ((-1) * x 2 + 0) = -x 2 - 1; omega) (h.2.1.2.2.1)
    have E0 : y_ev x (0, [(4, 1)]) = x 4 := (l_e1 _ _)
    have E1 : y_ev x (0, [(5, 1)]) = x 5 := (l_e1 _ _)
    have E2 : y_ev x (0, [(6, 1)]) = x 6 := (l_e1 _ _)
    have E3 : y_ev x (0, [(7, 1)]) = x 7 := (l_e1 _ _)
    have E4 : y_ev x (0, [(8, 1)]) = x 8 := (l_e1 _ _)
    have E5 : y_ev x (0, [(9, 1)]) = x 9 := (l_e1 _ _)
    have E6 : y_ev x (0, [(10, 1)]) = x 10 := (l_e1 _ _)
    have E7 : y_ev x (0, [(11, 1)]) = x 11 := (l_e1 _ _)
    have E8 : y_ev x (0, [(12, 1)]) = x 12 := (l_e1 _ _)
    have E9 : y_ev x (0, [(13, 1)]) = x 13 := (l_e1 _ _)
    have E10 : y_ev x (0, [(14, 1)]) = x 14 := (l_e1 _ _)
    have E11 : y_ev x (28, []) = 28 := (l_e0 _ _)
    have E12 : y_ev x (0, [(0, 1)]) = x 0 := (l_e1 _ _)
    have E13 : y_ev x (0, [(2, 1)]) = x 2 := (l_e1 _ _)
    have E14 : y_ev x (0, [(3, 1)]) = x 3 := (l_e1 _ _)
    have E15 : y_ev x (17, []) = 17 := (l_e0 _ _)
    have E16 : y_ev x (0, []) = 0 := (l_e0 _ _)
    have E17 : y_ev x (0, [(1, 1)]) = x 1 := (l_e1 _ _)
    have T0 : q_sto v 0 (y_ev x (0, [(4, 1)])) (y_ev x (0, [(5, 1)])) (y_ev x (0, [(6, 1)])) (y_ev x (0, [(7, 1)])) (y_ev x (0, [(8, 1)])) (y_ev x (0, [(9, 1)])) (y_ev x (0, [(10, 1)])) (y_ev x (0, [(11, 1)])) (y_ev x (0, [(12, 1)])) (y_ev x (0, [(13, 1)])) (y_ev x (0, [(14, 1)])) := h.2.2.2.1
    (try rw [E0] at T0); (try rw [E1] at T0); (try rw [E2] at T0); (try rw [E3] at T0); (try rw [E4] at T0); (try rw [E5] at T0); (try rw [E6] at T0); (try rw [E7] at T0); (try rw [E8] at T0); (try rw [E9] at T0); (try rw [E10] at T0)
    have T1 : q_qry v (y_ev x (28, [])) (y_ev x (0, [(8, 1)])) (y_ev x (0, [(9, 1)])) (y_ev x (0, [(10, 1)])) (y_ev x (0, [(11, 1)])) (y_ev x (0, [(12, 1)])) (y_ev x (0, [(13, 1)])) (y_ev x (0, [(14, 1)])) (y_ev x (0, [(0, 1)])) (y_ev x (0, [(2, 1)])) (y_ev x (0, [(3, 1)])) := h.2.2.2.2.1
    (try rw [E11] at T1); (try rw [E4] at T1); (try rw [E5] at T1); (try rw [E6] at T1); (try rw [E7] at T1); (try rw [E8] at T1); (try rw [E9] at T1); (try rw [E10] at T1); (try rw [E12] at T1); (try rw [E13] at T1); (try rw [E14] at T1)
    have T2 : q_qry v (y_ev x (17, [])) (y_ev x (0, [(8, 1)])) (y_ev x (0, [(9, 1)])) (y_ev x (0, [(10, 1)])) (y_ev x (0, [(11, 1)])) (y_ev x (0, [(12, 1)])) (y_ev x (0, [(13, 1)])) (y_ev x (0, [(14, 1)])) (y_ev x (0, [(0, 1)])) (y_ev x (0, [])) (y_ev x (0, [(1, 1)])) := h.2.2.2.2.2.1
    (try rw [E15] at T2); (try rw [E4] at T2); (try rw [E5] at T2); (try rw [E6] at T2); (try rw [E7] at T2); (try rw [E8] at T2); (try rw [E9] at T2); (try rw [E10] at T2); (try rw [E12] at T2); (try rw [E16] at T2); (try rw [E17] at T2)
    have K := k_quaT1 (V := v) (i := x 0) (u := x 1) (bb := x 2) (l := x 3) (H := x 4) (p := x 5) (y := x 6) (d := x 7) (q := x 8) (b := x 9) (s := x 10) (o := x 11) (a1 := x 12) (a2 := x 13) (a3 := x 14) T0 T1 T2 C0 C1 C2
    refine l_outH rfl (And.intro h.1 ?_)
    have O0 : y_ev x (28, []) = 28 := l_e0 _ _
    have O1 : y_ev x (0, [(8, 1)]) = x 8 := l_e1 _ _
    have O2 : y_ev x (0, [(9, 1)]) = x 9 := l_e1 _ _
    have O3 : y_ev x (0, [(10, 1)]) = x 10 := l_e1 _ _
    have O4 : y_ev x (0, [(11, 1)]) = x 11 := l_e1 _ _
    have O5 : y_ev x (0, [(12, 1)]) = x 12 := l_e1 _ _
    have O6 : y_ev x (0, [(13, 1)]) = x 13 := l_e1 _ _
    have O7 : y_ev x (0, [(14, 1)]) = x 14 := l_e1 _ _
    have O8 : y_ev x (1, [(0, 1)]) = x 0 + 1 := by show ((1) : Int) + ((1) * x 0 + 0) = _; omega
    have O9 : y_ev x (0, [(0, 1)]) = x 0 := l_e1 _ _
    have O10 : y_ev x (0, [(1, 1)]) = x 1 := l_e1 _ _
    show (True) ∧ (q_qry v (y_ev x (28, [])) (y_ev x (0, [(8, 1)])) (y_ev x (0, [(9, 1)])) (y_ev x (0, [(10, 1)])) (y_ev x (0, [(11, 1)])) (y_ev x (0, [(12, 1)])) (y_ev x (0, [(13, 1)])) (y_ev x (0, [(14, 1)])) (y_ev x (1, [(0, 1)])) (y_ev x (0, [(0, 1)])) (y_ev x (0, [(1, 1)])) ∧ True)
    (try rw [O0]); (try rw [O1]); (try rw [O2]); (try rw [O3]); (try rw [O4]); (try rw [O5]); (try rw [O6]); (try rw [O7]); (try rw [O8]); (try rw [O9]); (try rw [O10])
    exact K
def lm_1060pg_0 (t : List zTg) : List zTg := (237, [(0, [(5, 1)]), (0, [(6, 1)]), (0, [(7, 1)]), (0, [(8, 1)]), (0, [(9, 1)]), (0, [(10, 1)]), (0, [(11, 1)]), (0, [(12, 1)])]) :: (238, [(28, []), (0, [(6, 1)]), (0, [(7, 1)]), (0, [(8, 1)]), (0, [(9, 1)]), (0, [(10, 1)]), (0, [(11, 1)]), (0, [(12, 1)]), (0, [(0, 1)]), (0, [(2, 1)]), (0, [(3, 1)])]) :: (238, [(17, []), (0, [(6, 1)]), (0, [(7, 1)]), (0, [(8, 1)]), (0, [(9, 1)]), (0, [(10, 1)]), (0, [(11, 1)]), (0, [(12, 1)]), (0, [(0, 1)]), (0, []), (0, [(1, 1)])]) :: t
def lm_1060p : zS := ((lm_650pi_0 (lm_650pi_1 [])), [(78, false)], [((-1), [(0, 1)]), ((-1), [(0, (-1)), (4, 1)]), ((-1), [(2, (-1))])], [], [(0, 0, 0, [(0, 1)]), (0, 0, 0, [(1, 1)])], [(0, (true, 0, 24, []), 0, 0, 0, [(4, 1)])], (lm_1060pg_0 []))
def lm_1060 : zLem := (lm_1060p, [([((-2147483648), 2147483647), ((-2147483648), 2147483647), ((-2147483648), 2147483647), ((-2147483648), 2147483647), ((-2147483648), 2147483647), ((-2147483648), 2147483647), ((-2147483648), 2147483647), ((-2147483648), 2147483647), ((-2147483648), 2147483647), ((-2147483648), 2147483647), ((-2147483648), 2147483647), ((-2147483648), 2147483647), ((-2147483648), 2147483647)], [(78, false)], [], [], [], [], [(238, [(28, []), (0, [(6, 1)]), (0, [(7, 1)]), (0, [(8, 1)]), (0, [(9, 1)]), (0, [(10, 1)]), (0, [(11, 1)]), (0, [(12, 1)]), (1, [(0, 1)]), (0, [(0, 1)]), (0, [(1, 1)])])])])
theorem lk_1060 : l_core lm_1060 := by
  first
  | skip
    intro v x h
    have G0 := h.2.2.1
    have K := k_mquT1 (V := v) (i := x 0) (u := x 1) (bb := x 2) (l := x 3) (p := x 4) (H := x 5) (q := x 6) (b := x 7) (s := x 8) (o := x 9) (a1 := x 10) (a2 := x 11) (a3 := x 12) (l_c8 (fun w0 w1 w2 w3 w4 w5 w6 w7 : Int => q_rwo v w0 w1 w2 w3 w4 w5 w6 w7) (l_e1 x 5) (l_e1 x 6) (l_e1 x 7) (l_e1 x 8) (l_e1 x 9) (l_e1 x 10) (l_e1 x 11) (l_e1 x 12) (h.2.2.2.1)) (l_c11 (fun w0 w1 w2 w3 w4 w5 w6 w7 w8 w9 w10 : Int => q_qry v w0 w1 w2 w3 w4 w5 w6 w7 w8 w9 w10) (l_e0 x (28)) (l_e1 x 6) (l_e1 x 7) (l_e1 x 8) (l_e1 x 9) (l_e1 x 10) (l_e1 x 11) (l_e1 x 12) (l_e1 x 0) (l_e1 x 2) (l_e1 x 3) (h.2.2.2.2.1)) (l_c11 (fun w0 w1 w2 w3 w4 w5 w6 w7 w8 w9 w10 : Int => q_qry v w0 w1 w2 w3 w4 w5 w6 w7 w8 w9 w10) (l_e0 x (17)) (l_e1 x 6) (l_e1 x 7) (l_e1 x 8) (l_e1 x 9) (l_e1 x 10) (l_e1 x 11) (l_e1 x 12) (l_e1 x 0) (l_e0 x (0)) (l_e1 x 1) (h.2.2.2.2.2.1)) (l_cc (l_q2 1 x 0) (h.2.1.1)) (l_cc (l_q6 1 x 0 4) (h.2.1.2.1)) (l_cc (l_q11 1 x 2) (h.2.1.2.2.1)) (l_ff (f := v 78) (L := j_len 78) (l_e0 x (24)) (l_e1 x 4) (G0.1.1))
    refine l_outH rfl (And.intro h.1 ?_)
    exact l_o11 (fun w0 w1 w2 w3 w4 w5 w6 w7 w8 w9 w10 : Int => (True) ∧ (q_qry v w0 w1 w2 w3 w4 w5 w6 w7 w8 w9 w10 ∧ True)) (l_e0 x (28)) (l_e1 x 6) (l_e1 x 7) (l_e1 x 8) (l_e1 x 9) (l_e1 x 10) (l_e1 x 11) (l_e1 x 12) (l_q3 1 x 0) (l_e1 x 0) (l_e1 x 1) K
  | skip
    intro v x h
    have G0 := h.2.2.1
    have C0 : (0 : Int) ≤ x 0 - 1 := l_cc (a := y_ev x ((-1), [(0, 1)])) (by show ((-1) : Int) + ((1) * x 0 + 0) = x 0 - 1; omega) (h.2.1.1)
    have C1 : (0 : Int) ≤ x 4 - x 0 - 1 := l_cc (a := y_ev x ((-1), [(0, (-1)), (4, 1)])) (by show ((-1) : Int) + ((-1) * x 0 + ((1) * x 4 + 0)) = x 4 - x 0 - 1; omega) (h.2.1.2.1)
    have C2 : (0 : Int) ≤ -x 2 - 1 := l_cc (a := y_ev x ((-1), [(2, (-1))])) (by show ((-1) : Int) + ((-1) * x 2 + 0) = -x 2 - 1; omega) (h.2.1.2.2.1)
    have F0 : (0 : Int) ≤ 24 ∧ (24 : Int) < j_len 78 ∧ v 78 (24) = x 4 := l_ff (f := v 78) (L := j_len 78) (a := y_ev x (24, [])) (b := y_ev x (0, [(4, 1)])) (l_e0 _ _) (l_e1 _ _) (G0.1.1)
    have E0 : y_ev x (0, [(5, 1)]) = x 5 := (l_e1 _ _)
    have E1 : y_ev x (0, [(6, 1)]) = x 6 := (l_e1 _ _)
    have E2 : y_ev x (0, [(7, 1)]) = x 7 := (l_e1 _ _)
    have E3 : y_ev x (0, [(8, 1)]) = x 8 := (l_e1 _ _)
    have E4 : y_ev x (0, [(9, 1)]) = x 9 := (l_e1 _ _)
    have E5 : y_ev x (0, [(10, 1)]) = x 10 := (l_e1 _ _)
    have E6 : y_ev x (0, [(11, 1)]) = x 11 := (l_e1 _ _)
    have E7 : y_ev x (0, [(12, 1)]) = x 12 := (l_e1 _ _)
    have E8 : y_ev x (28, []) = 28 := (l_e0 _ _)
    have E9 : y_ev x (0, [(0, 1)]) = x 0 := (l_e1 _ _)
    have E10 : y_ev x (0, [(2, 1)]) = x 2 := (l_e1 _ _)
    have E11 : y_ev x (0, [(3, 1)]) = x 3 := (l_e1 _ _)
    have E12 : y_ev x (17, []) = 17 := (l_e0 _ _)
    have E13 : y_ev x (0, []) = 0 := (l_e0 _ _)
    have E14 : y_ev x (0, [(1, 1)]) = x 1 := (l_e1 _ _)
    have T0 : q_rwo v (y_ev x (0, [(5, 1)])) (y_ev x (0, [(6, 1)])) (y_ev x (0, [(7, 1)])) (y_ev x (0, [(8, 1)])) (y_ev x (0, [(9, 1)])) (y_ev x (0, [(10, 1)])) (y_ev x (0, [(11, 1)])) (y_ev x (0, [(12, 1)])) := h.2.2.2.1
    (try rw [E0] at T0); (try rw [E1] at T0); (try rw [E2] at T0); (try rw [E3] at T0); (try rw [E4] at T0); (try rw [E5] at T0); (try rw [E6] at T0); (try rw [E7] at T0)
    have T1 : q_qry v (y_ev x (28, [])) (y_ev x (0, [(6, 1)])) (y_ev x (0, [(7, 1)])) (y_ev x (0, [(8, 1)])) (y_ev x (0, [(9, 1)])) (y_ev x (0, [(10, 1)])) (y_ev x (0, [(11, 1)])) (y_ev x (0, [(12, 1)])) (y_ev x (0, [(0, 1)])) (y_ev x (0, [(2, 1)])) (y_ev x (0, [(3, 1)])) := h.2.2.2.2.1
    (try rw [E8] at T1); (try rw [E1] at T1); (try rw [E2] at T1); (try rw [E3] at T1); (try rw [E4] at T1); (try rw [E5] at T1); (try rw [E6] at T1); (try rw [E7] at T1); (try rw [E9] at T1); (try rw [E10] at T1); (try rw [E11] at T1)
    have T2 : q_qry v (y_ev x (17, [])) (y_ev x (0, [(6, 1)])) (y_ev x (0, [(7, 1)])) (y_ev x (0, [(8, 1)])) (y_ev x (0, [(9, 1)])) (y_ev x (0, [(10, 1)])) (y_ev x (0, [(11, 1)])) (y_ev x (0, [(12, 1)])) (y_ev x (0, [(0, 1)])) (y_ev x (0, [])) (y_ev x (0, [(1, 1)])) := h.2.2.2.2.2.1
    (try rw [E12] at T2); (try rw [E1] at T2); (try rw [E2] at T2); (try rw [E3] at T2); (try rw [E4] at T2); (try rw [E5] at T2); (try rw [E6] at T2); (try rw [E7] at T2); (try rw [E9] at T2); (try rw [E13] at T2); (try rw [E14] at T2)
    have K := k_mquT1 (V := v) (i := x 0) (u := x 1) (bb := x 2) (l := x 3) (p := x 4) (H := x 5) (q := x 6) (b := x 7) (s := x 8) (o := x 9) (a1 := x 10) (a2 := x 11) (a3 := x 12) T0 T1 T2 C0 C1 C2 F0
    refine l_outH rfl (And.intro h.1 ?_)
    have O0 : y_ev x (28, []) = 28 := l_e0 _ _
    have O1 : y_ev x (0, [(6, 1)]) = x 6 := l_e1 _ _
    have O2 : y_ev x (0, [(7, 1)]) = x 7 := l_e1 _ _
    have O3 : y_ev x (0, [(8, 1)]) = x 8 := l_e1 _ _
    have O4 : y_ev x (0, [(9, 1)]) = x 9 := l_e1 _ _
    have O5 : y_ev x (0, [(10, 1)]) = x 10 := l_e1 _ _
    have O6 : y_ev x (0, [(11, 1)]) = x 11 := l_e1 _ _
    have O7 : y_ev x (0, [(12, 1)]) = x 12 := l_e1 _ _
    have O8 : y_ev x (1, [(0, 1)]) = x 0 + 1 := by show ((1) : Int) + ((1) * x 0 + 0) = _; omega
    have O9 : y_ev x (0, [(0, 1)]) = x 0 := l_e1 _ _
    have O10 : y_ev x (0, [(1, 1)]) = x 1 := l_e1 _ _
    show (True) ∧ (q_qry v (y_ev x (28, [])) (y_ev x (0, [(6, 1)])) (y_ev x (0, [(7, 1)])) (y_ev x (0, [(8, 1)])) (y_ev x (0, [(9, 1)])) (y_ev x (0, [(10, 1)])) (y_ev x (0, [(11, 1)])) (y_ev x (0, [(12, 1)])) (y_ev x (1, [(0, 1)])) (y_ev x (0, [(0, 1)])) (y_ev x (0, [(1, 1)])) ∧ True)
    (try rw [O0]); (try rw [O1]); (try rw [O2]); (try rw [O3]); (try rw [O4]); (try rw [O5]); (try rw [O6]); (try rw [O7]); (try rw [O8]); (try rw [O9]); (try rw [O10])
    exact K
def lm_1061p : zS := ((lm_624pi_0 (lm_624pi_1 [])), [], [((-1), [(0, 1)]), ((-1), [(0, (-1)), (5, 1)]), (0, [(2, 1)]), ((-1), [(1, (-1)), (3, 1)])], [], [(0, 0, 0, [(0, 1)]), (0, 0, 0, [(1, 1)])], [], (lm_1059pg_0 []))
def lm_1061 : zLem := (lm_1061p, [([((-2147483648), 2147483647), ((-2147483648), 2147483647), ((-2147483648), 2147483647), ((-2147483648), 2147483647), ((-2147483648), 2147483647), ((-2147483648), 2147483647), ((-2147483648), 2147483647), ((-2147483648), 2147483647), ((-2147483648), 2147483647), ((-2147483648), 2147483647), ((-2147483648), 2147483647), ((-2147483648), 2147483647), ((-2147483648), 2147483647), ((-2147483648), 2147483647), ((-2147483648), 2147483647)], [], [], [], [], [], [(238, [(28, []), (0, [(8, 1)]), (0, [(9, 1)]), (0, [(10, 1)]), (0, [(11, 1)]), (0, [(12, 1)]), (0, [(13, 1)]), (0, [(14, 1)]), (1, [(0, 1)]), (0, [(0, 1)]), (0, [(1, 1)])])])])
theorem lk_1061 : l_core lm_1061 := by
  first
  | skip
    intro v x h
    have K := k_quaT2 (V := v) (i := x 0) (u := x 1) (bb := x 2) (l := x 3) (H := x 4) (p := x 5) (y := x 6) (d := x 7) (q := x 8) (b := x 9) (s := x 10) (o := x 11) (a1 := x 12) (a2 := x 13) (a3 := x 14) (l_c11 (fun w0 w1 w2 w3 w4 w5 w6 w7 w8 w9 w10 : Int => q_sto v 0 w0 w1 w2 w3 w4 w5 w6 w7 w8 w9 w10) (l_e1 x 4) (l_e1 x 5) (l_e1 x 6) (l_e1 x 7) (l_e1 x 8) (l_e1 x 9) (l_e1 x 10) (l_e1 x 11) (l_e1 x 12) (l_e1 x 13) (l_e1 x 14) (h.2.2.2.1)) (l_c11 (fun w0 w1 w2 w3 w4 w5 w6 w7 w8 w9 w10 : Int => q_qry v w0 w1 w2 w3 w4 w5 w6 w7 w8 w9 w10) (l_e0 x (28)) (l_e1 x 8) (l_e1 x 9) (l_e1 x 10) (l_e1 x 11) (l_e1 x 12) (l_e1 x 13) (l_e1 x 14) (l_e1 x 0) (l_e1 x 2) (l_e1 x 3) (h.2.2.2.2.1)) (l_c11 (fun w0 w1 w2 w3 w4 w5 w6 w7 w8 w9 w10 : Int => q_qry v w0 w1 w2 w3 w4 w5 w6 w7 w8 w9 w10) (l_e0 x (17)) (l_e1 x 8) (l_e1 x 9) (l_e1 x 10) (l_e1 x 11) (l_e1 x 12) (l_e1 x 13) (l_e1 x 14) (l_e1 x 0) (l_e0 x (0)) (l_e1 x 1) (h.2.2.2.2.2.1)) (l_cc (l_q2 1 x 0) (h.2.1.1)) (l_cc (l_q6 1 x 0 5) (h.2.1.2.1)) (l_cc (l_e1 x 2) (h.2.1.2.2.1)) (l_cc (l_q6 1 x 1 3) (h.2.1.2.2.2.1))
    refine l_outH rfl (And.intro h.1 ?_)
    exact l_o11 (fun w0 w1 w2 w3 w4 w5 w6 w7 w8 w9 w10 : Int => (True) ∧ (q_qry v w0 w1 w2 w3 w4 w5 w6 w7 w8 w9 w10 ∧ True)) (l_e0 x (28)) (l_e1 x 8) (l_e1 x 9) (l_e1 x 10) (l_e1 x 11) (l_e1 x 12) (l_e1 x 13) (l_e1 x 14) (l_q3 1 x 0) (l_e1 x 0) (l_e1 x 1) K
  | skip
    intro v x h
    have C0 : (0 : Int) ≤ x 0 - 1 := l_cc (a := y_ev x ((-1), [(0, 1)])) (by show ((-1) : Int) + ((1) * x 0 + 0) = x 0 - 1; omega) (h.2.1.1)
    have C1 : (0 : Int) ≤ x 5 - x 0 - 1 := l_cc (a := y_ev x ((-1), [(0, (-1)), (5, 1)])) (by show ((-1) : Int) + ((-1) * x 0 + ((1) * x 5 + 0)) = x 5 - x 0 - 1; omega) (h.2.1.2.1)
    have C2 : (0 : Int) ≤ x 2 := l_cc (a := y_ev x (0, [(2, 1)])) (l_e1 _ _) (h.2.1.2.2.1)
    have C3 : (0 : Int) ≤ x 3 - x 1 - 1 := l_cc (a := y_ev x ((-1), [(1, (-1)), (3, 1)])) (by show ((-1) : Int) + ((-1) * x 1 + ((1) * x 3 + 0)) = x 3 - x 1 - 1; omega) (h.2.1.2.2.2.1)
    have E0 : y_ev x (0, [(4, 1)]) = x 4 := (l_e1 _ _)
    have E1 : y_ev x (0, [(5, 1)]) = x 5 := (l_e1 _ _)
    have E2 : y_ev x (0, [(6, 1)]) = x 6 := (l_e1 _ _)
    have E3 : y_ev x (0, [(7, 1)]) = x 7 := (l_e1 _ _)
    have E4 : y_ev x (0, [(8, 1)]) = x 8 := (l_e1 _ _)
    have E5 : y_ev x (0, [(9, 1)]) = x 9 := (l_e1 _ _)
    have E6 : y_ev x (0, [(10, 1)]) = x 10 := (l_e1 _ _)
    have E7 : y_ev x (0, [(11, 1)]) = x 11 := (l_e1 _ _)
    have E8 : y_ev x (0, [(12, 1)]) = x 12 := (l_e1 _ _)
    have E9 : y_ev x (0, [(13, 1)]) = x 13 := (l_e1 _ _)
    have E10 : y_ev x (0, [(14, 1)]) = x 14 := (l_e1 _ _)
    have E11 : y_ev x (28, []) = 28 := (l_e0 _ _)
    have E12 : y_ev x (0, [(0, 1)]) = x 0 := (l_e1 _ _)
    have E13 : y_ev x (0, [(2, 1)]) = x 2 := (l_e1 _ _)
    have E14 : y_ev x (0, [(3, 1)]) = x 3 := (l_e1 _ _)
    have E15 : y_ev x (17, []) = 17 := (l_e0 _ _)
    have E16 : y_ev x (0, []) = 0 := (l_e0 _ _)
    have E17 : y_ev x (0, [(1, 1)]) = x 1 := (l_e1 _ _)
    have T0 : q_sto v 0 (y_ev x (0, [(4, 1)])) (y_ev x (0, [(5, 1)])) (y_ev x (0, [(6, 1)])) (y_ev x (0, [(7, 1)])) (y_ev x (0, [(8, 1)])) (y_ev x (0, [(9, 1)])) (y_ev x (0, [(10, 1)])) (y_ev x (0, [(11, 1)])) (y_ev x (0, [(12, 1)])) (y_ev x (0, [(13, 1)])) (y_ev x (0, [(14, 1)])) := h.2.2.2.1
    (try rw [E0] at T0); (try rw [E1] at T0); (try rw [E2] at T0); (try rw [E3] at T0); (try rw [E4] at T0); (try rw [E5] at T0); (try rw [E6] at T0); (try rw [E7] at T0); (try rw [E8] at T0); (try rw [E9] at T0); (try rw [E10] at T0)
    have T1 : q_qry v (y_ev x (28, [])) (y_ev x (0, [(8, 1)])) (y_ev x (0, [(9, 1)])) (y_ev x (0, [(10, 1)])) (y_ev x (0, [(11, 1)])) (y_ev x (0, [(12, 1)])) (y_ev x (0, [(13, 1)])) (y_ev x (0, [(14, 1)])) (y_ev x (0, [(0, 1)])) (y_ev x (0, [(2, 1)])) (y_ev x (0, [(3, 1)])) := h.2.2.2.2.1
    (try rw [E11] at T1); (try rw [E4] at T1); (try rw [E5] at T1); (try rw [E6] at T1); (try rw [E7] at T1); (try rw [E8] at T1); (try rw [E9] at T1); (try rw [E10] at T1); (try rw [E12] at T1); (try rw [E13] at T1); (try rw [E14] at T1)
    have T2 : q_qry v (y_ev x (17, [])) (y_ev x (0, [(8, 1)])) (y_ev x (0, [(9, 1)])) (y_ev x (0, [(10, 1)])) (y_ev x (0, [(11, 1)])) (y_ev x (0, [(12, 1)])) (y_ev x (0, [(13, 1)])) (y_ev x (0, [(14, 1)])) (y_ev x (0, [(0, 1)])) (y_ev x (0, [])) (y_ev x (0, [(1, 1)])) := h.2.2.2.2.2.1
    (try rw [E15] at T2); (try rw [E4] at T2); (try rw [E5] at T2); (try rw [E6] at T2); (try rw [E7] at T2); (try rw [E8] at T2); (try rw [E9] at T2); (try rw [E10] at T2); (try rw [E12] at T2); (try rw [E16] at T2); (try rw [E17] at T2)
    have K := k_quaT2 (V := v) (i := x 0) (u := x 1) (bb := x 2) (l := x 3) (H := x 4) (p := x 5) (y := x 6) (d := x 7) (q := x 8) (b := x 9) (s := x 10) (o := x 11) (a1 := x 12) (a2 := x 13) (a3 := x 14) T0 T1 T2 C0 C1 C2 C3
    refine l_outH rfl (And.intro h.1 ?_)
    have O0 : y_ev x (28, []) = 28 := l_e0 _ _
    have O1 : y_ev x (0, [(8, 1)]) = x 8 := l_e1 _ _
    have O2 : y_ev x (0, [(9, 1)]) = x 9 := l_e1 _ _
    have O3 : y_ev x (0, [(10, 1)]) = x 10 := l_e1 _ _
    have O4 : y_ev x (0, [(11, 1)]) = x 11 := l_e1 _ _
    have O5 : y_ev x (0, [(12, 1)]) = x 12 := l_e1 _ _
    have O6 : y_ev x (0, [(13, 1)]) = x 13 := l_e1 _ _
    have O7 : y_ev x (0, [(14, 1)]) = x 14 := l_e1 _ _
    have O8 : y_ev x (1, [(0, 1)]) = x 0 + 1 := by show ((1) : Int) + ((1) * x 0 + 0) = _; omega
    have O9 : y_ev x (0, [(0, 1)]) = x 0 := l_e1 _ _
    have O10 : y_ev x (0, [(1, 1)]) = x 1 := l_e1 _ _
    show (True) ∧ (q_qry v (y_ev x (28, [])) (y_ev x (0, [(8, 1)])) (y_ev x (0, [(9, 1)])) (y_ev x (0, [(10, 1)])) (y_ev x (0, [(11, 1)])) (y_ev x (0, [(12, 1)])) (y_ev x (0, [(13, 1)])) (y_ev x (0, [(14, 1)])) (y_ev x (1, [(0, 1)])) (y_ev x (0, [(0, 1)])) (y_ev x (0, [(1, 1)])) ∧ True)
    (try rw [O0]); (try rw [O1]); (try rw [O2]); (try rw [O3]); (try rw [O4]); (try rw [O5]); (try rw [O6]); (try rw [O7]); (try rw [O8]); (try rw [O9]); (try rw [O10])
    exact K
def lm_1062p : zS := ((lm_650pi_0 (lm_650pi_1 [])), [(78, false)], [((-1), [(0, 1)]), ((-1), [(0, (-1)), (4, 1)]), (0, [(2, 1)]), ((-1), [(1, (-1)), (3, 1)])], [], [(0, 0, 0, [(0, 1)]), (0, 0, 0, [(1, 1)])], [(0, (true, 0, 24, []), 0, 0, 0, [(4, 1)])], (lm_1060pg_0 []))
def lm_1062 : zLem := (lm_1062p, [([((-2147483648), 2147483647), ((-2147483648), 2147483647), ((-2147483648), 2147483647), ((-2147483648), 2147483647), ((-2147483648), 2147483647), ((-2147483648), 2147483647), ((-2147483648), 2147483647), ((-2147483648), 2147483647), ((-2147483648), 2147483647), ((-2147483648), 2147483647), ((-2147483648), 2147483647), ((-2147483648), 2147483647), ((-2147483648), 2147483647)], [(78, false)], [], [], [], [], [(238, [(28, []), (0, [(6, 1)]), (0, [(7, 1)]), (0, [(8, 1)]), (0, [(9, 1)]), (0, [(10, 1)]), (0, [(11, 1)]), (0, [(12, 1)]), (1, [(0, 1)]), (0, [(0, 1)]), (0, [(1, 1)])])])])
theorem lk_1062 : l_core lm_1062 := by
  first
  | skip
    intro v x h
    have G0 := h.2.2.1
    have K := k_mquT2 (V := v) (i := x 0) (u := x 1) (bb := x 2) (l := x 3) (p := x 4) (H := x 5) (q := x 6) (b := x 7) (s := x 8) (o := x 9) (a1 := x 10) (a2 := x 11) (a3 := x 12) (l_c8 (fun w0 w1 w2 w3 w4 w5 w6 w7 : Int => q_rwo v w0 w1 w2 w3 w4 w5 w6 w7) (l_e1 x 5) (l_e1 x 6) (l_e1 x 7) (l_e1 x 8) (l_e1 x 9) (l_e1 x 10) (l_e1 x 11) (l_e1 x 12) (h.2.2.2.1)) (l_c11 (fun w0 w1 w2 w3 w4 w5 w6 w7 w8 w9 w10 : Int => q_qry v w0 w1 w2 w3 w4 w5 w6 w7 w8 w9 w10) (l_e0 x (28)) (l_e1 x 6) (l_e1 x 7) (l_e1 x 8) (l_e1 x 9) (l_e1 x 10) (l_e1 x 11) (l_e1 x 12) (l_e1 x 0) (l_e1 x 2) (l_e1 x 3) (h.2.2.2.2.1)) (l_c11 (fun w0 w1 w2 w3 w4 w5 w6 w7 w8 w9 w10 : Int => q_qry v w0 w1 w2 w3 w4 w5 w6 w7 w8 w9 w10) (l_e0 x (17)) (l_e1 x 6) (l_e1 x 7) (l_e1 x 8) (l_e1 x 9) (l_e1 x 10) (l_e1 x 11) (l_e1 x 12) (l_e1 x 0) (l_e0 x (0)) (l_e1 x 1) (h.2.2.2.2.2.1)) (l_cc (l_q2 1 x 0) (h.2.1.1)) (l_cc (l_q6 1 x 0 4) (h.2.1.2.1)) (l_cc (l_e1 x 2) (h.2.1.2.2.1)) (l_cc (l_q6 1 x 1 3) (h.2.1.2.2.2.1)) (l_ff (f := v 78) (L := j_len 78) (l_e0 x (24)) (l_e1 x 4) (G0.1.1))
    refine l_outH rfl (And.intro h.1 ?_)
    exact l_o11 (fun w0 w1 w2 w3 w4 w5 w6 w7 w8 w9 w10 : Int => (True) ∧ (q_qry v w0 w1 w2 w3 w4 w5 w6 w7 w8 w9 w10 ∧ True)) (l_e0 x (28)) (l_e1 x 6) (l_e1 x 7) (l_e1 x 8) (l_e1 x 9) (l_e1 x 10) (l_e1 x 11) (l_e1 x 12) (l_q3 1 x 0) (l_e1 x 0) (l_e1 x 1) K
  | skip
    intro v x h
    have G0 := h.2.2.1
    have C0 : (0 : Int) ≤ x 0 - 1 := l_cc (a := y_ev x ((-1), [(0, 1)])) (by show ((-1) : Int) + ((1) * x 0 + 0) = x 0 - 1; omega) (h.2.1.1)
    have C1 : (0 : Int) ≤ x 4 - x 0 - 1 := l_cc (a := y_ev x ((-1), [(0, (-1)), (4, 1)])) (by show ((-1) : Int) + ((-1) * x 0 + ((1) * x 4 + 0)) = x 4 - x 0 - 1; omega) (h.2.1.2.1)
    have C2 : (0 : Int) ≤ x 2 := l_cc (a := y_ev x (0, [(2, 1)])) (l_e1 _ _) (h.2.1.2.2.1)
    have C3 : (0 : Int) ≤ x 3 - x 1 - 1 := l_cc (a := y_ev x ((-1), [(1, (-1)), (3, 1)])) (by show ((-1) : Int) + ((-1) * x 1 + ((1) * x 3 + 0)) = x 3 - x 1 - 1; omega) (h.2.1.2.2.2.1)
    have F0 : (0 : Int) ≤ 24 ∧ (24 : Int) < j_len 78 ∧ v 78 (24) = x 4 := l_ff (f := v 78) (L := j_len 78) (a := y_ev x (24, [])) (b := y_ev x (0, [(4, 1)])) (l_e0 _ _) (l_e1 _ _) (G0.1.1)
    have E0 : y_ev x (0, [(5, 1)]) = x 5 := (l_e1 _ _)
    have E1 : y_ev x (0, [(6, 1)]) = x 6 := (l_e1 _ _)
    have E2 : y_ev x (0, [(7, 1)]) = x 7 := (l_e1 _ _)
    have E3 : y_ev x (0, [(8, 1)]) = x 8 := (l_e1 _ _)
    have E4 : y_ev x (0, [(9, 1)]) = x 9 := (l_e1 _ _)
    have E5 : y_ev x (0, [(10, 1)]) = x 10 := (l_e1 _ _)
    have E6 : y_ev x (0, [(11, 1)]) = x 11 := (l_e1 _ _)
    have E7 : y_ev x (0, [(12, 1)]) = x 12 := (l_e1 _ _)
    have E8 : y_ev x (28, []) = 28 := (l_e0 _ _)
    have E9 : y_ev x (0, [(0, 1)]) = x 0 := (l_e1 _ _)
    have E10 : y_ev x (0, [(2, 1)]) = x 2 := (l_e1 _ _)
    have E11 : y_ev x (0, [(3, 1)]) = x 3 := (l_e1 _ _)
    have E12 : y_ev x (17, []) = 17 := (l_e0 _ _)
    have E13 : y_ev x (0, []) = 0 := (l_e0 _ _)
    have E14 : y_ev x (0, [(1, 1)]) = x 1 := (l_e1 _ _)
    have T0 : q_rwo v (y_ev x (0, [(5, 1)])) (y_ev x (0, [(6, 1)])) (y_ev x (0, [(7, 1)])) (y_ev x (0, [(8, 1)])) (y_ev x (0, [(9, 1)])) (y_ev x (0, [(10, 1)])) (y_ev x (0, [(11, 1)])) (y_ev x (0, [(12, 1)])) := h.2.2.2.1
    (try rw [E0] at T0); (try rw [E1] at T0); (try rw [E2] at T0); (try rw [E3] at T0); (try rw [E4] at T0); (try rw [E5] at T0); (try rw [E6] at T0); (try rw [E7] at T0)
    have T1 : q_qry v (y_ev x (28, [])) (y_ev x (0, [(6, 1)])) (y_ev x (0, [(7, 1)])) (y_ev x (0, [(8, 1)])) (y_ev x (0, [(9, 1)])) (y_ev x (0, [(10, 1)])) (y_ev x (0, [(11, 1)])) (y_ev x (0, [(12, 1)])) (y_ev x (0, [(0, 1)])) (y_ev x (0, [(2, 1)])) (y_ev x (0, [(3, 1)])) := h.2.2.2.2.1
    (try rw [E8] at T1); (try rw [E1] at T1); (try rw [E2] at T1); (try rw [E3] at T1); (try rw [E4] at T1); (try rw [E5] at T1); (try rw [E6] at T1); (try rw [E7] at T1); (try rw [E9] at T1); (try rw [E10] at T1); (try rw [E11] at T1)
    have T2 : q_qry v (y_ev x (17, [])) (y_ev x (0, [(6, 1)])) (y_ev x (0, [(7, 1)])) (y_ev x (0, [(8, 1)])) (y_ev x (0, [(9, 1)])) (y_ev x (0, [(10, 1)])) (y_ev x (0, [(11, 1)])) (y_ev x (0, [(12, 1)])) (y_ev x (0, [(0, 1)])) (y_ev x (0, [])) (y_ev x (0, [(1, 1)])) := h.2.2.2.2.2.1
    (try rw [E12] at T2); (try rw [E1] at T2); (try rw [E2] at T2); (try rw [E3] at T2); (try rw [E4] at T2); (try rw [E5] at T2); (try rw [E6] at T2); (try rw [E7] at T2); (try rw [E9] at T2); (try rw [E13] at T2); (try rw [E14] at T2)
    have K := k_mquT2 (V := v) (i := x 0) (u := x 1) (bb := x 2) (l := x 3) (p := x 4) (H := x 5) (q := x 6) (b := x 7) (s := x 8) (o := x 9) (a1 := x 10) (a2 := x 11) (a3 := x 12) T0 T1 T2 C0 C1 C2 C3 F0
    refine l_outH rfl (And.intro h.1 ?_)
    have O0 : y_ev x (28, []) = 28 := l_e0 _ _
    have O1 : y_ev x (0, [(6, 1)]) = x 6 := l_e1 _ _
    have O2 : y_ev x (0, [(7, 1)]) = x 7 := l_e1 _ _
    have O3 : y_ev x (0, [(8, 1)]) = x 8 := l_e1 _ _
    have O4 : y_ev x (0, [(9, 1)]) = x 9 := l_e1 _ _
    have O5 : y_ev x (0, [(10, 1)]) = x 10 := l_e1 _ _
    have O6 : y_ev x (0, [(11, 1)]) = x 11 := l_e1 _ _
    have O7 : y_ev x (0, [(12, 1)]) = x 12 := l_e1 _ _
    have O8 : y_ev x (1, [(0, 1)]) = x 0 + 1 := by show ((1) : Int) + ((1) * x 0 + 0) = _; omega
    have O9 : y_ev x (0, [(0, 1)]) = x 0 := l_e1 _ _
    have O10 : y_ev x (0, [(1, 1)]) = x 1 := l_e1 _ _
    show (True) ∧ (q_qry v (y_ev x (28, [])) (y_ev x (0, [(6, 1)])) (y_ev x (0, [(7, 1)])) (y_ev x (0, [(8, 1)])) (y_ev x (0, [(9, 1)])) (y_ev x (0, [(10, 1)])) (y_ev x (0, [(11, 1)])) (y_ev x (0, [(12, 1)])) (y_ev x (1, [(0, 1)])) (y_ev x (0, [(0, 1)])) (y_ev x (0, [(1, 1)])) ∧ True)
    (try rw [O0]); (try rw [O1]); (try rw [O2]); (try rw [O3]); (try rw [O4]); (try rw [O5]); (try rw [O6]); (try rw [O7]); (try rw [O8]); (try rw [O9]); (try rw [O10])
    exact K
def lm_1063p : zS := ((lm_624pi_0 (lm_624pi_1 [])), [], [((-1), [(0, 1)]), ((-1), [(0, (-1)), (5, 1)]), (0, [(2, 1)]), (0, [(1, 1), (3, (-1))])], [], [(0, 0, 0, [(0, 1)]), (0, 0, 0, [(2, 1)]), (0, 0, 0, [(3, 1)]), (0, 0, 0, [(1, 1)])], [], (lm_1059pg_0 []))
def lm_1063 : zLem := (lm_1063p, [([((-2147483648), 2147483647), ((-2147483648), 2147483647), ((-2147483648), 2147483647), ((-2147483648), 2147483647), ((-2147483648), 2147483647), ((-2147483648), 2147483647), ((-2147483648), 2147483647), ((-2147483648), 2147483647), ((-2147483648), 2147483647), ((-2147483648), 2147483647), ((-2147483648), 2147483647), ((-2147483648), 2147483647), ((-2147483648), 2147483647), ((-2147483648), 2147483647), ((-2147483648), 2147483647)], [], [], [], [], [], [(238, [(28, []), (0, [(8, 1)]), (0, [(9, 1)]), (0, [(10, 1)]), (0, [(11, 1)]), (0, [(12, 1)]), (0, [(13, 1)]), (0, [(14, 1)]), (1, [(0, 1)]), (0, [(2, 1)]), (0, [(3, 1)])])])])
theorem lk_1063 : l_core lm_1063 := by
  first
  | skip
    intro v x h
    have K := k_quaN (V := v) (i := x 0) (u := x 1) (bb := x 2) (l := x 3) (H := x 4) (p := x 5) (y := x 6) (d := x 7) (q := x 8) (b := x 9) (s := x 10) (o := x 11) (a1 := x 12) (a2 := x 13) (a3 := x 14) (l_c11 (fun w0 w1 w2 w3 w4 w5 w6 w7 w8 w9 w10 : Int => q_sto v 0 w0 w1 w2 w3 w4 w5 w6 w7 w8 w9 w10) (l_e1 x 4) (l_e1 x 5) (l_e1 x 6) (l_e1 x 7) (l_e1 x 8) (l_e1 x 9) (l_e1 x 10) (l_e1 x 11) (l_e1 x 12) (l_e1 x 13) (l_e1 x 14) (h.2.2.2.1)) (l_c11 (fun w0 w1 w2 w3 w4 w5 w6 w7 w8 w9 w10 : Int => q_qry v w0 w1 w2 w3 w4 w5 w6 w7 w8 w9 w10) (l_e0 x (28)) (l_e1 x 8) (l_e1 x 9) (l_e1 x 10) (l_e1 x 11) (l_e1 x 12) (l_e1 x 13) (l_e1 x 14) (l_e1 x 0) (l_e1 x 2) (l_e1 x 3) (h.2.2.2.2.1)) (l_c11 (fun w0 w1 w2 w3 w4 w5 w6 w7 w8 w9 w10 : Int => q_qry v w0 w1 w2 w3 w4 w5 w6 w7 w8 w9 w10) (l_e0 x (17)) (l_e1 x 8) (l_e1 x 9) (l_e1 x 10) (l_e1 x 11) (l_e1 x 12) (l_e1 x 13) (l_e1 x 14) (l_e1 x 0) (l_e0 x (0)) (l_e1 x 1) (h.2.2.2.2.2.1)) (l_cc (l_q2 1 x 0) (h.2.1.1)) (l_cc (l_q6 1 x 0 5) (h.2.1.2.1)) (l_cc (l_e1 x 2) (h.2.1.2.2.1)) (l_cc (l_q5 x 1 3) (h.2.1.2.2.2.1))
    refine l_outH rfl (And.intro h.1 ?_)
    exact l_o11 (fun w0 w1 w2 w3 w4 w5 w6 w7 w8 w9 w10 : Int => (True) ∧ (q_qry v w0 w1 w2 w3 w4 w5 w6 w7 w8 w9 w10 ∧ True)) (l_e0 x (28)) (l_e1 x 8) (l_e1 x 9) (l_e1 x 10) (l_e1 x 11) (l_e1 x 12) (l_e1 x 13) (l_e1 x 14) (l_q3 1 x 0) (l_e1 x 2) (l_e1 x 3) K
  | skip
    intro v x h
    have C0 : (0 : Int) ≤ x 0 - 1 := l_cc (a := y_ev x ((-1), [(0, 1)])) (by show ((-1) : Int) + ((1) * x 0 + 0) = x 0 - 1; omega) (h.2.1.1)
    have C1 : (0 : Int) ≤ x 5 - x 0 - 1 := l_cc (a := y_ev x ((-1), [(0, (-1)), (5, 1)])) (by show ((-1) : Int) + ((-1) * x 0 + ((1) * x 5 + 0)) = x 5 - x 0 - 1; omega) (h.2.1.2.1)
    have C2 : (0 : Int) ≤ x 2 := l_cc (a := y_ev x (0, [(2, 1)])) (l_e1 _ _) (h.2.1.2.2.1)
    have C3 : (0 : Int) ≤ x 1 - x 3 := l_cc (a := y_ev x (0, [(1, 1), (3, (-1))])) (by show ((0) : Int) + ((1) * x 1 + ((-1) * x 3 + 0)) = x 1 - x 3; omega) (h.2.1.2.2.2.1)
    have E0 : y_ev x (0, [(4, 1)]) = x 4 := (l_e1 _ _)
    have E1 : y_ev x (0, [(5, 1)]) = x 5 := (l_e1 _ _)
    have E2 : y_ev x (0, [(6, 1)]) = x 6 := (l_e1 _ _)
    have E3 : y_ev x (0, [(7, 1)]) = x 7 := (l_e1 _ _)
    have E4 : y_ev x (0, [(8, 1)]) = x 8 := (l_e1 _ _)
    have E5 : y_ev x (0, [(9, 1)]) = x 9 := (l_e1 _ _)
    have E6 : y_ev x (0, [(10, 1)]) = x 10 := (l_e1 _ _)
    have E7 : y_ev x (0, [(11, 1)]) = x 11 := (l_e1 _ _)
    have E8 : y_ev x (0, [(12, 1)]) = x 12 := (l_e1 _ _)
    have E9 : y_ev x (0, [(13, 1)]) = x 13 := (l_e1 _ _)
    have E10 : y_ev x (0, [(14, 1)]) = x 14 := (l_e1 _ _)
    have E11 : y_ev x (28, []) = 28 := (l_e0 _ _)
    have E12 : y_ev x (0, [(0, 1)]) = x 0 := (l_e1 _ _)
    have E13 : y_ev x (0, [(2, 1)]) = x 2 := (l_e1 _ _)
    have E14 : y_ev x (0, [(3, 1)]) = x 3 := (l_e1 _ _)
    have E15 : y_ev x (17, []) = 17 := (l_e0 _ _)
    have E16 : y_ev x (0, []) = 0 := (l_e0 _ _)
    have E17 : y_ev x (0, [(1, 1)]) = x 1 := (l_e1 _ _)
    have T0 : q_sto v 0 (y_ev x (0, [(4, 1)])) (y_ev x (0, [(5, 1)])) (y_ev x (0, [(6, 1)])) (y_ev x (0, [(7, 1)])) (y_ev x (0, [(8, 1)])) (y_ev x (0, [(9, 1)])) (y_ev x (0, [(10, 1)])) (y_ev x (0, [(11, 1)])) (y_ev x (0, [(12, 1)])) (y_ev x (0, [(13, 1)])) (y_ev x (0, [(14, 1)])) := h.2.2.2.1
    (try rw [E0] at T0); (try rw [E1] at T0); (try rw [E2] at T0); (try rw [E3] at T0); (try rw [E4] at T0); (try rw [E5] at T0); (try rw [E6] at T0); (try rw [E7] at T0); (try rw [E8] at T0); (try rw [E9] at T0); (try rw [E10] at T0)
    have T1 : q_qry v (y_ev x (28, [])) (y_ev x (0, [(8, 1)])) (y_ev x (0, [(9, 1)])) (y_ev x (0, [(10, 1)])) (y_ev x (0, [(11, 1)])) (y_ev x (0, [(12, 1)])) (y_ev x (0, [(13, 1)])) (y_ev x (0, [(14, 1)])) (y_ev x (0, [(0, 1)])) (y_ev x (0, [(2, 1)])) (y_ev x (0, [(3, 1)])) := h.2.2.2.2.1
    (try rw [E11] at T1); (try rw [E4] at T1); (try rw [E5] at T1); (try rw [E6] at T1); (try rw [E7] at T1); (try rw [E8] at T1); (try rw [E9] at T1); (try rw [E10] at T1); (try rw [E12] at T1); (try rw [E13] at T1); (try rw [E14] at T1)
    have T2 : q_qry v (y_ev x (17, [])) (y_ev x (0, [(8, 1)])) (y_ev x (0, [(9, 1)])) (y_ev x (0, [(10, 1)])) (y_ev x (0, [(11, 1)])) (y_ev x (0, [(12, 1)])) (y_ev x (0, [(13, 1)])) (y_ev x (0, [(14, 1)])) (y_ev x (0, [(0, 1)])) (y_ev x (0, [])) (y_ev x (0, [(1, 1)])) := h.2.2.2.2.2.1
    (try rw [E15] at T2); (try rw [E4] at T2); (try rw [E5] at T2); (try rw [E6] at T2); (try rw [E7] at T2); (try rw [E8] at T2); (try rw [E9] at T2); (try rw [E10] at T2); (try rw [E12] at T2); (try rw [E16] at T2); (try rw [E17] at T2)
    have K := k_quaN (V := v) (i := x 0) (u := x 1) (bb := x 2) (l := x 3) (H := x 4) (p := x 5) (y := x 6) (d := x 7) (q := x 8) (b := x 9) (s := x 10) (o := x 11) (a1 := x 12) (a2 := x 13) (a3 := x 14) T0 T1 T2 C0 C1 C2 C3
    refine l_outH rfl (And.intro h.1 ?_)
    have O0 : y_ev x (28, []) = 28 := l_e0 _ _
    have O1 : y_ev x (0, [(8, 1)]) = x 8 := l_e1 _ _
    have O2 : y_ev x (0, [(9, 1)]) = x 9 := l_e1 _ _
    have O3 : y_ev x (0, [(10, 1)]) = x 10 := l_e1 _ _
    have O4 : y_ev x (0, [(11, 1)]) = x 11 := l_e1 _ _
    have O5 : y_ev x (0, [(12, 1)]) = x 12 := l_e1 _ _
    have O6 : y_ev x (0, [(13, 1)]) = x 13 := l_e1 _ _
    have O7 : y_ev x (0, [(14, 1)]) = x 14 := l_e1 _ _
    have O8 : y_ev x (1, [(0, 1)]) = x 0 + 1 := by show ((1) : Int) + ((1) * x 0 + 0) = _; omega
    have O9 : y_ev x (0, [(2, 1)]) = x 2 := l_e1 _ _
    have O10 : y_ev x (0, [(3, 1)]) = x 3 := l_e1 _ _
    show (True) ∧ (q_qry v (y_ev x (28, [])) (y_ev x (0, [(8, 1)])) (y_ev x (0, [(9, 1)])) (y_ev x (0, [(10, 1)])) (y_ev x (0, [(11, 1)])) (y_ev x (0, [(12, 1)])) (y_ev x (0, [(13, 1)])) (y_ev x (0, [(14, 1)])) (y_ev x (1, [(0, 1)])) (y_ev x (0, [(2, 1)])) (y_ev x (0, [(3, 1)])) ∧ True)
    (try rw [O0]); (try rw [O1]); (try rw [O2]); (try rw [O3]); (try rw [O4]); (try rw [O5]); (try rw [O6]); (try rw [O7]); (try rw [O8]); (try rw [O9]); (try rw [O10])
    exact K
def lm_1064p : zS := ((lm_650pi_0 (lm_650pi_1 [])), [(78, false)], [((-1), [(0, 1)]), ((-1), [(0, (-1)), (4, 1)]), (0, [(2, 1)]), (0, [(1, 1), (3, (-1))])], [], [(0, 0, 0, [(0, 1)]), (0, 0, 0, [(2, 1)]), (0, 0, 0, [(3, 1)]), (0, 0, 0, [(1, 1)])], [(0, (true, 0, 24, []), 0, 0, 0, [(4, 1)])], (lm_1060pg_0 []))
def lm_1064 : zLem := (lm_1064p, [([((-2147483648), 2147483647), ((-2147483648), 2147483647), ((-2147483648), 2147483647), ((-2147483648), 2147483647), ((-2147483648), 2147483647), ((-2147483648), 2147483647), ((-2147483648), 2147483647), ((-2147483648), 2147483647), ((-2147483648), 2147483647), ((-2147483648), 2147483647), ((-2147483648), 2147483647), ((-2147483648), 2147483647), ((-2147483648), 2147483647)], [(78, false)], [], [], [], [], [(238, [(28, []), (0, [(6, 1)]), (0, [(7, 1)]), (0, [(8, 1)]), (0, [(9, 1)]), (0, [(10, 1)]), (0, [(11, 1)]), (0, [(12, 1)]), (1, [(0, 1)]), (0, [(2, 1)]), (0, [(3, 1)])])])])
theorem lk_1064 : l_core lm_1064 := by
  first
  | skip
    intro v x h
    have G0 := h.2.2.1
    have K := k_mquN (V := v) (i := x 0) (u := x 1) (bb := x 2) (l := x 3) (p := x 4) (H := x 5) (q := x 6) (b := x 7) (s := x 8) (o := x 9) (a1 := x 10) (a2 := x 11) (a3 := x 12) (l_c8 (fun w0 w1 w2 w3 w4 w5 w6 w7 : Int => q_rwo v w0 w1 w2 w3 w4 w5 w6 w7) (l_e1 x 5) (l_e1 x 6) (l_e1 x 7) (l_e1 x 8) (l_e1 x 9) (l_e1 x 10) (l_e1 x 11) (l_e1 x 12) (h.2.2.2.1)) (l_c11 (fun w0 w1 w2 w3 w4 w5 w6 w7 w8 w9 w10 : Int => q_qry v w0 w1 w2 w3 w4 w5 w6 w7 w8 w9 w10) (l_e0 x (28)) (l_e1 x 6) (l_e1 x 7) (l_e1 x 8) (l_e1 x 9) (l_e1 x 10) (l_e1 x 11) (l_e1 x 12) (l_e1 x 0) (l_e1 x 2) (l_e1 x 3) (h.2.2.2.2.1)) (l_c11 (fun w0 w1 w2 w3 w4 w5 w6 w7 w8 w9 w10 : Int => q_qry v w0 w1 w2 w3 w4 w5 w6 w7 w8 w9 w10) (l_e0 x (17)) (l_e1 x 6) (l_e1 x 7) (l_e1 x 8) (l_e1 x 9) (l_e1 x 10) (l_e1 x 11) (l_e1 x 12) (l_e1 x 0) (l_e0 x (0)) (l_e1 x 1) (h.2.2.2.2.2.1)) (l_cc (l_q2 1 x 0) (h.2.1.1)) (l_cc (l_q6 1 x 0 4) (h.2.1.2.1)) (l_cc (l_e1 x 2) (h.2.1.2.2.1)) (l_cc (l_q5 x 1 3) (h.2.1.2.2.2.1)) (l_ff (f := v 78) (L := j_len 78) (l_e0 x (24)) (l_e1 x 4) (G0.1.1))
    refine l_outH rfl (And.intro h.1 ?_)
    exact l_o11 (fun w0 w1 w2 w3 w4 w5 w6 w7 w8 w9 w10 : Int => (True) ∧ (q_qry v w0 w1 w2 w3 w4 w5 w6 w7 w8 w9 w10 ∧ True)) (l_e0 x (28)) (l_e1 x 6) (l_e1 x 7) (l_e1 x 8) (l_e1 x 9) (l_e1 x 10) (l_e1 x 11) (l_e1 x 12) (l_q3 1 x 0) (l_e1 x 2) (l_e1 x 3) K
  | skip
    intro v x h
    have G0 := h.2.2.1
    have C0 : (0 : Int) ≤ x 0 - 1 := l_cc (a := y_ev x ((-1), [(0, 1)])) (by show ((-1) : Int) + ((1) * x 0 + 0) = x 0 - 1; omega) (h.2.1.1)
    have C1 : (0 : Int) ≤ x 4 - x 0 - 1 := l_cc (a := y_ev x ((-1), [(0, (-1)), (4, 1)])) (by show ((-1) : Int) + ((-1) * x 0 + ((1) * x 4 + 0)) = x 4 - x 0 - 1; omega) (h.2.1.2.1)
    have C2 : (0 : Int) ≤ x 2 := l_cc (a := y_ev x (0, [(2, 1)])) (l_e1 _ _) (h.2.1.2.2.1)
    have C3 : (0 : Int) ≤ x 1 - x 3 := l_cc (a := y_ev x (0, [(1, 1), (3, (-1))])) (by show ((0) : Int) + ((1) * x 1 + ((-1) * x 3 + 0)) = x 1 - x 3; omega) (h.2.1.2.2.2.1)
    have F0 : (0 : Int) ≤ 24 ∧ (24 : Int) < j_len 78 ∧ v 78 (24) = x 4 := l_ff (f := v 78) (L := j_len 78) (a := y_ev x (24, [])) (b := y_ev x (0, [(4, 1)])) (l_e0 _ _) (l_e1 _ _) (G0.1.1)
    have E0 : y_ev x (0, [(5, 1)]) = x 5 := (l_e1 _ _)
    have E1 : y_ev x (0, [(6, 1)]) = x 6 := (l_e1 _ _)
    have E2 : y_ev x (0, [(7, 1)]) = x 7 := (l_e1 _ _)
    have E3 : y_ev x (0, [(8, 1)]) = x 8 := (l_e1 _ _)
    have E4 : y_ev x (0, [(9, 1)]) = x 9 := (l_e1 _ _)
    have E5 : y_ev x (0, [(10, 1)]) = x 10 := (l_e1 _ _)
    have E6 : y_ev x (0, [(11, 1)]) = x 11 := (l_e1 _ _)
    have E7 : y_ev x (0, [(12, 1)]) = x 12 := (l_e1 _ _)
    have E8 : y_ev x (28, []) = 28 := (l_e0 _ _)
    have E9 : y_ev x (0, [(0, 1)]) = x 0 := (l_e1 _ _)
    have E10 : y_ev x (0, [(2, 1)]) = x 2 := (l_e1 _ _)
    have E11 : y_ev x (0, [(3, 1)]) = x 3 := (l_e1 _ _)
    have E12 : y_ev x (17, []) = 17 := (l_e0 _ _)
    have E13 : y_ev x (0, []) = 0 := (l_e0 _ _)
    have E14 : y_ev x (0, [(1, 1)]) = x 1 := (l_e1 _ _)
    have T0 : q_rwo v (y_ev x (0, [(5, 1)])) (y_ev x (0, [(6, 1)])) (y_ev x (0, [(7, 1)])) (y_ev x (0, [(8, 1)])) (y_ev x (0, [(9, 1)])) (y_ev x (0, [(10, 1)])) (y_ev x (0, [(11, 1)])) (y_ev x (0, [(12, 1)])) := h.2.2.2.1
    (try rw [E0] at T0); (try rw [E1] at T0); (try rw [E2] at T0); (try rw [E3] at T0); (try rw [E4] at T0); (try rw [E5] at T0); (try rw [E6] at T0); (try rw [E7] at T0)
    have T1 : q_qry v (y_ev x (28, [])) (y_ev x (0, [(6, 1)])) (y_ev x (0, [(7, 1)])) (y_ev x (0, [(8, 1)])) (y_ev x (0, [(9, 1)])) (y_ev x (0, [(10, 1)])) (y_ev x (0, [(11, 1)])) (y_ev x (0, [(12, 1)])) (y_ev x (0, [(0, 1)])) (y_ev x (0, [(2, 1)])) (y_ev x (0, [(3, 1)])) := h.2.2.2.2.1
    (try rw [E8] at T1); (try rw [E1] at T1); (try rw [E2] at T1); (try rw [E3] at T1); (try rw [E4] at T1); (try rw [E5] at T1); (try rw [E6] at T1); (try rw [E7] at T1); (try rw [E9] at T1); (try rw [E10] at T1); (try rw [E11] at T1)
    have T2 : q_qry v (y_ev x (17, [])) (y_ev x (0, [(6, 1)])) (y_ev x (0, [(7, 1)])) (y_ev x (0, [(8, 1)])) (y_ev x (0, [(9, 1)])) (y_ev x (0, [(10, 1)])) (y_ev x (0, [(11, 1)])) (y_ev x (0, [(12, 1)])) (y_ev x (0, [(0, 1)])) (y_ev x (0, [])) (y_ev x (0, [(1, 1)])) := h.2.2.2.2.2.1
    (try rw [E12] at T2); (try rw [E1] at T2); (try rw [E2] at T2); (try rw [E3] at T2); (try rw [E4] at T2); (try rw [E5] at T2); (try rw [E6] at T2); (try rw [E7] at T2); (try rw [E9] at T2); (try rw [E13] at T2); (try rw [E14] at T2)
    have K := k_mquN (V := v) (i := x 0) (u := x 1) (bb := x 2) (l := x 3) (p := x 4) (H := x 5) (q := x 6) (b := x 7) (s := x 8) (o := x 9) (a1 := x 10) (a2 := x 11) (a3 := x 12) T0 T1 T2 C0 C1 C2 C3 F0
    refine l_outH rfl (And.intro h.1 ?_)
    have O0 : y_ev x (28, []) = 28 := l_e0 _ _
    have O1 : y_ev x (0, [(6, 1)]) = x 6 := l_e1 _ _
    have O2 : y_ev x (0, [(7, 1)]) = x 7 := l_e1 _ _
    have O3 : y_ev x (0, [(8, 1)]) = x 8 := l_e1 _ _
    have O4 : y_ev x (0, [(9, 1)]) = x 9 := l_e1 _ _
    have O5 : y_ev x (0, [(10, 1)]) = x 10 := l_e1 _ _
    have O6 : y_ev x (0, [(11, 1)]) = x 11 := l_e1 _ _
    have O7 : y_ev x (0, [(12, 1)]) = x 12 := l_e1 _ _
    have O8 : y_ev x (1, [(0, 1)]) = x 0 + 1 := by show ((1) : Int) + ((1) * x 0 + 0) = _; omega
    have O9 : y_ev x (0, [(2, 1)]) = x 2 := l_e1 _ _
    have O10 : y_ev x (0, [(3, 1)]) = x 3 := l_e1 _ _
    show (True) ∧ (q_qry v (y_ev x (28, [])) (y_ev x (0, [(6, 1)])) (y_ev x (0, [(7, 1)])) (y_ev x (0, [(8, 1)])) (y_ev x (0, [(9, 1)])) (y_ev x (0, [(10, 1)])) (y_ev x (0, [(11, 1)])) (y_ev x (0, [(12, 1)])) (y_ev x (1, [(0, 1)])) (y_ev x (0, [(2, 1)])) (y_ev x (0, [(3, 1)])) ∧ True)
    (try rw [O0]); (try rw [O1]); (try rw [O2]); (try rw [O3]); (try rw [O4]); (try rw [O5]); (try rw [O6]); (try rw [O7]); (try rw [O8]); (try rw [O9]); (try rw [O10])
    exact K
def lm_1065p : zS := ((lm_716pi_0 (lm_716pi_1 [])), [], [(0, [(0, 1), (4, (-1))])], [], [(0, 0, 0, [(1, 1)]), (0, 0, 0, [(2, 1)]), (0, 0, 0, [(0, 1)])], [], [(235, [(0, [(3, 1)]), (0, [(4, 1)]), (0, [(5, 1)]), (0, [(6, 1)]), (0, [(7, 1)]), (0, [(8, 1)]), (0, [(9, 1)]), (0, [(10, 1)]), (0, [(11, 1)]), (0, [(12, 1)]), (0, [(13, 1)])]), (238, [(28, []), (0, [(7, 1)]), (0, [(8, 1)]), (0, [(9, 1)]), (0, [(10, 1)]), (0, [(11, 1)]), (0, [(12, 1)]), (0, [(13, 1)]), (0, [(0, 1)]), (0, [(1, 1)]), (0, [(2, 1)])])])
def lm_1065 : zLem := (lm_1065p, [([((-2147483648), 2147483647), ((-2147483648), 2147483647), ((-2147483648), 2147483647), ((-2147483648), 2147483647), ((-2147483648), 2147483647), ((-2147483648), 2147483647), ((-2147483648), 2147483647), ((-2147483648), 2147483647), ((-2147483648), 2147483647), ((-2147483648), 2147483647), ((-2147483648), 2147483647), ((-2147483648), 2147483647), ((-2147483648), 2147483647), ((-2147483648), 2147483647)], [], [], [], [], [], [(260, [(28, []), (0, [(7, 1)]), (0, [(8, 1)]), (0, [(9, 1)]), (0, [(10, 1)]), (0, [(11, 1)]), (0, [(12, 1)]), (0, [(13, 1)]), (0, [(4, 1)]), (0, [(1, 1)]), (0, [(2, 1)])])])])
theorem lk_1065 : l_core lm_1065 := by
  first
  | skip
    intro v x h
    have K := k_quaE (V := v) (i := x 0) (bb := x 1) (l := x 2) (H := x 3) (p := x 4) (y := x 5) (d := x 6) (q := x 7) (b := x 8) (s := x 9) (o := x 10) (a1 := x 11) (a2 := x 12) (a3 := x 13) (l_c11 (fun w0 w1 w2 w3 w4 w5 w6 w7 w8 w9 w10 : Int => q_sto v 0 w0 w1 w2 w3 w4 w5 w6 w7 w8 w9 w10) (l_e1 x 3) (l_e1 x 4) (l_e1 x 5) (l_e1 x 6) (l_e1 x 7) (l_e1 x 8) (l_e1 x 9) (l_e1 x 10) (l_e1 x 11) (l_e1 x 12) (l_e1 x 13) (h.2.2.2.1)) (l_c11 (fun w0 w1 w2 w3 w4 w5 w6 w7 w8 w9 w10 : Int => q_qry v w0 w1 w2 w3 w4 w5 w6 w7 w8 w9 w10) (l_e0 x (28)) (l_e1 x 7) (l_e1 x 8) (l_e1 x 9) (l_e1 x 10) (l_e1 x 11) (l_e1 x 12) (l_e1 x 13) (l_e1 x 0) (l_e1 x 1) (l_e1 x 2) (h.2.2.2.2.1)) (l_cc (l_q5 x 0 4) (h.2.1.1))
    refine l_outH rfl (And.intro h.1 ?_)
    exact l_o11 (fun w0 w1 w2 w3 w4 w5 w6 w7 w8 w9 w10 : Int => (True) ∧ (q_qry v w0 w1 w2 w3 w4 w5 w6 w7 w8 w9 w10 ∧ True)) (l_e0 x (28)) (l_e1 x 7) (l_e1 x 8) (l_e1 x 9) (l_e1 x 10) (l_e1 x 11) (l_e1 x 12) (l_e1 x 13) (l_e1 x 4) (l_e1 x 1) (l_e1 x 2) K
  | skip
    intro v x h
    have C0 : (0 : Int) ≤ x 0 - x 4 := l_cc (a := y_ev x (0, [(0, 1), (4, (-1))])) (by show ((0) : Int) + ((1) * x 0 + ((-1) * x 4 + 0)) = x 0 - x 4; omega) (h.2.1.1)
    have E0 : y_ev x (0, [(3, 1)]) = x 3 := (l_e1 _ _)
    have E1 : y_ev x (0, [(4, 1)]) = x 4 := (l_e1 _ _)
    have E2 : y_ev x (0, [(5, 1)]) = x 5 := (l_e1 _ _)
    have E3 : y_ev x (0, [(6, 1)]) = x 6 := (l_e1 _ _)
    have E4 : y_ev x (0, [(7, 1)]) = x 7 := (l_e1 _ _)
    have E5 : y_ev x (0, [(8, 1)]) = x 8 := (l_e1 _ _)
    have E6 : y_ev x (0, [(9, 1)]) = x 9 := (l_e1 _ _)
    have E7 : y_ev x (0, [(10, 1)]) = x 10 := (l_e1 _ _)
    have E8 : y_ev x (0, [(11, 1)]) = x 11 := (l_e1 _ _)
    have E9 : y_ev x (0, [(12, 1)]) = x 12 := (l_e1 _ _)
    have E10 : y_ev x (0, [(13, 1)]) = x 13 := (l_e1 _ _)
    have E11 : y_ev x (28, []) = 28 := (l_e0 _ _)
    have E12 : y_ev x (0, [(0, 1)]) = x 0 := (l_e1 _ _)
    have E13 : y_ev x (0, [(1, 1)]) = x 1 := (l_e1 _ _)
    have E14 : y_ev x (0, [(2, 1)]) = x 2 := (l_e1 _ _)
    have T0 : q_sto v 0 (y_ev x (0, [(3, 1)])) (y_ev x (0, [(4, 1)])) (y_ev x (0, [(5, 1)])) (y_ev x (0, [(6, 1)])) (y_ev x (0, [(7, 1)])) (y_ev x (0, [(8, 1)])) (y_ev x (0, [(9, 1)])) (y_ev x (0, [(10, 1)])) (y_ev x (0, [(11, 1)])) (y_ev x (0, [(12, 1)])) (y_ev x (0, [(13, 1)])) := h.2.2.2.1
    (try rw [E0] at T0); (try rw [E1] at T0); (try rw [E2] at T0); (try rw [E3] at T0); (try rw [E4] at T0); (try rw [E5] at T0); (try rw [E6] at T0); (try rw [E7] at T0); (try rw [E8] at T0); (try rw [E9] at T0); (try rw [E10] at T0)
    have T1 : q_qry v (y_ev x (28, [])) (y_ev x (0, [(7, 1)])) (y_ev x (0, [(8, 1)])) (y_ev x (0, [(9, 1)])) (y_ev x (0, [(10, 1)])) (y_ev x (0, [(11, 1)])) (y_ev x (0, [(12, 1)])) (y_ev x (0, [(13, 1)])) (y_ev x (0, [(0, 1)])) (y_ev x (0, [(1, 1)])) (y_ev x (0, [(2, 1)])) := h.2.2.2.2.1
    (try rw [E11] at T1); (try rw [E4] at T1); (try rw [E5] at T1); (try rw [E6] at T1); (try rw [E7] at T1); (try rw [E8] at T1); (try rw [E9] at T1); (try rw [E10] at T1); (try rw [E12] at T1); (try rw [E13] at T1); (try rw [E14] at T1)
    have K := k_quaE (V := v) (i := x 0) (bb := x 1) (l := x 2) (H := x 3) (p := x 4) (y := x 5) (d := x 6) (q := x 7) (b := x 8) (s := x 9) (o := x 10) (a1 := x 11) (a2 := x 12) (a3 := x 13) T0 T1 C0
    refine l_outH rfl (And.intro h.1 ?_)
    have O0 : y_ev x (28, []) = 28 := l_e0 _ _
    have O1 : y_ev x (0, [(7, 1)]) = x 7 := l_e1 _ _
    have O2 : y_ev x (0, [(8, 1)]) = x 8 := l_e1 _ _
    have O3 : y_ev x (0, [(9, 1)]) = x 9 := l_e1 _ _
    have O4 : y_ev x (0, [(10, 1)]) = x 10 := l_e1 _ _
    have O5 : y_ev x (0, [(11, 1)]) = x 11 := l_e1 _ _
    have O6 : y_ev x (0, [(12, 1)]) = x 12 := l_e1 _ _
    have O7 : y_ev x (0, [(13, 1)]) = x 13 := l_e1 _ _
    have O8 : y_ev x (0, [(4, 1)]) = x 4 := l_e1 _ _
    have O9 : y_ev x (0, [(1, 1)]) = x 1 := l_e1 _ _
    have O10 : y_ev x (0, [(2, 1)]) = x 2 := l_e1 _ _
    show (True) ∧ (q_qry v (y_ev x (28, [])) (y_ev x (0, [(7, 1)])) (y_ev x (0, [(8, 1)])) (y_ev x (0, [(9, 1)])) (y_ev x (0, [(10, 1)])) (y_ev x (0, [(11, 1)])) (y_ev x (0, [(12, 1)])) (y_ev x (0, [(13, 1)])) (y_ev x (0, [(4, 1)])) (y_ev x (0, [(1, 1)])) (y_ev x (0, [(2, 1)])) ∧ True)
    (try rw [O0]); (try rw [O1]); (try rw [O2]); (try rw [O3]); (try rw [O4]); (try rw [O5]); (try rw [O6]); (try rw [O7]); (try rw [O8]); (try rw [O9]); (try rw [O10])
    exact K
def lm_1066p : zS := ((lm_660pi_0 (lm_660pi_1 [])), [(78, false)], [(0, [(0, 1), (3, (-1))])], [], [(0, 0, 0, [(1, 1)]), (0, 0, 0, [(2, 1)]), (0, 0, 0, [(0, 1)])], [(0, (true, 0, 24, []), 0, 0, 0, [(3, 1)])], [(237, [(0, [(4, 1)]), (0, [(5, 1)]), (0, [(6, 1)]), (0, [(7, 1)]), (0, [(8, 1)]), (0, [(9, 1)]), (0, [(10, 1)]), (0, [(11, 1)])]), (238, [(28, []), (0, [(5, 1)]), (0, [(6, 1)]), (0, [(7, 1)]), (0, [(8, 1)]), (0, [(9, 1)]), (0, [(10, 1)]), (0, [(11, 1)]), (0, [(0, 1)]), (0, [(1, 1)]), (0, [(2, 1)])])])
def lm_1066 : zLem := (lm_1066p, [([((-2147483648), 2147483647), ((-2147483648), 2147483647), ((-2147483648), 2147483647), ((-2147483648), 2147483647), ((-2147483648), 2147483647), ((-2147483648), 2147483647), ((-2147483648), 2147483647), ((-2147483648), 2147483647), ((-2147483648), 2147483647), ((-2147483648), 2147483647), ((-2147483648), 2147483647), ((-2147483648), 2147483647)], [(78, false)], [], [], [], [], [(238, [(28, []), (0, [(5, 1)]), (0, [(6, 1)]), (0, [(7, 1)]), (0, [(8, 1)]), (0, [(9, 1)]), (0, [(10, 1)]), (0, [(11, 1)]), (0, [(3, 1)]), (0, [(1, 1)]), (0, [(2, 1)])])])])
theorem lk_1066 : l_core lm_1066 := by
  first
  | skip
    intro v x h
    have G0 := h.2.2.1
    have K := k_mquE (V := v) (i := x 0) (bb := x 1) (l := x 2) (p := x 3) (H := x 4) (q := x 5) (b := x 6) (s := x 7) (o := x 8) (a1 := x 9) (a2 := x 10) (a3 := x 11) (l_c8 (fun w0 w1 w2 w3 w4 w5 w6 w7 : Int => q_rwo v w0 w1 w2 w3 w4 w5 w6 w7) (l_e1 x 4) (l_e1 x 5) (l_e1 x 6) (l_e1 x 7) (l_e1 x 8) (l_e1 x 9) (l_e1 x 10) (l_e1 x 11) (h.2.2.2.1)) (l_c11 (fun w0 w1 w2 w3 w4 w5 w6 w7 w8 w9 w10 : Int => q_qry v w0 w1 w2 w3 w4 w5 w6 w7 w8 w9 w10) (l_e0 x (28)) (l_e1 x 5) (l_e1 x 6) (l_e1 x 7) (l_e1 x 8) (l_e1 x 9) (l_e1 x 10) (l_e1 x 11) (l_e1 x 0) (l_e1 x 1) (l_e1 x 2) (h.2.2.2.2.1)) (l_cc (l_q5 x 0 3) (h.2.1.1)) (l_ff (f := v 78) (L := j_len 78) (l_e0 x (24)) (l_e1 x 3) (G0.1.1))
    refine l_outH rfl (And.intro h.1 ?_)
    exact l_o11 (fun w0 w1 w2 w3 w4 w5 w6 w7 w8 w9 w10 : Int => (True) ∧ (q_qry v w0 w1 w2 w3 w4 w5 w6 w7 w8 w9 w10 ∧ True)) (l_e0 x (28)) (l_e1 x 5) (l_e1 x 6) (l_e1 x 7) (l_e1 x 8) (l_e1 x 9) (l_e1 x 10) (l_e1 x 11) (l_e1 x 3) (l_e1 x 1) (l_e1 x 2) K
  | skip
    intro v x h
    have G0 := h.2.2.1
    have C0 : (0 : Int) ≤ x 0 - x 3 := l_cc (a := y_ev x (0, [(0, 1), (3, (-1))])) (by show ((0) : Int) + ((1) * x 0 + ((-1) * x 3 + 0)) = x 0 - x 3; omega) (h.2.1.1)
    have F0 : (0 : Int) ≤ 24 ∧ (24 : Int) < j_len 78 ∧ v 78 (24) = x 3 := l_ff (f := v 78) (L := j_len 78) (a := y_ev x (24, [])) (b := y_ev x (0, [(3, 1)])) (l_e0 _ _) (l_e1 _ _) (G0.1.1)
    have E0 : y_ev x (0, [(4, 1)]) = x 4 := (l_e1 _ _)
    have E1 : y_ev x (0, [(5, 1)]) = x 5 := (l_e1 _ _)
    have E2 : y_ev x (0, [(6, 1)]) = x 6 := (l_e1 _ _)
    have E3 : y_ev x (0, [(7, 1)]) = x 7 := (l_e1 _ _)
    have E4 : y_ev x (0, [(8, 1)]) = x 8 := (l_e1 _ _)
    have E5 : y_ev x (0, [(9, 1)]) = x 9 := (l_e1 _ _)
    have E6 : y_ev x (0, [(10, 1)]) = x 10 := (l_e1 _ _)
    have E7 : y_ev x (0, [(11, 1)]) = x 11 := (l_e1 _ _)
    have E8 : y_ev x (28, []) = 28 := (l_e0 _ _)
    have E9 : y_ev x (0, [(0, 1)]) = x 0 := (l_e1 _ _)
    have E10 : y_ev x (0, [(1, 1)]) = x 1 := (l_e1 _ _)
    have E11 : y_ev x (0, [(2, 1)]) = x 2 := (l_e1 _ _)
    have T0 : q_rwo v (y_ev x (0, [(4, 1)])) (y_ev x (0, [(5, 1)])) (y_ev x (0, [(6, 1)])) (y_ev x (0, [(7, 1)])) (y_ev x (0, [(8, 1)])) (y_ev x (0, [(9, 1)])) (y_ev x (0, [(10, 1)])) (y_ev x (0, [(11, 1)])) := h.2.2.2.1
    (try rw [E0] at T0); (try rw [E1] at T0); (try rw [E2] at T0); (try rw [E3] at T0); (try rw [E4] at T0); (try rw [E5] at T0); (try rw [E6] at T0); (try rw [E7] at T0)
    have T1 : q_qry v (y_ev x (28, [])) (y_ev x (0, [(5, 1)])) (y_ev x (0, [(6, 1)])) (y_ev x (0, [(7, 1)])) (y_ev x (0, [(8, 1)])) (y_ev x (0, [(9, 1)])) (y_ev x (0, [(10, 1)])) (y_ev x (0, [(11, 1)])) (y_ev x (0, [(0, 1)])) (y_ev x (0, [(1, 1)])) (y_ev x (0, [(2, 1)])) := h.2.2.2.2.1
    (try rw [E8] at T1); (try rw [E1] at T1); (try rw [E2] at T1); (try rw [E3] at T1); (try rw [E4] at T1); (try rw [E5] at T1); (try rw [E6] at T1); (try rw [E7] at T1); (try rw [E9] at T1); (try rw [E10] at T1); (try rw [E11] at T1)
    have K := k_mquE (V := v) (i := x 0) (bb := x 1) (l := x 2) (p := x 3) (H := x 4) (q := x 5) (b := x 6) (s := x 7) (o := x 8) (a1 := x 9) (a2 := x 10) (a3 := x 11) T0 T1 C0 F0
    refine l_outH rfl (And.intro h.1 ?_)
    have O0 : y_ev x (28, []) = 28 := l_e0 _ _
    have O1 : y_ev x (0, [(5, 1)]) = x 5 := l_e1 _ _
    have O2 : y_ev x (0, [(6, 1)]) = x 6 := l_e1 _ _
    have O3 : y_ev x (0, [(7, 1)]) = x 7 := l_e1 _ _
    have O4 : y_ev x (0, [(8, 1)]) = x 8 := l_e1 _ _
    have O5 : y_ev x (0, [(9, 1)]) = x 9 := l_e1 _ _
    have O6 : y_ev x (0, [(10, 1)]) = x 10 := l_e1 _ _
    have O7 : y_ev x (0, [(11, 1)]) = x 11 := l_e1 _ _
    have O8 : y_ev x (0, [(3, 1)]) = x 3 := l_e1 _ _
    have O9 : y_ev x (0, [(1, 1)]) = x 1 := l_e1 _ _
    have O10 : y_ev x (0, [(2, 1)]) = x 2 := l_e1 _ _
    show (True) ∧ (q_qry v (y_ev x (28, [])) (y_ev x (0, [(5, 1)])) (y_ev x (0, [(6, 1)])) (y_ev x (0, [(7, 1)])) (y_ev x (0, [(8, 1)])) (y_ev x (0, [(9, 1)])) (y_ev x (0, [(10, 1)])) (y_ev x (0, [(11, 1)])) (y_ev x (0, [(3, 1)])) (y_ev x (0, [(1, 1)])) (y_ev x (0, [(2, 1)])) ∧ True)
    (try rw [O0]); (try rw [O1]); (try rw [O2]); (try rw [O3]); (try rw [O4]); (try rw [O5]); (try rw [O6]); (try rw [O7]); (try rw [O8]); (try rw [O9]); (try rw [O10])
    exact K
def lm_1067 : zLem := (([((-2147483648), 2147483647), ((-2147483648), 2147483647), ((-2147483648), 2147483647), ((-2147483648), 2147483647), ((-2147483648), 2147483647), ((-2147483648), 2147483647), ((-2147483648), 2147483647), ((-2147483648), 2147483647)], [], [], [], [], [], [(237, [(0, [(0, 1)]), (0, [(1, 1)]), (0, [(2, 1)]), (0, [(3, 1)]), (0, [(4, 1)]), (0, [(5, 1)]), (0, [(6, 1)]), (0, [(7, 1)])])]), [([((-2147483648), 2147483647), ((-2147483648), 2147483647), ((-2147483648), 2147483647), ((-2147483648), 2147483647), ((-2147483648), 2147483647), ((-2147483648), 2147483647), ((-2147483648), 2147483647), ((-2147483648), 2147483647)], [], [], [], [], [], [(238, [(28, []), (0, [(1, 1)]), (0, [(2, 1)]), (0, [(3, 1)]), (0, [(4, 1)]), (0, [(5, 1)]), (0, [(6, 1)]), (0, [(7, 1)]), (1, []), ((-2), []), ((-2), [])])])])
theorem lk_1067 : l_core lm_1067 := by
  first
  | skip
    intro v x h
    have K := k_mqu0 (V := v) (H := x 0) (q := x 1) (b := x 2) (s := x 3) (o := x 4) (a1 := x 5) (a2 := x 6) (a3 := x 7) (l_c8 (fun w0 w1 w2 w3 w4 w5 w6 w7 : Int => q_rwo v w0 w1 w2 w3 w4 w5 w6 w7) (l_e1 x 0) (l_e1 x 1) (l_e1 x 2) (l_e1 x 3) (l_e1 x 4) (l_e1 x 5) (l_e1 x 6) (l_e1 x 7) (h.2.2.2.1))
    refine l_outH rfl (And.intro h.1 ?_)
    exact l_o10 (fun w0 w1 w2 w3 w4 w5 w6 w7 w8 w9 : Int => (True) ∧ (q_qry v w0 w1 w2 w3 w4 w5 w6 w7 w8 w9 w9 ∧ True)) (l_e0 x (28)) (l_e1 x 1) (l_e1 x 2) (l_e1 x 3) (l_e1 x 4) (l_e1 x 5) (l_e1 x 6) (l_e1 x 7) (l_e0 x (1)) (l_e0 x (-2)) K
  | skip
    intro v x h
    have E0 : y_ev x (0, [(0, 1)]) = x 0 := (l_e1 _ _)
    have E1 : y_ev x (0, [(1, 1)]) = x 1 := (l_e1 _ _)
    have E2 : y_ev x (0, [(2, 1)]) = x 2 := (l_e1 _ _)
    have E3 : y_ev x (0, [(3, 1)]) = x 3 := (l_e1 _ _)
    have E4 : y_ev x (0, [(4, 1)]) = x 4 := (l_e1 _ _)
    have E5 : y_ev x (0, [(5, 1)]) = x 5 := (l_e1 _ _)
    have E6 : y_ev x (0, [(6, 1)]) = x 6 := (l_e1 _ _)
    have E7 : y_ev x (0, [(7, 1)]) = x 7 := (l_e1 _ _)
    have T0 : q_rwo v (y_ev x (0, [(0, 1)])) (y_ev x (0, [(1, 1)])) (y_ev x (0, [(2, 1)])) (y_ev x (0, [(3, 1)])) (y_ev x (0, [(4, 1)])) (y_ev x (0, [(5, 1)])) (y_ev x (0, [(6, 1)])) (y_ev x (0, [(7, 1)])) := h.2.2.2.1
    (try rw [E0] at T0); (try rw [E1] at T0); (try rw [E2] at T0); (try rw [E3] at T0); (try rw [E4] at T0); (try rw [E5] at T0); (try rw [E6] at T0); (try rw [E7] at T0)
    have K := k_mqu0 (V := v) (H := x 0) (q := x 1) (b := x 2) (s := x 3) (o := x 4) (a1 := x 5) (a2 := x 6) (a3 := x 7) T0
    refine l_outH rfl (And.intro h.1 ?_)
    have O0 : y_ev x (28, []) = 28 := l_e0 _ _
    have O1 : y_ev x (0, [(1, 1)]) = x 1 := l_e1 _ _
    have O2 : y_ev x (0, [(2, 1)]) = x 2 := l_e1 _ _
    have O3 : y_ev x (0, [(3, 1)]) = x 3 := l_e1 _ _
    have O4 : y_ev x (0, [(4, 1)]) = x 4 := l_e1 _ _
    have O5 : y_ev x (0, [(5, 1)]) = x 5 := l_e1 _ _
    have O6 : y_ev x (0, [(6, 1)]) = x 6 := l_e1 _ _
    have O7 : y_ev x (0, [(7, 1)]) = x 7 := l_e1 _ _
    have O8 : y_ev x (1, []) = 1 := l_e0 _ _
    have O9 : y_ev x ((-2), []) = (-2) := l_e0 _ _
    show (True) ∧ (q_qry v (y_ev x (28, [])) (y_ev x (0, [(1, 1)])) (y_ev x (0, [(2, 1)])) (y_ev x (0, [(3, 1)])) (y_ev x (0, [(4, 1)])) (y_ev x (0, [(5, 1)])) (y_ev x (0, [(6, 1)])) (y_ev x (0, [(7, 1)])) (y_ev x (1, [])) (y_ev x ((-2), [])) (y_ev x ((-2), [])) ∧ True)
    (try rw [O0]); (try rw [O1]); (try rw [O2]); (try rw [O3]); (try rw [O4]); (try rw [O5]); (try rw [O6]); (try rw [O7]); (try rw [O8]); (try rw [O9])
    exact K
def lm_1068p : zS := ((lm_650pi_0 (lm_650pi_1 [])), [(78, false)], [((-1), [(0, 1)]), ((-1), [(0, (-1)), (4, 1)]), (5, [(0, (-1))])], [], [(0, 0, 0, [(0, 1)]), (0, 0, 0, [(3, 1)])], [(0, (true, 0, 24, [(0, 1)]), 0, 0, 0, [(1, 1)]), (0, (true, 0, 25, [(0, 1)]), 0, 0, 0, [(2, 1)]), (0, (true, 0, 24, []), 0, 0, 0, [(4, 1)])], [(238, [(5, []), (0, [(5, 1)]), (0, [(6, 1)]), (0, [(7, 1)]), (0, [(8, 1)]), (0, [(9, 1)]), (0, [(10, 1)]), (0, [(11, 1)]), (0, [(1, 1)]), (0, [(2, 1)]), (0, [(3, 1)])]), (237, [(0, [(12, 1)]), (0, [(5, 1)]), (0, [(6, 1)]), (0, [(7, 1)]), (0, [(8, 1)]), (0, [(9, 1)]), (0, [(10, 1)]), (0, [(11, 1)])])])
def lm_1068 : zLem := (lm_1068p, [([((-2147483648), 2147483647), ((-2147483648), 2147483647), ((-2147483648), 2147483647), ((-2147483648), 2147483647), ((-2147483648), 2147483647), ((-2147483648), 2147483647), ((-2147483648), 2147483647), ((-2147483648), 2147483647), ((-2147483648), 2147483647), ((-2147483648), 2147483647), ((-2147483648), 2147483647), ((-2147483648), 2147483647), ((-2147483648), 2147483647)], [(78, false)], [], [], [], [], [(238, [(17, []), (0, [(5, 1)]), (0, [(6, 1)]), (0, [(7, 1)]), (0, [(8, 1)]), (0, [(9, 1)]), (0, [(10, 1)]), (0, [(11, 1)]), (0, [(0, 1)]), (0, []), (0, [(3, 1)])])])])
theorem lk_1068 : l_core lm_1068 := by
  first
  | skip
    intro v x h
    have G0 := h.2.2.1
    have G1 := G0.2
    have G2 := G1.2
    have K := k_mjab (V := v) (i := x 0) (a := x 1) (g := x 2) (u := x 3) (p := x 4) (q := x 5) (b := x 6) (s := x 7) (o := x 8) (a1 := x 9) (a2 := x 10) (a3 := x 11) (H := x 12) (l_c11 (fun w0 w1 w2 w3 w4 w5 w6 w7 w8 w9 w10 : Int => q_qry v w0 w1 w2 w3 w4 w5 w6 w7 w8 w9 w10) (l_e0 x (5)) (l_e1 x 5) (l_e1 x 6) (l_e1 x 7) (l_e1 x 8) (l_e1 x 9) (l_e1 x 10) (l_e1 x 11) (l_e1 x 1) (l_e1 x 2) (l_e1 x 3) (h.2.2.2.1)) (l_c8 (fun w0 w1 w2 w3 w4 w5 w6 w7 : Int => q_rwo v w0 w1 w2 w3 w4 w5 w6 w7) (l_e1 x 12) (l_e1 x 5) (l_e1 x 6) (l_e1 x 7) (l_e1 x 8) (l_e1 x 9) (l_e1 x 10) (l_e1 x 11) (h.2.2.2.2.1)) (l_cc (l_q2 1 x 0) (h.2.1.1)) (l_cc (l_q6 1 x 0 4) (h.2.1.2.1)) (l_cc (l_q1 5 x 0) (h.2.1.2.2.1)) (l_ff (f := v 78) (L := j_len 78) (l_q3 24 x 0) (l_e1 x 1) (G0.1.1)) (l_ff (f := v 78) (L := j_len 78) (l_q3 25 x 0) (l_e1 x 2) (G1.1.1)) (l_ff (f := v 78) (L := j_len 78) (l_e0 x (24)) (l_e1 x 4) (G2.1.1))
    refine l_outH rfl (And.intro h.1 ?_)
    exact l_o11 (fun w0 w1 w2 w3 w4 w5 w6 w7 w8 w9 w10 : Int => (True) ∧ (q_qry v w0 w1 w2 w3 w4 w5 w6 w7 w8 w9 w10 ∧ True)) (l_e0 x (17)) (l_e1 x 5) (l_e1 x 6) (l_e1 x 7) (l_e1 x 8) (l_e1 x 9) (l_e1 x 10) (l_e1 x 11) (l_e1 x 0) (l_e0 x (0)) (l_e1 x 3) K
  | skip
    intro v x h
    have G0 := h.2.2.1
    have G1 := G0.2
    have G2 := G1.2
    have C0 : (0 : Int) ≤ x 0 - 1 := l_cc (a := y_ev x ((-1), [(0, 1)])) (by show ((-1) : Int) + ((1) * x 0 + 0) = x 0 - 1; omega) (h.2.1.1)
    have C1 : (0 : Int) ≤ x 4 - x 0 - 1 := l_cc (a := y_ev x ((-1), [(0, (-1)), (4, 1)])) (by show ((-1) : Int) + ((-1) * x 0 + ((1) * x 4 + 0)) = x 4 - x 0 - 1; omega) (h.2.1.2.1)
    have C2 : (0 : Int) ≤ 5 - x 0 := l_cc (a := y_ev x (5, [(0, (-1))])) (by show ((5) : Int) + ((-1) * x 0 + 0) = 5 - x 0; omega) (h.2.1.2.2.1)
    have F0 : (0 : Int) ≤ x 0 + 24 ∧ (x 0 + 24 : Int) < j_len 78 ∧ v 78 (x 0 + 24) = x 1 := l_ff (f := v 78) (L := j_len 78) (a := y_ev x (24, [(0, 1)])) (b := y_ev x (0, [(1, 1)])) (by show ((24) : Int) + ((1) * x 0 + 0) = x 0 + 24; omega) (l_e1 _ _) (G0.1.1)
    have F1 : (0 : Int) ≤ x 0 + 25 ∧ (x 0 + 25 : Int) < j_len 78 ∧ v 78 (x 0 + 25) = x 2 := l_ff (f := v 78) (L := j_len 78) (a := y_ev x (25, [(0, 1)])) (b := y_ev x (0, [(2, 1)])) (by show ((25) : Int) + ((1) * x 0 + 0) = x 0 + 25; omega) (l_e1 _ _) (G1.1.1)
    have F2 : (0 : Int) ≤ 24 ∧ (24 : Int) < j_len 78 ∧ v 78 (24) = x 4 := l_ff (f := v 78) (L := j_len 78) (a := y_ev x (24, [])) (b := y_ev x (0, [(4, 1)])) (l_e0 _ _) (l_e1 _ _) (G2.1.1)
    have E0 : y_ev x (5, []) = 5 := (l_e0 _ _)
    have E1 : y_ev x (0, [(5, 1)]) = x 5 := (l_e1 _ _)
    have E2 : y_ev x (0, [(6, 1)]) = x 6 := (l_e1 _ _)
    have E3 : y_ev x (0, [(7, 1)]) = x 7 := (l_e1 _ _)
    have E4 : y_ev x (0, [(8, 1)]) = x 8 := (l_e1 _ _)
    have E5 : y_ev x (0, [(9, 1)]) = x 9 := (l_e1 _ _)
    have E6 : y_ev x (0, [(10, 1)]) = x 10 := (l_e1 _ _)
    have E7 : y_ev x (0, [(11, 1)]) = x 11 := (l_e1 _ _)
    have E8 : y_ev x (0, [(1, 1)]) = x 1 := (l_e1 _ _)
    have E9 : y_ev x (0, [(2, 1)]) = x 2 := (l_e1 _ _)
    have E10 : y_ev x (0, [(3, 1)]) = x 3 := (l_e1 _ _)
    have E11 : y_ev x (0, [(12, 1)]) = x 12 := (l_e1 _ _)
    have T0 : q_qry v (y_ev x (5, [])) (y_ev x (0, [(5, 1)])) (y_ev x (0, [(6, 1)])) (y_ev x (0, [(7, 1)])) (y_ev x (0, [(8, 1)])) (y_ev x (0, [(9, 1)])) (y_ev x (0, [(10, 1)])) (y_ev x (0, [(11, 1)])) (y_ev x (0, [(1, 1)])) (y_ev x (0, [(2, 1)])) (y_ev x (0, [(3, 1)])) := h.2.2.2.1
    (try rw [E0] at T0); (try rw [E1] at T0); (try rw [E2] at T0); (try rw [E3] at T0); (try rw [E4] at T0); (try rw [E5] at T0); (try rw [E6] at T0); (try rw [E7] at T0); (try rw [E8] at T0); (try rw [E9] at T0); (try rw [E10] at T0)
    have T1 : q_rwo v (y_ev x (0, [(12, 1)])) (y_ev x (0, [(5, 1)])) (y_ev x (0, [(6, 1)])) (y_ev x (0, [(7, 1)])) (y_ev x (0, [(8, 1)])) (y_ev x (0, [(9, 1)])) (y_ev x (0, [(10, 1)])) (y_ev x (0, [(11, 1)])) := h.2.2.2.2.1
    (try rw [E11] at T1); (try rw [E1] at T1); (try rw [E2] at T1); (try rw [E3] at T1); (try rw [E4] at T1); (try rw [E5] at T1); (try rw [E6] at T1); (try rw [E7] at T1)
    have K := k_mjab (V := v) (i := x 0) (a := x 1) (g := x 2) (u := x 3) (p := x 4) (q := x 5) (b := x 6) (s := x 7) (o := x 8) (a1 := x 9) (a2 := x 10) (a3 := x 11) (H := x 12) T0 T1 C0 C1 C2 F0 F1 F2
    refine l_outH rfl (And.intro h.1 ?_)
    have O0 : y_ev x (17, []) = 17 := l_e0 _ _
    have O1 : y_ev x (0, [(5, 1)]) = x 5 := l_e1 _ _
    have O2 : y_ev x (0, [(6, 1)]) = x 6 := l_e1 _ _
    have O3 : y_ev x (0, [(7, 1)]) = x 7 := l_e1 _ _
    have O4 : y_ev x (0, [(8, 1)]) = x 8 := l_e1 _ _
    have O5 : y_ev x (0, [(9, 1)]) = x 9 := l_e1 _ _
    have O6 : y_ev x (0, [(10, 1)]) = x 10 := l_e1 _ _
    have O7 : y_ev x (0, [(11, 1)]) = x 11 := l_e1 _ _
    have O8 : y_ev x (0, [(0, 1)]) = x 0 := l_e1 _ _
    have O9 : y_ev x (0, []) = 0 := l_e0 _ _
    have O10 : y_ev x (0, [(3, 1)]) = x 3 := l_e1 _ _
    show (True) ∧ (q_qry v (y_ev x (17, [])) (y_ev x (0, [(5, 1)])) (y_ev x (0, [(6, 1)])) (y_ev x (0, [(7, 1)])) (y_ev x (0, [(8, 1)])) (y_ev x (0, [(9, 1)])) (y_ev x (0, [(10, 1)])) (y_ev x (0, [(11, 1)])) (y_ev x (0, [(0, 1)])) (y_ev x (0, [])) (y_ev x (0, [(3, 1)])) ∧ True)
    (try rw [O0]); (try rw [O1]); (try rw [O2]); (try rw [O3]); (try rw [O4]); (try rw [O5]); (try rw [O6]); (try rw [O7]); (try rw [O8]); (try rw [O9]); (try rw [O10])
    exact K
def lm_1069 : zLem := (([((-2147483648), 2147483647), ((-2147483648), 2147483647), ((-2147483648), 2147483647), ((-2147483648), 2147483647), ((-2147483648), 2147483647), ((-2147483648), 2147483647)], [], [], [], [], [], [(260, [(28, []), (0, [(0, 1)]), (0, []), (0, []), (0, []), (0, []), (0, []), (0, []), (0, [(1, 1)]), (0, [(2, 1)]), (0, [(3, 1)])]), (238, [(28, []), (0, [(0, 1)]), (0, []), (0, []), (0, []), (0, []), (0, []), (0, []), (0, [(1, 1)]), (0, [(4, 1)]), (0, [(5, 1)])])]), [([((-2147483648), 2147483647), ((-2147483648), 2147483647), ((-2147483648), 2147483647), ((-2147483648), 2147483647), ((-2147483648), 2147483647), ((-2147483648), 2147483647)], [], [(0, [(2, 1), (4, (-1))]), (0, [(2, (-1)), (4, 1)]), (0, [(3, 1), (5, (-1))]), (0, [(3, (-1)), (5, 1)])], [], [], [], [])])
theorem lk_1069 : l_core lm_1069 := by
  first
  | skip
    intro v x h
    have K := k_qeQ (V := v) (q := x 0) (p := x 1) (bb := x 2) (l := x 3) (bc := x 4) (k := x 5) (l_c6 (fun w0 w1 w2 w3 w4 w5 : Int => q_qry v w0 w1 w2 w2 w2 w2 w2 w2 w3 w4 w5) (l_e0 x (28)) (l_e1 x 0) (l_e0 x (0)) (l_e1 x 1) (l_e1 x 2) (l_e1 x 3) (h.2.2.2.1)) (l_c6 (fun w0 w1 w2 w3 w4 w5 : Int => q_qry v w0 w1 w2 w2 w2 w2 w2 w2 w3 w4 w5) (l_e0 x (28)) (l_e1 x 0) (l_e0 x (0)) (l_e1 x 1) (l_e1 x 4) (l_e1 x 5) (h.2.2.2.2.1))
    refine l_outH rfl (And.intro h.1 ?_)
    exact l_o4 (fun w0 w1 w2 w3 : Int => (0 ≤ w0 ∧ 0 ≤ w1 ∧ 0 ≤ w2 ∧ 0 ≤ w3 ∧ True) ∧ (True)) (l_q5 x 2 4) (l_q4 x 2 4) (l_q5 x 3 5) (l_q4 x 3 5) K
  | skip
    intro v x h
    have E0 : y_ev x (28, []) = 28 := (l_e0 _ _)
    have E1 : y_ev x (0, [(0, 1)]) = x 0 := (l_e1 _ _)
    have E2 : y_ev x (0, []) = 0 := (l_e0 _ _)
    have E3 : y_ev x (0, [(1, 1)]) = x 1 := (l_e1 _ _)
    have E4 : y_ev x (0, [(2, 1)]) = x 2 := (l_e1 _ _)
    have E5 : y_ev x (0, [(3, 1)]) = x 3 := (l_e1 _ _)
    have E6 : y_ev x (0, [(4, 1)]) = x 4 := (l_e1 _ _)
    have E7 : y_ev x (0, [(5, 1)]) = x 5 := (l_e1 _ _)
    have T0 : q_qry v (y_ev x (28, [])) (y_ev x (0, [(0, 1)])) (y_ev x (0, [])) (y_ev x (0, [])) (y_ev x (0, [])) (y_ev x (0, [])) (y_ev x (0, [])) (y_ev x (0, [])) (y_ev x (0, [(1, 1)])) (y_ev x (0, [(2, 1)])) (y_ev x (0, [(3, 1)])) := h.2.2.2.1
    (try rw [E0] at T0); (try rw [E1] at T0); (try rw [E2] at T0); (try rw [E3] at T0); (try rw [E4] at T0); (try rw [E5] at T0)
    have T1 : q_qry v (y_ev x (28, [])) (y_ev x (0, [(0, 1)])) (y_ev x (0, [])) (y_ev x (0, [])) (y_ev x (0, [])) (y_ev x (0, [])) (y_ev x (0, [])) (y_ev x (0, [])) (y_ev x (0, [(1, 1)])) (y_ev x (0, [(4, 1)])) (y_ev x (0, [(5, 1)])) := h.2.2.2.2.1
    (try rw [E0] at T1); (try rw [E1] at T1); (try rw [E2] at T1); (try rw [E3] at T1); (try rw [E6] at T1); (try rw [E7] at T1)
    have K := k_qeQ (V := v) (q := x 0) (p := x 1) (bb := x 2) (l := x 3) (bc := x 4) (k := x 5) T0 T1
    refine l_outH rfl (And.intro h.1 ?_)
    have O0 : y_ev x (0, [(2, 1), (4, (-1))]) = x 2 - x 4 := by show ((0) : Int) + ((1) * x 2 + ((-1) * x 4 + 0)) = _; omega
    have O1 : y_ev x (0, [(2, (-1)), (4, 1)]) = x 4 - x 2 := by show ((0) : Int) + ((-1) * x 2 + ((1) * x 4 + 0)) = _; omega
    have O2 : y_ev x (0, [(3, 1), (5, (-1))]) = x 3 - x 5 := by show ((0) : Int) + ((1) * x 3 + ((-1) * x 5 + 0)) = _; omega
    have O3 : y_ev x (0, [(3, (-1)), (5, 1)]) = x 5 - x 3 := by show ((0) : Int) + ((-1) * x 3 + ((1) * x 5 + 0)) = _; omega
    show (0 ≤ y_ev x (0, [(2, 1), (4, (-1))]) ∧ 0 ≤ y_ev x (0, [(2, (-1)), (4, 1)]) ∧ 0 ≤ y_ev x (0, [(3, 1), (5, (-1))]) ∧ 0 ≤ y_ev x (0, [(3, (-1)), (5, 1)]) ∧ True) ∧ (True)
    (try rw [O0]); (try rw [O1]); (try rw [O2]); (try rw [O3])
    exact K
def lm_1070 : zLem := (([((-2147483648), 2147483647), ((-2147483648), 2147483647), ((-2147483648), 2147483647), ((-2147483648), 2147483647)], [], [], [], [], [], [(235, [(0, [(3, 1)]), (0, [(0, 1)]), (0, [(1, 1)]), (0, [(2, 1)]), (0, []), (0, []), (0, []), (0, []), (0, []), (0, []), (0, [])])]), [([((-2147483648), 2147483647), ((-2147483648), 2147483647), ((-2147483648), 2147483647), ((-2147483648), 2147483647)], [], [], [], [], [], [(238, [(29, []), (0, []), (0, []), (0, []), (0, []), (0, []), (0, []), (0, []), (0, []), ((-2), []), ((-2), [])])])])
theorem lk_1070 : l_core lm_1070 := by
  first
  | skip
    intro v x h
    have K := k_gre0 (V := v) (p := x 0) (y := x 1) (d := x 2) (H := x 3) (l_c5 (fun w0 w1 w2 w3 w4 : Int => q_sto v 0 w0 w1 w2 w3 w4 w4 w4 w4 w4 w4 w4) (l_e1 x 3) (l_e1 x 0) (l_e1 x 1) (l_e1 x 2) (l_e0 x (0)) (h.2.2.2.1))
    refine l_outH rfl (And.intro h.1 ?_)
    exact l_o3 (fun w0 w1 w2 : Int => (True) ∧ (q_qry v w0 w1 w1 w1 w1 w1 w1 w1 w1 w2 w2 ∧ True)) (l_e0 x (29)) (l_e0 x (0)) (l_e0 x (-2)) K
  | skip
    intro v x h
    have E0 : y_ev x (0, [(3, 1)]) = x 3 := (l_e1 _ _)
    have E1 : y_ev x (0, [(0, 1)]) = x 0 := (l_e1 _ _)
    have E2 : y_ev x (0, [(1, 1)]) = x 1 := (l_e1 _ _)
    have E3 : y_ev x (0, [(2, 1)]) = x 2 := (l_e1 _ _)
    have E4 : y_ev x (0, []) = 0 := (l_e0 _ _)
    have T0 : q_sto v 0 (y_ev x (0, [(3, 1)])) (y_ev x (0, [(0, 1)])) (y_ev x (0, [(1, 1)])) (y_ev x (0, [(2, 1)])) (y_ev x (0, [])) (y_ev x (0, [])) (y_ev x (0, [])) (y_ev x (0, [])) (y_ev x (0, [])) (y_ev x (0, [])) (y_ev x (0, [])) := h.2.2.2.1
    (try rw [E0] at T0); (try rw [E1] at T0); (try rw [E2] at T0); (try rw [E3] at T0); (try rw [E4] at T0)
    have K := k_gre0 (V := v) (p := x 0) (y := x 1) (d := x 2) (H := x 3) T0
    refine l_outH rfl (And.intro h.1 ?_)
    have O0 : y_ev x (29, []) = 29 := l_e0 _ _
    have O1 : y_ev x (0, []) = 0 := l_e0 _ _
    have O2 : y_ev x ((-2), []) = (-2) := l_e0 _ _
    show (True) ∧ (q_qry v (y_ev x (29, [])) (y_ev x (0, [])) (y_ev x (0, [])) (y_ev x (0, [])) (y_ev x (0, [])) (y_ev x (0, [])) (y_ev x (0, [])) (y_ev x (0, [])) (y_ev x (0, [])) (y_ev x ((-2), [])) (y_ev x ((-2), [])) ∧ True)
    (try rw [O0]); (try rw [O1]); (try rw [O2])
    exact K
def lm_1071p : zS := ([((-2147483648), 2147483647), ((-2147483648), 2147483647), ((-2147483648), 2147483647), ((-2147483648), 2147483647), ((-2147483648), 2147483647), ((-2147483648), 2147483647), ((-2147483648), 2147483647), ((-2147483648), 2147483647)], [], [(0, [(0, 1)]), ((-1), [(0, (-1)), (5, 1)]), ((-1), [(2, (-1))])], [], [(0, 0, 0, [(0, 1)]), (0, 0, 0, [(1, 1)])], [], [(235, [(0, [(4, 1)]), (0, [(5, 1)]), (0, [(6, 1)]), (0, [(7, 1)]), (0, []), (0, []), (0, []), (0, []), (0, []), (0, []), (0, [])]), (238, [(29, []), (0, []), (0, []), (0, []), (0, []), (0, []), (0, []), (0, []), (0, [(0, 1)]), (0, [(2, 1)]), (0, [(3, 1)])]), (238, [(18, []), (0, []), (0, []), (0, []), (0, []), (0, []), (0, []), (0, []), (0, [(0, 1)]), (0, []), (0, [(1, 1)])])])
def lm_1071 : zLem := (lm_1071p, [([((-2147483648), 2147483647), ((-2147483648), 2147483647), ((-2147483648), 2147483647), ((-2147483648), 2147483647), ((-2147483648), 2147483647), ((-2147483648), 2147483647), ((-2147483648), 2147483647), ((-2147483648), 2147483647)], [], [], [], [], [], [(238, [(29, []), (0, []), (0, []), (0, []), (0, []), (0, []), (0, []), (0, []), (1, [(0, 1)]), (0, [(0, 1)]), (0, [(1, 1)])])])])
theorem lk_1071 : l_core lm_1071 := by
  first
  | skip
    intro v x h
    have K := k_greT1 (V := v) (i := x 0) (u := x 1) (bb := x 2) (l := x 3) (H := x 4) (p := x 5) (y := x 6) (d := x 7) (l_c5 (fun w0 w1 w2 w3 w4 : Int => q_sto v 0 w0 w1 w2 w3 w4 w4 w4 w4 w4 w4 w4) (l_e1 x 4) (l_e1 x 5) (l_e1 x 6) (l_e1 x 7) (l_e0 x (0)) (h.2.2.2.1)) (l_c5 (fun w0 w1 w2 w3 w4 : Int => q_qry v w0 w1 w1 w1 w1 w1 w1 w1 w2 w3 w4) (l_e0 x (29)) (l_e0 x (0)) (l_e1 x 0) (l_e1 x 2) (l_e1 x 3) (h.2.2.2.2.1)) (l_c4 (fun w0 w1 w2 w3 : Int => q_qry v w0 w1 w1 w1 w1 w1 w1 w1 w2 w1 w3) (l_e0 x (18)) (l_e0 x (0)) (l_e1 x 0) (l_e1 x 1) (h.2.2.2.2.2.1)) (l_cc (l_e1 x 0) (h.2.1.1)) (l_cc (l_q6 1 x 0 5) (h.2.1.2.1)) (l_cc (l_q11 1 x 2) (h.2.1.2.2.1))
    refine l_outH rfl (And.intro h.1 ?_)
    exact l_o5 (fun w0 w1 w2 w3 w4 : Int => (True) ∧ (q_qry v w0 w1 w1 w1 w1 w1 w1 w1 w2 w3 w4 ∧ True)) (l_e0 x (29)) (l_e0 x (0)) (l_q3 1 x 0) (l_e1 x 0) (l_e1 x 1) K
  | skip
    intro v x h
    have C0 : (0 : Int) ≤ x 0 := l_cc (a := y_ev x (0, [(0, 1)])) (l_e1 _ _) (h.2.1.1)
    have C1 : (0 : Int) ≤ x 5 - x 0 - 1 := l_cc (a := y_ev x ((-1), [(0, (-1)), (5, 1)])) (by show ((-1) : Int) + ((-1) * x 0 + ((1) * x 5 + 0)) = x 5 - x 0 - 1; omega) (h.2.1.2.1)
    have C2 : (0 : Int) ≤ -x 2 - 1 := l_cc (a := y_ev x ((-1), [(2, (-1))])) (by show ((-1) : Int) + ((-1) * x 2 + 0) = -x 2 - 1; omega) (h.2.1.2.2.1)
    have E0 : y_ev x (0, [(4, 1)]) = x 4 := (l_e1 _ _)
    have E1 : y_ev x (0, [(5, 1)]) = x 5 := (l_e1 _ _)
    have E2 : y_ev x (0, [(6, 1)]) = x 6 := (l_e1 _ _)
    have E3 : y_ev x (0, [(7, 1)]) = x 7 := (l_e1 _ _)
    have E4 : y_ev x (0, []) = 0 := (l_e0 _ _)
    have E5 : y_ev x (29, []) = 29 := (l_e0 _ _)
    have E6 : y_ev x (0, [(0, 1)]) = x 0 := (l_e1 _ _)
    have E7 : y_ev x (0, [(2, 1)]) = x 2 := (l_e1 _ _)
    have E8 : y_ev x (0, [(3, 1)]) = x 3 := (l_e1 _ _)
    have E9 : y_ev x (18, []) = 18 := (l_e0 _ _)
    have E10 : y_ev x (0, [(1, 1)]) = x 1 := (l_e1 _ _)
    have T0 : q_sto v 0 (y_ev x (0, [(4, 1)])) (y_ev x (0, [(5, 1)])) (y_ev x (0, [(6, 1)])) (y_ev x (0, [(7, 1)])) (y_ev x (0, [])) (y_ev x (0, [])) (y_ev x (0, [])) (y_ev x (0, [])) (y_ev x (0, [])) (y_ev x (0, [])) (y_ev x (0, [])) := h.2.2.2.1
    (try rw [E0] at T0); (try rw [E1] at T0); (try rw [E2] at T0); (try rw [E3] at T0); (try rw [E4] at T0)
    have T1 : q_qry v (y_ev x (29, [])) (y_ev x (0, [])) (y_ev x (0, [])) (y_ev x (0, [])) (y_ev x (0, [])) (y_ev x (0, [])) (y_ev x (0, [])) (y_ev x (0, [])) (y_ev x (0, [(0, 1)])) (y_ev x (0, [(2, 1)])) (y_ev x (0, [(3, 1)])) := h.2.2.2.2.1
    (try rw [E5] at T1); (try rw [E4] at T1); (try rw [E6] at T1); (try rw [E7] at T1); (try rw [E8] at T1)
    have T2 : q_qry v (y_ev x (18, [])) (y_ev x (0, [])) (y_ev x (0, [])) (y_ev x (0, [])) (y_ev x (0, [])) (y_ev x (0, [])) (y_ev x (0, [])) (y_ev x (0, [])) (y_ev x (0, [(0, 1)])) (y_ev x (0, [])) (y_ev x (0, [(1, 1)])) := h.2.2.2.2.2.1
    (try rw [E9] at T2); (try rw [E4] at T2); (try rw [E6] at T2); (try rw [E10] at T2)
    have K := k_greT1 (V := v) (i := x 0) (u := x 1) (bb := x 2) (l := x 3) (H := x 4) (p := x 5) (y := x 6) (d := x 7) T0 T1 T2 C0 C1 C2
    refine l_outH rfl (And.intro h.1 ?_)
    have O0 : y_ev x (29, []) = 29 := l_e0 _ _
    have O1 : y_ev x (0, []) = 0 := l_e0 _ _
    have O2 : y_ev x (1, [(0, 1)]) = x 0 + 1 := by show ((1) : Int) + ((1) * x 0 + 0) = _; omega
    have O3 : y_ev x (0, [(0, 1)]) = x 0 := l_e1 _ _
    have O4 : y_ev x (0, [(1, 1)]) = x 1 := l_e1 _ _
    show (True) ∧ (q_qry v (y_ev x (29, [])) (y_ev x (0, [])) (y_ev x (0, [])) (y_ev x (0, [])) (y_ev x (0, [])) (y_ev x (0, [])) (y_ev x (0, [])) (y_ev x (0, [])) (y_ev x (1, [(0, 1)])) (y_ev x (0, [(0, 1)])) (y_ev x (0, [(1, 1)])) ∧ True)
    (try rw [O0]); (try rw [O1]); (try rw [O2]); (try rw [O3]); (try rw [O4])
    exact K
def lm_1072p : zS := ([((-2147483648), 2147483647), ((-2147483648), 2147483647), ((-2147483648), 2147483647), ((-2147483648), 2147483647), ((-2147483648), 2147483647), ((-2147483648), 2147483647), ((-2147483648), 2147483647), ((-2147483648), 2147483647)], [], [(0, [(0, 1)]), ((-1), [(0, (-1)), (5, 1)]), (0, [(2, 1)]), ((-1), [(1, (-1)), (3, 1)])], [], [(0, 0, 0, [(0, 1)]), (0, 0, 0, [(1, 1)])], [], [(235, [(0, [(4, 1)]), (0, [(5, 1)]), (0, [(6, 1)]), (0, [(7, 1)]), (0, []), (0, []), (0, []), (0, []), (0, []), (0, []), (0, [])]), (238, [(29, []), (0, []), (0, []), (0, []), (0, []), (0, []), (0, []), (0, []), (0, [(0, 1)]), (0, [(2, 1)]), (0, [(3, 1)])]), (238, [(18, []), (0, []), (0, []), (0, []), (0, []), (0, []), (0, []), (0, []), (0, [(0, 1)]), (0, []), (0, [(1, 1)])])])
def lm_1072 : zLem := (lm_1072p, [([((-2147483648), 2147483647), ((-2147483648), 2147483647), ((-2147483648), 2147483647), ((-2147483648), 2147483647), ((-2147483648), 2147483647), ((-2147483648), 2147483647), ((-2147483648), 2147483647), ((-2147483648), 2147483647)], [], [], [], [], [], [(238, [(29, []), (0, []), (0, []), (0, []), (0, []), (0, []), (0, []), (0, []), (1, [(0, 1)]), (0, [(0, 1)]), (0, [(1, 1)])])])])
theorem lk_1072 : l_core lm_1072 := by
  first
  | skip
    intro v x h
    have K := k_greT2 (V := v) (i := x 0) (u := x 1) (bb := x 2) (l := x 3) (H := x 4) (p := x 5) (y := x 6) (d := x 7) (l_c5 (fun w0 w1 w2 w3 w4 : Int => q_sto v 0 w0 w1 w2 w3 w4 w4 w4 w4 w4 w4 w4) (l_e1 x 4) (l_e1 x 5) (l_e1 x 6) (l_e1 x 7) (l_e0 x (0)) (h.2.2.2.1)) (l_c5 (fun w0 w1 w2 w3 w4 : Int => q_qry v w0 w1 w1 w1 w1 w1 w1 w1 w2 w3 w4) (l_e0 x (29)) (l_e0 x (0)) (l_e1 x 0) (l_e1 x 2) (l_e1 x 3) (h.2.2.2.2.1)) (l_c4 (fun w0 w1 w2 w3 : Int => q_qry v w0 w1 w1 w1 w1 w1 w1 w1 w2 w1 w3) (l_e0 x (18)) (l_e0 x (0)) (l_e1 x 0) (l_e1 x 1) (h.2.2.2.2.2.1)) (l_cc (l_e1 x 0) (h.2.1.1)) (l_cc (l_q6 1 x 0 5) (h.2.1.2.1)) (l_cc (l_e1 x 2) (h.2.1.2.2.1)) (l_cc (l_q6 1 x 1 3) (h.2.1.2.2.2.1))
    refine l_outH rfl (And.intro h.1 ?_)
    exact l_o5 (fun w0 w1 w2 w3 w4 : Int => (True) ∧ (q_qry v w0 w1 w1 w1 w1 w1 w1 w1 w2 w3 w4 ∧ True)) (l_e0 x (29)) (l_e0 x (0)) (l_q3 1 x 0) (l_e1 x 0) (l_e1 x 1) K
  | skip
    intro v x h
    have C0 : (0 : Int) ≤ x 0 := l_cc (a := y_ev x (0, [(0, 1)])) (l_e1 _ _) (h.2.1.1)
    have C1 : (0 : Int) ≤ x 5 - x 0 - 1 := l_cc (a := y_ev x ((-1), [(0, (-1)), (5, 1)])) (by show ((-1) : Int) + ((-1) * x 0 + ((1) * x 5 + 0)) = x 5 - x 0 - 1; omega) (h.2.1.2.1)
    have C2 : (0 : Int) ≤ x 2 := l_cc (a := y_ev x (0, [(2, 1)])) (l_e1 _ _) (h.2.1.2.2.1)
    have C3 : (0 : Int) ≤ x 3 - x 1 - 1 := l_cc (a := y_ev x ((-1), [(1, (-1)), (3, 1)])) (by show ((-1) : Int) + ((-1) * x 1 + ((1) * x 3 + 0)) = x 3 - x 1 - 1; omega) (h.2.1.2.2.2.1)
    have E0 : y_ev x (0, [(4, 1)]) = x 4 := (l_e1 _ _)
    have E1 : y_ev x (0, [(5, 1)]) = x 5 := (l_e1 _ _)
    have E2 : y_ev x (0, [(6, 1)]) = x 6 := (l_e1 _ _)
    have E3 : y_ev x (0, [(7, 1)]) = x 7 := (l_e1 _ _)
    have E4 : y_ev x (0, []) = 0 := (l_e0 _ _)
    have E5 : y_ev x (29, []) = 29 := (l_e0 _ _)
    have E6 : y_ev x (0, [(0, 1)]) = x 0 := (l_e1 _ _)
    have E7 : y_ev x (0, [(2, 1)]) = x 2 := (l_e1 _ _)
    have E8 : y_ev x (0, [(3, 1)]) = x 3 := (l_e1 _ _)
    have E9 : y_ev x (18, []) = 18 := (l_e0 _ _)
    have E10 : y_ev x (0, [(1, 1)]) = x 1 := (l_e1 _ _)
    have T0 : q_sto v 0 (y_ev x (0, [(4, 1)])) (y_ev x (0, [(5, 1)])) (y_ev x (0, [(6, 1)])) (y_ev x (0, [(7, 1)])) (y_ev x (0, [])) (y_ev x (0, [])) (y_ev x (0, [])) (y_ev x (0, [])) (y_ev x (0, [])) (y_ev x (0, [])) (y_ev x (0, [])) := h.2.2.2.1
    (try rw [E0] at T0); (try rw [E1] at T0); (try rw [E2] at T0); (try rw [E3] at T0); (try rw [E4] at T0)
    have T1 : q_qry v (y_ev x (29, [])) (y_ev x (0, [])) (y_ev x (0, [])) (y_ev x (0, [])) (y_ev x (0, [])) (y_ev x (0, [])) (y_ev x (0, [])) (y_ev x (0, [])) (y_ev x (0, [(0, 1)])) (y_ev x (0, [(2, 1)])) (y_ev x (0, [(3, 1)])) := h.2.2.2.2.1
    (try rw [E5] at T1); (try rw [E4] at T1); (try rw [E6] at T1); (try rw [E7] at T1); (try rw [E8] at T1)
    have T2 : q_qry v (y_ev x (18, [])) (y_ev x (0, [])) (y_ev x (0, [])) (y_ev x (0, [])) (y_ev x (0, [])) (y_ev x (0, [])) (y_ev x (0, [])) (y_ev x (0, [])) (y_ev x (0, [(0, 1)])) (y_ev x (0, [])) (y_ev x (0, [(1, 1)])) := h.2.2.2.2.2.1
    (try rw [E9] at T2); (try rw [E4] at T2); (try rw [E6] at T2); (try rw [E10] at T2)
    have K := k_greT2 (V := v) (i := x 0) (u := x 1) (bb := x 2) (l := x 3) (H := x 4) (p := x 5) (y := x 6) (d := x 7) T0 T1 T2 C0 C1 C2 C3
    refine l_outH rfl (And.intro h.1 ?_)
    have O0 : y_ev x (29, []) = 29 := l_e0 _ _
    have O1 : y_ev x (0, []) = 0 := l_e0 _ _
    have O2 : y_ev x (1, [(0, 1)]) = x 0 + 1 := by show ((1) : Int) + ((1) * x 0 + 0) = _; omega
    have O3 : y_ev x (0, [(0, 1)]) = x 0 := l_e1 _ _
    have O4 : y_ev x (0, [(1, 1)]) = x 1 := l_e1 _ _
    show (True) ∧ (q_qry v (y_ev x (29, [])) (y_ev x (0, [])) (y_ev x (0, [])) (y_ev x (0, [])) (y_ev x (0, [])) (y_ev x (0, [])) (y_ev x (0, [])) (y_ev x (0, [])) (y_ev x (1, [(0, 1)])) (y_ev x (0, [(0, 1)])) (y_ev x (0, [(1, 1)])) ∧ True)
    (try rw [O0]); (try rw [O1]); (try rw [O2]); (try rw [O3]); (try rw [O4])
    exact K
def lm_1073p : zS := ([((-2147483648), 2147483647), ((-2147483648), 2147483647), ((-2147483648), 2147483647), ((-2147483648), 2147483647), ((-2147483648), 2147483647), ((-2147483648), 2147483647), ((-2147483648), 2147483647), ((-2147483648), 2147483647)], [], [(0, [(0, 1)]), ((-1), [(0, (-1)), (5, 1)]), (0, [(2, 1)]), (0, [(1, 1), (3, (-1))])], [], [(0, 0, 0, [(0, 1)]), (0, 0, 0, [(2, 1)]), (0, 0, 0, [(3, 1)]), (0, 0, 0, [(1, 1)])], [], [(235, [(0, [(4, 1)]), (0, [(5, 1)]), (0, [(6, 1)]), (0, [(7, 1)]), (0, []), (0, []), (0, []), (0, []), (0, []), (0, []), (0, [])]), (238, [(29, []), (0, []), (0, []), (0, []), (0, []), (0, []), (0, []), (0, []), (0, [(0, 1)]), (0, [(2, 1)]), (0, [(3, 1)])]), (238, [(18, []), (0, []), (0, []), (0, []), (0, []), (0, []), (0, []), (0, []), (0, [(0, 1)]), (0, []), (0, [(1, 1)])])])
def lm_1073 : zLem := (lm_1073p, [([((-2147483648), 2147483647), ((-2147483648), 2147483647), ((-2147483648), 2147483647), ((-2147483648), 2147483647), ((-2147483648), 2147483647), ((-2147483648), 2147483647), ((-2147483648), 2147483647), ((-2147483648), 2147483647)], [], [], [], [], [], [(238, [(29, []), (0, []), (0, []), (0, []), (0, []), (0, []), (0, []), (0, []), (1, [(0, 1)]), (0, [(2, 1)]), (0, [(3, 1)])])])])
theorem lk_1073 : l_core lm_1073 := by
  first
  | skip
    intro v x h
    have K := k_greN (V := v) (i := x 0) (u := x 1) (bb := x 2) (l := x 3) (H := x 4) (p := x 5) (y := x 6) (d := x 7) (l_c5 (fun w0 w1 w2 w3 w4 : Int => q_sto v 0 w0 w1 w2 w3 w4 w4 w4 w4 w4 w4 w4) (l_e1 x 4) (l_e1 x 5) (l_e1 x 6) (l_e1 x 7) (l_e0 x (0)) (h.2.2.2.1)) (l_c5 (fun w0 w1 w2 w3 w4 : Int => q_qry v w0 w1 w1 w1 w1 w1 w1 w1 w2 w3 w4) (l_e0 x (29)) (l_e0 x (0)) (l_e1 x 0) (l_e1 x 2) (l_e1 x 3) (h.2.2.2.2.1)) (l_c4 (fun w0 w1 w2 w3 : Int => q_qry v w0 w1 w1 w1 w1 w1 w1 w1 w2 w1 w3) (l_e0 x (18)) (l_e0 x (0)) (l_e1 x 0) (l_e1 x 1) (h.2.2.2.2.2.1)) (l_cc (l_e1 x 0) (h.2.1.1)) (l_cc (l_q6 1 x 0 5) (h.2.1.2.1)) (l_cc (l_e1 x 2) (h.2.1.2.2.1)) (l_cc (l_q5 x 1 3) (h.2.1.2.2.2.1))
    refine l_outH rfl (And.intro h.1 ?_)
    exact l_o5 (fun w0 w1 w2 w3 w4 : Int => (True) ∧ (q_qry v w0 w1 w1 w1 w1 w1 w1 w1 w2 w3 w4 ∧ True)) (l_e0 x (29)) (l_e0 x (0)) (l_q3 1 x 0) (l_e1 x 2) (l_e1 x 3) K
  | skip
    intro v x h
    have C0 : (0 : Int) ≤ x 0 := l_cc (a := y_ev x (0, [(0, 1)])) (l_e1 _ _) (h.2.1.1)
    have C1 : (0 : Int) ≤ x 5 - x 0 - 1 := l_cc (a := y_ev x ((-1), [(0, (-1)), (5, 1)])) (by show ((-1) : Int) + ((-1) * x 0 + ((1) * x 5 + 0)) = x 5 - x 0 - 1; omega) (h.2.1.2.1)
    have C2 : (0 : Int) ≤ x 2 := l_cc (a := y_ev x (0, [(2, 1)])) (l_e1 _ _) (h.2.1.2.2.1)
    have C3 : (0 : Int) ≤ x 1 - x 3 := l_cc (a := y_ev x (0, [(1, 1), (3, (-1))])) (by show ((0) : Int) + ((1) * x 1 + ((-1) * x 3 + 0)) = x 1 - x 3; omega) (h.2.1.2.2.2.1)
    have E0 : y_ev x (0, [(4, 1)]) = x 4 := (l_e1 _ _)
    have E1 : y_ev x (0, [(5, 1)]) = x 5 := (l_e1 _ _)
    have E2 : y_ev x (0, [(6, 1)]) = x 6 := (l_e1 _ _)
    have E3 : y_ev x (0, [(7, 1)]) = x 7 := (l_e1 _ _)
    have E4 : y_ev x (0, []) = 0 := (l_e0 _ _)
    have E5 : y_ev x (29, []) = 29 := (l_e0 _ _)
    have E6 : y_ev x (0, [(0, 1)]) = x 0 := (l_e1 _ _)
    have E7 : y_ev x (0, [(2, 1)]) = x 2 := (l_e1 _ _)
    have E8 : y_ev x (0, [(3, 1)]) = x 3 := (l_e1 _ _)
    have E9 : y_ev x (18, []) = 18 := (l_e0 _ _)
    have E10 : y_ev x (0, [(1, 1)]) = x 1 := (l_e1 _ _)
    have T0 : q_sto v 0 (y_ev x (0, [(4, 1)])) (y_ev x (0, [(5, 1)])) (y_ev x (0, [(6, 1)])) (y_ev x (0, [(7, 1)])) (y_ev x (0, [])) (y_ev x (0, [])) (y_ev x (0, [])) (y_ev x (0, [])) (y_ev x (0, [])) (y_ev x (0, [])) (y_ev x (0, [])) := h.2.2.2.1
    (try rw [E0] at T0); (try rw [E1] at T0); (try rw [E2] at T0); (try rw [E3] at T0); (try rw [E4] at T0)
    have T1 : q_qry v (y_ev x (29, [])) (y_ev x (0, [])) (y_ev x (0, [])) (y_ev x (0, [])) (y_ev x (0, [])) (y_ev x (0, [])) (y_ev x (0, [])) (y_ev x (0, [])) (y_ev x (0, [(0, 1)])) (y_ev x (0, [(2, 1)])) (y_ev x (0, [(3, 1)])) := h.2.2.2.2.1
    (try rw [E5] at T1); (try rw [E4] at T1); (try rw [E6] at T1); (try rw [E7] at T1); (try rw [E8] at T1)
    have T2 : q_qry v (y_ev x (18, [])) (y_ev x (0, [])) (y_ev x (0, [])) (y_ev x (0, [])) (y_ev x (0, [])) (y_ev x (0, [])) (y_ev x (0, [])) (y_ev x (0, [])) (y_ev x (0, [(0, 1)])) (y_ev x (0, [])) (y_ev x (0, [(1, 1)])) := h.2.2.2.2.2.1
    (try rw [E9] at T2); (try rw [E4] at T2); (try rw [E6] at T2); (try rw [E10] at T2)
    have K := k_greN (V := v) (i := x 0) (u := x 1) (bb := x 2) (l := x 3) (H := x 4) (p := x 5) (y := x 6) (d := x 7) T0 T1 T2 C0 C1 C2 C3
    refine l_outH rfl (And.intro h.1 ?_)
    have O0 : y_ev x (29, []) = 29 := l_e0 _ _
    have O1 : y_ev x (0, []) = 0 := l_e0 _ _
    have O2 : y_ev x (1, [(0, 1)]) = x 0 + 1 := by show ((1) : Int) + ((1) * x 0 + 0) = _; omega
    have O3 : y_ev x (0, [(2, 1)]) = x 2 := l_e1 _ _
    have O4 : y_ev x (0, [(3, 1)]) = x 3 := l_e1 _ _
    show (True) ∧ (q_qry v (y_ev x (29, [])) (y_ev x (0, [])) (y_ev x (0, [])) (y_ev x (0, [])) (y_ev x (0, [])) (y_ev x (0, [])) (y_ev x (0, [])) (y_ev x (0, [])) (y_ev x (1, [(0, 1)])) (y_ev x (0, [(2, 1)])) (y_ev x (0, [(3, 1)])) ∧ True)
    (try rw [O0]); (try rw [O1]); (try rw [O2]); (try rw [O3]); (try rw [O4])
    exact K
def lm_1074 : zLem := (([((-2147483648), 2147483647), ((-2147483648), 2147483647), ((-2147483648), 2147483647), ((-2147483648), 2147483647), ((-2147483648), 2147483647), ((-2147483648), 2147483647), ((-2147483648), 2147483647)], [], [(0, [(0, 1), (4, (-1))])], [], [(0, 0, 0, [(1, 1)]), (0, 0, 0, [(2, 1)]), (0, 0, 0, [(0, 1)])], [], [(235, [(0, [(3, 1)]), (0, [(4, 1)]), (0, [(5, 1)]), (0, [(6, 1)]), (0, []), (0, []), (0, []), (0, []), (0, []), (0, []), (0, [])]), (238, [(29, []), (0, []), (0, []), (0, []), (0, []), (0, []), (0, []), (0, []), (0, [(0, 1)]), (0, [(1, 1)]), (0, [(2, 1)])])]), [([((-2147483648), 2147483647), ((-2147483648), 2147483647), ((-2147483648), 2147483647), ((-2147483648), 2147483647), ((-2147483648), 2147483647), ((-2147483648), 2147483647), ((-2147483648), 2147483647)], [], [], [], [], [], [(260, [(29, []), (0, []), (0, []), (0, []), (0, []), (0, []), (0, []), (0, []), (0, [(4, 1)]), (0, [(1, 1)]), (0, [(2, 1)])])])])
theorem lk_1074 : l_core lm_1074 := by
  first
  | skip
    intro v x h
    have K := k_greE (V := v) (i := x 0) (bb := x 1) (l := x 2) (H := x 3) (p := x 4) (y := x 5) (d := x 6) (l_c5 (fun w0 w1 w2 w3 w4 : Int => q_sto v 0 w0 w1 w2 w3 w4 w4 w4 w4 w4 w4 w4) (l_e1 x 3) (l_e1 x 4) (l_e1 x 5) (l_e1 x 6) (l_e0 x (0)) (h.2.2.2.1)) (l_c5 (fun w0 w1 w2 w3 w4 : Int => q_qry v w0 w1 w1 w1 w1 w1 w1 w1 w2 w3 w4) (l_e0 x (29)) (l_e0 x (0)) (l_e1 x 0) (l_e1 x 1) (l_e1 x 2) (h.2.2.2.2.1)) (l_cc (l_q5 x 0 4) (h.2.1.1))
    refine l_outH rfl (And.intro h.1 ?_)
    exact l_o5 (fun w0 w1 w2 w3 w4 : Int => (True) ∧ (q_qry v w0 w1 w1 w1 w1 w1 w1 w1 w2 w3 w4 ∧ True)) (l_e0 x (29)) (l_e0 x (0)) (l_e1 x 4) (l_e1 x 1) (l_e1 x 2) K
  | skip
    intro v x h
    have C0 : (0 : Int) ≤ x 0 - x 4 := l_cc (a := y_ev x (0, [(0, 1), (4, (-1))])) (by show ((0) : Int) + ((1) * x 0 + ((-1) * x 4 + 0)) = x 0 - x 4; omega) (h.2.1.1)
    have E0 : y_ev x (0, [(3, 1)]) = x 3 := (l_e1 _ _)
    have E1 : y_ev x (0, [(4, 1)]) = x 4 := (l_e1 _ _)
    have E2 : y_ev x (0, [(5, 1)]) = x 5 := (l_e1 _ _)
    have E3 : y_ev x (0, [(6, 1)]) = x 6 := (l_e1 _ _)
    have E4 : y_ev x (0, []) = 0 := (l_e0 _ _)
    have E5 : y_ev x (29, []) = 29 := (l_e0 _ _)
    have E6 : y_ev x (0, [(0, 1)]) = x 0 := (l_e1 _ _)
    have E7 : y_ev x (0, [(1, 1)]) = x 1 := (l_e1 _ _)
    have E8 : y_ev x (0, [(2, 1)]) = x 2 := (l_e1 _ _)
    have T0 : q_sto v 0 (y_ev x (0, [(3, 1)])) (y_ev x (0, [(4, 1)])) (y_ev x (0, [(5, 1)])) (y_ev x (0, [(6, 1)])) (y_ev x (0, [])) (y_ev x (0, [])) (y_ev x (0, [])) (y_ev x (0, [])) (y_ev x (0, [])) (y_ev x (0, [])) (y_ev x (0, [])) := h.2.2.2.1
    (try rw [E0] at T0); (try rw [E1] at T0); (try rw [E2] at T0); (try rw [E3] at T0); (try rw [E4] at T0)
    have T1 : q_qry v (y_ev x (29, [])) (y_ev x (0, [])) (y_ev x (0, [])) (y_ev x (0, [])) (y_ev x (0, [])) (y_ev x (0, [])) (y_ev x (0, [])) (y_ev x (0, [])) (y_ev x (0, [(0, 1)])) (y_ev x (0, [(1, 1)])) (y_ev x (0, [(2, 1)])) := h.2.2.2.2.1
    (try rw [E5] at T1); (try rw [E4] at T1); (try rw [E6] at T1); (try rw [E7] at T1); (try rw [E8] at T1)
    have K := k_greE (V := v) (i := x 0) (bb := x 1) (l := x 2) (H := x 3) (p := x 4) (y := x 5) (d := x 6) T0 T1 C0
    refine l_outH rfl (And.intro h.1 ?_)
    have O0 : y_ev x (29, []) = 29 := l_e0 _ _
    have O1 : y_ev x (0, []) = 0 := l_e0 _ _
    have O2 : y_ev x (0, [(4, 1)]) = x 4 := l_e1 _ _
    have O3 : y_ev x (0, [(1, 1)]) = x 1 := l_e1 _ _
    have O4 : y_ev x (0, [(2, 1)]) = x 2 := l_e1 _ _
    show (True) ∧ (q_qry v (y_ev x (29, [])) (y_ev x (0, [])) (y_ev x (0, [])) (y_ev x (0, [])) (y_ev x (0, [])) (y_ev x (0, [])) (y_ev x (0, [])) (y_ev x (0, [])) (y_ev x (0, [(4, 1)])) (y_ev x (0, [(1, 1)])) (y_ev x (0, [(2, 1)])) ∧ True)
    (try rw [O0]); (try rw [O1]); (try rw [O2]); (try rw [O3]); (try rw [O4])
    exact K
def lm_1075 : zLem := (([((-2147483648), 2147483647), ((-2147483648), 2147483647), ((-2147483648), 2147483647), ((-2147483648), 2147483647), ((-2147483648), 2147483647), ((-2147483648), 2147483647), ((-2147483648), 2147483647)], [(77, false)], [(0, [(0, 1)]), ((-1), [(0, (-1)), (3, 1)]), (5, [(0, (-1))])], [], [(0, 0, 0, [(0, 1)]), (0, 0, 0, [(1, 1)])], [(0, (true, 0, 25, [(0, 1)]), 0, 0, 0, [(2, 1)]), (0, (true, 0, 12, [(2, 1)]), 0, 0, 0, [(1, 1)])], [(235, [(0, [(4, 1)]), (0, [(3, 1)]), (0, [(5, 1)]), (0, [(6, 1)]), (0, []), (0, []), (0, []), (0, []), (0, []), (0, []), (0, [])])]), [([((-2147483648), 2147483647), ((-2147483648), 2147483647), ((-2147483648), 2147483647), ((-2147483648), 2147483647), ((-2147483648), 2147483647), ((-2147483648), 2147483647), ((-2147483648), 2147483647)], [(77, false)], [], [], [], [], [(238, [(18, []), (0, []), (0, []), (0, []), (0, []), (0, []), (0, []), (0, []), (0, [(0, 1)]), (0, []), (0, [(1, 1)])])])])
theorem lk_1075 : l_core lm_1075 := by
  first
  | skip
    intro v x h
    have G0 := h.2.2.1
    have G1 := G0.2
    have K := k_nstp (V := v) (i := x 0) (v := x 1) (w := x 2) (p := x 3) (H := x 4) (y := x 5) (d := x 6) (l_c5 (fun w0 w1 w2 w3 w4 : Int => q_sto v 0 w0 w1 w2 w3 w4 w4 w4 w4 w4 w4 w4) (l_e1 x 4) (l_e1 x 3) (l_e1 x 5) (l_e1 x 6) (l_e0 x (0)) (h.2.2.2.1)) (l_cc (l_e1 x 0) (h.2.1.1)) (l_cc (l_q6 1 x 0 3) (h.2.1.2.1)) (l_cc (l_q1 5 x 0) (h.2.1.2.2.1)) (l_ff (f := v 77) (L := j_len 77) (l_q3 25 x 0) (l_e1 x 2) (G0.1.1)) (l_ff (f := v 77) (L := j_len 77) (l_q3 12 x 2) (l_e1 x 1) (G1.1.1))
    refine l_outH rfl (And.intro h.1 ?_)
    exact l_o4 (fun w0 w1 w2 w3 : Int => (True) ∧ (q_qry v w0 w1 w1 w1 w1 w1 w1 w1 w2 w1 w3 ∧ True)) (l_e0 x (18)) (l_e0 x (0)) (l_e1 x 0) (l_e1 x 1) K
  | skip
    intro v x h
    have G0 := h.2.2.1
    have G1 := G0.2
    have C0 : (0 : Int) ≤ x 0 := l_cc (a := y_ev x (0, [(0, 1)])) (l_e1 _ _) (h.2.1.1)
    have C1 : (0 : Int) ≤ x 3 - x 0 - 1 := l_cc (a := y_ev x ((-1), [(0, (-1)), (3, 1)])) (by show ((-1) : Int) + ((-1) * x 0 + ((1) * x 3 + 0)) = x 3 - x 0 - 1; omega) (h.2.1.2.1)
    have C2 : (0 : Int) ≤ 5 - x 0 := l_cc (a := y_ev x (5, [(0, (-1))])) (by show ((5) : Int) + ((-1) * x 0 + 0) = 5 - x 0; omega) (h.2.1.2.2.1)
    have F0 : (0 : Int) ≤ x 0 + 25 ∧ (x 0 + 25 : Int) < j_len 77 ∧ v 77 (x 0 + 25) = x 2 := l_ff (f := v 77) (L := j_len 77) (a := y_ev x (25, [(0, 1)])) (b := y_ev x (0, [(2, 1)])) (by show ((25) : Int) + ((1) * x 0 + 0) = x 0 + 25; omega) (l_e1 _ _) (G0.1.1)
    have F1 : (0 : Int) ≤ x 2 + 12 ∧ (x 2 + 12 : Int) < j_len 77 ∧ v 77 (x 2 + 12) = x 1 := l_ff (f := v 77) (L := j_len 77) (a := y_ev x (12, [(2, 1)])) (b := y_ev x (0, [(1, 1)])) (by show ((12) : Int) + ((1) * x 2 + 0) = x 2 + 12; omega) (l_e1 _ _) (G1.1.1)
    have E0 : y_ev x (0, [(4, 1)]) = x 4 := (l_e1 _ _)
    have E1 : y_ev x (0, [(3, 1)]) = x 3 := (l_e1 _ _)
    have E2 : y_ev x (0, [(5, 1)]) = x 5 := (l_e1 _ _)
    have E3 : y_ev x (0, [(6, 1)]) = x 6 := (l_e1 _ _)
    have E4 : y_ev x (0, []) = 0 := (l_e0 _ _)
    have T0 : q_sto v 0 (y_ev x (0, [(4, 1)])) (y_ev x (0, [(3, 1)])) (y_ev x (0, [(5, 1)])) (y_ev x (0, [(6, 1)])) (y_ev x (0, [])) (y_ev x (0, [])) (y_ev x (0, [])) (y_ev x (0, [])) (y_ev x (0, [])) (y_ev x (0, [])) (y_ev x (0, [])) := h.2.2.2.1
    (try rw [E0] at T0); (try rw [E1] at T0); (try rw [E2] at T0); (try rw [E3] at T0); (try rw [E4] at T0)
    have K := k_nstp (V := v) (i := x 0) (v := x 1) (w := x 2) (p := x 3) (H := x 4) (y := x 5) (d := x 6) T0 C0 C1 C2 F0 F1
    refine l_outH rfl (And.intro h.1 ?_)
    have O0 : y_ev x (18, []) = 18 := l_e0 _ _
    have O1 : y_ev x (0, []) = 0 := l_e0 _ _
    have O2 : y_ev x (0, [(0, 1)]) = x 0 := l_e1 _ _
    have O3 : y_ev x (0, [(1, 1)]) = x 1 := l_e1 _ _
    show (True) ∧ (q_qry v (y_ev x (18, [])) (y_ev x (0, [])) (y_ev x (0, [])) (y_ev x (0, [])) (y_ev x (0, [])) (y_ev x (0, [])) (y_ev x (0, [])) (y_ev x (0, [])) (y_ev x (0, [(0, 1)])) (y_ev x (0, [])) (y_ev x (0, [(1, 1)])) ∧ True)
    (try rw [O0]); (try rw [O1]); (try rw [O2]); (try rw [O3])
    exact K
def lm_1076 : zLem := (([((-2147483648), 2147483647), ((-2147483648), 2147483647), ((-2147483648), 2147483647), ((-2147483648), 2147483647), ((-2147483648), 2147483647), ((-2147483648), 2147483647), ((-2147483648), 2147483647), ((-2147483648), 2147483647)], [(77, false)], [(0, [(0, 1)]), ((-1), [(0, (-1)), (7, 1)]), (0, [(3, 1), (7, (-1))]), (0, [(3, (-1)), (7, 1)]), (5, [(0, (-1))])], [], [(0, 0, 0, [(0, 1)]), (0, 0, 0, [(1, 1)])], [(0, (true, 0, 25, [(0, 1)]), 0, 0, 0, [(2, 1)]), (0, (true, 0, 12, [(2, 1)]), 0, 0, 0, [(1, 1)]), (0, (true, 0, 24, []), 0, 0, 0, [(7, 1)])], [(235, [(0, [(4, 1)]), (0, [(3, 1)]), (0, [(5, 1)]), (0, [(6, 1)]), (0, []), (0, []), (0, []), (0, []), (0, []), (0, []), (0, [])])]), [([((-2147483648), 2147483647), ((-2147483648), 2147483647), ((-2147483648), 2147483647), ((-2147483648), 2147483647), ((-2147483648), 2147483647), ((-2147483648), 2147483647), ((-2147483648), 2147483647), ((-2147483648), 2147483647)], [(77, false)], [], [], [], [], [(238, [(18, []), (0, []), (0, []), (0, []), (0, []), (0, []), (0, []), (0, []), (0, [(0, 1)]), (0, []), (0, [(1, 1)])])])])
theorem lk_1076 : l_core lm_1076 := by
  first
  | skip
    intro v x h
    have G0 := h.2.2.1
    have G1 := G0.2
    have G2 := G1.2
    have K := k_nstq (V := v) (i := x 0) (v := x 1) (w := x 2) (p := x 3) (H := x 4) (y := x 5) (d := x 6) (n := x 7) (l_c5 (fun w0 w1 w2 w3 w4 : Int => q_sto v 0 w0 w1 w2 w3 w4 w4 w4 w4 w4 w4 w4) (l_e1 x 4) (l_e1 x 3) (l_e1 x 5) (l_e1 x 6) (l_e0 x (0)) (h.2.2.2.1)) (l_cc (l_e1 x 0) (h.2.1.1)) (l_cc (l_q6 1 x 0 7) (h.2.1.2.1)) (l_cc (l_q5 x 3 7) (h.2.1.2.2.1)) (l_cc (l_q4 x 3 7) (h.2.1.2.2.2.1)) (l_cc (l_q1 5 x 0) (h.2.1.2.2.2.2.1)) (l_ff (f := v 77) (L := j_len 77) (l_q3 25 x 0) (l_e1 x 2) (G0.1.1)) (l_ff (f := v 77) (L := j_len 77) (l_q3 12 x 2) (l_e1 x 1) (G1.1.1)) (l_ff (f := v 77) (L := j_len 77) (l_e0 x (24)) (l_e1 x 7) (G2.1.1))
    refine l_outH rfl (And.intro h.1 ?_)
    exact l_o4 (fun w0 w1 w2 w3 : Int => (True) ∧ (q_qry v w0 w1 w1 w1 w1 w1 w1 w1 w2 w1 w3 ∧ True)) (l_e0 x (18)) (l_e0 x (0)) (l_e1 x 0) (l_e1 x 1) K
  | skip
    intro v x h
    have G0 := h.2.2.1
    have G1 := G0.2
    have G2 := G1.2
    have C0 : (0 : Int) ≤ x 0 := l_cc (a := y_ev x (0, [(0, 1)])) (l_e1 _ _) (h.2.1.1)
    have C1 : (0 : Int) ≤ x 7 - x 0 - 1 := l_cc (a := y_ev x ((-1), [(0, (-1)), (7, 1)])) (by show ((-1) : Int) + ((-1) * x 0 + ((1) * x 7 + 0)) = x 7 - x 0 - 1; omega) (h.2.1.2.1)
    have C2 : (0 : Int) ≤ x 3 - x 7 := l_cc (a := y_ev x (0, [(3, 1), (7, (-1))])) (by show ((0) : Int) + ((1) * x 3 + ((-1) * x 7 + 0)) = x 3 - x 7; omega) (h.2.1.2.2.1)
    have C3 : (0 : Int) ≤ x 7 - x 3 := l_cc (a := y_ev x (0, [(3, (-1)), (7, 1)])) (by show ((0) : Int) + ((-1) * x 3 + ((1) * x 7 + 0)) = x 7 - x 3; omega) (h.2.1.2.2.2.1)
    have C4 : (0 : Int) ≤ 5 - x 0 := l_cc (a := y_ev x (5, [(0, (-1))])) (by show ((5) : Int) + ((-1) * x 0 + 0) = 5 - x 0; omega) (h.2.1.2.2.2.2.1)
    have F0 : (0 : Int) ≤ x 0 + 25 ∧ (x 0 + 25 : Int) < j_len 77 ∧ v 77 (x 0 + 25) = x 2 := l_ff (f := v 77) (L := j_len 77) (a := y_ev x (25, [(0, 1)])) (b := y_ev x (0, [(2, 1)])) (by show ((25) : Int) + ((1) * x 0 + 0) = x 0 + 25; omega) (l_e1 _ _) (G0.1.1)
    have F1 : (0 : Int) ≤ x 2 + 12 ∧ (x 2 + 12 : Int) < j_len 77 ∧ v 77 (x 2 + 12) = x 1 := l_ff (f := v 77) (L := j_len 77) (a := y_ev x (12, [(2, 1)])) (b := y_ev x (0, [(1, 1)])) (by show ((12) : Int) + ((1) * x 2 + 0) = x 2 + 12; omega) (l_e1 _ _) (G1.1.1)
    have F2 : (0 : Int) ≤ 24 ∧ (24 : Int) < j_len 77 ∧ v 77 (24) = x 7 := l_ff (f := v 77) (L := j_len 77) (a := y_ev x (24, [])) (b := y_ev x (0, [(7, 1)])) (l_e0 _ _) (l_e1 _ _) (G2.1.1)
    have E0 : y_ev x (0, [(4, 1)]) = x 4 := (l_e1 _ _)
    have E1 : y_ev x (0, [(3, 1)]) = x 3 := (l_e1 _ _)
    have E2 : y_ev x (0, [(5, 1)]) = x 5 := (l_e1 _ _)
    have E3 : y_ev x (0, [(6, 1)]) = x 6 := (l_e1 _ _)
    have E4 : y_ev x (0, []) = 0 := (l_e0 _ _)
    have T0 : q_sto v 0 (y_ev x (0, [(4, 1)])) (y_ev x (0, [(3, 1)])) (y_ev x (0, [(5, 1)])) (y_ev x (0, [(6, 1)])) (y_ev x (0, [])) (y_ev x (0, [])) (y_ev x (0, [])) (y_ev x (0, [])) (y_ev x (0, [])) (y_ev x (0, [])) (y_ev x (0, [])) := h.2.2.2.1
    (try rw [E0] at T0); (try rw [E1] at T0); (try rw [E2] at T0); (try rw [E3] at T0); (try rw [E4] at T0)
    have K := k_nstq (V := v) (i := x 0) (v := x 1) (w := x 2) (p := x 3) (H := x 4) (y := x 5) (d := x 6) (n := x 7) T0 C0 C1 C2 C3 C4 F0 F1 F2
    refine l_outH rfl (And.intro h.1 ?_)
    have O0 : y_ev x (18, []) = 18 := l_e0 _ _
    have O1 : y_ev x (0, []) = 0 := l_e0 _ _
    have O2 : y_ev x (0, [(0, 1)]) = x 0 := l_e1 _ _
    have O3 : y_ev x (0, [(1, 1)]) = x 1 := l_e1 _ _
    show (True) ∧ (q_qry v (y_ev x (18, [])) (y_ev x (0, [])) (y_ev x (0, [])) (y_ev x (0, [])) (y_ev x (0, [])) (y_ev x (0, [])) (y_ev x (0, [])) (y_ev x (0, [])) (y_ev x (0, [(0, 1)])) (y_ev x (0, [])) (y_ev x (0, [(1, 1)])) ∧ True)
    (try rw [O0]); (try rw [O1]); (try rw [O2]); (try rw [O3])
    exact K
def lm_1077 : zLem := (([((-2147483648), 2147483647), ((-2147483648), 2147483647), ((-2147483648), 2147483647), ((-2147483648), 2147483647)], [], [], [], [], [], [(235, [(0, [(3, 1)]), (0, [(0, 1)]), (0, [(1, 1)]), (0, [(2, 1)]), (0, []), (0, []), (0, []), (0, []), (0, []), (0, []), (0, [])])]), [([((-2147483648), 2147483647), ((-2147483648), 2147483647), ((-2147483648), 2147483647), ((-2147483648), 2147483647)], [], [], [], [], [], [(238, [(30, []), (0, []), (0, []), (0, []), (0, []), (0, []), (0, []), (0, []), (0, []), ((-2), []), (0, [])])])])
theorem lk_1077 : l_core lm_1077 := by
  first
  | skip
    intro v x h
    have K := k_grx0 (V := v) (p := x 0) (y := x 1) (d := x 2) (H := x 3) (l_c5 (fun w0 w1 w2 w3 w4 : Int => q_sto v 0 w0 w1 w2 w3 w4 w4 w4 w4 w4 w4 w4) (l_e1 x 3) (l_e1 x 0) (l_e1 x 1) (l_e1 x 2) (l_e0 x (0)) (h.2.2.2.1))
    refine l_outH rfl (And.intro h.1 ?_)
    exact l_o3 (fun w0 w1 w2 : Int => (True) ∧ (q_qry v w0 w1 w1 w1 w1 w1 w1 w1 w1 w2 w1 ∧ True)) (l_e0 x (30)) (l_e0 x (0)) (l_e0 x (-2)) K
  | skip
    intro v x h
    have E0 : y_ev x (0, [(3, 1)]) = x 3 := (l_e1 _ _)
    have E1 : y_ev x (0, [(0, 1)]) = x 0 := (l_e1 _ _)
    have E2 : y_ev x (0, [(1, 1)]) = x 1 := (l_e1 _ _)
    have E3 : y_ev x (0, [(2, 1)]) = x 2 := (l_e1 _ _)
    have E4 : y_ev x (0, []) = 0 := (l_e0 _ _)
    have T0 : q_sto v 0 (y_ev x (0, [(3, 1)])) (y_ev x (0, [(0, 1)])) (y_ev x (0, [(1, 1)])) (y_ev x (0, [(2, 1)])) (y_ev x (0, [])) (y_ev x (0, [])) (y_ev x (0, [])) (y_ev x (0, [])) (y_ev x (0, [])) (y_ev x (0, [])) (y_ev x (0, [])) := h.2.2.2.1
    (try rw [E0] at T0); (try rw [E1] at T0); (try rw [E2] at T0); (try rw [E3] at T0); (try rw [E4] at T0)
    have K := k_grx0 (V := v) (p := x 0) (y := x 1) (d := x 2) (H := x 3) T0
    refine l_outH rfl (And.intro h.1 ?_)
    have O0 : y_ev x (30, []) = 30 := l_e0 _ _
    have O1 : y_ev x (0, []) = 0 := l_e0 _ _
    have O2 : y_ev x ((-2), []) = (-2) := l_e0 _ _
    show (True) ∧ (q_qry v (y_ev x (30, [])) (y_ev x (0, [])) (y_ev x (0, [])) (y_ev x (0, [])) (y_ev x (0, [])) (y_ev x (0, [])) (y_ev x (0, [])) (y_ev x (0, [])) (y_ev x (0, [])) (y_ev x ((-2), [])) (y_ev x (0, [])) ∧ True)
    (try rw [O0]); (try rw [O1]); (try rw [O2])
    exact K
def lm_1078 : zLem := (([((-2147483648), 2147483647), ((-2147483648), 2147483647), ((-2147483648), 2147483647), ((-2147483648), 2147483647), ((-2147483648), 2147483647), ((-2147483648), 2147483647), ((-2147483648), 2147483647)], [(77, false)], [(0, [(1, 1)]), ((-1), [(0, 1), (1, (-1))]), (0, [(0, (-1)), (4, 1)]), (0, [(0, 1), (4, (-1))]), ((-1), [(2, (-1))])], [], [(0, 0, 0, [(1, 1)]), (0, 0, 0, [(2, 1)])], [(0, (true, 0, 24, []), 0, 0, 0, [(0, 1)])], [(235, [(0, [(3, 1)]), (0, [(4, 1)]), (0, [(5, 1)]), (0, [(6, 1)]), (0, []), (0, []), (0, []), (0, []), (0, []), (0, []), (0, [])]), (238, [(30, []), (0, []), (0, []), (0, []), (0, []), (0, []), (0, []), (0, []), (0, [(1, 1)]), (0, [(2, 1)]), (0, [])])]), [([((-2147483648), 2147483647), ((-2147483648), 2147483647), ((-2147483648), 2147483647), ((-2147483648), 2147483647), ((-2147483648), 2147483647), ((-2147483648), 2147483647), ((-2147483648), 2147483647)], [(77, false)], [((-1), [(1, (-1)), (4, 1)])], [], [], [], [(238, [(30, []), (0, []), (0, []), (0, []), (0, []), (0, []), (0, []), (0, []), (1, [(1, 1)]), (0, [(1, 1)]), (0, [])])])])
theorem lk_1078 : l_core lm_1078 := by
  first
  | skip
    intro v x h
    have G0 := h.2.2.1
    have K := k_grxA (V := v) (n := x 0) (i := x 1) (bb := x 2) (H := x 3) (p := x 4) (y := x 5) (d := x 6) (l_c5 (fun w0 w1 w2 w3 w4 : Int => q_sto v 0 w0 w1 w2 w3 w4 w4 w4 w4 w4 w4 w4) (l_e1 x 3) (l_e1 x 4) (l_e1 x 5) (l_e1 x 6) (l_e0 x (0)) (h.2.2.2.1)) (l_c4 (fun w0 w1 w2 w3 : Int => q_qry v w0 w1 w1 w1 w1 w1 w1 w1 w2 w3 w1) (l_e0 x (30)) (l_e0 x (0)) (l_e1 x 1) (l_e1 x 2) (h.2.2.2.2.1)) (l_cc (l_e1 x 1) (h.2.1.1)) (l_cc (l_q8 1 x 0 1) (h.2.1.2.1)) (l_cc (l_q4 x 0 4) (h.2.1.2.2.1)) (l_cc (l_q5 x 0 4) (h.2.1.2.2.2.1)) (l_cc (l_q11 1 x 2) (h.2.1.2.2.2.2.1)) (l_ff (f := v 77) (L := j_len 77) (l_e0 x (24)) (l_e1 x 0) (G0.1.1))
    refine l_outH rfl (And.intro h.1 ?_)
    exact l_o5 (fun w0 w1 w2 w3 w4 : Int => (0 ≤ w0 ∧ True) ∧ (q_qry v w1 w2 w2 w2 w2 w2 w2 w2 w3 w4 w2 ∧ True)) (l_q6 1 x 1 4) (l_e0 x (30)) (l_e0 x (0)) (l_q3 1 x 1) (l_e1 x 1) K
  | skip
    intro v x h
    have G0 := h.2.2.1
    have C0 : (0 : Int) ≤ x 1 := l_cc (a := y_ev x (0, [(1, 1)])) (l_e1 _ _) (h.2.1.1)
    have C1 : (0 : Int) ≤ x 0 - x 1 - 1 := l_cc (a := y_ev x ((-1), [(0, 1), (1, (-1))])) (by show ((-1) : Int) + ((1) * x 0 + ((-1) * x 1 + 0)) = x 0 - x 1 - 1; omega) (h.2.1.2.1)
    have C2 : (0 : Int) ≤ x 4 - x 0 := l_cc (a := y_ev x (0, [(0, (-1)), (4, 1)])) (by show ((0) : Int) + ((-1) * x 0 + ((1) * x 4 + 0)) = x 4 - x 0; omega) (h.2.1.2.2.1)
    have C3 : (0 : Int) ≤ x 0 - x 4 := l_cc (a := y_ev x (0, [(0, 1), (4, (-1))])) (by show ((0) : Int) + ((1) * x 0 + ((-1) * x 4 + 0)) = x 0 - x 4; omega) (h.2.1.2.2.2.1)
    have C4 : (0 : Int) ≤ -x 2 - 1 := l_cc (a := y_ev x ((-1), [(2, (-1))])) (by show ((-1) : Int) + ((-1) * x 2 + 0) = -x 2 - 1; omega) (h.2.1.2.2.2.2.1)
    have F0 : (0 : Int) ≤ 24 ∧ (24 : Int) < j_len 77 ∧ v 77 (24) = x 0 := l_ff (f := v 77) (L := j_len 77) (a := y_ev x (24, [])) (b := y_ev x (0, [(0, 1)])) (l_e0 _ _) (l_e1 _ _) (G0.1.1)
    have E0 : y_ev x (0, [(3, 1)]) = x 3 := (l_e1 _ _)
    have E1 : y_ev x (0, [(4, 1)]) = x 4 := (l_e1 _ _)
    have E2 : y_ev x (0, [(5, 1)]) = x 5 := (l_e1 _ _)
    have E3 : y_ev x (0, [(6, 1)]) = x 6 := (l_e1 _ _)
    have E4 : y_ev x (0, []) = 0 := (l_e0 _ _)
    have E5 : y_ev x (30, []) = 30 := (l_e0 _ _)
    have E6 : y_ev x (0, [(1, 1)]) = x 1 := (l_e1 _ _)
    have E7 : y_ev x (0, [(2, 1)]) = x 2 := (l_e1 _ _)
    have T0 : q_sto v 0 (y_ev x (0, [(3, 1)])) (y_ev x (0, [(4, 1)])) (y_ev x (0, [(5, 1)])) (y_ev x (0, [(6, 1)])) (y_ev x (0, [])) (y_ev x (0, [])) (y_ev x (0, [])) (y_ev x (0, [])) (y_ev x (0, [])) (y_ev x (0, [])) (y_ev x (0, [])) := h.2.2.2.1
    (try rw [E0] at T0); (try rw [E1] at T0); (try rw [E2] at T0); (try rw [E3] at T0); (try rw [E4] at T0)
    have T1 : q_qry v (y_ev x (30, [])) (y_ev x (0, [])) (y_ev x (0, [])) (y_ev x (0, [])) (y_ev x (0, [])) (y_ev x (0, [])) (y_ev x (0, [])) (y_ev x (0, [])) (y_ev x (0, [(1, 1)])) (y_ev x (0, [(2, 1)])) (y_ev x (0, [])) := h.2.2.2.2.1
    (try rw [E5] at T1); (try rw [E4] at T1); (try rw [E6] at T1); (try rw [E7] at T1)
    have K := k_grxA (V := v) (n := x 0) (i := x 1) (bb := x 2) (H := x 3) (p := x 4) (y := x 5) (d := x 6) T0 T1 C0 C1 C2 C3 C4 F0
    refine l_outH rfl (And.intro h.1 ?_)
    have O0 : y_ev x ((-1), [(1, (-1)), (4, 1)]) = x 4 - x 1 - 1 := by show ((-1) : Int) + ((-1) * x 1 + ((1) * x 4 + 0)) = _; omega
    have O1 : y_ev x (30, []) = 30 := l_e0 _ _
    have O2 : y_ev x (0, []) = 0 := l_e0 _ _
    have O3 : y_ev x (1, [(1, 1)]) = x 1 + 1 := by show ((1) : Int) + ((1) * x 1 + 0) = _; omega
    have O4 : y_ev x (0, [(1, 1)]) = x 1 := l_e1 _ _
    show (0 ≤ y_ev x ((-1), [(1, (-1)), (4, 1)]) ∧ True) ∧ (q_qry v (y_ev x (30, [])) (y_ev x (0, [])) (y_ev x (0, [])) (y_ev x (0, [])) (y_ev x (0, [])) (y_ev x (0, [])) (y_ev x (0, [])) (y_ev x (0, [])) (y_ev x (1, [(1, 1)])) (y_ev x (0, [(1, 1)])) (y_ev x (0, [])) ∧ True)
    (try rw [O0]); (try rw [O1]); (try rw [O2]); (try rw [O3]); (try rw [O4])
    exact K
def lm_1079pg_0 (t : List zTg) : List zTg := (235, [(0, [(5, 1)]), (0, [(6, 1)]), (0, [(7, 1)]), (0, [(8, 1)]), (0, []), (0, []), (0, []), (0, []), (0, []), (0, []), (0, [])]) :: (238, [(30, []), (0, []), (0, []), (0, []), (0, []), (0, []), (0, []), (0, []), (0, [(1, 1)]), (0, [(2, 1)]), (0, [])]) :: (238, [(18, []), (0, []), (0, []), (0, []), (0, []), (0, []), (0, []), (0, []), (0, [(1, 1)]), (0, []), (0, [(3, 1)])]) :: (238, [(18, []), (0, []), (0, []), (0, []), (0, []), (0, []), (0, []), (0, []), (0, [(2, 1)]), (0, []), (0, [(4, 1)])]) :: t
def lm_1079p : zS := ((lm_474pi_0 (lm_474pi_1 [])), [(77, false)], [(0, [(1, 1)]), ((-1), [(0, 1), (1, (-1))]), (0, [(0, (-1)), (6, 1)]), (0, [(0, 1), (6, (-1))]), (0, [(2, 1)]), ((-1), [(3, (-1)), (4, 1)])], [], [(0, 0, 0, [(1, 1)]), (0, 0, 0, [(2, 1)])], [(0, (true, 0, 24, []), 0, 0, 0, [(0, 1)])], (lm_1079pg_0 []))
def lm_1079 : zLem := (lm_1079p, [([((-2147483648), 2147483647), ((-2147483648), 2147483647), ((-2147483648), 2147483647), ((-2147483648), 2147483647), ((-2147483648), 2147483647), ((-2147483648), 2147483647), ((-2147483648), 2147483647), ((-2147483648), 2147483647), ((-2147483648), 2147483647)], [(77, false)], [((-1), [(1, (-1)), (6, 1)])], [], [], [], [(238, [(30, []), (0, []), (0, []), (0, []), (0, []), (0, []), (0, []), (0, []), (1, [(1, 1)]), (0, [(1, 1)]), (0, [])])])])
theorem lk_1079 : l_core lm_1079 := by
  first
  | skip
    intro v x h
    have G0 := h.2.2.1
    have K := k_grxB (V := v) (n := x 0) (i := x 1) (bb := x 2) (v := x 3) (w := x 4) (H := x 5) (p := x 6) (y := x 7) (d := x 8) (l_c5 (fun w0 w1 w2 w3 w4 : Int => q_sto v 0 w0 w1 w2 w3 w4 w4 w4 w4 w4 w4 w4) (l_e1 x 5) (l_e1 x 6) (l_e1 x 7) (l_e1 x 8) (l_e0 x (0)) (h.2.2.2.1)) (l_c4 (fun w0 w1 w2 w3 : Int => q_qry v w0 w1 w1 w1 w1 w1 w1 w1 w2 w3 w1) (l_e0 x (30)) (l_e0 x (0)) (l_e1 x 1) (l_e1 x 2) (h.2.2.2.2.1)) (l_c4 (fun w0 w1 w2 w3 : Int => q_qry v w0 w1 w1 w1 w1 w1 w1 w1 w2 w1 w3) (l_e0 x (18)) (l_e0 x (0)) (l_e1 x 1) (l_e1 x 3) (h.2.2.2.2.2.1)) (l_c4 (fun w0 w1 w2 w3 : Int => q_qry v w0 w1 w1 w1 w1 w1 w1 w1 w2 w1 w3) (l_e0 x (18)) (l_e0 x (0)) (l_e1 x 2) (l_e1 x 4) (h.2.2.2.2.2.2.1)) (l_cc (l_e1 x 1) (h.2.1.1)) (l_cc (l_q8 1 x 0 1) (h.2.1.2.1)) (l_cc (l_q4 x 0 6) (h.2.1.2.2.1)) (l_cc (l_q5 x 0 6) (h.2.1.2.2.2.1)) (l_cc (l_e1 x 2) (h.2.1.2.2.2.2.1)) (l_cc (l_q6 1 x 3 4) (h.2.1.2.2.2.2.2.1)) (l_ff (f := v 77) (L := j_len 77) (l_e0 x (24)) (l_e1 x 0) (G0.1.1))
    refine l_outH rfl (And.intro h.1 ?_)
    exact l_o5 (fun w0 w1 w2 w3 w4 : Int => (0 ≤ w0 ∧ True) ∧ (q_qry v w1 w2 w2 w2 w2 w2 w2 w2 w3 w4 w2 ∧ True)) (l_q6 1 x 1 6) (l_e0 x (30)) (l_e0 x (0)) (l_q3 1 x 1) (l_e1 x 1) K
  | skip
    intro v x h
    have G0 := h.2.2.1
    have C0 : (0 : Int) ≤ x 1 := l_cc (a := y_ev x (0, [(1, 1)])) (l_e1 _ _) (h.2.1.1)
    have C1 : (0 : Int) ≤ x 0 - x 1 - 1 := l_cc (a := y_ev x ((-1), [(0, 1), (1, (-1))])) (by show ((-1) : Int) + ((1) * x 0 + ((-1) * x 1 + 0)) = x 0 - x 1 - 1; omega) (h.2.1.2.1)
    have C2 : (0 : Int) ≤ x 6 - x 0 := l_cc (a := y_ev x (0, [(0, (-1)), (6, 1)])) (by show ((0) : Int) + ((-1) * x 0 + ((1) * x 6 + 0)) = x 6 - x 0; omega) (h.2.1.2.2.1)
    have C3 : (0 : Int) ≤ x 0 - x 6 := l_cc (a := y_ev x (0, [(0, 1), (6, (-1))])) (by show ((0) : Int) + ((1) * x 0 + ((-1) * x 6 + 0)) = x 0 - x 6; omega) (h.2.1.2.2.2.1)
    have C4 : (0 : Int) ≤ x 2 := l_cc (a := y_ev x (0, [(2, 1)])) (l_e1 _ _) (h.2.1.2.2.2.2.1)
    have C5 : (0 : Int) ≤ x 4 - x 3 - 1 := l_cc (a := y_ev x ((-1), [(3, (-1)), (4, 1)])) (by show ((-1) : Int) + ((-1) * x 3 + ((1) * x 4 + 0)) = x 4 - x 3 - 1; omega) (h.2.1.2.2.2.2.2.1)
    have F0 : (0 : Int) ≤ 24 ∧ (24 : Int) < j_len 77 ∧ v 77 (24) = x 0 := l_ff (f := v 77) (L := j_len 77) (a := y_ev x (24, [])) (b := y_ev x (0, [(0, 1)])) (l_e0 _ _) (l_e1 _ _) (G0.1.1)
    have E0 : y_ev x (0, [(5, 1)]) = x 5 := (l_e1 _ _)
    have E1 : y_ev x (0, [(6, 1)]) = x 6 := (l_e1 _ _)
    have E2 : y_ev x (0, [(7, 1)]) = x 7 := (l_e1 _ _)
    have E3 : y_ev x (0, [(8, 1)]) = x 8 := (l_e1 _ _)
    have E4 : y_ev x (0, []) = 0 := (l_e0 _ _)
    have E5 : y_ev x (30, []) = 30 := (l_e0 _ _)
    have E6 : y_ev x (0, [(1, 1)]) = x 1 := (l_e1 _ _)
    have E7 : y_ev x (0, [(2, 1)]) = x 2 := (l_e1 _ _)
    have E8 : y_ev x (18, []) = 18 := (l_e0 _ _)
    have E9 : y_ev x (0, [(3, 1)]) = x 3 := (l_e1 _ _)
    have E10 : y_ev x (0, [(4, 1)]) = x 4 := (l_e1 _ _)
    have T0 : q_sto v 0 (y_ev x (0, [(5, 1)])) (y_ev x (0, [(6, 1)])) (y_ev x (0, [(7, 1)])) (y_ev x (0, [(8, 1)])) (y_ev x (0, [])) (y_ev x (0, [])) (y_ev x (0, [])) (y_ev x (0, [])) (y_ev x (0, [])) (y_ev x (0, [])) (y_ev x (0, [])) := h.2.2.2.1
    (try rw [E0] at T0); (try rw [E1] at T0); (try rw [E2] at T0); (try rw [E3] at T0); (try rw [E4] at T0)
    have T1 : q_qry v (y_ev x (30, [])) (y_ev x (0, [])) (y_ev x (0, [])) (y_ev x (0, [])) (y_ev x (0, [])) (y_ev x (0, [])) (y_ev x (0, [])) (y_ev x (0, [])) (y_ev x (0, [(1, 1)])) (y_ev x (0, [(2, 1)])) (y_ev x (0, [])) := h.2.2.2.2.1
    (try rw [E5] at T1); (try rw [E4] at T1); (try rw [E6] at T1); (try rw [E7] at T1)
    have T2 : q_qry v (y_ev x (18, [])) (y_ev x (0, [])) (y_ev x (0, [])) (y_ev x (0, [])) (y_ev x (0, [])) (y_ev x (0, [])) (y_ev x (0, [])) (y_ev x (0, [])) (y_ev x (0, [(1, 1)])) (y_ev x (0, [])) (y_ev x (0, [(3, 1)])) := h.2.2.2.2.2.1
    (try rw [E8] at T2); (try rw [E4] at T2); (try rw [E6] at T2); (try rw [E9] at T2)
    have T3 : q_qry v (y_ev x (18, [])) (y_ev x (0, [])) (y_ev x (0, [])) (y_ev x (0, [])) (y_ev x (0, [])) (y_ev x (0, [])) (y_ev x (0, [])) (y_ev x (0, [])) (y_ev x (0, [(2, 1)])) (y_ev x (0, [])) (y_ev x (0, [(4, 1)])) := h.2.2.2.2.2.2.1
    (try rw [E8] at T3); (try rw [E4] at T3); (try rw [E7] at T3); (try rw [E10] at T3)
    have K := k_grxB (V := v) (n := x 0) (i := x 1) (bb := x 2) (v := x 3) (w := x 4) (H := x 5) (p := x 6) (y := x 7) (d := x 8) T0 T1 T2 T3 C0 C1 C2 C3 C4 C5 F0
    refine l_outH rfl (And.intro h.1 ?_)
    have O0 : y_ev x ((-1), [(1, (-1)), (6, 1)]) = x 6 - x 1 - 1 := by show ((-1) : Int) + ((-1) * x 1 + ((1) * x 6 + 0)) = _; omega
    have O1 : y_ev x (30, []) = 30 := l_e0 _ _
    have O2 : y_ev x (0, []) = 0 := l_e0 _ _
    have O3 : y_ev x (1, [(1, 1)]) = x 1 + 1 := by show ((1) : Int) + ((1) * x 1 + 0) = _; omega
    have O4 : y_ev x (0, [(1, 1)]) = x 1 := l_e1 _ _
    show (0 ≤ y_ev x ((-1), [(1, (-1)), (6, 1)]) ∧ True) ∧ (q_qry v (y_ev x (30, [])) (y_ev x (0, [])) (y_ev x (0, [])) (y_ev x (0, [])) (y_ev x (0, [])) (y_ev x (0, [])) (y_ev x (0, [])) (y_ev x (0, [])) (y_ev x (1, [(1, 1)])) (y_ev x (0, [(1, 1)])) (y_ev x (0, [])) ∧ True)
    (try rw [O0]); (try rw [O1]); (try rw [O2]); (try rw [O3]); (try rw [O4])
    exact K
def lm_1080p : zS := ((lm_474pi_0 (lm_474pi_1 [])), [(77, false)], [(0, [(1, 1)]), ((-1), [(0, 1), (1, (-1))]), (0, [(0, (-1)), (6, 1)]), (0, [(0, 1), (6, (-1))]), (0, [(2, 1)]), (0, [(3, 1), (4, (-1))])], [], [(0, 0, 0, [(1, 1)]), (0, 0, 0, [(2, 1)])], [(0, (true, 0, 24, []), 0, 0, 0, [(0, 1)])], (lm_1079pg_0 []))
def lm_1080 : zLem := (lm_1080p, [([((-2147483648), 2147483647), ((-2147483648), 2147483647), ((-2147483648), 2147483647), ((-2147483648), 2147483647), ((-2147483648), 2147483647), ((-2147483648), 2147483647), ((-2147483648), 2147483647), ((-2147483648), 2147483647), ((-2147483648), 2147483647)], [(77, false)], [], [], [], [], [(238, [(30, []), (0, []), (0, []), (0, []), (0, []), (0, []), (0, []), (0, []), (1, [(1, 1)]), (0, [(2, 1)]), (0, [])])])])
theorem lk_1080 : l_core lm_1080 := by
  first
  | skip
    intro v x h
    have G0 := h.2.2.1
    have K := k_grxN (V := v) (n := x 0) (i := x 1) (bb := x 2) (v := x 3) (w := x 4) (H := x 5) (p := x 6) (y := x 7) (d := x 8) (l_c5 (fun w0 w1 w2 w3 w4 : Int => q_sto v 0 w0 w1 w2 w3 w4 w4 w4 w4 w4 w4 w4) (l_e1 x 5) (l_e1 x 6) (l_e1 x 7) (l_e1 x 8) (l_e0 x (0)) (h.2.2.2.1)) (l_c4 (fun w0 w1 w2 w3 : Int => q_qry v w0 w1 w1 w1 w1 w1 w1 w1 w2 w3 w1) (l_e0 x (30)) (l_e0 x (0)) (l_e1 x 1) (l_e1 x 2) (h.2.2.2.2.1)) (l_c4 (fun w0 w1 w2 w3 : Int => q_qry v w0 w1 w1 w1 w1 w1 w1 w1 w2 w1 w3) (l_e0 x (18)) (l_e0 x (0)) (l_e1 x 1) (l_e1 x 3) (h.2.2.2.2.2.1)) (l_c4 (fun w0 w1 w2 w3 : Int => q_qry v w0 w1 w1 w1 w1 w1 w1 w1 w2 w1 w3) (l_e0 x (18)) (l_e0 x (0)) (l_e1 x 2) (l_e1 x 4) (h.2.2.2.2.2.2.1)) (l_cc (l_e1 x 1) (h.2.1.1)) (l_cc (l_q8 1 x 0 1) (h.2.1.2.1)) (l_cc (l_q4 x 0 6) (h.2.1.2.2.1)) (l_cc (l_q5 x 0 6) (h.2.1.2.2.2.1)) (l_cc (l_e1 x 2) (h.2.1.2.2.2.2.1)) (l_cc (l_q5 x 3 4) (h.2.1.2.2.2.2.2.1)) (l_ff (f := v 77) (L := j_len 77) (l_e0 x (24)) (l_e1 x 0) (G0.1.1))
    refine l_outH rfl (And.intro h.1 ?_)
    exact l_o4 (fun w0 w1 w2 w3 : Int => (True) ∧ (q_qry v w0 w1 w1 w1 w1 w1 w1 w1 w2 w3 w1 ∧ True)) (l_e0 x (30)) (l_e0 x (0)) (l_q3 1 x 1) (l_e1 x 2) K
  | skip
    intro v x h
    have G0 := h.2.2.1
    have C0 : (0 : Int) ≤ x 1 := l_cc (a := y_ev x (0, [(1, 1)])) (l_e1 _ _) (h.2.1.1)
    have C1 : (0 : Int) ≤ x 0 - x 1 - 1 := l_cc (a := y_ev x ((-1), [(0, 1), (1, (-1))])) (by show ((-1) : Int) + ((1) * x 0 + ((-1) * x 1 + 0)) = x 0 - x 1 - 1; omega) (h.2.1.2.1)
    have C2 : (0 : Int) ≤ x 6 - x 0 := l_cc (a := y_ev x (0, [(0, (-1)), (6, 1)])) (by show ((0) : Int) + ((-1) * x 0 + ((1) * x 6 + 0)) = x 6 - x 0; omega) (h.2.1.2.2.1)
    have C3 : (0 : Int) ≤ x 0 - x 6 := l_cc (a := y_ev x (0, [(0, 1), (6, (-1))])) (by show ((0) : Int) + ((1) * x 0 + ((-1) * x 6 + 0)) = x 0 - x 6; omega) (h.2.1.2.2.2.1)
    have C4 : (0 : Int) ≤ x 2 := l_cc (a := y_ev x (0, [(2, 1)])) (l_e1 _ _) (h.2.1.2.2.2.2.1)
    have C5 : (0 : Int) ≤ x 3 - x 4 := l_cc (a := y_ev x (0, [(3, 1), (4, (-1))])) (by show ((0) : Int) + ((1) * x 3 + ((-1) * x 4 + 0)) = x 3 - x 4; omega) (h.2.1.2.2.2.2.2.1)
    have F0 : (0 : Int) ≤ 24 ∧ (24 : Int) < j_len 77 ∧ v 77 (24) = x 0 := l_ff (f := v 77) (L := j_len 77) (a := y_ev x (24, [])) (b := y_ev x (0, [(0, 1)])) (l_e0 _ _) (l_e1 _ _) (G0.1.1)
    have E0 : y_ev x (0, [(5, 1)]) = x 5 := (l_e1 _ _)
    have E1 : y_ev x (0, [(6, 1)]) = x 6 := (l_e1 _ _)
    have E2 : y_ev x (0, [(7, 1)]) = x 7 := (l_e1 _ _)
    have E3 : y_ev x (0, [(8, 1)]) = x 8 := (l_e1 _ _)
    have E4 : y_ev x (0, []) = 0 := (l_e0 _ _)
    have E5 : y_ev x (30, []) = 30 := (l_e0 _ _)
    have E6 : y_ev x (0, [(1, 1)]) = x 1 := (l_e1 _ _)
    have E7 : y_ev x (0, [(2, 1)]) = x 2 := (l_e1 _ _)
    have E8 : y_ev x (18, []) = 18 := (l_e0 _ _)
    have E9 : y_ev x (0, [(3, 1)]) = x 3 := (l_e1 _ _)
    have E10 : y_ev x (0, [(4, 1)]) = x 4 := (l_e1 _ _)
    have T0 : q_sto v 0 (y_ev x (0, [(5, 1)])) (y_ev x (0, [(6, 1)])) (y_ev x (0, [(7, 1)])) (y_ev x (0, [(8, 1)])) (y_ev x (0, [])) (y_ev x (0, [])) (y_ev x (0, [])) (y_ev x (0, [])) (y_ev x (0, [])) (y_ev x (0, [])) (y_ev x (0, [])) := h.2.2.2.1
    (try rw [E0] at T0); (try rw [E1] at T0); (try rw [E2] at T0); (try rw [E3] at T0); (try rw [E4] at T0)
    have T1 : q_qry v (y_ev x (30, [])) (y_ev x (0, [])) (y_ev x (0, [])) (y_ev x (0, [])) (y_ev x (0, [])) (y_ev x (0, [])) (y_ev x (0, [])) (y_ev x (0, [])) (y_ev x (0, [(1, 1)])) (y_ev x (0, [(2, 1)])) (y_ev x (0, [])) := h.2.2.2.2.1
    (try rw [E5] at T1); (try rw [E4] at T1); (try rw [E6] at T1); (try rw [E7] at T1)
    have T2 : q_qry v (y_ev x (18, [])) (y_ev x (0, [])) (y_ev x (0, [])) (y_ev x (0, [])) (y_ev x (0, [])) (y_ev x (0, [])) (y_ev x (0, [])) (y_ev x (0, [])) (y_ev x (0, [(1, 1)])) (y_ev x (0, [])) (y_ev x (0, [(3, 1)])) := h.2.2.2.2.2.1
    (try rw [E8] at T2); (try rw [E4] at T2); (try rw [E6] at T2); (try rw [E9] at T2)
    have T3 : q_qry v (y_ev x (18, [])) (y_ev x (0, [])) (y_ev x (0, [])) (y_ev x (0, [])) (y_ev x (0, [])) (y_ev x (0, [])) (y_ev x (0, [])) (y_ev x (0, [])) (y_ev x (0, [(2, 1)])) (y_ev x (0, [])) (y_ev x (0, [(4, 1)])) := h.2.2.2.2.2.2.1
    (try rw [E8] at T3); (try rw [E4] at T3); (try rw [E7] at T3); (try rw [E10] at T3)
    have K := k_grxN (V := v) (n := x 0) (i := x 1) (bb := x 2) (v := x 3) (w := x 4) (H := x 5) (p := x 6) (y := x 7) (d := x 8) T0 T1 T2 T3 C0 C1 C2 C3 C4 C5 F0
    refine l_outH rfl (And.intro h.1 ?_)
    have O0 : y_ev x (30, []) = 30 := l_e0 _ _
    have O1 : y_ev x (0, []) = 0 := l_e0 _ _
    have O2 : y_ev x (1, [(1, 1)]) = x 1 + 1 := by show ((1) : Int) + ((1) * x 1 + 0) = _; omega
    have O3 : y_ev x (0, [(2, 1)]) = x 2 := l_e1 _ _
    show (True) ∧ (q_qry v (y_ev x (30, [])) (y_ev x (0, [])) (y_ev x (0, [])) (y_ev x (0, [])) (y_ev x (0, [])) (y_ev x (0, [])) (y_ev x (0, [])) (y_ev x (0, [])) (y_ev x (1, [(1, 1)])) (y_ev x (0, [(2, 1)])) (y_ev x (0, [])) ∧ True)
    (try rw [O0]); (try rw [O1]); (try rw [O2]); (try rw [O3])
    exact K
def lm_1081 : zLem := (([((-2147483648), 2147483647), ((-2147483648), 2147483647), ((-2147483648), 2147483647), ((-2147483648), 2147483647), ((-2147483648), 2147483647), ((-2147483648), 2147483647), ((-2147483648), 2147483647)], [(77, false)], [(0, [(0, (-1)), (1, 1)]), (0, [(0, (-1)), (4, 1)]), (0, [(0, 1), (4, (-1))])], [], [(0, 0, 0, [(2, 1)]), (0, 0, 0, [(1, 1)])], [(0, (true, 0, 24, []), 0, 0, 0, [(0, 1)])], [(235, [(0, [(3, 1)]), (0, [(4, 1)]), (0, [(5, 1)]), (0, [(6, 1)]), (0, []), (0, []), (0, []), (0, []), (0, []), (0, []), (0, [])]), (238, [(30, []), (0, []), (0, []), (0, []), (0, []), (0, []), (0, []), (0, []), (0, [(1, 1)]), (0, [(2, 1)]), (0, [])])]), [([((-2147483648), 2147483647), ((-2147483648), 2147483647), ((-2147483648), 2147483647), ((-2147483648), 2147483647), ((-2147483648), 2147483647), ((-2147483648), 2147483647), ((-2147483648), 2147483647)], [(77, false)], [], [], [], [], [(238, [(30, []), (0, []), (0, []), (0, []), (0, []), (0, []), (0, []), (0, []), (0, [(4, 1)]), (0, [(2, 1)]), (0, [])])])])
theorem lk_1081 : l_core lm_1081 := by
  first
  | skip
    intro v x h
    have G0 := h.2.2.1
    have K := k_grxE (V := v) (n := x 0) (i := x 1) (bb := x 2) (H := x 3) (p := x 4) (y := x 5) (d := x 6) (l_c5 (fun w0 w1 w2 w3 w4 : Int => q_sto v 0 w0 w1 w2 w3 w4 w4 w4 w4 w4 w4 w4) (l_e1 x 3) (l_e1 x 4) (l_e1 x 5) (l_e1 x 6) (l_e0 x (0)) (h.2.2.2.1)) (l_c4 (fun w0 w1 w2 w3 : Int => q_qry v w0 w1 w1 w1 w1 w1 w1 w1 w2 w3 w1) (l_e0 x (30)) (l_e0 x (0)) (l_e1 x 1) (l_e1 x 2) (h.2.2.2.2.1)) (l_cc (l_q4 x 0 1) (h.2.1.1)) (l_cc (l_q4 x 0 4) (h.2.1.2.1)) (l_cc (l_q5 x 0 4) (h.2.1.2.2.1)) (l_ff (f := v 77) (L := j_len 77) (l_e0 x (24)) (l_e1 x 0) (G0.1.1))
    refine l_outH rfl (And.intro h.1 ?_)
    exact l_o4 (fun w0 w1 w2 w3 : Int => (True) ∧ (q_qry v w0 w1 w1 w1 w1 w1 w1 w1 w2 w3 w1 ∧ True)) (l_e0 x (30)) (l_e0 x (0)) (l_e1 x 4) (l_e1 x 2) K
  | skip
    intro v x h
    have G0 := h.2.2.1
    have C0 : (0 : Int) ≤ x 1 - x 0 := l_cc (a := y_ev x (0, [(0, (-1)), (1, 1)])) (by show ((0) : Int) + ((-1) * x 0 + ((1) * x 1 + 0)) = x 1 - x 0; omega) (h.2.1.1)
    have C1 : (0 : Int) ≤ x 4 - x 0 := l_cc (a := y_ev x (0, [(0, (-1)), (4, 1)])) (by show ((0) : Int) + ((-1) * x 0 + ((1) * x 4 + 0)) = x 4 - x 0; omega) (h.2.1.2.1)
    have C2 : (0 : Int) ≤ x 0 - x 4 := l_cc (a := y_ev x (0, [(0, 1), (4, (-1))])) (by show ((0) : Int) + ((1) * x 0 + ((-1) * x 4 + 0)) = x 0 - x 4; omega) (h.2.1.2.2.1)
    have F0 : (0 : Int) ≤ 24 ∧ (24 : Int) < j_len 77 ∧ v 77 (24) = x 0 := l_ff (f := v 77) (L := j_len 77) (a := y_ev x (24, [])) (b := y_ev x (0, [(0, 1)])) (l_e0 _ _) (l_e1 _ _) (G0.1.1)
    have E0 : y_ev x (0, [(3, 1)]) = x 3 := (l_e1 _ _)
    have E1 : y_ev x (0, [(4, 1)]) = x 4 := (l_e1 _ _)
    have E2 : y_ev x (0, [(5, 1)]) = x 5 := (l_e1 _ _)
    have E3 : y_ev x (0, [(6, 1)]) = x 6 := (l_e1 _ _)
    have E4 : y_ev x (0, []) = 0 := (l_e0 _ _)
    have E5 : y_ev x (30, []) = 30 := (l_e0 _ _)
    have E6 : y_ev x (0, [(1, 1)]) = x 1 := (l_e1 _ _)
    have E7 : y_ev x (0, [(2, 1)]) = x 2 := (l_e1 _ _)
    have T0 : q_sto v 0 (y_ev x (0, [(3, 1)])) (y_ev x (0, [(4, 1)])) (y_ev x (0, [(5, 1)])) (y_ev x (0, [(6, 1)])) (y_ev x (0, [])) (y_ev x (0, [])) (y_ev x (0, [])) (y_ev x (0, [])) (y_ev x (0, [])) (y_ev x (0, [])) (y_ev x (0, [])) := h.2.2.2.1
    (try rw [E0] at T0); (try rw [E1] at T0); (try rw [E2] at T0); (try rw [E3] at T0); (try rw [E4] at T0)
    have T1 : q_qry v (y_ev x (30, [])) (y_ev x (0, [])) (y_ev x (0, [])) (y_ev x (0, [])) (y_ev x (0, [])) (y_ev x (0, [])) (y_ev x (0, [])) (y_ev x (0, [])) (y_ev x (0, [(1, 1)])) (y_ev x (0, [(2, 1)])) (y_ev x (0, [])) := h.2.2.2.2.1
    (try rw [E5] at T1); (try rw [E4] at T1); (try rw [E6] at T1); (try rw [E7] at T1)
    have K := k_grxE (V := v) (n := x 0) (i := x 1) (bb := x 2) (H := x 3) (p := x 4) (y := x 5) (d := x 6) T0 T1 C0 C1 C2 F0
    refine l_outH rfl (And.intro h.1 ?_)
    have O0 : y_ev x (30, []) = 30 := l_e0 _ _
    have O1 : y_ev x (0, []) = 0 := l_e0 _ _
    have O2 : y_ev x (0, [(4, 1)]) = x 4 := l_e1 _ _
    have O3 : y_ev x (0, [(2, 1)]) = x 2 := l_e1 _ _
    show (True) ∧ (q_qry v (y_ev x (30, [])) (y_ev x (0, [])) (y_ev x (0, [])) (y_ev x (0, [])) (y_ev x (0, [])) (y_ev x (0, [])) (y_ev x (0, [])) (y_ev x (0, [])) (y_ev x (0, [(4, 1)])) (y_ev x (0, [(2, 1)])) (y_ev x (0, [])) ∧ True)
    (try rw [O0]); (try rw [O1]); (try rw [O2]); (try rw [O3])
    exact K
def lm_1082 : zLem := (([((-2147483648), 2147483647), ((-2147483648), 2147483647), ((-2147483648), 2147483647), ((-2147483648), 2147483647)], [], [], [], [], [], [(260, [(29, []), (0, []), (0, []), (0, []), (0, []), (0, []), (0, []), (0, []), (0, [(0, 1)]), (0, [(1, 1)]), (0, [(2, 1)])]), (238, [(30, []), (0, []), (0, []), (0, []), (0, []), (0, []), (0, []), (0, []), (0, [(0, 1)]), (0, [(3, 1)]), (0, [])])]), [([((-2147483648), 2147483647), ((-2147483648), 2147483647), ((-2147483648), 2147483647), ((-2147483648), 2147483647)], [], [(0, [(1, 1), (3, (-1))]), (0, [(1, (-1)), (3, 1)])], [], [], [], [])])
theorem lk_1082 : l_core lm_1082 := by
  first
  | skip
    intro v x h
    have K := k_qeG (V := v) (p := x 0) (bb := x 1) (l := x 2) (bc := x 3) (l_c5 (fun w0 w1 w2 w3 w4 : Int => q_qry v w0 w1 w1 w1 w1 w1 w1 w1 w2 w3 w4) (l_e0 x (29)) (l_e0 x (0)) (l_e1 x 0) (l_e1 x 1) (l_e1 x 2) (h.2.2.2.1)) (l_c4 (fun w0 w1 w2 w3 : Int => q_qry v w0 w1 w1 w1 w1 w1 w1 w1 w2 w3 w1) (l_e0 x (30)) (l_e0 x (0)) (l_e1 x 0) (l_e1 x 3) (h.2.2.2.2.1))
    refine l_outH rfl (And.intro h.1 ?_)
    exact l_o2 (fun w0 w1 : Int => (0 ≤ w0 ∧ 0 ≤ w1 ∧ True) ∧ (True)) (l_q5 x 1 3) (l_q4 x 1 3) K
  | skip
    intro v x h
    have E0 : y_ev x (29, []) = 29 := (l_e0 _ _)
    have E1 : y_ev x (0, []) = 0 := (l_e0 _ _)
    have E2 : y_ev x (0, [(0, 1)]) = x 0 := (l_e1 _ _)
    have E3 : y_ev x (0, [(1, 1)]) = x 1 := (l_e1 _ _)
    have E4 : y_ev x (0, [(2, 1)]) = x 2 := (l_e1 _ _)
    have E5 : y_ev x (30, []) = 30 := (l_e0 _ _)
    have E6 : y_ev x (0, [(3, 1)]) = x 3 := (l_e1 _ _)
    have T0 : q_qry v (y_ev x (29, [])) (y_ev x (0, [])) (y_ev x (0, [])) (y_ev x (0, [])) (y_ev x (0, [])) (y_ev x (0, [])) (y_ev x (0, [])) (y_ev x (0, [])) (y_ev x (0, [(0, 1)])) (y_ev x (0, [(1, 1)])) (y_ev x (0, [(2, 1)])) := h.2.2.2.1
    (try rw [E0] at T0); (try rw [E1] at T0); (try rw [E2] at T0); (try rw [E3] at T0); (try rw [E4] at T0)
    have T1 : q_qry v (y_ev x (30, [])) (y_ev x (0, [])) (y_ev x (0, [])) (y_ev x (0, [])) (y_ev x (0, [])) (y_ev x (0, [])) (y_ev x (0, [])) (y_ev x (0, [])) (y_ev x (0, [(0, 1)])) (y_ev x (0, [(3, 1)])) (y_ev x (0, [])) := h.2.2.2.2.1
    (try rw [E5] at T1); (try rw [E1] at T1); (try rw [E2] at T1); (try rw [E6] at T1)
    have K := k_qeG (V := v) (p := x 0) (bb := x 1) (l := x 2) (bc := x 3) T0 T1
    refine l_outH rfl (And.intro h.1 ?_)
    have O0 : y_ev x (0, [(1, 1), (3, (-1))]) = x 1 - x 3 := by show ((0) : Int) + ((1) * x 1 + ((-1) * x 3 + 0)) = _; omega
    have O1 : y_ev x (0, [(1, (-1)), (3, 1)]) = x 3 - x 1 := by show ((0) : Int) + ((-1) * x 1 + ((1) * x 3 + 0)) = _; omega
    show (0 ≤ y_ev x (0, [(1, 1), (3, (-1))]) ∧ 0 ≤ y_ev x (0, [(1, (-1)), (3, 1)]) ∧ True) ∧ (True)
    (try rw [O0]); (try rw [O1])
    exact K
def lm_1083 : zLem := (([((-2147483648), 2147483647), ((-2147483648), 2147483647), ((-2147483648), 2147483647), ((-2147483648), 2147483647)], [], [((-1), [(3, (-1))])], [], [], [], [(260, [(29, []), (0, []), (0, []), (0, []), (0, []), (0, []), (0, []), (0, []), (0, [(0, 1)]), (0, [(1, 1)]), (0, [(2, 1)])]), (238, [(30, []), (0, []), (0, []), (0, []), (0, []), (0, []), (0, []), (0, []), (0, [(0, 1)]), (0, [(3, 1)]), (0, [])])]), [([((-2147483648), 2147483647), ((-2147483648), 2147483647), ((-2147483648), 2147483647), ((-2147483648), 2147483647)], [], [(0, [(2, 1), (3, (-1))]), (0, [(2, (-1)), (3, 1)])], [], [], [], [])])
theorem lk_1083 : l_core lm_1083 := by
  first
  | skip
    intro v x h
    have K := k_qeGN (V := v) (p := x 0) (bb := x 1) (l := x 2) (bc := x 3) (l_c5 (fun w0 w1 w2 w3 w4 : Int => q_qry v w0 w1 w1 w1 w1 w1 w1 w1 w2 w3 w4) (l_e0 x (29)) (l_e0 x (0)) (l_e1 x 0) (l_e1 x 1) (l_e1 x 2) (h.2.2.2.1)) (l_c4 (fun w0 w1 w2 w3 : Int => q_qry v w0 w1 w1 w1 w1 w1 w1 w1 w2 w3 w1) (l_e0 x (30)) (l_e0 x (0)) (l_e1 x 0) (l_e1 x 3) (h.2.2.2.2.1)) (l_cc (l_q11 1 x 3) (h.2.1.1))
    refine l_outH rfl (And.intro h.1 ?_)
    exact l_o2 (fun w0 w1 : Int => (0 ≤ w0 ∧ 0 ≤ w1 ∧ True) ∧ (True)) (l_q5 x 2 3) (l_q4 x 2 3) K
  | skip
    intro v x h
    have C0 : (0 : Int) ≤ -x 3 - 1 := l_cc (a := y_ev x ((-1), [(3, (-1))])) (by show ((-1) : Int) + ((-1) * x 3 + 0) = -x 3 - 1; omega) (h.2.1.1)
    have E0 : y_ev x (29, []) = 29 := (l_e0 _ _)
    have E1 : y_ev x (0, []) = 0 := (l_e0 _ _)
    have E2 : y_ev x (0, [(0, 1)]) = x 0 := (l_e1 _ _)
    have E3 : y_ev x (0, [(1, 1)]) = x 1 := (l_e1 _ _)
    have E4 : y_ev x (0, [(2, 1)]) = x 2 := (l_e1 _ _)
    have E5 : y_ev x (30, []) = 30 := (l_e0 _ _)
    have E6 : y_ev x (0, [(3, 1)]) = x 3 := (l_e1 _ _)
    have T0 : q_qry v (y_ev x (29, [])) (y_ev x (0, [])) (y_ev x (0, [])) (y_ev x (0, [])) (y_ev x (0, [])) (y_ev x (0, [])) (y_ev x (0, [])) (y_ev x (0, [])) (y_ev x (0, [(0, 1)])) (y_ev x (0, [(1, 1)])) (y_ev x (0, [(2, 1)])) := h.2.2.2.1
    (try rw [E0] at T0); (try rw [E1] at T0); (try rw [E2] at T0); (try rw [E3] at T0); (try rw [E4] at T0)
    have T1 : q_qry v (y_ev x (30, [])) (y_ev x (0, [])) (y_ev x (0, [])) (y_ev x (0, [])) (y_ev x (0, [])) (y_ev x (0, [])) (y_ev x (0, [])) (y_ev x (0, [])) (y_ev x (0, [(0, 1)])) (y_ev x (0, [(3, 1)])) (y_ev x (0, [])) := h.2.2.2.2.1
    (try rw [E5] at T1); (try rw [E1] at T1); (try rw [E2] at T1); (try rw [E6] at T1)
    have K := k_qeGN (V := v) (p := x 0) (bb := x 1) (l := x 2) (bc := x 3) T0 T1 C0
    refine l_outH rfl (And.intro h.1 ?_)
    have O0 : y_ev x (0, [(2, 1), (3, (-1))]) = x 2 - x 3 := by show ((0) : Int) + ((1) * x 2 + ((-1) * x 3 + 0)) = _; omega
    have O1 : y_ev x (0, [(2, (-1)), (3, 1)]) = x 3 - x 2 := by show ((0) : Int) + ((-1) * x 2 + ((1) * x 3 + 0)) = _; omega
    show (0 ≤ y_ev x (0, [(2, 1), (3, (-1))]) ∧ 0 ≤ y_ev x (0, [(2, (-1)), (3, 1)]) ∧ True) ∧ (True)
    (try rw [O0]); (try rw [O1])
    exact K
def lm_1084 : zLem := (([((-2147483648), 2147483647), ((-2147483648), 2147483647), ((-2147483648), 2147483647), ((-2147483648), 2147483647)], [], [(0, [(1, 1)])], [], [], [], [(260, [(29, []), (0, []), (0, []), (0, []), (0, []), (0, []), (0, []), (0, []), (0, [(0, 1)]), (0, [(1, 1)]), (0, [(2, 1)])]), (238, [(18, []), (0, []), (0, []), (0, []), (0, []), (0, []), (0, []), (0, []), (0, [(1, 1)]), (0, []), (0, [(3, 1)])])]), [([((-2147483648), 2147483647), ((-2147483648), 2147483647), ((-2147483648), 2147483647), ((-2147483648), 2147483647)], [], [(0, [(2, 1), (3, (-1))]), (0, [(2, (-1)), (3, 1)])], [], [], [], [])])
theorem lk_1084 : l_core lm_1084 := by
  first
  | skip
    intro v x h
    have K := k_qeGS (V := v) (p := x 0) (bb := x 1) (l := x 2) (v := x 3) (l_c5 (fun w0 w1 w2 w3 w4 : Int => q_qry v w0 w1 w1 w1 w1 w1 w1 w1 w2 w3 w4) (l_e0 x (29)) (l_e0 x (0)) (l_e1 x 0) (l_e1 x 1) (l_e1 x 2) (h.2.2.2.1)) (l_c4 (fun w0 w1 w2 w3 : Int => q_qry v w0 w1 w1 w1 w1 w1 w1 w1 w2 w1 w3) (l_e0 x (18)) (l_e0 x (0)) (l_e1 x 1) (l_e1 x 3) (h.2.2.2.2.1)) (l_cc (l_e1 x 1) (h.2.1.1))
    refine l_outH rfl (And.intro h.1 ?_)
    exact l_o2 (fun w0 w1 : Int => (0 ≤ w0 ∧ 0 ≤ w1 ∧ True) ∧ (True)) (l_q5 x 2 3) (l_q4 x 2 3) K
  | skip
    intro v x h
    have C0 : (0 : Int) ≤ x 1 := l_cc (a := y_ev x (0, [(1, 1)])) (l_e1 _ _) (h.2.1.1)
    have E0 : y_ev x (29, []) = 29 := (l_e0 _ _)
    have E1 : y_ev x (0, []) = 0 := (l_e0 _ _)
    have E2 : y_ev x (0, [(0, 1)]) = x 0 := (l_e1 _ _)
    have E3 : y_ev x (0, [(1, 1)]) = x 1 := (l_e1 _ _)
    have E4 : y_ev x (0, [(2, 1)]) = x 2 := (l_e1 _ _)
    have E5 : y_ev x (18, []) = 18 := (l_e0 _ _)
    have E6 : y_ev x (0, [(3, 1)]) = x 3 := (l_e1 _ _)
    have T0 : q_qry v (y_ev x (29, [])) (y_ev x (0, [])) (y_ev x (0, [])) (y_ev x (0, [])) (y_ev x (0, [])) (y_ev x (0, [])) (y_ev x (0, [])) (y_ev x (0, [])) (y_ev x (0, [(0, 1)])) (y_ev x (0, [(1, 1)])) (y_ev x (0, [(2, 1)])) := h.2.2.2.1
    (try rw [E0] at T0); (try rw [E1] at T0); (try rw [E2] at T0); (try rw [E3] at T0); (try rw [E4] at T0)
    have T1 : q_qry v (y_ev x (18, [])) (y_ev x (0, [])) (y_ev x (0, [])) (y_ev x (0, [])) (y_ev x (0, [])) (y_ev x (0, [])) (y_ev x (0, [])) (y_ev x (0, [])) (y_ev x (0, [(1, 1)])) (y_ev x (0, [])) (y_ev x (0, [(3, 1)])) := h.2.2.2.2.1
    (try rw [E5] at T1); (try rw [E1] at T1); (try rw [E3] at T1); (try rw [E6] at T1)
    have K := k_qeGS (V := v) (p := x 0) (bb := x 1) (l := x 2) (v := x 3) T0 T1 C0
    refine l_outH rfl (And.intro h.1 ?_)
    have O0 : y_ev x (0, [(2, 1), (3, (-1))]) = x 2 - x 3 := by show ((0) : Int) + ((1) * x 2 + ((-1) * x 3 + 0)) = _; omega
    have O1 : y_ev x (0, [(2, (-1)), (3, 1)]) = x 3 - x 2 := by show ((0) : Int) + ((-1) * x 2 + ((1) * x 3 + 0)) = _; omega
    show (0 ≤ y_ev x (0, [(2, 1), (3, (-1))]) ∧ 0 ≤ y_ev x (0, [(2, (-1)), (3, 1)]) ∧ True) ∧ (True)
    (try rw [O0]); (try rw [O1])
    exact K
def lm_1085 : zLem := (([((-2147483648), 2147483647), ((-2147483648), 2147483647), ((-2147483648), 2147483647), ((-2147483648), 2147483647)], [], [], [], [], [], [(241, [(1, []), (0, [(0, 1)]), (0, [(1, 1)]), (0, [(2, 1)]), (0, [(3, 1)])]), (235, [(0, [(0, 1)]), (0, [(1, 1)]), (0, [(2, 1)]), (0, [(3, 1)]), (0, []), (0, []), (0, []), (0, []), (0, []), (0, []), (0, [])])]), [([((-2147483648), 2147483647), ((-2147483648), 2147483647), ((-2147483648), 2147483647), ((-2147483648), 2147483647)], [], [], [], [], [], [(236, [(0, [(0, 1)]), (0, [(1, 1)]), (0, [(2, 1)]), (0, [(3, 1)]), (0, []), (0, []), (0, []), (0, []), (0, []), (0, []), (0, [])])])])
theorem lk_1085 : l_core lm_1085 := by
  first
  | skip
    intro v x h
    have K := k_stt0 (V := v) (H := x 0) (p := x 1) (y := x 2) (d := x 3) (l_c5 (fun w0 w1 w2 w3 w4 : Int => (1 ≤ w0 ∧ w0 ≤ 44) ∧ q_eqs v w0 w1 w2 w3 w4) (l_e0 x (1)) (l_e1 x 0) (l_e1 x 1) (l_e1 x 2) (l_e1 x 3) (h.2.2.2.1)) (l_c5 (fun w0 w1 w2 w3 w4 : Int => q_sto v 0 w0 w1 w2 w3 w4 w4 w4 w4 w4 w4 w4) (l_e1 x 0) (l_e1 x 1) (l_e1 x 2) (l_e1 x 3) (l_e0 x (0)) (h.2.2.2.2.1))
    refine l_outH rfl (And.intro h.1 ?_)
    exact l_o5 (fun w0 w1 w2 w3 w4 : Int => (True) ∧ (q_sto v 1 w0 w1 w2 w3 w4 w4 w4 w4 w4 w4 w4 ∧ True)) (l_e1 x 0) (l_e1 x 1) (l_e1 x 2) (l_e1 x 3) (l_e0 x (0)) K
  | skip
    intro v x h
    have E0 : y_ev x (1, []) = 1 := (l_e0 _ _)
    have E1 : y_ev x (0, [(0, 1)]) = x 0 := (l_e1 _ _)
    have E2 : y_ev x (0, [(1, 1)]) = x 1 := (l_e1 _ _)
    have E3 : y_ev x (0, [(2, 1)]) = x 2 := (l_e1 _ _)
    have E4 : y_ev x (0, [(3, 1)]) = x 3 := (l_e1 _ _)
    have E5 : y_ev x (0, []) = 0 := (l_e0 _ _)
    have T0 : (1 ≤ (y_ev x (1, [])) ∧ (y_ev x (1, [])) ≤ 44) ∧ q_eqs v (y_ev x (1, [])) (y_ev x (0, [(0, 1)])) (y_ev x (0, [(1, 1)])) (y_ev x (0, [(2, 1)])) (y_ev x (0, [(3, 1)])) := h.2.2.2.1
    (try rw [E0] at T0); (try rw [E1] at T0); (try rw [E2] at T0); (try rw [E3] at T0); (try rw [E4] at T0)
    have T1 : q_sto v 0 (y_ev x (0, [(0, 1)])) (y_ev x (0, [(1, 1)])) (y_ev x (0, [(2, 1)])) (y_ev x (0, [(3, 1)])) (y_ev x (0, [])) (y_ev x (0, [])) (y_ev x (0, [])) (y_ev x (0, [])) (y_ev x (0, [])) (y_ev x (0, [])) (y_ev x (0, [])) := h.2.2.2.2.1
    (try rw [E1] at T1); (try rw [E2] at T1); (try rw [E3] at T1); (try rw [E4] at T1); (try rw [E5] at T1)
    have K := k_stt0 (V := v) (H := x 0) (p := x 1) (y := x 2) (d := x 3) T0 T1
    refine l_outH rfl (And.intro h.1 ?_)
    have O0 : y_ev x (0, [(0, 1)]) = x 0 := l_e1 _ _
    have O1 : y_ev x (0, [(1, 1)]) = x 1 := l_e1 _ _
    have O2 : y_ev x (0, [(2, 1)]) = x 2 := l_e1 _ _
    have O3 : y_ev x (0, [(3, 1)]) = x 3 := l_e1 _ _
    have O4 : y_ev x (0, []) = 0 := l_e0 _ _
    show (True) ∧ (q_sto v 1 (y_ev x (0, [(0, 1)])) (y_ev x (0, [(1, 1)])) (y_ev x (0, [(2, 1)])) (y_ev x (0, [(3, 1)])) (y_ev x (0, [])) (y_ev x (0, [])) (y_ev x (0, [])) (y_ev x (0, [])) (y_ev x (0, [])) (y_ev x (0, [])) (y_ev x (0, [])) ∧ True)
    (try rw [O0]); (try rw [O1]); (try rw [O2]); (try rw [O3]); (try rw [O4])
    exact K
def lm_1086 : zLem := (([((-2147483648), 2147483647), ((-2147483648), 2147483647), ((-2147483648), 2147483647), ((-2147483648), 2147483647), ((-2147483648), 2147483647), ((-2147483648), 2147483647), ((-2147483648), 2147483647), ((-2147483648), 2147483647)], [(3, false), (2, false)], [], [], [(0, 0, 0, [(0, 1)]), (0, 0, 0, [(1, 1)])], [(0, (false, 4, 0, []), 0, 0, 0, [(6, 1)]), (1, (false, 9, 0, []), 0, 0, 0, [(7, 1)])], [(236, [(0, [(2, 1)]), (0, [(3, 1)]), (0, [(4, 1)]), (0, [(5, 1)]), (0, []), (0, []), (0, []), (0, []), (0, []), (0, []), (0, [])])]), [([((-2147483648), 2147483647), ((-2147483648), 2147483647), ((-2147483648), 2147483647), ((-2147483648), 2147483647), ((-2147483648), 2147483647), ((-2147483648), 2147483647), ((-2147483648), 2147483647), ((-2147483648), 2147483647)], [(3, false), (2, false)], [], [], [], [], [(236, [(0, [(2, 1)]), (0, [(3, 1)]), (0, [(4, 1)]), (0, [(5, 1)]), (0, [(6, 1)]), (0, [(7, 1)]), (0, [(1, 1)]), (5, []), (0, []), (0, [(0, 1)]), (0, [])])])])
theorem lk_1086 : l_core lm_1086 := by
  first
  | skip
    intro v x h
    have K := k_ts5 (V := v) (h := x 0) (s := x 1) (H := x 2) (p := x 3) (y := x 4) (d := x 5) (q := x 6) (b := x 7) (l_c5 (fun w0 w1 w2 w3 w4 : Int => q_sto v 1 w0 w1 w2 w3 w4 w4 w4 w4 w4 w4 w4) (l_e1 x 2) (l_e1 x 3) (l_e1 x 4) (l_e1 x 5) (l_e0 x (0)) (h.2.2.2.1))
    refine l_outH rfl (And.intro h.1 ?_)
    exact l_o10 (fun w0 w1 w2 w3 w4 w5 w6 w7 w8 w9 : Int => (True) ∧ (q_sto v 1 w0 w1 w2 w3 w4 w5 w6 w7 w8 w9 w8 ∧ True)) (l_e1 x 2) (l_e1 x 3) (l_e1 x 4) (l_e1 x 5) (l_e1 x 6) (l_e1 x 7) (l_e1 x 1) (l_e0 x (5)) (l_e0 x (0)) (l_e1 x 0) K
  | skip
    intro v x h
    have E0 : y_ev x (0, [(2, 1)]) = x 2 := (l_e1 _ _)
    have E1 : y_ev x (0, [(3, 1)]) = x 3 := (l_e1 _ _)
    have E2 : y_ev x (0, [(4, 1)]) = x 4 := (l_e1 _ _)
    have E3 : y_ev x (0, [(5, 1)]) = x 5 := (l_e1 _ _)
    have E4 : y_ev x (0, []) = 0 := (l_e0 _ _)
    have T0 : q_sto v 1 (y_ev x (0, [(2, 1)])) (y_ev x (0, [(3, 1)])) (y_ev x (0, [(4, 1)])) (y_ev x (0, [(5, 1)])) (y_ev x (0, [])) (y_ev x (0, [])) (y_ev x (0, [])) (y_ev x (0, [])) (y_ev x (0, [])) (y_ev x (0, [])) (y_ev x (0, [])) := h.2.2.2.1
    (try rw [E0] at T0); (try rw [E1] at T0); (try rw [E2] at T0); (try rw [E3] at T0); (try rw [E4] at T0)
    have K := k_ts5 (V := v) (h := x 0) (s := x 1) (H := x 2) (p := x 3) (y := x 4) (d := x 5) (q := x 6) (b := x 7) T0
    refine l_outH rfl (And.intro h.1 ?_)
    have O0 : y_ev x (0, [(2, 1)]) = x 2 := l_e1 _ _
    have O1 : y_ev x (0, [(3, 1)]) = x 3 := l_e1 _ _
    have O2 : y_ev x (0, [(4, 1)]) = x 4 := l_e1 _ _
    have O3 : y_ev x (0, [(5, 1)]) = x 5 := l_e1 _ _
    have O4 : y_ev x (0, [(6, 1)]) = x 6 := l_e1 _ _
    have O5 : y_ev x (0, [(7, 1)]) = x 7 := l_e1 _ _
    have O6 : y_ev x (0, [(1, 1)]) = x 1 := l_e1 _ _
    have O7 : y_ev x (5, []) = 5 := l_e0 _ _
    have O8 : y_ev x (0, []) = 0 := l_e0 _ _
    have O9 : y_ev x (0, [(0, 1)]) = x 0 := l_e1 _ _
    show (True) ∧ (q_sto v 1 (y_ev x (0, [(2, 1)])) (y_ev x (0, [(3, 1)])) (y_ev x (0, [(4, 1)])) (y_ev x (0, [(5, 1)])) (y_ev x (0, [(6, 1)])) (y_ev x (0, [(7, 1)])) (y_ev x (0, [(1, 1)])) (y_ev x (5, [])) (y_ev x (0, [])) (y_ev x (0, [(0, 1)])) (y_ev x (0, [])) ∧ True)
    (try rw [O0]); (try rw [O1]); (try rw [O2]); (try rw [O3]); (try rw [O4]); (try rw [O5]); (try rw [O6]); (try rw [O7]); (try rw [O8]); (try rw [O9])
    exact K
def lm_1087p : zS := ((lm_660pi_0 (lm_660pi_1 [])), [], [(0, [(0, 1)]), ((-1), [(0, (-1)), (1, 1)]), (6, [(1, (-1))])], [], [(0, 0, 0, [(0, 1)])], [], [(236, [(0, [(1, 1)]), (0, [(2, 1)]), (0, [(3, 1)]), (0, [(4, 1)]), (0, [(5, 1)]), (0, [(6, 1)]), (0, [(7, 1)]), (0, [(8, 1)]), (0, [(9, 1)]), (0, [(10, 1)]), (0, [(11, 1)])]), (238, [(6, []), (0, [(5, 1)]), (0, [(6, 1)]), (0, [(7, 1)]), (0, [(8, 1)]), (0, [(9, 1)]), (0, [(10, 1)]), (0, [(11, 1)]), (0, [(0, 1)]), (0, []), ((-1), [])])])
def lm_1087 : zLem := (lm_1087p, [([((-2147483648), 2147483647), ((-2147483648), 2147483647), ((-2147483648), 2147483647), ((-2147483648), 2147483647), ((-2147483648), 2147483647), ((-2147483648), 2147483647), ((-2147483648), 2147483647), ((-2147483648), 2147483647), ((-2147483648), 2147483647), ((-2147483648), 2147483647), ((-2147483648), 2147483647), ((-2147483648), 2147483647)], [], [], [], [], [], [(238, [(8, []), (0, [(5, 1)]), (0, [(6, 1)]), (0, [(7, 1)]), (0, [(8, 1)]), (0, [(9, 1)]), (0, [(10, 1)]), (0, [(11, 1)]), (12, [(0, 1)]), (0, []), (0, [])])])])
theorem lk_1087 : l_core lm_1087 := by
  first
  | skip
    intro v x h
    have K := k_celS0t (V := v) (h := x 0) (H := x 1) (p := x 2) (y := x 3) (d := x 4) (q := x 5) (b := x 6) (s := x 7) (o := x 8) (a1 := x 9) (a2 := x 10) (a3 := x 11) (l_c11 (fun w0 w1 w2 w3 w4 w5 w6 w7 w8 w9 w10 : Int => q_sto v 1 w0 w1 w2 w3 w4 w5 w6 w7 w8 w9 w10) (l_e1 x 1) (l_e1 x 2) (l_e1 x 3) (l_e1 x 4) (l_e1 x 5) (l_e1 x 6) (l_e1 x 7) (l_e1 x 8) (l_e1 x 9) (l_e1 x 10) (l_e1 x 11) (h.2.2.2.1)) (l_c11 (fun w0 w1 w2 w3 w4 w5 w6 w7 w8 w9 w10 : Int => q_qry v w0 w1 w2 w3 w4 w5 w6 w7 w8 w9 w10) (l_e0 x (6)) (l_e1 x 5) (l_e1 x 6) (l_e1 x 7) (l_e1 x 8) (l_e1 x 9) (l_e1 x 10) (l_e1 x 11) (l_e1 x 0) (l_e0 x (0)) (l_e0 x (-1)) (h.2.2.2.2.1)) (l_cc (l_e1 x 0) (h.2.1.1)) (l_cc (l_q6 1 x 0 1) (h.2.1.2.1)) (l_cc (l_q1 6 x 1) (h.2.1.2.2.1))
    refine l_outH rfl (And.intro h.1 ?_)
    exact l_o10 (fun w0 w1 w2 w3 w4 w5 w6 w7 w8 w9 : Int => (True) ∧ (q_qry v w0 w1 w2 w3 w4 w5 w6 w7 w8 w9 w9 ∧ True)) (l_e0 x (8)) (l_e1 x 5) (l_e1 x 6) (l_e1 x 7) (l_e1 x 8) (l_e1 x 9) (l_e1 x 10) (l_e1 x 11) (l_q3 12 x 0) (l_e0 x (0)) K
  | skip
    intro v x h
    have C0 : (0 : Int) ≤ x 0 := l_cc (a := y_ev x (0, [(0, 1)])) (l_e1 _ _) (h.2.1.1)
    have C1 : (0 : Int) ≤ x 1 - x 0 - 1 := l_cc (a := y_ev x ((-1), [(0, (-1)), (1, 1)])) (by show ((-1) : Int) + ((-1) * x 0 + ((1) * x 1 + 0)) = x 1 - x 0 - 1; omega) (h.2.1.2.1)
    have C2 : (0 : Int) ≤ 6 - x 1 := l_cc (a := y_ev x (6, [(1, (-1))])) (by show ((6) : Int) + ((-1) * x 1 + 0) = 6 - x 1; omega) (h.2.1.2.2.1)
    have E0 : y_ev x (0, [(1, 1)]) = x 1 := (l_e1 _ _)
    have E1 : y_ev x (0, [(2, 1)]) = x 2 := (l_e1 _ _)
    have E2 : y_ev x (0, [(3, 1)]) = x 3 := (l_e1 _ _)
    have E3 : y_ev x (0, [(4, 1)]) = x 4 := (l_e1 _ _)
    have E4 : y_ev x (0, [(5, 1)]) = x 5 := (l_e1 _ _)
    have E5 : y_ev x (0, [(6, 1)]) = x 6 := (l_e1 _ _)
    have E6 : y_ev x (0, [(7, 1)]) = x 7 := (l_e1 _ _)
    have E7 : y_ev x (0, [(8, 1)]) = x 8 := (l_e1 _ _)
    have E8 : y_ev x (0, [(9, 1)]) = x 9 := (l_e1 _ _)
    have E9 : y_ev x (0, [(10, 1)]) = x 10 := (l_e1 _ _)
    have E10 : y_ev x (0, [(11, 1)]) = x 11 := (l_e1 _ _)
    have E11 : y_ev x (6, []) = 6 := (l_e0 _ _)
    have E12 : y_ev x (0, [(0, 1)]) = x 0 := (l_e1 _ _)
    have E13 : y_ev x (0, []) = 0 := (l_e0 _ _)
    have E14 : y_ev x ((-1), []) = (-1) := (l_e0 _ _)
    have T0 : q_sto v 1 (y_ev x (0, [(1, 1)])) (y_ev x (0, [(2, 1)])) (y_ev x (0, [(3, 1)])) (y_ev x (0, [(4, 1)])) (y_ev x (0, [(5, 1)])) (y_ev x (0, [(6, 1)])) (y_ev x (0, [(7, 1)])) (y_ev x (0, [(8, 1)])) (y_ev x (0, [(9, 1)])) (y_ev x (0, [(10, 1)])) (y_ev x (0, [(11, 1)])) := h.2.2.2.1
    (try rw [E0] at T0); (try rw [E1] at T0); (try rw [E2] at T0); (try rw [E3] at T0); (try rw [E4] at T0); (try rw [E5] at T0); (try rw [E6] at T0); (try rw [E7] at T0); (try rw [E8] at T0); (try rw [E9] at T0); (try rw [E10] at T0)
    have T1 : q_qry v (y_ev x (6, [])) (y_ev x (0, [(5, 1)])) (y_ev x (0, [(6, 1)])) (y_ev x (0, [(7, 1)])) (y_ev x (0, [(8, 1)])) (y_ev x (0, [(9, 1)])) (y_ev x (0, [(10, 1)])) (y_ev x (0, [(11, 1)])) (y_ev x (0, [(0, 1)])) (y_ev x (0, [])) (y_ev x ((-1), [])) := h.2.2.2.2.1
    (try rw [E11] at T1); (try rw [E4] at T1); (try rw [E5] at T1); (try rw [E6] at T1); (try rw [E7] at T1); (try rw [E8] at T1); (try rw [E9] at T1); (try rw [E10] at T1); (try rw [E12] at T1); (try rw [E13] at T1); (try rw [E14] at T1)
    have K := k_celS0t (V := v) (h := x 0) (H := x 1) (p := x 2) (y := x 3) (d := x 4) (q := x 5) (b := x 6) (s := x 7) (o := x 8) (a1 := x 9) (a2 := x 10) (a3 := x 11) T0 T1 C0 C1 C2
    refine l_outH rfl (And.intro h.1 ?_)
    have O0 : y_ev x (8, []) = 8 := l_e0 _ _
    have O1 : y_ev x (0, [(5, 1)]) = x 5 := l_e1 _ _
    have O2 : y_ev x (0, [(6, 1)]) = x 6 := l_e1 _ _
    have O3 : y_ev x (0, [(7, 1)]) = x 7 := l_e1 _ _
    have O4 : y_ev x (0, [(8, 1)]) = x 8 := l_e1 _ _
    have O5 : y_ev x (0, [(9, 1)]) = x 9 := l_e1 _ _
    have O6 : y_ev x (0, [(10, 1)]) = x 10 := l_e1 _ _
    have O7 : y_ev x (0, [(11, 1)]) = x 11 := l_e1 _ _
    have O8 : y_ev x (12, [(0, 1)]) = x 0 + 12 := by show ((12) : Int) + ((1) * x 0 + 0) = _; omega
    have O9 : y_ev x (0, []) = 0 := l_e0 _ _
    show (True) ∧ (q_qry v (y_ev x (8, [])) (y_ev x (0, [(5, 1)])) (y_ev x (0, [(6, 1)])) (y_ev x (0, [(7, 1)])) (y_ev x (0, [(8, 1)])) (y_ev x (0, [(9, 1)])) (y_ev x (0, [(10, 1)])) (y_ev x (0, [(11, 1)])) (y_ev x (12, [(0, 1)])) (y_ev x (0, [])) (y_ev x (0, [])) ∧ True)
    (try rw [O0]); (try rw [O1]); (try rw [O2]); (try rw [O3]); (try rw [O4]); (try rw [O5]); (try rw [O6]); (try rw [O7]); (try rw [O8]); (try rw [O9])
    exact K
def lm_1088p : zS := ((lm_473pi_0 (lm_473pi_1 [])), [], [(0, [(0, 1)]), ((-1), [(0, (-1)), (3, 1)]), (6, [(3, (-1))]), (0, [(2, 1)])], [], [(0, 0, 0, [(0, 1)]), (0, 0, 0, [(1, 1)])], [], [(236, [(0, [(3, 1)]), (0, [(4, 1)]), (0, [(5, 1)]), (0, [(6, 1)]), (0, [(7, 1)]), (0, [(8, 1)]), (0, [(9, 1)]), (5, []), (0, [(2, 1)]), (0, [(0, 1)]), (0, [])]), (238, [(8, []), (0, [(7, 1)]), (0, [(8, 1)]), (0, [(9, 1)]), (5, []), (0, [(2, 1)]), (0, [(0, 1)]), (0, []), (0, [(0, 1)]), (0, []), (0, [(1, 1)])])])
def lm_1088 : zLem := (lm_1088p, [([((-2147483648), 2147483647), ((-2147483648), 2147483647), ((-2147483648), 2147483647), ((-2147483648), 2147483647), ((-2147483648), 2147483647), ((-2147483648), 2147483647), ((-2147483648), 2147483647), ((-2147483648), 2147483647), ((-2147483648), 2147483647), ((-2147483648), 2147483647)], [], [], [], [], [], [(260, [(8, []), (0, [(7, 1)]), (0, [(8, 1)]), (0, [(9, 1)]), (4, []), (0, [(2, 1)]), (0, []), (0, [(3, 1)]), (0, [(0, 1)]), (0, []), (0, [(1, 1)])])])])
theorem lk_1088 : l_core lm_1088 := by
  first
  | skip
    intro v x h
    have K := k_o54a (V := v) (h := x 0) (u := x 1) (n := x 2) (H := x 3) (p := x 4) (y := x 5) (d := x 6) (q := x 7) (b := x 8) (s := x 9) (l_c11 (fun w0 w1 w2 w3 w4 w5 w6 w7 w8 w9 w10 : Int => q_sto v 1 w0 w1 w2 w3 w4 w5 w6 w7 w8 w9 w10) (l_e1 x 3) (l_e1 x 4) (l_e1 x 5) (l_e1 x 6) (l_e1 x 7) (l_e1 x 8) (l_e1 x 9) (l_e0 x (5)) (l_e1 x 2) (l_e1 x 0) (l_e0 x (0)) (h.2.2.2.1)) (l_c9 (fun w0 w1 w2 w3 w4 w5 w6 w7 w8 : Int => q_qry v w0 w1 w2 w3 w4 w5 w6 w7 w6 w7 w8) (l_e0 x (8)) (l_e1 x 7) (l_e1 x 8) (l_e1 x 9) (l_e0 x (5)) (l_e1 x 2) (l_e1 x 0) (l_e0 x (0)) (l_e1 x 1) (h.2.2.2.2.1)) (l_cc (l_e1 x 0) (h.2.1.1)) (l_cc (l_q6 1 x 0 3) (h.2.1.2.1)) (l_cc (l_q1 6 x 3) (h.2.1.2.2.1)) (l_cc (l_e1 x 2) (h.2.1.2.2.2.1))
    refine l_outH rfl (And.intro h.1 ?_)
    exact l_o10 (fun w0 w1 w2 w3 w4 w5 w6 w7 w8 w9 : Int => (True) ∧ (q_qry v w0 w1 w2 w3 w4 w5 w6 w7 w8 w6 w9 ∧ True)) (l_e0 x (8)) (l_e1 x 7) (l_e1 x 8) (l_e1 x 9) (l_e0 x (4)) (l_e1 x 2) (l_e0 x (0)) (l_e1 x 3) (l_e1 x 0) (l_e1 x 1) K
  | skip
    intro v x h
    have C0 : (0 : Int) ≤ x 0 := l_cc (a := y_ev x (0, [(0, 1)])) (l_e1 _ _) (h.2.1.1)
    have C1 : (0 : Int) ≤ x 3 - x 0 - 1 := l_cc (a := y_ev x ((-1), [(0, (-1)), (3, 1)])) (by show ((-1) : Int) + ((-1) * x 0 + ((1) * x 3 + 0)) = x 3 - x 0 - 1; omega) (h.2.1.2.1)
    have C2 : (0 : Int) ≤ 6 - x 3 := l_cc (a := y_ev x (6, [(3, (-1))])) (by show ((6) : Int) + ((-1) * x 3 + 0) = 6 - x 3; omega) (h.2.1.2.2.1)
    have C3 : (0 : Int) ≤ x 2 := l_cc (a := y_ev x (0, [(2, 1)])) (l_e1 _ _) (h.2.1.2.2.2.1)
    have E0 : y_ev x (0, [(3, 1)]) = x 3 := (l_e1 _ _)
    have E1 : y_ev x (0, [(4, 1)]) = x 4 := (l_e1 _ _)
    have E2 : y_ev x (0, [(5, 1)]) = x 5 := (l_e1 _ _)
    have E3 : y_ev x (0, [(6, 1)]) = x 6 := (l_e1 _ _)
    have E4 : y_ev x (0, [(7, 1)]) = x 7 := (l_e1 _ _)
    have E5 : y_ev x (0, [(8, 1)]) = x 8 := (l_e1 _ _)
    have E6 : y_ev x (0, [(9, 1)]) = x 9 := (l_e1 _ _)
    have E7 : y_ev x (5, []) = 5 := (l_e0 _ _)
    have E8 : y_ev x (0, [(2, 1)]) = x 2 := (l_e1 _ _)
    have E9 : y_ev x (0, [(0, 1)]) = x 0 := (l_e1 _ _)
    have E10 : y_ev x (0, []) = 0 := (l_e0 _ _)
    have E11 : y_ev x (8, []) = 8 := (l_e0 _ _)
    have E12 : y_ev x (0, [(1, 1)]) = x 1 := (l_e1 _ _)
    have T0 : q_sto v 1 (y_ev x (0, [(3, 1)])) (y_ev x (0, [(4, 1)])) (y_ev x (0, [(5, 1)])) (y_ev x (0, [(6, 1)])) (y_ev x (0, [(7, 1)])) (y_ev x (0, [(8, 1)])) (y_ev x (0, [(9, 1)])) (y_ev x (5, [])) (y_ev x (0, [(2, 1)])) (y_ev x (0, [(0, 1)])) (y_ev x (0, [])) := h.2.2.2.1
    (try rw [E0] at T0); (try rw [E1] at T0); (try rw [E2] at T0); (try rw [E3] at T0); (try rw [E4] at T0); (try rw [E5] at T0); (try rw [E6] at T0); (try rw [E7] at T0); (try rw [E8] at T0); (try rw [E9] at T0); (try rw [E10] at T0)
    have T1 : q_qry v (y_ev x (8, [])) (y_ev x (0, [(7, 1)])) (y_ev x (0, [(8, 1)])) (y_ev x (0, [(9, 1)])) (y_ev x (5, [])) (y_ev x (0, [(2, 1)])) (y_ev x (0, [(0, 1)])) (y_ev x (0, [])) (y_ev x (0, [(0, 1)])) (y_ev x (0, [])) (y_ev x (0, [(1, 1)])) := h.2.2.2.2.1
    (try rw [E11] at T1); (try rw [E4] at T1); (try rw [E5] at T1); (try rw [E6] at T1); (try rw [E7] at T1); (try rw [E8] at T1); (try rw [E9] at T1); (try rw [E10] at T1); (try rw [E12] at T1)
    have K := k_o54a (V := v) (h := x 0) (u := x 1) (n := x 2) (H := x 3) (p := x 4) (y := x 5) (d := x 6) (q := x 7) (b := x 8) (s := x 9) T0 T1 C0 C1 C2 C3
    refine l_outH rfl (And.intro h.1 ?_)
    have O0 : y_ev x (8, []) = 8 := l_e0 _ _
    have O1 : y_ev x (0, [(7, 1)]) = x 7 := l_e1 _ _
    have O2 : y_ev x (0, [(8, 1)]) = x 8 := l_e1 _ _
    have O3 : y_ev x (0, [(9, 1)]) = x 9 := l_e1 _ _
    have O4 : y_ev x (4, []) = 4 := l_e0 _ _
    have O5 : y_ev x (0, [(2, 1)]) = x 2 := l_e1 _ _
    have O6 : y_ev x (0, []) = 0 := l_e0 _ _
    have O7 : y_ev x (0, [(3, 1)]) = x 3 := l_e1 _ _
    have O8 : y_ev x (0, [(0, 1)]) = x 0 := l_e1 _ _
    have O9 : y_ev x (0, [(1, 1)]) = x 1 := l_e1 _ _
    show (True) ∧ (q_qry v (y_ev x (8, [])) (y_ev x (0, [(7, 1)])) (y_ev x (0, [(8, 1)])) (y_ev x (0, [(9, 1)])) (y_ev x (4, [])) (y_ev x (0, [(2, 1)])) (y_ev x (0, [])) (y_ev x (0, [(3, 1)])) (y_ev x (0, [(0, 1)])) (y_ev x (0, [])) (y_ev x (0, [(1, 1)])) ∧ True)
    (try rw [O0]); (try rw [O1]); (try rw [O2]); (try rw [O3]); (try rw [O4]); (try rw [O5]); (try rw [O6]); (try rw [O7]); (try rw [O8]); (try rw [O9])
    exact K
def lm_1089p : zS := ((lm_473pi_0 (lm_473pi_1 [])), [], [(0, [(0, 1)]), ((-1), [(0, (-1)), (3, 1)]), (6, [(3, (-1))]), (0, [(2, 1)])], [], [(0, 0, 0, [(0, 1)]), (0, 0, 0, [(1, 1)])], [], [(236, [(0, [(3, 1)]), (0, [(4, 1)]), (0, [(5, 1)]), (0, [(6, 1)]), (0, [(7, 1)]), (0, [(8, 1)]), (0, [(9, 1)]), (5, []), (0, [(2, 1)]), (0, [(0, 1)]), (0, [])]), (238, [(8, []), (0, [(7, 1)]), (0, [(8, 1)]), (0, [(9, 1)]), (5, []), (0, [(2, 1)]), (0, [(0, 1)]), (0, []), (12, [(0, 1)]), (0, []), (0, [(1, 1)])])])
def lm_1089 : zLem := (lm_1089p, [([((-2147483648), 2147483647), ((-2147483648), 2147483647), ((-2147483648), 2147483647), ((-2147483648), 2147483647), ((-2147483648), 2147483647), ((-2147483648), 2147483647), ((-2147483648), 2147483647), ((-2147483648), 2147483647), ((-2147483648), 2147483647), ((-2147483648), 2147483647)], [], [], [], [], [], [(260, [(8, []), (0, [(7, 1)]), (0, [(8, 1)]), (0, [(9, 1)]), (4, []), (0, [(2, 1)]), (0, []), (0, [(3, 1)]), (12, [(0, 1)]), (0, []), (0, [(1, 1)])])])])
theorem lk_1089 : l_core lm_1089 := by
  first
  | skip
    intro v x h
    have K := k_o54b (V := v) (h := x 0) (u := x 1) (n := x 2) (H := x 3) (p := x 4) (y := x 5) (d := x 6) (q := x 7) (b := x 8) (s := x 9) (l_c11 (fun w0 w1 w2 w3 w4 w5 w6 w7 w8 w9 w10 : Int => q_sto v 1 w0 w1 w2 w3 w4 w5 w6 w7 w8 w9 w10) (l_e1 x 3) (l_e1 x 4) (l_e1 x 5) (l_e1 x 6) (l_e1 x 7) (l_e1 x 8) (l_e1 x 9) (l_e0 x (5)) (l_e1 x 2) (l_e1 x 0) (l_e0 x (0)) (h.2.2.2.1)) (l_c10 (fun w0 w1 w2 w3 w4 w5 w6 w7 w8 w9 : Int => q_qry v w0 w1 w2 w3 w4 w5 w6 w7 w8 w7 w9) (l_e0 x (8)) (l_e1 x 7) (l_e1 x 8) (l_e1 x 9) (l_e0 x (5)) (l_e1 x 2) (l_e1 x 0) (l_e0 x (0)) (l_q3 12 x 0) (l_e1 x 1) (h.2.2.2.2.1)) (l_cc (l_e1 x 0) (h.2.1.1)) (l_cc (l_q6 1 x 0 3) (h.2.1.2.1)) (l_cc (l_q1 6 x 3) (h.2.1.2.2.1)) (l_cc (l_e1 x 2) (h.2.1.2.2.2.1))
    refine l_outH rfl (And.intro h.1 ?_)
    exact l_o10 (fun w0 w1 w2 w3 w4 w5 w6 w7 w8 w9 : Int => (True) ∧ (q_qry v w0 w1 w2 w3 w4 w5 w6 w7 w8 w6 w9 ∧ True)) (l_e0 x (8)) (l_e1 x 7) (l_e1 x 8) (l_e1 x 9) (l_e0 x (4)) (l_e1 x 2) (l_e0 x (0)) (l_e1 x 3) (l_q3 12 x 0) (l_e1 x 1) K
  | skip
    intro v x h
    have C0 : (0 : Int) ≤ x 0 := l_cc (a := y_ev x (0, [(0, 1)])) (l_e1 _ _) (h.2.1.1)
    have C1 : (0 : Int) ≤ x 3 - x 0 - 1 := l_cc (a := y_ev x ((-1), [(0, (-1)), (3, 1)])) (by show ((-1) : Int) + ((-1) * x 0 + ((1) * x 3 + 0)) = x 3 - x 0 - 1; omega) (h.2.1.2.1)
    have C2 : (0 : Int) ≤ 6 - x 3 := l_cc (a := y_ev x (6, [(3, (-1))])) (by show ((6) : Int) + ((-1) * x 3 + 0) = 6 - x 3; omega) (h.2.1.2.2.1)
    have C3 : (0 : Int) ≤ x 2 := l_cc (a := y_ev x (0, [(2, 1)])) (l_e1 _ _) (h.2.1.2.2.2.1)
    have E0 : y_ev x (0, [(3, 1)]) = x 3 := (l_e1 _ _)
    have E1 : y_ev x (0, [(4, 1)]) = x 4 := (l_e1 _ _)
    have E2 : y_ev x (0, [(5, 1)]) = x 5 := (l_e1 _ _)
    have E3 : y_ev x (0, [(6, 1)]) = x 6 := (l_e1 _ _)
    have E4 : y_ev x (0, [(7, 1)]) = x 7 := (l_e1 _ _)
    have E5 : y_ev x (0, [(8, 1)]) = x 8 := (l_e1 _ _)
    have E6 : y_ev x (0, [(9, 1)]) = x 9 := (l_e1 _ _)
    have E7 : y_ev x (5, []) = 5 := (l_e0 _ _)
    have E8 : y_ev x (0, [(2, 1)]) = x 2 := (l_e1 _ _)
    have E9 : y_ev x (0, [(0, 1)]) = x 0 := (l_e1 _ _)
    have E10 : y_ev x (0, []) = 0 := (l_e0 _ _)
    have E11 : y_ev x (8, []) = 8 := (l_e0 _ _)
    have E12 : y_ev x (12, [(0, 1)]) = x 0 + 12 := (by show ((12) : Int) + ((1) * x 0 + 0) = x 0 + 12; omega)
    have E13 : y_ev x (0, [(1, 1)]) = x 1 := (l_e1 _ _)
    have T0 : q_sto v 1 (y_ev x (0, [(3, 1)])) (y_ev x (0, [(4, 1)])) (y_ev x (0, [(5, 1)])) (y_ev x (0, [(6, 1)])) (y_ev x (0, [(7, 1)])) (y_ev x (0, [(8, 1)])) (y_ev x (0, [(9, 1)])) (y_ev x (5, [])) (y_ev x (0, [(2, 1)])) (y_ev x (0, [(0, 1)])) (y_ev x (0, [])) := h.2.2.2.1
    (try rw [E0] at T0); (try rw [E1] at T0); (try rw [E2] at T0); (try rw [E3] at T0); (try rw [E4] at T0); (try rw [E5] at T0); (try rw [E6] at T0); (try rw [E7] at T0); (try rw [E8] at T0); (try rw [E9] at T0); (try rw [E10] at T0)
    have T1 : q_qry v (y_ev x (8, [])) (y_ev x (0, [(7, 1)])) (y_ev x (0, [(8, 1)])) (y_ev x (0, [(9, 1)])) (y_ev x (5, [])) (y_ev x (0, [(2, 1)])) (y_ev x (0, [(0, 1)])) (y_ev x (0, [])) (y_ev x (12, [(0, 1)])) (y_ev x (0, [])) (y_ev x (0, [(1, 1)])) := h.2.2.2.2.1
    (try rw [E11] at T1); (try rw [E4] at T1); (try rw [E5] at T1); (try rw [E6] at T1); (try rw [E7] at T1); (try rw [E8] at T1); (try rw [E9] at T1); (try rw [E10] at T1); (try rw [E12] at T1); (try rw [E13] at T1)
    have K := k_o54b (V := v) (h := x 0) (u := x 1) (n := x 2) (H := x 3) (p := x 4) (y := x 5) (d := x 6) (q := x 7) (b := x 8) (s := x 9) T0 T1 C0 C1 C2 C3
    refine l_outH rfl (And.intro h.1 ?_)
    have O0 : y_ev x (8, []) = 8 := l_e0 _ _
    have O1 : y_ev x (0, [(7, 1)]) = x 7 := l_e1 _ _
    have O2 : y_ev x (0, [(8, 1)]) = x 8 := l_e1 _ _
    have O3 : y_ev x (0, [(9, 1)]) = x 9 := l_e1 _ _
    have O4 : y_ev x (4, []) = 4 := l_e0 _ _
    have O5 : y_ev x (0, [(2, 1)]) = x 2 := l_e1 _ _
    have O6 : y_ev x (0, []) = 0 := l_e0 _ _
    have O7 : y_ev x (0, [(3, 1)]) = x 3 := l_e1 _ _
    have O8 : y_ev x (12, [(0, 1)]) = x 0 + 12 := by show ((12) : Int) + ((1) * x 0 + 0) = _; omega
    have O9 : y_ev x (0, [(1, 1)]) = x 1 := l_e1 _ _
    show (True) ∧ (q_qry v (y_ev x (8, [])) (y_ev x (0, [(7, 1)])) (y_ev x (0, [(8, 1)])) (y_ev x (0, [(9, 1)])) (y_ev x (4, [])) (y_ev x (0, [(2, 1)])) (y_ev x (0, [])) (y_ev x (0, [(3, 1)])) (y_ev x (12, [(0, 1)])) (y_ev x (0, [])) (y_ev x (0, [(1, 1)])) ∧ True)
    (try rw [O0]); (try rw [O1]); (try rw [O2]); (try rw [O3]); (try rw [O4]); (try rw [O5]); (try rw [O6]); (try rw [O7]); (try rw [O8]); (try rw [O9])
    exact K
def lm_1090 : zLem := (([((-2147483648), 2147483647), ((-2147483648), 2147483647), ((-2147483648), 2147483647), ((-2147483648), 2147483647), ((-2147483648), 2147483647), ((-2147483648), 2147483647), ((-2147483648), 2147483647), ((-2147483648), 2147483647), ((-2147483648), 2147483647), ((-2147483648), 2147483647)], [], [], [], [], [], [(260, [(8, []), (0, [(3, 1)]), (0, [(4, 1)]), (0, [(5, 1)]), (0, [(6, 1)]), (0, [(7, 1)]), (0, [(8, 1)]), (0, [(9, 1)]), (0, [(0, 1)]), (0, []), (0, [(1, 1)])]), (238, [(8, []), (0, [(3, 1)]), (0, [(4, 1)]), (0, [(5, 1)]), (0, [(6, 1)]), (0, [(7, 1)]), (0, [(8, 1)]), (0, [(9, 1)]), (0, [(0, 1)]), (0, []), (0, [(2, 1)])])]), [([((-2147483648), 2147483647), ((-2147483648), 2147483647), ((-2147483648), 2147483647), ((-2147483648), 2147483647), ((-2147483648), 2147483647), ((-2147483648), 2147483647), ((-2147483648), 2147483647), ((-2147483648), 2147483647), ((-2147483648), 2147483647), ((-2147483648), 2147483647)], [], [(0, [(1, 1), (2, (-1))]), (0, [(1, (-1)), (2, 1)])], [], [], [], [])])
theorem lk_1090 : l_core lm_1090 := by
  first
  | skip
    intro v x h
    have K := k_qeCq (V := v) (h := x 0) (u := x 1) (w := x 2) (q := x 3) (b := x 4) (s := x 5) (o := x 6) (a1 := x 7) (a2 := x 8) (a3 := x 9) (l_c11 (fun w0 w1 w2 w3 w4 w5 w6 w7 w8 w9 w10 : Int => q_qry v w0 w1 w2 w3 w4 w5 w6 w7 w8 w9 w10) (l_e0 x (8)) (l_e1 x 3) (l_e1 x 4) (l_e1 x 5) (l_e1 x 6) (l_e1 x 7) (l_e1 x 8) (l_e1 x 9) (l_e1 x 0) (l_e0 x (0)) (l_e1 x 1) (h.2.2.2.1)) (l_c11 (fun w0 w1 w2 w3 w4 w5 w6 w7 w8 w9 w10 : Int => q_qry v w0 w1 w2 w3 w4 w5 w6 w7 w8 w9 w10) (l_e0 x (8)) (l_e1 x 3) (l_e1 x 4) (l_e1 x 5) (l_e1 x 6) (l_e1 x 7) (l_e1 x 8) (l_e1 x 9) (l_e1 x 0) (l_e0 x (0)) (l_e1 x 2) (h.2.2.2.2.1))
    refine l_outH rfl (And.intro h.1 ?_)
    exact l_o2 (fun w0 w1 : Int => (0 ≤ w0 ∧ 0 ≤ w1 ∧ True) ∧ (True)) (l_q5 x 1 2) (l_q4 x 1 2) K
  | skip
    intro v x h
    have E0 : y_ev x (8, []) = 8 := (l_e0 _ _)
    have E1 : y_ev x (0, [(3, 1)]) = x 3 := (l_e1 _ _)
    have E2 : y_ev x (0, [(4, 1)]) = x 4 := (l_e1 _ _)
    have E3 : y_ev x (0, [(5, 1)]) = x 5 := (l_e1 _ _)
    have E4 : y_ev x (0, [(6, 1)]) = x 6 := (l_e1 _ _)
    have E5 : y_ev x (0, [(7, 1)]) = x 7 := (l_e1 _ _)
    have E6 : y_ev x (0, [(8, 1)]) = x 8 := (l_e1 _ _)
    have E7 : y_ev x (0, [(9, 1)]) = x 9 := (l_e1 _ _)
    have E8 : y_ev x (0, [(0, 1)]) = x 0 := (l_e1 _ _)
    have E9 : y_ev x (0, []) = 0 := (l_e0 _ _)
    have E10 : y_ev x (0, [(1, 1)]) = x 1 := (l_e1 _ _)
    have E11 : y_ev x (0, [(2, 1)]) = x 2 := (l_e1 _ _)
    have T0 : q_qry v (y_ev x (8, [])) (y_ev x (0, [(3, 1)])) (y_ev x (0, [(4, 1)])) (y_ev x (0, [(5, 1)])) (y_ev x (0, [(6, 1)])) (y_ev x (0, [(7, 1)])) (y_ev x (0, [(8, 1)])) (y_ev x (0, [(9, 1)])) (y_ev x (0, [(0, 1)])) (y_ev x (0, [])) (y_ev x (0, [(1, 1)])) := h.2.2.2.1
    (try rw [E0] at T0); (try rw [E1] at T0); (try rw [E2] at T0); (try rw [E3] at T0); (try rw [E4] at T0); (try rw [E5] at T0); (try rw [E6] at T0); (try rw [E7] at T0); (try rw [E8] at T0); (try rw [E9] at T0); (try rw [E10] at T0)
    have T1 : q_qry v (y_ev x (8, [])) (y_ev x (0, [(3, 1)])) (y_ev x (0, [(4, 1)])) (y_ev x (0, [(5, 1)])) (y_ev x (0, [(6, 1)])) (y_ev x (0, [(7, 1)])) (y_ev x (0, [(8, 1)])) (y_ev x (0, [(9, 1)])) (y_ev x (0, [(0, 1)])) (y_ev x (0, [])) (y_ev x (0, [(2, 1)])) := h.2.2.2.2.1
    (try rw [E0] at T1); (try rw [E1] at T1); (try rw [E2] at T1); (try rw [E3] at T1); (try rw [E4] at T1); (try rw [E5] at T1); (try rw [E6] at T1); (try rw [E7] at T1); (try rw [E8] at T1); (try rw [E9] at T1); (try rw [E11] at T1)
    have K := k_qeCq (V := v) (h := x 0) (u := x 1) (w := x 2) (q := x 3) (b := x 4) (s := x 5) (o := x 6) (a1 := x 7) (a2 := x 8) (a3 := x 9) T0 T1
    refine l_outH rfl (And.intro h.1 ?_)
    have O0 : y_ev x (0, [(1, 1), (2, (-1))]) = x 1 - x 2 := by show ((0) : Int) + ((1) * x 1 + ((-1) * x 2 + 0)) = _; omega
    have O1 : y_ev x (0, [(1, (-1)), (2, 1)]) = x 2 - x 1 := by show ((0) : Int) + ((-1) * x 1 + ((1) * x 2 + 0)) = _; omega
    show (0 ≤ y_ev x (0, [(1, 1), (2, (-1))]) ∧ 0 ≤ y_ev x (0, [(1, (-1)), (2, 1)]) ∧ True) ∧ (True)
    (try rw [O0]); (try rw [O1])
    exact K
def lm_1091 : zLem := (([((-2147483648), 2147483647), ((-2147483648), 2147483647), ((-2147483648), 2147483647), ((-2147483648), 2147483647), ((-2147483648), 2147483647), ((-2147483648), 2147483647), ((-2147483648), 2147483647), ((-2147483648), 2147483647), ((-2147483648), 2147483647), ((-2147483648), 2147483647)], [(3, false), (2, false)], [], [], [(0, 0, 0, [(0, 1)]), (0, 0, 0, [(1, 1)]), (0, 0, 0, [(2, 1)])], [(0, (false, 4, 0, []), 0, 0, 0, [(3, 1)]), (1, (false, 9, 0, []), 0, 0, 0, [(4, 1)]), (1, (false, 10, 0, []), 0, 0, 0, [(5, 1)])], [(235, [(0, [(6, 1)]), (0, [(7, 1)]), (0, [(8, 1)]), (0, [(9, 1)]), (0, []), (0, []), (0, []), (0, []), (0, []), (0, []), (0, [])])]), [([((-2147483648), 2147483647), ((-2147483648), 2147483647), ((-2147483648), 2147483647), ((-2147483648), 2147483647), ((-2147483648), 2147483647), ((-2147483648), 2147483647), ((-2147483648), 2147483647), ((-2147483648), 2147483647), ((-2147483648), 2147483647), ((-2147483648), 2147483647)], [(3, false), (2, false)], [], [], [], [], [(238, [(40, []), (0, [(3, 1)]), (0, [(4, 1)]), (0, [(5, 1)]), (0, []), (0, []), (0, []), (0, []), (0, [(0, 1), (1, 6), (2, 600)]), (0, []), (0, [])])])])
theorem lk_1091 : l_core lm_1091 := by
  first
  | skip
    intro v x h
    have K := k_yeaI (V := v) (h := x 0) (v := x 1) (n := x 2) (q := x 3) (b := x 4) (s := x 5) (H := x 6) (p := x 7) (y := x 8) (d := x 9) (l_c5 (fun w0 w1 w2 w3 w4 : Int => q_sto v 0 w0 w1 w2 w3 w4 w4 w4 w4 w4 w4 w4) (l_e1 x 6) (l_e1 x 7) (l_e1 x 8) (l_e1 x 9) (l_e0 x (0)) (h.2.2.2.1))
    refine l_outH rfl (And.intro h.1 ?_)
    exact l_o6 (fun w0 w1 w2 w3 w4 w5 : Int => (True) ∧ (q_qry v w0 w1 w2 w3 w4 w4 w4 w4 w5 w4 w4 ∧ True)) (l_e0 x (40)) (l_e1 x 3) (l_e1 x 4) (l_e1 x 5) (l_e0 x (0)) (show y_ev x (0, [(0, 1), (1, 6), (2, 600)]) = x 0 + 6 * x 1 + 600 * x 2 by show ((0) : Int) + ((1) * x 0 + ((6) * x 1 + ((600) * x 2 + 0))) = _; omega) K
  | skip
    intro v x h
    have E0 : y_ev x (0, [(6, 1)]) = x 6 := (l_e1 _ _)
    have E1 : y_ev x (0, [(7, 1)]) = x 7 := (l_e1 _ _)
    have E2 : y_ev x (0, [(8, 1)]) = x 8 := (l_e1 _ _)
    have E3 : y_ev x (0, [(9, 1)]) = x 9 := (l_e1 _ _)
    have E4 : y_ev x (0, []) = 0 := (l_e0 _ _)
    have T0 : q_sto v 0 (y_ev x (0, [(6, 1)])) (y_ev x (0, [(7, 1)])) (y_ev x (0, [(8, 1)])) (y_ev x (0, [(9, 1)])) (y_ev x (0, [])) (y_ev x (0, [])) (y_ev x (0, [])) (y_ev x (0, [])) (y_ev x (0, [])) (y_ev x (0, [])) (y_ev x (0, [])) := h.2.2.2.1
    (try rw [E0] at T0); (try rw [E1] at T0); (try rw [E2] at T0); (try rw [E3] at T0); (try rw [E4] at T0)
    have K := k_yeaI (V := v) (h := x 0) (v := x 1) (n := x 2) (q := x 3) (b := x 4) (s := x 5) (H := x 6) (p := x 7) (y := x 8) (d := x 9) T0
    refine l_outH rfl (And.intro h.1 ?_)
    have O0 : y_ev x (40, []) = 40 := l_e0 _ _
    have O1 : y_ev x (0, [(3, 1)]) = x 3 := l_e1 _ _
    have O2 : y_ev x (0, [(4, 1)]) = x 4 := l_e1 _ _
    have O3 : y_ev x (0, [(5, 1)]) = x 5 := l_e1 _ _
    have O4 : y_ev x (0, []) = 0 := l_e0 _ _
    have O5 : y_ev x (0, [(0, 1), (1, 6), (2, 600)]) = x 0 + 6 * x 1 + 600 * x 2 := by show ((0) : Int) + ((1) * x 0 + ((6) * x 1 + ((600) * x 2 + 0))) = _; omega
    show (True) ∧ (q_qry v (y_ev x (40, [])) (y_ev x (0, [(3, 1)])) (y_ev x (0, [(4, 1)])) (y_ev x (0, [(5, 1)])) (y_ev x (0, [])) (y_ev x (0, [])) (y_ev x (0, [])) (y_ev x (0, [])) (y_ev x (0, [(0, 1), (1, 6), (2, 600)])) (y_ev x (0, [])) (y_ev x (0, [])) ∧ True)
    (try rw [O0]); (try rw [O1]); (try rw [O2]); (try rw [O3]); (try rw [O4]); (try rw [O5])
    exact K
def lm_1092pc_0 (t : List zL) : List zL := (0, [(2, (-600)), (3, (-6)), (4, (-1)), (7, 1)]) :: (0, [(2, 600), (3, 6), (4, 1), (7, (-1))]) :: (0, [(0, (-1)), (5, 1), (10, (-1))]) :: (0, [(0, 1), (5, (-1)), (10, 1)]) :: (0, [(4, 1)]) :: (5, [(4, (-1))]) :: (0, [(3, 1)]) :: (99, [(3, (-1))]) :: t
def lm_1092pc_1 (t : List zL) : List zL := (0, [(2, 1)]) :: (0, [(0, 1)]) :: (0, [(3, (-1)), (6, 1)]) :: (100, [(0, (-1))]) :: t
def lm_1092p : zS := ((lm_416pi_0 (lm_416pi_1 [])), [], (lm_1092pc_0 (lm_1092pc_1 [])), [], [(0, 0, 0, [(0, 1)]), (0, 0, 0, [(1, 1)]), (0, 0, 0, [(2, 1)]), (0, 0, 0, [(3, 1)]), (0, 0, 0, [(4, 1)])], [], [(238, [(8, []), (0, [(8, 1)]), (0, [(9, 1)]), (0, [(5, 1)]), (5, []), (0, [(2, 1)]), (0, [(4, 1)]), (0, []), (0, [(4, 1)]), (0, []), (0, [(6, 1)])]), (238, [(40, []), (0, [(8, 1)]), (0, [(9, 1)]), (0, [(10, 1)]), (0, []), (0, []), (0, []), (0, []), (0, [(7, 1)]), (0, [(0, 1)]), (0, [(1, 1)])])])
def lm_1092 : zLem := (lm_1092p, [([((-2147483648), 2147483647), ((-2147483648), 2147483647), ((-2147483648), 2147483647), ((-2147483648), 2147483647), ((-2147483648), 2147483647), ((-2147483648), 2147483647), ((-2147483648), 2147483647), ((-2147483648), 2147483647), ((-2147483648), 2147483647), ((-2147483648), 2147483647), ((-2147483648), 2147483647)], [], [(100, [(1, (-1))]), (0, [(1, 1)])], [], [], [], [(238, [(40, []), (0, [(8, 1)]), (0, [(9, 1)]), (0, [(10, 1)]), (0, []), (0, []), (0, []), (0, []), (0, [(7, 1)]), (1, [(0, 1)]), (1, [(1, 1)])])])])
theorem lk_1092 : l_core lm_1092 := by
  first
  | skip
    intro v x h
    have K := k_yeaY (V := v) (i := x 0) (g := x 1) (n := x 2) (v := x 3) (h := x 4) (t := x 5) (u := x 6) (x := x 7) (q := x 8) (b := x 9) (s := x 10) (l_c9 (fun w0 w1 w2 w3 w4 w5 w6 w7 w8 : Int => q_qry v w0 w1 w2 w3 w4 w5 w6 w7 w6 w7 w8) (l_e0 x (8)) (l_e1 x 8) (l_e1 x 9) (l_e1 x 5) (l_e0 x (5)) (l_e1 x 2) (l_e1 x 4) (l_e0 x (0)) (l_e1 x 6) (h.2.2.2.1)) (l_c8 (fun w0 w1 w2 w3 w4 w5 w6 w7 : Int => q_qry v w0 w1 w2 w3 w4 w4 w4 w4 w5 w6 w7) (l_e0 x (40)) (l_e1 x 8) (l_e1 x 9) (l_e1 x 10) (l_e0 x (0)) (l_e1 x 7) (l_e1 x 0) (l_e1 x 1) (h.2.2.2.2.1)) (l_cc (show y_ev x (0, [(2, (-600)), (3, (-6)), (4, (-1)), (7, 1)]) = x 7 - 600 * x 2 - 6 * x 3 - x 4 by show ((0) : Int) + ((-600) * x 2 + ((-6) * x 3 + ((-1) * x 4 + ((1) * x 7 + 0)))) = _; omega) (h.2.1.1)) (l_cc (show y_ev x (0, [(2, 600), (3, 6), (4, 1), (7, (-1))]) = 600 * x 2 + 6 * x 3 + x 4 - x 7 by show ((0) : Int) + ((600) * x 2 + ((6) * x 3 + ((1) * x 4 + ((-1) * x 7 + 0)))) = _; omega) (h.2.1.2.1)) (l_cc (show y_ev x (0, [(0, (-1)), (5, 1), (10, (-1))]) = x 5 - x 0 - x 10 by show ((0) : Int) + ((-1) * x 0 + ((1) * x 5 + ((-1) * x 10 + 0))) = _; omega) (h.2.1.2.2.1)) (l_cc (show y_ev x (0, [(0, 1), (5, (-1)), (10, 1)]) = x 0 + x 10 - x 5 by show ((0) : Int) + ((1) * x 0 + ((-1) * x 5 + ((1) * x 10 + 0))) = _; omega) (h.2.1.2.2.2.1)) (l_cc (l_e1 x 4) (h.2.1.2.2.2.2.1)) (l_cc (l_q1 5 x 4) (h.2.1.2.2.2.2.2.1)) (l_cc (l_e1 x 3) (h.2.1.2.2.2.2.2.2.1)) (l_cc (l_q1 99 x 3) (h.2.1.2.2.2.2.2.2.2.1)) (l_cc (l_e1 x 2) (h.2.1.2.2.2.2.2.2.2.2.1)) (l_cc (l_e1 x 0) (h.2.1.2.2.2.2.2.2.2.2.2.1)) (l_cc (l_q4 x 3 6) (h.2.1.2.2.2.2.2.2.2.2.2.2.1)) (l_cc (l_q1 100 x 0) (h.2.1.2.2.2.2.2.2.2.2.2.2.2.1))
    refine l_outH rfl (And.intro h.1 ?_)
    exact l_o10 (fun w0 w1 w2 w3 w4 w5 w6 w7 w8 w9 : Int => (0 ≤ w0 ∧ 0 ≤ w1 ∧ True) ∧ (q_qry v w2 w3 w4 w5 w6 w6 w6 w6 w7 w8 w9 ∧ True)) (l_q1 100 x 1) (l_e1 x 1) (l_e0 x (40)) (l_e1 x 8) (l_e1 x 9) (l_e1 x 10) (l_e0 x (0)) (l_e1 x 7) (l_q3 1 x 0) (l_q3 1 x 1) K
  | skip
    intro v x h
    have C0 : (0 : Int) ≤ x 7 - 600 * x 2 - 6 * x 3 - x 4 := l_cc (a := y_ev x (0, [(2, (-600)), (3, (-6)), (4, (-1)), (7, 1)])) (by show ((0) : Int) + ((-600) * x 2 + ((-6) * x 3 + ((-1) * x 4 + ((1) * x 7 + 0)))) = x 7 - 600 * x 2 - 6 * x 3 - x 4; omega) (h.2.1.1)
    have C1 : (0 : Int) ≤ 600 * x 2 + 6 * x 3 + x 4 - x 7 := l_cc (a := y_ev x (0, [(2, 600), (3, 6), (4, 1), (7, (-1))])) (by show ((0) : Int) + ((600) * x 2 + ((6) * x 3 + ((1) * x 4 + ((-1) * x 7 + 0)))) = 600 * x 2 + 6 * x 3 + x 4 - x 7; omega) (h.2.1.2.1)
    have C2 : (0 : Int) ≤ x 5 - x 0 - x 10 := l_cc (a := y_ev x (0, [(0, (-1)), (5, 1), (10, (-1))])) (by show ((0) : Int) + ((-1) * x 0 + ((1) * x 5 + ((-1) * x 10 + 0))) = x 5 - x 0 - x 10; omega) (h.2.1.2.2.1)
    have C3 : (0 : Int) ≤ x 0 + x 10 - x 5 := l_cc (a := y_ev x (0, [(0, 1), (5, (-1)), (10, 1)])) (by show ((0) : Int) + ((1) * x 0 + ((-1) * x 5 + ((1) * x 10 + 0))) = x 0 + x 10 - x 5; omega) (h.2.1.2.2.2.1)
    have C4 : (0 : Int) ≤ x 4 := l_cc (a := y_ev x (0, [(4, 1)])) (l_e1 _ _) (h.2.1.2.2.2.2.1)
    have C5 : (0 : Int) ≤ 5 - x 4 := l_cc (a := y_ev x (5, [(4, (-1))])) (by show ((5) : Int) + ((-1) * x 4 + 0) = 5 - x 4; omega) (h.2.1.2.2.2.2.2.1)
    have C6 : (0 : Int) ≤ x 3 := l_cc (a := y_ev x (0, [(3, 1)])) (l_e1 _ _) (h.2.1.2.2.2.2.2.2.1)
    have C7 : (0 : Int) ≤ 99 - x 3 := l_cc (a := y_ev x (99, [(3, (-1))])) (by show ((99) : Int) + ((-1) * x 3 + 0) = 99 - x 3; omega) (h.2.1.2.2.2.2.2.2.2.1)
    have C8 : (0 : Int) ≤ x 2 := l_cc (a := y_ev x (0, [(2, 1)])) (l_e1 _ _) (h.2.1.2.2.2.2.2.2.2.2.1)
    have C9 : (0 : Int) ≤ x 0 := l_cc (a := y_ev x (0, [(0, 1)])) (l_e1 _ _) (h.2.1.2.2.2.2.2.2.2.2.2.1)
    have C10 : (0 : Int) ≤ x 6 - x 3 := l_cc (a := y_ev x (0, [(3, (-1)), (6, 1)])) (by show ((0) : Int) + ((-1) * x 3 + ((1) * x 6 + 0)) = x 6 - x 3; omega) (h.2.1.2.2.2.2.2.2.2.2.2.2.1)
    have C11 : (0 : Int) ≤ 100 - x 0 := l_cc (a := y_ev x (100, [(0, (-1))])) (by show ((100) : Int) + ((-1) * x 0 + 0) = 100 - x 0; omega) (h.2.1.2.2.2.2.2.2.2.2.2.2.2.1)
    have E0 : y_ev x (8, []) = 8 := (l_e0 _ _)
    have E1 : y_ev x (0, [(8, 1)]) = x 8 := (l_e1 _ _)
    have E2 : y_ev x (0, [(9, 1)]) = x 9 := (l_e1 _ _)
    have E3 : y_ev x (0, [(5, 1)]) = x 5 := (l_e1 _ _)
    have E4 : y_ev x (5, []) = 5 := (l_e0 _ _)
    have E5 : y_ev x (0, [(2, 1)]) = x 2 := (l_e1 _ _)
    have E6 : y_ev x (0, [(4, 1)]) = x 4 := (l_e1 _ _)
    have E7 : y_ev x (0, []) = 0 := (l_e0 _ _)
    have E8 : y_ev x (0, [(6, 1)]) = x 6 := (l_e1 _ _)
    have E9 : y_ev x (40, []) = 40 := (l_e0 _ _)
    have E10 : y_ev x (0, [(10, 1)]) = x 10 := (l_e1 _ _)
    have E11 : y_ev x (0, [(7, 1)]) = x 7 := (l_e1 _ _)
    have E12 : y_ev x (0, [(0, 1)]) = x 0 := (l_e1 _ _)
    have E13 : y_ev x (0, [(1, 1)]) = x 1 := (l_e1 _ _)
    have T0 : q_qry v (y_ev x (8, [])) (y_ev x (0, [(8, 1)])) (y_ev x (0, [(9, 1)])) (y_ev x (0, [(5, 1)])) (y_ev x (5, [])) (y_ev x (0, [(2, 1)])) (y_ev x (0, [(4, 1)])) (y_ev x (0, [])) (y_ev x (0, [(4, 1)])) (y_ev x (0, [])) (y_ev x (0, [(6, 1)])) := h.2.2.2.1
    (try rw [E0] at T0); (try rw [E1] at T0); (try rw [E2] at T0); (try rw [E3] at T0); (try rw [E4] at T0); (try rw [E5] at T0); (try rw [E6] at T0); (try rw [E7] at T0); (try rw [E8] at T0)
    have T1 : q_qry v (y_ev x (40, [])) (y_ev x (0, [(8, 1)])) (y_ev x (0, [(9, 1)])) (y_ev x (0, [(10, 1)])) (y_ev x (0, [])) (y_ev x (0, [])) (y_ev x (0, [])) (y_ev x (0, [])) (y_ev x (0, [(7, 1)])) (y_ev x (0, [(0, 1)])) (y_ev x (0, [(1, 1)])) := h.2.2.2.2.1
    (try rw [E9] at T1); (try rw [E1] at T1); (try rw [E2] at T1); (try rw [E10] at T1); (try rw [E7] at T1); (try rw [E11] at T1); (try rw [E12] at T1); (try rw [E13] at T1)
    have K := k_yeaY (V := v) (i := x 0) (g := x 1) (n := x 2) (v := x 3) (h := x 4) (t := x 5) (u := x 6) (x := x 7) (q := x 8) (b := x 9) (s := x 10) T0 T1 C0 C1 C2 C3 C4 C5 C6 C7 C8 C9 C10 C11
    refine l_outH rfl (And.intro h.1 ?_)
    have O0 : y_ev x (100, [(1, (-1))]) = 100 - x 1 := by show ((100) : Int) + ((-1) * x 1 + 0) = _; omega
    have O1 : y_ev x (0, [(1, 1)]) = x 1 := l_e1 _ _
    have O2 : y_ev x (40, []) = 40 := l_e0 _ _
    have O3 : y_ev x (0, [(8, 1)]) = x 8 := l_e1 _ _
    have O4 : y_ev x (0, [(9, 1)]) = x 9 := l_e1 _ _
    have O5 : y_ev x (0, [(10, 1)]) = x 10 := l_e1 _ _
    have O6 : y_ev x (0, []) = 0 := l_e0 _ _
    have O7 : y_ev x (0, [(7, 1)]) = x 7 := l_e1 _ _
    have O8 : y_ev x (1, [(0, 1)]) = x 0 + 1 := by show ((1) : Int) + ((1) * x 0 + 0) = _; omega
    have O9 : y_ev x (1, [(1, 1)]) = x 1 + 1 := by show ((1) : Int) + ((1) * x 1 + 0) = _; omega
    show (0 ≤ y_ev x (100, [(1, (-1))]) ∧ 0 ≤ y_ev x (0, [(1, 1)]) ∧ True) ∧ (q_qry v (y_ev x (40, [])) (y_ev x (0, [(8, 1)])) (y_ev x (0, [(9, 1)])) (y_ev x (0, [(10, 1)])) (y_ev x (0, [])) (y_ev x (0, [])) (y_ev x (0, [])) (y_ev x (0, [])) (y_ev x (0, [(7, 1)])) (y_ev x (1, [(0, 1)])) (y_ev x (1, [(1, 1)])) ∧ True)
    (try rw [O0]); (try rw [O1]); (try rw [O2]); (try rw [O3]); (try rw [O4]); (try rw [O5]); (try rw [O6]); (try rw [O7]); (try rw [O8]); (try rw [O9])
    exact K
def lm_1093pc_0 (t : List zL) : List zL := (0, [(2, (-600)), (3, (-6)), (4, (-1)), (7, 1)]) :: (0, [(2, 600), (3, 6), (4, 1), (7, (-1))]) :: (0, [(0, (-1)), (5, 1), (10, (-1))]) :: (0, [(0, 1), (5, (-1)), (10, 1)]) :: (0, [(4, 1)]) :: (5, [(4, (-1))]) :: (0, [(3, 1)]) :: (99, [(3, (-1))]) :: t
def lm_1093pc_1 (t : List zL) : List zL := (0, [(2, 1)]) :: (0, [(0, 1)]) :: ((-1), [(3, 1), (6, (-1))]) :: t
def lm_1093p : zS := ((lm_416pi_0 (lm_416pi_1 [])), [], (lm_1093pc_0 (lm_1093pc_1 [])), [], [(0, 0, 0, [(0, 1)]), (0, 0, 0, [(1, 1)]), (0, 0, 0, [(2, 1)]), (0, 0, 0, [(3, 1)]), (0, 0, 0, [(4, 1)])], [], [(238, [(8, []), (0, [(8, 1)]), (0, [(9, 1)]), (0, [(5, 1)]), (5, []), (0, [(2, 1)]), (0, [(4, 1)]), (0, []), (0, [(4, 1)]), (0, []), (0, [(6, 1)])]), (238, [(40, []), (0, [(8, 1)]), (0, [(9, 1)]), (0, [(10, 1)]), (0, []), (0, []), (0, []), (0, []), (0, [(7, 1)]), (0, [(0, 1)]), (0, [(1, 1)])])])
def lm_1093 : zLem := (lm_1093p, [([((-2147483648), 2147483647), ((-2147483648), 2147483647), ((-2147483648), 2147483647), ((-2147483648), 2147483647), ((-2147483648), 2147483647), ((-2147483648), 2147483647), ((-2147483648), 2147483647), ((-2147483648), 2147483647), ((-2147483648), 2147483647), ((-2147483648), 2147483647), ((-2147483648), 2147483647)], [], [], [], [], [], [(238, [(40, []), (0, [(8, 1)]), (0, [(9, 1)]), (0, [(10, 1)]), (0, []), (0, []), (0, []), (0, []), (0, [(7, 1)]), (1, [(0, 1)]), (0, [(1, 1)])])])])
theorem lk_1093 : l_core lm_1093 := by
  first
  | skip
    intro v x h
    have K := k_yeaN (V := v) (i := x 0) (g := x 1) (n := x 2) (v := x 3) (h := x 4) (t := x 5) (u := x 6) (x := x 7) (q := x 8) (b := x 9) (s := x 10) (l_c9 (fun w0 w1 w2 w3 w4 w5 w6 w7 w8 : Int => q_qry v w0 w1 w2 w3 w4 w5 w6 w7 w6 w7 w8) (l_e0 x (8)) (l_e1 x 8) (l_e1 x 9) (l_e1 x 5) (l_e0 x (5)) (l_e1 x 2) (l_e1 x 4) (l_e0 x (0)) (l_e1 x 6) (h.2.2.2.1)) (l_c8 (fun w0 w1 w2 w3 w4 w5 w6 w7 : Int => q_qry v w0 w1 w2 w3 w4 w4 w4 w4 w5 w6 w7) (l_e0 x (40)) (l_e1 x 8) (l_e1 x 9) (l_e1 x 10) (l_e0 x (0)) (l_e1 x 7) (l_e1 x 0) (l_e1 x 1) (h.2.2.2.2.1)) (l_cc (show y_ev x (0, [(2, (-600)), (3, (-6)), (4, (-1)), (7, 1)]) = x 7 - 600 * x 2 - 6 * x 3 - x 4 by show ((0) : Int) + ((-600) * x 2 + ((-6) * x 3 + ((-1) * x 4 + ((1) * x 7 + 0)))) = _; omega) (h.2.1.1)) (l_cc (show y_ev x (0, [(2, 600), (3, 6), (4, 1), (7, (-1))]) = 600 * x 2 + 6 * x 3 + x 4 - x 7 by show ((0) : Int) + ((600) * x 2 + ((6) * x 3 + ((1) * x 4 + ((-1) * x 7 + 0)))) = _; omega) (h.2.1.2.1)) (l_cc (show y_ev x (0, [(0, (-1)), (5, 1), (10, (-1))]) = x 5 - x 0 - x 10 by show ((0) : Int) + ((-1) * x 0 + ((1) * x 5 + ((-1) * x 10 + 0))) = _; omega) (h.2.1.2.2.1)) (l_cc (show y_ev x (0, [(0, 1), (5, (-1)), (10, 1)]) = x 0 + x 10 - x 5 by show ((0) : Int) + ((1) * x 0 + ((-1) * x 5 + ((1) * x 10 + 0))) = _; omega) (h.2.1.2.2.2.1)) (l_cc (l_e1 x 4) (h.2.1.2.2.2.2.1)) (l_cc (l_q1 5 x 4) (h.2.1.2.2.2.2.2.1)) (l_cc (l_e1 x 3) (h.2.1.2.2.2.2.2.2.1)) (l_cc (l_q1 99 x 3) (h.2.1.2.2.2.2.2.2.2.1)) (l_cc (l_e1 x 2) (h.2.1.2.2.2.2.2.2.2.2.1)) (l_cc (l_e1 x 0) (h.2.1.2.2.2.2.2.2.2.2.2.1)) (l_cc (l_q8 1 x 3 6) (h.2.1.2.2.2.2.2.2.2.2.2.2.1))
    refine l_outH rfl (And.intro h.1 ?_)
    exact l_o8 (fun w0 w1 w2 w3 w4 w5 w6 w7 : Int => (True) ∧ (q_qry v w0 w1 w2 w3 w4 w4 w4 w4 w5 w6 w7 ∧ True)) (l_e0 x (40)) (l_e1 x 8) (l_e1 x 9) (l_e1 x 10) (l_e0 x (0)) (l_e1 x 7) (l_q3 1 x 0) (l_e1 x 1) K
  | skip
    intro v x h
    have C0 : (0 : Int) ≤ x 7 - 600 * x 2 - 6 * x 3 - x 4 := l_cc (a := y_ev x (0, [(2, (-600)), (3, (-6)), (4, (-1)), (7, 1)])) (by show ((0) : Int) + ((-600) * x 2 + ((-6) * x 3 + ((-1) * x 4 + ((1) * x 7 + 0)))) = x 7 - 600 * x 2 - 6 * x 3 - x 4; omega) (h.2.1.1)
    have C1 : (0 : Int) ≤ 600 * x 2 + 6 * x 3 + x 4 - x 7 := l_cc (a := y_ev x (0, [(2, 600), (3, 6), (4, 1), (7, (-1))])) (by show ((0) : Int) + ((600) * x 2 + ((6) * x 3 + ((1) * x 4 + ((-1) * x 7 + 0)))) = 600 * x 2 + 6 * x 3 + x 4 - x 7; omega) (h.2.1.2.1)
    have C2 : (0 : Int) ≤ x 5 - x 0 - x 10 := l_cc (a := y_ev x (0, [(0, (-1)), (5, 1), (10, (-1))])) (by show ((0) : Int) + ((-1) * x 0 + ((1) * x 5 + ((-1) * x 10 + 0))) = x 5 - x 0 - x 10; omega) (h.2.1.2.2.1)
    have C3 : (0 : Int) ≤ x 0 + x 10 - x 5 := l_cc (a := y_ev x (0, [(0, 1), (5, (-1)), (10, 1)])) (by show ((0) : Int) + ((1) * x 0 + ((-1) * x 5 + ((1) * x 10 + 0))) = x 0 + x 10 - x 5; omega) (h.2.1.2.2.2.1)
    have C4 : (0 : Int) ≤ x 4 := l_cc (a := y_ev x (0, [(4, 1)])) (l_e1 _ _) (h.2.1.2.2.2.2.1)
    have C5 : (0 : Int) ≤ 5 - x 4 := l_cc (a := y_ev x (5, [(4, (-1))])) (by show ((5) : Int) + ((-1) * x 4 + 0) = 5 - x 4; omega) (h.2.1.2.2.2.2.2.1)
    have C6 : (0 : Int) ≤ x 3 := l_cc (a := y_ev x (0, [(3, 1)])) (l_e1 _ _) (h.2.1.2.2.2.2.2.2.1)
    have C7 : (0 : Int) ≤ 99 - x 3 := l_cc (a := y_ev x (99, [(3, (-1))])) (by show ((99) : Int) + ((-1) * x 3 + 0) = 99 - x 3; omega) (h.2.1.2.2.2.2.2.2.2.1)
    have C8 : (0 : Int) ≤ x 2 := l_cc (a := y_ev x (0, [(2, 1)])) (l_e1 _ _) (h.2.1.2.2.2.2.2.2.2.2.1)
    have C9 : (0 : Int) ≤ x 0 := l_cc (a := y_ev x (0, [(0, 1)])) (l_e1 _ _) (h.2.1.2.2.2.2.2.2.2.2.2.1)
    have C10 : (0 : Int) ≤ x 3 - x 6 - 1 := l_cc (a := y_ev x ((-1), [(3, 1), (6, (-1))])) (by show ((-1) : Int) + ((1) * x 3 + ((-1) * x 6 + 0)) = x 3 - x 6 - 1; omega) (h.2.1.2.2.2.2.2.2.2.2.2.2.1)
    have E0 : y_ev x (8, []) = 8 := (l_e0 _ _)
    have E1 : y_ev x (0, [(8, 1)]) = x 8 := (l_e1 _ _)
    have E2 : y_ev x (0, [(9, 1)]) = x 9 := (l_e1 _ _)
    have E3 : y_ev x (0, [(5, 1)]) = x 5 := (l_e1 _ _)
    have E4 : y_ev x (5, []) = 5 := (l_e0 _ _)
    have E5 : y_ev x (0, [(2, 1)]) = x 2 := (l_e1 _ _)
    have E6 : y_ev x (0, [(4, 1)]) = x 4 := (l_e1 _ _)
    have E7 : y_ev x (0, []) = 0 := (l_e0 _ _)
    have E8 : y_ev x (0, [(6, 1)]) = x 6 := (l_e1 _ _)
    have E9 : y_ev x (40, []) = 40 := (l_e0 _ _)
    have E10 : y_ev x (0, [(10, 1)]) = x 10 := (l_e1 _ _)
    have E11 : y_ev x (0, [(7, 1)]) = x 7 := (l_e1 _ _)
    have E12 : y_ev x (0, [(0, 1)]) = x 0 := (l_e1 _ _)
    have E13 : y_ev x (0, [(1, 1)]) = x 1 := (l_e1 _ _)
    have T0 : q_qry v (y_ev x (8, [])) (y_ev x (0, [(8, 1)])) (y_ev x (0, [(9, 1)])) (y_ev x (0, [(5, 1)])) (y_ev x (5, [])) (y_ev x (0, [(2, 1)])) (y_ev x (0, [(4, 1)])) (y_ev x (0, [])) (y_ev x (0, [(4, 1)])) (y_ev x (0, [])) (y_ev x (0, [(6, 1)])) := h.2.2.2.1
    (try rw [E0] at T0); (try rw [E1] at T0); (try rw [E2] at T0); (try rw [E3] at T0); (try rw [E4] at T0); (try rw [E5] at T0); (try rw [E6] at T0); (try rw [E7] at T0); (try rw [E8] at T0)
    have T1 : q_qry v (y_ev x (40, [])) (y_ev x (0, [(8, 1)])) (y_ev x (0, [(9, 1)])) (y_ev x (0, [(10, 1)])) (y_ev x (0, [])) (y_ev x (0, [])) (y_ev x (0, [])) (y_ev x (0, [])) (y_ev x (0, [(7, 1)])) (y_ev x (0, [(0, 1)])) (y_ev x (0, [(1, 1)])) := h.2.2.2.2.1
    (try rw [E9] at T1); (try rw [E1] at T1); (try rw [E2] at T1); (try rw [E10] at T1); (try rw [E7] at T1); (try rw [E11] at T1); (try rw [E12] at T1); (try rw [E13] at T1)
    have K := k_yeaN (V := v) (i := x 0) (g := x 1) (n := x 2) (v := x 3) (h := x 4) (t := x 5) (u := x 6) (x := x 7) (q := x 8) (b := x 9) (s := x 10) T0 T1 C0 C1 C2 C3 C4 C5 C6 C7 C8 C9 C10
    refine l_outH rfl (And.intro h.1 ?_)
    have O0 : y_ev x (40, []) = 40 := l_e0 _ _
    have O1 : y_ev x (0, [(8, 1)]) = x 8 := l_e1 _ _
    have O2 : y_ev x (0, [(9, 1)]) = x 9 := l_e1 _ _
    have O3 : y_ev x (0, [(10, 1)]) = x 10 := l_e1 _ _
    have O4 : y_ev x (0, []) = 0 := l_e0 _ _
    have O5 : y_ev x (0, [(7, 1)]) = x 7 := l_e1 _ _
    have O6 : y_ev x (1, [(0, 1)]) = x 0 + 1 := by show ((1) : Int) + ((1) * x 0 + 0) = _; omega
    have O7 : y_ev x (0, [(1, 1)]) = x 1 := l_e1 _ _
    show (True) ∧ (q_qry v (y_ev x (40, [])) (y_ev x (0, [(8, 1)])) (y_ev x (0, [(9, 1)])) (y_ev x (0, [(10, 1)])) (y_ev x (0, [])) (y_ev x (0, [])) (y_ev x (0, [])) (y_ev x (0, [])) (y_ev x (0, [(7, 1)])) (y_ev x (1, [(0, 1)])) (y_ev x (0, [(1, 1)])) ∧ True)
    (try rw [O0]); (try rw [O1]); (try rw [O2]); (try rw [O3]); (try rw [O4]); (try rw [O5]); (try rw [O6]); (try rw [O7])
    exact K
def lm_1094 : zLem := (([((-2147483648), 2147483647), ((-2147483648), 2147483647), ((-2147483648), 2147483647), ((-2147483648), 2147483647), ((-2147483648), 2147483647), ((-2147483648), 2147483647)], [(12, false)], [], [], [(0, 0, 0, [(0, 1)])], [(0, (false, 18, 0, []), 0, 0, 0, [(4, 1)])], [(237, [(0, [(2, 1)]), (0, []), (0, []), (0, []), (0, []), (0, []), (0, []), (0, [])]), (224, [(0, [(4, 1)]), (0, [(5, 1)]), (1, []), (0, [(3, 1)])]), (90, [(0, [(4, 1)]), (0, [(1, 1)]), (0, [(5, 1)])])]), [([((-2147483648), 2147483647), ((-2147483648), 2147483647), ((-2147483648), 2147483647), ((-2147483648), 2147483647), ((-2147483648), 2147483647), ((-2147483648), 2147483647)], [(12, false)], [], [], [], [], [(237, [(0, [(2, 1)]), (0, [(3, 1)]), (0, [(1, 1)]), (0, [(0, 1)]), (4, []), (0, []), (0, []), (0, [(2, 1)])])])])
theorem lk_1094 : l_core lm_1094 := by
  first
  | skip
    intro v x h
    have K := k_y0k (V := v) (t := x 0) (b := x 1) (H := x 2) (q := x 3) (l := x 4) (x := x 5) (l_c2 (fun w0 w1 : Int => q_rwo v w0 w1 w1 w1 w1 w1 w1 w1) (l_e1 x 2) (l_e0 x (0)) (h.2.2.2.1)) (l_c4 (fun w0 w1 w2 w3 : Int => w2 = 1 → q_leq v w0 w1 w3) (l_e1 x 4) (l_e1 x 5) (l_e0 x (1)) (l_e1 x 3) (h.2.2.2.2.1)) (l_c3 (fun w0 w1 w2 : Int => 0 ≤ w0 ∧ w0 ≠ w2 ∧ v 63 w0 = w1) (l_e1 x 4) (l_e1 x 1) (l_e1 x 5) (h.2.2.2.2.2.1))
    refine l_outH rfl (And.intro h.1 ?_)
    exact l_o6 (fun w0 w1 w2 w3 w4 w5 : Int => (True) ∧ (q_rwo v w0 w1 w2 w3 w4 w5 w5 w0 ∧ True)) (l_e1 x 2) (l_e1 x 3) (l_e1 x 1) (l_e1 x 0) (l_e0 x (4)) (l_e0 x (0)) K
  | skip
    intro v x h
    have E0 : y_ev x (0, [(2, 1)]) = x 2 := (l_e1 _ _)
    have E1 : y_ev x (0, []) = 0 := (l_e0 _ _)
    have E2 : y_ev x (0, [(4, 1)]) = x 4 := (l_e1 _ _)
    have E3 : y_ev x (0, [(5, 1)]) = x 5 := (l_e1 _ _)
    have E4 : y_ev x (1, []) = 1 := (l_e0 _ _)
    have E5 : y_ev x (0, [(3, 1)]) = x 3 := (l_e1 _ _)
    have E6 : y_ev x (0, [(1, 1)]) = x 1 := (l_e1 _ _)
    have T0 : q_rwo v (y_ev x (0, [(2, 1)])) (y_ev x (0, [])) (y_ev x (0, [])) (y_ev x (0, [])) (y_ev x (0, [])) (y_ev x (0, [])) (y_ev x (0, [])) (y_ev x (0, [])) := h.2.2.2.1
    (try rw [E0] at T0); (try rw [E1] at T0)
    have T1 : (y_ev x (1, [])) = 1 → q_leq v (y_ev x (0, [(4, 1)])) (y_ev x (0, [(5, 1)])) (y_ev x (0, [(3, 1)])) := h.2.2.2.2.1
    (try rw [E2] at T1); (try rw [E3] at T1); (try rw [E4] at T1); (try rw [E5] at T1)
    have T2 : 0 ≤ (y_ev x (0, [(4, 1)])) ∧ (y_ev x (0, [(4, 1)])) ≠ (y_ev x (0, [(5, 1)])) ∧ v 63 (y_ev x (0, [(4, 1)])) = (y_ev x (0, [(1, 1)])) := h.2.2.2.2.2.1
    (try rw [E2] at T2); (try rw [E6] at T2); (try rw [E3] at T2)
    have K := k_y0k (V := v) (t := x 0) (b := x 1) (H := x 2) (q := x 3) (l := x 4) (x := x 5) T0 T1 T2
    refine l_outH rfl (And.intro h.1 ?_)
    have O0 : y_ev x (0, [(2, 1)]) = x 2 := l_e1 _ _
    have O1 : y_ev x (0, [(3, 1)]) = x 3 := l_e1 _ _
    have O2 : y_ev x (0, [(1, 1)]) = x 1 := l_e1 _ _
    have O3 : y_ev x (0, [(0, 1)]) = x 0 := l_e1 _ _
    have O4 : y_ev x (4, []) = 4 := l_e0 _ _
    have O5 : y_ev x (0, []) = 0 := l_e0 _ _
    show (True) ∧ (q_rwo v (y_ev x (0, [(2, 1)])) (y_ev x (0, [(3, 1)])) (y_ev x (0, [(1, 1)])) (y_ev x (0, [(0, 1)])) (y_ev x (4, [])) (y_ev x (0, [])) (y_ev x (0, [])) (y_ev x (0, [(2, 1)])) ∧ True)
    (try rw [O0]); (try rw [O1]); (try rw [O2]); (try rw [O3]); (try rw [O4]); (try rw [O5])
    exact K
def lm_1095p : zS := ((lm_660pi_0 (lm_660pi_1 [])), [(12, false)], [], [], [(0, 0, 0, [(0, 1)]), (0, 0, 0, [(1, 1)]), (0, 0, 0, [(2, 1)])], [(0, (false, 18, 0, []), 0, 0, 0, [(10, 1)])], [(235, [(0, [(3, 1)]), (0, [(4, 1)]), (0, [(5, 1)]), (0, [(6, 1)]), (0, []), (0, []), (0, []), (0, []), (0, []), (0, []), (0, [])]), (224, [(0, [(10, 1)]), (0, [(11, 1)]), (1, []), (0, [(7, 1)])]), (90, [(0, [(10, 1)]), (0, [(8, 1)]), (0, [(11, 1)])]), (91, [(0, [(10, 1)]), (0, [(9, 1)]), (0, [(11, 1)])])])
def lm_1095 : zLem := (lm_1095p, [([((-2147483648), 2147483647), ((-2147483648), 2147483647), ((-2147483648), 2147483647), ((-2147483648), 2147483647), ((-2147483648), 2147483647), ((-2147483648), 2147483647), ((-2147483648), 2147483647), ((-2147483648), 2147483647), ((-2147483648), 2147483647), ((-2147483648), 2147483647), ((-2147483648), 2147483647), ((-2147483648), 2147483647)], [(12, false)], [], [], [], [], [(238, [(40, []), (0, [(7, 1)]), (0, [(8, 1)]), (0, [(9, 1)]), (0, []), (0, []), (0, []), (0, []), (0, [(0, 1), (1, 6), (2, 600)]), (0, []), (0, [])])])])
theorem lk_1095 : l_core lm_1095 := by
  first
  | skip
    intro v x h
    have K := k_myeI (V := v) (h := x 0) (v := x 1) (n := x 2) (H := x 3) (p := x 4) (y := x 5) (d := x 6) (q := x 7) (b := x 8) (s := x 9) (l := x 10) (x := x 11) (l_c5 (fun w0 w1 w2 w3 w4 : Int => q_sto v 0 w0 w1 w2 w3 w4 w4 w4 w4 w4 w4 w4) (l_e1 x 3) (l_e1 x 4) (l_e1 x 5) (l_e1 x 6) (l_e0 x (0)) (h.2.2.2.1)) (l_c4 (fun w0 w1 w2 w3 : Int => w2 = 1 → q_leq v w0 w1 w3) (l_e1 x 10) (l_e1 x 11) (l_e0 x (1)) (l_e1 x 7) (h.2.2.2.2.1)) (l_c3 (fun w0 w1 w2 : Int => 0 ≤ w0 ∧ w0 ≠ w2 ∧ v 63 w0 = w1) (l_e1 x 10) (l_e1 x 8) (l_e1 x 11) (h.2.2.2.2.2.1)) (l_c3 (fun w0 w1 w2 : Int => 0 ≤ w0 ∧ w0 ≠ w2 ∧ v 64 w0 = w1) (l_e1 x 10) (l_e1 x 9) (l_e1 x 11) (h.2.2.2.2.2.2.1))
    refine l_outH rfl (And.intro h.1 ?_)
    exact l_o6 (fun w0 w1 w2 w3 w4 w5 : Int => (True) ∧ (q_qry v w0 w1 w2 w3 w4 w4 w4 w4 w5 w4 w4 ∧ True)) (l_e0 x (40)) (l_e1 x 7) (l_e1 x 8) (l_e1 x 9) (l_e0 x (0)) (show y_ev x (0, [(0, 1), (1, 6), (2, 600)]) = x 0 + 6 * x 1 + 600 * x 2 by show ((0) : Int) + ((1) * x 0 + ((6) * x 1 + ((600) * x 2 + 0))) = _; omega) K
  | skip
    intro v x h
    have E0 : y_ev x (0, [(3, 1)]) = x 3 := (l_e1 _ _)
    have E1 : y_ev x (0, [(4, 1)]) = x 4 := (l_e1 _ _)
    have E2 : y_ev x (0, [(5, 1)]) = x 5 := (l_e1 _ _)
    have E3 : y_ev x (0, [(6, 1)]) = x 6 := (l_e1 _ _)
    have E4 : y_ev x (0, []) = 0 := (l_e0 _ _)
    have E5 : y_ev x (0, [(10, 1)]) = x 10 := (l_e1 _ _)
    have E6 : y_ev x (0, [(11, 1)]) = x 11 := (l_e1 _ _)
    have E7 : y_ev x (1, []) = 1 := (l_e0 _ _)
    have E8 : y_ev x (0, [(7, 1)]) = x 7 := (l_e1 _ _)
    have E9 : y_ev x (0, [(8, 1)]) = x 8 := (l_e1 _ _)
    have E10 : y_ev x (0, [(9, 1)]) = x 9 := (l_e1 _ _)
    have T0 : q_sto v 0 (y_ev x (0, [(3, 1)])) (y_ev x (0, [(4, 1)])) (y_ev x (0, [(5, 1)])) (y_ev x (0, [(6, 1)])) (y_ev x (0, [])) (y_ev x (0, [])) (y_ev x (0, [])) (y_ev x (0, [])) (y_ev x (0, [])) (y_ev x (0, [])) (y_ev x (0, [])) := h.2.2.2.1
    (try rw [E0] at T0); (try rw [E1] at T0); (try rw [E2] at T0); (try rw [E3] at T0); (try rw [E4] at T0)
    have T1 : (y_ev x (1, [])) = 1 → q_leq v (y_ev x (0, [(10, 1)])) (y_ev x (0, [(11, 1)])) (y_ev x (0, [(7, 1)])) := h.2.2.2.2.1
    (try rw [E5] at T1); (try rw [E6] at T1); (try rw [E7] at T1); (try rw [E8] at T1)
    have T2 : 0 ≤ (y_ev x (0, [(10, 1)])) ∧ (y_ev x (0, [(10, 1)])) ≠ (y_ev x (0, [(11, 1)])) ∧ v 63 (y_ev x (0, [(10, 1)])) = (y_ev x (0, [(8, 1)])) := h.2.2.2.2.2.1
    (try rw [E5] at T2); (try rw [E9] at T2); (try rw [E6] at T2)
    have T3 : 0 ≤ (y_ev x (0, [(10, 1)])) ∧ (y_ev x (0, [(10, 1)])) ≠ (y_ev x (0, [(11, 1)])) ∧ v 64 (y_ev x (0, [(10, 1)])) = (y_ev x (0, [(9, 1)])) := h.2.2.2.2.2.2.1
    (try rw [E5] at T3); (try rw [E10] at T3); (try rw [E6] at T3)
    have K := k_myeI (V := v) (h := x 0) (v := x 1) (n := x 2) (H := x 3) (p := x 4) (y := x 5) (d := x 6) (q := x 7) (b := x 8) (s := x 9) (l := x 10) (x := x 11) T0 T1 T2 T3
    refine l_outH rfl (And.intro h.1 ?_)
    have O0 : y_ev x (40, []) = 40 := l_e0 _ _
    have O1 : y_ev x (0, [(7, 1)]) = x 7 := l_e1 _ _
    have O2 : y_ev x (0, [(8, 1)]) = x 8 := l_e1 _ _
    have O3 : y_ev x (0, [(9, 1)]) = x 9 := l_e1 _ _
    have O4 : y_ev x (0, []) = 0 := l_e0 _ _
    have O5 : y_ev x (0, [(0, 1), (1, 6), (2, 600)]) = x 0 + 6 * x 1 + 600 * x 2 := by show ((0) : Int) + ((1) * x 0 + ((6) * x 1 + ((600) * x 2 + 0))) = _; omega
    show (True) ∧ (q_qry v (y_ev x (40, [])) (y_ev x (0, [(7, 1)])) (y_ev x (0, [(8, 1)])) (y_ev x (0, [(9, 1)])) (y_ev x (0, [])) (y_ev x (0, [])) (y_ev x (0, [])) (y_ev x (0, [])) (y_ev x (0, [(0, 1), (1, 6), (2, 600)])) (y_ev x (0, [])) (y_ev x (0, [])) ∧ True)
    (try rw [O0]); (try rw [O1]); (try rw [O2]); (try rw [O3]); (try rw [O4]); (try rw [O5])
    exact K
def lm_1096pc_0 (t : List zL) : List zL := (0, [(2, (-600)), (3, (-6)), (4, (-1)), (7, 1)]) :: (0, [(2, 600), (3, 6), (4, 1), (7, (-1))]) :: (0, [(0, (-1)), (5, 1), (11, (-1))]) :: (0, [(0, 1), (5, (-1)), (11, 1)]) :: (0, [(4, 1)]) :: (5, [(4, (-1))]) :: (0, [(3, 1)]) :: (99, [(3, (-1))]) :: t
def lm_1096pc_1 (t : List zL) : List zL := (0, [(2, 1)]) :: (0, [(0, 1)]) :: (0, [(3, (-1)), (6, 1)]) :: ((-1), [(4, (-1)), (8, 1)]) :: (100, [(0, (-1))]) :: t
def lm_1096pg_0 (t : List zTg) : List zTg := (238, [(8, []), (0, [(9, 1)]), (0, [(10, 1)]), (0, [(5, 1)]), (4, []), (0, [(2, 1)]), (0, []), (0, [(8, 1)]), (0, [(4, 1)]), (0, []), (0, [(6, 1)])]) :: (237, [(0, [(8, 1)]), (0, [(9, 1)]), (0, [(10, 1)]), (0, [(5, 1)]), (4, []), (0, [(2, 1)]), (0, []), (0, [(8, 1)])]) :: (238, [(40, []), (0, [(9, 1)]), (0, [(10, 1)]), (0, [(11, 1)]), (0, []), (0, []), (0, []), (0, []), (0, [(7, 1)]), (0, [(0, 1)]), (0, [(1, 1)])]) :: t
def lm_1096p : zS := ((lm_660pi_0 (lm_660pi_1 [])), [], (lm_1096pc_0 (lm_1096pc_1 [])), [], [(0, 0, 0, [(0, 1)]), (0, 0, 0, [(1, 1)]), (0, 0, 0, [(2, 1)]), (0, 0, 0, [(3, 1)]), (0, 0, 0, [(4, 1)])], [], (lm_1096pg_0 []))
def lm_1096 : zLem := (lm_1096p, [([((-2147483648), 2147483647), ((-2147483648), 2147483647), ((-2147483648), 2147483647), ((-2147483648), 2147483647), ((-2147483648), 2147483647), ((-2147483648), 2147483647), ((-2147483648), 2147483647), ((-2147483648), 2147483647), ((-2147483648), 2147483647), ((-2147483648), 2147483647), ((-2147483648), 2147483647), ((-2147483648), 2147483647)], [], [(100, [(1, (-1))]), (0, [(1, 1)])], [], [], [], [(238, [(40, []), (0, [(9, 1)]), (0, [(10, 1)]), (0, [(11, 1)]), (0, []), (0, []), (0, []), (0, []), (0, [(7, 1)]), (1, [(0, 1)]), (1, [(1, 1)])])])])
theorem lk_1096 : l_core lm_1096 := by
  first
  | skip
    intro v x h
    have K := k_myeY (V := v) (i := x 0) (g := x 1) (n := x 2) (v := x 3) (h := x 4) (t := x 5) (u := x 6) (x := x 7) (H := x 8) (q := x 9) (b := x 10) (s := x 11) (l_c10 (fun w0 w1 w2 w3 w4 w5 w6 w7 w8 w9 : Int => q_qry v w0 w1 w2 w3 w4 w5 w6 w7 w8 w6 w9) (l_e0 x (8)) (l_e1 x 9) (l_e1 x 10) (l_e1 x 5) (l_e0 x (4)) (l_e1 x 2) (l_e0 x (0)) (l_e1 x 8) (l_e1 x 4) (l_e1 x 6) (h.2.2.2.1)) (l_c7 (fun w0 w1 w2 w3 w4 w5 w6 : Int => q_rwo v w0 w1 w2 w3 w4 w5 w6 w0) (l_e1 x 8) (l_e1 x 9) (l_e1 x 10) (l_e1 x 5) (l_e0 x (4)) (l_e1 x 2) (l_e0 x (0)) (h.2.2.2.2.1)) (l_c8 (fun w0 w1 w2 w3 w4 w5 w6 w7 : Int => q_qry v w0 w1 w2 w3 w4 w4 w4 w4 w5 w6 w7) (l_e0 x (40)) (l_e1 x 9) (l_e1 x 10) (l_e1 x 11) (l_e0 x (0)) (l_e1 x 7) (l_e1 x 0) (l_e1 x 1) (h.2.2.2.2.2.1)) (l_cc (show y_ev x (0, [(2, (-600)), (3, (-6)), (4, (-1)), (7, 1)]) = x 7 - 600 * x 2 - 6 * x 3 - x 4 by show ((0) : Int) + ((-600) * x 2 + ((-6) * x 3 + ((-1) * x 4 + ((1) * x 7 + 0)))) = _; omega) (h.2.1.1)) (l_cc (show y_ev x (0, [(2, 600), (3, 6), (4, 1), (7, (-1))]) = 600 * x 2 + 6 * x 3 + x 4 - x 7 by show ((0) : Int) + ((600) * x 2 + ((6) * x 3 + ((1) * x 4 + ((-1) * x 7 + 0)))) = _; omega) (h.2.1.2.1)) (l_cc (show y_ev x (0, [(0, (-1)), (5, 1), (11, (-1))]) = x 5 - x 0 - x 11 by show ((0) : Int) + ((-1) * x 0 + ((1) * x 5 + ((-1) * x 11 + 0))) = _; omega) (h.2.1.2.2.1)) (l_cc (show y_ev x (0, [(0, 1), (5, (-1)), (11, 1)]) = x 0 + x 11 - x 5 by show ((0) : Int) + ((1) * x 0 + ((-1) * x 5 + ((1) * x 11 + 0))) = _; omega) (h.2.1.2.2.2.1)) (l_cc (l_e1 x 4) (h.2.1.2.2.2.2.1)) (l_cc (l_q1 5 x 4) (h.2.1.2.2.2.2.2.1)) (l_cc (l_e1 x 3) (h.2.1.2.2.2.2.2.2.1)) (l_cc (l_q1 99 x 3) (h.2.1.2.2.2.2.2.2.2.1)) (l_cc (l_e1 x 2) (h.2.1.2.2.2.2.2.2.2.2.1)) (l_cc (l_e1 x 0) (h.2.1.2.2.2.2.2.2.2.2.2.1)) (l_cc (l_q4 x 3 6) (h.2.1.2.2.2.2.2.2.2.2.2.2.1)) (l_cc (l_q6 1 x 4 8) (h.2.1.2.2.2.2.2.2.2.2.2.2.2.1)) (l_cc (l_q1 100 x 0) (h.2.1.2.2.2.2.2.2.2.2.2.2.2.2.1))
    refine l_outH rfl (And.intro h.1 ?_)
    exact l_o10 (fun w0 w1 w2 w3 w4 w5 w6 w7 w8 w9 : Int => (0 ≤ w0 ∧ 0 ≤ w1 ∧ True) ∧ (q_qry v w2 w3 w4 w5 w6 w6 w6 w6 w7 w8 w9 ∧ True)) (l_q1 100 x 1) (l_e1 x 1) (l_e0 x (40)) (l_e1 x 9) (l_e1 x 10) (l_e1 x 11) (l_e0 x (0)) (l_e1 x 7) (l_q3 1 x 0) (l_q3 1 x 1) K
  | skip
    intro v x h
    have C0 : (0 : Int) ≤ x 7 - 600 * x 2 - 6 * x 3 - x 4 := l_cc (a := y_ev x (0, [(2, (-600)), (3, (-6)), (4, (-1)), (7, 1)])) (by show ((0) : Int) + ((-600) * x 2 + ((-6) * x 3 + ((-1) * x 4 + ((1) * x 7 + 0)))) = x 7 - 600 * x 2 - 6 * x 3 - x 4; omega) (h.2.1.1)
    have C1 : (0 : Int) ≤ 600 * x 2 + 6 * x 3 + x 4 - x 7 := l_cc (a := y_ev x (0, [(2, 600), (3, 6), (4, 1), (7, (-1))])) (by show ((0) : Int) + ((600) * x 2 + ((6) * x 3 + ((1) * x 4 + ((-1) * x 7 + 0)))) = 600 * x 2 + 6 * x 3 + x 4 - x 7; omega) (h.2.1.2.1)
    have C2 : (0 : Int) ≤ x 5 - x 0 - x 11 := l_cc (a := y_ev x (0, [(0, (-1)), (5, 1), (11, (-1))])) (by show ((0) : Int) + ((-1) * x 0 + ((1) * x 5 + ((-1) * x 11 + 0))) = x 5 - x 0 - x 11; omega) (h.2.1.2.2.1)
    have C3 : (0 : Int) ≤ x 0 + x 11 - x 5 := l_cc (a := y_ev x (0, [(0, 1), (5, (-1)), (11, 1)])) (by show ((0) : Int) + ((1) * x 0 + ((-1) * x 5 + ((1) * x 11 + 0))) = x 0 + x 11 - x 5; omega) (h.2.1.2.2.2.1)
    have C4 : (0 : Int) ≤ x 4 := l_cc (a := y_ev x (0, [(4, 1)])) (l_e1 _ _) (h.2.1.2.2.2.2.1)
    have C5 : (0 : Int) ≤ 5 - x 4 := l_cc (a := y_ev x (5, [(4, (-1))])) (by show ((5) : Int) + ((-1) * x 4 + 0) = 5 - x 4; omega) (h.2.1.2.2.2.2.2.1)
    have C6 : (0 : Int) ≤ x 3 := l_cc (a := y_ev x (0, [(3, 1)])) (l_e1 _ _) (h.2.1.2.2.2.2.2.2.1)
    have C7 : (0 : Int) ≤ 99 - x 3 := l_cc (a := y_ev x (99, [(3, (-1))])) (by show ((99) : Int) + ((-1) * x 3 + 0) = 99 - x 3; omega) (h.2.1.2.2.2.2.2.2.2.1)
    have C8 : (0 : Int) ≤ x 2 := l_cc (a := y_ev x (0, [(2, 1)])) (l_e1 _ _) (h.2.1.2.2.2.2.2.2.2.2.1)
    have C9 : (0 : Int) ≤ x 0 := l_cc (a := y_ev x (0, [(0, 1)])) (l_e1 _ _) (h.2.1.2.2.2.2.2.2.2.2.2.1)
    have C10 : (0 : Int) ≤ x 6 - x 3 := l_cc (a := y_ev x (0, [(3, (-1)), (6, 1)])) (by show ((0) : Int) + ((-1) * x 3 + ((1) * x 6 + 0)) = x 6 - x 3; omega) (h.2.1.2.2.2.2.2.2.2.2.2.2.1)
    have C11 : (0 : Int) ≤ x 8 - x 4 - 1 := l_cc (a := y_ev x ((-1), [(4, (-1)), (8, 1)])) (by show ((-1) : Int) + ((-1) * x 4 + ((1) * x 8 + 0)) = x 8 - x 4 - 1; omega) (h.2.1.2.2.2.2.2.2.2.2.2.2.2.1)
    have C12 : (0 : Int) ≤ 100 - x 0 := l_cc (a := y_ev x (100, [(0, (-1))])) (by show ((100) : Int) + ((-1) * x 0 + 0) = 100 - x 0; omega) (h.2.1.2.2.2.2.2.2.2.2.2.2.2.2.1)
    have E0 : y_ev x (8, []) = 8 := (l_e0 _ _)
    have E1 : y_ev x (0, [(9, 1)]) = x 9 := (l_e1 _ _)
    have E2 : y_ev x (0, [(10, 1)]) = x 10 := (l_e1 _ _)
    have E3 : y_ev x (0, [(5, 1)]) = x 5 := (l_e1 _ _)
    have E4 : y_ev x (4, []) = 4 := (l_e0 _ _)
    have E5 : y_ev x (0, [(2, 1)]) = x 2 := (l_e1 _ _)
    have E6 : y_ev x (0, []) = 0 := (l_e0 _ _)
    have E7 : y_ev x (0, [(8, 1)]) = x 8 := (l_e1 _ _)
    have E8 : y_ev x (0, [(4, 1)]) = x 4 := (l_e1 _ _)
    have E9 : y_ev x (0, [(6, 1)]) = x 6 := (l_e1 _ _)
    have E10 : y_ev x (40, []) = 40 := (l_e0 _ _)
    have E11 : y_ev x (0, [(11, 1)]) = x 11 := (l_e1 _ _)
    have E12 : y_ev x (0, [(7, 1)]) = x 7 := (l_e1 _ _)
    have E13 : y_ev x (0, [(0, 1)]) = x 0 := (l_e1 _ _)
    have E14 : y_ev x (0, [(1, 1)]) = x 1 := (l_e1 _ _)
    have T0 : q_qry v (y_ev x (8, [])) (y_ev x (0, [(9, 1)])) (y_ev x (0, [(10, 1)])) (y_ev x (0, [(5, 1)])) (y_ev x (4, [])) (y_ev x (0, [(2, 1)])) (y_ev x (0, [])) (y_ev x (0, [(8, 1)])) (y_ev x (0, [(4, 1)])) (y_ev x (0, [])) (y_ev x (0, [(6, 1)])) := h.2.2.2.1
    (try rw [E0] at T0); (try rw [E1] at T0); (try rw [E2] at T0); (try rw [E3] at T0); (try rw [E4] at T0); (try rw [E5] at T0); (try rw [E6] at T0); (try rw [E7] at T0); (try rw [E8] at T0); (try rw [E9] at T0)
    have T1 : q_rwo v (y_ev x (0, [(8, 1)])) (y_ev x (0, [(9, 1)])) (y_ev x (0, [(10, 1)])) (y_ev x (0, [(5, 1)])) (y_ev x (4, [])) (y_ev x (0, [(2, 1)])) (y_ev x (0, [])) (y_ev x (0, [(8, 1)])) := h.2.2.2.2.1
    (try rw [E7] at T1); (try rw [E1] at T1); (try rw [E2] at T1); (try rw [E3] at T1); (try rw [E4] at T1); (try rw [E5] at T1); (try rw [E6] at T1)
    have T2 : q_qry v (y_ev x (40, [])) (y_ev x (0, [(9, 1)])) (y_ev x (0, [(10, 1)])) (y_ev x (0, [(11, 1)])) (y_ev x (0, [])) (y_ev x (0, [])) (y_ev x (0, [])) (y_ev x (0, [])) (y_ev x (0, [(7, 1)])) (y_ev x (0, [(0, 1)])) (y_ev x (0, [(1, 1)])) := h.2.2.2.2.2.1
    (try rw [E10] at T2); (try rw [E1] at T2); (try rw [E2] at T2); (try rw [E11] at T2); (try rw [E6] at T2); (try rw [E12] at T2); (try rw [E13] at T2); (try rw [E14] at T2)
    have K := k_myeY (V := v) (i := x 0) (g := x 1) (n := x 2) (v := x 3) (h := x 4) (t := x 5) (u := x 6) (x := x 7) (H := x 8) (q := x 9) (b := x 10) (s := x 11) T0 T1 T2 C0 C1 C2 C3 C4 C5 C6 C7 C8 C9 C10 C11 C12
    refine l_outH rfl (And.intro h.1 ?_)
    have O0 : y_ev x (100, [(1, (-1))]) = 100 - x 1 := by show ((100) : Int) + ((-1) * x 1 + 0) = _; omega
    have O1 : y_ev x (0, [(1, 1)]) = x 1 := l_e1 _ _
    have O2 : y_ev x (40, []) = 40 := l_e0 _ _
    have O3 : y_ev x (0, [(9, 1)]) = x 9 := l_e1 _ _
    have O4 : y_ev x (0, [(10, 1)]) = x 10 := l_e1 _ _
    have O5 : y_ev x (0, [(11, 1)]) = x 11 := l_e1 _ _
    have O6 : y_ev x (0, []) = 0 := l_e0 _ _
    have O7 : y_ev x (0, [(7, 1)]) = x 7 := l_e1 _ _
    have O8 : y_ev x (1, [(0, 1)]) = x 0 + 1 := by show ((1) : Int) + ((1) * x 0 + 0) = _; omega
    have O9 : y_ev x (1, [(1, 1)]) = x 1 + 1 := by show ((1) : Int) + ((1) * x 1 + 0) = _; omega
    show (0 ≤ y_ev x (100, [(1, (-1))]) ∧ 0 ≤ y_ev x (0, [(1, 1)]) ∧ True) ∧ (q_qry v (y_ev x (40, [])) (y_ev x (0, [(9, 1)])) (y_ev x (0, [(10, 1)])) (y_ev x (0, [(11, 1)])) (y_ev x (0, [])) (y_ev x (0, [])) (y_ev x (0, [])) (y_ev x (0, [])) (y_ev x (0, [(7, 1)])) (y_ev x (1, [(0, 1)])) (y_ev x (1, [(1, 1)])) ∧ True)
    (try rw [O0]); (try rw [O1]); (try rw [O2]); (try rw [O3]); (try rw [O4]); (try rw [O5]); (try rw [O6]); (try rw [O7]); (try rw [O8]); (try rw [O9])
    exact K
def lm_1097pc_0 (t : List zL) : List zL := (0, [(2, (-600)), (3, (-6)), (4, (-1)), (7, 1)]) :: (0, [(2, 600), (3, 6), (4, 1), (7, (-1))]) :: (0, [(0, (-1)), (5, 1), (11, (-1))]) :: (0, [(0, 1), (5, (-1)), (11, 1)]) :: (0, [(4, 1)]) :: (5, [(4, (-1))]) :: (0, [(3, 1)]) :: (99, [(3, (-1))]) :: t
def lm_1097pc_1 (t : List zL) : List zL := (0, [(2, 1)]) :: (0, [(0, 1)]) :: ((-1), [(3, 1), (6, (-1))]) :: ((-1), [(4, (-1)), (8, 1)]) :: t
def lm_1097p : zS := ((lm_660pi_0 (lm_660pi_1 [])), [], (lm_1097pc_0 (lm_1097pc_1 [])), [], [(0, 0, 0, [(0, 1)]), (0, 0, 0, [(1, 1)]), (0, 0, 0, [(2, 1)]), (0, 0, 0, [(3, 1)]), (0, 0, 0, [(4, 1)])], [], (lm_1096pg_0 []))
def lm_1097 : zLem := (lm_1097p, [([((-2147483648), 2147483647), ((-2147483648), 2147483647), ((-2147483648), 2147483647), ((-2147483648), 2147483647), ((-2147483648), 2147483647), ((-2147483648), 2147483647), ((-2147483648), 2147483647), ((-2147483648), 2147483647), ((-2147483648), 2147483647), ((-2147483648), 2147483647), ((-2147483648), 2147483647), ((-2147483648), 2147483647)], [], [], [], [], [], [(238, [(40, []), (0, [(9, 1)]), (0, [(10, 1)]), (0, [(11, 1)]), (0, []), (0, []), (0, []), (0, []), (0, [(7, 1)]), (1, [(0, 1)]), (0, [(1, 1)])])])])
theorem lk_1097 : l_core lm_1097 := by
  first
  | skip
    intro v x h
    have K := k_myeN (V := v) (i := x 0) (g := x 1) (n := x 2) (v := x 3) (h := x 4) (t := x 5) (u := x 6) (x := x 7) (H := x 8) (q := x 9) (b := x 10) (s := x 11) (l_c10 (fun w0 w1 w2 w3 w4 w5 w6 w7 w8 w9 : Int => q_qry v w0 w1 w2 w3 w4 w5 w6 w7 w8 w6 w9) (l_e0 x (8)) (l_e1 x 9) (l_e1 x 10) (l_e1 x 5) (l_e0 x (4)) (l_e1 x 2) (l_e0 x (0)) (l_e1 x 8) (l_e1 x 4) (l_e1 x 6) (h.2.2.2.1)) (l_c7 (fun w0 w1 w2 w3 w4 w5 w6 : Int => q_rwo v w0 w1 w2 w3 w4 w5 w6 w0) (l_e1 x 8) (l_e1 x 9) (l_e1 x 10) (l_e1 x 5) (l_e0 x (4)) (l_e1 x 2) (l_e0 x (0)) (h.2.2.2.2.1)) (l_c8 (fun w0 w1 w2 w3 w4 w5 w6 w7 : Int => q_qry v w0 w1 w2 w3 w4 w4 w4 w4 w5 w6 w7) (l_e0 x (40)) (l_e1 x 9) (l_e1 x 10) (l_e1 x 11) (l_e0 x (0)) (l_e1 x 7) (l_e1 x 0) (l_e1 x 1) (h.2.2.2.2.2.1)) (l_cc (show y_ev x (0, [(2, (-600)), (3, (-6)), (4, (-1)), (7, 1)]) = x 7 - 600 * x 2 - 6 * x 3 - x 4 by show ((0) : Int) + ((-600) * x 2 + ((-6) * x 3 + ((-1) * x 4 + ((1) * x 7 + 0)))) = _; omega) (h.2.1.1)) (l_cc (show y_ev x (0, [(2, 600), (3, 6), (4, 1), (7, (-1))]) = 600 * x 2 + 6 * x 3 + x 4 - x 7 by show ((0) : Int) + ((600) * x 2 + ((6) * x 3 + ((1) * x 4 + ((-1) * x 7 + 0)))) = _; omega) (h.2.1.2.1)) (l_cc (show y_ev x (0, [(0, (-1)), (5, 1), (11, (-1))]) = x 5 - x 0 - x 11 by show ((0) : Int) + ((-1) * x 0 + ((1) * x 5 + ((-1) * x 11 + 0))) = _; omega) (h.2.1.2.2.1)) (l_cc (show y_ev x (0, [(0, 1), (5, (-1)), (11, 1)]) = x 0 + x 11 - x 5 by show ((0) : Int) + ((1) * x 0 + ((-1) * x 5 + ((1) * x 11 + 0))) = _; omega) (h.2.1.2.2.2.1)) (l_cc (l_e1 x 4) (h.2.1.2.2.2.2.1)) (l_cc (l_q1 5 x 4) (h.2.1.2.2.2.2.2.1)) (l_cc (l_e1 x 3) (h.2.1.2.2.2.2.2.2.1)) (l_cc (l_q1 99 x 3) (h.2.1.2.2.2.2.2.2.2.1)) (l_cc (l_e1 x 2) (h.2.1.2.2.2.2.2.2.2.2.1)) (l_cc (l_e1 x 0) (h.2.1.2.2.2.2.2.2.2.2.2.1)) (l_cc (l_q8 1 x 3 6) (h.2.1.2.2.2.2.2.2.2.2.2.2.1)) (l_cc (l_q6 1 x 4 8) (h.2.1.2.2.2.2.2.2.2.2.2.2.2.1))
    refine l_outH rfl (And.intro h.1 ?_)
    exact l_o8 (fun w0 w1 w2 w3 w4 w5 w6 w7 : Int => (True) ∧ (q_qry v w0 w1 w2 w3 w4 w4 w4 w4 w5 w6 w7 ∧ True)) (l_e0 x (40)) (l_e1 x 9) (l_e1 x 10) (l_e1 x 11) (l_e0 x (0)) (l_e1 x 7) (l_q3 1 x 0) (l_e1 x 1) K
  | skip
    intro v x h
    have C0 : (0 : Int) ≤ x 7 - 600 * x 2 - 6 * x 3 - x 4 := l_cc (a := y_ev x (0, [(2, (-600)), (3, (-6)), (4, (-1)), (7, 1)])) (by show ((0) : Int) + ((-600) * x 2 + ((-6) * x 3 + ((-1) * x 4 + ((1) * x 7 + 0)))) = x 7 - 600 * x 2 - 6 * x 3 - x 4; omega) (h.2.1.1)
    have C1 : (0 : Int) ≤ 600 * x 2 + 6 * x 3 + x 4 - x 7 := l_cc (a := y_ev x (0, [(2, 600), (3, 6), (4, 1), (7, (-1))])) (by show ((0) : Int) + ((600) * x 2 + ((6) * x 3 + ((1) * x 4 + ((-1) * x 7 + 0)))) = 600 * x 2 + 6 * x 3 + x 4 - x 7; omega) (h.2.1.2.1)
    have C2 : (0 : Int) ≤ x 5 - x 0 - x 11 := l_cc (a := y_ev x (0, [(0, (-1)), (5, 1), (11, (-1))])) (by show ((0) : Int) + ((-1) * x 0 + ((1) * x 5 + ((-1) * x 11 + 0))) = x 5 - x 0 - x 11; omega) (h.2.1.2.2.1)
    have C3 : (0 : Int) ≤ x 0 + x 11 - x 5 := l_cc (a := y_ev x (0, [(0, 1), (5, (-1)), (11, 1)])) (by show ((0) : Int) + ((1) * x 0 + ((-1) * x 5 + ((1) * x 11 + 0))) = x 0 + x 11 - x 5; omega) (h.2.1.2.2.2.1)
    have C4 : (0 : Int) ≤ x 4 := l_cc (a := y_ev x (0, [(4, 1)])) (l_e1 _ _) (h.2.1.2.2.2.2.1)
    have C5 : (0 : Int) ≤ 5 - x 4 := l_cc (a := y_ev x (5, [(4, (-1))])) (by show ((5) : Int) + ((-1) * x 4 + 0) = 5 - x 4; omega) (h.2.1.2.2.2.2.2.1)
    have C6 : (0 : Int) ≤ x 3 := l_cc (a := y_ev x (0, [(3, 1)])) (l_e1 _ _) (h.2.1.2.2.2.2.2.2.1)
    have C7 : (0 : Int) ≤ 99 - x 3 := l_cc (a := y_ev x (99, [(3, (-1))])) (by show ((99) : Int) + ((-1) * x 3 + 0) = 99 - x 3; omega) (h.2.1.2.2.2.2.2.2.2.1)
    have C8 : (0 : Int) ≤ x 2 := l_cc (a := y_ev x (0, [(2, 1)])) (l_e1 _ _) (h.2.1.2.2.2.2.2.2.2.2.1)
    have C9 : (0 : Int) ≤ x 0 := l_cc (a := y_ev x (0, [(0, 1)])) (l_e1 _ _) (h.2.1.2.2.2.2.2.2.2.2.2.1)
    have C10 : (0 : Int) ≤ x 3 - x 6 - 1 := l_cc (a := y_ev x ((-1), [(3, 1), (6, (-1))])) (by show ((-1) : Int) + ((1) * x 3 + ((-1) * x 6 + 0)) = x 3 - x 6 - 1; omega) (h.2.1.2.2.2.2.2.2.2.2.2.2.1)
    have C11 : (0 : Int) ≤ x 8 - x 4 - 1 := l_cc (a := y_ev x ((-1), [(4, (-1)), (8, 1)])) (by show ((-1) : Int) + ((-1) * x 4 + ((1) * x 8 + 0)) = x 8 - x 4 - 1; omega) (h.2.1.2.2.2.2.2.2.2.2.2.2.2.1)
    have E0 : y_ev x (8, []) = 8 := (l_e0 _ _)
    have E1 : y_ev x (0, [(9, 1)]) = x 9 := (l_e1 _ _)
    have E2 : y_ev x (0, [(10, 1)]) = x 10 := (l_e1 _ _)
    have E3 : y_ev x (0, [(5, 1)]) = x 5 := (l_e1 _ _)
    have E4 : y_ev x (4, []) = 4 := (l_e0 _ _)
    have E5 : y_ev x (0, [(2, 1)]) = x 2 := (l_e1 _ _)
    have E6 : y_ev x (0, []) = 0 := (l_e0 _ _)
    have E7 : y_ev x (0, [(8, 1)]) = x 8 := (l_e1 _ _)
    have E8 : y_ev x (0, [(4, 1)]) = x 4 := (l_e1 _ _)
    have E9 : y_ev x (0, [(6, 1)]) = x 6 := (l_e1 _ _)
    have E10 : y_ev x (40, []) = 40 := (l_e0 _ _)
    have E11 : y_ev x (0, [(11, 1)]) = x 11 := (l_e1 _ _)
    have E12 : y_ev x (0, [(7, 1)]) = x 7 := (l_e1 _ _)
    have E13 : y_ev x (0, [(0, 1)]) = x 0 := (l_e1 _ _)
    have E14 : y_ev x (0, [(1, 1)]) = x 1 := (l_e1 _ _)
    have T0 : q_qry v (y_ev x (8, [])) (y_ev x (0, [(9, 1)])) (y_ev x (0, [(10, 1)])) (y_ev x (0, [(5, 1)])) (y_ev x (4, [])) (y_ev x (0, [(2, 1)])) (y_ev x (0, [])) (y_ev x (0, [(8, 1)])) (y_ev x (0, [(4, 1)])) (y_ev x (0, [])) (y_ev x (0, [(6, 1)])) := h.2.2.2.1
    (try rw [E0] at T0); (try rw [E1] at T0); (try rw [E2] at T0); (try rw [E3] at T0); (try rw [E4] at T0); (try rw [E5] at T0); (try rw [E6] at T0); (try rw [E7] at T0); (try rw [E8] at T0); (try rw [E9] at T0)
    have T1 : q_rwo v (y_ev x (0, [(8, 1)])) (y_ev x (0, [(9, 1)])) (y_ev x (0, [(10, 1)])) (y_ev x (0, [(5, 1)])) (y_ev x (4, [])) (y_ev x (0, [(2, 1)])) (y_ev x (0, [])) (y_ev x (0, [(8, 1)])) := h.2.2.2.2.1
    (try rw [E7] at T1); (try rw [E1] at T1); (try rw [E2] at T1); (try rw [E3] at T1); (try rw [E4] at T1); (try rw [E5] at T1); (try rw [E6] at T1)
    have T2 : q_qry v (y_ev x (40, [])) (y_ev x (0, [(9, 1)])) (y_ev x (0, [(10, 1)])) (y_ev x (0, [(11, 1)])) (y_ev x (0, [])) (y_ev x (0, [])) (y_ev x (0, [])) (y_ev x (0, [])) (y_ev x (0, [(7, 1)])) (y_ev x (0, [(0, 1)])) (y_ev x (0, [(1, 1)])) := h.2.2.2.2.2.1
    (try rw [E10] at T2); (try rw [E1] at T2); (try rw [E2] at T2); (try rw [E11] at T2); (try rw [E6] at T2); (try rw [E12] at T2); (try rw [E13] at T2); (try rw [E14] at T2)
    have K := k_myeN (V := v) (i := x 0) (g := x 1) (n := x 2) (v := x 3) (h := x 4) (t := x 5) (u := x 6) (x := x 7) (H := x 8) (q := x 9) (b := x 10) (s := x 11) T0 T1 T2 C0 C1 C2 C3 C4 C5 C6 C7 C8 C9 C10 C11
    refine l_outH rfl (And.intro h.1 ?_)
    have O0 : y_ev x (40, []) = 40 := l_e0 _ _
    have O1 : y_ev x (0, [(9, 1)]) = x 9 := l_e1 _ _
    have O2 : y_ev x (0, [(10, 1)]) = x 10 := l_e1 _ _
    have O3 : y_ev x (0, [(11, 1)]) = x 11 := l_e1 _ _
    have O4 : y_ev x (0, []) = 0 := l_e0 _ _
    have O5 : y_ev x (0, [(7, 1)]) = x 7 := l_e1 _ _
    have O6 : y_ev x (1, [(0, 1)]) = x 0 + 1 := by show ((1) : Int) + ((1) * x 0 + 0) = _; omega
    have O7 : y_ev x (0, [(1, 1)]) = x 1 := l_e1 _ _
    show (True) ∧ (q_qry v (y_ev x (40, [])) (y_ev x (0, [(9, 1)])) (y_ev x (0, [(10, 1)])) (y_ev x (0, [(11, 1)])) (y_ev x (0, [])) (y_ev x (0, [])) (y_ev x (0, [])) (y_ev x (0, [])) (y_ev x (0, [(7, 1)])) (y_ev x (1, [(0, 1)])) (y_ev x (0, [(1, 1)])) ∧ True)
    (try rw [O0]); (try rw [O1]); (try rw [O2]); (try rw [O3]); (try rw [O4]); (try rw [O5]); (try rw [O6]); (try rw [O7])
    exact K
def lm_1098 : zLem := (([((-2147483648), 2147483647), ((-2147483648), 2147483647), ((-2147483648), 2147483647), ((-2147483648), 2147483647), ((-2147483648), 2147483647), ((-2147483648), 2147483647), ((-2147483648), 2147483647)], [], [], [], [], [], [(260, [(40, []), (0, [(4, 1)]), (0, [(5, 1)]), (0, [(6, 1)]), (0, []), (0, []), (0, []), (0, []), (0, [(0, 1)]), (0, [(1, 1)]), (0, [(2, 1)])]), (238, [(40, []), (0, [(4, 1)]), (0, [(5, 1)]), (0, [(6, 1)]), (0, []), (0, []), (0, []), (0, []), (0, [(0, 1)]), (0, [(1, 1)]), (0, [(3, 1)])])]), [([((-2147483648), 2147483647), ((-2147483648), 2147483647), ((-2147483648), 2147483647), ((-2147483648), 2147483647), ((-2147483648), 2147483647), ((-2147483648), 2147483647), ((-2147483648), 2147483647)], [], [(0, [(2, 1), (3, (-1))]), (0, [(2, (-1)), (3, 1)])], [], [], [], [])])
theorem lk_1098 : l_core lm_1098 := by
  first
  | skip
    intro v x h
    have K := k_qeY (V := v) (x := x 0) (k := x 1) (u := x 2) (w := x 3) (q := x 4) (b := x 5) (s := x 6) (l_c8 (fun w0 w1 w2 w3 w4 w5 w6 w7 : Int => q_qry v w0 w1 w2 w3 w4 w4 w4 w4 w5 w6 w7) (l_e0 x (40)) (l_e1 x 4) (l_e1 x 5) (l_e1 x 6) (l_e0 x (0)) (l_e1 x 0) (l_e1 x 1) (l_e1 x 2) (h.2.2.2.1)) (l_c8 (fun w0 w1 w2 w3 w4 w5 w6 w7 : Int => q_qry v w0 w1 w2 w3 w4 w4 w4 w4 w5 w6 w7) (l_e0 x (40)) (l_e1 x 4) (l_e1 x 5) (l_e1 x 6) (l_e0 x (0)) (l_e1 x 0) (l_e1 x 1) (l_e1 x 3) (h.2.2.2.2.1))
    refine l_outH rfl (And.intro h.1 ?_)
    exact l_o2 (fun w0 w1 : Int => (0 ≤ w0 ∧ 0 ≤ w1 ∧ True) ∧ (True)) (l_q5 x 2 3) (l_q4 x 2 3) K
  | skip
    intro v x h
    have E0 : y_ev x (40, []) = 40 := (l_e0 _ _)
    have E1 : y_ev x (0, [(4, 1)]) = x 4 := (l_e1 _ _)
    have E2 : y_ev x (0, [(5, 1)]) = x 5 := (l_e1 _ _)
    have E3 : y_ev x (0, [(6, 1)]) = x 6 := (l_e1 _ _)
    have E4 : y_ev x (0, []) = 0 := (l_e0 _ _)
    have E5 : y_ev x (0, [(0, 1)]) = x 0 := (l_e1 _ _)
    have E6 : y_ev x (0, [(1, 1)]) = x 1 := (l_e1 _ _)
    have E7 : y_ev x (0, [(2, 1)]) = x 2 := (l_e1 _ _)
    have E8 : y_ev x (0, [(3, 1)]) = x 3 := (l_e1 _ _)
    have T0 : q_qry v (y_ev x (40, [])) (y_ev x (0, [(4, 1)])) (y_ev x (0, [(5, 1)])) (y_ev x (0, [(6, 1)])) (y_ev x (0, [])) (y_ev x (0, [])) (y_ev x (0, [])) (y_ev x (0, [])) (y_ev x (0, [(0, 1)])) (y_ev x (0, [(1, 1)])) (y_ev x (0, [(2, 1)])) := h.2.2.2.1
    (try rw [E0] at T0); (try rw [E1] at T0); (try rw [E2] at T0); (try rw [E3] at T0); (try rw [E4] at T0); (try rw [E5] at T0); (try rw [E6] at T0); (try rw [E7] at T0)
    have T1 : q_qry v (y_ev x (40, [])) (y_ev x (0, [(4, 1)])) (y_ev x (0, [(5, 1)])) (y_ev x (0, [(6, 1)])) (y_ev x (0, [])) (y_ev x (0, [])) (y_ev x (0, [])) (y_ev x (0, [])) (y_ev x (0, [(0, 1)])) (y_ev x (0, [(1, 1)])) (y_ev x (0, [(3, 1)])) := h.2.2.2.2.1
    (try rw [E0] at T1); (try rw [E1] at T1); (try rw [E2] at T1); (try rw [E3] at T1); (try rw [E4] at T1); (try rw [E5] at T1); (try rw [E6] at T1); (try rw [E8] at T1)
    have K := k_qeY (V := v) (x := x 0) (k := x 1) (u := x 2) (w := x 3) (q := x 4) (b := x 5) (s := x 6) T0 T1
    refine l_outH rfl (And.intro h.1 ?_)
    have O0 : y_ev x (0, [(2, 1), (3, (-1))]) = x 2 - x 3 := by show ((0) : Int) + ((1) * x 2 + ((-1) * x 3 + 0)) = _; omega
    have O1 : y_ev x (0, [(2, (-1)), (3, 1)]) = x 3 - x 2 := by show ((0) : Int) + ((-1) * x 2 + ((1) * x 3 + 0)) = _; omega
    show (0 ≤ y_ev x (0, [(2, 1), (3, (-1))]) ∧ 0 ≤ y_ev x (0, [(2, (-1)), (3, 1)]) ∧ True) ∧ (True)
    (try rw [O0]); (try rw [O1])
    exact K
def lm_1099 : zLem := (([((-2147483648), 2147483647), ((-2147483648), 2147483647), ((-2147483648), 2147483647), ((-2147483648), 2147483647), ((-2147483648), 2147483647)], [(3, false)], [], [], [], [(0, (false, 4, 0, []), 0, 0, 0, [(4, 1)])], [(236, [(0, [(0, 1)]), (0, [(1, 1)]), (0, [(2, 1)]), (0, [(3, 1)]), (0, []), (0, []), (0, []), (0, []), (0, []), (0, []), (0, [])])]), [([((-2147483648), 2147483647), ((-2147483648), 2147483647), ((-2147483648), 2147483647), ((-2147483648), 2147483647), ((-2147483648), 2147483647)], [(3, false)], [], [], [], [], [(236, [(0, [(0, 1)]), (0, [(1, 1)]), (0, [(2, 1)]), (0, [(3, 1)]), (0, [(4, 1)]), (0, []), (0, []), (4, []), (0, []), (0, []), (0, [(0, 1)])])])])
theorem lk_1099 : l_core lm_1099 := by
  first
  | skip
    intro v x h
    have K := k_ts4 (V := v) (H := x 0) (p := x 1) (y := x 2) (d := x 3) (q := x 4) (l_c5 (fun w0 w1 w2 w3 w4 : Int => q_sto v 1 w0 w1 w2 w3 w4 w4 w4 w4 w4 w4 w4) (l_e1 x 0) (l_e1 x 1) (l_e1 x 2) (l_e1 x 3) (l_e0 x (0)) (h.2.2.2.1))
    refine l_outH rfl (And.intro h.1 ?_)
    exact l_o7 (fun w0 w1 w2 w3 w4 w5 w6 : Int => (True) ∧ (q_sto v 1 w0 w1 w2 w3 w4 w5 w5 w6 w5 w5 w0 ∧ True)) (l_e1 x 0) (l_e1 x 1) (l_e1 x 2) (l_e1 x 3) (l_e1 x 4) (l_e0 x (0)) (l_e0 x (4)) K
  | skip
    intro v x h
    have E0 : y_ev x (0, [(0, 1)]) = x 0 := (l_e1 _ _)
    have E1 : y_ev x (0, [(1, 1)]) = x 1 := (l_e1 _ _)
    have E2 : y_ev x (0, [(2, 1)]) = x 2 := (l_e1 _ _)
    have E3 : y_ev x (0, [(3, 1)]) = x 3 := (l_e1 _ _)
    have E4 : y_ev x (0, []) = 0 := (l_e0 _ _)
    have T0 : q_sto v 1 (y_ev x (0, [(0, 1)])) (y_ev x (0, [(1, 1)])) (y_ev x (0, [(2, 1)])) (y_ev x (0, [(3, 1)])) (y_ev x (0, [])) (y_ev x (0, [])) (y_ev x (0, [])) (y_ev x (0, [])) (y_ev x (0, [])) (y_ev x (0, [])) (y_ev x (0, [])) := h.2.2.2.1
    (try rw [E0] at T0); (try rw [E1] at T0); (try rw [E2] at T0); (try rw [E3] at T0); (try rw [E4] at T0)
    have K := k_ts4 (V := v) (H := x 0) (p := x 1) (y := x 2) (d := x 3) (q := x 4) T0
    refine l_outH rfl (And.intro h.1 ?_)
    have O0 : y_ev x (0, [(0, 1)]) = x 0 := l_e1 _ _
    have O1 : y_ev x (0, [(1, 1)]) = x 1 := l_e1 _ _
    have O2 : y_ev x (0, [(2, 1)]) = x 2 := l_e1 _ _
    have O3 : y_ev x (0, [(3, 1)]) = x 3 := l_e1 _ _
    have O4 : y_ev x (0, [(4, 1)]) = x 4 := l_e1 _ _
    have O5 : y_ev x (0, []) = 0 := l_e0 _ _
    have O6 : y_ev x (4, []) = 4 := l_e0 _ _
    show (True) ∧ (q_sto v 1 (y_ev x (0, [(0, 1)])) (y_ev x (0, [(1, 1)])) (y_ev x (0, [(2, 1)])) (y_ev x (0, [(3, 1)])) (y_ev x (0, [(4, 1)])) (y_ev x (0, [])) (y_ev x (0, [])) (y_ev x (4, [])) (y_ev x (0, [])) (y_ev x (0, [])) (y_ev x (0, [(0, 1)])) ∧ True)
    (try rw [O0]); (try rw [O1]); (try rw [O2]); (try rw [O3]); (try rw [O4]); (try rw [O5]); (try rw [O6])
    exact K
def lm_1100 : zLem := (([((-2147483648), 2147483647), ((-2147483648), 2147483647), ((-2147483648), 2147483647), ((-2147483648), 2147483647), ((-2147483648), 2147483647), ((-2147483648), 2147483647)], [(3, false)], [(0, [(0, 1)]), (0, [(1, 1)]), (6, [(1, (-1))])], [], [(0, 0, 0, [(0, 1)])], [(0, (false, 4, 0, []), 0, 0, 0, [(5, 1)])], [(235, [(0, [(1, 1)]), (0, [(2, 1)]), (0, [(3, 1)]), (0, [(4, 1)]), (0, []), (0, []), (0, []), (0, []), (0, []), (0, []), (0, [])])]), [([((-2147483648), 2147483647), ((-2147483648), 2147483647), ((-2147483648), 2147483647), ((-2147483648), 2147483647), ((-2147483648), 2147483647), ((-2147483648), 2147483647)], [(3, false)], [], [], [], [], [(238, [(41, []), (0, [(5, 1)]), (0, []), (0, []), (0, []), (0, []), (0, []), (0, []), (0, [(0, 10), (1, 1)]), (0, []), (0, [])])])])
theorem lk_1100 : l_core lm_1100 := by
  first
  | skip
    intro v x h
    have K := k_nby0 (V := v) (w := x 0) (H := x 1) (p := x 2) (y := x 3) (d := x 4) (q := x 5) (l_c5 (fun w0 w1 w2 w3 w4 : Int => q_sto v 0 w0 w1 w2 w3 w4 w4 w4 w4 w4 w4 w4) (l_e1 x 1) (l_e1 x 2) (l_e1 x 3) (l_e1 x 4) (l_e0 x (0)) (h.2.2.2.1)) (l_cc (l_e1 x 0) (h.2.1.1)) (l_cc (l_e1 x 1) (h.2.1.2.1)) (l_cc (l_q1 6 x 1) (h.2.1.2.2.1))
    refine l_outH rfl (And.intro h.1 ?_)
    exact l_o4 (fun w0 w1 w2 w3 : Int => (True) ∧ (q_qry v w0 w1 w2 w2 w2 w2 w2 w2 w3 w2 w2 ∧ True)) (l_e0 x (41)) (l_e1 x 5) (l_e0 x (0)) (l_q10 10 x 0 1) K
  | skip
    intro v x h
    have C0 : (0 : Int) ≤ x 0 := l_cc (a := y_ev x (0, [(0, 1)])) (l_e1 _ _) (h.2.1.1)
    have C1 : (0 : Int) ≤ x 1 := l_cc (a := y_ev x (0, [(1, 1)])) (l_e1 _ _) (h.2.1.2.1)
    have C2 : (0 : Int) ≤ 6 - x 1 := l_cc (a := y_ev x (6, [(1, (-1))])) (by show ((6) : Int) + ((-1) * x 1 + 0) = 6 - x 1; omega) (h.2.1.2.2.1)
    have E0 : y_ev x (0, [(1, 1)]) = x 1 := (l_e1 _ _)
    have E1 : y_ev x (0, [(2, 1)]) = x 2 := (l_e1 _ _)
    have E2 : y_ev x (0, [(3, 1)]) = x 3 := (l_e1 _ _)
    have E3 : y_ev x (0, [(4, 1)]) = x 4 := (l_e1 _ _)
    have E4 : y_ev x (0, []) = 0 := (l_e0 _ _)
    have T0 : q_sto v 0 (y_ev x (0, [(1, 1)])) (y_ev x (0, [(2, 1)])) (y_ev x (0, [(3, 1)])) (y_ev x (0, [(4, 1)])) (y_ev x (0, [])) (y_ev x (0, [])) (y_ev x (0, [])) (y_ev x (0, [])) (y_ev x (0, [])) (y_ev x (0, [])) (y_ev x (0, [])) := h.2.2.2.1
    (try rw [E0] at T0); (try rw [E1] at T0); (try rw [E2] at T0); (try rw [E3] at T0); (try rw [E4] at T0)
    have K := k_nby0 (V := v) (w := x 0) (H := x 1) (p := x 2) (y := x 3) (d := x 4) (q := x 5) T0 C0 C1 C2
    refine l_outH rfl (And.intro h.1 ?_)
    have O0 : y_ev x (41, []) = 41 := l_e0 _ _
    have O1 : y_ev x (0, [(5, 1)]) = x 5 := l_e1 _ _
    have O2 : y_ev x (0, []) = 0 := l_e0 _ _
    have O3 : y_ev x (0, [(0, 10), (1, 1)]) = 10 * x 0 + x 1 := by show ((0) : Int) + ((10) * x 0 + ((1) * x 1 + 0)) = _; omega
    show (True) ∧ (q_qry v (y_ev x (41, [])) (y_ev x (0, [(5, 1)])) (y_ev x (0, [])) (y_ev x (0, [])) (y_ev x (0, [])) (y_ev x (0, [])) (y_ev x (0, [])) (y_ev x (0, [])) (y_ev x (0, [(0, 10), (1, 1)])) (y_ev x (0, [])) (y_ev x (0, [])) ∧ True)
    (try rw [O0]); (try rw [O1]); (try rw [O2]); (try rw [O3])
    exact K
def lm_1101pc_0 (t : List zL) : List zL := (0, [(1, (-10)), (2, 1), (3, (-1))]) :: (0, [(1, 10), (2, (-1)), (3, 1)]) :: (0, [(1, 1)]) :: (0, [(3, 1)]) :: (6, [(3, (-1))]) :: (0, [(0, 1)]) :: (0, [(5, 1)]) :: (60, [(0, (-1))]) :: t
def lm_1101pc_1 (t : List zL) : List zL := (999, [(1, (-1))]) :: t
def lm_1101p : zS := ([((-2147483648), 2147483647), ((-2147483648), 2147483647), ((-2147483648), 2147483647), ((-2147483648), 2147483647), ((-2147483648), 2147483647), ((-2147483648), 2147483647), ((-2147483648), 2147483647)], [], (lm_1101pc_0 (lm_1101pc_1 [])), [], [(0, 0, 0, [(1, 1)]), (0, 0, 0, [(0, 1)])], [], [(252, [(0, [(6, 1)]), (0, []), (0, []), (4, []), (0, [(0, 1)]), (0, []), (0, [(3, 1)]), ((-2), []), (0, [(4, 1)])]), (254, [(0, [(1, 1)]), (0, [(4, 1)]), (0, [(5, 1)])]), (238, [(41, []), (0, [(6, 1)]), (0, []), (0, []), (0, []), (0, []), (0, []), (0, []), (0, [(2, 1)]), (0, [(0, 1)]), (0, [])])])
def lm_1101 : zLem := (lm_1101p, [([((-2147483648), 2147483647), ((-2147483648), 2147483647), ((-2147483648), 2147483647), ((-2147483648), 2147483647), ((-2147483648), 2147483647), ((-2147483648), 2147483647), ((-2147483648), 2147483647)], [], [], [], [], [], [(260, [(42, []), (0, [(6, 1)]), (0, []), (0, []), (0, []), (0, []), (0, []), (0, []), (0, [(2, 1)]), (0, []), (0, [(0, 1)])])])])
theorem lk_1101 : l_core lm_1101 := by
  first
  | skip
    intro v x h
    have K := k_lasY (V := v) (n := x 0) (w := x 1) (x := x 2) (H := x 3) (m := x 4) (i := x 5) (q := x 6) (l_c7 (fun w0 w1 w2 w3 w4 w5 w6 : Int => q_mgn v w0 w1 w1 w2 w3 w1 w4 w5 w6) (l_e1 x 6) (l_e0 x (0)) (l_e0 x (4)) (l_e1 x 0) (l_e1 x 3) (l_e0 x (-2)) (l_e1 x 4) (h.2.2.2.1)) (l_c3 (fun w0 w1 w2 : Int => (0 ≤ w2 ∧ w2 < w1 ∧ v 25 w2 < w0 ∧ ∀ t : Int, 0 ≤ t → t < w2 → w0 ≤ v 25 t) ∨ (w2 = -1 ∧ ∀ t : Int, 0 ≤ t → t < w1 → w0 ≤ v 25 t)) (l_e1 x 1) (l_e1 x 4) (l_e1 x 5) (h.2.2.2.2.1)) (l_c5 (fun w0 w1 w2 w3 w4 : Int => q_qry v w0 w1 w2 w2 w2 w2 w2 w2 w3 w4 w2) (l_e0 x (41)) (l_e1 x 6) (l_e0 x (0)) (l_e1 x 2) (l_e1 x 0) (h.2.2.2.2.2.1)) (l_cc (show y_ev x (0, [(1, (-10)), (2, 1), (3, (-1))]) = x 2 - 10 * x 1 - x 3 by show ((0) : Int) + ((-10) * x 1 + ((1) * x 2 + ((-1) * x 3 + 0))) = _; omega) (h.2.1.1)) (l_cc (show y_ev x (0, [(1, 10), (2, (-1)), (3, 1)]) = 10 * x 1 + x 3 - x 2 by show ((0) : Int) + ((10) * x 1 + ((-1) * x 2 + ((1) * x 3 + 0))) = _; omega) (h.2.1.2.1)) (l_cc (l_e1 x 1) (h.2.1.2.2.1)) (l_cc (l_e1 x 3) (h.2.1.2.2.2.1)) (l_cc (l_q1 6 x 3) (h.2.1.2.2.2.2.1)) (l_cc (l_e1 x 0) (h.2.1.2.2.2.2.2.1)) (l_cc (l_e1 x 5) (h.2.1.2.2.2.2.2.2.1)) (l_cc (l_q1 60 x 0) (h.2.1.2.2.2.2.2.2.2.1)) (l_cc (l_q1 999 x 1) (h.2.1.2.2.2.2.2.2.2.2.1))
    refine l_outH rfl (And.intro h.1 ?_)
    exact l_o5 (fun w0 w1 w2 w3 w4 : Int => (True) ∧ (q_qry v w0 w1 w2 w2 w2 w2 w2 w2 w3 w2 w4 ∧ True)) (l_e0 x (42)) (l_e1 x 6) (l_e0 x (0)) (l_e1 x 2) (l_e1 x 0) K
  | skip
    intro v x h
    have C0 : (0 : Int) ≤ x 2 - 10 * x 1 - x 3 := l_cc (a := y_ev x (0, [(1, (-10)), (2, 1), (3, (-1))])) (by show ((0) : Int) + ((-10) * x 1 + ((1) * x 2 + ((-1) * x 3 + 0))) = x 2 - 10 * x 1 - x 3; omega) (h.2.1.1)
    have C1 : (0 : Int) ≤ 10 * x 1 + x 3 - x 2 := l_cc (a := y_ev x (0, [(1, 10), (2, (-1)), (3, 1)])) (by show ((0) : Int) + ((10) * x 1 + ((-1) * x 2 + ((1) * x 3 + 0))) = 10 * x 1 + x 3 - x 2; omega) (h.2.1.2.1)
    have C2 : (0 : Int) ≤ x 1 := l_cc (a := y_ev x (0, [(1, 1)])) (l_e1 _ _) (h.2.1.2.2.1)
    have C3 : (0 : Int) ≤ x 3 := l_cc (a := y_ev x (0, [(3, 1)])) (l_e1 _ _) (h.2.1.2.2.2.1)
    have C4 : (0 : Int) ≤ 6 - x 3 := l_cc (a := y_ev x (6, [(3, (-1))])) (by show ((6) : Int) + ((-1) * x 3 + 0) = 6 - x 3; omega) (h.2.1.2.2.2.2.1)
    have C5 : (0 : Int) ≤ x 0 := l_cc (a := y_ev x (0, [(0, 1)])) (l_e1 _ _) (h.2.1.2.2.2.2.2.1)
    have C6 : (0 : Int) ≤ x 5 := l_cc (a := y_ev x (0, [(5, 1)])) (l_e1 _ _) (h.2.1.2.2.2.2.2.2.1)
    have C7 : (0 : Int) ≤ 60 - x 0 := l_cc (a := y_ev x (60, [(0, (-1))])) (by show ((60) : Int) + ((-1) * x 0 + 0) = 60 - x 0; omega) (h.2.1.2.2.2.2.2.2.2.1)
    have C8 : (0 : Int) ≤ 999 - x 1 := l_cc (a := y_ev x (999, [(1, (-1))])) (by show ((999) : Int) + ((-1) * x 1 + 0) = 999 - x 1; omega) (h.2.1.2.2.2.2.2.2.2.2.1)
    have E0 : y_ev x (0, [(6, 1)]) = x 6 := (l_e1 _ _)
    have E1 : y_ev x (0, []) = 0 := (l_e0 _ _)
    have E2 : y_ev x (4, []) = 4 := (l_e0 _ _)
    have E3 : y_ev x (0, [(0, 1)]) = x 0 := (l_e1 _ _)
    have E4 : y_ev x (0, [(3, 1)]) = x 3 := (l_e1 _ _)
    have E5 : y_ev x ((-2), []) = (-2) := (l_e0 _ _)
    have E6 : y_ev x (0, [(4, 1)]) = x 4 := (l_e1 _ _)
    have E7 : y_ev x (0, [(1, 1)]) = x 1 := (l_e1 _ _)
    have E8 : y_ev x (0, [(5, 1)]) = x 5 := (l_e1 _ _)
    have E9 : y_ev x (41, []) = 41 := (l_e0 _ _)
    have E10 : y_ev x (0, [(2, 1)]) = x 2 := (l_e1 _ _)
    have T0 : q_mgn v (y_ev x (0, [(6, 1)])) (y_ev x (0, [])) (y_ev x (0, [])) (y_ev x (4, [])) (y_ev x (0, [(0, 1)])) (y_ev x (0, [])) (y_ev x (0, [(3, 1)])) (y_ev x ((-2), [])) (y_ev x (0, [(4, 1)])) := h.2.2.2.1
    (try rw [E0] at T0); (try rw [E1] at T0); (try rw [E2] at T0); (try rw [E3] at T0); (try rw [E4] at T0); (try rw [E5] at T0); (try rw [E6] at T0)
    have T1 : (0 ≤ (y_ev x (0, [(5, 1)])) ∧ (y_ev x (0, [(5, 1)])) < (y_ev x (0, [(4, 1)])) ∧ v 25 (y_ev x (0, [(5, 1)])) < (y_ev x (0, [(1, 1)])) ∧ ∀ t : Int, 0 ≤ t → t < (y_ev x (0, [(5, 1)])) → (y_ev x (0, [(1, 1)])) ≤ v 25 t) ∨ ((y_ev x (0, [(5, 1)])) = -1 ∧ ∀ t : Int, 0 ≤ t → t < (y_ev x (0, [(4, 1)])) → (y_ev x (0, [(1, 1)])) ≤ v 25 t) := h.2.2.2.2.1
    (try rw [E7] at T1); (try rw [E6] at T1); (try rw [E8] at T1)
    have T2 : q_qry v (y_ev x (41, [])) (y_ev x (0, [(6, 1)])) (y_ev x (0, [])) (y_ev x (0, [])) (y_ev x (0, [])) (y_ev x (0, [])) (y_ev x (0, [])) (y_ev x (0, [])) (y_ev x (0, [(2, 1)])) (y_ev x (0, [(0, 1)])) (y_ev x (0, [])) := h.2.2.2.2.2.1
    (try rw [E9] at T2); (try rw [E0] at T2); (try rw [E1] at T2); (try rw [E10] at T2); (try rw [E3] at T2)
    have K := k_lasY (V := v) (n := x 0) (w := x 1) (x := x 2) (H := x 3) (m := x 4) (i := x 5) (q := x 6) T0 T1 T2 C0 C1 C2 C3 C4 C5 C6 C7 C8
    refine l_outH rfl (And.intro h.1 ?_)
    have O0 : y_ev x (42, []) = 42 := l_e0 _ _
    have O1 : y_ev x (0, [(6, 1)]) = x 6 := l_e1 _ _
    have O2 : y_ev x (0, []) = 0 := l_e0 _ _
    have O3 : y_ev x (0, [(2, 1)]) = x 2 := l_e1 _ _
    have O4 : y_ev x (0, [(0, 1)]) = x 0 := l_e1 _ _
    show (True) ∧ (q_qry v (y_ev x (42, [])) (y_ev x (0, [(6, 1)])) (y_ev x (0, [])) (y_ev x (0, [])) (y_ev x (0, [])) (y_ev x (0, [])) (y_ev x (0, [])) (y_ev x (0, [])) (y_ev x (0, [(2, 1)])) (y_ev x (0, [])) (y_ev x (0, [(0, 1)])) ∧ True)
    (try rw [O0]); (try rw [O1]); (try rw [O2]); (try rw [O3]); (try rw [O4])
    exact K
def lm_1102 : zLem := (([((-2147483648), 2147483647), ((-2147483648), 2147483647), ((-2147483648), 2147483647), ((-2147483648), 2147483647), ((-2147483648), 2147483647), ((-2147483648), 2147483647)], [], [(0, [(1, (-10)), (2, 1), (3, (-1))]), (0, [(1, 10), (2, (-1)), (3, 1)]), (0, [(1, 1)]), (0, [(3, 1)]), (6, [(3, (-1))]), (0, [(0, 1)]), (999, [(1, (-1))])], [], [(0, 0, 0, [(1, 1)]), (0, 0, 0, [(0, 1)])], [], [(252, [(0, [(5, 1)]), (0, []), (0, []), (4, []), (0, [(0, 1)]), (0, []), (0, [(3, 1)]), ((-2), []), (0, [(4, 1)])]), (254, [(0, [(1, 1)]), (0, [(4, 1)]), ((-1), [])]), (238, [(41, []), (0, [(5, 1)]), (0, []), (0, []), (0, []), (0, []), (0, []), (0, []), (0, [(2, 1)]), (0, [(0, 1)]), (0, [])])]), [([((-2147483648), 2147483647), ((-2147483648), 2147483647), ((-2147483648), 2147483647), ((-2147483648), 2147483647), ((-2147483648), 2147483647), ((-2147483648), 2147483647)], [], [], [], [], [], [(238, [(41, []), (0, [(5, 1)]), (0, []), (0, []), (0, []), (0, []), (0, []), (0, []), (0, [(2, 1)]), (1, [(0, 1)]), (0, [])])])])
theorem lk_1102 : l_core lm_1102 := by
  first
  | skip
    intro v x h
    have K := k_lasN (V := v) (n := x 0) (w := x 1) (x := x 2) (H := x 3) (m := x 4) (q := x 5) (l_c7 (fun w0 w1 w2 w3 w4 w5 w6 : Int => q_mgn v w0 w1 w1 w2 w3 w1 w4 w5 w6) (l_e1 x 5) (l_e0 x (0)) (l_e0 x (4)) (l_e1 x 0) (l_e1 x 3) (l_e0 x (-2)) (l_e1 x 4) (h.2.2.2.1)) (l_c3 (fun w0 w1 w2 : Int => (0 ≤ w2 ∧ w2 < w1 ∧ v 25 w2 < w0 ∧ ∀ t : Int, 0 ≤ t → t < w2 → w0 ≤ v 25 t) ∨ (w2 = -1 ∧ ∀ t : Int, 0 ≤ t → t < w1 → w0 ≤ v 25 t)) (l_e1 x 1) (l_e1 x 4) (l_e0 x (-1)) (h.2.2.2.2.1)) (l_c5 (fun w0 w1 w2 w3 w4 : Int => q_qry v w0 w1 w2 w2 w2 w2 w2 w2 w3 w4 w2) (l_e0 x (41)) (l_e1 x 5) (l_e0 x (0)) (l_e1 x 2) (l_e1 x 0) (h.2.2.2.2.2.1)) (l_cc (show y_ev x (0, [(1, (-10)), (2, 1), (3, (-1))]) = x 2 - 10 * x 1 - x 3 by show ((0) : Int) + ((-10) * x 1 + ((1) * x 2 + ((-1) * x 3 + 0))) = _; omega) (h.2.1.1)) (l_cc (show y_ev x (0, [(1, 10), (2, (-1)), (3, 1)]) = 10 * x 1 + x 3 - x 2 by show ((0) : Int) + ((10) * x 1 + ((-1) * x 2 + ((1) * x 3 + 0))) = _; omega) (h.2.1.2.1)) (l_cc (l_e1 x 1) (h.2.1.2.2.1)) (l_cc (l_e1 x 3) (h.2.1.2.2.2.1)) (l_cc (l_q1 6 x 3) (h.2.1.2.2.2.2.1)) (l_cc (l_e1 x 0) (h.2.1.2.2.2.2.2.1)) (l_cc (l_q1 999 x 1) (h.2.1.2.2.2.2.2.2.1))
    refine l_outH rfl (And.intro h.1 ?_)
    exact l_o5 (fun w0 w1 w2 w3 w4 : Int => (True) ∧ (q_qry v w0 w1 w2 w2 w2 w2 w2 w2 w3 w4 w2 ∧ True)) (l_e0 x (41)) (l_e1 x 5) (l_e0 x (0)) (l_e1 x 2) (l_q3 1 x 0) K
  | skip
    intro v x h
    have C0 : (0 : Int) ≤ x 2 - 10 * x 1 - x 3 := l_cc (a := y_ev x (0, [(1, (-10)), (2, 1), (3, (-1))])) (by show ((0) : Int) + ((-10) * x 1 + ((1) * x 2 + ((-1) * x 3 + 0))) = x 2 - 10 * x 1 - x 3; omega) (h.2.1.1)
    have C1 : (0 : Int) ≤ 10 * x 1 + x 3 - x 2 := l_cc (a := y_ev x (0, [(1, 10), (2, (-1)), (3, 1)])) (by show ((0) : Int) + ((10) * x 1 + ((-1) * x 2 + ((1) * x 3 + 0))) = 10 * x 1 + x 3 - x 2; omega) (h.2.1.2.1)
    have C2 : (0 : Int) ≤ x 1 := l_cc (a := y_ev x (0, [(1, 1)])) (l_e1 _ _) (h.2.1.2.2.1)
    have C3 : (0 : Int) ≤ x 3 := l_cc (a := y_ev x (0, [(3, 1)])) (l_e1 _ _) (h.2.1.2.2.2.1)
    have C4 : (0 : Int) ≤ 6 - x 3 := l_cc (a := y_ev x (6, [(3, (-1))])) (by show ((6) : Int) + ((-1) * x 3 + 0) = 6 - x 3; omega) (h.2.1.2.2.2.2.1)
    have C5 : (0 : Int) ≤ x 0 := l_cc (a := y_ev x (0, [(0, 1)])) (l_e1 _ _) (h.2.1.2.2.2.2.2.1)
    have C6 : (0 : Int) ≤ 999 - x 1 := l_cc (a := y_ev x (999, [(1, (-1))])) (by show ((999) : Int) + ((-1) * x 1 + 0) = 999 - x 1; omega) (h.2.1.2.2.2.2.2.2.1)
    have E0 : y_ev x (0, [(5, 1)]) = x 5 := (l_e1 _ _)
    have E1 : y_ev x (0, []) = 0 := (l_e0 _ _)
    have E2 : y_ev x (4, []) = 4 := (l_e0 _ _)
    have E3 : y_ev x (0, [(0, 1)]) = x 0 := (l_e1 _ _)
    have E4 : y_ev x (0, [(3, 1)]) = x 3 := (l_e1 _ _)
    have E5 : y_ev x ((-2), []) = (-2) := (l_e0 _ _)
    have E6 : y_ev x (0, [(4, 1)]) = x 4 := (l_e1 _ _)
    have E7 : y_ev x (0, [(1, 1)]) = x 1 := (l_e1 _ _)
    have E8 : y_ev x ((-1), []) = (-1) := (l_e0 _ _)
    have E9 : y_ev x (41, []) = 41 := (l_e0 _ _)
    have E10 : y_ev x (0, [(2, 1)]) = x 2 := (l_e1 _ _)
    have T0 : q_mgn v (y_ev x (0, [(5, 1)])) (y_ev x (0, [])) (y_ev x (0, [])) (y_ev x (4, [])) (y_ev x (0, [(0, 1)])) (y_ev x (0, [])) (y_ev x (0, [(3, 1)])) (y_ev x ((-2), [])) (y_ev x (0, [(4, 1)])) := h.2.2.2.1
    (try rw [E0] at T0); (try rw [E1] at T0); (try rw [E2] at T0); (try rw [E3] at T0); (try rw [E4] at T0); (try rw [E5] at T0); (try rw [E6] at T0)
    have T1 : (0 ≤ (y_ev x ((-1), [])) ∧ (y_ev x ((-1), [])) < (y_ev x (0, [(4, 1)])) ∧ v 25 (y_ev x ((-1), [])) < (y_ev x (0, [(1, 1)])) ∧ ∀ t : Int, 0 ≤ t → t < (y_ev x ((-1), [])) → (y_ev x (0, [(1, 1)])) ≤ v 25 t) ∨ ((y_ev x ((-1), [])) = -1 ∧ ∀ t : Int, 0 ≤ t → t < (y_ev x (0, [(4, 1)])) → (y_ev x (0, [(1, 1)])) ≤ v 25 t) := h.2.2.2.2.1
    (try rw [E7] at T1); (try rw [E6] at T1); (try rw [E8] at T1)
    have T2 : q_qry v (y_ev x (41, [])) (y_ev x (0, [(5, 1)])) (y_ev x (0, [])) (y_ev x (0, [])) (y_ev x (0, [])) (y_ev x (0, [])) (y_ev x (0, [])) (y_ev x (0, [])) (y_ev x (0, [(2, 1)])) (y_ev x (0, [(0, 1)])) (y_ev x (0, [])) := h.2.2.2.2.2.1
    (try rw [E9] at T2); (try rw [E0] at T2); (try rw [E1] at T2); (try rw [E10] at T2); (try rw [E3] at T2)
    have K := k_lasN (V := v) (n := x 0) (w := x 1) (x := x 2) (H := x 3) (m := x 4) (q := x 5) T0 T1 T2 C0 C1 C2 C3 C4 C5 C6
    refine l_outH rfl (And.intro h.1 ?_)
    have O0 : y_ev x (41, []) = 41 := l_e0 _ _
    have O1 : y_ev x (0, [(5, 1)]) = x 5 := l_e1 _ _
    have O2 : y_ev x (0, []) = 0 := l_e0 _ _
    have O3 : y_ev x (0, [(2, 1)]) = x 2 := l_e1 _ _
    have O4 : y_ev x (1, [(0, 1)]) = x 0 + 1 := by show ((1) : Int) + ((1) * x 0 + 0) = _; omega
    show (True) ∧ (q_qry v (y_ev x (41, [])) (y_ev x (0, [(5, 1)])) (y_ev x (0, [])) (y_ev x (0, [])) (y_ev x (0, [])) (y_ev x (0, [])) (y_ev x (0, [])) (y_ev x (0, [])) (y_ev x (0, [(2, 1)])) (y_ev x (1, [(0, 1)])) (y_ev x (0, [])) ∧ True)
    (try rw [O0]); (try rw [O1]); (try rw [O2]); (try rw [O3]); (try rw [O4])
    exact K
def lm_1103 : zLem := (([((-2147483648), 2147483647), ((-2147483648), 2147483647), ((-2147483648), 2147483647)], [], [((-61), [(0, 1)])], [], [(0, 0, 0, [(0, 1)])], [], [(238, [(41, []), (0, [(2, 1)]), (0, []), (0, []), (0, []), (0, []), (0, []), (0, []), (0, [(1, 1)]), (0, [(0, 1)]), (0, [])])]), [([((-2147483648), 2147483647), ((-2147483648), 2147483647), ((-2147483648), 2147483647)], [], [], [], [], [], [(260, [(42, []), (0, [(2, 1)]), (0, []), (0, []), (0, []), (0, []), (0, []), (0, []), (0, [(1, 1)]), (0, []), ((-2), [])])])])
theorem lk_1103 : l_core lm_1103 := by
  first
  | skip
    intro v x h
    have K := k_lasZ (V := v) (n := x 0) (x := x 1) (q := x 2) (l_c5 (fun w0 w1 w2 w3 w4 : Int => q_qry v w0 w1 w2 w2 w2 w2 w2 w2 w3 w4 w2) (l_e0 x (41)) (l_e1 x 2) (l_e0 x (0)) (l_e1 x 1) (l_e1 x 0) (h.2.2.2.1)) (l_cc (l_q2 61 x 0) (h.2.1.1))
    refine l_outH rfl (And.intro h.1 ?_)
    exact l_o5 (fun w0 w1 w2 w3 w4 : Int => (True) ∧ (q_qry v w0 w1 w2 w2 w2 w2 w2 w2 w3 w2 w4 ∧ True)) (l_e0 x (42)) (l_e1 x 2) (l_e0 x (0)) (l_e1 x 1) (l_e0 x (-2)) K
  | skip
    intro v x h
    have C0 : (0 : Int) ≤ x 0 - 61 := l_cc (a := y_ev x ((-61), [(0, 1)])) (by show ((-61) : Int) + ((1) * x 0 + 0) = x 0 - 61; omega) (h.2.1.1)
    have E0 : y_ev x (41, []) = 41 := (l_e0 _ _)
    have E1 : y_ev x (0, [(2, 1)]) = x 2 := (l_e1 _ _)
    have E2 : y_ev x (0, []) = 0 := (l_e0 _ _)
    have E3 : y_ev x (0, [(1, 1)]) = x 1 := (l_e1 _ _)
    have E4 : y_ev x (0, [(0, 1)]) = x 0 := (l_e1 _ _)
    have T0 : q_qry v (y_ev x (41, [])) (y_ev x (0, [(2, 1)])) (y_ev x (0, [])) (y_ev x (0, [])) (y_ev x (0, [])) (y_ev x (0, [])) (y_ev x (0, [])) (y_ev x (0, [])) (y_ev x (0, [(1, 1)])) (y_ev x (0, [(0, 1)])) (y_ev x (0, [])) := h.2.2.2.1
    (try rw [E0] at T0); (try rw [E1] at T0); (try rw [E2] at T0); (try rw [E3] at T0); (try rw [E4] at T0)
    have K := k_lasZ (V := v) (n := x 0) (x := x 1) (q := x 2) T0 C0
    refine l_outH rfl (And.intro h.1 ?_)
    have O0 : y_ev x (42, []) = 42 := l_e0 _ _
    have O1 : y_ev x (0, [(2, 1)]) = x 2 := l_e1 _ _
    have O2 : y_ev x (0, []) = 0 := l_e0 _ _
    have O3 : y_ev x (0, [(1, 1)]) = x 1 := l_e1 _ _
    have O4 : y_ev x ((-2), []) = (-2) := l_e0 _ _
    show (True) ∧ (q_qry v (y_ev x (42, [])) (y_ev x (0, [(2, 1)])) (y_ev x (0, [])) (y_ev x (0, [])) (y_ev x (0, [])) (y_ev x (0, [])) (y_ev x (0, [])) (y_ev x (0, [])) (y_ev x (0, [(1, 1)])) (y_ev x (0, [])) (y_ev x ((-2), [])) ∧ True)
    (try rw [O0]); (try rw [O1]); (try rw [O2]); (try rw [O3]); (try rw [O4])
    exact K
def lm_1104 : zLem := (([((-2147483648), 2147483647), ((-2147483648), 2147483647), ((-2147483648), 2147483647), ((-2147483648), 2147483647)], [(12, false)], [], [], [], [(0, (false, 18, 0, []), 0, 0, 0, [(2, 1)])], [(237, [(0, [(0, 1)]), (0, []), (0, []), (0, []), (0, []), (0, []), (0, []), (0, [])]), (224, [(0, [(2, 1)]), (0, [(3, 1)]), (1, []), (0, [(1, 1)])])]), [([((-2147483648), 2147483647), ((-2147483648), 2147483647), ((-2147483648), 2147483647), ((-2147483648), 2147483647)], [(12, false)], [], [], [], [], [(237, [(0, [(0, 1)]), (0, [(1, 1)]), (0, []), (0, []), (4, []), (0, []), (0, []), (0, [(0, 1)])])])])
theorem lk_1104 : l_core lm_1104 := by
  first
  | skip
    intro v x h
    have K := k_y0s (V := v) (H := x 0) (q := x 1) (l := x 2) (x := x 3) (l_c2 (fun w0 w1 : Int => q_rwo v w0 w1 w1 w1 w1 w1 w1 w1) (l_e1 x 0) (l_e0 x (0)) (h.2.2.2.1)) (l_c4 (fun w0 w1 w2 w3 : Int => w2 = 1 → q_leq v w0 w1 w3) (l_e1 x 2) (l_e1 x 3) (l_e0 x (1)) (l_e1 x 1) (h.2.2.2.2.1))
    refine l_outH rfl (And.intro h.1 ?_)
    exact l_o4 (fun w0 w1 w2 w3 : Int => (True) ∧ (q_rwo v w0 w1 w2 w2 w3 w2 w2 w0 ∧ True)) (l_e1 x 0) (l_e1 x 1) (l_e0 x (0)) (l_e0 x (4)) K
  | skip
    intro v x h
    have E0 : y_ev x (0, [(0, 1)]) = x 0 := (l_e1 _ _)
    have E1 : y_ev x (0, []) = 0 := (l_e0 _ _)
    have E2 : y_ev x (0, [(2, 1)]) = x 2 := (l_e1 _ _)
    have E3 : y_ev x (0, [(3, 1)]) = x 3 := (l_e1 _ _)
    have E4 : y_ev x (1, []) = 1 := (l_e0 _ _)
    have E5 : y_ev x (0, [(1, 1)]) = x 1 := (l_e1 _ _)
    have T0 : q_rwo v (y_ev x (0, [(0, 1)])) (y_ev x (0, [])) (y_ev x (0, [])) (y_ev x (0, [])) (y_ev x (0, [])) (y_ev x (0, [])) (y_ev x (0, [])) (y_ev x (0, [])) := h.2.2.2.1
    (try rw [E0] at T0); (try rw [E1] at T0)
    have T1 : (y_ev x (1, [])) = 1 → q_leq v (y_ev x (0, [(2, 1)])) (y_ev x (0, [(3, 1)])) (y_ev x (0, [(1, 1)])) := h.2.2.2.2.1
    (try rw [E2] at T1); (try rw [E3] at T1); (try rw [E4] at T1); (try rw [E5] at T1)
    have K := k_y0s (V := v) (H := x 0) (q := x 1) (l := x 2) (x := x 3) T0 T1
    refine l_outH rfl (And.intro h.1 ?_)
    have O0 : y_ev x (0, [(0, 1)]) = x 0 := l_e1 _ _
    have O1 : y_ev x (0, [(1, 1)]) = x 1 := l_e1 _ _
    have O2 : y_ev x (0, []) = 0 := l_e0 _ _
    have O3 : y_ev x (4, []) = 4 := l_e0 _ _
    show (True) ∧ (q_rwo v (y_ev x (0, [(0, 1)])) (y_ev x (0, [(1, 1)])) (y_ev x (0, [])) (y_ev x (0, [])) (y_ev x (4, [])) (y_ev x (0, [])) (y_ev x (0, [])) (y_ev x (0, [(0, 1)])) ∧ True)
    (try rw [O0]); (try rw [O1]); (try rw [O2]); (try rw [O3])
    exact K
def lm_1105 : zLem := (([((-2147483648), 2147483647), ((-2147483648), 2147483647), ((-2147483648), 2147483647), ((-2147483648), 2147483647), ((-2147483648), 2147483647), ((-2147483648), 2147483647), ((-2147483648), 2147483647), ((-2147483648), 2147483647)], [(12, false)], [(0, [(0, 1)]), (0, [(1, 1)]), (6, [(1, (-1))])], [], [(0, 0, 0, [(0, 1)])], [(0, (false, 18, 0, []), 0, 0, 0, [(6, 1)])], [(235, [(0, [(1, 1)]), (0, [(2, 1)]), (0, [(3, 1)]), (0, [(4, 1)]), (0, []), (0, []), (0, []), (0, []), (0, []), (0, []), (0, [])]), (224, [(0, [(6, 1)]), (0, [(7, 1)]), (1, []), (0, [(5, 1)])])]), [([((-2147483648), 2147483647), ((-2147483648), 2147483647), ((-2147483648), 2147483647), ((-2147483648), 2147483647), ((-2147483648), 2147483647), ((-2147483648), 2147483647), ((-2147483648), 2147483647), ((-2147483648), 2147483647)], [(12, false)], [], [], [], [], [(238, [(41, []), (0, [(5, 1)]), (0, []), (0, []), (0, []), (0, []), (0, []), (0, []), (0, [(0, 10), (1, 1)]), (0, []), (0, [])])])])
theorem lk_1105 : l_core lm_1105 := by
  first
  | skip
    intro v x h
    have K := k_mnb0 (V := v) (w := x 0) (H := x 1) (p := x 2) (y := x 3) (d := x 4) (q := x 5) (l := x 6) (x := x 7) (l_c5 (fun w0 w1 w2 w3 w4 : Int => q_sto v 0 w0 w1 w2 w3 w4 w4 w4 w4 w4 w4 w4) (l_e1 x 1) (l_e1 x 2) (l_e1 x 3) (l_e1 x 4) (l_e0 x (0)) (h.2.2.2.1)) (l_c4 (fun w0 w1 w2 w3 : Int => w2 = 1 → q_leq v w0 w1 w3) (l_e1 x 6) (l_e1 x 7) (l_e0 x (1)) (l_e1 x 5) (h.2.2.2.2.1)) (l_cc (l_e1 x 0) (h.2.1.1)) (l_cc (l_e1 x 1) (h.2.1.2.1)) (l_cc (l_q1 6 x 1) (h.2.1.2.2.1))
    refine l_outH rfl (And.intro h.1 ?_)
    exact l_o4 (fun w0 w1 w2 w3 : Int => (True) ∧ (q_qry v w0 w1 w2 w2 w2 w2 w2 w2 w3 w2 w2 ∧ True)) (l_e0 x (41)) (l_e1 x 5) (l_e0 x (0)) (l_q10 10 x 0 1) K
  | skip
    intro v x h
    have C0 : (0 : Int) ≤ x 0 := l_cc (a := y_ev x (0, [(0, 1)])) (l_e1 _ _) (h.2.1.1)
    have C1 : (0 : Int) ≤ x 1 := l_cc (a := y_ev x (0, [(1, 1)])) (l_e1 _ _) (h.2.1.2.1)
    have C2 : (0 : Int) ≤ 6 - x 1 := l_cc (a := y_ev x (6, [(1, (-1))])) (by show ((6) : Int) + ((-1) * x 1 + 0) = 6 - x 1; omega) (h.2.1.2.2.1)
    have E0 : y_ev x (0, [(1, 1)]) = x 1 := (l_e1 _ _)
    have E1 : y_ev x (0, [(2, 1)]) = x 2 := (l_e1 _ _)
    have E2 : y_ev x (0, [(3, 1)]) = x 3 := (l_e1 _ _)
    have E3 : y_ev x (0, [(4, 1)]) = x 4 := (l_e1 _ _)
    have E4 : y_ev x (0, []) = 0 := (l_e0 _ _)
    have E5 : y_ev x (0, [(6, 1)]) = x 6 := (l_e1 _ _)
    have E6 : y_ev x (0, [(7, 1)]) = x 7 := (l_e1 _ _)
    have E7 : y_ev x (1, []) = 1 := (l_e0 _ _)
    have E8 : y_ev x (0, [(5, 1)]) = x 5 := (l_e1 _ _)
    have T0 : q_sto v 0 (y_ev x (0, [(1, 1)])) (y_ev x (0, [(2, 1)])) (y_ev x (0, [(3, 1)])) (y_ev x (0, [(4, 1)])) (y_ev x (0, [])) (y_ev x (0, [])) (y_ev x (0, [])) (y_ev x (0, [])) (y_ev x (0, [])) (y_ev x (0, [])) (y_ev x (0, [])) := h.2.2.2.1
    (try rw [E0] at T0); (try rw [E1] at T0); (try rw [E2] at T0); (try rw [E3] at T0); (try rw [E4] at T0)
    have T1 : (y_ev x (1, [])) = 1 → q_leq v (y_ev x (0, [(6, 1)])) (y_ev x (0, [(7, 1)])) (y_ev x (0, [(5, 1)])) := h.2.2.2.2.1
    (try rw [E5] at T1); (try rw [E6] at T1); (try rw [E7] at T1); (try rw [E8] at T1)
    have K := k_mnb0 (V := v) (w := x 0) (H := x 1) (p := x 2) (y := x 3) (d := x 4) (q := x 5) (l := x 6) (x := x 7) T0 T1 C0 C1 C2
    refine l_outH rfl (And.intro h.1 ?_)
    have O0 : y_ev x (41, []) = 41 := l_e0 _ _
    have O1 : y_ev x (0, [(5, 1)]) = x 5 := l_e1 _ _
    have O2 : y_ev x (0, []) = 0 := l_e0 _ _
    have O3 : y_ev x (0, [(0, 10), (1, 1)]) = 10 * x 0 + x 1 := by show ((0) : Int) + ((10) * x 0 + ((1) * x 1 + 0)) = _; omega
    show (True) ∧ (q_qry v (y_ev x (41, [])) (y_ev x (0, [(5, 1)])) (y_ev x (0, [])) (y_ev x (0, [])) (y_ev x (0, [])) (y_ev x (0, [])) (y_ev x (0, [])) (y_ev x (0, [])) (y_ev x (0, [(0, 10), (1, 1)])) (y_ev x (0, [])) (y_ev x (0, [])) ∧ True)
    (try rw [O0]); (try rw [O1]); (try rw [O2]); (try rw [O3])
    exact K
def lm_1106p : zS := ([((-2147483648), 2147483647), ((-2147483648), 2147483647), ((-2147483648), 2147483647), ((-2147483648), 2147483647), ((-2147483648), 2147483647), ((-2147483648), 2147483647)], [], [(0, [(1, (-10)), (2, 1), (3, (-1))]), (0, [(1, 10), (2, (-1)), (3, 1)]), (0, [(1, 1)]), (0, [(3, 1)]), (6, [(3, (-1))]), (0, [(0, 1)]), (0, [(4, 1)]), (60, [(0, (-1))])], [], [(0, 0, 0, [(1, 1)]), (0, 0, 0, [(0, 1)])], [], [(237, [(0, [(3, 1)]), (0, [(5, 1)]), (0, []), (0, []), (4, []), (0, [(0, 1)]), (0, []), (0, [(3, 1)])]), (238, [(3, []), (0, [(5, 1)]), (0, []), (0, []), (4, []), (0, [(0, 1)]), (0, []), (0, [(3, 1)]), (0, [(1, 1)]), (0, []), (0, [(4, 1)])]), (238, [(41, []), (0, [(5, 1)]), (0, []), (0, []), (0, []), (0, []), (0, []), (0, []), (0, [(2, 1)]), (0, [(0, 1)]), (0, [])])])
def lm_1106 : zLem := (lm_1106p, [([((-2147483648), 2147483647), ((-2147483648), 2147483647), ((-2147483648), 2147483647), ((-2147483648), 2147483647), ((-2147483648), 2147483647), ((-2147483648), 2147483647)], [], [], [], [], [], [(238, [(42, []), (0, [(5, 1)]), (0, []), (0, []), (0, []), (0, []), (0, []), (0, []), (0, [(2, 1)]), (0, []), (0, [(0, 1)])])])])
theorem lk_1106 : l_core lm_1106 := by
  first
  | skip
    intro v x h
    have K := k_mlaY (V := v) (n := x 0) (w := x 1) (x := x 2) (H := x 3) (i := x 4) (q := x 5) (l_c5 (fun w0 w1 w2 w3 w4 : Int => q_rwo v w0 w1 w2 w2 w3 w4 w2 w0) (l_e1 x 3) (l_e1 x 5) (l_e0 x (0)) (l_e0 x (4)) (l_e1 x 0) (h.2.2.2.1)) (l_c8 (fun w0 w1 w2 w3 w4 w5 w6 w7 : Int => q_qry v w0 w1 w2 w2 w3 w4 w2 w5 w6 w2 w7) (l_e0 x (3)) (l_e1 x 5) (l_e0 x (0)) (l_e0 x (4)) (l_e1 x 0) (l_e1 x 3) (l_e1 x 1) (l_e1 x 4) (h.2.2.2.2.1)) (l_c5 (fun w0 w1 w2 w3 w4 : Int => q_qry v w0 w1 w2 w2 w2 w2 w2 w2 w3 w4 w2) (l_e0 x (41)) (l_e1 x 5) (l_e0 x (0)) (l_e1 x 2) (l_e1 x 0) (h.2.2.2.2.2.1)) (l_cc (show y_ev x (0, [(1, (-10)), (2, 1), (3, (-1))]) = x 2 - 10 * x 1 - x 3 by show ((0) : Int) + ((-10) * x 1 + ((1) * x 2 + ((-1) * x 3 + 0))) = _; omega) (h.2.1.1)) (l_cc (show y_ev x (0, [(1, 10), (2, (-1)), (3, 1)]) = 10 * x 1 + x 3 - x 2 by show ((0) : Int) + ((10) * x 1 + ((-1) * x 2 + ((1) * x 3 + 0))) = _; omega) (h.2.1.2.1)) (l_cc (l_e1 x 1) (h.2.1.2.2.1)) (l_cc (l_e1 x 3) (h.2.1.2.2.2.1)) (l_cc (l_q1 6 x 3) (h.2.1.2.2.2.2.1)) (l_cc (l_e1 x 0) (h.2.1.2.2.2.2.2.1)) (l_cc (l_e1 x 4) (h.2.1.2.2.2.2.2.2.1)) (l_cc (l_q1 60 x 0) (h.2.1.2.2.2.2.2.2.2.1))
    refine l_outH rfl (And.intro h.1 ?_)
    exact l_o5 (fun w0 w1 w2 w3 w4 : Int => (True) ∧ (q_qry v w0 w1 w2 w2 w2 w2 w2 w2 w3 w2 w4 ∧ True)) (l_e0 x (42)) (l_e1 x 5) (l_e0 x (0)) (l_e1 x 2) (l_e1 x 0) K
  | skip
    intro v x h
    have C0 : (0 : Int) ≤ x 2 - 10 * x 1 - x 3 := l_cc (a := y_ev x (0, [(1, (-10)), (2, 1), (3, (-1))])) (by show ((0) : Int) + ((-10) * x 1 + ((1) * x 2 + ((-1) * x 3 + 0))) = x 2 - 10 * x 1 - x 3; omega) (h.2.1.1)
    have C1 : (0 : Int) ≤ 10 * x 1 + x 3 - x 2 := l_cc (a := y_ev x (0, [(1, 10), (2, (-1)), (3, 1)])) (by show ((0) : Int) + ((10) * x 1 + ((-1) * x 2 + ((1) * x 3 + 0))) = 10 * x 1 + x 3 - x 2; omega) (h.2.1.2.1)
    have C2 : (0 : Int) ≤ x 1 := l_cc (a := y_ev x (0, [(1, 1)])) (l_e1 _ _) (h.2.1.2.2.1)
    have C3 : (0 : Int) ≤ x 3 := l_cc (a := y_ev x (0, [(3, 1)])) (l_e1 _ _) (h.2.1.2.2.2.1)
    have C4 : (0 : Int) ≤ 6 - x 3 := l_cc (a := y_ev x (6, [(3, (-1))])) (by show ((6) : Int) + ((-1) * x 3 + 0) = 6 - x 3; omega) (h.2.1.2.2.2.2.1)
    have C5 : (0 : Int) ≤ x 0 := l_cc (a := y_ev x (0, [(0, 1)])) (l_e1 _ _) (h.2.1.2.2.2.2.2.1)
    have C6 : (0 : Int) ≤ x 4 := l_cc (a := y_ev x (0, [(4, 1)])) (l_e1 _ _) (h.2.1.2.2.2.2.2.2.1)
    have C7 : (0 : Int) ≤ 60 - x 0 := l_cc (a := y_ev x (60, [(0, (-1))])) (by show ((60) : Int) + ((-1) * x 0 + 0) = 60 - x 0; omega) (h.2.1.2.2.2.2.2.2.2.1)
    have E0 : y_ev x (0, [(3, 1)]) = x 3 := (l_e1 _ _)
    have E1 : y_ev x (0, [(5, 1)]) = x 5 := (l_e1 _ _)
    have E2 : y_ev x (0, []) = 0 := (l_e0 _ _)
    have E3 : y_ev x (4, []) = 4 := (l_e0 _ _)
    have E4 : y_ev x (0, [(0, 1)]) = x 0 := (l_e1 _ _)
    have E5 : y_ev x (3, []) = 3 := (l_e0 _ _)
    have E6 : y_ev x (0, [(1, 1)]) = x 1 := (l_e1 _ _)
    have E7 : y_ev x (0, [(4, 1)]) = x 4 := (l_e1 _ _)
    have E8 : y_ev x (41, []) = 41 := (l_e0 _ _)
    have E9 : y_ev x (0, [(2, 1)]) = x 2 := (l_e1 _ _)
    have T0 : q_rwo v (y_ev x (0, [(3, 1)])) (y_ev x (0, [(5, 1)])) (y_ev x (0, [])) (y_ev x (0, [])) (y_ev x (4, [])) (y_ev x (0, [(0, 1)])) (y_ev x (0, [])) (y_ev x (0, [(3, 1)])) := h.2.2.2.1
    (try rw [E0] at T0); (try rw [E1] at T0); (try rw [E2] at T0); (try rw [E3] at T0); (try rw [E4] at T0)
    have T1 : q_qry v (y_ev x (3, [])) (y_ev x (0, [(5, 1)])) (y_ev x (0, [])) (y_ev x (0, [])) (y_ev x (4, [])) (y_ev x (0, [(0, 1)])) (y_ev x (0, [])) (y_ev x (0, [(3, 1)])) (y_ev x (0, [(1, 1)])) (y_ev x (0, [])) (y_ev x (0, [(4, 1)])) := h.2.2.2.2.1
    (try rw [E5] at T1); (try rw [E1] at T1); (try rw [E2] at T1); (try rw [E3] at T1); (try rw [E4] at T1); (try rw [E0] at T1); (try rw [E6] at T1); (try rw [E7] at T1)
    have T2 : q_qry v (y_ev x (41, [])) (y_ev x (0, [(5, 1)])) (y_ev x (0, [])) (y_ev x (0, [])) (y_ev x (0, [])) (y_ev x (0, [])) (y_ev x (0, [])) (y_ev x (0, [])) (y_ev x (0, [(2, 1)])) (y_ev x (0, [(0, 1)])) (y_ev x (0, [])) := h.2.2.2.2.2.1
    (try rw [E8] at T2); (try rw [E1] at T2); (try rw [E2] at T2); (try rw [E9] at T2); (try rw [E4] at T2)
    have K := k_mlaY (V := v) (n := x 0) (w := x 1) (x := x 2) (H := x 3) (i := x 4) (q := x 5) T0 T1 T2 C0 C1 C2 C3 C4 C5 C6 C7
    refine l_outH rfl (And.intro h.1 ?_)
    have O0 : y_ev x (42, []) = 42 := l_e0 _ _
    have O1 : y_ev x (0, [(5, 1)]) = x 5 := l_e1 _ _
    have O2 : y_ev x (0, []) = 0 := l_e0 _ _
    have O3 : y_ev x (0, [(2, 1)]) = x 2 := l_e1 _ _
    have O4 : y_ev x (0, [(0, 1)]) = x 0 := l_e1 _ _
    show (True) ∧ (q_qry v (y_ev x (42, [])) (y_ev x (0, [(5, 1)])) (y_ev x (0, [])) (y_ev x (0, [])) (y_ev x (0, [])) (y_ev x (0, [])) (y_ev x (0, [])) (y_ev x (0, [])) (y_ev x (0, [(2, 1)])) (y_ev x (0, [])) (y_ev x (0, [(0, 1)])) ∧ True)
    (try rw [O0]); (try rw [O1]); (try rw [O2]); (try rw [O3]); (try rw [O4])
    exact K
def lm_1107p : zS := ([((-2147483648), 2147483647), ((-2147483648), 2147483647), ((-2147483648), 2147483647), ((-2147483648), 2147483647), ((-2147483648), 2147483647)], [], [(0, [(1, (-10)), (2, 1), (3, (-1))]), (0, [(1, 10), (2, (-1)), (3, 1)]), (0, [(1, 1)]), (0, [(3, 1)]), (6, [(3, (-1))]), (0, [(0, 1)])], [], [(0, 0, 0, [(1, 1)]), (0, 0, 0, [(0, 1)])], [], [(237, [(0, [(3, 1)]), (0, [(4, 1)]), (0, []), (0, []), (4, []), (0, [(0, 1)]), (0, []), (0, [(3, 1)])]), (238, [(3, []), (0, [(4, 1)]), (0, []), (0, []), (4, []), (0, [(0, 1)]), (0, []), (0, [(3, 1)]), (0, [(1, 1)]), (0, []), ((-1), [])]), (238, [(41, []), (0, [(4, 1)]), (0, []), (0, []), (0, []), (0, []), (0, []), (0, []), (0, [(2, 1)]), (0, [(0, 1)]), (0, [])])])
def lm_1107 : zLem := (lm_1107p, [([((-2147483648), 2147483647), ((-2147483648), 2147483647), ((-2147483648), 2147483647), ((-2147483648), 2147483647), ((-2147483648), 2147483647)], [], [], [], [], [], [(238, [(41, []), (0, [(4, 1)]), (0, []), (0, []), (0, []), (0, []), (0, []), (0, []), (0, [(2, 1)]), (1, [(0, 1)]), (0, [])])])])
theorem lk_1107 : l_core lm_1107 := by
  first
  | skip
    intro v x h
    have K := k_mlaN (V := v) (n := x 0) (w := x 1) (x := x 2) (H := x 3) (q := x 4) (l_c5 (fun w0 w1 w2 w3 w4 : Int => q_rwo v w0 w1 w2 w2 w3 w4 w2 w0) (l_e1 x 3) (l_e1 x 4) (l_e0 x (0)) (l_e0 x (4)) (l_e1 x 0) (h.2.2.2.1)) (l_c8 (fun w0 w1 w2 w3 w4 w5 w6 w7 : Int => q_qry v w0 w1 w2 w2 w3 w4 w2 w5 w6 w2 w7) (l_e0 x (3)) (l_e1 x 4) (l_e0 x (0)) (l_e0 x (4)) (l_e1 x 0) (l_e1 x 3) (l_e1 x 1) (l_e0 x (-1)) (h.2.2.2.2.1)) (l_c5 (fun w0 w1 w2 w3 w4 : Int => q_qry v w0 w1 w2 w2 w2 w2 w2 w2 w3 w4 w2) (l_e0 x (41)) (l_e1 x 4) (l_e0 x (0)) (l_e1 x 2) (l_e1 x 0) (h.2.2.2.2.2.1)) (l_cc (show y_ev x (0, [(1, (-10)), (2, 1), (3, (-1))]) = x 2 - 10 * x 1 - x 3 by show ((0) : Int) + ((-10) * x 1 + ((1) * x 2 + ((-1) * x 3 + 0))) = _; omega) (h.2.1.1)) (l_cc (show y_ev x (0, [(1, 10), (2, (-1)), (3, 1)]) = 10 * x 1 + x 3 - x 2 by show ((0) : Int) + ((10) * x 1 + ((-1) * x 2 + ((1) * x 3 + 0))) = _; omega) (h.2.1.2.1)) (l_cc (l_e1 x 1) (h.2.1.2.2.1)) (l_cc (l_e1 x 3) (h.2.1.2.2.2.1)) (l_cc (l_q1 6 x 3) (h.2.1.2.2.2.2.1)) (l_cc (l_e1 x 0) (h.2.1.2.2.2.2.2.1))
    refine l_outH rfl (And.intro h.1 ?_)
    exact l_o5 (fun w0 w1 w2 w3 w4 : Int => (True) ∧ (q_qry v w0 w1 w2 w2 w2 w2 w2 w2 w3 w4 w2 ∧ True)) (l_e0 x (41)) (l_e1 x 4) (l_e0 x (0)) (l_e1 x 2) (l_q3 1 x 0) K
  | skip
    intro v x h
    have C0 : (0 : Int) ≤ x 2 - 10 * x 1 - x 3 := l_cc (a := y_ev x (0, [(1, (-10)), (2, 1), (3, (-1))])) (by show ((0) : Int) + ((-10) * x 1 + ((1) * x 2 + ((-1) * x 3 + 0))) = x 2 - 10 * x 1 - x 3; omega) (h.2.1.1)
    have C1 : (0 : Int) ≤ 10 * x 1 + x 3 - x 2 := l_cc (a := y_ev x (0, [(1, 10), (2, (-1)), (3, 1)])) (by show ((0) : Int) + ((10) * x 1 + ((-1) * x 2 + ((1) * x 3 + 0))) = 10 * x 1 + x 3 - x 2; omega) (h.2.1.2.1)
    have C2 : (0 : Int) ≤ x 1 := l_cc (a := y_ev x (0, [(1, 1)])) (l_e1 _ _) (h.2.1.2.2.1)
    have C3 : (0 : Int) ≤ x 3 := l_cc (a := y_ev x (0, [(3, 1)])) (l_e1 _ _) (h.2.1.2.2.2.1)
    have C4 : (0 : Int) ≤ 6 - x 3 := l_cc (a := y_ev x (6, [(3, (-1))])) (by show ((6) : Int) + ((-1) * x 3 + 0) = 6 - x 3; omega) (h.2.1.2.2.2.2.1)
    have C5 : (0 : Int) ≤ x 0 := l_cc (a := y_ev x (0, [(0, 1)])) (l_e1 _ _) (h.2.1.2.2.2.2.2.1)
    have E0 : y_ev x (0, [(3, 1)]) = x 3 := (l_e1 _ _)
    have E1 : y_ev x (0, [(4, 1)]) = x 4 := (l_e1 _ _)
    have E2 : y_ev x (0, []) = 0 := (l_e0 _ _)
    have E3 : y_ev x (4, []) = 4 := (l_e0 _ _)
    have E4 : y_ev x (0, [(0, 1)]) = x 0 := (l_e1 _ _)
    have E5 : y_ev x (3, []) = 3 := (l_e0 _ _)
    have E6 : y_ev x (0, [(1, 1)]) = x 1 := (l_e1 _ _)
    have E7 : y_ev x ((-1), []) = (-1) := (l_e0 _ _)
    have E8 : y_ev x (41, []) = 41 := (l_e0 _ _)
    have E9 : y_ev x (0, [(2, 1)]) = x 2 := (l_e1 _ _)
    have T0 : q_rwo v (y_ev x (0, [(3, 1)])) (y_ev x (0, [(4, 1)])) (y_ev x (0, [])) (y_ev x (0, [])) (y_ev x (4, [])) (y_ev x (0, [(0, 1)])) (y_ev x (0, [])) (y_ev x (0, [(3, 1)])) := h.2.2.2.1
    (try rw [E0] at T0); (try rw [E1] at T0); (try rw [E2] at T0); (try rw [E3] at T0); (try rw [E4] at T0)
    have T1 : q_qry v (y_ev x (3, [])) (y_ev x (0, [(4, 1)])) (y_ev x (0, [])) (y_ev x (0, [])) (y_ev x (4, [])) (y_ev x (0, [(0, 1)])) (y_ev x (0, [])) (y_ev x (0, [(3, 1)])) (y_ev x (0, [(1, 1)])) (y_ev x (0, [])) (y_ev x ((-1), [])) := h.2.2.2.2.1
    (try rw [E5] at T1); (try rw [E1] at T1); (try rw [E2] at T1); (try rw [E3] at T1); (try rw [E4] at T1); (try rw [E0] at T1); (try rw [E6] at T1); (try rw [E7] at T1)
    have T2 : q_qry v (y_ev x (41, [])) (y_ev x (0, [(4, 1)])) (y_ev x (0, [])) (y_ev x (0, [])) (y_ev x (0, [])) (y_ev x (0, [])) (y_ev x (0, [])) (y_ev x (0, [])) (y_ev x (0, [(2, 1)])) (y_ev x (0, [(0, 1)])) (y_ev x (0, [])) := h.2.2.2.2.2.1
    (try rw [E8] at T2); (try rw [E1] at T2); (try rw [E2] at T2); (try rw [E9] at T2); (try rw [E4] at T2)
    have K := k_mlaN (V := v) (n := x 0) (w := x 1) (x := x 2) (H := x 3) (q := x 4) T0 T1 T2 C0 C1 C2 C3 C4 C5
    refine l_outH rfl (And.intro h.1 ?_)
    have O0 : y_ev x (41, []) = 41 := l_e0 _ _
    have O1 : y_ev x (0, [(4, 1)]) = x 4 := l_e1 _ _
    have O2 : y_ev x (0, []) = 0 := l_e0 _ _
    have O3 : y_ev x (0, [(2, 1)]) = x 2 := l_e1 _ _
    have O4 : y_ev x (1, [(0, 1)]) = x 0 + 1 := by show ((1) : Int) + ((1) * x 0 + 0) = _; omega
    show (True) ∧ (q_qry v (y_ev x (41, [])) (y_ev x (0, [(4, 1)])) (y_ev x (0, [])) (y_ev x (0, [])) (y_ev x (0, [])) (y_ev x (0, [])) (y_ev x (0, [])) (y_ev x (0, [])) (y_ev x (0, [(2, 1)])) (y_ev x (1, [(0, 1)])) (y_ev x (0, [])) ∧ True)
    (try rw [O0]); (try rw [O1]); (try rw [O2]); (try rw [O3]); (try rw [O4])
    exact K
def lm_1108 : zLem := (([((-2147483648), 2147483647), ((-2147483648), 2147483647), ((-2147483648), 2147483647)], [], [((-61), [(0, 1)])], [], [(0, 0, 0, [(0, 1)])], [], [(238, [(41, []), (0, [(2, 1)]), (0, []), (0, []), (0, []), (0, []), (0, []), (0, []), (0, [(1, 1)]), (0, [(0, 1)]), (0, [])])]), [([((-2147483648), 2147483647), ((-2147483648), 2147483647), ((-2147483648), 2147483647)], [], [], [], [], [], [(238, [(42, []), (0, [(2, 1)]), (0, []), (0, []), (0, []), (0, []), (0, []), (0, []), (0, [(1, 1)]), (0, []), ((-2), [])])])])
theorem lk_1108 : l_core lm_1108 := by
  first
  | skip
    intro v x h
    have K := k_lasZ (V := v) (n := x 0) (x := x 1) (q := x 2) (l_c5 (fun w0 w1 w2 w3 w4 : Int => q_qry v w0 w1 w2 w2 w2 w2 w2 w2 w3 w4 w2) (l_e0 x (41)) (l_e1 x 2) (l_e0 x (0)) (l_e1 x 1) (l_e1 x 0) (h.2.2.2.1)) (l_cc (l_q2 61 x 0) (h.2.1.1))
    refine l_outH rfl (And.intro h.1 ?_)
    exact l_o5 (fun w0 w1 w2 w3 w4 : Int => (True) ∧ (q_qry v w0 w1 w2 w2 w2 w2 w2 w2 w3 w2 w4 ∧ True)) (l_e0 x (42)) (l_e1 x 2) (l_e0 x (0)) (l_e1 x 1) (l_e0 x (-2)) K
  | skip
    intro v x h
    have C0 : (0 : Int) ≤ x 0 - 61 := l_cc (a := y_ev x ((-61), [(0, 1)])) (by show ((-61) : Int) + ((1) * x 0 + 0) = x 0 - 61; omega) (h.2.1.1)
    have E0 : y_ev x (41, []) = 41 := (l_e0 _ _)
    have E1 : y_ev x (0, [(2, 1)]) = x 2 := (l_e1 _ _)
    have E2 : y_ev x (0, []) = 0 := (l_e0 _ _)
    have E3 : y_ev x (0, [(1, 1)]) = x 1 := (l_e1 _ _)
    have E4 : y_ev x (0, [(0, 1)]) = x 0 := (l_e1 _ _)
    have T0 : q_qry v (y_ev x (41, [])) (y_ev x (0, [(2, 1)])) (y_ev x (0, [])) (y_ev x (0, [])) (y_ev x (0, [])) (y_ev x (0, [])) (y_ev x (0, [])) (y_ev x (0, [])) (y_ev x (0, [(1, 1)])) (y_ev x (0, [(0, 1)])) (y_ev x (0, [])) := h.2.2.2.1
    (try rw [E0] at T0); (try rw [E1] at T0); (try rw [E2] at T0); (try rw [E3] at T0); (try rw [E4] at T0)
    have K := k_lasZ (V := v) (n := x 0) (x := x 1) (q := x 2) T0 C0
    refine l_outH rfl (And.intro h.1 ?_)
    have O0 : y_ev x (42, []) = 42 := l_e0 _ _
    have O1 : y_ev x (0, [(2, 1)]) = x 2 := l_e1 _ _
    have O2 : y_ev x (0, []) = 0 := l_e0 _ _
    have O3 : y_ev x (0, [(1, 1)]) = x 1 := l_e1 _ _
    have O4 : y_ev x ((-2), []) = (-2) := l_e0 _ _
    show (True) ∧ (q_qry v (y_ev x (42, [])) (y_ev x (0, [(2, 1)])) (y_ev x (0, [])) (y_ev x (0, [])) (y_ev x (0, [])) (y_ev x (0, [])) (y_ev x (0, [])) (y_ev x (0, [])) (y_ev x (0, [(1, 1)])) (y_ev x (0, [])) (y_ev x ((-2), [])) ∧ True)
    (try rw [O0]); (try rw [O1]); (try rw [O2]); (try rw [O3]); (try rw [O4])
    exact K
def lm_1109 : zLem := (([((-2147483648), 2147483647), ((-2147483648), 2147483647), ((-2147483648), 2147483647), ((-2147483648), 2147483647)], [], [], [], [], [], [(260, [(42, []), (0, [(0, 1)]), (0, []), (0, []), (0, []), (0, []), (0, []), (0, []), (0, [(1, 1)]), (0, []), (0, [(2, 1)])]), (238, [(42, []), (0, [(0, 1)]), (0, []), (0, []), (0, []), (0, []), (0, []), (0, []), (0, [(1, 1)]), (0, []), (0, [(3, 1)])])]), [([((-2147483648), 2147483647), ((-2147483648), 2147483647), ((-2147483648), 2147483647), ((-2147483648), 2147483647)], [], [(0, [(2, 1), (3, (-1))]), (0, [(2, (-1)), (3, 1)])], [], [], [], [])])
theorem lk_1109 : l_core lm_1109 := by
  first
  | skip
    intro v x h
    have K := k_qeLs (V := v) (q := x 0) (x := x 1) (u := x 2) (w := x 3) (l_c5 (fun w0 w1 w2 w3 w4 : Int => q_qry v w0 w1 w2 w2 w2 w2 w2 w2 w3 w2 w4) (l_e0 x (42)) (l_e1 x 0) (l_e0 x (0)) (l_e1 x 1) (l_e1 x 2) (h.2.2.2.1)) (l_c5 (fun w0 w1 w2 w3 w4 : Int => q_qry v w0 w1 w2 w2 w2 w2 w2 w2 w3 w2 w4) (l_e0 x (42)) (l_e1 x 0) (l_e0 x (0)) (l_e1 x 1) (l_e1 x 3) (h.2.2.2.2.1))
    refine l_outH rfl (And.intro h.1 ?_)
    exact l_o2 (fun w0 w1 : Int => (0 ≤ w0 ∧ 0 ≤ w1 ∧ True) ∧ (True)) (l_q5 x 2 3) (l_q4 x 2 3) K
  | skip
    intro v x h
    have E0 : y_ev x (42, []) = 42 := (l_e0 _ _)
    have E1 : y_ev x (0, [(0, 1)]) = x 0 := (l_e1 _ _)
    have E2 : y_ev x (0, []) = 0 := (l_e0 _ _)
    have E3 : y_ev x (0, [(1, 1)]) = x 1 := (l_e1 _ _)
    have E4 : y_ev x (0, [(2, 1)]) = x 2 := (l_e1 _ _)
    have E5 : y_ev x (0, [(3, 1)]) = x 3 := (l_e1 _ _)
    have T0 : q_qry v (y_ev x (42, [])) (y_ev x (0, [(0, 1)])) (y_ev x (0, [])) (y_ev x (0, [])) (y_ev x (0, [])) (y_ev x (0, [])) (y_ev x (0, [])) (y_ev x (0, [])) (y_ev x (0, [(1, 1)])) (y_ev x (0, [])) (y_ev x (0, [(2, 1)])) := h.2.2.2.1
    (try rw [E0] at T0); (try rw [E1] at T0); (try rw [E2] at T0); (try rw [E3] at T0); (try rw [E4] at T0)
    have T1 : q_qry v (y_ev x (42, [])) (y_ev x (0, [(0, 1)])) (y_ev x (0, [])) (y_ev x (0, [])) (y_ev x (0, [])) (y_ev x (0, [])) (y_ev x (0, [])) (y_ev x (0, [])) (y_ev x (0, [(1, 1)])) (y_ev x (0, [])) (y_ev x (0, [(3, 1)])) := h.2.2.2.2.1
    (try rw [E0] at T1); (try rw [E1] at T1); (try rw [E2] at T1); (try rw [E3] at T1); (try rw [E5] at T1)
    have K := k_qeLs (V := v) (q := x 0) (x := x 1) (u := x 2) (w := x 3) T0 T1
    refine l_outH rfl (And.intro h.1 ?_)
    have O0 : y_ev x (0, [(2, 1), (3, (-1))]) = x 2 - x 3 := by show ((0) : Int) + ((1) * x 2 + ((-1) * x 3 + 0)) = _; omega
    have O1 : y_ev x (0, [(2, (-1)), (3, 1)]) = x 3 - x 2 := by show ((0) : Int) + ((-1) * x 2 + ((1) * x 3 + 0)) = _; omega
    show (0 ≤ y_ev x (0, [(2, 1), (3, (-1))]) ∧ 0 ≤ y_ev x (0, [(2, (-1)), (3, 1)]) ∧ True) ∧ (True)
    (try rw [O0]); (try rw [O1])
    exact K
def lm_1110pg_0 (t : List zTg) : List zTg := (235, [(0, [(3, 1)]), (0, [(4, 1)]), (0, [(5, 1)]), (0, [(6, 1)]), (0, [(7, 1)]), (0, [(8, 1)]), (0, [(9, 1)]), (0, [(10, 1)]), (0, [(11, 1)]), (0, [(12, 1)]), (0, [(13, 1)])]) :: (238, [(6, []), (0, [(7, 1)]), (0, [(8, 1)]), (0, [(9, 1)]), (0, [(10, 1)]), (0, [(11, 1)]), (0, [(12, 1)]), (0, [(13, 1)]), (0, [(0, 1)]), (0, []), (0, [(1, 1)])]) :: (238, [(8, []), (0, [(7, 1)]), (0, [(8, 1)]), (0, [(9, 1)]), (0, [(10, 1)]), (0, [(11, 1)]), (0, [(12, 1)]), (0, [(13, 1)]), (6, [(0, 1)]), (0, []), (0, [(2, 1)])]) :: t
def lm_1110p : zS := ((lm_716pi_0 (lm_716pi_1 [])), [], [(0, [(1, 1)]), (0, [(0, 1)]), ((-1), [(0, (-1)), (3, 1)]), (6, [(3, (-1))])], [], [(0, 0, 0, [(0, 1)]), (0, 0, 0, [(2, 1)])], [], (lm_1110pg_0 []))
def lm_1110 : zLem := (lm_1110p, [([((-2147483648), 2147483647), ((-2147483648), 2147483647), ((-2147483648), 2147483647), ((-2147483648), 2147483647), ((-2147483648), 2147483647), ((-2147483648), 2147483647), ((-2147483648), 2147483647), ((-2147483648), 2147483647), ((-2147483648), 2147483647), ((-2147483648), 2147483647), ((-2147483648), 2147483647), ((-2147483648), 2147483647), ((-2147483648), 2147483647), ((-2147483648), 2147483647)], [], [(0, [(2, 1)]), (99, [(2, (-1))])], [], [], [], [(238, [(45, []), (0, [(7, 1)]), (0, [(8, 1)]), (0, [(9, 1)]), (0, [(10, 1)]), (0, [(11, 1)]), (0, [(12, 1)]), (0, [(13, 1)]), (0, [(0, 1)]), (0, []), (0, [(2, 1)])])])])
theorem lk_1110 : l_core lm_1110 := by
  first
  | skip
    intro v x h
    have K := k_hasY (V := v) (h := x 0) (i := x 1) (u := x 2) (H := x 3) (p := x 4) (y := x 5) (d := x 6) (q := x 7) (b := x 8) (s := x 9) (o := x 10) (a1 := x 11) (a2 := x 12) (a3 := x 13) (l_c11 (fun w0 w1 w2 w3 w4 w5 w6 w7 w8 w9 w10 : Int => q_sto v 0 w0 w1 w2 w3 w4 w5 w6 w7 w8 w9 w10) (l_e1 x 3) (l_e1 x 4) (l_e1 x 5) (l_e1 x 6) (l_e1 x 7) (l_e1 x 8) (l_e1 x 9) (l_e1 x 10) (l_e1 x 11) (l_e1 x 12) (l_e1 x 13) (h.2.2.2.1)) (l_c11 (fun w0 w1 w2 w3 w4 w5 w6 w7 w8 w9 w10 : Int => q_qry v w0 w1 w2 w3 w4 w5 w6 w7 w8 w9 w10) (l_e0 x (6)) (l_e1 x 7) (l_e1 x 8) (l_e1 x 9) (l_e1 x 10) (l_e1 x 11) (l_e1 x 12) (l_e1 x 13) (l_e1 x 0) (l_e0 x (0)) (l_e1 x 1) (h.2.2.2.2.1)) (l_c11 (fun w0 w1 w2 w3 w4 w5 w6 w7 w8 w9 w10 : Int => q_qry v w0 w1 w2 w3 w4 w5 w6 w7 w8 w9 w10) (l_e0 x (8)) (l_e1 x 7) (l_e1 x 8) (l_e1 x 9) (l_e1 x 10) (l_e1 x 11) (l_e1 x 12) (l_e1 x 13) (l_q3 6 x 0) (l_e0 x (0)) (l_e1 x 2) (h.2.2.2.2.2.1)) (l_cc (l_e1 x 1) (h.2.1.1)) (l_cc (l_e1 x 0) (h.2.1.2.1)) (l_cc (l_q6 1 x 0 3) (h.2.1.2.2.1)) (l_cc (l_q1 6 x 3) (h.2.1.2.2.2.1))
    refine l_outH rfl (And.intro h.1 ?_)
    exact l_o12 (fun w0 w1 w2 w3 w4 w5 w6 w7 w8 w9 w10 w11 : Int => (0 ≤ w0 ∧ 0 ≤ w1 ∧ True) ∧ (q_qry v w2 w3 w4 w5 w6 w7 w8 w9 w10 w11 w0 ∧ True)) (l_e1 x 2) (l_q1 99 x 2) (l_e0 x (45)) (l_e1 x 7) (l_e1 x 8) (l_e1 x 9) (l_e1 x 10) (l_e1 x 11) (l_e1 x 12) (l_e1 x 13) (l_e1 x 0) (l_e0 x (0)) K
  | skip
    intro v x h
    have C0 : (0 : Int) ≤ x 1 := l_cc (a := y_ev x (0, [(1, 1)])) (l_e1 _ _) (h.2.1.1)
    have C1 : (0 : Int) ≤ x 0 := l_cc (a := y_ev x (0, [(0, 1)])) (l_e1 _ _) (h.2.1.2.1)
    have C2 : (0 : Int) ≤ x 3 - x 0 - 1 := l_cc (a := y_ev x ((-1), [(0, (-1)), (3, 1)])) (by show ((-1) : Int) + ((-1) * x 0 + ((1) * x 3 + 0)) = x 3 - x 0 - 1; omega) (h.2.1.2.2.1)
    have C3 : (0 : Int) ≤ 6 - x 3 := l_cc (a := y_ev x (6, [(3, (-1))])) (by show ((6) : Int) + ((-1) * x 3 + 0) = 6 - x 3; omega) (h.2.1.2.2.2.1)
    have E0 : y_ev x (0, [(3, 1)]) = x 3 := (l_e1 _ _)
    have E1 : y_ev x (0, [(4, 1)]) = x 4 := (l_e1 _ _)
    have E2 : y_ev x (0, [(5, 1)]) = x 5 := (l_e1 _ _)
    have E3 : y_ev x (0, [(6, 1)]) = x 6 := (l_e1 _ _)
    have E4 : y_ev x (0, [(7, 1)]) = x 7 := (l_e1 _ _)
    have E5 : y_ev x (0, [(8, 1)]) = x 8 := (l_e1 _ _)
    have E6 : y_ev x (0, [(9, 1)]) = x 9 := (l_e1 _ _)
    have E7 : y_ev x (0, [(10, 1)]) = x 10 := (l_e1 _ _)
    have E8 : y_ev x (0, [(11, 1)]) = x 11 := (l_e1 _ _)
    have E9 : y_ev x (0, [(12, 1)]) = x 12 := (l_e1 _ _)
    have E10 : y_ev x (0, [(13, 1)]) = x 13 := (l_e1 _ _)
    have E11 : y_ev x (6, []) = 6 := (l_e0 _ _)
    have E12 : y_ev x (0, [(0, 1)]) = x 0 := (l_e1 _ _)
    have E13 : y_ev x (0, []) = 0 := (l_e0 _ _)
    have E14 : y_ev x (0, [(1, 1)]) = x 1 := (l_e1 _ _)
    have E15 : y_ev x (8, []) = 8 := (l_e0 _ _)
    have E16 : y_ev x (6, [(0, 1)]) = x 0 + 6 := (by show ((6) : Int) + ((1) * x 0 + 0) = x 0 + 6; omega)
    have E17 : y_ev x (0, [(2, 1)]) = x 2 := (l_e1 _ _)
    have T0 : q_sto v 0 (y_ev x (0, [(3, 1)])) (y_ev x (0, [(4, 1)])) (y_ev x (0, [(5, 1)])) (y_ev x (0, [(6, 1)])) (y_ev x (0, [(7, 1)])) (y_ev x (0, [(8, 1)])) (y_ev x (0, [(9, 1)])) (y_ev x (0, [(10, 1)])) (y_ev x (0, [(11, 1)])) (y_ev x (0, [(12, 1)])) (y_ev x (0, [(13, 1)])) := h.2.2.2.1
    (try rw [E0] at T0); (try rw [E1] at T0); (try rw [E2] at T0); (try rw [E3] at T0); (try rw [E4] at T0); (try rw [E5] at T0); (try rw [E6] at T0); (try rw [E7] at T0); (try rw [E8] at T0); (try rw [E9] at T0); (try rw [E10] at T0)
    have T1 : q_qry v (y_ev x (6, [])) (y_ev x (0, [(7, 1)])) (y_ev x (0, [(8, 1)])) (y_ev x (0, [(9, 1)])) (y_ev x (0, [(10, 1)])) (y_ev x (0, [(11, 1)])) (y_ev x (0, [(12, 1)])) (y_ev x (0, [(13, 1)])) (y_ev x (0, [(0, 1)])) (y_ev x (0, [])) (y_ev x (0, [(1, 1)])) := h.2.2.2.2.1
    (try rw [E11] at T1); (try rw [E4] at T1); (try rw [E5] at T1); (try rw [E6] at T1); (try rw [E7] at T1); (try rw [E8] at T1); (try rw [E9] at T1); (try rw [E10] at T1); (try rw [E12] at T1); (try rw [E13] at T1); (try rw [E14] at T1)
    have T2 : q_qry v (y_ev x (8, [])) (y_ev x (0, [(7, 1)])) (y_ev x (0, [(8, 1)])) (y_ev x (0, [(9, 1)])) (y_ev x (0, [(10, 1)])) (y_ev x (0, [(11, 1)])) (y_ev x (0, [(12, 1)])) (y_ev x (0, [(13, 1)])) (y_ev x (6, [(0, 1)])) (y_ev x (0, [])) (y_ev x (0, [(2, 1)])) := h.2.2.2.2.2.1
    (try rw [E15] at T2); (try rw [E4] at T2); (try rw [E5] at T2); (try rw [E6] at T2); (try rw [E7] at T2); (try rw [E8] at T2); (try rw [E9] at T2); (try rw [E10] at T2); (try rw [E16] at T2); (try rw [E13] at T2); (try rw [E17] at T2)
    have K := k_hasY (V := v) (h := x 0) (i := x 1) (u := x 2) (H := x 3) (p := x 4) (y := x 5) (d := x 6) (q := x 7) (b := x 8) (s := x 9) (o := x 10) (a1 := x 11) (a2 := x 12) (a3 := x 13) T0 T1 T2 C0 C1 C2 C3
    refine l_outH rfl (And.intro h.1 ?_)
    have O0 : y_ev x (0, [(2, 1)]) = x 2 := l_e1 _ _
    have O1 : y_ev x (99, [(2, (-1))]) = 99 - x 2 := by show ((99) : Int) + ((-1) * x 2 + 0) = _; omega
    have O2 : y_ev x (45, []) = 45 := l_e0 _ _
    have O3 : y_ev x (0, [(7, 1)]) = x 7 := l_e1 _ _
    have O4 : y_ev x (0, [(8, 1)]) = x 8 := l_e1 _ _
    have O5 : y_ev x (0, [(9, 1)]) = x 9 := l_e1 _ _
    have O6 : y_ev x (0, [(10, 1)]) = x 10 := l_e1 _ _
    have O7 : y_ev x (0, [(11, 1)]) = x 11 := l_e1 _ _
    have O8 : y_ev x (0, [(12, 1)]) = x 12 := l_e1 _ _
    have O9 : y_ev x (0, [(13, 1)]) = x 13 := l_e1 _ _
    have O10 : y_ev x (0, [(0, 1)]) = x 0 := l_e1 _ _
    have O11 : y_ev x (0, []) = 0 := l_e0 _ _
    show (0 ≤ y_ev x (0, [(2, 1)]) ∧ 0 ≤ y_ev x (99, [(2, (-1))]) ∧ True) ∧ (q_qry v (y_ev x (45, [])) (y_ev x (0, [(7, 1)])) (y_ev x (0, [(8, 1)])) (y_ev x (0, [(9, 1)])) (y_ev x (0, [(10, 1)])) (y_ev x (0, [(11, 1)])) (y_ev x (0, [(12, 1)])) (y_ev x (0, [(13, 1)])) (y_ev x (0, [(0, 1)])) (y_ev x (0, [])) (y_ev x (0, [(2, 1)])) ∧ True)
    (try rw [O0]); (try rw [O1]); (try rw [O2]); (try rw [O3]); (try rw [O4]); (try rw [O5]); (try rw [O6]); (try rw [O7]); (try rw [O8]); (try rw [O9]); (try rw [O10]); (try rw [O11])
    exact K
def lm_1111p : zS := ((lm_650pi_0 (lm_650pi_1 [])), [], [(0, [(0, 1)]), ((-1), [(0, (-1)), (2, 1)]), (6, [(2, (-1))])], [], [(0, 0, 0, [(0, 1)]), (0, 0, 0, [(1, 1)])], [], (lm_875pg_0 []))
def lm_1111 : zLem := (lm_1111p, [([((-2147483648), 2147483647), ((-2147483648), 2147483647), ((-2147483648), 2147483647), ((-2147483648), 2147483647), ((-2147483648), 2147483647), ((-2147483648), 2147483647), ((-2147483648), 2147483647), ((-2147483648), 2147483647), ((-2147483648), 2147483647), ((-2147483648), 2147483647), ((-2147483648), 2147483647), ((-2147483648), 2147483647), ((-2147483648), 2147483647)], [], [(0, [(1, 1)]), (99, [(1, (-1))])], [], [], [], [(238, [(45, []), (0, [(6, 1)]), (0, [(7, 1)]), (0, [(8, 1)]), (0, [(9, 1)]), (0, [(10, 1)]), (0, [(11, 1)]), (0, [(12, 1)]), (0, [(0, 1)]), (0, []), (0, [(1, 1)])])])])
theorem lk_1111 : l_core lm_1111 := by
  first
  | skip
    intro v x h
    have K := k_hasN (V := v) (h := x 0) (u := x 1) (H := x 2) (p := x 3) (y := x 4) (d := x 5) (q := x 6) (b := x 7) (s := x 8) (o := x 9) (a1 := x 10) (a2 := x 11) (a3 := x 12) (l_c11 (fun w0 w1 w2 w3 w4 w5 w6 w7 w8 w9 w10 : Int => q_sto v 0 w0 w1 w2 w3 w4 w5 w6 w7 w8 w9 w10) (l_e1 x 2) (l_e1 x 3) (l_e1 x 4) (l_e1 x 5) (l_e1 x 6) (l_e1 x 7) (l_e1 x 8) (l_e1 x 9) (l_e1 x 10) (l_e1 x 11) (l_e1 x 12) (h.2.2.2.1)) (l_c11 (fun w0 w1 w2 w3 w4 w5 w6 w7 w8 w9 w10 : Int => q_qry v w0 w1 w2 w3 w4 w5 w6 w7 w8 w9 w10) (l_e0 x (6)) (l_e1 x 6) (l_e1 x 7) (l_e1 x 8) (l_e1 x 9) (l_e1 x 10) (l_e1 x 11) (l_e1 x 12) (l_e1 x 0) (l_e0 x (0)) (l_e0 x (-1)) (h.2.2.2.2.1)) (l_c11 (fun w0 w1 w2 w3 w4 w5 w6 w7 w8 w9 w10 : Int => q_qry v w0 w1 w2 w3 w4 w5 w6 w7 w8 w9 w10) (l_e0 x (8)) (l_e1 x 6) (l_e1 x 7) (l_e1 x 8) (l_e1 x 9) (l_e1 x 10) (l_e1 x 11) (l_e1 x 12) (l_e1 x 0) (l_e0 x (0)) (l_e1 x 1) (h.2.2.2.2.2.1)) (l_cc (l_e1 x 0) (h.2.1.1)) (l_cc (l_q6 1 x 0 2) (h.2.1.2.1)) (l_cc (l_q1 6 x 2) (h.2.1.2.2.1))
    refine l_outH rfl (And.intro h.1 ?_)
    exact l_o12 (fun w0 w1 w2 w3 w4 w5 w6 w7 w8 w9 w10 w11 : Int => (0 ≤ w0 ∧ 0 ≤ w1 ∧ True) ∧ (q_qry v w2 w3 w4 w5 w6 w7 w8 w9 w10 w11 w0 ∧ True)) (l_e1 x 1) (l_q1 99 x 1) (l_e0 x (45)) (l_e1 x 6) (l_e1 x 7) (l_e1 x 8) (l_e1 x 9) (l_e1 x 10) (l_e1 x 11) (l_e1 x 12) (l_e1 x 0) (l_e0 x (0)) K
  | skip
    intro v x h
    have C0 : (0 : Int) ≤ x 0 := l_cc (a := y_ev x (0, [(0, 1)])) (l_e1 _ _) (h.2.1.1)
    have C1 : (0 : Int) ≤ x 2 - x 0 - 1 := l_cc (a := y_ev x ((-1), [(0, (-1)), (2, 1)])) (by show ((-1) : Int) + ((-1) * x 0 + ((1) * x 2 + 0)) = x 2 - x 0 - 1; omega) (h.2.1.2.1)
    have C2 : (0 : Int) ≤ 6 - x 2 := l_cc (a := y_ev x (6, [(2, (-1))])) (by show ((6) : Int) + ((-1) * x 2 + 0) = 6 - x 2; omega) (h.2.1.2.2.1)
    have E0 : y_ev x (0, [(2, 1)]) = x 2 := (l_e1 _ _)
    have E1 : y_ev x (0, [(3, 1)]) = x 3 := (l_e1 _ _)
    have E2 : y_ev x (0, [(4, 1)]) = x 4 := (l_e1 _ _)
    have E3 : y_ev x (0, [(5, 1)]) = x 5 := (l_e1 _ _)
    have E4 : y_ev x (0, [(6, 1)]) = x 6 := (l_e1 _ _)
    have E5 : y_ev x (0, [(7, 1)]) = x 7 := (l_e1 _ _)
    have E6 : y_ev x (0, [(8, 1)]) = x 8 := (l_e1 _ _)
    have E7 : y_ev x (0, [(9, 1)]) = x 9 := (l_e1 _ _)
    have E8 : y_ev x (0, [(10, 1)]) = x 10 := (l_e1 _ _)
    have E9 : y_ev x (0, [(11, 1)]) = x 11 := (l_e1 _ _)
    have E10 : y_ev x (0, [(12, 1)]) = x 12 := (l_e1 _ _)
    have E11 : y_ev x (6, []) = 6 := (l_e0 _ _)
    have E12 : y_ev x (0, [(0, 1)]) = x 0 := (l_e1 _ _)
    have E13 : y_ev x (0, []) = 0 := (l_e0 _ _)
    have E14 : y_ev x ((-1), []) = (-1) := (l_e0 _ _)
    have E15 : y_ev x (8, []) = 8 := (l_e0 _ _)
    have E16 : y_ev x (0, [(1, 1)]) = x 1 := (l_e1 _ _)
    have T0 : q_sto v 0 (y_ev x (0, [(2, 1)])) (y_ev x (0, [(3, 1)])) (y_ev x (0, [(4, 1)])) (y_ev x (0, [(5, 1)])) (y_ev x (0, [(6, 1)])) (y_ev x (0, [(7, 1)])) (y_ev x (0, [(8, 1)])) (y_ev x (0, [(9, 1)])) (y_ev x (0, [(10, 1)])) (y_ev x (0, [(11, 1)])) (y_ev x (0, [(12, 1)])) := h.2.2.2.1
    (try rw [E0] at T0); (try rw [E1] at T0); (try rw [E2] at T0); (try rw [E3] at T0); (try rw [E4] at T0); (try rw [E5] at T0); (try rw [E6] at T0); (try rw [E7] at T0); (try rw [E8] at T0); (try rw [E9] at T0); (try rw [E10] at T0)
    have T1 : q_qry v (y_ev x (6, [])) (y_ev x (0, [(6, 1)])) (y_ev x (0, [(7, 1)])) (y_ev x (0, [(8, 1)])) (y_ev x (0, [(9, 1)])) (y_ev x (0, [(10, 1)])) (y_ev x (0, [(11, 1)])) (y_ev x (0, [(12, 1)])) (y_ev x (0, [(0, 1)])) (y_ev x (0, [])) (y_ev x ((-1), [])) := h.2.2.2.2.1
    (try rw [E11] at T1); (try rw [E4] at T1); (try rw [E5] at T1); (try rw [E6] at T1); (try rw [E7] at T1); (try rw [E8] at T1); (try rw [E9] at T1); (try rw [E10] at T1); (try rw [E12] at T1); (try rw [E13] at T1); (try rw [E14] at T1)
    have T2 : q_qry v (y_ev x (8, [])) (y_ev x (0, [(6, 1)])) (y_ev x (0, [(7, 1)])) (y_ev x (0, [(8, 1)])) (y_ev x (0, [(9, 1)])) (y_ev x (0, [(10, 1)])) (y_ev x (0, [(11, 1)])) (y_ev x (0, [(12, 1)])) (y_ev x (0, [(0, 1)])) (y_ev x (0, [])) (y_ev x (0, [(1, 1)])) := h.2.2.2.2.2.1
    (try rw [E15] at T2); (try rw [E4] at T2); (try rw [E5] at T2); (try rw [E6] at T2); (try rw [E7] at T2); (try rw [E8] at T2); (try rw [E9] at T2); (try rw [E10] at T2); (try rw [E12] at T2); (try rw [E13] at T2); (try rw [E16] at T2)
    have K := k_hasN (V := v) (h := x 0) (u := x 1) (H := x 2) (p := x 3) (y := x 4) (d := x 5) (q := x 6) (b := x 7) (s := x 8) (o := x 9) (a1 := x 10) (a2 := x 11) (a3 := x 12) T0 T1 T2 C0 C1 C2
    refine l_outH rfl (And.intro h.1 ?_)
    have O0 : y_ev x (0, [(1, 1)]) = x 1 := l_e1 _ _
    have O1 : y_ev x (99, [(1, (-1))]) = 99 - x 1 := by show ((99) : Int) + ((-1) * x 1 + 0) = _; omega
    have O2 : y_ev x (45, []) = 45 := l_e0 _ _
    have O3 : y_ev x (0, [(6, 1)]) = x 6 := l_e1 _ _
    have O4 : y_ev x (0, [(7, 1)]) = x 7 := l_e1 _ _
    have O5 : y_ev x (0, [(8, 1)]) = x 8 := l_e1 _ _
    have O6 : y_ev x (0, [(9, 1)]) = x 9 := l_e1 _ _
    have O7 : y_ev x (0, [(10, 1)]) = x 10 := l_e1 _ _
    have O8 : y_ev x (0, [(11, 1)]) = x 11 := l_e1 _ _
    have O9 : y_ev x (0, [(12, 1)]) = x 12 := l_e1 _ _
    have O10 : y_ev x (0, [(0, 1)]) = x 0 := l_e1 _ _
    have O11 : y_ev x (0, []) = 0 := l_e0 _ _
    show (0 ≤ y_ev x (0, [(1, 1)]) ∧ 0 ≤ y_ev x (99, [(1, (-1))]) ∧ True) ∧ (q_qry v (y_ev x (45, [])) (y_ev x (0, [(6, 1)])) (y_ev x (0, [(7, 1)])) (y_ev x (0, [(8, 1)])) (y_ev x (0, [(9, 1)])) (y_ev x (0, [(10, 1)])) (y_ev x (0, [(11, 1)])) (y_ev x (0, [(12, 1)])) (y_ev x (0, [(0, 1)])) (y_ev x (0, [])) (y_ev x (0, [(1, 1)])) ∧ True)
    (try rw [O0]); (try rw [O1]); (try rw [O2]); (try rw [O3]); (try rw [O4]); (try rw [O5]); (try rw [O6]); (try rw [O7]); (try rw [O8]); (try rw [O9]); (try rw [O10]); (try rw [O11])
    exact K
def lm_1112 : zLem := (([((-2147483648), 2147483647), ((-2147483648), 2147483647), ((-2147483648), 2147483647), ((-2147483648), 2147483647), ((-2147483648), 2147483647), ((-2147483648), 2147483647), ((-2147483648), 2147483647), ((-2147483648), 2147483647), ((-2147483648), 2147483647), ((-2147483648), 2147483647), ((-2147483648), 2147483647), ((-2147483648), 2147483647)], [(40, false)], [(0, [(0, 1)]), (0, [(0, (-1))])], [], [], [(0, (true, 0, 0, []), 0, 0, 0, [(0, 1)])], [(235, [(0, [(1, 1)]), (0, [(2, 1)]), (0, [(3, 1)]), (0, [(4, 1)]), (0, [(5, 1)]), (0, [(6, 1)]), (0, [(7, 1)]), (0, [(8, 1)]), (0, [(9, 1)]), (0, [(10, 1)]), (0, [(11, 1)])])]), [([((-2147483648), 2147483647), ((-2147483648), 2147483647), ((-2147483648), 2147483647), ((-2147483648), 2147483647), ((-2147483648), 2147483647), ((-2147483648), 2147483647), ((-2147483648), 2147483647), ((-2147483648), 2147483647), ((-2147483648), 2147483647), ((-2147483648), 2147483647), ((-2147483648), 2147483647), ((-2147483648), 2147483647)], [(40, false)], [], [], [], [], [(277, [(0, [(5, 1)]), (0, [(6, 1)]), (0, [(7, 1)]), (0, [(8, 1)]), (0, [(9, 1)]), (0, [(10, 1)]), (0, [(11, 1)]), (1, [])]), (238, [(46, []), (0, [(5, 1)]), (0, [(6, 1)]), (0, [(7, 1)]), (0, [(8, 1)]), (0, [(9, 1)]), (0, [(10, 1)]), (0, [(11, 1)]), (0, []), (0, []), (0, [])]), (104, [(1, []), (0, []), (1, [])])])])
theorem lk_1112 : l_core lm_1112 := by
  first
  | skip
    intro v x h
    have G0 := h.2.2.1
    have K := k_smp0 (V := v) (z := x 0) (H := x 1) (p := x 2) (y := x 3) (d := x 4) (q := x 5) (b := x 6) (s := x 7) (o := x 8) (a1 := x 9) (a2 := x 10) (a3 := x 11) (l_c11 (fun w0 w1 w2 w3 w4 w5 w6 w7 w8 w9 w10 : Int => q_sto v 0 w0 w1 w2 w3 w4 w5 w6 w7 w8 w9 w10) (l_e1 x 1) (l_e1 x 2) (l_e1 x 3) (l_e1 x 4) (l_e1 x 5) (l_e1 x 6) (l_e1 x 7) (l_e1 x 8) (l_e1 x 9) (l_e1 x 10) (l_e1 x 11) (h.2.2.2.1)) (l_cc (l_e1 x 0) (h.2.1.1)) (l_cc (l_q7 x 0) (h.2.1.2.1)) (l_ff (f := v 40) (L := j_len 40) (l_e0 x (0)) (l_e1 x 0) (G0.1.1))
    refine l_outH rfl (And.intro h.1 ?_)
    exact l_o10 (fun w0 w1 w2 w3 w4 w5 w6 w7 w8 w9 : Int => (True) ∧ (q_smp v w0 w1 w2 w3 w4 w5 w6 w7 ∧ q_qry v w8 w0 w1 w2 w3 w4 w5 w6 w9 w9 w9 ∧ ((mOP 104 (Int32.ofInt w7) (Int32.ofInt w9)).toInt = w7) ∧ True)) (l_e1 x 5) (l_e1 x 6) (l_e1 x 7) (l_e1 x 8) (l_e1 x 9) (l_e1 x 10) (l_e1 x 11) (l_e0 x (1)) (l_e0 x (46)) (l_e0 x (0)) K
  | skip
    intro v x h
    have G0 := h.2.2.1
    have C0 : (0 : Int) ≤ x 0 := l_cc (a := y_ev x (0, [(0, 1)])) (l_e1 _ _) (h.2.1.1)
    have C1 : (0 : Int) ≤ -x 0 := l_cc (a := y_ev x (0, [(0, (-1))])) (by show ((0) : Int) + ((-1) * x 0 + 0) = -x 0; omega) (h.2.1.2.1)
    have F0 : (0 : Int) ≤ 0 ∧ (0 : Int) < j_len 40 ∧ v 40 (0) = x 0 := l_ff (f := v 40) (L := j_len 40) (a := y_ev x (0, [])) (b := y_ev x (0, [(0, 1)])) (l_e0 _ _) (l_e1 _ _) (G0.1.1)
    have E0 : y_ev x (0, [(1, 1)]) = x 1 := (l_e1 _ _)
    have E1 : y_ev x (0, [(2, 1)]) = x 2 := (l_e1 _ _)
    have E2 : y_ev x (0, [(3, 1)]) = x 3 := (l_e1 _ _)
    have E3 : y_ev x (0, [(4, 1)]) = x 4 := (l_e1 _ _)
    have E4 : y_ev x (0, [(5, 1)]) = x 5 := (l_e1 _ _)
    have E5 : y_ev x (0, [(6, 1)]) = x 6 := (l_e1 _ _)
    have E6 : y_ev x (0, [(7, 1)]) = x 7 := (l_e1 _ _)
    have E7 : y_ev x (0, [(8, 1)]) = x 8 := (l_e1 _ _)
    have E8 : y_ev x (0, [(9, 1)]) = x 9 := (l_e1 _ _)
    have E9 : y_ev x (0, [(10, 1)]) = x 10 := (l_e1 _ _)
    have E10 : y_ev x (0, [(11, 1)]) = x 11 := (l_e1 _ _)
    have T0 : q_sto v 0 (y_ev x (0, [(1, 1)])) (y_ev x (0, [(2, 1)])) (y_ev x (0, [(3, 1)])) (y_ev x (0, [(4, 1)])) (y_ev x (0, [(5, 1)])) (y_ev x (0, [(6, 1)])) (y_ev x (0, [(7, 1)])) (y_ev x (0, [(8, 1)])) (y_ev x (0, [(9, 1)])) (y_ev x (0, [(10, 1)])) (y_ev x (0, [(11, 1)])) := h.2.2.2.1
    (try rw [E0] at T0); (try rw [E1] at T0); (try rw [E2] at T0); (try rw [E3] at T0); (try rw [E4] at T0); (try rw [E5] at T0); (try rw [E6] at T0); (try rw [E7] at T0); (try rw [E8] at T0); (try rw [E9] at T0); (try rw [E10] at T0)
    have K := k_smp0 (V := v) (z := x 0) (H := x 1) (p := x 2) (y := x 3) (d := x 4) (q := x 5) (b := x 6) (s := x 7) (o := x 8) (a1 := x 9) (a2 := x 10) (a3 := x 11) T0 C0 C1 F0
    refine l_outH rfl (And.intro h.1 ?_)
    have O0 : y_ev x (0, [(5, 1)]) = x 5 := l_e1 _ _
    have O1 : y_ev x (0, [(6, 1)]) = x 6 := l_e1 _ _
    have O2 : y_ev x (0, [(7, 1)]) = x 7 := l_e1 _ _
    have O3 : y_ev x (0, [(8, 1)]) = x 8 := l_e1 _ _
    have O4 : y_ev x (0, [(9, 1)]) = x 9 := l_e1 _ _
    have O5 : y_ev x (0, [(10, 1)]) = x 10 := l_e1 _ _
    have O6 : y_ev x (0, [(11, 1)]) = x 11 := l_e1 _ _
    have O7 : y_ev x (1, []) = 1 := l_e0 _ _
    have O8 : y_ev x (46, []) = 46 := l_e0 _ _
    have O9 : y_ev x (0, []) = 0 := l_e0 _ _
    show (True) ∧ (q_smp v (y_ev x (0, [(5, 1)])) (y_ev x (0, [(6, 1)])) (y_ev x (0, [(7, 1)])) (y_ev x (0, [(8, 1)])) (y_ev x (0, [(9, 1)])) (y_ev x (0, [(10, 1)])) (y_ev x (0, [(11, 1)])) (y_ev x (1, [])) ∧ q_qry v (y_ev x (46, [])) (y_ev x (0, [(5, 1)])) (y_ev x (0, [(6, 1)])) (y_ev x (0, [(7, 1)])) (y_ev x (0, [(8, 1)])) (y_ev x (0, [(9, 1)])) (y_ev x (0, [(10, 1)])) (y_ev x (0, [(11, 1)])) (y_ev x (0, [])) (y_ev x (0, [])) (y_ev x (0, [])) ∧ ((mOP 104 (Int32.ofInt (y_ev x (1, []))) (Int32.ofInt (y_ev x (0, [])))).toInt = (y_ev x (1, []))) ∧ True)
    (try rw [O0]); (try rw [O1]); (try rw [O2]); (try rw [O3]); (try rw [O4]); (try rw [O5]); (try rw [O6]); (try rw [O7]); (try rw [O8]); (try rw [O9])
    exact K
def lm_1113p : zS := ((lm_650pi_0 (lm_650pi_1 [])), [], [(0, [(0, 1), (2, (-1))]), (0, [(0, (-1)), (2, 1)])], [], [(0, 0, 0, [(0, 1)])], [], [(235, [(0, [(2, 1)]), (0, [(3, 1)]), (0, [(4, 1)]), (0, [(5, 1)]), (0, [(6, 1)]), (0, [(7, 1)]), (0, [(8, 1)]), (0, [(9, 1)]), (0, [(10, 1)]), (0, [(11, 1)]), (0, [(12, 1)])]), (238, [(46, []), (0, [(6, 1)]), (0, [(7, 1)]), (0, [(8, 1)]), (0, [(9, 1)]), (0, [(10, 1)]), (0, [(11, 1)]), (0, [(12, 1)]), (0, [(0, 1)]), (0, []), (0, [(1, 1)])])])
def lm_1113 : zLem := (lm_1113p, [([((-2147483648), 2147483647), ((-2147483648), 2147483647), ((-2147483648), 2147483647), ((-2147483648), 2147483647), ((-2147483648), 2147483647), ((-2147483648), 2147483647), ((-2147483648), 2147483647), ((-2147483648), 2147483647), ((-2147483648), 2147483647), ((-2147483648), 2147483647), ((-2147483648), 2147483647), ((-2147483648), 2147483647), ((-2147483648), 2147483647)], [], [], [], [], [], [(238, [(46, []), (0, [(6, 1)]), (0, [(7, 1)]), (0, [(8, 1)]), (0, [(9, 1)]), (0, [(10, 1)]), (0, [(11, 1)]), (0, [(12, 1)]), (6, []), (0, []), (0, [(1, 1)])])])])
theorem lk_1113 : l_core lm_1113 := by
  first
  | skip
    intro v x h
    have K := k_ablE (V := v) (i := x 0) (a := x 1) (H := x 2) (p := x 3) (y := x 4) (d := x 5) (q := x 6) (b := x 7) (s := x 8) (o := x 9) (a1 := x 10) (a2 := x 11) (a3 := x 12) (l_c11 (fun w0 w1 w2 w3 w4 w5 w6 w7 w8 w9 w10 : Int => q_sto v 0 w0 w1 w2 w3 w4 w5 w6 w7 w8 w9 w10) (l_e1 x 2) (l_e1 x 3) (l_e1 x 4) (l_e1 x 5) (l_e1 x 6) (l_e1 x 7) (l_e1 x 8) (l_e1 x 9) (l_e1 x 10) (l_e1 x 11) (l_e1 x 12) (h.2.2.2.1)) (l_c11 (fun w0 w1 w2 w3 w4 w5 w6 w7 w8 w9 w10 : Int => q_qry v w0 w1 w2 w3 w4 w5 w6 w7 w8 w9 w10) (l_e0 x (46)) (l_e1 x 6) (l_e1 x 7) (l_e1 x 8) (l_e1 x 9) (l_e1 x 10) (l_e1 x 11) (l_e1 x 12) (l_e1 x 0) (l_e0 x (0)) (l_e1 x 1) (h.2.2.2.2.1)) (l_cc (l_q5 x 0 2) (h.2.1.1)) (l_cc (l_q4 x 0 2) (h.2.1.2.1))
    refine l_outH rfl (And.intro h.1 ?_)
    exact l_o11 (fun w0 w1 w2 w3 w4 w5 w6 w7 w8 w9 w10 : Int => (True) ∧ (q_qry v w0 w1 w2 w3 w4 w5 w6 w7 w8 w9 w10 ∧ True)) (l_e0 x (46)) (l_e1 x 6) (l_e1 x 7) (l_e1 x 8) (l_e1 x 9) (l_e1 x 10) (l_e1 x 11) (l_e1 x 12) (l_e0 x (6)) (l_e0 x (0)) (l_e1 x 1) K
  | skip
    intro v x h
    have C0 : (0 : Int) ≤ x 0 - x 2 := l_cc (a := y_ev x (0, [(0, 1), (2, (-1))])) (by show ((0) : Int) + ((1) * x 0 + ((-1) * x 2 + 0)) = x 0 - x 2; omega) (h.2.1.1)
    have C1 : (0 : Int) ≤ x 2 - x 0 := l_cc (a := y_ev x (0, [(0, (-1)), (2, 1)])) (by show ((0) : Int) + ((-1) * x 0 + ((1) * x 2 + 0)) = x 2 - x 0; omega) (h.2.1.2.1)
    have E0 : y_ev x (0, [(2, 1)]) = x 2 := (l_e1 _ _)
    have E1 : y_ev x (0, [(3, 1)]) = x 3 := (l_e1 _ _)
    have E2 : y_ev x (0, [(4, 1)]) = x 4 := (l_e1 _ _)
    have E3 : y_ev x (0, [(5, 1)]) = x 5 := (l_e1 _ _)
    have E4 : y_ev x (0, [(6, 1)]) = x 6 := (l_e1 _ _)
    have E5 : y_ev x (0, [(7, 1)]) = x 7 := (l_e1 _ _)
    have E6 : y_ev x (0, [(8, 1)]) = x 8 := (l_e1 _ _)
    have E7 : y_ev x (0, [(9, 1)]) = x 9 := (l_e1 _ _)
    have E8 : y_ev x (0, [(10, 1)]) = x 10 := (l_e1 _ _)
    have E9 : y_ev x (0, [(11, 1)]) = x 11 := (l_e1 _ _)
    have E10 : y_ev x (0, [(12, 1)]) = x 12 := (l_e1 _ _)
    have E11 : y_ev x (46, []) = 46 := (l_e0 _ _)
    have E12 : y_ev x (0, [(0, 1)]) = x 0 := (l_e1 _ _)
    have E13 : y_ev x (0, []) = 0 := (l_e0 _ _)
    have E14 : y_ev x (0, [(1, 1)]) = x 1 := (l_e1 _ _)
    have T0 : q_sto v 0 (y_ev x (0, [(2, 1)])) (y_ev x (0, [(3, 1)])) (y_ev x (0, [(4, 1)])) (y_ev x (0, [(5, 1)])) (y_ev x (0, [(6, 1)])) (y_ev x (0, [(7, 1)])) (y_ev x (0, [(8, 1)])) (y_ev x (0, [(9, 1)])) (y_ev x (0, [(10, 1)])) (y_ev x (0, [(11, 1)])) (y_ev x (0, [(12, 1)])) := h.2.2.2.1
    (try rw [E0] at T0); (try rw [E1] at T0); (try rw [E2] at T0); (try rw [E3] at T0); (try rw [E4] at T0); (try rw [E5] at T0); (try rw [E6] at T0); (try rw [E7] at T0); (try rw [E8] at T0); (try rw [E9] at T0); (try rw [E10] at T0)
    have T1 : q_qry v (y_ev x (46, [])) (y_ev x (0, [(6, 1)])) (y_ev x (0, [(7, 1)])) (y_ev x (0, [(8, 1)])) (y_ev x (0, [(9, 1)])) (y_ev x (0, [(10, 1)])) (y_ev x (0, [(11, 1)])) (y_ev x (0, [(12, 1)])) (y_ev x (0, [(0, 1)])) (y_ev x (0, [])) (y_ev x (0, [(1, 1)])) := h.2.2.2.2.1
    (try rw [E11] at T1); (try rw [E4] at T1); (try rw [E5] at T1); (try rw [E6] at T1); (try rw [E7] at T1); (try rw [E8] at T1); (try rw [E9] at T1); (try rw [E10] at T1); (try rw [E12] at T1); (try rw [E13] at T1); (try rw [E14] at T1)
    have K := k_ablE (V := v) (i := x 0) (a := x 1) (H := x 2) (p := x 3) (y := x 4) (d := x 5) (q := x 6) (b := x 7) (s := x 8) (o := x 9) (a1 := x 10) (a2 := x 11) (a3 := x 12) T0 T1 C0 C1
    refine l_outH rfl (And.intro h.1 ?_)
    have O0 : y_ev x (46, []) = 46 := l_e0 _ _
    have O1 : y_ev x (0, [(6, 1)]) = x 6 := l_e1 _ _
    have O2 : y_ev x (0, [(7, 1)]) = x 7 := l_e1 _ _
    have O3 : y_ev x (0, [(8, 1)]) = x 8 := l_e1 _ _
    have O4 : y_ev x (0, [(9, 1)]) = x 9 := l_e1 _ _
    have O5 : y_ev x (0, [(10, 1)]) = x 10 := l_e1 _ _
    have O6 : y_ev x (0, [(11, 1)]) = x 11 := l_e1 _ _
    have O7 : y_ev x (0, [(12, 1)]) = x 12 := l_e1 _ _
    have O8 : y_ev x (6, []) = 6 := l_e0 _ _
    have O9 : y_ev x (0, []) = 0 := l_e0 _ _
    have O10 : y_ev x (0, [(1, 1)]) = x 1 := l_e1 _ _
    show (True) ∧ (q_qry v (y_ev x (46, [])) (y_ev x (0, [(6, 1)])) (y_ev x (0, [(7, 1)])) (y_ev x (0, [(8, 1)])) (y_ev x (0, [(9, 1)])) (y_ev x (0, [(10, 1)])) (y_ev x (0, [(11, 1)])) (y_ev x (0, [(12, 1)])) (y_ev x (6, [])) (y_ev x (0, [])) (y_ev x (0, [(1, 1)])) ∧ True)
    (try rw [O0]); (try rw [O1]); (try rw [O2]); (try rw [O3]); (try rw [O4]); (try rw [O5]); (try rw [O6]); (try rw [O7]); (try rw [O8]); (try rw [O9]); (try rw [O10])
    exact K
def lm_1114pg_0 (t : List zTg) : List zTg := (236, [(0, [(3, 1)]), (0, [(4, 1)]), (0, [(5, 1)]), (0, [(6, 1)]), (0, [(7, 1)]), (0, [(8, 1)]), (0, [(9, 1)]), (0, [(10, 1)]), (0, [(11, 1)]), (0, [(12, 1)]), (0, [(13, 1)])]) :: (238, [(6, []), (0, [(7, 1)]), (0, [(8, 1)]), (0, [(9, 1)]), (0, [(10, 1)]), (0, [(11, 1)]), (0, [(12, 1)]), (0, [(13, 1)]), (0, [(0, 1)]), (0, []), (0, [(1, 1)])]) :: (238, [(8, []), (0, [(7, 1)]), (0, [(8, 1)]), (0, [(9, 1)]), (0, [(10, 1)]), (0, [(11, 1)]), (0, [(12, 1)]), (0, [(13, 1)]), (6, [(0, 1)]), (0, []), (0, [(2, 1)])]) :: t
def lm_1114p : zS := ((lm_716pi_0 (lm_716pi_1 [])), [], [(0, [(1, 1)]), (0, [(0, 1)]), ((-1), [(0, (-1)), (3, 1)]), (6, [(3, (-1))])], [], [(0, 0, 0, [(0, 1)]), (0, 0, 0, [(2, 1)])], [], (lm_1114pg_0 []))
def lm_1114 : zLem := (lm_1114p, [([((-2147483648), 2147483647), ((-2147483648), 2147483647), ((-2147483648), 2147483647), ((-2147483648), 2147483647), ((-2147483648), 2147483647), ((-2147483648), 2147483647), ((-2147483648), 2147483647), ((-2147483648), 2147483647), ((-2147483648), 2147483647), ((-2147483648), 2147483647), ((-2147483648), 2147483647), ((-2147483648), 2147483647), ((-2147483648), 2147483647), ((-2147483648), 2147483647)], [], [(0, [(2, 1)]), (99, [(2, (-1))])], [], [], [], [(238, [(45, []), (0, [(7, 1)]), (0, [(8, 1)]), (0, [(9, 1)]), (0, [(10, 1)]), (0, [(11, 1)]), (0, [(12, 1)]), (0, [(13, 1)]), (0, [(0, 1)]), (0, []), (0, [(2, 1)])])])])
theorem lk_1114 : l_core lm_1114 := by
  first
  | skip
    intro v x h
    have K := k_hasYt (V := v) (h := x 0) (i := x 1) (u := x 2) (H := x 3) (p := x 4) (y := x 5) (d := x 6) (q := x 7) (b := x 8) (s := x 9) (o := x 10) (a1 := x 11) (a2 := x 12) (a3 := x 13) (l_c11 (fun w0 w1 w2 w3 w4 w5 w6 w7 w8 w9 w10 : Int => q_sto v 1 w0 w1 w2 w3 w4 w5 w6 w7 w8 w9 w10) (l_e1 x 3) (l_e1 x 4) (l_e1 x 5) (l_e1 x 6) (l_e1 x 7) (l_e1 x 8) (l_e1 x 9) (l_e1 x 10) (l_e1 x 11) (l_e1 x 12) (l_e1 x 13) (h.2.2.2.1)) (l_c11 (fun w0 w1 w2 w3 w4 w5 w6 w7 w8 w9 w10 : Int => q_qry v w0 w1 w2 w3 w4 w5 w6 w7 w8 w9 w10) (l_e0 x (6)) (l_e1 x 7) (l_e1 x 8) (l_e1 x 9) (l_e1 x 10) (l_e1 x 11) (l_e1 x 12) (l_e1 x 13) (l_e1 x 0) (l_e0 x (0)) (l_e1 x 1) (h.2.2.2.2.1)) (l_c11 (fun w0 w1 w2 w3 w4 w5 w6 w7 w8 w9 w10 : Int => q_qry v w0 w1 w2 w3 w4 w5 w6 w7 w8 w9 w10) (l_e0 x (8)) (l_e1 x 7) (l_e1 x 8) (l_e1 x 9) (l_e1 x 10) (l_e1 x 11) (l_e1 x 12) (l_e1 x 13) (l_q3 6 x 0) (l_e0 x (0)) (l_e1 x 2) (h.2.2.2.2.2.1)) (l_cc (l_e1 x 1) (h.2.1.1)) (l_cc (l_e1 x 0) (h.2.1.2.1)) (l_cc (l_q6 1 x 0 3) (h.2.1.2.2.1)) (l_cc (l_q1 6 x 3) (h.2.1.2.2.2.1))
    refine l_outH rfl (And.intro h.1 ?_)
    exact l_o12 (fun w0 w1 w2 w3 w4 w5 w6 w7 w8 w9 w10 w11 : Int => (0 ≤ w0 ∧ 0 ≤ w1 ∧ True) ∧ (q_qry v w2 w3 w4 w5 w6 w7 w8 w9 w10 w11 w0 ∧ True)) (l_e1 x 2) (l_q1 99 x 2) (l_e0 x (45)) (l_e1 x 7) (l_e1 x 8) (l_e1 x 9) (l_e1 x 10) (l_e1 x 11) (l_e1 x 12) (l_e1 x 13) (l_e1 x 0) (l_e0 x (0)) K
  | skip
    intro v x h
    have C0 : (0 : Int) ≤ x 1 := l_cc (a := y_ev x (0, [(1, 1)])) (l_e1 _ _) (h.2.1.1)
    have C1 : (0 : Int) ≤ x 0 := l_cc (a := y_ev x (0, [(0, 1)])) (l_e1 _ _) (h.2.1.2.1)
    have C2 : (0 : Int) ≤ x 3 - x 0 - 1 := l_cc (a := y_ev x ((-1), [(0, (-1)), (3, 1)])) (by show ((-1) : Int) + ((-1) * x 0 + ((1) * x 3 + 0)) = x 3 - x 0 - 1; omega) (h.2.1.2.2.1)
    have C3 : (0 : Int) ≤ 6 - x 3 := l_cc (a := y_ev x (6, [(3, (-1))])) (by show ((6) : Int) + ((-1) * x 3 + 0) = 6 - x 3; omega) (h.2.1.2.2.2.1)
    have E0 : y_ev x (0, [(3, 1)]) = x 3 := (l_e1 _ _)
    have E1 : y_ev x (0, [(4, 1)]) = x 4 := (l_e1 _ _)
    have E2 : y_ev x (0, [(5, 1)]) = x 5 := (l_e1 _ _)
    have E3 : y_ev x (0, [(6, 1)]) = x 6 := (l_e1 _ _)
    have E4 : y_ev x (0, [(7, 1)]) = x 7 := (l_e1 _ _)
    have E5 : y_ev x (0, [(8, 1)]) = x 8 := (l_e1 _ _)
    have E6 : y_ev x (0, [(9, 1)]) = x 9 := (l_e1 _ _)
    have E7 : y_ev x (0, [(10, 1)]) = x 10 := (l_e1 _ _)
    have E8 : y_ev x (0, [(11, 1)]) = x 11 := (l_e1 _ _)
    have E9 : y_ev x (0, [(12, 1)]) = x 12 := (l_e1 _ _)
    have E10 : y_ev x (0, [(13, 1)]) = x 13 := (l_e1 _ _)
    have E11 : y_ev x (6, []) = 6 := (l_e0 _ _)
    have E12 : y_ev x (0, [(0, 1)]) = x 0 := (l_e1 _ _)
    have E13 : y_ev x (0, []) = 0 := (l_e0 _ _)
    have E14 : y_ev x (0, [(1, 1)]) = x 1 := (l_e1 _ _)
    have E15 : y_ev x (8, []) = 8 := (l_e0 _ _)
    have E16 : y_ev x (6, [(0, 1)]) = x 0 + 6 := (by show ((6) : Int) + ((1) * x 0 + 0) = x 0 + 6; omega)
    have E17 : y_ev x (0, [(2, 1)]) = x 2 := (l_e1 _ _)
    have T0 : q_sto v 1 (y_ev x (0, [(3, 1)])) (y_ev x (0, [(4, 1)])) (y_ev x (0, [(5, 1)])) (y_ev x (0, [(6, 1)])) (y_ev x (0, [(7, 1)])) (y_ev x (0, [(8, 1)])) (y_ev x (0, [(9, 1)])) (y_ev x (0, [(10, 1)])) (y_ev x (0, [(11, 1)])) (y_ev x (0, [(12, 1)])) (y_ev x (0, [(13, 1)])) := h.2.2.2.1
    (try rw [E0] at T0); (try rw [E1] at T0); (try rw [E2] at T0); (try rw [E3] at T0); (try rw [E4] at T0); (try rw [E5] at T0); (try rw [E6] at T0); (try rw [E7] at T0); (try rw [E8] at T0); (try rw [E9] at T0); (try rw [E10] at T0)
    have T1 : q_qry v (y_ev x (6, [])) (y_ev x (0, [(7, 1)])) (y_ev x (0, [(8, 1)])) (y_ev x (0, [(9, 1)])) (y_ev x (0, [(10, 1)])) (y_ev x (0, [(11, 1)])) (y_ev x (0, [(12, 1)])) (y_ev x (0, [(13, 1)])) (y_ev x (0, [(0, 1)])) (y_ev x (0, [])) (y_ev x (0, [(1, 1)])) := h.2.2.2.2.1
    (try rw [E11] at T1); (try rw [E4] at T1); (try rw [E5] at T1); (try rw [E6] at T1); (try rw [E7] at T1); (try rw [E8] at T1); (try rw [E9] at T1); (try rw [E10] at T1); (try rw [E12] at T1); (try rw [E13] at T1); (try rw [E14] at T1)
    have T2 : q_qry v (y_ev x (8, [])) (y_ev x (0, [(7, 1)])) (y_ev x (0, [(8, 1)])) (y_ev x (0, [(9, 1)])) (y_ev x (0, [(10, 1)])) (y_ev x (0, [(11, 1)])) (y_ev x (0, [(12, 1)])) (y_ev x (0, [(13, 1)])) (y_ev x (6, [(0, 1)])) (y_ev x (0, [])) (y_ev x (0, [(2, 1)])) := h.2.2.2.2.2.1
    (try rw [E15] at T2); (try rw [E4] at T2); (try rw [E5] at T2); (try rw [E6] at T2); (try rw [E7] at T2); (try rw [E8] at T2); (try rw [E9] at T2); (try rw [E10] at T2); (try rw [E16] at T2); (try rw [E13] at T2); (try rw [E17] at T2)
    have K := k_hasYt (V := v) (h := x 0) (i := x 1) (u := x 2) (H := x 3) (p := x 4) (y := x 5) (d := x 6) (q := x 7) (b := x 8) (s := x 9) (o := x 10) (a1 := x 11) (a2 := x 12) (a3 := x 13) T0 T1 T2 C0 C1 C2 C3
    refine l_outH rfl (And.intro h.1 ?_)
    have O0 : y_ev x (0, [(2, 1)]) = x 2 := l_e1 _ _
    have O1 : y_ev x (99, [(2, (-1))]) = 99 - x 2 := by show ((99) : Int) + ((-1) * x 2 + 0) = _; omega
    have O2 : y_ev x (45, []) = 45 := l_e0 _ _
    have O3 : y_ev x (0, [(7, 1)]) = x 7 := l_e1 _ _
    have O4 : y_ev x (0, [(8, 1)]) = x 8 := l_e1 _ _
    have O5 : y_ev x (0, [(9, 1)]) = x 9 := l_e1 _ _
    have O6 : y_ev x (0, [(10, 1)]) = x 10 := l_e1 _ _
    have O7 : y_ev x (0, [(11, 1)]) = x 11 := l_e1 _ _
    have O8 : y_ev x (0, [(12, 1)]) = x 12 := l_e1 _ _
    have O9 : y_ev x (0, [(13, 1)]) = x 13 := l_e1 _ _
    have O10 : y_ev x (0, [(0, 1)]) = x 0 := l_e1 _ _
    have O11 : y_ev x (0, []) = 0 := l_e0 _ _
    show (0 ≤ y_ev x (0, [(2, 1)]) ∧ 0 ≤ y_ev x (99, [(2, (-1))]) ∧ True) ∧ (q_qry v (y_ev x (45, [])) (y_ev x (0, [(7, 1)])) (y_ev x (0, [(8, 1)])) (y_ev x (0, [(9, 1)])) (y_ev x (0, [(10, 1)])) (y_ev x (0, [(11, 1)])) (y_ev x (0, [(12, 1)])) (y_ev x (0, [(13, 1)])) (y_ev x (0, [(0, 1)])) (y_ev x (0, [])) (y_ev x (0, [(2, 1)])) ∧ True)
    (try rw [O0]); (try rw [O1]); (try rw [O2]); (try rw [O3]); (try rw [O4]); (try rw [O5]); (try rw [O6]); (try rw [O7]); (try rw [O8]); (try rw [O9]); (try rw [O10]); (try rw [O11])
    exact K
def lm_1115p : zS := ((lm_650pi_0 (lm_650pi_1 [])), [], [(0, [(0, 1)]), ((-1), [(0, (-1)), (2, 1)]), (6, [(2, (-1))])], [], [(0, 0, 0, [(0, 1)]), (0, 0, 0, [(1, 1)])], [], (lm_883pg_0 []))
def lm_1115 : zLem := (lm_1115p, [([((-2147483648), 2147483647), ((-2147483648), 2147483647), ((-2147483648), 2147483647), ((-2147483648), 2147483647), ((-2147483648), 2147483647), ((-2147483648), 2147483647), ((-2147483648), 2147483647), ((-2147483648), 2147483647), ((-2147483648), 2147483647), ((-2147483648), 2147483647), ((-2147483648), 2147483647), ((-2147483648), 2147483647), ((-2147483648), 2147483647)], [], [(0, [(1, 1)]), (99, [(1, (-1))])], [], [], [], [(238, [(45, []), (0, [(6, 1)]), (0, [(7, 1)]), (0, [(8, 1)]), (0, [(9, 1)]), (0, [(10, 1)]), (0, [(11, 1)]), (0, [(12, 1)]), (0, [(0, 1)]), (0, []), (0, [(1, 1)])])])])
theorem lk_1115 : l_core lm_1115 := by
  first
  | skip
    intro v x h
    have K := k_hasNt (V := v) (h := x 0) (u := x 1) (H := x 2) (p := x 3) (y := x 4) (d := x 5) (q := x 6) (b := x 7) (s := x 8) (o := x 9) (a1 := x 10) (a2 := x 11) (a3 := x 12) (l_c11 (fun w0 w1 w2 w3 w4 w5 w6 w7 w8 w9 w10 : Int => q_sto v 1 w0 w1 w2 w3 w4 w5 w6 w7 w8 w9 w10) (l_e1 x 2) (l_e1 x 3) (l_e1 x 4) (l_e1 x 5) (l_e1 x 6) (l_e1 x 7) (l_e1 x 8) (l_e1 x 9) (l_e1 x 10) (l_e1 x 11) (l_e1 x 12) (h.2.2.2.1)) (l_c11 (fun w0 w1 w2 w3 w4 w5 w6 w7 w8 w9 w10 : Int => q_qry v w0 w1 w2 w3 w4 w5 w6 w7 w8 w9 w10) (l_e0 x (6)) (l_e1 x 6) (l_e1 x 7) (l_e1 x 8) (l_e1 x 9) (l_e1 x 10) (l_e1 x 11) (l_e1 x 12) (l_e1 x 0) (l_e0 x (0)) (l_e0 x (-1)) (h.2.2.2.2.1)) (l_c11 (fun w0 w1 w2 w3 w4 w5 w6 w7 w8 w9 w10 : Int => q_qry v w0 w1 w2 w3 w4 w5 w6 w7 w8 w9 w10) (l_e0 x (8)) (l_e1 x 6) (l_e1 x 7) (l_e1 x 8) (l_e1 x 9) (l_e1 x 10) (l_e1 x 11) (l_e1 x 12) (l_e1 x 0) (l_e0 x (0)) (l_e1 x 1) (h.2.2.2.2.2.1)) (l_cc (l_e1 x 0) (h.2.1.1)) (l_cc (l_q6 1 x 0 2) (h.2.1.2.1)) (l_cc (l_q1 6 x 2) (h.2.1.2.2.1))
    refine l_outH rfl (And.intro h.1 ?_)
    exact l_o12 (fun w0 w1 w2 w3 w4 w5 w6 w7 w8 w9 w10 w11 : Int => (0 ≤ w0 ∧ 0 ≤ w1 ∧ True) ∧ (q_qry v w2 w3 w4 w5 w6 w7 w8 w9 w10 w11 w0 ∧ True)) (l_e1 x 1) (l_q1 99 x 1) (l_e0 x (45)) (l_e1 x 6) (l_e1 x 7) (l_e1 x 8) (l_e1 x 9) (l_e1 x 10) (l_e1 x 11) (l_e1 x 12) (l_e1 x 0) (l_e0 x (0)) K
  | skip
    intro v x h
    have C0 : (0 : Int) ≤ x 0 := l_cc (a := y_ev x (0, [(0, 1)])) (l_e1 _ _) (h.2.1.1)
    have C1 : (0 : Int) ≤ x 2 - x 0 - 1 := l_cc (a := y_ev x ((-1), [(0, (-1)), (2, 1)])) (by show ((-1) : Int) + ((-1) * x 0 + ((1) * x 2 + 0)) = x 2 - x 0 - 1; omega) (h.2.1.2.1)
    have C2 : (0 : Int) ≤ 6 - x 2 := l_cc (a := y_ev x (6, [(2, (-1))])) (by show ((6) : Int) + ((-1) * x 2 + 0) = 6 - x 2; omega) (h.2.1.2.2.1)
    have E0 : y_ev x (0, [(2, 1)]) = x 2 := (l_e1 _ _)
    have E1 : y_ev x (0, [(3, 1)]) = x 3 := (l_e1 _ _)
    have E2 : y_ev x (0, [(4, 1)]) = x 4 := (l_e1 _ _)
    have E3 : y_ev x (0, [(5, 1)]) = x 5 := (l_e1 _ _)
    have E4 : y_ev x (0, [(6, 1)]) = x 6 := (l_e1 _ _)
    have E5 : y_ev x (0, [(7, 1)]) = x 7 := (l_e1 _ _)
    have E6 : y_ev x (0, [(8, 1)]) = x 8 := (l_e1 _ _)
    have E7 : y_ev x (0, [(9, 1)]) = x 9 := (l_e1 _ _)
    have E8 : y_ev x (0, [(10, 1)]) = x 10 := (l_e1 _ _)
    have E9 : y_ev x (0, [(11, 1)]) = x 11 := (l_e1 _ _)
    have E10 : y_ev x (0, [(12, 1)]) = x 12 := (l_e1 _ _)
    have E11 : y_ev x (6, []) = 6 := (l_e0 _ _)
    have E12 : y_ev x (0, [(0, 1)]) = x 0 := (l_e1 _ _)
    have E13 : y_ev x (0, []) = 0 := (l_e0 _ _)
    have E14 : y_ev x ((-1), []) = (-1) := (l_e0 _ _)
    have E15 : y_ev x (8, []) = 8 := (l_e0 _ _)
    have E16 : y_ev x (0, [(1, 1)]) = x 1 := (l_e1 _ _)
    have T0 : q_sto v 1 (y_ev x (0, [(2, 1)])) (y_ev x (0, [(3, 1)])) (y_ev x (0, [(4, 1)])) (y_ev x (0, [(5, 1)])) (y_ev x (0, [(6, 1)])) (y_ev x (0, [(7, 1)])) (y_ev x (0, [(8, 1)])) (y_ev x (0, [(9, 1)])) (y_ev x (0, [(10, 1)])) (y_ev x (0, [(11, 1)])) (y_ev x (0, [(12, 1)])) := h.2.2.2.1
    (try rw [E0] at T0); (try rw [E1] at T0); (try rw [E2] at T0); (try rw [E3] at T0); (try rw [E4] at T0); (try rw [E5] at T0); (try rw [E6] at T0); (try rw [E7] at T0); (try rw [E8] at T0); (try rw [E9] at T0); (try rw [E10] at T0)
    have T1 : q_qry v (y_ev x (6, [])) (y_ev x (0, [(6, 1)])) (y_ev x (0, [(7, 1)])) (y_ev x (0, [(8, 1)])) (y_ev x (0, [(9, 1)])) (y_ev x (0, [(10, 1)])) (y_ev x (0, [(11, 1)])) (y_ev x (0, [(12, 1)])) (y_ev x (0, [(0, 1)])) (y_ev x (0, [])) (y_ev x ((-1), [])) := h.2.2.2.2.1
    (try rw [E11] at T1); (try rw [E4] at T1); (try rw [E5] at T1); (try rw [E6] at T1); (try rw [E7] at T1); (try rw [E8] at T1); (try rw [E9] at T1); (try rw [E10] at T1); (try rw [E12] at T1); (try rw [E13] at T1); (try rw [E14] at T1)
    have T2 : q_qry v (y_ev x (8, [])) (y_ev x (0, [(6, 1)])) (y_ev x (0, [(7, 1)])) (y_ev x (0, [(8, 1)])) (y_ev x (0, [(9, 1)])) (y_ev x (0, [(10, 1)])) (y_ev x (0, [(11, 1)])) (y_ev x (0, [(12, 1)])) (y_ev x (0, [(0, 1)])) (y_ev x (0, [])) (y_ev x (0, [(1, 1)])) := h.2.2.2.2.2.1
    (try rw [E15] at T2); (try rw [E4] at T2); (try rw [E5] at T2); (try rw [E6] at T2); (try rw [E7] at T2); (try rw [E8] at T2); (try rw [E9] at T2); (try rw [E10] at T2); (try rw [E12] at T2); (try rw [E13] at T2); (try rw [E16] at T2)
    have K := k_hasNt (V := v) (h := x 0) (u := x 1) (H := x 2) (p := x 3) (y := x 4) (d := x 5) (q := x 6) (b := x 7) (s := x 8) (o := x 9) (a1 := x 10) (a2 := x 11) (a3 := x 12) T0 T1 T2 C0 C1 C2
    refine l_outH rfl (And.intro h.1 ?_)
    have O0 : y_ev x (0, [(1, 1)]) = x 1 := l_e1 _ _
    have O1 : y_ev x (99, [(1, (-1))]) = 99 - x 1 := by show ((99) : Int) + ((-1) * x 1 + 0) = _; omega
    have O2 : y_ev x (45, []) = 45 := l_e0 _ _
    have O3 : y_ev x (0, [(6, 1)]) = x 6 := l_e1 _ _
    have O4 : y_ev x (0, [(7, 1)]) = x 7 := l_e1 _ _
    have O5 : y_ev x (0, [(8, 1)]) = x 8 := l_e1 _ _
    have O6 : y_ev x (0, [(9, 1)]) = x 9 := l_e1 _ _
    have O7 : y_ev x (0, [(10, 1)]) = x 10 := l_e1 _ _
    have O8 : y_ev x (0, [(11, 1)]) = x 11 := l_e1 _ _
    have O9 : y_ev x (0, [(12, 1)]) = x 12 := l_e1 _ _
    have O10 : y_ev x (0, [(0, 1)]) = x 0 := l_e1 _ _
    have O11 : y_ev x (0, []) = 0 := l_e0 _ _
    show (0 ≤ y_ev x (0, [(1, 1)]) ∧ 0 ≤ y_ev x (99, [(1, (-1))]) ∧ True) ∧ (q_qry v (y_ev x (45, [])) (y_ev x (0, [(6, 1)])) (y_ev x (0, [(7, 1)])) (y_ev x (0, [(8, 1)])) (y_ev x (0, [(9, 1)])) (y_ev x (0, [(10, 1)])) (y_ev x (0, [(11, 1)])) (y_ev x (0, [(12, 1)])) (y_ev x (0, [(0, 1)])) (y_ev x (0, [])) (y_ev x (0, [(1, 1)])) ∧ True)
    (try rw [O0]); (try rw [O1]); (try rw [O2]); (try rw [O3]); (try rw [O4]); (try rw [O5]); (try rw [O6]); (try rw [O7]); (try rw [O8]); (try rw [O9]); (try rw [O10]); (try rw [O11])
    exact K
def lm_1116 : zLem := (([((-2147483648), 2147483647), ((-2147483648), 2147483647), ((-2147483648), 2147483647), ((-2147483648), 2147483647), ((-2147483648), 2147483647), ((-2147483648), 2147483647), ((-2147483648), 2147483647), ((-2147483648), 2147483647), ((-2147483648), 2147483647), ((-2147483648), 2147483647), ((-2147483648), 2147483647), ((-2147483648), 2147483647)], [(40, false)], [(0, [(0, 1)]), (0, [(0, (-1))])], [], [], [(0, (true, 0, 0, []), 0, 0, 0, [(0, 1)])], [(236, [(0, [(1, 1)]), (0, [(2, 1)]), (0, [(3, 1)]), (0, [(4, 1)]), (0, [(5, 1)]), (0, [(6, 1)]), (0, [(7, 1)]), (0, [(8, 1)]), (0, [(9, 1)]), (0, [(10, 1)]), (0, [(11, 1)])])]), [([((-2147483648), 2147483647), ((-2147483648), 2147483647), ((-2147483648), 2147483647), ((-2147483648), 2147483647), ((-2147483648), 2147483647), ((-2147483648), 2147483647), ((-2147483648), 2147483647), ((-2147483648), 2147483647), ((-2147483648), 2147483647), ((-2147483648), 2147483647), ((-2147483648), 2147483647), ((-2147483648), 2147483647)], [(40, false)], [], [], [], [], [(277, [(0, [(5, 1)]), (0, [(6, 1)]), (0, [(7, 1)]), (0, [(8, 1)]), (0, [(9, 1)]), (0, [(10, 1)]), (0, [(11, 1)]), (1, [])]), (238, [(46, []), (0, [(5, 1)]), (0, [(6, 1)]), (0, [(7, 1)]), (0, [(8, 1)]), (0, [(9, 1)]), (0, [(10, 1)]), (0, [(11, 1)]), (0, []), (0, []), (0, [])]), (104, [(1, []), (0, []), (1, [])])])])
theorem lk_1116 : l_core lm_1116 := by
  first
  | skip
    intro v x h
    have G0 := h.2.2.1
    have K := k_smp0t (V := v) (z := x 0) (H := x 1) (p := x 2) (y := x 3) (d := x 4) (q := x 5) (b := x 6) (s := x 7) (o := x 8) (a1 := x 9) (a2 := x 10) (a3 := x 11) (l_c11 (fun w0 w1 w2 w3 w4 w5 w6 w7 w8 w9 w10 : Int => q_sto v 1 w0 w1 w2 w3 w4 w5 w6 w7 w8 w9 w10) (l_e1 x 1) (l_e1 x 2) (l_e1 x 3) (l_e1 x 4) (l_e1 x 5) (l_e1 x 6) (l_e1 x 7) (l_e1 x 8) (l_e1 x 9) (l_e1 x 10) (l_e1 x 11) (h.2.2.2.1)) (l_cc (l_e1 x 0) (h.2.1.1)) (l_cc (l_q7 x 0) (h.2.1.2.1)) (l_ff (f := v 40) (L := j_len 40) (l_e0 x (0)) (l_e1 x 0) (G0.1.1))
    refine l_outH rfl (And.intro h.1 ?_)
    exact l_o10 (fun w0 w1 w2 w3 w4 w5 w6 w7 w8 w9 : Int => (True) ∧ (q_smp v w0 w1 w2 w3 w4 w5 w6 w7 ∧ q_qry v w8 w0 w1 w2 w3 w4 w5 w6 w9 w9 w9 ∧ ((mOP 104 (Int32.ofInt w7) (Int32.ofInt w9)).toInt = w7) ∧ True)) (l_e1 x 5) (l_e1 x 6) (l_e1 x 7) (l_e1 x 8) (l_e1 x 9) (l_e1 x 10) (l_e1 x 11) (l_e0 x (1)) (l_e0 x (46)) (l_e0 x (0)) K
  | skip
    intro v x h
    have G0 := h.2.2.1
    have C0 : (0 : Int) ≤ x 0 := l_cc (a := y_ev x (0, [(0, 1)])) (l_e1 _ _) (h.2.1.1)
    have C1 : (0 : Int) ≤ -x 0 := l_cc (a := y_ev x (0, [(0, (-1))])) (by show ((0) : Int) + ((-1) * x 0 + 0) = -x 0; omega) (h.2.1.2.1)
    have F0 : (0 : Int) ≤ 0 ∧ (0 : Int) < j_len 40 ∧ v 40 (0) = x 0 := l_ff (f := v 40) (L := j_len 40) (a := y_ev x (0, [])) (b := y_ev x (0, [(0, 1)])) (l_e0 _ _) (l_e1 _ _) (G0.1.1)
    have E0 : y_ev x (0, [(1, 1)]) = x 1 := (l_e1 _ _)
    have E1 : y_ev x (0, [(2, 1)]) = x 2 := (l_e1 _ _)
    have E2 : y_ev x (0, [(3, 1)]) = x 3 := (l_e1 _ _)
    have E3 : y_ev x (0, [(4, 1)]) = x 4 := (l_e1 _ _)
    have E4 : y_ev x (0, [(5, 1)]) = x 5 := (l_e1 _ _)
    have E5 : y_ev x (0, [(6, 1)]) = x 6 := (l_e1 _ _)
    have E6 : y_ev x (0, [(7, 1)]) = x 7 := (l_e1 _ _)
    have E7 : y_ev x (0, [(8, 1)]) = x 8 := (l_e1 _ _)
    have E8 : y_ev x (0, [(9, 1)]) = x 9 := (l_e1 _ _)
    have E9 : y_ev x (0, [(10, 1)]) = x 10 := (l_e1 _ _)
    have E10 : y_ev x (0, [(11, 1)]) = x 11 := (l_e1 _ _)
    have T0 : q_sto v 1 (y_ev x (0, [(1, 1)])) (y_ev x (0, [(2, 1)])) (y_ev x (0, [(3, 1)])) (y_ev x (0, [(4, 1)])) (y_ev x (0, [(5, 1)])) (y_ev x (0, [(6, 1)])) (y_ev x (0, [(7, 1)])) (y_ev x (0, [(8, 1)])) (y_ev x (0, [(9, 1)])) (y_ev x (0, [(10, 1)])) (y_ev x (0, [(11, 1)])) := h.2.2.2.1
    (try rw [E0] at T0); (try rw [E1] at T0); (try rw [E2] at T0); (try rw [E3] at T0); (try rw [E4] at T0); (try rw [E5] at T0); (try rw [E6] at T0); (try rw [E7] at T0); (try rw [E8] at T0); (try rw [E9] at T0); (try rw [E10] at T0)
    have K := k_smp0t (V := v) (z := x 0) (H := x 1) (p := x 2) (y := x 3) (d := x 4) (q := x 5) (b := x 6) (s := x 7) (o := x 8) (a1 := x 9) (a2 := x 10) (a3 := x 11) T0 C0 C1 F0
    refine l_outH rfl (And.intro h.1 ?_)
    have O0 : y_ev x (0, [(5, 1)]) = x 5 := l_e1 _ _
    have O1 : y_ev x (0, [(6, 1)]) = x 6 := l_e1 _ _
    have O2 : y_ev x (0, [(7, 1)]) = x 7 := l_e1 _ _
    have O3 : y_ev x (0, [(8, 1)]) = x 8 := l_e1 _ _
    have O4 : y_ev x (0, [(9, 1)]) = x 9 := l_e1 _ _
    have O5 : y_ev x (0, [(10, 1)]) = x 10 := l_e1 _ _
    have O6 : y_ev x (0, [(11, 1)]) = x 11 := l_e1 _ _
    have O7 : y_ev x (1, []) = 1 := l_e0 _ _
    have O8 : y_ev x (46, []) = 46 := l_e0 _ _
    have O9 : y_ev x (0, []) = 0 := l_e0 _ _
    show (True) ∧ (q_smp v (y_ev x (0, [(5, 1)])) (y_ev x (0, [(6, 1)])) (y_ev x (0, [(7, 1)])) (y_ev x (0, [(8, 1)])) (y_ev x (0, [(9, 1)])) (y_ev x (0, [(10, 1)])) (y_ev x (0, [(11, 1)])) (y_ev x (1, [])) ∧ q_qry v (y_ev x (46, [])) (y_ev x (0, [(5, 1)])) (y_ev x (0, [(6, 1)])) (y_ev x (0, [(7, 1)])) (y_ev x (0, [(8, 1)])) (y_ev x (0, [(9, 1)])) (y_ev x (0, [(10, 1)])) (y_ev x (0, [(11, 1)])) (y_ev x (0, [])) (y_ev x (0, [])) (y_ev x (0, [])) ∧ ((mOP 104 (Int32.ofInt (y_ev x (1, []))) (Int32.ofInt (y_ev x (0, [])))).toInt = (y_ev x (1, []))) ∧ True)
    (try rw [O0]); (try rw [O1]); (try rw [O2]); (try rw [O3]); (try rw [O4]); (try rw [O5]); (try rw [O6]); (try rw [O7]); (try rw [O8]); (try rw [O9])
    exact K
def lm_1117p : zS := ((lm_650pi_0 (lm_650pi_1 [])), [], [(0, [(0, 1), (2, (-1))]), (0, [(0, (-1)), (2, 1)])], [], [(0, 0, 0, [(0, 1)])], [], [(236, [(0, [(2, 1)]), (0, [(3, 1)]), (0, [(4, 1)]), (0, [(5, 1)]), (0, [(6, 1)]), (0, [(7, 1)]), (0, [(8, 1)]), (0, [(9, 1)]), (0, [(10, 1)]), (0, [(11, 1)]), (0, [(12, 1)])]), (238, [(46, []), (0, [(6, 1)]), (0, [(7, 1)]), (0, [(8, 1)]), (0, [(9, 1)]), (0, [(10, 1)]), (0, [(11, 1)]), (0, [(12, 1)]), (0, [(0, 1)]), (0, []), (0, [(1, 1)])])])
def lm_1117 : zLem := (lm_1117p, [([((-2147483648), 2147483647), ((-2147483648), 2147483647), ((-2147483648), 2147483647), ((-2147483648), 2147483647), ((-2147483648), 2147483647), ((-2147483648), 2147483647), ((-2147483648), 2147483647), ((-2147483648), 2147483647), ((-2147483648), 2147483647), ((-2147483648), 2147483647), ((-2147483648), 2147483647), ((-2147483648), 2147483647), ((-2147483648), 2147483647)], [], [], [], [], [], [(238, [(46, []), (0, [(6, 1)]), (0, [(7, 1)]), (0, [(8, 1)]), (0, [(9, 1)]), (0, [(10, 1)]), (0, [(11, 1)]), (0, [(12, 1)]), (6, []), (0, []), (0, [(1, 1)])])])])
theorem lk_1117 : l_core lm_1117 := by
  first
  | skip
    intro v x h
    have K := k_ablEt (V := v) (i := x 0) (a := x 1) (H := x 2) (p := x 3) (y := x 4) (d := x 5) (q := x 6) (b := x 7) (s := x 8) (o := x 9) (a1 := x 10) (a2 := x 11) (a3 := x 12) (l_c11 (fun w0 w1 w2 w3 w4 w5 w6 w7 w8 w9 w10 : Int => q_sto v 1 w0 w1 w2 w3 w4 w5 w6 w7 w8 w9 w10) (l_e1 x 2) (l_e1 x 3) (l_e1 x 4) (l_e1 x 5) (l_e1 x 6) (l_e1 x 7) (l_e1 x 8) (l_e1 x 9) (l_e1 x 10) (l_e1 x 11) (l_e1 x 12) (h.2.2.2.1)) (l_c11 (fun w0 w1 w2 w3 w4 w5 w6 w7 w8 w9 w10 : Int => q_qry v w0 w1 w2 w3 w4 w5 w6 w7 w8 w9 w10) (l_e0 x (46)) (l_e1 x 6) (l_e1 x 7) (l_e1 x 8) (l_e1 x 9) (l_e1 x 10) (l_e1 x 11) (l_e1 x 12) (l_e1 x 0) (l_e0 x (0)) (l_e1 x 1) (h.2.2.2.2.1)) (l_cc (l_q5 x 0 2) (h.2.1.1)) (l_cc (l_q4 x 0 2) (h.2.1.2.1))
    refine l_outH rfl (And.intro h.1 ?_)
    exact l_o11 (fun w0 w1 w2 w3 w4 w5 w6 w7 w8 w9 w10 : Int => (True) ∧ (q_qry v w0 w1 w2 w3 w4 w5 w6 w7 w8 w9 w10 ∧ True)) (l_e0 x (46)) (l_e1 x 6) (l_e1 x 7) (l_e1 x 8) (l_e1 x 9) (l_e1 x 10) (l_e1 x 11) (l_e1 x 12) (l_e0 x (6)) (l_e0 x (0)) (l_e1 x 1) K
  | skip
    intro v x h
    have C0 : (0 : Int) ≤ x 0 - x 2 := l_cc (a := y_ev x (0, [(0, 1), (2, (-1))])) (by show ((0) : Int) + ((1) * x 0 + ((-1) * x 2 + 0)) = x 0 - x 2; omega) (h.2.1.1)
    have C1 : (0 : Int) ≤ x 2 - x 0 := l_cc (a := y_ev x (0, [(0, (-1)), (2, 1)])) (by show ((0) : Int) + ((-1) * x 0 + ((1) * x 2 + 0)) = x 2 - x 0; omega) (h.2.1.2.1)
    have E0 : y_ev x (0, [(2, 1)]) = x 2 := (l_e1 _ _)
    have E1 : y_ev x (0, [(3, 1)]) = x 3 := (l_e1 _ _)
    have E2 : y_ev x (0, [(4, 1)]) = x 4 := (l_e1 _ _)
    have E3 : y_ev x (0, [(5, 1)]) = x 5 := (l_e1 _ _)
    have E4 : y_ev x (0, [(6, 1)]) = x 6 := (l_e1 _ _)
    have E5 : y_ev x (0, [(7, 1)]) = x 7 := (l_e1 _ _)
    have E6 : y_ev x (0, [(8, 1)]) = x 8 := (l_e1 _ _)
    have E7 : y_ev x (0, [(9, 1)]) = x 9 := (l_e1 _ _)
    have E8 : y_ev x (0, [(10, 1)]) = x 10 := (l_e1 _ _)
    have E9 : y_ev x (0, [(11, 1)]) = x 11 := (l_e1 _ _)
    have E10 : y_ev x (0, [(12, 1)]) = x 12 := (l_e1 _ _)
    have E11 : y_ev x (46, []) = 46 := (l_e0 _ _)
    have E12 : y_ev x (0, [(0, 1)]) = x 0 := (l_e1 _ _)
    have E13 : y_ev x (0, []) = 0 := (l_e0 _ _)
    have E14 : y_ev x (0, [(1, 1)]) = x 1 := (l_e1 _ _)
    have T0 : q_sto v 1 (y_ev x (0, [(2, 1)])) (y_ev x (0, [(3, 1)])) (y_ev x (0, [(4, 1)])) (y_ev x (0, [(5, 1)])) (y_ev x (0, [(6, 1)])) (y_ev x (0, [(7, 1)])) (y_ev x (0, [(8, 1)])) (y_ev x (0, [(9, 1)])) (y_ev x (0, [(10, 1)])) (y_ev x (0, [(11, 1)])) (y_ev x (0, [(12, 1)])) := h.2.2.2.1
    (try rw [E0] at T0); (try rw [E1] at T0); (try rw [E2] at T0); (try rw [E3] at T0); (try rw [E4] at T0); (try rw [E5] at T0); (try rw [E6] at T0); (try rw [E7] at T0); (try rw [E8] at T0); (try rw [E9] at T0); (try rw [E10] at T0)
    have T1 : q_qry v (y_ev x (46, [])) (y_ev x (0, [(6, 1)])) (y_ev x (0, [(7, 1)])) (y_ev x (0, [(8, 1)])) (y_ev x (0, [(9, 1)])) (y_ev x (0, [(10, 1)])) (y_ev x (0, [(11, 1)])) (y_ev x (0, [(12, 1)])) (y_ev x (0, [(0, 1)])) (y_ev x (0, [])) (y_ev x (0, [(1, 1)])) := h.2.2.2.2.1
    (try rw [E11] at T1); (try rw [E4] at T1); (try rw [E5] at T1); (try rw [E6] at T1); (try rw [E7] at T1); (try rw [E8] at T1); (try rw [E9] at T1); (try rw [E10] at T1); (try rw [E12] at T1); (try rw [E13] at T1); (try rw [E14] at T1)
    have K := k_ablEt (V := v) (i := x 0) (a := x 1) (H := x 2) (p := x 3) (y := x 4) (d := x 5) (q := x 6) (b := x 7) (s := x 8) (o := x 9) (a1 := x 10) (a2 := x 11) (a3 := x 12) T0 T1 C0 C1
    refine l_outH rfl (And.intro h.1 ?_)
    have O0 : y_ev x (46, []) = 46 := l_e0 _ _
    have O1 : y_ev x (0, [(6, 1)]) = x 6 := l_e1 _ _
    have O2 : y_ev x (0, [(7, 1)]) = x 7 := l_e1 _ _
    have O3 : y_ev x (0, [(8, 1)]) = x 8 := l_e1 _ _
    have O4 : y_ev x (0, [(9, 1)]) = x 9 := l_e1 _ _
    have O5 : y_ev x (0, [(10, 1)]) = x 10 := l_e1 _ _
    have O6 : y_ev x (0, [(11, 1)]) = x 11 := l_e1 _ _
    have O7 : y_ev x (0, [(12, 1)]) = x 12 := l_e1 _ _
    have O8 : y_ev x (6, []) = 6 := l_e0 _ _
    have O9 : y_ev x (0, []) = 0 := l_e0 _ _
    have O10 : y_ev x (0, [(1, 1)]) = x 1 := l_e1 _ _
    show (True) ∧ (q_qry v (y_ev x (46, [])) (y_ev x (0, [(6, 1)])) (y_ev x (0, [(7, 1)])) (y_ev x (0, [(8, 1)])) (y_ev x (0, [(9, 1)])) (y_ev x (0, [(10, 1)])) (y_ev x (0, [(11, 1)])) (y_ev x (0, [(12, 1)])) (y_ev x (6, [])) (y_ev x (0, [])) (y_ev x (0, [(1, 1)])) ∧ True)
    (try rw [O0]); (try rw [O1]); (try rw [O2]); (try rw [O3]); (try rw [O4]); (try rw [O5]); (try rw [O6]); (try rw [O7]); (try rw [O8]); (try rw [O9]); (try rw [O10])
    exact K
def lm_1118 : zLem := (([((-2147483648), 2147483647), ((-2147483648), 2147483647)], [], [(0, [(0, 1)]), (5, [(0, (-1))])], [], [(0, 0, 0, [(0, 1)]), (0, 0, 0, [(1, 1)])], [], [(104, [(1, []), (0, [(0, 1)]), (0, [(1, 1)])])]), [([((-2147483648), 2147483647), ((-2147483648), 2147483647)], [], [((-1), [(1, 1)]), (32, [(1, (-1))])], [], [], [], [])])
theorem lk_1118 : l_core lm_1118 := by
  first
  | skip
    intro v x h
    have K := k_p2r (V := v) (h := x 0) (n := x 1) (l_c3 (fun w0 w1 w2 : Int => (mOP 104 (Int32.ofInt w0) (Int32.ofInt w1)).toInt = w2) (l_e0 x (1)) (l_e1 x 0) (l_e1 x 1) (h.2.2.2.1)) (l_cc (l_e1 x 0) (h.2.1.1)) (l_cc (l_q1 5 x 0) (h.2.1.2.1))
    refine l_outH rfl (And.intro h.1 ?_)
    exact l_o2 (fun w0 w1 : Int => (0 ≤ w0 ∧ 0 ≤ w1 ∧ True) ∧ (True)) (l_q2 1 x 1) (l_q1 32 x 1) K
  | skip
    intro v x h
    have C0 : (0 : Int) ≤ x 0 := l_cc (a := y_ev x (0, [(0, 1)])) (l_e1 _ _) (h.2.1.1)
    have C1 : (0 : Int) ≤ 5 - x 0 := l_cc (a := y_ev x (5, [(0, (-1))])) (by show ((5) : Int) + ((-1) * x 0 + 0) = 5 - x 0; omega) (h.2.1.2.1)
    have E0 : y_ev x (1, []) = 1 := (l_e0 _ _)
    have E1 : y_ev x (0, [(0, 1)]) = x 0 := (l_e1 _ _)
    have E2 : y_ev x (0, [(1, 1)]) = x 1 := (l_e1 _ _)
    have T0 : (mOP 104 (Int32.ofInt (y_ev x (1, []))) (Int32.ofInt (y_ev x (0, [(0, 1)])))).toInt = (y_ev x (0, [(1, 1)])) := h.2.2.2.1
    (try rw [E0] at T0); (try rw [E1] at T0); (try rw [E2] at T0)
    have K := k_p2r (V := v) (h := x 0) (n := x 1) T0 C0 C1
    refine l_outH rfl (And.intro h.1 ?_)
    have O0 : y_ev x ((-1), [(1, 1)]) = x 1 - 1 := by show ((-1) : Int) + ((1) * x 1 + 0) = _; omega
    have O1 : y_ev x (32, [(1, (-1))]) = 32 - x 1 := by show ((32) : Int) + ((-1) * x 1 + 0) = _; omega
    show (0 ≤ y_ev x ((-1), [(1, 1)]) ∧ 0 ≤ y_ev x (32, [(1, (-1))]) ∧ True) ∧ (True)
    (try rw [O0]); (try rw [O1])
    exact K
def lm_1119 : zLem := (([((-2147483648), 2147483647), ((-2147483648), 2147483647)], [], [(0, [(0, 1)]), (5, [(0, (-1))])], [], [(0, 0, 0, [(0, 1)])], [], [(104, [(1, []), (0, [(0, 1)]), (0, [(1, 1)])])]), [([((-2147483648), 2147483647), ((-2147483648), 2147483647)], [], [], [], [], [], [(104, [(1, []), (1, [(0, 1)]), (0, [(1, 2)])])])])
theorem lk_1119 : l_core lm_1119 := by
  first
  | skip
    intro v x h
    have K := k_p2S (V := v) (h := x 0) (n := x 1) (l_c3 (fun w0 w1 w2 : Int => (mOP 104 (Int32.ofInt w0) (Int32.ofInt w1)).toInt = w2) (l_e0 x (1)) (l_e1 x 0) (l_e1 x 1) (h.2.2.2.1)) (l_cc (l_e1 x 0) (h.2.1.1)) (l_cc (l_q1 5 x 0) (h.2.1.2.1))
    refine l_outH rfl (And.intro h.1 ?_)
    exact l_o3 (fun w0 w1 w2 : Int => (True) ∧ (((mOP 104 (Int32.ofInt w0) (Int32.ofInt w1)).toInt = w2) ∧ True)) (l_e0 x (1)) (l_q3 1 x 0) (l_q16 2 x 1) K
  | skip
    intro v x h
    have C0 : (0 : Int) ≤ x 0 := l_cc (a := y_ev x (0, [(0, 1)])) (l_e1 _ _) (h.2.1.1)
    have C1 : (0 : Int) ≤ 5 - x 0 := l_cc (a := y_ev x (5, [(0, (-1))])) (by show ((5) : Int) + ((-1) * x 0 + 0) = 5 - x 0; omega) (h.2.1.2.1)
    have E0 : y_ev x (1, []) = 1 := (l_e0 _ _)
    have E1 : y_ev x (0, [(0, 1)]) = x 0 := (l_e1 _ _)
    have E2 : y_ev x (0, [(1, 1)]) = x 1 := (l_e1 _ _)
    have T0 : (mOP 104 (Int32.ofInt (y_ev x (1, []))) (Int32.ofInt (y_ev x (0, [(0, 1)])))).toInt = (y_ev x (0, [(1, 1)])) := h.2.2.2.1
    (try rw [E0] at T0); (try rw [E1] at T0); (try rw [E2] at T0)
    have K := k_p2S (V := v) (h := x 0) (n := x 1) T0 C0 C1
    refine l_outH rfl (And.intro h.1 ?_)
    have O0 : y_ev x (1, []) = 1 := l_e0 _ _
    have O1 : y_ev x (1, [(0, 1)]) = x 0 + 1 := by show ((1) : Int) + ((1) * x 0 + 0) = _; omega
    have O2 : y_ev x (0, [(1, 2)]) = 2 * x 1 := by show ((0) : Int) + ((2) * x 1 + 0) = _; omega
    show (True) ∧ (((mOP 104 (Int32.ofInt (y_ev x (1, []))) (Int32.ofInt (y_ev x (1, [(0, 1)])))).toInt = (y_ev x (0, [(1, 2)]))) ∧ True)
    (try rw [O0]); (try rw [O1]); (try rw [O2])
    exact K
def lm_1120pg_0 (t : List zTg) : List zTg := (102, [(0, [(1, 1)]), (0, [(2, 1)]), (0, [(3, 1)])]) :: (104, [(1, []), (0, [(0, 1)]), (0, [(2, 1)])]) :: (238, [(45, []), (0, [(5, 1)]), (0, [(6, 1)]), (0, [(7, 1)]), (0, [(8, 1)]), (0, [(9, 1)]), (0, [(10, 1)]), (0, [(11, 1)]), (0, [(0, 1)]), (0, []), (0, [(4, 1)])]) :: (238, [(46, []), (0, [(5, 1)]), (0, [(6, 1)]), (0, [(7, 1)]), (0, [(8, 1)]), (0, [(9, 1)]), (0, [(10, 1)]), (0, [(11, 1)]), (0, [(0, 1)]), (0, []), (0, [(1, 1)])]) :: t
def lm_1120p : zS := ((lm_660pi_0 (lm_660pi_1 [])), [], [(0, [(0, 1)]), (5, [(0, (-1))]), ((-1), [(4, 1)])], [], [(0, 0, 0, [(0, 1)]), (0, 0, 0, [(3, 1)])], [], (lm_1120pg_0 []))
def lm_1120 : zLem := (lm_1120p, [([((-2147483648), 2147483647), ((-2147483648), 2147483647), ((-2147483648), 2147483647), ((-2147483648), 2147483647), ((-2147483648), 2147483647), ((-2147483648), 2147483647), ((-2147483648), 2147483647), ((-2147483648), 2147483647), ((-2147483648), 2147483647), ((-2147483648), 2147483647), ((-2147483648), 2147483647), ((-2147483648), 2147483647)], [], [(0, [(3, 1)]), (63, [(3, (-1))])], [], [], [], [(238, [(46, []), (0, [(5, 1)]), (0, [(6, 1)]), (0, [(7, 1)]), (0, [(8, 1)]), (0, [(9, 1)]), (0, [(10, 1)]), (0, [(11, 1)]), (1, [(0, 1)]), (0, []), (0, [(3, 1)])])])])
theorem lk_1120 : l_core lm_1120 := by
  first
  | skip
    intro v x h
    have K := k_ablY (V := v) (i := x 0) (a := x 1) (n := x 2) (u := x 3) (x := x 4) (q := x 5) (b := x 6) (s := x 7) (o := x 8) (a1 := x 9) (a2 := x 10) (a3 := x 11) (l_c3 (fun w0 w1 w2 : Int => (mOP 102 (Int32.ofInt w0) (Int32.ofInt w1)).toInt = w2) (l_e1 x 1) (l_e1 x 2) (l_e1 x 3) (h.2.2.2.1)) (l_c3 (fun w0 w1 w2 : Int => (mOP 104 (Int32.ofInt w0) (Int32.ofInt w1)).toInt = w2) (l_e0 x (1)) (l_e1 x 0) (l_e1 x 2) (h.2.2.2.2.1)) (l_c11 (fun w0 w1 w2 w3 w4 w5 w6 w7 w8 w9 w10 : Int => q_qry v w0 w1 w2 w3 w4 w5 w6 w7 w8 w9 w10) (l_e0 x (45)) (l_e1 x 5) (l_e1 x 6) (l_e1 x 7) (l_e1 x 8) (l_e1 x 9) (l_e1 x 10) (l_e1 x 11) (l_e1 x 0) (l_e0 x (0)) (l_e1 x 4) (h.2.2.2.2.2.1)) (l_c11 (fun w0 w1 w2 w3 w4 w5 w6 w7 w8 w9 w10 : Int => q_qry v w0 w1 w2 w3 w4 w5 w6 w7 w8 w9 w10) (l_e0 x (46)) (l_e1 x 5) (l_e1 x 6) (l_e1 x 7) (l_e1 x 8) (l_e1 x 9) (l_e1 x 10) (l_e1 x 11) (l_e1 x 0) (l_e0 x (0)) (l_e1 x 1) (h.2.2.2.2.2.2.1)) (l_cc (l_e1 x 0) (h.2.1.1)) (l_cc (l_q1 5 x 0) (h.2.1.2.1)) (l_cc (l_q2 1 x 4) (h.2.1.2.2.1))
    refine l_outH rfl (And.intro h.1 ?_)
    exact l_o12 (fun w0 w1 w2 w3 w4 w5 w6 w7 w8 w9 w10 w11 : Int => (0 ≤ w0 ∧ 0 ≤ w1 ∧ True) ∧ (q_qry v w2 w3 w4 w5 w6 w7 w8 w9 w10 w11 w0 ∧ True)) (l_e1 x 3) (l_q1 63 x 3) (l_e0 x (46)) (l_e1 x 5) (l_e1 x 6) (l_e1 x 7) (l_e1 x 8) (l_e1 x 9) (l_e1 x 10) (l_e1 x 11) (l_q3 1 x 0) (l_e0 x (0)) K
  | skip
    intro v x h
    have C0 : (0 : Int) ≤ x 0 := l_cc (a := y_ev x (0, [(0, 1)])) (l_e1 _ _) (h.2.1.1)
    have C1 : (0 : Int) ≤ 5 - x 0 := l_cc (a := y_ev x (5, [(0, (-1))])) (by show ((5) : Int) + ((-1) * x 0 + 0) = 5 - x 0; omega) (h.2.1.2.1)
    have C2 : (0 : Int) ≤ x 4 - 1 := l_cc (a := y_ev x ((-1), [(4, 1)])) (by show ((-1) : Int) + ((1) * x 4 + 0) = x 4 - 1; omega) (h.2.1.2.2.1)
    have E0 : y_ev x (0, [(1, 1)]) = x 1 := (l_e1 _ _)
    have E1 : y_ev x (0, [(2, 1)]) = x 2 := (l_e1 _ _)
    have E2 : y_ev x (0, [(3, 1)]) = x 3 := (l_e1 _ _)
    have E3 : y_ev x (1, []) = 1 := (l_e0 _ _)
    have E4 : y_ev x (0, [(0, 1)]) = x 0 := (l_e1 _ _)
    have E5 : y_ev x (45, []) = 45 := (l_e0 _ _)
    have E6 : y_ev x (0, [(5, 1)]) = x 5 := (l_e1 _ _)
    have E7 : y_ev x (0, [(6, 1)]) = x 6 := (l_e1 _ _)
    have E8 : y_ev x (0, [(7, 1)]) = x 7 := (l_e1 _ _)
    have E9 : y_ev x (0, [(8, 1)]) = x 8 := (l_e1 _ _)
    have E10 : y_ev x (0, [(9, 1)]) = x 9 := (l_e1 _ _)
    have E11 : y_ev x (0, [(10, 1)]) = x 10 := (l_e1 _ _)
    have E12 : y_ev x (0, [(11, 1)]) = x 11 := (l_e1 _ _)
    have E13 : y_ev x (0, []) = 0 := (l_e0 _ _)
    have E14 : y_ev x (0, [(4, 1)]) = x 4 := (l_e1 _ _)
    have E15 : y_ev x (46, []) = 46 := (l_e0 _ _)
    have T0 : (mOP 102 (Int32.ofInt (y_ev x (0, [(1, 1)]))) (Int32.ofInt (y_ev x (0, [(2, 1)])))).toInt = (y_ev x (0, [(3, 1)])) := h.2.2.2.1
    (try rw [E0] at T0); (try rw [E1] at T0); (try rw [E2] at T0)
    have T1 : (mOP 104 (Int32.ofInt (y_ev x (1, []))) (Int32.ofInt (y_ev x (0, [(0, 1)])))).toInt = (y_ev x (0, [(2, 1)])) := h.2.2.2.2.1
    (try rw [E3] at T1); (try rw [E4] at T1); (try rw [E1] at T1)
    have T2 : q_qry v (y_ev x (45, [])) (y_ev x (0, [(5, 1)])) (y_ev x (0, [(6, 1)])) (y_ev x (0, [(7, 1)])) (y_ev x (0, [(8, 1)])) (y_ev x (0, [(9, 1)])) (y_ev x (0, [(10, 1)])) (y_ev x (0, [(11, 1)])) (y_ev x (0, [(0, 1)])) (y_ev x (0, [])) (y_ev x (0, [(4, 1)])) := h.2.2.2.2.2.1
    (try rw [E5] at T2); (try rw [E6] at T2); (try rw [E7] at T2); (try rw [E8] at T2); (try rw [E9] at T2); (try rw [E10] at T2); (try rw [E11] at T2); (try rw [E12] at T2); (try rw [E4] at T2); (try rw [E13] at T2); (try rw [E14] at T2)
    have T3 : q_qry v (y_ev x (46, [])) (y_ev x (0, [(5, 1)])) (y_ev x (0, [(6, 1)])) (y_ev x (0, [(7, 1)])) (y_ev x (0, [(8, 1)])) (y_ev x (0, [(9, 1)])) (y_ev x (0, [(10, 1)])) (y_ev x (0, [(11, 1)])) (y_ev x (0, [(0, 1)])) (y_ev x (0, [])) (y_ev x (0, [(1, 1)])) := h.2.2.2.2.2.2.1
    (try rw [E15] at T3); (try rw [E6] at T3); (try rw [E7] at T3); (try rw [E8] at T3); (try rw [E9] at T3); (try rw [E10] at T3); (try rw [E11] at T3); (try rw [E12] at T3); (try rw [E4] at T3); (try rw [E13] at T3); (try rw [E0] at T3)
    have K := k_ablY (V := v) (i := x 0) (a := x 1) (n := x 2) (u := x 3) (x := x 4) (q := x 5) (b := x 6) (s := x 7) (o := x 8) (a1 := x 9) (a2 := x 10) (a3 := x 11) T0 T1 T2 T3 C0 C1 C2
    refine l_outH rfl (And.intro h.1 ?_)
    have O0 : y_ev x (0, [(3, 1)]) = x 3 := l_e1 _ _
    have O1 : y_ev x (63, [(3, (-1))]) = 63 - x 3 := by show ((63) : Int) + ((-1) * x 3 + 0) = _; omega
    have O2 : y_ev x (46, []) = 46 := l_e0 _ _
    have O3 : y_ev x (0, [(5, 1)]) = x 5 := l_e1 _ _
    have O4 : y_ev x (0, [(6, 1)]) = x 6 := l_e1 _ _
    have O5 : y_ev x (0, [(7, 1)]) = x 7 := l_e1 _ _
    have O6 : y_ev x (0, [(8, 1)]) = x 8 := l_e1 _ _
    have O7 : y_ev x (0, [(9, 1)]) = x 9 := l_e1 _ _
    have O8 : y_ev x (0, [(10, 1)]) = x 10 := l_e1 _ _
    have O9 : y_ev x (0, [(11, 1)]) = x 11 := l_e1 _ _
    have O10 : y_ev x (1, [(0, 1)]) = x 0 + 1 := by show ((1) : Int) + ((1) * x 0 + 0) = _; omega
    have O11 : y_ev x (0, []) = 0 := l_e0 _ _
    show (0 ≤ y_ev x (0, [(3, 1)]) ∧ 0 ≤ y_ev x (63, [(3, (-1))]) ∧ True) ∧ (q_qry v (y_ev x (46, [])) (y_ev x (0, [(5, 1)])) (y_ev x (0, [(6, 1)])) (y_ev x (0, [(7, 1)])) (y_ev x (0, [(8, 1)])) (y_ev x (0, [(9, 1)])) (y_ev x (0, [(10, 1)])) (y_ev x (0, [(11, 1)])) (y_ev x (1, [(0, 1)])) (y_ev x (0, [])) (y_ev x (0, [(3, 1)])) ∧ True)
    (try rw [O0]); (try rw [O1]); (try rw [O2]); (try rw [O3]); (try rw [O4]); (try rw [O5]); (try rw [O6]); (try rw [O7]); (try rw [O8]); (try rw [O9]); (try rw [O10]); (try rw [O11])
    exact K
def lm_1121p : zS := ((lm_416pi_0 (lm_416pi_1 [])), [], [(0, [(0, 1)]), (5, [(0, (-1))]), (0, [(3, (-1))])], [], [(0, 0, 0, [(0, 1)]), (0, 0, 0, [(2, 1)])], [], [(102, [(0, [(1, 1)]), (0, []), (0, [(2, 1)])]), (238, [(45, []), (0, [(4, 1)]), (0, [(5, 1)]), (0, [(6, 1)]), (0, [(7, 1)]), (0, [(8, 1)]), (0, [(9, 1)]), (0, [(10, 1)]), (0, [(0, 1)]), (0, []), (0, [(3, 1)])]), (238, [(46, []), (0, [(4, 1)]), (0, [(5, 1)]), (0, [(6, 1)]), (0, [(7, 1)]), (0, [(8, 1)]), (0, [(9, 1)]), (0, [(10, 1)]), (0, [(0, 1)]), (0, []), (0, [(1, 1)])])])
def lm_1121 : zLem := (lm_1121p, [([((-2147483648), 2147483647), ((-2147483648), 2147483647), ((-2147483648), 2147483647), ((-2147483648), 2147483647), ((-2147483648), 2147483647), ((-2147483648), 2147483647), ((-2147483648), 2147483647), ((-2147483648), 2147483647), ((-2147483648), 2147483647), ((-2147483648), 2147483647), ((-2147483648), 2147483647)], [], [(0, [(2, 1)]), (63, [(2, (-1))])], [], [], [], [(238, [(46, []), (0, [(4, 1)]), (0, [(5, 1)]), (0, [(6, 1)]), (0, [(7, 1)]), (0, [(8, 1)]), (0, [(9, 1)]), (0, [(10, 1)]), (1, [(0, 1)]), (0, []), (0, [(2, 1)])])])])
theorem lk_1121 : l_core lm_1121 := by
  first
  | skip
    intro v x h
    have K := k_ablN (V := v) (i := x 0) (a := x 1) (u := x 2) (x := x 3) (q := x 4) (b := x 5) (s := x 6) (o := x 7) (a1 := x 8) (a2 := x 9) (a3 := x 10) (l_c3 (fun w0 w1 w2 : Int => (mOP 102 (Int32.ofInt w0) (Int32.ofInt w1)).toInt = w2) (l_e1 x 1) (l_e0 x (0)) (l_e1 x 2) (h.2.2.2.1)) (l_c11 (fun w0 w1 w2 w3 w4 w5 w6 w7 w8 w9 w10 : Int => q_qry v w0 w1 w2 w3 w4 w5 w6 w7 w8 w9 w10) (l_e0 x (45)) (l_e1 x 4) (l_e1 x 5) (l_e1 x 6) (l_e1 x 7) (l_e1 x 8) (l_e1 x 9) (l_e1 x 10) (l_e1 x 0) (l_e0 x (0)) (l_e1 x 3) (h.2.2.2.2.1)) (l_c11 (fun w0 w1 w2 w3 w4 w5 w6 w7 w8 w9 w10 : Int => q_qry v w0 w1 w2 w3 w4 w5 w6 w7 w8 w9 w10) (l_e0 x (46)) (l_e1 x 4) (l_e1 x 5) (l_e1 x 6) (l_e1 x 7) (l_e1 x 8) (l_e1 x 9) (l_e1 x 10) (l_e1 x 0) (l_e0 x (0)) (l_e1 x 1) (h.2.2.2.2.2.1)) (l_cc (l_e1 x 0) (h.2.1.1)) (l_cc (l_q1 5 x 0) (h.2.1.2.1)) (l_cc (l_q7 x 3) (h.2.1.2.2.1))
    refine l_outH rfl (And.intro h.1 ?_)
    exact l_o12 (fun w0 w1 w2 w3 w4 w5 w6 w7 w8 w9 w10 w11 : Int => (0 ≤ w0 ∧ 0 ≤ w1 ∧ True) ∧ (q_qry v w2 w3 w4 w5 w6 w7 w8 w9 w10 w11 w0 ∧ True)) (l_e1 x 2) (l_q1 63 x 2) (l_e0 x (46)) (l_e1 x 4) (l_e1 x 5) (l_e1 x 6) (l_e1 x 7) (l_e1 x 8) (l_e1 x 9) (l_e1 x 10) (l_q3 1 x 0) (l_e0 x (0)) K
  | skip
    intro v x h
    have C0 : (0 : Int) ≤ x 0 := l_cc (a := y_ev x (0, [(0, 1)])) (l_e1 _ _) (h.2.1.1)
    have C1 : (0 : Int) ≤ 5 - x 0 := l_cc (a := y_ev x (5, [(0, (-1))])) (by show ((5) : Int) + ((-1) * x 0 + 0) = 5 - x 0; omega) (h.2.1.2.1)
    have C2 : (0 : Int) ≤ -x 3 := l_cc (a := y_ev x (0, [(3, (-1))])) (by show ((0) : Int) + ((-1) * x 3 + 0) = -x 3; omega) (h.2.1.2.2.1)
    have E0 : y_ev x (0, [(1, 1)]) = x 1 := (l_e1 _ _)
    have E1 : y_ev x (0, []) = 0 := (l_e0 _ _)
    have E2 : y_ev x (0, [(2, 1)]) = x 2 := (l_e1 _ _)
    have E3 : y_ev x (45, []) = 45 := (l_e0 _ _)
    have E4 : y_ev x (0, [(4, 1)]) = x 4 := (l_e1 _ _)
    have E5 : y_ev x (0, [(5, 1)]) = x 5 := (l_e1 _ _)
    have E6 : y_ev x (0, [(6, 1)]) = x 6 := (l_e1 _ _)
    have E7 : y_ev x (0, [(7, 1)]) = x 7 := (l_e1 _ _)
    have E8 : y_ev x (0, [(8, 1)]) = x 8 := (l_e1 _ _)
    have E9 : y_ev x (0, [(9, 1)]) = x 9 := (l_e1 _ _)
    have E10 : y_ev x (0, [(10, 1)]) = x 10 := (l_e1 _ _)
    have E11 : y_ev x (0, [(0, 1)]) = x 0 := (l_e1 _ _)
    have E12 : y_ev x (0, [(3, 1)]) = x 3 := (l_e1 _ _)
    have E13 : y_ev x (46, []) = 46 := (l_e0 _ _)
    have T0 : (mOP 102 (Int32.ofInt (y_ev x (0, [(1, 1)]))) (Int32.ofInt (y_ev x (0, [])))).toInt = (y_ev x (0, [(2, 1)])) := h.2.2.2.1
    (try rw [E0] at T0); (try rw [E1] at T0); (try rw [E2] at T0)
    have T1 : q_qry v (y_ev x (45, [])) (y_ev x (0, [(4, 1)])) (y_ev x (0, [(5, 1)])) (y_ev x (0, [(6, 1)])) (y_ev x (0, [(7, 1)])) (y_ev x (0, [(8, 1)])) (y_ev x (0, [(9, 1)])) (y_ev x (0, [(10, 1)])) (y_ev x (0, [(0, 1)])) (y_ev x (0, [])) (y_ev x (0, [(3, 1)])) := h.2.2.2.2.1
    (try rw [E3] at T1); (try rw [E4] at T1); (try rw [E5] at T1); (try rw [E6] at T1); (try rw [E7] at T1); (try rw [E8] at T1); (try rw [E9] at T1); (try rw [E10] at T1); (try rw [E11] at T1); (try rw [E1] at T1); (try rw [E12] at T1)
    have T2 : q_qry v (y_ev x (46, [])) (y_ev x (0, [(4, 1)])) (y_ev x (0, [(5, 1)])) (y_ev x (0, [(6, 1)])) (y_ev x (0, [(7, 1)])) (y_ev x (0, [(8, 1)])) (y_ev x (0, [(9, 1)])) (y_ev x (0, [(10, 1)])) (y_ev x (0, [(0, 1)])) (y_ev x (0, [])) (y_ev x (0, [(1, 1)])) := h.2.2.2.2.2.1
    (try rw [E13] at T2); (try rw [E4] at T2); (try rw [E5] at T2); (try rw [E6] at T2); (try rw [E7] at T2); (try rw [E8] at T2); (try rw [E9] at T2); (try rw [E10] at T2); (try rw [E11] at T2); (try rw [E1] at T2); (try rw [E0] at T2)
    have K := k_ablN (V := v) (i := x 0) (a := x 1) (u := x 2) (x := x 3) (q := x 4) (b := x 5) (s := x 6) (o := x 7) (a1 := x 8) (a2 := x 9) (a3 := x 10) T0 T1 T2 C0 C1 C2
    refine l_outH rfl (And.intro h.1 ?_)
    have O0 : y_ev x (0, [(2, 1)]) = x 2 := l_e1 _ _
    have O1 : y_ev x (63, [(2, (-1))]) = 63 - x 2 := by show ((63) : Int) + ((-1) * x 2 + 0) = _; omega
    have O2 : y_ev x (46, []) = 46 := l_e0 _ _
    have O3 : y_ev x (0, [(4, 1)]) = x 4 := l_e1 _ _
    have O4 : y_ev x (0, [(5, 1)]) = x 5 := l_e1 _ _
    have O5 : y_ev x (0, [(6, 1)]) = x 6 := l_e1 _ _
    have O6 : y_ev x (0, [(7, 1)]) = x 7 := l_e1 _ _
    have O7 : y_ev x (0, [(8, 1)]) = x 8 := l_e1 _ _
    have O8 : y_ev x (0, [(9, 1)]) = x 9 := l_e1 _ _
    have O9 : y_ev x (0, [(10, 1)]) = x 10 := l_e1 _ _
    have O10 : y_ev x (1, [(0, 1)]) = x 0 + 1 := by show ((1) : Int) + ((1) * x 0 + 0) = _; omega
    have O11 : y_ev x (0, []) = 0 := l_e0 _ _
    show (0 ≤ y_ev x (0, [(2, 1)]) ∧ 0 ≤ y_ev x (63, [(2, (-1))]) ∧ True) ∧ (q_qry v (y_ev x (46, [])) (y_ev x (0, [(4, 1)])) (y_ev x (0, [(5, 1)])) (y_ev x (0, [(6, 1)])) (y_ev x (0, [(7, 1)])) (y_ev x (0, [(8, 1)])) (y_ev x (0, [(9, 1)])) (y_ev x (0, [(10, 1)])) (y_ev x (1, [(0, 1)])) (y_ev x (0, [])) (y_ev x (0, [(2, 1)])) ∧ True)
    (try rw [O0]); (try rw [O1]); (try rw [O2]); (try rw [O3]); (try rw [O4]); (try rw [O5]); (try rw [O6]); (try rw [O7]); (try rw [O8]); (try rw [O9]); (try rw [O10]); (try rw [O11])
    exact K
def lm_1122 : zLem := (([((-2147483648), 2147483647), ((-2147483648), 2147483647), ((-2147483648), 2147483647), ((-2147483648), 2147483647)], [], [(0, [(0, 1)]), (5, [(0, (-1))]), (0, [(1, 1)]), ((-1), [(1, (-1)), (2, 1)])], [], [(0, 0, 0, [(1, 1)]), (0, 0, 0, [(3, 1)])], [], [(102, [(0, [(1, 1)]), (0, [(2, 1)]), (0, [(3, 1)])]), (104, [(1, []), (0, [(0, 1)]), (0, [(2, 1)])])]), [([((-2147483648), 2147483647), ((-2147483648), 2147483647), ((-2147483648), 2147483647), ((-2147483648), 2147483647)], [], [(0, [(1, (-1)), (2, (-1)), (3, 1)]), (0, [(1, 1), (2, 1), (3, (-1))]), (63, [(3, (-1))]), ((-1), [(3, 1)])], [], [], [], [])])
theorem lk_1122 : l_core lm_1122 := by
  first
  | skip
    intro v x h
    have K := k_orx (V := v) (h := x 0) (s := x 1) (n := x 2) (u := x 3) (l_c3 (fun w0 w1 w2 : Int => (mOP 102 (Int32.ofInt w0) (Int32.ofInt w1)).toInt = w2) (l_e1 x 1) (l_e1 x 2) (l_e1 x 3) (h.2.2.2.1)) (l_c3 (fun w0 w1 w2 : Int => (mOP 104 (Int32.ofInt w0) (Int32.ofInt w1)).toInt = w2) (l_e0 x (1)) (l_e1 x 0) (l_e1 x 2) (h.2.2.2.2.1)) (l_cc (l_e1 x 0) (h.2.1.1)) (l_cc (l_q1 5 x 0) (h.2.1.2.1)) (l_cc (l_e1 x 1) (h.2.1.2.2.1)) (l_cc (l_q6 1 x 1 2) (h.2.1.2.2.2.1))
    refine l_outH rfl (And.intro h.1 ?_)
    exact l_o4 (fun w0 w1 w2 w3 : Int => (0 ≤ w0 ∧ 0 ≤ w1 ∧ 0 ≤ w2 ∧ 0 ≤ w3 ∧ True) ∧ (True)) (show y_ev x (0, [(1, (-1)), (2, (-1)), (3, 1)]) = x 3 - x 1 - x 2 by show ((0) : Int) + ((-1) * x 1 + ((-1) * x 2 + ((1) * x 3 + 0))) = _; omega) (show y_ev x (0, [(1, 1), (2, 1), (3, (-1))]) = x 1 + x 2 - x 3 by show ((0) : Int) + ((1) * x 1 + ((1) * x 2 + ((-1) * x 3 + 0))) = _; omega) (l_q1 63 x 3) (l_q2 1 x 3) K
  | skip
    intro v x h
    have C0 : (0 : Int) ≤ x 0 := l_cc (a := y_ev x (0, [(0, 1)])) (l_e1 _ _) (h.2.1.1)
    have C1 : (0 : Int) ≤ 5 - x 0 := l_cc (a := y_ev x (5, [(0, (-1))])) (by show ((5) : Int) + ((-1) * x 0 + 0) = 5 - x 0; omega) (h.2.1.2.1)
    have C2 : (0 : Int) ≤ x 1 := l_cc (a := y_ev x (0, [(1, 1)])) (l_e1 _ _) (h.2.1.2.2.1)
    have C3 : (0 : Int) ≤ x 2 - x 1 - 1 := l_cc (a := y_ev x ((-1), [(1, (-1)), (2, 1)])) (by show ((-1) : Int) + ((-1) * x 1 + ((1) * x 2 + 0)) = x 2 - x 1 - 1; omega) (h.2.1.2.2.2.1)
    have E0 : y_ev x (0, [(1, 1)]) = x 1 := (l_e1 _ _)
    have E1 : y_ev x (0, [(2, 1)]) = x 2 := (l_e1 _ _)
    have E2 : y_ev x (0, [(3, 1)]) = x 3 := (l_e1 _ _)
    have E3 : y_ev x (1, []) = 1 := (l_e0 _ _)
    have E4 : y_ev x (0, [(0, 1)]) = x 0 := (l_e1 _ _)
    have T0 : (mOP 102 (Int32.ofInt (y_ev x (0, [(1, 1)]))) (Int32.ofInt (y_ev x (0, [(2, 1)])))).toInt = (y_ev x (0, [(3, 1)])) := h.2.2.2.1
    (try rw [E0] at T0); (try rw [E1] at T0); (try rw [E2] at T0)
    have T1 : (mOP 104 (Int32.ofInt (y_ev x (1, []))) (Int32.ofInt (y_ev x (0, [(0, 1)])))).toInt = (y_ev x (0, [(2, 1)])) := h.2.2.2.2.1
    (try rw [E3] at T1); (try rw [E4] at T1); (try rw [E1] at T1)
    have K := k_orx (V := v) (h := x 0) (s := x 1) (n := x 2) (u := x 3) T0 T1 C0 C1 C2 C3
    refine l_outH rfl (And.intro h.1 ?_)
    have O0 : y_ev x (0, [(1, (-1)), (2, (-1)), (3, 1)]) = x 3 - x 1 - x 2 := by show ((0) : Int) + ((-1) * x 1 + ((-1) * x 2 + ((1) * x 3 + 0))) = _; omega
    have O1 : y_ev x (0, [(1, 1), (2, 1), (3, (-1))]) = x 1 + x 2 - x 3 := by show ((0) : Int) + ((1) * x 1 + ((1) * x 2 + ((-1) * x 3 + 0))) = _; omega
    have O2 : y_ev x (63, [(3, (-1))]) = 63 - x 3 := by show ((63) : Int) + ((-1) * x 3 + 0) = _; omega
    have O3 : y_ev x ((-1), [(3, 1)]) = x 3 - 1 := by show ((-1) : Int) + ((1) * x 3 + 0) = _; omega
    show (0 ≤ y_ev x (0, [(1, (-1)), (2, (-1)), (3, 1)]) ∧ 0 ≤ y_ev x (0, [(1, 1), (2, 1), (3, (-1))]) ∧ 0 ≤ y_ev x (63, [(3, (-1))]) ∧ 0 ≤ y_ev x ((-1), [(3, 1)]) ∧ True) ∧ (True)
    (try rw [O0]); (try rw [O1]); (try rw [O2]); (try rw [O3])
    exact K
def lm_1123 : zLem := (([((-2147483648), 2147483647), ((-2147483648), 2147483647), ((-2147483648), 2147483647)], [], [(0, [(0, 1)]), (31, [(0, (-1))]), ((-1), [(1, 1)]), (32, [(1, (-1))])], [], [(0, 0, 0, [(0, 1)]), (0, 0, 0, [(2, 1)])], [], [(102, [(0, [(0, 1)]), (0, [(1, 1)]), (0, [(2, 1)])])]), [([((-2147483648), 2147483647), ((-2147483648), 2147483647), ((-2147483648), 2147483647)], [], [((-1), [(2, 1)])], [], [], [], [])])
theorem lk_1123 : l_core lm_1123 := by
  first
  | skip
    intro v x h
    have K := k_or1 (V := v) (s := x 0) (n := x 1) (u := x 2) (l_c3 (fun w0 w1 w2 : Int => (mOP 102 (Int32.ofInt w0) (Int32.ofInt w1)).toInt = w2) (l_e1 x 0) (l_e1 x 1) (l_e1 x 2) (h.2.2.2.1)) (l_cc (l_e1 x 0) (h.2.1.1)) (l_cc (l_q1 31 x 0) (h.2.1.2.1)) (l_cc (l_q2 1 x 1) (h.2.1.2.2.1)) (l_cc (l_q1 32 x 1) (h.2.1.2.2.2.1))
    refine l_outH rfl (And.intro h.1 ?_)
    exact l_o1 (fun w0 : Int => (0 ≤ w0 ∧ True) ∧ (True)) (l_q2 1 x 2) K
  | skip
    intro v x h
    have C0 : (0 : Int) ≤ x 0 := l_cc (a := y_ev x (0, [(0, 1)])) (l_e1 _ _) (h.2.1.1)
    have C1 : (0 : Int) ≤ 31 - x 0 := l_cc (a := y_ev x (31, [(0, (-1))])) (by show ((31) : Int) + ((-1) * x 0 + 0) = 31 - x 0; omega) (h.2.1.2.1)
    have C2 : (0 : Int) ≤ x 1 - 1 := l_cc (a := y_ev x ((-1), [(1, 1)])) (by show ((-1) : Int) + ((1) * x 1 + 0) = x 1 - 1; omega) (h.2.1.2.2.1)
    have C3 : (0 : Int) ≤ 32 - x 1 := l_cc (a := y_ev x (32, [(1, (-1))])) (by show ((32) : Int) + ((-1) * x 1 + 0) = 32 - x 1; omega) (h.2.1.2.2.2.1)
    have E0 : y_ev x (0, [(0, 1)]) = x 0 := (l_e1 _ _)
    have E1 : y_ev x (0, [(1, 1)]) = x 1 := (l_e1 _ _)
    have E2 : y_ev x (0, [(2, 1)]) = x 2 := (l_e1 _ _)
    have T0 : (mOP 102 (Int32.ofInt (y_ev x (0, [(0, 1)]))) (Int32.ofInt (y_ev x (0, [(1, 1)])))).toInt = (y_ev x (0, [(2, 1)])) := h.2.2.2.1
    (try rw [E0] at T0); (try rw [E1] at T0); (try rw [E2] at T0)
    have K := k_or1 (V := v) (s := x 0) (n := x 1) (u := x 2) T0 C0 C1 C2 C3
    refine l_outH rfl (And.intro h.1 ?_)
    have O0 : y_ev x ((-1), [(2, 1)]) = x 2 - 1 := by show ((-1) : Int) + ((1) * x 2 + 0) = _; omega
    show (0 ≤ y_ev x ((-1), [(2, 1)]) ∧ True) ∧ (True)
    (try rw [O0])
    exact K
def lm_1124 : zLem := (([((-2147483648), 2147483647), ((-2147483648), 2147483647), ((-2147483648), 2147483647), ((-2147483648), 2147483647), ((-2147483648), 2147483647), ((-2147483648), 2147483647), ((-2147483648), 2147483647), ((-2147483648), 2147483647), ((-2147483648), 2147483647), ((-2147483648), 2147483647)], [(40, false)], [(0, [(0, 1)]), ((-1), [(0, (-1)), (1, 1)]), (64, [(1, (-1))])], [], [(0, 0, 0, [(0, 1)]), (0, 0, 0, [(2, 1)])], [(0, (true, 0, 0, [(0, 1)]), 0, 0, 0, [(2, 1)])], [(277, [(0, [(3, 1)]), (0, [(4, 1)]), (0, [(5, 1)]), (0, [(6, 1)]), (0, [(7, 1)]), (0, [(8, 1)]), (0, [(9, 1)]), (0, [(1, 1)])])]), [([((-2147483648), 2147483647), ((-2147483648), 2147483647), ((-2147483648), 2147483647), ((-2147483648), 2147483647), ((-2147483648), 2147483647), ((-2147483648), 2147483647), ((-2147483648), 2147483647), ((-2147483648), 2147483647), ((-2147483648), 2147483647), ((-2147483648), 2147483647)], [(40, false)], [(0, [(2, 1)]), (594, [(2, (-1))])], [], [], [], [(238, [(47, []), (0, [(3, 1)]), (0, [(4, 1)]), (0, [(5, 1)]), (0, [(6, 1)]), (0, [(7, 1)]), (0, [(8, 1)]), (0, [(9, 1)]), (0, [(0, 1)]), (6, []), (0, [(2, 1)])])])])
theorem lk_1124 : l_core lm_1124 := by
  first
  | skip
    intro v x h
    have G0 := h.2.2.1
    have K := k_smpR (V := v) (k := x 0) (n := x 1) (v := x 2) (q := x 3) (b := x 4) (s := x 5) (o := x 6) (a1 := x 7) (a2 := x 8) (a3 := x 9) (l_c8 (fun w0 w1 w2 w3 w4 w5 w6 w7 : Int => q_smp v w0 w1 w2 w3 w4 w5 w6 w7) (l_e1 x 3) (l_e1 x 4) (l_e1 x 5) (l_e1 x 6) (l_e1 x 7) (l_e1 x 8) (l_e1 x 9) (l_e1 x 1) (h.2.2.2.1)) (l_cc (l_e1 x 0) (h.2.1.1)) (l_cc (l_q6 1 x 0 1) (h.2.1.2.1)) (l_cc (l_q1 64 x 1) (h.2.1.2.2.1)) (l_ff (f := v 40) (L := j_len 40) (l_e1 x 0) (l_e1 x 2) (G0.1.1))
    refine l_outH rfl (And.intro h.1 ?_)
    exact l_o12 (fun w0 w1 w2 w3 w4 w5 w6 w7 w8 w9 w10 w11 : Int => (0 ≤ w0 ∧ 0 ≤ w1 ∧ True) ∧ (q_qry v w2 w3 w4 w5 w6 w7 w8 w9 w10 w11 w0 ∧ True)) (l_e1 x 2) (l_q1 594 x 2) (l_e0 x (47)) (l_e1 x 3) (l_e1 x 4) (l_e1 x 5) (l_e1 x 6) (l_e1 x 7) (l_e1 x 8) (l_e1 x 9) (l_e1 x 0) (l_e0 x (6)) K
  | skip
    intro v x h
    have G0 := h.2.2.1
    have C0 : (0 : Int) ≤ x 0 := l_cc (a := y_ev x (0, [(0, 1)])) (l_e1 _ _) (h.2.1.1)
    have C1 : (0 : Int) ≤ x 1 - x 0 - 1 := l_cc (a := y_ev x ((-1), [(0, (-1)), (1, 1)])) (by show ((-1) : Int) + ((-1) * x 0 + ((1) * x 1 + 0)) = x 1 - x 0 - 1; omega) (h.2.1.2.1)
    have C2 : (0 : Int) ≤ 64 - x 1 := l_cc (a := y_ev x (64, [(1, (-1))])) (by show ((64) : Int) + ((-1) * x 1 + 0) = 64 - x 1; omega) (h.2.1.2.2.1)
    have F0 : (0 : Int) ≤ x 0 ∧ (x 0 : Int) < j_len 40 ∧ v 40 (x 0) = x 2 := l_ff (f := v 40) (L := j_len 40) (a := y_ev x (0, [(0, 1)])) (b := y_ev x (0, [(2, 1)])) (l_e1 _ _) (l_e1 _ _) (G0.1.1)
    have E0 : y_ev x (0, [(3, 1)]) = x 3 := (l_e1 _ _)
    have E1 : y_ev x (0, [(4, 1)]) = x 4 := (l_e1 _ _)
    have E2 : y_ev x (0, [(5, 1)]) = x 5 := (l_e1 _ _)
    have E3 : y_ev x (0, [(6, 1)]) = x 6 := (l_e1 _ _)
    have E4 : y_ev x (0, [(7, 1)]) = x 7 := (l_e1 _ _)
    have E5 : y_ev x (0, [(8, 1)]) = x 8 := (l_e1 _ _)
    have E6 : y_ev x (0, [(9, 1)]) = x 9 := (l_e1 _ _)
    have E7 : y_ev x (0, [(1, 1)]) = x 1 := (l_e1 _ _)
    have T0 : q_smp v (y_ev x (0, [(3, 1)])) (y_ev x (0, [(4, 1)])) (y_ev x (0, [(5, 1)])) (y_ev x (0, [(6, 1)])) (y_ev x (0, [(7, 1)])) (y_ev x (0, [(8, 1)])) (y_ev x (0, [(9, 1)])) (y_ev x (0, [(1, 1)])) := h.2.2.2.1
    (try rw [E0] at T0); (try rw [E1] at T0); (try rw [E2] at T0); (try rw [E3] at T0); (try rw [E4] at T0); (try rw [E5] at T0); (try rw [E6] at T0); (try rw [E7] at T0)
    have K := k_smpR (V := v) (k := x 0) (n := x 1) (v := x 2) (q := x 3) (b := x 4) (s := x 5) (o := x 6) (a1 := x 7) (a2 := x 8) (a3 := x 9) T0 C0 C1 C2 F0
    refine l_outH rfl (And.intro h.1 ?_)
    have O0 : y_ev x (0, [(2, 1)]) = x 2 := l_e1 _ _
    have O1 : y_ev x (594, [(2, (-1))]) = 594 - x 2 := by show ((594) : Int) + ((-1) * x 2 + 0) = _; omega
    have O2 : y_ev x (47, []) = 47 := l_e0 _ _
    have O3 : y_ev x (0, [(3, 1)]) = x 3 := l_e1 _ _
    have O4 : y_ev x (0, [(4, 1)]) = x 4 := l_e1 _ _
    have O5 : y_ev x (0, [(5, 1)]) = x 5 := l_e1 _ _
    have O6 : y_ev x (0, [(6, 1)]) = x 6 := l_e1 _ _
    have O7 : y_ev x (0, [(7, 1)]) = x 7 := l_e1 _ _
    have O8 : y_ev x (0, [(8, 1)]) = x 8 := l_e1 _ _
    have O9 : y_ev x (0, [(9, 1)]) = x 9 := l_e1 _ _
    have O10 : y_ev x (0, [(0, 1)]) = x 0 := l_e1 _ _
    have O11 : y_ev x (6, []) = 6 := l_e0 _ _
    show (0 ≤ y_ev x (0, [(2, 1)]) ∧ 0 ≤ y_ev x (594, [(2, (-1))]) ∧ True) ∧ (q_qry v (y_ev x (47, [])) (y_ev x (0, [(3, 1)])) (y_ev x (0, [(4, 1)])) (y_ev x (0, [(5, 1)])) (y_ev x (0, [(6, 1)])) (y_ev x (0, [(7, 1)])) (y_ev x (0, [(8, 1)])) (y_ev x (0, [(9, 1)])) (y_ev x (0, [(0, 1)])) (y_ev x (6, [])) (y_ev x (0, [(2, 1)])) ∧ True)
    (try rw [O0]); (try rw [O1]); (try rw [O2]); (try rw [O3]); (try rw [O4]); (try rw [O5]); (try rw [O6]); (try rw [O7]); (try rw [O8]); (try rw [O9]); (try rw [O10]); (try rw [O11])
    exact K
def lm_1125pg_0 (t : List zTg) : List zTg := (104, [(1, []), (0, [(0, 1)]), (0, [(2, 1)])]) :: (277, [(0, [(5, 1)]), (0, [(6, 1)]), (0, [(7, 1)]), (0, [(8, 1)]), (0, [(9, 1)]), (0, [(10, 1)]), (0, [(11, 1)]), (0, [(1, 1), (2, 1)])]) :: (238, [(47, []), (0, [(5, 1)]), (0, [(6, 1)]), (0, [(7, 1)]), (0, [(8, 1)]), (0, [(9, 1)]), (0, [(10, 1)]), (0, [(11, 1)]), (0, [(1, 1)]), (6, []), (0, [(3, 1)])]) :: (238, [(45, []), (0, [(5, 1)]), (0, [(6, 1)]), (0, [(7, 1)]), (0, [(8, 1)]), (0, [(9, 1)]), (0, [(10, 1)]), (0, [(11, 1)]), (0, [(0, 1)]), (0, []), (0, [(4, 1)])]) :: t
def lm_1125p : zS := ((lm_660pi_0 (lm_660pi_1 [])), [(40, false)], [(0, [(0, 1)]), (5, [(0, (-1))]), (0, [(1, 1)]), ((-1), [(1, (-1)), (2, 1)])], [], [(0, 0, 0, [(1, 1)])], [(0, (true, 0, 0, [(1, 1), (2, 1)]), 0, 0, 0, [(3, 1), (4, 1)])], (lm_1125pg_0 []))
def lm_1125 : zLem := (lm_1125p, [([((-2147483648), 2147483647), ((-2147483648), 2147483647), ((-2147483648), 2147483647), ((-2147483648), 2147483647), ((-2147483648), 2147483647), ((-2147483648), 2147483647), ((-2147483648), 2147483647), ((-2147483648), 2147483647), ((-2147483648), 2147483647), ((-2147483648), 2147483647), ((-2147483648), 2147483647), ((-2147483648), 2147483647)], [(40, false)], [], [], [], [], [(277, [(0, [(5, 1)]), (0, [(6, 1)]), (0, [(7, 1)]), (0, [(8, 1)]), (0, [(9, 1)]), (0, [(10, 1)]), (0, [(11, 1)]), (1, [(1, 1), (2, 1)])])])])
theorem lk_1125 : l_core lm_1125 := by
  first
  | skip
    intro v x h
    have G0 := h.2.2.1
    have K := k_smpS (V := v) (h := x 0) (k := x 1) (n := x 2) (x := x 3) (g := x 4) (q := x 5) (b := x 6) (s := x 7) (o := x 8) (a1 := x 9) (a2 := x 10) (a3 := x 11) (l_c3 (fun w0 w1 w2 : Int => (mOP 104 (Int32.ofInt w0) (Int32.ofInt w1)).toInt = w2) (l_e0 x (1)) (l_e1 x 0) (l_e1 x 2) (h.2.2.2.1)) (l_c8 (fun w0 w1 w2 w3 w4 w5 w6 w7 : Int => q_smp v w0 w1 w2 w3 w4 w5 w6 w7) (l_e1 x 5) (l_e1 x 6) (l_e1 x 7) (l_e1 x 8) (l_e1 x 9) (l_e1 x 10) (l_e1 x 11) (l_q12 x 1 2) (h.2.2.2.2.1)) (l_c11 (fun w0 w1 w2 w3 w4 w5 w6 w7 w8 w9 w10 : Int => q_qry v w0 w1 w2 w3 w4 w5 w6 w7 w8 w9 w10) (l_e0 x (47)) (l_e1 x 5) (l_e1 x 6) (l_e1 x 7) (l_e1 x 8) (l_e1 x 9) (l_e1 x 10) (l_e1 x 11) (l_e1 x 1) (l_e0 x (6)) (l_e1 x 3) (h.2.2.2.2.2.1)) (l_c11 (fun w0 w1 w2 w3 w4 w5 w6 w7 w8 w9 w10 : Int => q_qry v w0 w1 w2 w3 w4 w5 w6 w7 w8 w9 w10) (l_e0 x (45)) (l_e1 x 5) (l_e1 x 6) (l_e1 x 7) (l_e1 x 8) (l_e1 x 9) (l_e1 x 10) (l_e1 x 11) (l_e1 x 0) (l_e0 x (0)) (l_e1 x 4) (h.2.2.2.2.2.2.1)) (l_cc (l_e1 x 0) (h.2.1.1)) (l_cc (l_q1 5 x 0) (h.2.1.2.1)) (l_cc (l_e1 x 1) (h.2.1.2.2.1)) (l_cc (l_q6 1 x 1 2) (h.2.1.2.2.2.1)) (l_ff (f := v 40) (L := j_len 40) (l_q12 x 1 2) (l_q12 x 3 4) (G0.1.1))
    refine l_outH rfl (And.intro h.1 ?_)
    exact l_o8 (fun w0 w1 w2 w3 w4 w5 w6 w7 : Int => (True) ∧ (q_smp v w0 w1 w2 w3 w4 w5 w6 w7 ∧ True)) (l_e1 x 5) (l_e1 x 6) (l_e1 x 7) (l_e1 x 8) (l_e1 x 9) (l_e1 x 10) (l_e1 x 11) (show y_ev x (1, [(1, 1), (2, 1)]) = x 1 + x 2 + 1 by show ((1) : Int) + ((1) * x 1 + ((1) * x 2 + 0)) = _; omega) K
  | skip
    intro v x h
    have G0 := h.2.2.1
    have C0 : (0 : Int) ≤ x 0 := l_cc (a := y_ev x (0, [(0, 1)])) (l_e1 _ _) (h.2.1.1)
    have C1 : (0 : Int) ≤ 5 - x 0 := l_cc (a := y_ev x (5, [(0, (-1))])) (by show ((5) : Int) + ((-1) * x 0 + 0) = 5 - x 0; omega) (h.2.1.2.1)
    have C2 : (0 : Int) ≤ x 1 := l_cc (a := y_ev x (0, [(1, 1)])) (l_e1 _ _) (h.2.1.2.2.1)
    have C3 : (0 : Int) ≤ x 2 - x 1 - 1 := l_cc (a := y_ev x ((-1), [(1, (-1)), (2, 1)])) (by show ((-1) : Int) + ((-1) * x 1 + ((1) * x 2 + 0)) = x 2 - x 1 - 1; omega) (h.2.1.2.2.2.1)
    have F0 : (0 : Int) ≤ x 1 + x 2 ∧ (x 1 + x 2 : Int) < j_len 40 ∧ v 40 (x 1 + x 2) = x 3 + x 4 := l_ff (f := v 40) (L := j_len 40) (a := y_ev x (0, [(1, 1), (2, 1)])) (b := y_ev x (0, [(3, 1), (4, 1)])) (by show ((0) : Int) + ((1) * x 1 + ((1) * x 2 + 0)) = x 1 + x 2; omega) (by show ((0) : Int) + ((1) * x 3 + ((1) * x 4 + 0)) = x 3 + x 4; omega) (G0.1.1)
    have E0 : y_ev x (1, []) = 1 := (l_e0 _ _)
    have E1 : y_ev x (0, [(0, 1)]) = x 0 := (l_e1 _ _)
    have E2 : y_ev x (0, [(2, 1)]) = x 2 := (l_e1 _ _)
    have E3 : y_ev x (0, [(5, 1)]) = x 5 := (l_e1 _ _)
    have E4 : y_ev x (0, [(6, 1)]) = x 6 := (l_e1 _ _)
    have E5 : y_ev x (0, [(7, 1)]) = x 7 := (l_e1 _ _)
    have E6 : y_ev x (0, [(8, 1)]) = x 8 := (l_e1 _ _)
    have E7 : y_ev x (0, [(9, 1)]) = x 9 := (l_e1 _ _)
    have E8 : y_ev x (0, [(10, 1)]) = x 10 := (l_e1 _ _)
    have E9 : y_ev x (0, [(11, 1)]) = x 11 := (l_e1 _ _)
    have E10 : y_ev x (0, [(1, 1), (2, 1)]) = x 1 + x 2 := (by show ((0) : Int) + ((1) * x 1 + ((1) * x 2 + 0)) = x 1 + x 2; omega)
    have E11 : y_ev x (47, []) = 47 := (l_e0 _ _)
    have E12 : y_ev x (0, [(1, 1)]) = x 1 := (l_e1 _ _)
    have E13 : y_ev x (6, []) = 6 := (l_e0 _ _)
    have E14 : y_ev x (0, [(3, 1)]) = x 3 := (l_e1 _ _)
    have E15 : y_ev x (45, []) = 45 := (l_e0 _ _)
    have E16 : y_ev x (0, []) = 0 := (l_e0 _ _)
    have E17 : y_ev x (0, [(4, 1)]) = x 4 := (l_e1 _ _)
    have T0 : (mOP 104 (Int32.ofInt (y_ev x (1, []))) (Int32.ofInt (y_ev x (0, [(0, 1)])))).toInt = (y_ev x (0, [(2, 1)])) := h.2.2.2.1
    (try rw [E0] at T0); (try rw [E1] at T0); (try rw [E2] at T0)
    have T1 : q_smp v (y_ev x (0, [(5, 1)])) (y_ev x (0, [(6, 1)])) (y_ev x (0, [(7, 1)])) (y_ev x (0, [(8, 1)])) (y_ev x (0, [(9, 1)])) (y_ev x (0, [(10, 1)])) (y_ev x (0, [(11, 1)])) (y_ev x (0, [(1, 1), (2, 1)])) := h.2.2.2.2.1
    (try rw [E3] at T1); (try rw [E4] at T1); (try rw [E5] at T1); (try rw [E6] at T1); (try rw [E7] at T1); (try rw [E8] at T1); (try rw [E9] at T1); (try rw [E10] at T1)
    have T2 : q_qry v (y_ev x (47, [])) (y_ev x (0, [(5, 1)])) (y_ev x (0, [(6, 1)])) (y_ev x (0, [(7, 1)])) (y_ev x (0, [(8, 1)])) (y_ev x (0, [(9, 1)])) (y_ev x (0, [(10, 1)])) (y_ev x (0, [(11, 1)])) (y_ev x (0, [(1, 1)])) (y_ev x (6, [])) (y_ev x (0, [(3, 1)])) := h.2.2.2.2.2.1
    (try rw [E11] at T2); (try rw [E3] at T2); (try rw [E4] at T2); (try rw [E5] at T2); (try rw [E6] at T2); (try rw [E7] at T2); (try rw [E8] at T2); (try rw [E9] at T2); (try rw [E12] at T2); (try rw [E13] at T2); (try rw [E14] at T2)
    have T3 : q_qry v (y_ev x (45, [])) (y_ev x (0, [(5, 1)])) (y_ev x (0, [(6, 1)])) (y_ev x (0, [(7, 1)])) (y_ev x (0, [(8, 1)])) (y_ev x (0, [(9, 1)])) (y_ev x (0, [(10, 1)])) (y_ev x (0, [(11, 1)])) (y_ev x (0, [(0, 1)])) (y_ev x (0, [])) (y_ev x (0, [(4, 1)])) := h.2.2.2.2.2.2.1
    (try rw [E15] at T3); (try rw [E3] at T3); (try rw [E4] at T3); (try rw [E5] at T3); (try rw [E6] at T3); (try rw [E7] at T3); (try rw [E8] at T3); (try rw [E9] at T3); (try rw [E1] at T3); (try rw [E16] at T3); (try rw [E17] at T3)
    have K := k_smpS (V := v) (h := x 0) (k := x 1) (n := x 2) (x := x 3) (g := x 4) (q := x 5) (b := x 6) (s := x 7) (o := x 8) (a1 := x 9) (a2 := x 10) (a3 := x 11) T0 T1 T2 T3 C0 C1 C2 C3 F0
    refine l_outH rfl (And.intro h.1 ?_)
    have O0 : y_ev x (0, [(5, 1)]) = x 5 := l_e1 _ _
    have O1 : y_ev x (0, [(6, 1)]) = x 6 := l_e1 _ _
    have O2 : y_ev x (0, [(7, 1)]) = x 7 := l_e1 _ _
    have O3 : y_ev x (0, [(8, 1)]) = x 8 := l_e1 _ _
    have O4 : y_ev x (0, [(9, 1)]) = x 9 := l_e1 _ _
    have O5 : y_ev x (0, [(10, 1)]) = x 10 := l_e1 _ _
    have O6 : y_ev x (0, [(11, 1)]) = x 11 := l_e1 _ _
    have O7 : y_ev x (1, [(1, 1), (2, 1)]) = x 1 + x 2 + 1 := by show ((1) : Int) + ((1) * x 1 + ((1) * x 2 + 0)) = _; omega
    show (True) ∧ (q_smp v (y_ev x (0, [(5, 1)])) (y_ev x (0, [(6, 1)])) (y_ev x (0, [(7, 1)])) (y_ev x (0, [(8, 1)])) (y_ev x (0, [(9, 1)])) (y_ev x (0, [(10, 1)])) (y_ev x (0, [(11, 1)])) (y_ev x (1, [(1, 1), (2, 1)])) ∧ True)
    (try rw [O0]); (try rw [O1]); (try rw [O2]); (try rw [O3]); (try rw [O4]); (try rw [O5]); (try rw [O6]); (try rw [O7])
    exact K
def lm_1126 : zLem := (([((-2147483648), 2147483647), ((-2147483648), 2147483647), ((-2147483648), 2147483647), ((-2147483648), 2147483647), ((-2147483648), 2147483647), ((-2147483648), 2147483647), ((-2147483648), 2147483647), ((-2147483648), 2147483647), ((-2147483648), 2147483647), ((-2147483648), 2147483647)], [], [(0, [(0, 1)]), (6, [(0, (-1))])], [], [], [], [(238, [(46, []), (0, [(3, 1)]), (0, [(4, 1)]), (0, [(5, 1)]), (0, [(6, 1)]), (0, [(7, 1)]), (0, [(8, 1)]), (0, [(9, 1)]), (0, [(0, 1)]), (0, []), (0, [(1, 1)])]), (104, [(1, []), (0, [(0, 1)]), (0, [(2, 1)])])]), [([((-2147483648), 2147483647), ((-2147483648), 2147483647), ((-2147483648), 2147483647), ((-2147483648), 2147483647), ((-2147483648), 2147483647), ((-2147483648), 2147483647), ((-2147483648), 2147483647), ((-2147483648), 2147483647), ((-2147483648), 2147483647), ((-2147483648), 2147483647)], [], [(0, [(1, 1)]), ((-1), [(1, (-1)), (2, 1)])], [], [], [], [])])
theorem lk_1126 : l_core lm_1126 := by
  first
  | skip
    intro v x h
    have K := k_ablR (V := v) (i := x 0) (a := x 1) (n := x 2) (q := x 3) (b := x 4) (s := x 5) (o := x 6) (a1 := x 7) (a2 := x 8) (a3 := x 9) (l_c11 (fun w0 w1 w2 w3 w4 w5 w6 w7 w8 w9 w10 : Int => q_qry v w0 w1 w2 w3 w4 w5 w6 w7 w8 w9 w10) (l_e0 x (46)) (l_e1 x 3) (l_e1 x 4) (l_e1 x 5) (l_e1 x 6) (l_e1 x 7) (l_e1 x 8) (l_e1 x 9) (l_e1 x 0) (l_e0 x (0)) (l_e1 x 1) (h.2.2.2.1)) (l_c3 (fun w0 w1 w2 : Int => (mOP 104 (Int32.ofInt w0) (Int32.ofInt w1)).toInt = w2) (l_e0 x (1)) (l_e1 x 0) (l_e1 x 2) (h.2.2.2.2.1)) (l_cc (l_e1 x 0) (h.2.1.1)) (l_cc (l_q1 6 x 0) (h.2.1.2.1))
    refine l_outH rfl (And.intro h.1 ?_)
    exact l_o2 (fun w0 w1 : Int => (0 ≤ w0 ∧ 0 ≤ w1 ∧ True) ∧ (True)) (l_e1 x 1) (l_q6 1 x 1 2) K
  | skip
    intro v x h
    have C0 : (0 : Int) ≤ x 0 := l_cc (a := y_ev x (0, [(0, 1)])) (l_e1 _ _) (h.2.1.1)
    have C1 : (0 : Int) ≤ 6 - x 0 := l_cc (a := y_ev x (6, [(0, (-1))])) (by show ((6) : Int) + ((-1) * x 0 + 0) = 6 - x 0; omega) (h.2.1.2.1)
    have E0 : y_ev x (46, []) = 46 := (l_e0 _ _)
    have E1 : y_ev x (0, [(3, 1)]) = x 3 := (l_e1 _ _)
    have E2 : y_ev x (0, [(4, 1)]) = x 4 := (l_e1 _ _)
    have E3 : y_ev x (0, [(5, 1)]) = x 5 := (l_e1 _ _)
    have E4 : y_ev x (0, [(6, 1)]) = x 6 := (l_e1 _ _)
    have E5 : y_ev x (0, [(7, 1)]) = x 7 := (l_e1 _ _)
    have E6 : y_ev x (0, [(8, 1)]) = x 8 := (l_e1 _ _)
    have E7 : y_ev x (0, [(9, 1)]) = x 9 := (l_e1 _ _)
    have E8 : y_ev x (0, [(0, 1)]) = x 0 := (l_e1 _ _)
    have E9 : y_ev x (0, []) = 0 := (l_e0 _ _)
    have E10 : y_ev x (0, [(1, 1)]) = x 1 := (l_e1 _ _)
    have E11 : y_ev x (1, []) = 1 := (l_e0 _ _)
    have E12 : y_ev x (0, [(2, 1)]) = x 2 := (l_e1 _ _)
    have T0 : q_qry v (y_ev x (46, [])) (y_ev x (0, [(3, 1)])) (y_ev x (0, [(4, 1)])) (y_ev x (0, [(5, 1)])) (y_ev x (0, [(6, 1)])) (y_ev x (0, [(7, 1)])) (y_ev x (0, [(8, 1)])) (y_ev x (0, [(9, 1)])) (y_ev x (0, [(0, 1)])) (y_ev x (0, [])) (y_ev x (0, [(1, 1)])) := h.2.2.2.1
    (try rw [E0] at T0); (try rw [E1] at T0); (try rw [E2] at T0); (try rw [E3] at T0); (try rw [E4] at T0); (try rw [E5] at T0); (try rw [E6] at T0); (try rw [E7] at T0); (try rw [E8] at T0); (try rw [E9] at T0); (try rw [E10] at T0)
    have T1 : (mOP 104 (Int32.ofInt (y_ev x (1, []))) (Int32.ofInt (y_ev x (0, [(0, 1)])))).toInt = (y_ev x (0, [(2, 1)])) := h.2.2.2.2.1
    (try rw [E11] at T1); (try rw [E8] at T1); (try rw [E12] at T1)
    have K := k_ablR (V := v) (i := x 0) (a := x 1) (n := x 2) (q := x 3) (b := x 4) (s := x 5) (o := x 6) (a1 := x 7) (a2 := x 8) (a3 := x 9) T0 T1 C0 C1
    refine l_outH rfl (And.intro h.1 ?_)
    have O0 : y_ev x (0, [(1, 1)]) = x 1 := l_e1 _ _
    have O1 : y_ev x ((-1), [(1, (-1)), (2, 1)]) = x 2 - x 1 - 1 := by show ((-1) : Int) + ((-1) * x 1 + ((1) * x 2 + 0)) = _; omega
    show (0 ≤ y_ev x (0, [(1, 1)]) ∧ 0 ≤ y_ev x ((-1), [(1, (-1)), (2, 1)]) ∧ True) ∧ (True)
    (try rw [O0]); (try rw [O1])
    exact K
end
