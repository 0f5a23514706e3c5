noncomputable section
/-! ===== the lemmas as data, by program ===== -/
set_option maxRecDepth 100000
def lm_840 : zLem := (([((-2147483648), 2147483647), ((-2147483648), 2147483647), ((-2147483648), 2147483647), ((-2147483648), 2147483647), ((-2147483648), 2147483647), ((-2147483648), 2147483647), ((-2147483648), 2147483647), ((-2147483648), 2147483647), ((-2147483648), 2147483647), ((-2147483648), 2147483647), ((-2147483648), 2147483647)], [], [((-100), [(2, 1)]), ((-99), [(3, 1)]), (99, [(3, (-1))])], [], [(0, 0, 0, [(3, 1)])], [], [(238, [(13, []), (0, [(4, 1)]), (0, [(5, 1)]), (0, [(6, 1)]), (0, [(7, 1)]), (0, [(8, 1)]), (0, [(9, 1)]), (0, [(10, 1)]), (0, [(0, 1)]), (0, [(1, 1)]), (0, [(2, 1)])])]), [([((-2147483648), 2147483647), ((-2147483648), 2147483647), ((-2147483648), 2147483647), ((-2147483648), 2147483647), ((-2147483648), 2147483647), ((-2147483648), 2147483647), ((-2147483648), 2147483647), ((-2147483648), 2147483647), ((-2147483648), 2147483647), ((-2147483648), 2147483647), ((-2147483648), 2147483647)], [], [], [], [], [], [(238, [(4, []), (0, [(4, 1)]), (0, [(5, 1)]), (0, [(6, 1)]), (0, [(7, 1)]), (0, [(8, 1)]), (0, [(9, 1)]), (0, [(10, 1)]), (0, [(0, 1)]), (0, [(1, 1)]), (0, [(3, 1)])])])])
theorem lk_840 : l_core lm_840 := by
  first
  | skip
    intro v x h
    have K := k_lawU9 (V := v) (k := x 0) (h := x 1) (r := x 2) (u := x 3) (q := x 4) (b := x 5) (s := x 6) (o := x 7) (a1 := x 8) (a2 := x 9) (a3 := x 10) (l_c11 (fun w0 w1 w2 w3 w4 w5 w6 w7 w8 w9 w10 : Int => q_qry v w0 w1 w2 w3 w4 w5 w6 w7 w8 w9 w10) (l_e0 x (13)) (l_e1 x 4) (l_e1 x 5) (l_e1 x 6) (l_e1 x 7) (l_e1 x 8) (l_e1 x 9) (l_e1 x 10) (l_e1 x 0) (l_e1 x 1) (l_e1 x 2) (h.2.2.2.1)) (l_cc (l_q2 100 x 2) (h.2.1.1)) (l_cc (l_q2 99 x 3) (h.2.1.2.1)) (l_cc (l_q1 99 x 3) (h.2.1.2.2.1))
    refine l_outH rfl (And.intro h.1 ?_)
    exact l_o11 (fun w0 w1 w2 w3 w4 w5 w6 w7 w8 w9 w10 : Int => (True) ∧ (q_qry v w0 w1 w2 w3 w4 w5 w6 w7 w8 w9 w10 ∧ True)) (l_e0 x (4)) (l_e1 x 4) (l_e1 x 5) (l_e1 x 6) (l_e1 x 7) (l_e1 x 8) (l_e1 x 9) (l_e1 x 10) (l_e1 x 0) (l_e1 x 1) (l_e1 x 3) K
  | skip
    intro v x h
    have C0 : (0 : Int) ≤ x 2 - 100 := l_cc (a := y_ev x ((-100), [(2, 1)])) (by show ((-100) : Int) + ((1) * x 2 + 0) = x 2 - 100; omega) (h.2.1.1)
    have C1 : (0 : Int) ≤ x 3 - 99 := l_cc (a := y_ev x ((-99), [(3, 1)])) (by show ((-99) : Int) + ((1) * x 3 + 0) = x 3 - 99; omega) (h.2.1.2.1)
    have C2 : (0 : Int) ≤ 99 - x 3 := l_cc (a := y_ev x (99, [(3, (-1))])) (by show ((99) : Int) + ((-1) * x 3 + 0) = 99 - x 3; omega) (h.2.1.2.2.1)
    have E0 : y_ev x (13, []) = 13 := (l_e0 _ _)
    have E1 : y_ev x (0, [(4, 1)]) = x 4 := (l_e1 _ _)
    have E2 : y_ev x (0, [(5, 1)]) = x 5 := (l_e1 _ _)
    have E3 : y_ev x (0, [(6, 1)]) = x 6 := (l_e1 _ _)
    have E4 : y_ev x (0, [(7, 1)]) = x 7 := (l_e1 _ _)
    have E5 : y_ev x (0, [(8, 1)]) = x 8 := (l_e1 _ _)
    have E6 : y_ev x (0, [(9, 1)]) = x 9 := (l_e1 _ _)
    have E7 : y_ev x (0, [(10, 1)]) = x 10 := (l_e1 _ _)
    have E8 : y_ev x (0, [(0, 1)]) = x 0 := (l_e1 _ _)
    have E9 : y_ev x (0, [(1, 1)]) = x 1 := (l_e1 _ _)
    have E10 : y_ev x (0, [(2, 1)]) = x 2 := (l_e1 _ _)
    have T0 : q_qry v (y_ev x (13, [])) (y_ev x (0, [(4, 1)])) (y_ev x (0, [(5, 1)])) (y_ev x (0, [(6, 1)])) (y_ev x (0, [(7, 1)])) (y_ev x (0, [(8, 1)])) (y_ev x (0, [(9, 1)])) (y_ev x (0, [(10, 1)])) (y_ev x (0, [(0, 1)])) (y_ev x (0, [(1, 1)])) (y_ev x (0, [(2, 1)])) := h.2.2.2.1
    (try rw [E0] at T0); (try rw [E1] at T0); (try rw [E2] at T0); (try rw [E3] at T0); (try rw [E4] at T0); (try rw [E5] at T0); (try rw [E6] at T0); (try rw [E7] at T0); (try rw [E8] at T0); (try rw [E9] at T0); (try rw [E10] at T0)
    have K := k_lawU9 (V := v) (k := x 0) (h := x 1) (r := x 2) (u := x 3) (q := x 4) (b := x 5) (s := x 6) (o := x 7) (a1 := x 8) (a2 := x 9) (a3 := x 10) T0 C0 C1 C2
    refine l_outH rfl (And.intro h.1 ?_)
    have O0 : y_ev x (4, []) = 4 := l_e0 _ _
    have O1 : y_ev x (0, [(4, 1)]) = x 4 := l_e1 _ _
    have O2 : y_ev x (0, [(5, 1)]) = x 5 := l_e1 _ _
    have O3 : y_ev x (0, [(6, 1)]) = x 6 := l_e1 _ _
    have O4 : y_ev x (0, [(7, 1)]) = x 7 := l_e1 _ _
    have O5 : y_ev x (0, [(8, 1)]) = x 8 := l_e1 _ _
    have O6 : y_ev x (0, [(9, 1)]) = x 9 := l_e1 _ _
    have O7 : y_ev x (0, [(10, 1)]) = x 10 := l_e1 _ _
    have O8 : y_ev x (0, [(0, 1)]) = x 0 := l_e1 _ _
    have O9 : y_ev x (0, [(1, 1)]) = x 1 := l_e1 _ _
    have O10 : y_ev x (0, [(3, 1)]) = x 3 := l_e1 _ _
    show (True) ∧ (q_qry v (y_ev x (4, [])) (y_ev x (0, [(4, 1)])) (y_ev x (0, [(5, 1)])) (y_ev x (0, [(6, 1)])) (y_ev x (0, [(7, 1)])) (y_ev x (0, [(8, 1)])) (y_ev x (0, [(9, 1)])) (y_ev x (0, [(10, 1)])) (y_ev x (0, [(0, 1)])) (y_ev x (0, [(1, 1)])) (y_ev x (0, [(3, 1)])) ∧ True)
    (try rw [O0]); (try rw [O1]); (try rw [O2]); (try rw [O3]); (try rw [O4]); (try rw [O5]); (try rw [O6]); (try rw [O7]); (try rw [O8]); (try rw [O9]); (try rw [O10])
    exact K
def lm_841 : zLem := (([((-2147483648), 2147483647)], [], [], [], [(0, 0, 0, [(0, 1)])], [], []), [([((-2147483648), 2147483647)], [], [((-1), [(0, (-1))])], [], [], [], []), ([((-2147483648), 2147483647)], [], [(0, [(0, 1)]), (999, [(0, (-1))])], [], [], [], []), ([((-2147483648), 2147483647)], [], [((-1000), [(0, 1)])], [], [], [], [])])
theorem lk_841 : l_core lm_841 := by
  first
  | skip
    intro v x h
    have K := k_sp99j (V := v) (r := x 0) 
    rcases K with K | K | K
    · refine l_outH rfl (And.intro h.1 ?_)
      exact l_o1 (fun w0 : Int => (0 ≤ w0 ∧ True) ∧ (True)) (l_q11 1 x 0) K
    · refine l_outT ?_
      refine l_outH rfl (And.intro h.1 ?_)
      exact l_o2 (fun w0 w1 : Int => (0 ≤ w0 ∧ 0 ≤ w1 ∧ True) ∧ (True)) (l_e1 x 0) (l_q1 999 x 0) K
    · refine l_outT ?_
      refine l_outT ?_
      refine l_outH rfl (And.intro h.1 ?_)
      exact l_o1 (fun w0 : Int => (0 ≤ w0 ∧ True) ∧ (True)) (l_q2 1000 x 0) K
  | skip
    intro v x h
    have K := k_sp99j (V := v) (r := x 0) 
    rcases K with K | K | K
    · refine l_outH rfl (And.intro h.1 ?_)
      have O0 : y_ev x ((-1), [(0, (-1))]) = -x 0 - 1 := by show ((-1) : Int) + ((-1) * x 0 + 0) = _; omega
      show (0 ≤ y_ev x ((-1), [(0, (-1))]) ∧ True) ∧ (True)
      (try rw [O0])
      exact K
    · refine l_outT ?_
      refine l_outH rfl (And.intro h.1 ?_)
      have O0 : y_ev x (0, [(0, 1)]) = x 0 := l_e1 _ _
      have O1 : y_ev x (999, [(0, (-1))]) = 999 - x 0 := by show ((999) : Int) + ((-1) * x 0 + 0) = _; omega
      show (0 ≤ y_ev x (0, [(0, 1)]) ∧ 0 ≤ y_ev x (999, [(0, (-1))]) ∧ True) ∧ (True)
      (try rw [O0]); (try rw [O1])
      exact K
    · refine l_outT ?_
      refine l_outT ?_
      refine l_outH rfl (And.intro h.1 ?_)
      have O0 : y_ev x ((-1000), [(0, 1)]) = x 0 - 1000 := by show ((-1000) : Int) + ((1) * x 0 + 0) = _; omega
      show (0 ≤ y_ev x ((-1000), [(0, 1)]) ∧ True) ∧ (True)
      (try rw [O0])
      exact K
def lm_842 : zLem := (([((-2147483648), 2147483647), ((-2147483648), 2147483647), ((-2147483648), 2147483647), ((-2147483648), 2147483647), ((-2147483648), 2147483647), ((-2147483648), 2147483647), ((-2147483648), 2147483647), ((-2147483648), 2147483647), ((-2147483648), 2147483647), ((-2147483648), 2147483647), ((-2147483648), 2147483647)], [], [(0, [(2, 1)]), (999, [(2, (-1))]), (0, [(2, (-1)), (3, 1)]), (0, [(2, 1), (3, (-1))])], [], [(0, 0, 0, [(3, 1)])], [], [(238, [(14, []), (0, [(4, 1)]), (0, [(5, 1)]), (0, [(6, 1)]), (0, [(7, 1)]), (0, [(8, 1)]), (0, [(9, 1)]), (0, [(10, 1)]), (0, [(0, 1)]), (0, [(1, 1)]), (0, [(2, 1)])])]), [([((-2147483648), 2147483647), ((-2147483648), 2147483647), ((-2147483648), 2147483647), ((-2147483648), 2147483647), ((-2147483648), 2147483647), ((-2147483648), 2147483647), ((-2147483648), 2147483647), ((-2147483648), 2147483647), ((-2147483648), 2147483647), ((-2147483648), 2147483647), ((-2147483648), 2147483647)], [], [], [], [], [], [(238, [(5, []), (0, [(4, 1)]), (0, [(5, 1)]), (0, [(6, 1)]), (0, [(7, 1)]), (0, [(8, 1)]), (0, [(9, 1)]), (0, [(10, 1)]), (0, [(0, 1)]), (0, [(1, 1)]), (0, [(3, 1)])])])])
theorem lk_842 : l_core lm_842 := by
  first
  | skip
    intro v x h
    have K := k_lawU1j (V := v) (k := x 0) (h := x 1) (r := x 2) (u := x 3) (q := x 4) (b := x 5) (s := x 6) (o := x 7) (a1 := x 8) (a2 := x 9) (a3 := x 10) (l_c11 (fun w0 w1 w2 w3 w4 w5 w6 w7 w8 w9 w10 : Int => q_qry v w0 w1 w2 w3 w4 w5 w6 w7 w8 w9 w10) (l_e0 x (14)) (l_e1 x 4) (l_e1 x 5) (l_e1 x 6) (l_e1 x 7) (l_e1 x 8) (l_e1 x 9) (l_e1 x 10) (l_e1 x 0) (l_e1 x 1) (l_e1 x 2) (h.2.2.2.1)) (l_cc (l_e1 x 2) (h.2.1.1)) (l_cc (l_q1 999 x 2) (h.2.1.2.1)) (l_cc (l_q4 x 2 3) (h.2.1.2.2.1)) (l_cc (l_q5 x 2 3) (h.2.1.2.2.2.1))
    refine l_outH rfl (And.intro h.1 ?_)
    exact l_o11 (fun w0 w1 w2 w3 w4 w5 w6 w7 w8 w9 w10 : Int => (True) ∧ (q_qry v w0 w1 w2 w3 w4 w5 w6 w7 w8 w9 w10 ∧ True)) (l_e0 x (5)) (l_e1 x 4) (l_e1 x 5) (l_e1 x 6) (l_e1 x 7) (l_e1 x 8) (l_e1 x 9) (l_e1 x 10) (l_e1 x 0) (l_e1 x 1) (l_e1 x 3) K
  | skip
    intro v x h
    have C0 : (0 : Int) ≤ x 2 := l_cc (a := y_ev x (0, [(2, 1)])) (l_e1 _ _) (h.2.1.1)
    have C1 : (0 : Int) ≤ 999 - x 2 := l_cc (a := y_ev x (999, [(2, (-1))])) (by show ((999) : Int) + ((-1) * x 2 + 0) = 999 - x 2; omega) (h.2.1.2.1)
    have C2 : (0 : Int) ≤ x 3 - x 2 := l_cc (a := y_ev x (0, [(2, (-1)), (3, 1)])) (by show ((0) : Int) + ((-1) * x 2 + ((1) * x 3 + 0)) = x 3 - x 2; omega) (h.2.1.2.2.1)
    have C3 : (0 : Int) ≤ x 2 - x 3 := l_cc (a := y_ev x (0, [(2, 1), (3, (-1))])) (by show ((0) : Int) + ((1) * x 2 + ((-1) * x 3 + 0)) = x 2 - x 3; omega) (h.2.1.2.2.2.1)
    have E0 : y_ev x (14, []) = 14 := (l_e0 _ _)
    have E1 : y_ev x (0, [(4, 1)]) = x 4 := (l_e1 _ _)
    have E2 : y_ev x (0, [(5, 1)]) = x 5 := (l_e1 _ _)
    have E3 : y_ev x (0, [(6, 1)]) = x 6 := (l_e1 _ _)
    have E4 : y_ev x (0, [(7, 1)]) = x 7 := (l_e1 _ _)
    have E5 : y_ev x (0, [(8, 1)]) = x 8 := (l_e1 _ _)
    have E6 : y_ev x (0, [(9, 1)]) = x 9 := (l_e1 _ _)
    have E7 : y_ev x (0, [(10, 1)]) = x 10 := (l_e1 _ _)
    have E8 : y_ev x (0, [(0, 1)]) = x 0 := (l_e1 _ _)
    have E9 : y_ev x (0, [(1, 1)]) = x 1 := (l_e1 _ _)
    have E10 : y_ev x (0, [(2, 1)]) = x 2 := (l_e1 _ _)
    have T0 : q_qry v (y_ev x (14, [])) (y_ev x (0, [(4, 1)])) (y_ev x (0, [(5, 1)])) (y_ev x (0, [(6, 1)])) (y_ev x (0, [(7, 1)])) (y_ev x (0, [(8, 1)])) (y_ev x (0, [(9, 1)])) (y_ev x (0, [(10, 1)])) (y_ev x (0, [(0, 1)])) (y_ev x (0, [(1, 1)])) (y_ev x (0, [(2, 1)])) := h.2.2.2.1
    (try rw [E0] at T0); (try rw [E1] at T0); (try rw [E2] at T0); (try rw [E3] at T0); (try rw [E4] at T0); (try rw [E5] at T0); (try rw [E6] at T0); (try rw [E7] at T0); (try rw [E8] at T0); (try rw [E9] at T0); (try rw [E10] at T0)
    have K := k_lawU1j (V := v) (k := x 0) (h := x 1) (r := x 2) (u := x 3) (q := x 4) (b := x 5) (s := x 6) (o := x 7) (a1 := x 8) (a2 := x 9) (a3 := x 10) T0 C0 C1 C2 C3
    refine l_outH rfl (And.intro h.1 ?_)
    have O0 : y_ev x (5, []) = 5 := l_e0 _ _
    have O1 : y_ev x (0, [(4, 1)]) = x 4 := l_e1 _ _
    have O2 : y_ev x (0, [(5, 1)]) = x 5 := l_e1 _ _
    have O3 : y_ev x (0, [(6, 1)]) = x 6 := l_e1 _ _
    have O4 : y_ev x (0, [(7, 1)]) = x 7 := l_e1 _ _
    have O5 : y_ev x (0, [(8, 1)]) = x 8 := l_e1 _ _
    have O6 : y_ev x (0, [(9, 1)]) = x 9 := l_e1 _ _
    have O7 : y_ev x (0, [(10, 1)]) = x 10 := l_e1 _ _
    have O8 : y_ev x (0, [(0, 1)]) = x 0 := l_e1 _ _
    have O9 : y_ev x (0, [(1, 1)]) = x 1 := l_e1 _ _
    have O10 : y_ev x (0, [(3, 1)]) = x 3 := l_e1 _ _
    show (True) ∧ (q_qry v (y_ev x (5, [])) (y_ev x (0, [(4, 1)])) (y_ev x (0, [(5, 1)])) (y_ev x (0, [(6, 1)])) (y_ev x (0, [(7, 1)])) (y_ev x (0, [(8, 1)])) (y_ev x (0, [(9, 1)])) (y_ev x (0, [(10, 1)])) (y_ev x (0, [(0, 1)])) (y_ev x (0, [(1, 1)])) (y_ev x (0, [(3, 1)])) ∧ True)
    (try rw [O0]); (try rw [O1]); (try rw [O2]); (try rw [O3]); (try rw [O4]); (try rw [O5]); (try rw [O6]); (try rw [O7]); (try rw [O8]); (try rw [O9]); (try rw [O10])
    exact K
def lm_843 : zLem := (([((-2147483648), 2147483647), ((-2147483648), 2147483647), ((-2147483648), 2147483647), ((-2147483648), 2147483647), ((-2147483648), 2147483647), ((-2147483648), 2147483647), ((-2147483648), 2147483647), ((-2147483648), 2147483647), ((-2147483648), 2147483647), ((-2147483648), 2147483647), ((-2147483648), 2147483647)], [], [((-1), [(2, (-1))]), (0, [(3, 1)]), (0, [(3, (-1))])], [], [(0, 0, 0, [(3, 1)])], [], [(238, [(14, []), (0, [(4, 1)]), (0, [(5, 1)]), (0, [(6, 1)]), (0, [(7, 1)]), (0, [(8, 1)]), (0, [(9, 1)]), (0, [(10, 1)]), (0, [(0, 1)]), (0, [(1, 1)]), (0, [(2, 1)])])]), [([((-2147483648), 2147483647), ((-2147483648), 2147483647), ((-2147483648), 2147483647), ((-2147483648), 2147483647), ((-2147483648), 2147483647), ((-2147483648), 2147483647), ((-2147483648), 2147483647), ((-2147483648), 2147483647), ((-2147483648), 2147483647), ((-2147483648), 2147483647), ((-2147483648), 2147483647)], [], [], [], [], [], [(238, [(5, []), (0, [(4, 1)]), (0, [(5, 1)]), (0, [(6, 1)]), (0, [(7, 1)]), (0, [(8, 1)]), (0, [(9, 1)]), (0, [(10, 1)]), (0, [(0, 1)]), (0, [(1, 1)]), (0, [(3, 1)])])])])
theorem lk_843 : l_core lm_843 := by
  first
  | skip
    intro v x h
    have K := k_lawU0j (V := v) (k := x 0) (h := x 1) (r := x 2) (u := x 3) (q := x 4) (b := x 5) (s := x 6) (o := x 7) (a1 := x 8) (a2 := x 9) (a3 := x 10) (l_c11 (fun w0 w1 w2 w3 w4 w5 w6 w7 w8 w9 w10 : Int => q_qry v w0 w1 w2 w3 w4 w5 w6 w7 w8 w9 w10) (l_e0 x (14)) (l_e1 x 4) (l_e1 x 5) (l_e1 x 6) (l_e1 x 7) (l_e1 x 8) (l_e1 x 9) (l_e1 x 10) (l_e1 x 0) (l_e1 x 1) (l_e1 x 2) (h.2.2.2.1)) (l_cc (l_q11 1 x 2) (h.2.1.1)) (l_cc (l_e1 x 3) (h.2.1.2.1)) (l_cc (l_q7 x 3) (h.2.1.2.2.1))
    refine l_outH rfl (And.intro h.1 ?_)
    exact l_o11 (fun w0 w1 w2 w3 w4 w5 w6 w7 w8 w9 w10 : Int => (True) ∧ (q_qry v w0 w1 w2 w3 w4 w5 w6 w7 w8 w9 w10 ∧ True)) (l_e0 x (5)) (l_e1 x 4) (l_e1 x 5) (l_e1 x 6) (l_e1 x 7) (l_e1 x 8) (l_e1 x 9) (l_e1 x 10) (l_e1 x 0) (l_e1 x 1) (l_e1 x 3) K
  | skip
    intro v x h
    have C0 : (0 : Int) ≤ -x 2 - 1 := l_cc (a := y_ev x ((-1), [(2, (-1))])) (by show ((-1) : Int) + ((-1) * x 2 + 0) = -x 2 - 1; omega) (h.2.1.1)
    have C1 : (0 : Int) ≤ x 3 := l_cc (a := y_ev x (0, [(3, 1)])) (l_e1 _ _) (h.2.1.2.1)
    have C2 : (0 : Int) ≤ -x 3 := l_cc (a := y_ev x (0, [(3, (-1))])) (by show ((0) : Int) + ((-1) * x 3 + 0) = -x 3; omega) (h.2.1.2.2.1)
    have E0 : y_ev x (14, []) = 14 := (l_e0 _ _)
    have E1 : y_ev x (0, [(4, 1)]) = x 4 := (l_e1 _ _)
    have E2 : y_ev x (0, [(5, 1)]) = x 5 := (l_e1 _ _)
    have E3 : y_ev x (0, [(6, 1)]) = x 6 := (l_e1 _ _)
    have E4 : y_ev x (0, [(7, 1)]) = x 7 := (l_e1 _ _)
    have E5 : y_ev x (0, [(8, 1)]) = x 8 := (l_e1 _ _)
    have E6 : y_ev x (0, [(9, 1)]) = x 9 := (l_e1 _ _)
    have E7 : y_ev x (0, [(10, 1)]) = x 10 := (l_e1 _ _)
    have E8 : y_ev x (0, [(0, 1)]) = x 0 := (l_e1 _ _)
    have E9 : y_ev x (0, [(1, 1)]) = x 1 := (l_e1 _ _)
    have E10 : y_ev x (0, [(2, 1)]) = x 2 := (l_e1 _ _)
    have T0 : q_qry v (y_ev x (14, [])) (y_ev x (0, [(4, 1)])) (y_ev x (0, [(5, 1)])) (y_ev x (0, [(6, 1)])) (y_ev x (0, [(7, 1)])) (y_ev x (0, [(8, 1)])) (y_ev x (0, [(9, 1)])) (y_ev x (0, [(10, 1)])) (y_ev x (0, [(0, 1)])) (y_ev x (0, [(1, 1)])) (y_ev x (0, [(2, 1)])) := h.2.2.2.1
    (try rw [E0] at T0); (try rw [E1] at T0); (try rw [E2] at T0); (try rw [E3] at T0); (try rw [E4] at T0); (try rw [E5] at T0); (try rw [E6] at T0); (try rw [E7] at T0); (try rw [E8] at T0); (try rw [E9] at T0); (try rw [E10] at T0)
    have K := k_lawU0j (V := v) (k := x 0) (h := x 1) (r := x 2) (u := x 3) (q := x 4) (b := x 5) (s := x 6) (o := x 7) (a1 := x 8) (a2 := x 9) (a3 := x 10) T0 C0 C1 C2
    refine l_outH rfl (And.intro h.1 ?_)
    have O0 : y_ev x (5, []) = 5 := l_e0 _ _
    have O1 : y_ev x (0, [(4, 1)]) = x 4 := l_e1 _ _
    have O2 : y_ev x (0, [(5, 1)]) = x 5 := l_e1 _ _
    have O3 : y_ev x (0, [(6, 1)]) = x 6 := l_e1 _ _
    have O4 : y_ev x (0, [(7, 1)]) = x 7 := l_e1 _ _
    have O5 : y_ev x (0, [(8, 1)]) = x 8 := l_e1 _ _
    have O6 : y_ev x (0, [(9, 1)]) = x 9 := l_e1 _ _
    have O7 : y_ev x (0, [(10, 1)]) = x 10 := l_e1 _ _
    have O8 : y_ev x (0, [(0, 1)]) = x 0 := l_e1 _ _
    have O9 : y_ev x (0, [(1, 1)]) = x 1 := l_e1 _ _
    have O10 : y_ev x (0, [(3, 1)]) = x 3 := l_e1 _ _
    show (True) ∧ (q_qry v (y_ev x (5, [])) (y_ev x (0, [(4, 1)])) (y_ev x (0, [(5, 1)])) (y_ev x (0, [(6, 1)])) (y_ev x (0, [(7, 1)])) (y_ev x (0, [(8, 1)])) (y_ev x (0, [(9, 1)])) (y_ev x (0, [(10, 1)])) (y_ev x (0, [(0, 1)])) (y_ev x (0, [(1, 1)])) (y_ev x (0, [(3, 1)])) ∧ True)
    (try rw [O0]); (try rw [O1]); (try rw [O2]); (try rw [O3]); (try rw [O4]); (try rw [O5]); (try rw [O6]); (try rw [O7]); (try rw [O8]); (try rw [O9]); (try rw [O10])
    exact K
def lm_844 : zLem := (([((-2147483648), 2147483647), ((-2147483648), 2147483647), ((-2147483648), 2147483647), ((-2147483648), 2147483647), ((-2147483648), 2147483647), ((-2147483648), 2147483647), ((-2147483648), 2147483647), ((-2147483648), 2147483647), ((-2147483648), 2147483647), ((-2147483648), 2147483647), ((-2147483648), 2147483647)], [], [((-1000), [(2, 1)]), ((-999), [(3, 1)]), (999, [(3, (-1))])], [], [(0, 0, 0, [(3, 1)])], [], [(238, [(14, []), (0, [(4, 1)]), (0, [(5, 1)]), (0, [(6, 1)]), (0, [(7, 1)]), (0, [(8, 1)]), (0, [(9, 1)]), (0, [(10, 1)]), (0, [(0, 1)]), (0, [(1, 1)]), (0, [(2, 1)])])]), [([((-2147483648), 2147483647), ((-2147483648), 2147483647), ((-2147483648), 2147483647), ((-2147483648), 2147483647), ((-2147483648), 2147483647), ((-2147483648), 2147483647), ((-2147483648), 2147483647), ((-2147483648), 2147483647), ((-2147483648), 2147483647), ((-2147483648), 2147483647), ((-2147483648), 2147483647)], [], [], [], [], [], [(238, [(5, []), (0, [(4, 1)]), (0, [(5, 1)]), (0, [(6, 1)]), (0, [(7, 1)]), (0, [(8, 1)]), (0, [(9, 1)]), (0, [(10, 1)]), (0, [(0, 1)]), (0, [(1, 1)]), (0, [(3, 1)])])])])
theorem lk_844 : l_core lm_844 := by
  first
  | skip
    intro v x h
    have K := k_lawU9j (V := v) (k := x 0) (h := x 1) (r := x 2) (u := x 3) (q := x 4) (b := x 5) (s := x 6) (o := x 7) (a1 := x 8) (a2 := x 9) (a3 := x 10) (l_c11 (fun w0 w1 w2 w3 w4 w5 w6 w7 w8 w9 w10 : Int => q_qry v w0 w1 w2 w3 w4 w5 w6 w7 w8 w9 w10) (l_e0 x (14)) (l_e1 x 4) (l_e1 x 5) (l_e1 x 6) (l_e1 x 7) (l_e1 x 8) (l_e1 x 9) (l_e1 x 10) (l_e1 x 0) (l_e1 x 1) (l_e1 x 2) (h.2.2.2.1)) (l_cc (l_q2 1000 x 2) (h.2.1.1)) (l_cc (l_q2 999 x 3) (h.2.1.2.1)) (l_cc (l_q1 999 x 3) (h.2.1.2.2.1))
    refine l_outH rfl (And.intro h.1 ?_)
    exact l_o11 (fun w0 w1 w2 w3 w4 w5 w6 w7 w8 w9 w10 : Int => (True) ∧ (q_qry v w0 w1 w2 w3 w4 w5 w6 w7 w8 w9 w10 ∧ True)) (l_e0 x (5)) (l_e1 x 4) (l_e1 x 5) (l_e1 x 6) (l_e1 x 7) (l_e1 x 8) (l_e1 x 9) (l_e1 x 10) (l_e1 x 0) (l_e1 x 1) (l_e1 x 3) K
  | skip
    intro v x h
    have C0 : (0 : Int) ≤ x 2 - 1000 := l_cc (a := y_ev x ((-1000), [(2, 1)])) (by show ((-1000) : Int) + ((1) * x 2 + 0) = x 2 - 1000; omega) (h.2.1.1)
    have C1 : (0 : Int) ≤ x 3 - 999 := l_cc (a := y_ev x ((-999), [(3, 1)])) (by show ((-999) : Int) + ((1) * x 3 + 0) = x 3 - 999; omega) (h.2.1.2.1)
    have C2 : (0 : Int) ≤ 999 - x 3 := l_cc (a := y_ev x (999, [(3, (-1))])) (by show ((999) : Int) + ((-1) * x 3 + 0) = 999 - x 3; omega) (h.2.1.2.2.1)
    have E0 : y_ev x (14, []) = 14 := (l_e0 _ _)
    have E1 : y_ev x (0, [(4, 1)]) = x 4 := (l_e1 _ _)
    have E2 : y_ev x (0, [(5, 1)]) = x 5 := (l_e1 _ _)
    have E3 : y_ev x (0, [(6, 1)]) = x 6 := (l_e1 _ _)
    have E4 : y_ev x (0, [(7, 1)]) = x 7 := (l_e1 _ _)
    have E5 : y_ev x (0, [(8, 1)]) = x 8 := (l_e1 _ _)
    have E6 : y_ev x (0, [(9, 1)]) = x 9 := (l_e1 _ _)
    have E7 : y_ev x (0, [(10, 1)]) = x 10 := (l_e1 _ _)
    have E8 : y_ev x (0, [(0, 1)]) = x 0 := (l_e1 _ _)
    have E9 : y_ev x (0, [(1, 1)]) = x 1 := (l_e1 _ _)
    have E10 : y_ev x (0, [(2, 1)]) = x 2 := (l_e1 _ _)
    have T0 : q_qry v (y_ev x (14, [])) (y_ev x (0, [(4, 1)])) (y_ev x (0, [(5, 1)])) (y_ev x (0, [(6, 1)])) (y_ev x (0, [(7, 1)])) (y_ev x (0, [(8, 1)])) (y_ev x (0, [(9, 1)])) (y_ev x (0, [(10, 1)])) (y_ev x (0, [(0, 1)])) (y_ev x (0, [(1, 1)])) (y_ev x (0, [(2, 1)])) := h.2.2.2.1
    (try rw [E0] at T0); (try rw [E1] at T0); (try rw [E2] at T0); (try rw [E3] at T0); (try rw [E4] at T0); (try rw [E5] at T0); (try rw [E6] at T0); (try rw [E7] at T0); (try rw [E8] at T0); (try rw [E9] at T0); (try rw [E10] at T0)
    have K := k_lawU9j (V := v) (k := x 0) (h := x 1) (r := x 2) (u := x 3) (q := x 4) (b := x 5) (s := x 6) (o := x 7) (a1 := x 8) (a2 := x 9) (a3 := x 10) T0 C0 C1 C2
    refine l_outH rfl (And.intro h.1 ?_)
    have O0 : y_ev x (5, []) = 5 := l_e0 _ _
    have O1 : y_ev x (0, [(4, 1)]) = x 4 := l_e1 _ _
    have O2 : y_ev x (0, [(5, 1)]) = x 5 := l_e1 _ _
    have O3 : y_ev x (0, [(6, 1)]) = x 6 := l_e1 _ _
    have O4 : y_ev x (0, [(7, 1)]) = x 7 := l_e1 _ _
    have O5 : y_ev x (0, [(8, 1)]) = x 8 := l_e1 _ _
    have O6 : y_ev x (0, [(9, 1)]) = x 9 := l_e1 _ _
    have O7 : y_ev x (0, [(10, 1)]) = x 10 := l_e1 _ _
    have O8 : y_ev x (0, [(0, 1)]) = x 0 := l_e1 _ _
    have O9 : y_ev x (0, [(1, 1)]) = x 1 := l_e1 _ _
    have O10 : y_ev x (0, [(3, 1)]) = x 3 := l_e1 _ _
    show (True) ∧ (q_qry v (y_ev x (5, [])) (y_ev x (0, [(4, 1)])) (y_ev x (0, [(5, 1)])) (y_ev x (0, [(6, 1)])) (y_ev x (0, [(7, 1)])) (y_ev x (0, [(8, 1)])) (y_ev x (0, [(9, 1)])) (y_ev x (0, [(10, 1)])) (y_ev x (0, [(0, 1)])) (y_ev x (0, [(1, 1)])) (y_ev x (0, [(3, 1)])) ∧ True)
    (try rw [O0]); (try rw [O1]); (try rw [O2]); (try rw [O3]); (try rw [O4]); (try rw [O5]); (try rw [O6]); (try rw [O7]); (try rw [O8]); (try rw [O9]); (try rw [O10])
    exact K
def lm_845pg_0 (t : List zTg) : List zTg := (234, [(0, [(12, 1)]), (2, []), (0, [(2, 1)]), (0, [(3, 1)]), (0, [(4, 1)]), (0, [(5, 1)]), (0, [(6, 1)]), (0, [(7, 1)]), (0, [(8, 1)]), (0, [(9, 1)]), (0, [(10, 1)]), (0, [(11, 1)])]) :: (238, [(8, []), (0, [(12, 1)]), (0, [(13, 1)]), (0, [(14, 1)]), (0, [(15, 1)]), (0, [(16, 1)]), (0, [(17, 1)]), (0, [(18, 1)]), (0, [(0, 1)]), (0, []), (0, [(3, 1)])]) :: (238, [(7, []), (0, [(12, 1)]), (0, [(13, 1)]), (0, [(14, 1)]), (0, [(15, 1)]), (0, [(16, 1)]), (0, [(17, 1)]), (0, [(18, 1)]), (0, [(0, 1)]), (0, []), (0, [(4, 1)])]) :: (238, [(8, []), (0, [(12, 1)]), (0, [(13, 1)]), (0, [(14, 1)]), (0, [(15, 1)]), (0, [(16, 1)]), (0, [(17, 1)]), (0, [(18, 1)]), (31, []), (0, []), (0, [(6, 1)])]) :: (238, [(16, []), (0, [(12, 1)]), (0, [(13, 1)]), (0, [(14, 1)]), (0, [(15, 1)]), (0, [(16, 1)]), (0, [(17, 1)]), (0, [(18, 1)]), (0, [(0, 1)]), (0, []), (0, [(7, 1)])]) :: (238, [(8, []), (0, [(12, 1)]), (0, [(13, 1)]), (0, [(14, 1)]), (0, [(15, 1)]), (0, [(16, 1)]), (0, [(17, 1)]), (0, [(18, 1)]), (24, []), (0, []), (0, [(9, 1)])]) :: (238, [(8, []), (0, [(12, 1)]), (0, [(13, 1)]), (0, [(14, 1)]), (0, [(15, 1)]), (0, [(16, 1)]), (0, [(17, 1)]), (0, [(18, 1)]), (18, [(0, 1)]), (0, []), (0, [(10, 1)])]) :: (83, [(0, [(0, 6), (1, 1)]), (0, [(5, 1)])]) :: t
def lm_845pg_1 (t : List zTg) : List zTg := (238, [(7, []), (0, [(12, 1)]), (0, [(13, 1)]), (0, [(14, 1)]), (0, [(15, 1)]), (0, [(16, 1)]), (0, [(17, 1)]), (0, [(18, 1)]), (0, [(1, 1)]), (0, []), (0, [(11, 1)])]) :: t
def lm_845p : zS := ((lm_504pi_0 (lm_504pi_1 (lm_504pi_2 []))), [], [(0, [(0, (-1)), (8, 1)]), (0, [(0, 1), (8, (-1))]), (0, [(0, 1)]), (5, [(0, (-1))]), (0, [(1, 1)]), (5, [(1, (-1))])], [], [(0, 0, 0, [(0, 1)]), (0, 0, 0, [(1, 1)])], [], (lm_845pg_0 (lm_845pg_1 [])))
def lm_845q0 : zS := ((lm_504pi_0 (lm_504pi_1 (lm_504pi_2 []))), [], [], [], [], [], [(238, [(14, []), (0, [(12, 1)]), (0, [(13, 1)]), (0, [(14, 1)]), (0, [(15, 1)]), (0, [(16, 1)]), (0, [(17, 1)]), (0, [(18, 1)]), (0, [(0, 1)]), (0, [(1, 1)]), (0, [(2, 1)])])])
def lm_845 : zLem := (lm_845p, [lm_845q0])
theorem lk_845 : l_core lm_845 := by
  first
  | skip
    intro v x h
    have K := k_joQ (V := v) (h := x 0) (g := x 1) (r := x 2) (e0 := x 3) (e1 := x 4) (e2 := x 5) (e3 := x 6) (e4 := x 7) (e5 := x 8) (e6 := x 9) (e7 := x 10) (e8 := x 11) (q := x 12) (b := x 13) (s := x 14) (o := x 15) (a1 := x 16) (a2 := x 17) (a3 := x 18) (l_c12 (fun w0 w1 w2 w3 w4 w5 w6 w7 w8 w9 w10 w11 : Int => q_plc v w0 w1 w2 (e_9 w3 w4 w5 w6 w7 w8 w9 w10 w11)) (l_e1 x 12) (l_e0 x (2)) (l_e1 x 2) (l_e1 x 3) (l_e1 x 4) (l_e1 x 5) (l_e1 x 6) (l_e1 x 7) (l_e1 x 8) (l_e1 x 9) (l_e1 x 10) (l_e1 x 11) (h.2.2.2.1)) (l_c11 (fun w0 w1 w2 w3 w4 w5 w6 w7 w8 w9 w10 : Int => q_qry v w0 w1 w2 w3 w4 w5 w6 w7 w8 w9 w10) (l_e0 x (8)) (l_e1 x 12) (l_e1 x 13) (l_e1 x 14) (l_e1 x 15) (l_e1 x 16) (l_e1 x 17) (l_e1 x 18) (l_e1 x 0) (l_e0 x (0)) (l_e1 x 3) (h.2.2.2.2.1)) (l_c11 (fun w0 w1 w2 w3 w4 w5 w6 w7 w8 w9 w10 : Int => q_qry v w0 w1 w2 w3 w4 w5 w6 w7 w8 w9 w10) (l_e0 x (7)) (l_e1 x 12) (l_e1 x 13) (l_e1 x 14) (l_e1 x 15) (l_e1 x 16) (l_e1 x 17) (l_e1 x 18) (l_e1 x 0) (l_e0 x (0)) (l_e1 x 4) (h.2.2.2.2.2.1)) (l_c11 (fun w0 w1 w2 w3 w4 w5 w6 w7 w8 w9 w10 : Int => q_qry v w0 w1 w2 w3 w4 w5 w6 w7 w8 w9 w10) (l_e0 x (8)) (l_e1 x 12) (l_e1 x 13) (l_e1 x 14) (l_e1 x 15) (l_e1 x 16) (l_e1 x 17) (l_e1 x 18) (l_e0 x (31)) (l_e0 x (0)) (l_e1 x 6) (h.2.2.2.2.2.2.1)) (l_c11 (fun w0 w1 w2 w3 w4 w5 w6 w7 w8 w9 w10 : Int => q_qry v w0 w1 w2 w3 w4 w5 w6 w7 w8 w9 w10) (l_e0 x (16)) (l_e1 x 12) (l_e1 x 13) (l_e1 x 14) (l_e1 x 15) (l_e1 x 16) (l_e1 x 17) (l_e1 x 18) (l_e1 x 0) (l_e0 x (0)) (l_e1 x 7) (h.2.2.2.2.2.2.2.1)) (l_c11 (fun w0 w1 w2 w3 w4 w5 w6 w7 w8 w9 w10 : Int => q_qry v w0 w1 w2 w3 w4 w5 w6 w7 w8 w9 w10) (l_e0 x (8)) (l_e1 x 12) (l_e1 x 13) (l_e1 x 14) (l_e1 x 15) (l_e1 x 16) (l_e1 x 17) (l_e1 x 18) (l_e0 x (24)) (l_e0 x (0)) (l_e1 x 9) (h.2.2.2.2.2.2.2.2.1)) (l_c11 (fun w0 w1 w2 w3 w4 w5 w6 w7 w8 w9 w10 : Int => q_qry v w0 w1 w2 w3 w4 w5 w6 w7 w8 w9 w10) (l_e0 x (8)) (l_e1 x 12) (l_e1 x 13) (l_e1 x 14) (l_e1 x 15) (l_e1 x 16) (l_e1 x 17) (l_e1 x 18) (l_q3 18 x 0) (l_e0 x (0)) (l_e1 x 10) (h.2.2.2.2.2.2.2.2.2.1)) (l_c2 (fun w0 w1 : Int => v 18 w0 = w1) (l_q10 6 x 0 1) (l_e1 x 5) (h.2.2.2.2.2.2.2.2.2.2.1)) (l_c11 (fun w0 w1 w2 w3 w4 w5 w6 w7 w8 w9 w10 : Int => q_qry v w0 w1 w2 w3 w4 w5 w6 w7 w8 w9 w10) (l_e0 x (7)) (l_e1 x 12) (l_e1 x 13) (l_e1 x 14) (l_e1 x 15) (l_e1 x 16) (l_e1 x 17) (l_e1 x 18) (l_e1 x 1) (l_e0 x (0)) (l_e1 x 11) (h.2.2.2.2.2.2.2.2.2.2.2.1)) (l_cc (l_q4 x 0 8) (h.2.1.1)) (l_cc (l_q5 x 0 8) (h.2.1.2.1)) (l_cc (l_e1 x 0) (h.2.1.2.2.1)) (l_cc (l_q1 5 x 0) (h.2.1.2.2.2.1)) (l_cc (l_e1 x 1) (h.2.1.2.2.2.2.1)) (l_cc (l_q1 5 x 1) (h.2.1.2.2.2.2.2.1))
    refine l_outH rfl (And.intro h.1 ?_)
    exact l_o11 (fun w0 w1 w2 w3 w4 w5 w6 w7 w8 w9 w10 : Int => (True) ∧ (q_qry v w0 w1 w2 w3 w4 w5 w6 w7 w8 w9 w10 ∧ True)) (l_e0 x (14)) (l_e1 x 12) (l_e1 x 13) (l_e1 x 14) (l_e1 x 15) (l_e1 x 16) (l_e1 x 17) (l_e1 x 18) (l_e1 x 0) (l_e1 x 1) (l_e1 x 2) K
  | skip
    intro v x h
    have C0 : (0 : Int) ≤ x 8 - x 0 := l_cc (a := y_ev x (0, [(0, (-1)), (8, 1)])) (by show ((0) : Int) + ((-1) * x 0 + ((1) * x 8 + 0)) = x 8 - x 0; omega) (h.2.1.1)
    have C1 : (0 : Int) ≤ x 0 - x 8 := l_cc (a := y_ev x (0, [(0, 1), (8, (-1))])) (by show ((0) : Int) + ((1) * x 0 + ((-1) * x 8 + 0)) = x 0 - x 8; omega) (h.2.1.2.1)
    have C2 : (0 : Int) ≤ x 0 := l_cc (a := y_ev x (0, [(0, 1)])) (l_e1 _ _) (h.2.1.2.2.1)
    have C3 : (0 : Int) ≤ 5 - x 0 := l_cc (a := y_ev x (5, [(0, (-1))])) (by show ((5) : Int) + ((-1) * x 0 + 0) = 5 - x 0; omega) (h.2.1.2.2.2.1)
    have C4 : (0 : Int) ≤ x 1 := l_cc (a := y_ev x (0, [(1, 1)])) (l_e1 _ _) (h.2.1.2.2.2.2.1)
    have C5 : (0 : Int) ≤ 5 - x 1 := l_cc (a := y_ev x (5, [(1, (-1))])) (by show ((5) : Int) + ((-1) * x 1 + 0) = 5 - x 1; omega) (h.2.1.2.2.2.2.2.1)
    have E0 : y_ev x (0, [(12, 1)]) = x 12 := (l_e1 _ _)
    have E1 : y_ev x (2, []) = 2 := (l_e0 _ _)
    have E2 : y_ev x (0, [(2, 1)]) = x 2 := (l_e1 _ _)
    have E3 : y_ev x (0, [(3, 1)]) = x 3 := (l_e1 _ _)
    have E4 : y_ev x (0, [(4, 1)]) = x 4 := (l_e1 _ _)
    have E5 : y_ev x (0, [(5, 1)]) = x 5 := (l_e1 _ _)
    have E6 : y_ev x (0, [(6, 1)]) = x 6 := (l_e1 _ _)
    have E7 : y_ev x (0, [(7, 1)]) = x 7 := (l_e1 _ _)
    have E8 : y_ev x (0, [(8, 1)]) = x 8 := (l_e1 _ _)
    have E9 : y_ev x (0, [(9, 1)]) = x 9 := (l_e1 _ _)
    have E10 : y_ev x (0, [(10, 1)]) = x 10 := (l_e1 _ _)
    have E11 : y_ev x (0, [(11, 1)]) = x 11 := (l_e1 _ _)
    have E12 : y_ev x (8, []) = 8 := (l_e0 _ _)
    have E13 : y_ev x (0, [(13, 1)]) = x 13 := (l_e1 _ _)
    have E14 : y_ev x (0, [(14, 1)]) = x 14 := (l_e1 _ _)
    have E15 : y_ev x (0, [(15, 1)]) = x 15 := (l_e1 _ _)
    have E16 : y_ev x (0, [(16, 1)]) = x 16 := (l_e1 _ _)
    have E17 : y_ev x (0, [(17, 1)]) = x 17 := (l_e1 _ _)
    have E18 : y_ev x (0, [(18, 1)]) = x 18 := (l_e1 _ _)
    have E19 : y_ev x (0, [(0, 1)]) = x 0 := (l_e1 _ _)
    have E20 : y_ev x (0, []) = 0 := (l_e0 _ _)
    have E21 : y_ev x (7, []) = 7 := (l_e0 _ _)
    have E22 : y_ev x (31, []) = 31 := (l_e0 _ _)
    have E23 : y_ev x (16, []) = 16 := (l_e0 _ _)
    have E24 : y_ev x (24, []) = 24 := (l_e0 _ _)
    have E25 : y_ev x (18, [(0, 1)]) = x 0 + 18 := (by show ((18) : Int) + ((1) * x 0 + 0) = x 0 + 18; omega)
    have E26 : y_ev x (0, [(0, 6), (1, 1)]) = 6 * x 0 + x 1 := (by show ((0) : Int) + ((6) * x 0 + ((1) * x 1 + 0)) = 6 * x 0 + x 1; omega)
    have E27 : y_ev x (0, [(1, 1)]) = x 1 := (l_e1 _ _)
    have T0 : q_plc v (y_ev x (0, [(12, 1)])) (y_ev x (2, [])) (y_ev x (0, [(2, 1)])) (e_9 (y_ev x (0, [(3, 1)])) (y_ev x (0, [(4, 1)])) (y_ev x (0, [(5, 1)])) (y_ev x (0, [(6, 1)])) (y_ev x (0, [(7, 1)])) (y_ev x (0, [(8, 1)])) (y_ev x (0, [(9, 1)])) (y_ev x (0, [(10, 1)])) (y_ev x (0, [(11, 1)]))) := h.2.2.2.1
    (try rw [E0] at T0); (try rw [E1] at T0); (try rw [E2] at T0); (try rw [E3] at T0); (try rw [E4] at T0); (try rw [E5] at T0); (try rw [E6] at T0); (try rw [E7] at T0); (try rw [E8] at T0); (try rw [E9] at T0); (try rw [E10] at T0); (try rw [E11] at T0)
    have T1 : q_qry v (y_ev x (8, [])) (y_ev x (0, [(12, 1)])) (y_ev x (0, [(13, 1)])) (y_ev x (0, [(14, 1)])) (y_ev x (0, [(15, 1)])) (y_ev x (0, [(16, 1)])) (y_ev x (0, [(17, 1)])) (y_ev x (0, [(18, 1)])) (y_ev x (0, [(0, 1)])) (y_ev x (0, [])) (y_ev x (0, [(3, 1)])) := h.2.2.2.2.1
    (try rw [E12] at T1); (try rw [E0] at T1); (try rw [E13] at T1); (try rw [E14] at T1); (try rw [E15] at T1); (try rw [E16] at T1); (try rw [E17] at T1); (try rw [E18] at T1); (try rw [E19] at T1); (try rw [E20] at T1); (try rw [E3] at T1)
    have T2 : q_qry v (y_ev x (7, [])) (y_ev x (0, [(12, 1)])) (y_ev x (0, [(13, 1)])) (y_ev x (0, [(14, 1)])) (y_ev x (0, [(15, 1)])) (y_ev x (0, [(16, 1)])) (y_ev x (0, [(17, 1)])) (y_ev x (0, [(18, 1)])) (y_ev x (0, [(0, 1)])) (y_ev x (0, [])) (y_ev x (0, [(4, 1)])) := h.2.2.2.2.2.1
    (try rw [E21] at T2); (try rw [E0] at T2); (try rw [E13] at T2); (try rw [E14] at T2); (try rw [E15] at T2); (try rw [E16] at T2); (try rw [E17] at T2); (try rw [E18] at T2); (try rw [E19] at T2); (try rw [E20] at T2); (try rw [E4] at T2)
    have T3 : q_qry v (y_ev x (8, [])) (y_ev x (0, [(12, 1)])) (y_ev x (0, [(13, 1)])) (y_ev x (0, [(14, 1)])) (y_ev x (0, [(15, 1)])) (y_ev x (0, [(16, 1)])) (y_ev x (0, [(17, 1)])) (y_ev x (0, [(18, 1)])) (y_ev x (31, [])) (y_ev x (0, [])) (y_ev x (0, [(6, 1)])) := h.2.2.2.2.2.2.1
    (try rw [E12] at T3); (try rw [E0] at T3); (try rw [E13] at T3); (try rw [E14] at T3); (try rw [E15] at T3); (try rw [E16] at T3); (try rw [E17] at T3); (try rw [E18] at T3); (try rw [E22] at T3); (try rw [E20] at T3); (try rw [E6] at T3)
    have T4 : q_qry v (y_ev x (16, [])) (y_ev x (0, [(12, 1)])) (y_ev x (0, [(13, 1)])) (y_ev x (0, [(14, 1)])) (y_ev x (0, [(15, 1)])) (y_ev x (0, [(16, 1)])) (y_ev x (0, [(17, 1)])) (y_ev x (0, [(18, 1)])) (y_ev x (0, [(0, 1)])) (y_ev x (0, [])) (y_ev x (0, [(7, 1)])) := h.2.2.2.2.2.2.2.1
    (try rw [E23] at T4); (try rw [E0] at T4); (try rw [E13] at T4); (try rw [E14] at T4); (try rw [E15] at T4); (try rw [E16] at T4); (try rw [E17] at T4); (try rw [E18] at T4); (try rw [E19] at T4); (try rw [E20] at T4); (try rw [E7] at T4)
    have T5 : q_qry v (y_ev x (8, [])) (y_ev x (0, [(12, 1)])) (y_ev x (0, [(13, 1)])) (y_ev x (0, [(14, 1)])) (y_ev x (0, [(15, 1)])) (y_ev x (0, [(16, 1)])) (y_ev x (0, [(17, 1)])) (y_ev x (0, [(18, 1)])) (y_ev x (24, [])) (y_ev x (0, [])) (y_ev x (0, [(9, 1)])) := h.2.2.2.2.2.2.2.2.1
    (try rw [E12] at T5); (try rw [E0] at T5); (try rw [E13] at T5); (try rw [E14] at T5); (try rw [E15] at T5); (try rw [E16] at T5); (try rw [E17] at T5); (try rw [E18] at T5); (try rw [E24] at T5); (try rw [E20] at T5); (try rw [E9] at T5)
    have T6 : q_qry v (y_ev x (8, [])) (y_ev x (0, [(12, 1)])) (y_ev x (0, [(13, 1)])) (y_ev x (0, [(14, 1)])) (y_ev x (0, [(15, 1)])) (y_ev x (0, [(16, 1)])) (y_ev x (0, [(17, 1)])) (y_ev x (0, [(18, 1)])) (y_ev x (18, [(0, 1)])) (y_ev x (0, [])) (y_ev x (0, [(10, 1)])) := h.2.2.2.2.2.2.2.2.2.1
    (try rw [E12] at T6); (try rw [E0] at T6); (try rw [E13] at T6); (try rw [E14] at T6); (try rw [E15] at T6); (try rw [E16] at T6); (try rw [E17] at T6); (try rw [E18] at T6); (try rw [E25] at T6); (try rw [E20] at T6); (try rw [E10] at T6)
    have T7 : v 18 (y_ev x (0, [(0, 6), (1, 1)])) = (y_ev x (0, [(5, 1)])) := h.2.2.2.2.2.2.2.2.2.2.1
    (try rw [E26] at T7); (try rw [E5] at T7)
    have T8 : q_qry v (y_ev x (7, [])) (y_ev x (0, [(12, 1)])) (y_ev x (0, [(13, 1)])) (y_ev x (0, [(14, 1)])) (y_ev x (0, [(15, 1)])) (y_ev x (0, [(16, 1)])) (y_ev x (0, [(17, 1)])) (y_ev x (0, [(18, 1)])) (y_ev x (0, [(1, 1)])) (y_ev x (0, [])) (y_ev x (0, [(11, 1)])) := h.2.2.2.2.2.2.2.2.2.2.2.1
    (try rw [E21] at T8); (try rw [E0] at T8); (try rw [E13] at T8); (try rw [E14] at T8); (try rw [E15] at T8); (try rw [E16] at T8); (try rw [E17] at T8); (try rw [E18] at T8); (try rw [E27] at T8); (try rw [E20] at T8); (try rw [E11] at T8)
    have K := k_joQ (V := v) (h := x 0) (g := x 1) (r := x 2) (e0 := x 3) (e1 := x 4) (e2 := x 5) (e3 := x 6) (e4 := x 7) (e5 := x 8) (e6 := x 9) (e7 := x 10) (e8 := x 11) (q := x 12) (b := x 13) (s := x 14) (o := x 15) (a1 := x 16) (a2 := x 17) (a3 := x 18) T0 T1 T2 T3 T4 T5 T6 T7 T8 C0 C1 C2 C3 C4 C5
    refine l_outH rfl (And.intro h.1 ?_)
    have O0 : y_ev x (14, []) = 14 := l_e0 _ _
    have O1 : y_ev x (0, [(12, 1)]) = x 12 := l_e1 _ _
    have O2 : y_ev x (0, [(13, 1)]) = x 13 := l_e1 _ _
    have O3 : y_ev x (0, [(14, 1)]) = x 14 := l_e1 _ _
    have O4 : y_ev x (0, [(15, 1)]) = x 15 := l_e1 _ _
    have O5 : y_ev x (0, [(16, 1)]) = x 16 := l_e1 _ _
    have O6 : y_ev x (0, [(17, 1)]) = x 17 := l_e1 _ _
    have O7 : y_ev x (0, [(18, 1)]) = x 18 := l_e1 _ _
    have O8 : y_ev x (0, [(0, 1)]) = x 0 := l_e1 _ _
    have O9 : y_ev x (0, [(1, 1)]) = x 1 := l_e1 _ _
    have O10 : y_ev x (0, [(2, 1)]) = x 2 := l_e1 _ _
    show (True) ∧ (q_qry v (y_ev x (14, [])) (y_ev x (0, [(12, 1)])) (y_ev x (0, [(13, 1)])) (y_ev x (0, [(14, 1)])) (y_ev x (0, [(15, 1)])) (y_ev x (0, [(16, 1)])) (y_ev x (0, [(17, 1)])) (y_ev x (0, [(18, 1)])) (y_ev x (0, [(0, 1)])) (y_ev x (0, [(1, 1)])) (y_ev x (0, [(2, 1)])) ∧ True)
    (try rw [O0]); (try rw [O1]); (try rw [O2]); (try rw [O3]); (try rw [O4]); (try rw [O5]); (try rw [O6]); (try rw [O7]); (try rw [O8]); (try rw [O9]); (try rw [O10])
    exact K
def lm_846p : zS := ((lm_650pi_0 (lm_650pi_1 [])), [(29, false)], [((-1), [(0, 1)]), (0, [(0, (-1)), (3, 1)]), (6, [(0, (-1))])], [], [(0, 0, 0, [(0, 1)])], [(0, (true, 0, (-1), [(0, 1)]), 0, 0, 0, [(1, 1)])], [(235, [(0, [(2, 1)]), (0, [(3, 1)]), (0, [(4, 1)]), (0, [(5, 1)]), (0, [(6, 1)]), (0, [(7, 1)]), (0, [(8, 1)]), (0, [(9, 1)]), (0, [(10, 1)]), (0, [(11, 1)]), (0, [(12, 1)])])])
def lm_846q0 : zS := ((lm_650pi_0 (lm_650pi_1 [])), [(29, false)], [(0, [(1, 1)]), ((-1), [(1, (-1)), (2, 1)])], [], [], [], [(238, [(8, []), (0, [(6, 1)]), (0, [(7, 1)]), (0, [(8, 1)]), (0, [(9, 1)]), (0, [(10, 1)]), (0, [(11, 1)]), (0, [(12, 1)]), (24, [(0, 1)]), (0, []), (0, [(1, 1)])]), (238, [(6, []), (0, [(6, 1)]), (0, [(7, 1)]), (0, [(8, 1)]), (0, [(9, 1)]), (0, [(10, 1)]), (0, [(11, 1)]), (0, [(12, 1)]), (0, [(1, 1)]), (0, []), ((-1), [(0, 1)])])])
def lm_846 : zLem := (lm_846p, [lm_846q0])
theorem lk_846 : l_core lm_846 := by
  first
  | skip
    intro v x h
    have G0 := h.2.2.1
    have K := k_celX (V := v) (i := x 0) (u := x 1) (H := x 2) (p := x 3) (y := x 4) (d := x 5) (q := x 6) (b := x 7) (s := x 8) (o := x 9) (a1 := x 10) (a2 := x 11) (a3 := x 12) (l_c11 (fun w0 w1 w2 w3 w4 w5 w6 w7 w8 w9 w10 : Int => q_sto v 0 w0 w1 w2 w3 w4 w5 w6 w7 w8 w9 w10) (l_e1 x 2) (l_e1 x 3) (l_e1 x 4) (l_e1 x 5) (l_e1 x 6) (l_e1 x 7) (l_e1 x 8) (l_e1 x 9) (l_e1 x 10) (l_e1 x 11) (l_e1 x 12) (h.2.2.2.1)) (l_cc (l_q2 1 x 0) (h.2.1.1)) (l_cc (l_q4 x 0 3) (h.2.1.2.1)) (l_cc (l_q1 6 x 0) (h.2.1.2.2.1)) (l_ff (f := v 29) (L := j_len 29) (l_q2 1 x 0) (l_e1 x 1) (G0.1.1))
    refine l_outH rfl (And.intro h.1 ?_)
    exact l_o14 (fun w0 w1 w2 w3 w4 w5 w6 w7 w8 w9 w10 w11 w12 w13 : Int => (0 ≤ w0 ∧ 0 ≤ w1 ∧ True) ∧ (q_qry v w2 w3 w4 w5 w6 w7 w8 w9 w10 w11 w0 ∧ q_qry v w12 w3 w4 w5 w6 w7 w8 w9 w0 w11 w13 ∧ True)) (l_e1 x 1) (l_q6 1 x 1 2) (l_e0 x (8)) (l_e1 x 6) (l_e1 x 7) (l_e1 x 8) (l_e1 x 9) (l_e1 x 10) (l_e1 x 11) (l_e1 x 12) (l_q3 24 x 0) (l_e0 x (0)) (l_e0 x (6)) (l_q2 1 x 0) K
  | skip
    intro v x h
    have G0 := h.2.2.1
    have C0 : (0 : Int) ≤ x 0 - 1 := l_cc (a := y_ev x ((-1), [(0, 1)])) (by show ((-1) : Int) + ((1) * x 0 + 0) = x 0 - 1; omega) (h.2.1.1)
    have C1 : (0 : Int) ≤ x 3 - x 0 := l_cc (a := y_ev x (0, [(0, (-1)), (3, 1)])) (by show ((0) : Int) + ((-1) * x 0 + ((1) * x 3 + 0)) = x 3 - x 0; omega) (h.2.1.2.1)
    have C2 : (0 : Int) ≤ 6 - x 0 := l_cc (a := y_ev x (6, [(0, (-1))])) (by show ((6) : Int) + ((-1) * x 0 + 0) = 6 - x 0; omega) (h.2.1.2.2.1)
    have F0 : (0 : Int) ≤ x 0 - 1 ∧ (x 0 - 1 : Int) < j_len 29 ∧ v 29 (x 0 - 1) = x 1 := l_ff (f := v 29) (L := j_len 29) (a := y_ev x ((-1), [(0, 1)])) (b := y_ev x (0, [(1, 1)])) (by show ((-1) : Int) + ((1) * x 0 + 0) = x 0 - 1; omega) (l_e1 _ _) (G0.1.1)
    have E0 : y_ev x (0, [(2, 1)]) = x 2 := (l_e1 _ _)
    have E1 : y_ev x (0, [(3, 1)]) = x 3 := (l_e1 _ _)
    have E2 : y_ev x (0, [(4, 1)]) = x 4 := (l_e1 _ _)
    have E3 : y_ev x (0, [(5, 1)]) = x 5 := (l_e1 _ _)
    have E4 : y_ev x (0, [(6, 1)]) = x 6 := (l_e1 _ _)
    have E5 : y_ev x (0, [(7, 1)]) = x 7 := (l_e1 _ _)
    have E6 : y_ev x (0, [(8, 1)]) = x 8 := (l_e1 _ _)
    have E7 : y_ev x (0, [(9, 1)]) = x 9 := (l_e1 _ _)
    have E8 : y_ev x (0, [(10, 1)]) = x 10 := (l_e1 _ _)
    have E9 : y_ev x (0, [(11, 1)]) = x 11 := (l_e1 _ _)
    have E10 : y_ev x (0, [(12, 1)]) = x 12 := (l_e1 _ _)
    have T0 : q_sto v 0 (y_ev x (0, [(2, 1)])) (y_ev x (0, [(3, 1)])) (y_ev x (0, [(4, 1)])) (y_ev x (0, [(5, 1)])) (y_ev x (0, [(6, 1)])) (y_ev x (0, [(7, 1)])) (y_ev x (0, [(8, 1)])) (y_ev x (0, [(9, 1)])) (y_ev x (0, [(10, 1)])) (y_ev x (0, [(11, 1)])) (y_ev x (0, [(12, 1)])) := h.2.2.2.1
    (try rw [E0] at T0); (try rw [E1] at T0); (try rw [E2] at T0); (try rw [E3] at T0); (try rw [E4] at T0); (try rw [E5] at T0); (try rw [E6] at T0); (try rw [E7] at T0); (try rw [E8] at T0); (try rw [E9] at T0); (try rw [E10] at T0)
    have K := k_celX (V := v) (i := x 0) (u := x 1) (H := x 2) (p := x 3) (y := x 4) (d := x 5) (q := x 6) (b := x 7) (s := x 8) (o := x 9) (a1 := x 10) (a2 := x 11) (a3 := x 12) T0 C0 C1 C2 F0
    refine l_outH rfl (And.intro h.1 ?_)
    have O0 : y_ev x (0, [(1, 1)]) = x 1 := l_e1 _ _
    have O1 : y_ev x ((-1), [(1, (-1)), (2, 1)]) = x 2 - x 1 - 1 := by show ((-1) : Int) + ((-1) * x 1 + ((1) * x 2 + 0)) = _; omega
    have O2 : y_ev x (8, []) = 8 := l_e0 _ _
    have O3 : y_ev x (0, [(6, 1)]) = x 6 := l_e1 _ _
    have O4 : y_ev x (0, [(7, 1)]) = x 7 := l_e1 _ _
    have O5 : y_ev x (0, [(8, 1)]) = x 8 := l_e1 _ _
    have O6 : y_ev x (0, [(9, 1)]) = x 9 := l_e1 _ _
    have O7 : y_ev x (0, [(10, 1)]) = x 10 := l_e1 _ _
    have O8 : y_ev x (0, [(11, 1)]) = x 11 := l_e1 _ _
    have O9 : y_ev x (0, [(12, 1)]) = x 12 := l_e1 _ _
    have O10 : y_ev x (24, [(0, 1)]) = x 0 + 24 := by show ((24) : Int) + ((1) * x 0 + 0) = _; omega
    have O11 : y_ev x (0, []) = 0 := l_e0 _ _
    have O12 : y_ev x (6, []) = 6 := l_e0 _ _
    have O13 : y_ev x ((-1), [(0, 1)]) = x 0 - 1 := by show ((-1) : Int) + ((1) * x 0 + 0) = _; omega
    show (0 ≤ y_ev x (0, [(1, 1)]) ∧ 0 ≤ y_ev x ((-1), [(1, (-1)), (2, 1)]) ∧ True) ∧ (q_qry v (y_ev x (8, [])) (y_ev x (0, [(6, 1)])) (y_ev x (0, [(7, 1)])) (y_ev x (0, [(8, 1)])) (y_ev x (0, [(9, 1)])) (y_ev x (0, [(10, 1)])) (y_ev x (0, [(11, 1)])) (y_ev x (0, [(12, 1)])) (y_ev x (24, [(0, 1)])) (y_ev x (0, [])) (y_ev x (0, [(1, 1)])) ∧ q_qry v (y_ev x (6, [])) (y_ev x (0, [(6, 1)])) (y_ev x (0, [(7, 1)])) (y_ev x (0, [(8, 1)])) (y_ev x (0, [(9, 1)])) (y_ev x (0, [(10, 1)])) (y_ev x (0, [(11, 1)])) (y_ev x (0, [(12, 1)])) (y_ev x (0, [(1, 1)])) (y_ev x (0, [])) (y_ev x ((-1), [(0, 1)])) ∧ True)
    (try rw [O0]); (try rw [O1]); (try rw [O2]); (try rw [O3]); (try rw [O4]); (try rw [O5]); (try rw [O6]); (try rw [O7]); (try rw [O8]); (try rw [O9]); (try rw [O10]); (try rw [O11]); (try rw [O12]); (try rw [O13])
    exact K
def lm_847p : zS := ((lm_650pi_0 (lm_650pi_1 [])), [(31, false)], [(0, [(0, 1)]), ((-1), [(0, (-1)), (3, 1)]), (5, [(0, (-1))])], [], [(0, 0, 0, [(0, 1)])], [(0, (true, 0, 0, [(0, 1)]), 0, 0, 0, [(1, 1)])], [(235, [(0, [(2, 1)]), (0, [(3, 1)]), (0, [(4, 1)]), (0, [(5, 1)]), (0, [(6, 1)]), (0, [(7, 1)]), (0, [(8, 1)]), (0, [(9, 1)]), (0, [(10, 1)]), (0, [(11, 1)]), (0, [(12, 1)])])])
def lm_847 : zLem := (lm_847p, [([((-2147483648), 2147483647), ((-2147483648), 2147483647), ((-2147483648), 2147483647), ((-2147483648), 2147483647), ((-2147483648), 2147483647), ((-2147483648), 2147483647), ((-2147483648), 2147483647), ((-2147483648), 2147483647), ((-2147483648), 2147483647), ((-2147483648), 2147483647), ((-2147483648), 2147483647), ((-2147483648), 2147483647), ((-2147483648), 2147483647)], [(31, false)], [(0, [(1, 1)]), (99, [(1, (-1))])], [], [], [], [(238, [(18, []), (0, [(6, 1)]), (0, [(7, 1)]), (0, [(8, 1)]), (0, [(9, 1)]), (0, [(10, 1)]), (0, [(11, 1)]), (0, [(12, 1)]), (0, [(0, 1)]), (0, []), (0, [(1, 1)])])])])
theorem lk_847 : l_core lm_847 := by
  first
  | skip
    intro v x h
    have G0 := h.2.2.1
    have K := k_ctp (V := v) (i := x 0) (u := x 1) (H := x 2) (p := x 3) (y := x 4) (d := x 5) (q := x 6) (b := x 7) (s := x 8) (o := x 9) (a1 := x 10) (a2 := x 11) (a3 := x 12) (l_c11 (fun w0 w1 w2 w3 w4 w5 w6 w7 w8 w9 w10 : Int => q_sto v 0 w0 w1 w2 w3 w4 w5 w6 w7 w8 w9 w10) (l_e1 x 2) (l_e1 x 3) (l_e1 x 4) (l_e1 x 5) (l_e1 x 6) (l_e1 x 7) (l_e1 x 8) (l_e1 x 9) (l_e1 x 10) (l_e1 x 11) (l_e1 x 12) (h.2.2.2.1)) (l_cc (l_e1 x 0) (h.2.1.1)) (l_cc (l_q6 1 x 0 3) (h.2.1.2.1)) (l_cc (l_q1 5 x 0) (h.2.1.2.2.1)) (l_ff (f := v 31) (L := j_len 31) (l_e1 x 0) (l_e1 x 1) (G0.1.1))
    refine l_outH rfl (And.intro h.1 ?_)
    exact l_o12 (fun w0 w1 w2 w3 w4 w5 w6 w7 w8 w9 w10 w11 : Int => (0 ≤ w0 ∧ 0 ≤ w1 ∧ True) ∧ (q_qry v w2 w3 w4 w5 w6 w7 w8 w9 w10 w11 w0 ∧ True)) (l_e1 x 1) (l_q1 99 x 1) (l_e0 x (18)) (l_e1 x 6) (l_e1 x 7) (l_e1 x 8) (l_e1 x 9) (l_e1 x 10) (l_e1 x 11) (l_e1 x 12) (l_e1 x 0) (l_e0 x (0)) K
  | skip
    intro v x h
    have G0 := h.2.2.1
    have C0 : (0 : Int) ≤ x 0 := l_cc (a := y_ev x (0, [(0, 1)])) (l_e1 _ _) (h.2.1.1)
    have C1 : (0 : Int) ≤ x 3 - x 0 - 1 := l_cc (a := y_ev x ((-1), [(0, (-1)), (3, 1)])) (by show ((-1) : Int) + ((-1) * x 0 + ((1) * x 3 + 0)) = x 3 - x 0 - 1; omega) (h.2.1.2.1)
    have C2 : (0 : Int) ≤ 5 - x 0 := l_cc (a := y_ev x (5, [(0, (-1))])) (by show ((5) : Int) + ((-1) * x 0 + 0) = 5 - x 0; omega) (h.2.1.2.2.1)
    have F0 : (0 : Int) ≤ x 0 ∧ (x 0 : Int) < j_len 31 ∧ v 31 (x 0) = x 1 := l_ff (f := v 31) (L := j_len 31) (a := y_ev x (0, [(0, 1)])) (b := y_ev x (0, [(1, 1)])) (l_e1 _ _) (l_e1 _ _) (G0.1.1)
    have E0 : y_ev x (0, [(2, 1)]) = x 2 := (l_e1 _ _)
    have E1 : y_ev x (0, [(3, 1)]) = x 3 := (l_e1 _ _)
    have E2 : y_ev x (0, [(4, 1)]) = x 4 := (l_e1 _ _)
    have E3 : y_ev x (0, [(5, 1)]) = x 5 := (l_e1 _ _)
    have E4 : y_ev x (0, [(6, 1)]) = x 6 := (l_e1 _ _)
    have E5 : y_ev x (0, [(7, 1)]) = x 7 := (l_e1 _ _)
    have E6 : y_ev x (0, [(8, 1)]) = x 8 := (l_e1 _ _)
    have E7 : y_ev x (0, [(9, 1)]) = x 9 := (l_e1 _ _)
    have E8 : y_ev x (0, [(10, 1)]) = x 10 := (l_e1 _ _)
    have E9 : y_ev x (0, [(11, 1)]) = x 11 := (l_e1 _ _)
    have E10 : y_ev x (0, [(12, 1)]) = x 12 := (l_e1 _ _)
    have T0 : q_sto v 0 (y_ev x (0, [(2, 1)])) (y_ev x (0, [(3, 1)])) (y_ev x (0, [(4, 1)])) (y_ev x (0, [(5, 1)])) (y_ev x (0, [(6, 1)])) (y_ev x (0, [(7, 1)])) (y_ev x (0, [(8, 1)])) (y_ev x (0, [(9, 1)])) (y_ev x (0, [(10, 1)])) (y_ev x (0, [(11, 1)])) (y_ev x (0, [(12, 1)])) := h.2.2.2.1
    (try rw [E0] at T0); (try rw [E1] at T0); (try rw [E2] at T0); (try rw [E3] at T0); (try rw [E4] at T0); (try rw [E5] at T0); (try rw [E6] at T0); (try rw [E7] at T0); (try rw [E8] at T0); (try rw [E9] at T0); (try rw [E10] at T0)
    have K := k_ctp (V := v) (i := x 0) (u := x 1) (H := x 2) (p := x 3) (y := x 4) (d := x 5) (q := x 6) (b := x 7) (s := x 8) (o := x 9) (a1 := x 10) (a2 := x 11) (a3 := x 12) T0 C0 C1 C2 F0
    refine l_outH rfl (And.intro h.1 ?_)
    have O0 : y_ev x (0, [(1, 1)]) = x 1 := l_e1 _ _
    have O1 : y_ev x (99, [(1, (-1))]) = 99 - x 1 := by show ((99) : Int) + ((-1) * x 1 + 0) = _; omega
    have O2 : y_ev x (18, []) = 18 := l_e0 _ _
    have O3 : y_ev x (0, [(6, 1)]) = x 6 := l_e1 _ _
    have O4 : y_ev x (0, [(7, 1)]) = x 7 := l_e1 _ _
    have O5 : y_ev x (0, [(8, 1)]) = x 8 := l_e1 _ _
    have O6 : y_ev x (0, [(9, 1)]) = x 9 := l_e1 _ _
    have O7 : y_ev x (0, [(10, 1)]) = x 10 := l_e1 _ _
    have O8 : y_ev x (0, [(11, 1)]) = x 11 := l_e1 _ _
    have O9 : y_ev x (0, [(12, 1)]) = x 12 := l_e1 _ _
    have O10 : y_ev x (0, [(0, 1)]) = x 0 := l_e1 _ _
    have O11 : y_ev x (0, []) = 0 := l_e0 _ _
    show (0 ≤ y_ev x (0, [(1, 1)]) ∧ 0 ≤ y_ev x (99, [(1, (-1))]) ∧ True) ∧ (q_qry v (y_ev x (18, [])) (y_ev x (0, [(6, 1)])) (y_ev x (0, [(7, 1)])) (y_ev x (0, [(8, 1)])) (y_ev x (0, [(9, 1)])) (y_ev x (0, [(10, 1)])) (y_ev x (0, [(11, 1)])) (y_ev x (0, [(12, 1)])) (y_ev x (0, [(0, 1)])) (y_ev x (0, [])) (y_ev x (0, [(1, 1)])) ∧ True)
    (try rw [O0]); (try rw [O1]); (try rw [O2]); (try rw [O3]); (try rw [O4]); (try rw [O5]); (try rw [O6]); (try rw [O7]); (try rw [O8]); (try rw [O9]); (try rw [O10]); (try rw [O11])
    exact K
def lm_848p : zS := ((lm_650pi_0 (lm_650pi_1 [])), [(30, false)], [(0, [(0, 1)]), ((-1), [(0, (-1)), (3, 1)]), (5, [(0, (-1))])], [], [(0, 0, 0, [(0, 1)])], [(0, (true, 0, 0, [(0, 1)]), 0, 0, 0, [(1, 1)])], [(235, [(0, [(2, 1)]), (0, [(3, 1)]), (0, [(4, 1)]), (0, [(5, 1)]), (0, [(6, 1)]), (0, [(7, 1)]), (0, [(8, 1)]), (0, [(9, 1)]), (0, [(10, 1)]), (0, [(11, 1)]), (0, [(12, 1)])])])
def lm_848 : zLem := (lm_848p, [([((-2147483648), 2147483647), ((-2147483648), 2147483647), ((-2147483648), 2147483647), ((-2147483648), 2147483647), ((-2147483648), 2147483647), ((-2147483648), 2147483647), ((-2147483648), 2147483647), ((-2147483648), 2147483647), ((-2147483648), 2147483647), ((-2147483648), 2147483647), ((-2147483648), 2147483647), ((-2147483648), 2147483647), ((-2147483648), 2147483647)], [(30, false)], [((-1), [(1, 1)]), (99, [(1, (-1))])], [], [], [], [(238, [(19, []), (0, [(6, 1)]), (0, [(7, 1)]), (0, [(8, 1)]), (0, [(9, 1)]), (0, [(10, 1)]), (0, [(11, 1)]), (0, [(12, 1)]), (0, [(0, 1)]), (0, []), (0, [(1, 1)])])])])
theorem lk_848 : l_core lm_848 := by
  first
  | skip
    intro v x h
    have G0 := h.2.2.1
    have K := k_clp (V := v) (i := x 0) (u := x 1) (H := x 2) (p := x 3) (y := x 4) (d := x 5) (q := x 6) (b := x 7) (s := x 8) (o := x 9) (a1 := x 10) (a2 := x 11) (a3 := x 12) (l_c11 (fun w0 w1 w2 w3 w4 w5 w6 w7 w8 w9 w10 : Int => q_sto v 0 w0 w1 w2 w3 w4 w5 w6 w7 w8 w9 w10) (l_e1 x 2) (l_e1 x 3) (l_e1 x 4) (l_e1 x 5) (l_e1 x 6) (l_e1 x 7) (l_e1 x 8) (l_e1 x 9) (l_e1 x 10) (l_e1 x 11) (l_e1 x 12) (h.2.2.2.1)) (l_cc (l_e1 x 0) (h.2.1.1)) (l_cc (l_q6 1 x 0 3) (h.2.1.2.1)) (l_cc (l_q1 5 x 0) (h.2.1.2.2.1)) (l_ff (f := v 30) (L := j_len 30) (l_e1 x 0) (l_e1 x 1) (G0.1.1))
    refine l_outH rfl (And.intro h.1 ?_)
    exact l_o13 (fun w0 w1 w2 w3 w4 w5 w6 w7 w8 w9 w10 w11 w12 : Int => (0 ≤ w0 ∧ 0 ≤ w1 ∧ True) ∧ (q_qry v w2 w3 w4 w5 w6 w7 w8 w9 w10 w11 w12 ∧ True)) (l_q2 1 x 1) (l_q1 99 x 1) (l_e0 x (19)) (l_e1 x 6) (l_e1 x 7) (l_e1 x 8) (l_e1 x 9) (l_e1 x 10) (l_e1 x 11) (l_e1 x 12) (l_e1 x 0) (l_e0 x (0)) (l_e1 x 1) K
  | skip
    intro v x h
    have G0 := h.2.2.1
    have C0 : (0 : Int) ≤ x 0 := l_cc (a := y_ev x (0, [(0, 1)])) (l_e1 _ _) (h.2.1.1)
    have C1 : (0 : Int) ≤ x 3 - x 0 - 1 := l_cc (a := y_ev x ((-1), [(0, (-1)), (3, 1)])) (by show ((-1) : Int) + ((-1) * x 0 + ((1) * x 3 + 0)) = x 3 - x 0 - 1; omega) (h.2.1.2.1)
    have C2 : (0 : Int) ≤ 5 - x 0 := l_cc (a := y_ev x (5, [(0, (-1))])) (by show ((5) : Int) + ((-1) * x 0 + 0) = 5 - x 0; omega) (h.2.1.2.2.1)
    have F0 : (0 : Int) ≤ x 0 ∧ (x 0 : Int) < j_len 30 ∧ v 30 (x 0) = x 1 := l_ff (f := v 30) (L := j_len 30) (a := y_ev x (0, [(0, 1)])) (b := y_ev x (0, [(1, 1)])) (l_e1 _ _) (l_e1 _ _) (G0.1.1)
    have E0 : y_ev x (0, [(2, 1)]) = x 2 := (l_e1 _ _)
    have E1 : y_ev x (0, [(3, 1)]) = x 3 := (l_e1 _ _)
    have E2 : y_ev x (0, [(4, 1)]) = x 4 := (l_e1 _ _)
    have E3 : y_ev x (0, [(5, 1)]) = x 5 := (l_e1 _ _)
    have E4 : y_ev x (0, [(6, 1)]) = x 6 := (l_e1 _ _)
    have E5 : y_ev x (0, [(7, 1)]) = x 7 := (l_e1 _ _)
    have E6 : y_ev x (0, [(8, 1)]) = x 8 := (l_e1 _ _)
    have E7 : y_ev x (0, [(9, 1)]) = x 9 := (l_e1 _ _)
    have E8 : y_ev x (0, [(10, 1)]) = x 10 := (l_e1 _ _)
    have E9 : y_ev x (0, [(11, 1)]) = x 11 := (l_e1 _ _)
    have E10 : y_ev x (0, [(12, 1)]) = x 12 := (l_e1 _ _)
    have T0 : q_sto v 0 (y_ev x (0, [(2, 1)])) (y_ev x (0, [(3, 1)])) (y_ev x (0, [(4, 1)])) (y_ev x (0, [(5, 1)])) (y_ev x (0, [(6, 1)])) (y_ev x (0, [(7, 1)])) (y_ev x (0, [(8, 1)])) (y_ev x (0, [(9, 1)])) (y_ev x (0, [(10, 1)])) (y_ev x (0, [(11, 1)])) (y_ev x (0, [(12, 1)])) := h.2.2.2.1
    (try rw [E0] at T0); (try rw [E1] at T0); (try rw [E2] at T0); (try rw [E3] at T0); (try rw [E4] at T0); (try rw [E5] at T0); (try rw [E6] at T0); (try rw [E7] at T0); (try rw [E8] at T0); (try rw [E9] at T0); (try rw [E10] at T0)
    have K := k_clp (V := v) (i := x 0) (u := x 1) (H := x 2) (p := x 3) (y := x 4) (d := x 5) (q := x 6) (b := x 7) (s := x 8) (o := x 9) (a1 := x 10) (a2 := x 11) (a3 := x 12) T0 C0 C1 C2 F0
    refine l_outH rfl (And.intro h.1 ?_)
    have O0 : y_ev x ((-1), [(1, 1)]) = x 1 - 1 := by show ((-1) : Int) + ((1) * x 1 + 0) = _; omega
    have O1 : y_ev x (99, [(1, (-1))]) = 99 - x 1 := by show ((99) : Int) + ((-1) * x 1 + 0) = _; omega
    have O2 : y_ev x (19, []) = 19 := l_e0 _ _
    have O3 : y_ev x (0, [(6, 1)]) = x 6 := l_e1 _ _
    have O4 : y_ev x (0, [(7, 1)]) = x 7 := l_e1 _ _
    have O5 : y_ev x (0, [(8, 1)]) = x 8 := l_e1 _ _
    have O6 : y_ev x (0, [(9, 1)]) = x 9 := l_e1 _ _
    have O7 : y_ev x (0, [(10, 1)]) = x 10 := l_e1 _ _
    have O8 : y_ev x (0, [(11, 1)]) = x 11 := l_e1 _ _
    have O9 : y_ev x (0, [(12, 1)]) = x 12 := l_e1 _ _
    have O10 : y_ev x (0, [(0, 1)]) = x 0 := l_e1 _ _
    have O11 : y_ev x (0, []) = 0 := l_e0 _ _
    have O12 : y_ev x (0, [(1, 1)]) = x 1 := l_e1 _ _
    show (0 ≤ y_ev x ((-1), [(1, 1)]) ∧ 0 ≤ y_ev x (99, [(1, (-1))]) ∧ True) ∧ (q_qry v (y_ev x (19, [])) (y_ev x (0, [(6, 1)])) (y_ev x (0, [(7, 1)])) (y_ev x (0, [(8, 1)])) (y_ev x (0, [(9, 1)])) (y_ev x (0, [(10, 1)])) (y_ev x (0, [(11, 1)])) (y_ev x (0, [(12, 1)])) (y_ev x (0, [(0, 1)])) (y_ev x (0, [])) (y_ev x (0, [(1, 1)])) ∧ True)
    (try rw [O0]); (try rw [O1]); (try rw [O2]); (try rw [O3]); (try rw [O4]); (try rw [O5]); (try rw [O6]); (try rw [O7]); (try rw [O8]); (try rw [O9]); (try rw [O10]); (try rw [O11]); (try rw [O12])
    exact K
def lm_849p : zS := ((lm_650pi_0 (lm_650pi_1 [])), [(109, false)], [((-1), [(0, 1)]), (0, [(0, (-1)), (3, 1)]), (6, [(0, (-1))])], [], [(0, 0, 0, [(0, 1)])], [(0, (true, 0, (-1), [(0, 1)]), 0, 0, 0, [(1, 1)])], [(236, [(0, [(2, 1)]), (0, [(3, 1)]), (0, [(4, 1)]), (0, [(5, 1)]), (0, [(6, 1)]), (0, [(7, 1)]), (0, [(8, 1)]), (0, [(9, 1)]), (0, [(10, 1)]), (0, [(11, 1)]), (0, [(12, 1)])])])
def lm_849q0 : zS := ((lm_650pi_0 (lm_650pi_1 [])), [(109, false)], [(0, [(1, 1)]), ((-1), [(1, (-1)), (2, 1)])], [], [], [], [(238, [(8, []), (0, [(6, 1)]), (0, [(7, 1)]), (0, [(8, 1)]), (0, [(9, 1)]), (0, [(10, 1)]), (0, [(11, 1)]), (0, [(12, 1)]), (24, [(0, 1)]), (0, []), (0, [(1, 1)])]), (238, [(6, []), (0, [(6, 1)]), (0, [(7, 1)]), (0, [(8, 1)]), (0, [(9, 1)]), (0, [(10, 1)]), (0, [(11, 1)]), (0, [(12, 1)]), (0, [(1, 1)]), (0, []), ((-1), [(0, 1)])])])
def lm_849 : zLem := (lm_849p, [lm_849q0])
theorem lk_849 : l_core lm_849 := by
  first
  | skip
    intro v x h
    have G0 := h.2.2.1
    have K := k_celXt (V := v) (i := x 0) (u := x 1) (H := x 2) (p := x 3) (y := x 4) (d := x 5) (q := x 6) (b := x 7) (s := x 8) (o := x 9) (a1 := x 10) (a2 := x 11) (a3 := x 12) (l_c11 (fun w0 w1 w2 w3 w4 w5 w6 w7 w8 w9 w10 : Int => q_sto v 1 w0 w1 w2 w3 w4 w5 w6 w7 w8 w9 w10) (l_e1 x 2) (l_e1 x 3) (l_e1 x 4) (l_e1 x 5) (l_e1 x 6) (l_e1 x 7) (l_e1 x 8) (l_e1 x 9) (l_e1 x 10) (l_e1 x 11) (l_e1 x 12) (h.2.2.2.1)) (l_cc (l_q2 1 x 0) (h.2.1.1)) (l_cc (l_q4 x 0 3) (h.2.1.2.1)) (l_cc (l_q1 6 x 0) (h.2.1.2.2.1)) (l_ff (f := v 109) (L := j_len 109) (l_q2 1 x 0) (l_e1 x 1) (G0.1.1))
    refine l_outH rfl (And.intro h.1 ?_)
    exact l_o14 (fun w0 w1 w2 w3 w4 w5 w6 w7 w8 w9 w10 w11 w12 w13 : Int => (0 ≤ w0 ∧ 0 ≤ w1 ∧ True) ∧ (q_qry v w2 w3 w4 w5 w6 w7 w8 w9 w10 w11 w0 ∧ q_qry v w12 w3 w4 w5 w6 w7 w8 w9 w0 w11 w13 ∧ True)) (l_e1 x 1) (l_q6 1 x 1 2) (l_e0 x (8)) (l_e1 x 6) (l_e1 x 7) (l_e1 x 8) (l_e1 x 9) (l_e1 x 10) (l_e1 x 11) (l_e1 x 12) (l_q3 24 x 0) (l_e0 x (0)) (l_e0 x (6)) (l_q2 1 x 0) K
  | skip
    intro v x h
    have G0 := h.2.2.1
    have C0 : (0 : Int) ≤ x 0 - 1 := l_cc (a := y_ev x ((-1), [(0, 1)])) (by show ((-1) : Int) + ((1) * x 0 + 0) = x 0 - 1; omega) (h.2.1.1)
    have C1 : (0 : Int) ≤ x 3 - x 0 := l_cc (a := y_ev x (0, [(0, (-1)), (3, 1)])) (by show ((0) : Int) + ((-1) * x 0 + ((1) * x 3 + 0)) = x 3 - x 0; omega) (h.2.1.2.1)
    have C2 : (0 : Int) ≤ 6 - x 0 := l_cc (a := y_ev x (6, [(0, (-1))])) (by show ((6) : Int) + ((-1) * x 0 + 0) = 6 - x 0; omega) (h.2.1.2.2.1)
    have F0 : (0 : Int) ≤ x 0 - 1 ∧ (x 0 - 1 : Int) < j_len 109 ∧ v 109 (x 0 - 1) = x 1 := l_ff (f := v 109) (L := j_len 109) (a := y_ev x ((-1), [(0, 1)])) (b := y_ev x (0, [(1, 1)])) (by show ((-1) : Int) + ((1) * x 0 + 0) = x 0 - 1; omega) (l_e1 _ _) (G0.1.1)
    have E0 : y_ev x (0, [(2, 1)]) = x 2 := (l_e1 _ _)
    have E1 : y_ev x (0, [(3, 1)]) = x 3 := (l_e1 _ _)
    have E2 : y_ev x (0, [(4, 1)]) = x 4 := (l_e1 _ _)
    have E3 : y_ev x (0, [(5, 1)]) = x 5 := (l_e1 _ _)
    have E4 : y_ev x (0, [(6, 1)]) = x 6 := (l_e1 _ _)
    have E5 : y_ev x (0, [(7, 1)]) = x 7 := (l_e1 _ _)
    have E6 : y_ev x (0, [(8, 1)]) = x 8 := (l_e1 _ _)
    have E7 : y_ev x (0, [(9, 1)]) = x 9 := (l_e1 _ _)
    have E8 : y_ev x (0, [(10, 1)]) = x 10 := (l_e1 _ _)
    have E9 : y_ev x (0, [(11, 1)]) = x 11 := (l_e1 _ _)
    have E10 : y_ev x (0, [(12, 1)]) = x 12 := (l_e1 _ _)
    have T0 : q_sto v 1 (y_ev x (0, [(2, 1)])) (y_ev x (0, [(3, 1)])) (y_ev x (0, [(4, 1)])) (y_ev x (0, [(5, 1)])) (y_ev x (0, [(6, 1)])) (y_ev x (0, [(7, 1)])) (y_ev x (0, [(8, 1)])) (y_ev x (0, [(9, 1)])) (y_ev x (0, [(10, 1)])) (y_ev x (0, [(11, 1)])) (y_ev x (0, [(12, 1)])) := h.2.2.2.1
    (try rw [E0] at T0); (try rw [E1] at T0); (try rw [E2] at T0); (try rw [E3] at T0); (try rw [E4] at T0); (try rw [E5] at T0); (try rw [E6] at T0); (try rw [E7] at T0); (try rw [E8] at T0); (try rw [E9] at T0); (try rw [E10] at T0)
    have K := k_celXt (V := v) (i := x 0) (u := x 1) (H := x 2) (p := x 3) (y := x 4) (d := x 5) (q := x 6) (b := x 7) (s := x 8) (o := x 9) (a1 := x 10) (a2 := x 11) (a3 := x 12) T0 C0 C1 C2 F0
    refine l_outH rfl (And.intro h.1 ?_)
    have O0 : y_ev x (0, [(1, 1)]) = x 1 := l_e1 _ _
    have O1 : y_ev x ((-1), [(1, (-1)), (2, 1)]) = x 2 - x 1 - 1 := by show ((-1) : Int) + ((-1) * x 1 + ((1) * x 2 + 0)) = _; omega
    have O2 : y_ev x (8, []) = 8 := l_e0 _ _
    have O3 : y_ev x (0, [(6, 1)]) = x 6 := l_e1 _ _
    have O4 : y_ev x (0, [(7, 1)]) = x 7 := l_e1 _ _
    have O5 : y_ev x (0, [(8, 1)]) = x 8 := l_e1 _ _
    have O6 : y_ev x (0, [(9, 1)]) = x 9 := l_e1 _ _
    have O7 : y_ev x (0, [(10, 1)]) = x 10 := l_e1 _ _
    have O8 : y_ev x (0, [(11, 1)]) = x 11 := l_e1 _ _
    have O9 : y_ev x (0, [(12, 1)]) = x 12 := l_e1 _ _
    have O10 : y_ev x (24, [(0, 1)]) = x 0 + 24 := by show ((24) : Int) + ((1) * x 0 + 0) = _; omega
    have O11 : y_ev x (0, []) = 0 := l_e0 _ _
    have O12 : y_ev x (6, []) = 6 := l_e0 _ _
    have O13 : y_ev x ((-1), [(0, 1)]) = x 0 - 1 := by show ((-1) : Int) + ((1) * x 0 + 0) = _; omega
    show (0 ≤ y_ev x (0, [(1, 1)]) ∧ 0 ≤ y_ev x ((-1), [(1, (-1)), (2, 1)]) ∧ True) ∧ (q_qry v (y_ev x (8, [])) (y_ev x (0, [(6, 1)])) (y_ev x (0, [(7, 1)])) (y_ev x (0, [(8, 1)])) (y_ev x (0, [(9, 1)])) (y_ev x (0, [(10, 1)])) (y_ev x (0, [(11, 1)])) (y_ev x (0, [(12, 1)])) (y_ev x (24, [(0, 1)])) (y_ev x (0, [])) (y_ev x (0, [(1, 1)])) ∧ q_qry v (y_ev x (6, [])) (y_ev x (0, [(6, 1)])) (y_ev x (0, [(7, 1)])) (y_ev x (0, [(8, 1)])) (y_ev x (0, [(9, 1)])) (y_ev x (0, [(10, 1)])) (y_ev x (0, [(11, 1)])) (y_ev x (0, [(12, 1)])) (y_ev x (0, [(1, 1)])) (y_ev x (0, [])) (y_ev x ((-1), [(0, 1)])) ∧ True)
    (try rw [O0]); (try rw [O1]); (try rw [O2]); (try rw [O3]); (try rw [O4]); (try rw [O5]); (try rw [O6]); (try rw [O7]); (try rw [O8]); (try rw [O9]); (try rw [O10]); (try rw [O11]); (try rw [O12]); (try rw [O13])
    exact K
def lm_850p : zS := ((lm_650pi_0 (lm_650pi_1 [])), [(111, false)], [(0, [(0, 1)]), ((-1), [(0, (-1)), (3, 1)]), (5, [(0, (-1))])], [], [(0, 0, 0, [(0, 1)])], [(0, (true, 0, 0, [(0, 1)]), 0, 0, 0, [(1, 1)])], [(236, [(0, [(2, 1)]), (0, [(3, 1)]), (0, [(4, 1)]), (0, [(5, 1)]), (0, [(6, 1)]), (0, [(7, 1)]), (0, [(8, 1)]), (0, [(9, 1)]), (0, [(10, 1)]), (0, [(11, 1)]), (0, [(12, 1)])])])
def lm_850 : zLem := (lm_850p, [([((-2147483648), 2147483647), ((-2147483648), 2147483647), ((-2147483648), 2147483647), ((-2147483648), 2147483647), ((-2147483648), 2147483647), ((-2147483648), 2147483647), ((-2147483648), 2147483647), ((-2147483648), 2147483647), ((-2147483648), 2147483647), ((-2147483648), 2147483647), ((-2147483648), 2147483647), ((-2147483648), 2147483647), ((-2147483648), 2147483647)], [(111, false)], [(0, [(1, 1)]), (99, [(1, (-1))])], [], [], [], [(238, [(18, []), (0, [(6, 1)]), (0, [(7, 1)]), (0, [(8, 1)]), (0, [(9, 1)]), (0, [(10, 1)]), (0, [(11, 1)]), (0, [(12, 1)]), (0, [(0, 1)]), (0, []), (0, [(1, 1)])])])])
theorem lk_850 : l_core lm_850 := by
  first
  | skip
    intro v x h
    have G0 := h.2.2.1
    have K := k_ctpt (V := v) (i := x 0) (u := x 1) (H := x 2) (p := x 3) (y := x 4) (d := x 5) (q := x 6) (b := x 7) (s := x 8) (o := x 9) (a1 := x 10) (a2 := x 11) (a3 := x 12) (l_c11 (fun w0 w1 w2 w3 w4 w5 w6 w7 w8 w9 w10 : Int => q_sto v 1 w0 w1 w2 w3 w4 w5 w6 w7 w8 w9 w10) (l_e1 x 2) (l_e1 x 3) (l_e1 x 4) (l_e1 x 5) (l_e1 x 6) (l_e1 x 7) (l_e1 x 8) (l_e1 x 9) (l_e1 x 10) (l_e1 x 11) (l_e1 x 12) (h.2.2.2.1)) (l_cc (l_e1 x 0) (h.2.1.1)) (l_cc (l_q6 1 x 0 3) (h.2.1.2.1)) (l_cc (l_q1 5 x 0) (h.2.1.2.2.1)) (l_ff (f := v 111) (L := j_len 111) (l_e1 x 0) (l_e1 x 1) (G0.1.1))
    refine l_outH rfl (And.intro h.1 ?_)
    exact l_o12 (fun w0 w1 w2 w3 w4 w5 w6 w7 w8 w9 w10 w11 : Int => (0 ≤ w0 ∧ 0 ≤ w1 ∧ True) ∧ (q_qry v w2 w3 w4 w5 w6 w7 w8 w9 w10 w11 w0 ∧ True)) (l_e1 x 1) (l_q1 99 x 1) (l_e0 x (18)) (l_e1 x 6) (l_e1 x 7) (l_e1 x 8) (l_e1 x 9) (l_e1 x 10) (l_e1 x 11) (l_e1 x 12) (l_e1 x 0) (l_e0 x (0)) K
  | skip
    intro v x h
    have G0 := h.2.2.1
    have C0 : (0 : Int) ≤ x 0 := l_cc (a := y_ev x (0, [(0, 1)])) (l_e1 _ _) (h.2.1.1)
    have C1 : (0 : Int) ≤ x 3 - x 0 - 1 := l_cc (a := y_ev x ((-1), [(0, (-1)), (3, 1)])) (by show ((-1) : Int) + ((-1) * x 0 + ((1) * x 3 + 0)) = x 3 - x 0 - 1; omega) (h.2.1.2.1)
    have C2 : (0 : Int) ≤ 5 - x 0 := l_cc (a := y_ev x (5, [(0, (-1))])) (by show ((5) : Int) + ((-1) * x 0 + 0) = 5 - x 0; omega) (h.2.1.2.2.1)
    have F0 : (0 : Int) ≤ x 0 ∧ (x 0 : Int) < j_len 111 ∧ v 111 (x 0) = x 1 := l_ff (f := v 111) (L := j_len 111) (a := y_ev x (0, [(0, 1)])) (b := y_ev x (0, [(1, 1)])) (l_e1 _ _) (l_e1 _ _) (G0.1.1)
    have E0 : y_ev x (0, [(2, 1)]) = x 2 := (l_e1 _ _)
    have E1 : y_ev x (0, [(3, 1)]) = x 3 := (l_e1 _ _)
    have E2 : y_ev x (0, [(4, 1)]) = x 4 := (l_e1 _ _)
    have E3 : y_ev x (0, [(5, 1)]) = x 5 := (l_e1 _ _)
    have E4 : y_ev x (0, [(6, 1)]) = x 6 := (l_e1 _ _)
    have E5 : y_ev x (0, [(7, 1)]) = x 7 := (l_e1 _ _)
    have E6 : y_ev x (0, [(8, 1)]) = x 8 := (l_e1 _ _)
    have E7 : y_ev x (0, [(9, 1)]) = x 9 := (l_e1 _ _)
    have E8 : y_ev x (0, [(10, 1)]) = x 10 := (l_e1 _ _)
    have E9 : y_ev x (0, [(11, 1)]) = x 11 := (l_e1 _ _)
    have E10 : y_ev x (0, [(12, 1)]) = x 12 := (l_e1 _ _)
    have T0 : q_sto v 1 (y_ev x (0, [(2, 1)])) (y_ev x (0, [(3, 1)])) (y_ev x (0, [(4, 1)])) (y_ev x (0, [(5, 1)])) (y_ev x (0, [(6, 1)])) (y_ev x (0, [(7, 1)])) (y_ev x (0, [(8, 1)])) (y_ev x (0, [(9, 1)])) (y_ev x (0, [(10, 1)])) (y_ev x (0, [(11, 1)])) (y_ev x (0, [(12, 1)])) := h.2.2.2.1
    (try rw [E0] at T0); (try rw [E1] at T0); (try rw [E2] at T0); (try rw [E3] at T0); (try rw [E4] at T0); (try rw [E5] at T0); (try rw [E6] at T0); (try rw [E7] at T0); (try rw [E8] at T0); (try rw [E9] at T0); (try rw [E10] at T0)
    have K := k_ctpt (V := v) (i := x 0) (u := x 1) (H := x 2) (p := x 3) (y := x 4) (d := x 5) (q := x 6) (b := x 7) (s := x 8) (o := x 9) (a1 := x 10) (a2 := x 11) (a3 := x 12) T0 C0 C1 C2 F0
    refine l_outH rfl (And.intro h.1 ?_)
    have O0 : y_ev x (0, [(1, 1)]) = x 1 := l_e1 _ _
    have O1 : y_ev x (99, [(1, (-1))]) = 99 - x 1 := by show ((99) : Int) + ((-1) * x 1 + 0) = _; omega
    have O2 : y_ev x (18, []) = 18 := l_e0 _ _
    have O3 : y_ev x (0, [(6, 1)]) = x 6 := l_e1 _ _
    have O4 : y_ev x (0, [(7, 1)]) = x 7 := l_e1 _ _
    have O5 : y_ev x (0, [(8, 1)]) = x 8 := l_e1 _ _
    have O6 : y_ev x (0, [(9, 1)]) = x 9 := l_e1 _ _
    have O7 : y_ev x (0, [(10, 1)]) = x 10 := l_e1 _ _
    have O8 : y_ev x (0, [(11, 1)]) = x 11 := l_e1 _ _
    have O9 : y_ev x (0, [(12, 1)]) = x 12 := l_e1 _ _
    have O10 : y_ev x (0, [(0, 1)]) = x 0 := l_e1 _ _
    have O11 : y_ev x (0, []) = 0 := l_e0 _ _
    show (0 ≤ y_ev x (0, [(1, 1)]) ∧ 0 ≤ y_ev x (99, [(1, (-1))]) ∧ True) ∧ (q_qry v (y_ev x (18, [])) (y_ev x (0, [(6, 1)])) (y_ev x (0, [(7, 1)])) (y_ev x (0, [(8, 1)])) (y_ev x (0, [(9, 1)])) (y_ev x (0, [(10, 1)])) (y_ev x (0, [(11, 1)])) (y_ev x (0, [(12, 1)])) (y_ev x (0, [(0, 1)])) (y_ev x (0, [])) (y_ev x (0, [(1, 1)])) ∧ True)
    (try rw [O0]); (try rw [O1]); (try rw [O2]); (try rw [O3]); (try rw [O4]); (try rw [O5]); (try rw [O6]); (try rw [O7]); (try rw [O8]); (try rw [O9]); (try rw [O10]); (try rw [O11])
    exact K
def lm_851p : zS := ((lm_650pi_0 (lm_650pi_1 [])), [(110, false)], [(0, [(0, 1)]), ((-1), [(0, (-1)), (3, 1)]), (5, [(0, (-1))])], [], [(0, 0, 0, [(0, 1)])], [(0, (true, 0, 0, [(0, 1)]), 0, 0, 0, [(1, 1)])], [(236, [(0, [(2, 1)]), (0, [(3, 1)]), (0, [(4, 1)]), (0, [(5, 1)]), (0, [(6, 1)]), (0, [(7, 1)]), (0, [(8, 1)]), (0, [(9, 1)]), (0, [(10, 1)]), (0, [(11, 1)]), (0, [(12, 1)])])])
def lm_851 : zLem := (lm_851p, [([((-2147483648), 2147483647), ((-2147483648), 2147483647), ((-2147483648), 2147483647), ((-2147483648), 2147483647), ((-2147483648), 2147483647), ((-2147483648), 2147483647), ((-2147483648), 2147483647), ((-2147483648), 2147483647), ((-2147483648), 2147483647), ((-2147483648), 2147483647), ((-2147483648), 2147483647), ((-2147483648), 2147483647), ((-2147483648), 2147483647)], [(110, false)], [((-1), [(1, 1)]), (99, [(1, (-1))])], [], [], [], [(238, [(19, []), (0, [(6, 1)]), (0, [(7, 1)]), (0, [(8, 1)]), (0, [(9, 1)]), (0, [(10, 1)]), (0, [(11, 1)]), (0, [(12, 1)]), (0, [(0, 1)]), (0, []), (0, [(1, 1)])])])])
theorem lk_851 : l_core lm_851 := by
  first
  | skip
    intro v x h
    have G0 := h.2.2.1
    have K := k_clpt (V := v) (i := x 0) (u := x 1) (H := x 2) (p := x 3) (y := x 4) (d := x 5) (q := x 6) (b := x 7) (s := x 8) (o := x 9) (a1 := x 10) (a2 := x 11) (a3 := x 12) (l_c11 (fun w0 w1 w2 w3 w4 w5 w6 w7 w8 w9 w10 : Int => q_sto v 1 w0 w1 w2 w3 w4 w5 w6 w7 w8 w9 w10) (l_e1 x 2) (l_e1 x 3) (l_e1 x 4) (l_e1 x 5) (l_e1 x 6) (l_e1 x 7) (l_e1 x 8) (l_e1 x 9) (l_e1 x 10) (l_e1 x 11) (l_e1 x 12) (h.2.2.2.1)) (l_cc (l_e1 x 0) (h.2.1.1)) (l_cc (l_q6 1 x 0 3) (h.2.1.2.1)) (l_cc (l_q1 5 x 0) (h.2.1.2.2.1)) (l_ff (f := v 110) (L := j_len 110) (l_e1 x 0) (l_e1 x 1) (G0.1.1))
    refine l_outH rfl (And.intro h.1 ?_)
    exact l_o13 (fun w0 w1 w2 w3 w4 w5 w6 w7 w8 w9 w10 w11 w12 : Int => (0 ≤ w0 ∧ 0 ≤ w1 ∧ True) ∧ (q_qry v w2 w3 w4 w5 w6 w7 w8 w9 w10 w11 w12 ∧ True)) (l_q2 1 x 1) (l_q1 99 x 1) (l_e0 x (19)) (l_e1 x 6) (l_e1 x 7) (l_e1 x 8) (l_e1 x 9) (l_e1 x 10) (l_e1 x 11) (l_e1 x 12) (l_e1 x 0) (l_e0 x (0)) (l_e1 x 1) K
  | skip
    intro v x h
    have G0 := h.2.2.1
    have C0 : (0 : Int) ≤ x 0 := l_cc (a := y_ev x (0, [(0, 1)])) (l_e1 _ _) (h.2.1.1)
    have C1 : (0 : Int) ≤ x 3 - x 0 - 1 := l_cc (a := y_ev x ((-1), [(0, (-1)), (3, 1)])) (by show ((-1) : Int) + ((-1) * x 0 + ((1) * x 3 + 0)) = x 3 - x 0 - 1; omega) (h.2.1.2.1)
    have C2 : (0 : Int) ≤ 5 - x 0 := l_cc (a := y_ev x (5, [(0, (-1))])) (by show ((5) : Int) + ((-1) * x 0 + 0) = 5 - x 0; omega) (h.2.1.2.2.1)
    have F0 : (0 : Int) ≤ x 0 ∧ (x 0 : Int) < j_len 110 ∧ v 110 (x 0) = x 1 := l_ff (f := v 110) (L := j_len 110) (a := y_ev x (0, [(0, 1)])) (b := y_ev x (0, [(1, 1)])) (l_e1 _ _) (l_e1 _ _) (G0.1.1)
    have E0 : y_ev x (0, [(2, 1)]) = x 2 := (l_e1 _ _)
    have E1 : y_ev x (0, [(3, 1)]) = x 3 := (l_e1 _ _)
    have E2 : y_ev x (0, [(4, 1)]) = x 4 := (l_e1 _ _)
    have E3 : y_ev x (0, [(5, 1)]) = x 5 := (l_e1 _ _)
    have E4 : y_ev x (0, [(6, 1)]) = x 6 := (l_e1 _ _)
    have E5 : y_ev x (0, [(7, 1)]) = x 7 := (l_e1 _ _)
    have E6 : y_ev x (0, [(8, 1)]) = x 8 := (l_e1 _ _)
    have E7 : y_ev x (0, [(9, 1)]) = x 9 := (l_e1 _ _)
    have E8 : y_ev x (0, [(10, 1)]) = x 10 := (l_e1 _ _)
    have E9 : y_ev x (0, [(11, 1)]) = x 11 := (l_e1 _ _)
    have E10 : y_ev x (0, [(12, 1)]) = x 12 := (l_e1 _ _)
    have T0 : q_sto v 1 (y_ev x (0, [(2, 1)])) (y_ev x (0, [(3, 1)])) (y_ev x (0, [(4, 1)])) (y_ev x (0, [(5, 1)])) (y_ev x (0, [(6, 1)])) (y_ev x (0, [(7, 1)])) (y_ev x (0, [(8, 1)])) (y_ev x (0, [(9, 1)])) (y_ev x (0, [(10, 1)])) (y_ev x (0, [(11, 1)])) (y_ev x (0, [(12, 1)])) := h.2.2.2.1
    (try rw [E0] at T0); (try rw [E1] at T0); (try rw [E2] at T0); (try rw [E3] at T0); (try rw [E4] at T0); (try rw [E5] at T0); (try rw [E6] at T0); (try rw [E7] at T0); (try rw [E8] at T0); (try rw [E9] at T0); (try rw [E10] at T0)
    have K := k_clpt (V := v) (i := x 0) (u := x 1) (H := x 2) (p := x 3) (y := x 4) (d := x 5) (q := x 6) (b := x 7) (s := x 8) (o := x 9) (a1 := x 10) (a2 := x 11) (a3 := x 12) T0 C0 C1 C2 F0
    refine l_outH rfl (And.intro h.1 ?_)
    have O0 : y_ev x ((-1), [(1, 1)]) = x 1 - 1 := by show ((-1) : Int) + ((1) * x 1 + 0) = _; omega
    have O1 : y_ev x (99, [(1, (-1))]) = 99 - x 1 := by show ((99) : Int) + ((-1) * x 1 + 0) = _; omega
    have O2 : y_ev x (19, []) = 19 := l_e0 _ _
    have O3 : y_ev x (0, [(6, 1)]) = x 6 := l_e1 _ _
    have O4 : y_ev x (0, [(7, 1)]) = x 7 := l_e1 _ _
    have O5 : y_ev x (0, [(8, 1)]) = x 8 := l_e1 _ _
    have O6 : y_ev x (0, [(9, 1)]) = x 9 := l_e1 _ _
    have O7 : y_ev x (0, [(10, 1)]) = x 10 := l_e1 _ _
    have O8 : y_ev x (0, [(11, 1)]) = x 11 := l_e1 _ _
    have O9 : y_ev x (0, [(12, 1)]) = x 12 := l_e1 _ _
    have O10 : y_ev x (0, [(0, 1)]) = x 0 := l_e1 _ _
    have O11 : y_ev x (0, []) = 0 := l_e0 _ _
    have O12 : y_ev x (0, [(1, 1)]) = x 1 := l_e1 _ _
    show (0 ≤ y_ev x ((-1), [(1, 1)]) ∧ 0 ≤ y_ev x (99, [(1, (-1))]) ∧ True) ∧ (q_qry v (y_ev x (19, [])) (y_ev x (0, [(6, 1)])) (y_ev x (0, [(7, 1)])) (y_ev x (0, [(8, 1)])) (y_ev x (0, [(9, 1)])) (y_ev x (0, [(10, 1)])) (y_ev x (0, [(11, 1)])) (y_ev x (0, [(12, 1)])) (y_ev x (0, [(0, 1)])) (y_ev x (0, [])) (y_ev x (0, [(1, 1)])) ∧ True)
    (try rw [O0]); (try rw [O1]); (try rw [O2]); (try rw [O3]); (try rw [O4]); (try rw [O5]); (try rw [O6]); (try rw [O7]); (try rw [O8]); (try rw [O9]); (try rw [O10]); (try rw [O11]); (try rw [O12])
    exact K
def lm_852pg_0 (t : List zTg) : List zTg := (238, [(8, []), (0, [(4, 1)]), (0, [(5, 1)]), (0, [(6, 1)]), (0, [(7, 1)]), (0, [(8, 1)]), (0, [(9, 1)]), (0, [(10, 1)]), (24, [(0, 1)]), (0, []), (0, [(1, 1)])]) :: (238, [(8, []), (0, [(4, 1)]), (0, [(5, 1)]), (0, [(6, 1)]), (0, [(7, 1)]), (0, [(8, 1)]), (0, [(9, 1)]), (0, [(10, 1)]), (25, [(0, 1)]), (0, []), (0, [(2, 1)])]) :: (238, [(5, []), (0, [(4, 1)]), (0, [(5, 1)]), (0, [(6, 1)]), (0, [(7, 1)]), (0, [(8, 1)]), (0, [(9, 1)]), (0, [(10, 1)]), (0, [(1, 1)]), (0, [(2, 1)]), (0, [(3, 1)])]) :: t
def lm_852p : zS := ((lm_416pi_0 (lm_416pi_1 [])), [], [((-1), [(0, 1)]), (5, [(0, (-1))])], [], [(0, 0, 0, [(0, 1)]), (0, 0, 0, [(1, 1)]), (0, 0, 0, [(2, 1)])], [], (lm_852pg_0 []))
def lm_852 : zLem := (lm_852p, [([((-2147483648), 2147483647), ((-2147483648), 2147483647), ((-2147483648), 2147483647), ((-2147483648), 2147483647), ((-2147483648), 2147483647), ((-2147483648), 2147483647), ((-2147483648), 2147483647), ((-2147483648), 2147483647), ((-2147483648), 2147483647), ((-2147483648), 2147483647), ((-2147483648), 2147483647)], [], [], [], [], [], [(238, [(17, []), (0, [(4, 1)]), (0, [(5, 1)]), (0, [(6, 1)]), (0, [(7, 1)]), (0, [(8, 1)]), (0, [(9, 1)]), (0, [(10, 1)]), (0, [(0, 1)]), (0, []), (0, [(3, 1)])])])])
theorem lk_852 : l_core lm_852 := by
  first
  | skip
    intro v x h
    have K := k_jab (V := v) (i := x 0) (a := x 1) (g := x 2) (u := x 3) (q := x 4) (b := x 5) (s := x 6) (o := x 7) (a1 := x 8) (a2 := x 9) (a3 := x 10) (l_c11 (fun w0 w1 w2 w3 w4 w5 w6 w7 w8 w9 w10 : Int => q_qry v w0 w1 w2 w3 w4 w5 w6 w7 w8 w9 w10) (l_e0 x (8)) (l_e1 x 4) (l_e1 x 5) (l_e1 x 6) (l_e1 x 7) (l_e1 x 8) (l_e1 x 9) (l_e1 x 10) (l_q3 24 x 0) (l_e0 x (0)) (l_e1 x 1) (h.2.2.2.1)) (l_c11 (fun w0 w1 w2 w3 w4 w5 w6 w7 w8 w9 w10 : Int => q_qry v w0 w1 w2 w3 w4 w5 w6 w7 w8 w9 w10) (l_e0 x (8)) (l_e1 x 4) (l_e1 x 5) (l_e1 x 6) (l_e1 x 7) (l_e1 x 8) (l_e1 x 9) (l_e1 x 10) (l_q3 25 x 0) (l_e0 x (0)) (l_e1 x 2) (h.2.2.2.2.1)) (l_c11 (fun w0 w1 w2 w3 w4 w5 w6 w7 w8 w9 w10 : Int => q_qry v w0 w1 w2 w3 w4 w5 w6 w7 w8 w9 w10) (l_e0 x (5)) (l_e1 x 4) (l_e1 x 5) (l_e1 x 6) (l_e1 x 7) (l_e1 x 8) (l_e1 x 9) (l_e1 x 10) (l_e1 x 1) (l_e1 x 2) (l_e1 x 3) (h.2.2.2.2.2.1)) (l_cc (l_q2 1 x 0) (h.2.1.1)) (l_cc (l_q1 5 x 0) (h.2.1.2.1))
    refine l_outH rfl (And.intro h.1 ?_)
    exact l_o11 (fun w0 w1 w2 w3 w4 w5 w6 w7 w8 w9 w10 : Int => (True) ∧ (q_qry v w0 w1 w2 w3 w4 w5 w6 w7 w8 w9 w10 ∧ True)) (l_e0 x (17)) (l_e1 x 4) (l_e1 x 5) (l_e1 x 6) (l_e1 x 7) (l_e1 x 8) (l_e1 x 9) (l_e1 x 10) (l_e1 x 0) (l_e0 x (0)) (l_e1 x 3) K
  | skip
    intro v x h
    have C0 : (0 : Int) ≤ x 0 - 1 := l_cc (a := y_ev x ((-1), [(0, 1)])) (by show ((-1) : Int) + ((1) * x 0 + 0) = x 0 - 1; omega) (h.2.1.1)
    have C1 : (0 : Int) ≤ 5 - x 0 := l_cc (a := y_ev x (5, [(0, (-1))])) (by show ((5) : Int) + ((-1) * x 0 + 0) = 5 - x 0; omega) (h.2.1.2.1)
    have E0 : y_ev x (8, []) = 8 := (l_e0 _ _)
    have E1 : y_ev x (0, [(4, 1)]) = x 4 := (l_e1 _ _)
    have E2 : y_ev x (0, [(5, 1)]) = x 5 := (l_e1 _ _)
    have E3 : y_ev x (0, [(6, 1)]) = x 6 := (l_e1 _ _)
    have E4 : y_ev x (0, [(7, 1)]) = x 7 := (l_e1 _ _)
    have E5 : y_ev x (0, [(8, 1)]) = x 8 := (l_e1 _ _)
    have E6 : y_ev x (0, [(9, 1)]) = x 9 := (l_e1 _ _)
    have E7 : y_ev x (0, [(10, 1)]) = x 10 := (l_e1 _ _)
    have E8 : y_ev x (24, [(0, 1)]) = x 0 + 24 := (by show ((24) : Int) + ((1) * x 0 + 0) = x 0 + 24; omega)
    have E9 : y_ev x (0, []) = 0 := (l_e0 _ _)
    have E10 : y_ev x (0, [(1, 1)]) = x 1 := (l_e1 _ _)
    have E11 : y_ev x (25, [(0, 1)]) = x 0 + 25 := (by show ((25) : Int) + ((1) * x 0 + 0) = x 0 + 25; omega)
    have E12 : y_ev x (0, [(2, 1)]) = x 2 := (l_e1 _ _)
    have E13 : y_ev x (5, []) = 5 := (l_e0 _ _)
    have E14 : y_ev x (0, [(3, 1)]) = x 3 := (l_e1 _ _)
    have T0 : q_qry v (y_ev x (8, [])) (y_ev x (0, [(4, 1)])) (y_ev x (0, [(5, 1)])) (y_ev x (0, [(6, 1)])) (y_ev x (0, [(7, 1)])) (y_ev x (0, [(8, 1)])) (y_ev x (0, [(9, 1)])) (y_ev x (0, [(10, 1)])) (y_ev x (24, [(0, 1)])) (y_ev x (0, [])) (y_ev x (0, [(1, 1)])) := h.2.2.2.1
    (try rw [E0] at T0); (try rw [E1] at T0); (try rw [E2] at T0); (try rw [E3] at T0); (try rw [E4] at T0); (try rw [E5] at T0); (try rw [E6] at T0); (try rw [E7] at T0); (try rw [E8] at T0); (try rw [E9] at T0); (try rw [E10] at T0)
    have T1 : q_qry v (y_ev x (8, [])) (y_ev x (0, [(4, 1)])) (y_ev x (0, [(5, 1)])) (y_ev x (0, [(6, 1)])) (y_ev x (0, [(7, 1)])) (y_ev x (0, [(8, 1)])) (y_ev x (0, [(9, 1)])) (y_ev x (0, [(10, 1)])) (y_ev x (25, [(0, 1)])) (y_ev x (0, [])) (y_ev x (0, [(2, 1)])) := h.2.2.2.2.1
    (try rw [E0] at T1); (try rw [E1] at T1); (try rw [E2] at T1); (try rw [E3] at T1); (try rw [E4] at T1); (try rw [E5] at T1); (try rw [E6] at T1); (try rw [E7] at T1); (try rw [E11] at T1); (try rw [E9] at T1); (try rw [E12] at T1)
    have T2 : q_qry v (y_ev x (5, [])) (y_ev x (0, [(4, 1)])) (y_ev x (0, [(5, 1)])) (y_ev x (0, [(6, 1)])) (y_ev x (0, [(7, 1)])) (y_ev x (0, [(8, 1)])) (y_ev x (0, [(9, 1)])) (y_ev x (0, [(10, 1)])) (y_ev x (0, [(1, 1)])) (y_ev x (0, [(2, 1)])) (y_ev x (0, [(3, 1)])) := h.2.2.2.2.2.1
    (try rw [E13] at T2); (try rw [E1] at T2); (try rw [E2] at T2); (try rw [E3] at T2); (try rw [E4] at T2); (try rw [E5] at T2); (try rw [E6] at T2); (try rw [E7] at T2); (try rw [E10] at T2); (try rw [E12] at T2); (try rw [E14] at T2)
    have K := k_jab (V := v) (i := x 0) (a := x 1) (g := x 2) (u := x 3) (q := x 4) (b := x 5) (s := x 6) (o := x 7) (a1 := x 8) (a2 := x 9) (a3 := x 10) T0 T1 T2 C0 C1
    refine l_outH rfl (And.intro h.1 ?_)
    have O0 : y_ev x (17, []) = 17 := l_e0 _ _
    have O1 : y_ev x (0, [(4, 1)]) = x 4 := l_e1 _ _
    have O2 : y_ev x (0, [(5, 1)]) = x 5 := l_e1 _ _
    have O3 : y_ev x (0, [(6, 1)]) = x 6 := l_e1 _ _
    have O4 : y_ev x (0, [(7, 1)]) = x 7 := l_e1 _ _
    have O5 : y_ev x (0, [(8, 1)]) = x 8 := l_e1 _ _
    have O6 : y_ev x (0, [(9, 1)]) = x 9 := l_e1 _ _
    have O7 : y_ev x (0, [(10, 1)]) = x 10 := l_e1 _ _
    have O8 : y_ev x (0, [(0, 1)]) = x 0 := l_e1 _ _
    have O9 : y_ev x (0, []) = 0 := l_e0 _ _
    have O10 : y_ev x (0, [(3, 1)]) = x 3 := l_e1 _ _
    show (True) ∧ (q_qry v (y_ev x (17, [])) (y_ev x (0, [(4, 1)])) (y_ev x (0, [(5, 1)])) (y_ev x (0, [(6, 1)])) (y_ev x (0, [(7, 1)])) (y_ev x (0, [(8, 1)])) (y_ev x (0, [(9, 1)])) (y_ev x (0, [(10, 1)])) (y_ev x (0, [(0, 1)])) (y_ev x (0, [])) (y_ev x (0, [(3, 1)])) ∧ True)
    (try rw [O0]); (try rw [O1]); (try rw [O2]); (try rw [O3]); (try rw [O4]); (try rw [O5]); (try rw [O6]); (try rw [O7]); (try rw [O8]); (try rw [O9]); (try rw [O10])
    exact K
def lm_853p : zS := ((lm_650pi_0 (lm_650pi_1 [])), [(5, false)], [((-1), [(0, (-2)), (1, 1)]), (1, [(0, 2), (1, (-1))]), (0, [(0, 1)]), ((-1), [(0, (-1)), (3, 1)]), (1, [(0, 1), (3, (-1))])], [], [(0, 0, 0, [(0, 1)])], [(0, (false, 2, 0, []), 0, 0, 0, [(1, 1)])], [(235, [(0, [(2, 1)]), (0, [(3, 1)]), (0, [(4, 1)]), (0, [(5, 1)]), (0, [(6, 1)]), (0, [(7, 1)]), (0, [(8, 1)]), (0, [(9, 1)]), (0, [(10, 1)]), (0, [(11, 1)]), (0, [(12, 1)])])])
def lm_853q0 : zS := ((lm_650pi_0 (lm_650pi_1 [])), [(5, false)], [], [], [], [], [(252, [(0, [(6, 1)]), (0, [(7, 1)]), (0, [(8, 1)]), (0, [(9, 1)]), (0, [(10, 1)]), (0, [(11, 1)]), (0, [(12, 1)]), (0, [(0, 2)]), (0, [(1, 1)])]), (238, [(1, []), (0, [(6, 1)]), (0, [(7, 1)]), (0, [(8, 1)]), (0, [(9, 1)]), (0, [(10, 1)]), (0, [(11, 1)]), (0, [(12, 1)]), (1, [(0, 1)]), (1, [(0, 1)]), (0, [])])])
def lm_853 : zLem := (lm_853p, [lm_853q0])
theorem lk_853 : l_core lm_853 := by
  first
  | skip
    intro v x h
    have K := k_mg0 (V := v) (i := x 0) (m := x 1) (H := x 2) (p := x 3) (y := x 4) (d := x 5) (q := x 6) (b := x 7) (s := x 8) (o := x 9) (a1 := x 10) (a2 := x 11) (a3 := x 12) (l_c11 (fun w0 w1 w2 w3 w4 w5 w6 w7 w8 w9 w10 : Int => q_sto v 0 w0 w1 w2 w3 w4 w5 w6 w7 w8 w9 w10) (l_e1 x 2) (l_e1 x 3) (l_e1 x 4) (l_e1 x 5) (l_e1 x 6) (l_e1 x 7) (l_e1 x 8) (l_e1 x 9) (l_e1 x 10) (l_e1 x 11) (l_e1 x 12) (h.2.2.2.1)) (l_cc (show y_ev x ((-1), [(0, (-2)), (1, 1)]) = x 1 - 2 * x 0 - 1 by show ((-1) : Int) + ((-2) * x 0 + ((1) * x 1 + 0)) = _; omega) (h.2.1.1)) (l_cc (show y_ev x (1, [(0, 2), (1, (-1))]) = 2 * x 0 - x 1 + 1 by show ((1) : Int) + ((2) * x 0 + ((-1) * x 1 + 0)) = _; omega) (h.2.1.2.1)) (l_cc (l_e1 x 0) (h.2.1.2.2.1)) (l_cc (l_q6 1 x 0 3) (h.2.1.2.2.2.1)) (l_cc (l_q13 1 x 0 3) (h.2.1.2.2.2.2.1))
    refine l_outH rfl (And.intro h.1 ?_)
    exact l_o12 (fun w0 w1 w2 w3 w4 w5 w6 w7 w8 w9 w10 w11 : Int => (True) ∧ (q_mgn v w0 w1 w2 w3 w4 w5 w6 w7 w8 ∧ q_qry v w9 w0 w1 w2 w3 w4 w5 w6 w10 w10 w11 ∧ True)) (l_e1 x 6) (l_e1 x 7) (l_e1 x 8) (l_e1 x 9) (l_e1 x 10) (l_e1 x 11) (l_e1 x 12) (l_q16 2 x 0) (l_e1 x 1) (l_e0 x (1)) (l_q3 1 x 0) (l_e0 x (0)) K
  | skip
    intro v x h
    have C0 : (0 : Int) ≤ x 1 - 2 * x 0 - 1 := l_cc (a := y_ev x ((-1), [(0, (-2)), (1, 1)])) (by show ((-1) : Int) + ((-2) * x 0 + ((1) * x 1 + 0)) = x 1 - 2 * x 0 - 1; omega) (h.2.1.1)
    have C1 : (0 : Int) ≤ 2 * x 0 - x 1 + 1 := l_cc (a := y_ev x (1, [(0, 2), (1, (-1))])) (by show ((1) : Int) + ((2) * x 0 + ((-1) * x 1 + 0)) = 2 * x 0 - x 1 + 1; omega) (h.2.1.2.1)
    have C2 : (0 : Int) ≤ x 0 := l_cc (a := y_ev x (0, [(0, 1)])) (l_e1 _ _) (h.2.1.2.2.1)
    have C3 : (0 : Int) ≤ x 3 - x 0 - 1 := l_cc (a := y_ev x ((-1), [(0, (-1)), (3, 1)])) (by show ((-1) : Int) + ((-1) * x 0 + ((1) * x 3 + 0)) = x 3 - x 0 - 1; omega) (h.2.1.2.2.2.1)
    have C4 : (0 : Int) ≤ x 0 - x 3 + 1 := l_cc (a := y_ev x (1, [(0, 1), (3, (-1))])) (by show ((1) : Int) + ((1) * x 0 + ((-1) * x 3 + 0)) = x 0 - x 3 + 1; omega) (h.2.1.2.2.2.2.1)
    have E0 : y_ev x (0, [(2, 1)]) = x 2 := (l_e1 _ _)
    have E1 : y_ev x (0, [(3, 1)]) = x 3 := (l_e1 _ _)
    have E2 : y_ev x (0, [(4, 1)]) = x 4 := (l_e1 _ _)
    have E3 : y_ev x (0, [(5, 1)]) = x 5 := (l_e1 _ _)
    have E4 : y_ev x (0, [(6, 1)]) = x 6 := (l_e1 _ _)
    have E5 : y_ev x (0, [(7, 1)]) = x 7 := (l_e1 _ _)
    have E6 : y_ev x (0, [(8, 1)]) = x 8 := (l_e1 _ _)
    have E7 : y_ev x (0, [(9, 1)]) = x 9 := (l_e1 _ _)
    have E8 : y_ev x (0, [(10, 1)]) = x 10 := (l_e1 _ _)
    have E9 : y_ev x (0, [(11, 1)]) = x 11 := (l_e1 _ _)
    have E10 : y_ev x (0, [(12, 1)]) = x 12 := (l_e1 _ _)
    have T0 : q_sto v 0 (y_ev x (0, [(2, 1)])) (y_ev x (0, [(3, 1)])) (y_ev x (0, [(4, 1)])) (y_ev x (0, [(5, 1)])) (y_ev x (0, [(6, 1)])) (y_ev x (0, [(7, 1)])) (y_ev x (0, [(8, 1)])) (y_ev x (0, [(9, 1)])) (y_ev x (0, [(10, 1)])) (y_ev x (0, [(11, 1)])) (y_ev x (0, [(12, 1)])) := h.2.2.2.1
    (try rw [E0] at T0); (try rw [E1] at T0); (try rw [E2] at T0); (try rw [E3] at T0); (try rw [E4] at T0); (try rw [E5] at T0); (try rw [E6] at T0); (try rw [E7] at T0); (try rw [E8] at T0); (try rw [E9] at T0); (try rw [E10] at T0)
    have K := k_mg0 (V := v) (i := x 0) (m := x 1) (H := x 2) (p := x 3) (y := x 4) (d := x 5) (q := x 6) (b := x 7) (s := x 8) (o := x 9) (a1 := x 10) (a2 := x 11) (a3 := x 12) T0 C0 C1 C2 C3 C4
    refine l_outH rfl (And.intro h.1 ?_)
    have O0 : y_ev x (0, [(6, 1)]) = x 6 := l_e1 _ _
    have O1 : y_ev x (0, [(7, 1)]) = x 7 := l_e1 _ _
    have O2 : y_ev x (0, [(8, 1)]) = x 8 := l_e1 _ _
    have O3 : y_ev x (0, [(9, 1)]) = x 9 := l_e1 _ _
    have O4 : y_ev x (0, [(10, 1)]) = x 10 := l_e1 _ _
    have O5 : y_ev x (0, [(11, 1)]) = x 11 := l_e1 _ _
    have O6 : y_ev x (0, [(12, 1)]) = x 12 := l_e1 _ _
    have O7 : y_ev x (0, [(0, 2)]) = 2 * x 0 := by show ((0) : Int) + ((2) * x 0 + 0) = _; omega
    have O8 : y_ev x (0, [(1, 1)]) = x 1 := l_e1 _ _
    have O9 : y_ev x (1, []) = 1 := l_e0 _ _
    have O10 : y_ev x (1, [(0, 1)]) = x 0 + 1 := by show ((1) : Int) + ((1) * x 0 + 0) = _; omega
    have O11 : y_ev x (0, []) = 0 := l_e0 _ _
    show (True) ∧ (q_mgn v (y_ev x (0, [(6, 1)])) (y_ev x (0, [(7, 1)])) (y_ev x (0, [(8, 1)])) (y_ev x (0, [(9, 1)])) (y_ev x (0, [(10, 1)])) (y_ev x (0, [(11, 1)])) (y_ev x (0, [(12, 1)])) (y_ev x (0, [(0, 2)])) (y_ev x (0, [(1, 1)])) ∧ q_qry v (y_ev x (1, [])) (y_ev x (0, [(6, 1)])) (y_ev x (0, [(7, 1)])) (y_ev x (0, [(8, 1)])) (y_ev x (0, [(9, 1)])) (y_ev x (0, [(10, 1)])) (y_ev x (0, [(11, 1)])) (y_ev x (0, [(12, 1)])) (y_ev x (1, [(0, 1)])) (y_ev x (1, [(0, 1)])) (y_ev x (0, [])) ∧ True)
    (try rw [O0]); (try rw [O1]); (try rw [O2]); (try rw [O3]); (try rw [O4]); (try rw [O5]); (try rw [O6]); (try rw [O7]); (try rw [O8]); (try rw [O9]); (try rw [O10]); (try rw [O11])
    exact K
def lm_854p : zS := ((lm_650pi_0 (lm_650pi_1 [])), [(5, false)], [(0, [(1, 1)]), (0, [(1, (-1))]), ((-1), [(0, (-1))]), (1, [(0, 1)]), (0, [(3, 1)]), (0, [(3, (-1))])], [], [(0, 0, 0, [(0, 1)])], [(0, (false, 2, 0, []), 0, 0, 0, [(1, 1)])], [(235, [(0, [(2, 1)]), (0, [(3, 1)]), (0, [(4, 1)]), (0, [(5, 1)]), (0, [(6, 1)]), (0, [(7, 1)]), (0, [(8, 1)]), (0, [(9, 1)]), (0, [(10, 1)]), (0, [(11, 1)]), (0, [(12, 1)])])])
def lm_854 : zLem := (lm_854p, [lm_853q0])
theorem lk_854 : l_core lm_854 := by
  first
  | skip
    intro v x h
    have K := k_mg1 (V := v) (i := x 0) (m := x 1) (H := x 2) (p := x 3) (y := x 4) (d := x 5) (q := x 6) (b := x 7) (s := x 8) (o := x 9) (a1 := x 10) (a2 := x 11) (a3 := x 12) (l_c11 (fun w0 w1 w2 w3 w4 w5 w6 w7 w8 w9 w10 : Int => q_sto v 0 w0 w1 w2 w3 w4 w5 w6 w7 w8 w9 w10) (l_e1 x 2) (l_e1 x 3) (l_e1 x 4) (l_e1 x 5) (l_e1 x 6) (l_e1 x 7) (l_e1 x 8) (l_e1 x 9) (l_e1 x 10) (l_e1 x 11) (l_e1 x 12) (h.2.2.2.1)) (l_cc (l_e1 x 1) (h.2.1.1)) (l_cc (l_q7 x 1) (h.2.1.2.1)) (l_cc (l_q11 1 x 0) (h.2.1.2.2.1)) (l_cc (l_q3 1 x 0) (h.2.1.2.2.2.1)) (l_cc (l_e1 x 3) (h.2.1.2.2.2.2.1)) (l_cc (l_q7 x 3) (h.2.1.2.2.2.2.2.1))
    refine l_outH rfl (And.intro h.1 ?_)
    exact l_o12 (fun w0 w1 w2 w3 w4 w5 w6 w7 w8 w9 w10 w11 : Int => (True) ∧ (q_mgn v w0 w1 w2 w3 w4 w5 w6 w7 w8 ∧ q_qry v w9 w0 w1 w2 w3 w4 w5 w6 w10 w10 w11 ∧ True)) (l_e1 x 6) (l_e1 x 7) (l_e1 x 8) (l_e1 x 9) (l_e1 x 10) (l_e1 x 11) (l_e1 x 12) (l_q16 2 x 0) (l_e1 x 1) (l_e0 x (1)) (l_q3 1 x 0) (l_e0 x (0)) K
  | skip
    intro v x h
    have C0 : (0 : Int) ≤ x 1 := l_cc (a := y_ev x (0, [(1, 1)])) (l_e1 _ _) (h.2.1.1)
    have C1 : (0 : Int) ≤ -x 1 := l_cc (a := y_ev x (0, [(1, (-1))])) (by show ((0) : Int) + ((-1) * x 1 + 0) = -x 1; omega) (h.2.1.2.1)
    have C2 : (0 : Int) ≤ -x 0 - 1 := l_cc (a := y_ev x ((-1), [(0, (-1))])) (by show ((-1) : Int) + ((-1) * x 0 + 0) = -x 0 - 1; omega) (h.2.1.2.2.1)
    have C3 : (0 : Int) ≤ x 0 + 1 := l_cc (a := y_ev x (1, [(0, 1)])) (by show ((1) : Int) + ((1) * x 0 + 0) = x 0 + 1; omega) (h.2.1.2.2.2.1)
    have C4 : (0 : Int) ≤ x 3 := l_cc (a := y_ev x (0, [(3, 1)])) (l_e1 _ _) (h.2.1.2.2.2.2.1)
    have C5 : (0 : Int) ≤ -x 3 := l_cc (a := y_ev x (0, [(3, (-1))])) (by show ((0) : Int) + ((-1) * x 3 + 0) = -x 3; omega) (h.2.1.2.2.2.2.2.1)
    have E0 : y_ev x (0, [(2, 1)]) = x 2 := (l_e1 _ _)
    have E1 : y_ev x (0, [(3, 1)]) = x 3 := (l_e1 _ _)
    have E2 : y_ev x (0, [(4, 1)]) = x 4 := (l_e1 _ _)
    have E3 : y_ev x (0, [(5, 1)]) = x 5 := (l_e1 _ _)
    have E4 : y_ev x (0, [(6, 1)]) = x 6 := (l_e1 _ _)
    have E5 : y_ev x (0, [(7, 1)]) = x 7 := (l_e1 _ _)
    have E6 : y_ev x (0, [(8, 1)]) = x 8 := (l_e1 _ _)
    have E7 : y_ev x (0, [(9, 1)]) = x 9 := (l_e1 _ _)
    have E8 : y_ev x (0, [(10, 1)]) = x 10 := (l_e1 _ _)
    have E9 : y_ev x (0, [(11, 1)]) = x 11 := (l_e1 _ _)
    have E10 : y_ev x (0, [(12, 1)]) = x 12 := (l_e1 _ _)
    have T0 : q_sto v 0 (y_ev x (0, [(2, 1)])) (y_ev x (0, [(3, 1)])) (y_ev x (0, [(4, 1)])) (y_ev x (0, [(5, 1)])) (y_ev x (0, [(6, 1)])) (y_ev x (0, [(7, 1)])) (y_ev x (0, [(8, 1)])) (y_ev x (0, [(9, 1)])) (y_ev x (0, [(10, 1)])) (y_ev x (0, [(11, 1)])) (y_ev x (0, [(12, 1)])) := h.2.2.2.1
    (try rw [E0] at T0); (try rw [E1] at T0); (try rw [E2] at T0); (try rw [E3] at T0); (try rw [E4] at T0); (try rw [E5] at T0); (try rw [E6] at T0); (try rw [E7] at T0); (try rw [E8] at T0); (try rw [E9] at T0); (try rw [E10] at T0)
    have K := k_mg1 (V := v) (i := x 0) (m := x 1) (H := x 2) (p := x 3) (y := x 4) (d := x 5) (q := x 6) (b := x 7) (s := x 8) (o := x 9) (a1 := x 10) (a2 := x 11) (a3 := x 12) T0 C0 C1 C2 C3 C4 C5
    refine l_outH rfl (And.intro h.1 ?_)
    have O0 : y_ev x (0, [(6, 1)]) = x 6 := l_e1 _ _
    have O1 : y_ev x (0, [(7, 1)]) = x 7 := l_e1 _ _
    have O2 : y_ev x (0, [(8, 1)]) = x 8 := l_e1 _ _
    have O3 : y_ev x (0, [(9, 1)]) = x 9 := l_e1 _ _
    have O4 : y_ev x (0, [(10, 1)]) = x 10 := l_e1 _ _
    have O5 : y_ev x (0, [(11, 1)]) = x 11 := l_e1 _ _
    have O6 : y_ev x (0, [(12, 1)]) = x 12 := l_e1 _ _
    have O7 : y_ev x (0, [(0, 2)]) = 2 * x 0 := by show ((0) : Int) + ((2) * x 0 + 0) = _; omega
    have O8 : y_ev x (0, [(1, 1)]) = x 1 := l_e1 _ _
    have O9 : y_ev x (1, []) = 1 := l_e0 _ _
    have O10 : y_ev x (1, [(0, 1)]) = x 0 + 1 := by show ((1) : Int) + ((1) * x 0 + 0) = _; omega
    have O11 : y_ev x (0, []) = 0 := l_e0 _ _
    show (True) ∧ (q_mgn v (y_ev x (0, [(6, 1)])) (y_ev x (0, [(7, 1)])) (y_ev x (0, [(8, 1)])) (y_ev x (0, [(9, 1)])) (y_ev x (0, [(10, 1)])) (y_ev x (0, [(11, 1)])) (y_ev x (0, [(12, 1)])) (y_ev x (0, [(0, 2)])) (y_ev x (0, [(1, 1)])) ∧ q_qry v (y_ev x (1, [])) (y_ev x (0, [(6, 1)])) (y_ev x (0, [(7, 1)])) (y_ev x (0, [(8, 1)])) (y_ev x (0, [(9, 1)])) (y_ev x (0, [(10, 1)])) (y_ev x (0, [(11, 1)])) (y_ev x (0, [(12, 1)])) (y_ev x (1, [(0, 1)])) (y_ev x (1, [(0, 1)])) (y_ev x (0, [])) ∧ True)
    (try rw [O0]); (try rw [O1]); (try rw [O2]); (try rw [O3]); (try rw [O4]); (try rw [O5]); (try rw [O6]); (try rw [O7]); (try rw [O8]); (try rw [O9]); (try rw [O10]); (try rw [O11])
    exact K
def lm_855p : zS := ((lm_650pi_0 (lm_650pi_1 [])), [(5, false)], [((-1), [(0, (-2)), (1, 1)]), (1, [(0, 2), (1, (-1))]), (0, [(0, 1)]), ((-1), [(0, (-1)), (3, 1)]), (1, [(0, 1), (3, (-1))])], [], [(0, 0, 0, [(0, 1)])], [(0, (false, 2, 0, []), 0, 0, 0, [(1, 1)])], [(236, [(0, [(2, 1)]), (0, [(3, 1)]), (0, [(4, 1)]), (0, [(5, 1)]), (0, [(6, 1)]), (0, [(7, 1)]), (0, [(8, 1)]), (0, [(9, 1)]), (0, [(10, 1)]), (0, [(11, 1)]), (0, [(12, 1)])])])
def lm_855 : zLem := (lm_855p, [lm_853q0])
theorem lk_855 : l_core lm_855 := by
  first
  | skip
    intro v x h
    have K := k_mg0t (V := v) (i := x 0) (m := x 1) (H := x 2) (p := x 3) (y := x 4) (d := x 5) (q := x 6) (b := x 7) (s := x 8) (o := x 9) (a1 := x 10) (a2 := x 11) (a3 := x 12) (l_c11 (fun w0 w1 w2 w3 w4 w5 w6 w7 w8 w9 w10 : Int => q_sto v 1 w0 w1 w2 w3 w4 w5 w6 w7 w8 w9 w10) (l_e1 x 2) (l_e1 x 3) (l_e1 x 4) (l_e1 x 5) (l_e1 x 6) (l_e1 x 7) (l_e1 x 8) (l_e1 x 9) (l_e1 x 10) (l_e1 x 11) (l_e1 x 12) (h.2.2.2.1)) (l_cc (show y_ev x ((-1), [(0, (-2)), (1, 1)]) = x 1 - 2 * x 0 - 1 by show ((-1) : Int) + ((-2) * x 0 + ((1) * x 1 + 0)) = _; omega) (h.2.1.1)) (l_cc (show y_ev x (1, [(0, 2), (1, (-1))]) = 2 * x 0 - x 1 + 1 by show ((1) : Int) + ((2) * x 0 + ((-1) * x 1 + 0)) = _; omega) (h.2.1.2.1)) (l_cc (l_e1 x 0) (h.2.1.2.2.1)) (l_cc (l_q6 1 x 0 3) (h.2.1.2.2.2.1)) (l_cc (l_q13 1 x 0 3) (h.2.1.2.2.2.2.1))
    refine l_outH rfl (And.intro h.1 ?_)
    exact l_o12 (fun w0 w1 w2 w3 w4 w5 w6 w7 w8 w9 w10 w11 : Int => (True) ∧ (q_mgn v w0 w1 w2 w3 w4 w5 w6 w7 w8 ∧ q_qry v w9 w0 w1 w2 w3 w4 w5 w6 w10 w10 w11 ∧ True)) (l_e1 x 6) (l_e1 x 7) (l_e1 x 8) (l_e1 x 9) (l_e1 x 10) (l_e1 x 11) (l_e1 x 12) (l_q16 2 x 0) (l_e1 x 1) (l_e0 x (1)) (l_q3 1 x 0) (l_e0 x (0)) K
  | skip
    intro v x h
    have C0 : (0 : Int) ≤ x 1 - 2 * x 0 - 1 := l_cc (a := y_ev x ((-1), [(0, (-2)), (1, 1)])) (by show ((-1) : Int) + ((-2) * x 0 + ((1) * x 1 + 0)) = x 1 - 2 * x 0 - 1; omega) (h.2.1.1)
    have C1 : (0 : Int) ≤ 2 * x 0 - x 1 + 1 := l_cc (a := y_ev x (1, [(0, 2), (1, (-1))])) (by show ((1) : Int) + ((2) * x 0 + ((-1) * x 1 + 0)) = 2 * x 0 - x 1 + 1; omega) (h.2.1.2.1)
    have C2 : (0 : Int) ≤ x 0 := l_cc (a := y_ev x (0, [(0, 1)])) (l_e1 _ _) (h.2.1.2.2.1)
    have C3 : (0 : Int) ≤ x 3 - x 0 - 1 := l_cc (a := y_ev x ((-1), [(0, (-1)), (3, 1)])) (by show ((-1) : Int) + ((-1) * x 0 + ((1) * x 3 + 0)) = x 3 - x 0 - 1; omega) (h.2.1.2.2.2.1)
    have C4 : (0 : Int) ≤ x 0 - x 3 + 1 := l_cc (a := y_ev x (1, [(0, 1), (3, (-1))])) (by show ((1) : Int) + ((1) * x 0 + ((-1) * x 3 + 0)) = x 0 - x 3 + 1; omega) (h.2.1.2.2.2.2.1)
    have E0 : y_ev x (0, [(2, 1)]) = x 2 := (l_e1 _ _)
    have E1 : y_ev x (0, [(3, 1)]) = x 3 := (l_e1 _ _)
    have E2 : y_ev x (0, [(4, 1)]) = x 4 := (l_e1 _ _)
    have E3 : y_ev x (0, [(5, 1)]) = x 5 := (l_e1 _ _)
    have E4 : y_ev x (0, [(6, 1)]) = x 6 := (l_e1 _ _)
    have E5 : y_ev x (0, [(7, 1)]) = x 7 := (l_e1 _ _)
    have E6 : y_ev x (0, [(8, 1)]) = x 8 := (l_e1 _ _)
    have E7 : y_ev x (0, [(9, 1)]) = x 9 := (l_e1 _ _)
    have E8 : y_ev x (0, [(10, 1)]) = x 10 := (l_e1 _ _)
    have E9 : y_ev x (0, [(11, 1)]) = x 11 := (l_e1 _ _)
    have E10 : y_ev x (0, [(12, 1)]) = x 12 := (l_e1 _ _)
    have T0 : q_sto v 1 (y_ev x (0, [(2, 1)])) (y_ev x (0, [(3, 1)])) (y_ev x (0, [(4, 1)])) (y_ev x (0, [(5, 1)])) (y_ev x (0, [(6, 1)])) (y_ev x (0, [(7, 1)])) (y_ev x (0, [(8, 1)])) (y_ev x (0, [(9, 1)])) (y_ev x (0, [(10, 1)])) (y_ev x (0, [(11, 1)])) (y_ev x (0, [(12, 1)])) := h.2.2.2.1
    (try rw [E0] at T0); (try rw [E1] at T0); (try rw [E2] at T0); (try rw [E3] at T0); (try rw [E4] at T0); (try rw [E5] at T0); (try rw [E6] at T0); (try rw [E7] at T0); (try rw [E8] at T0); (try rw [E9] at T0); (try rw [E10] at T0)
    have K := k_mg0t (V := v) (i := x 0) (m := x 1) (H := x 2) (p := x 3) (y := x 4) (d := x 5) (q := x 6) (b := x 7) (s := x 8) (o := x 9) (a1 := x 10) (a2 := x 11) (a3 := x 12) T0 C0 C1 C2 C3 C4
    refine l_outH rfl (And.intro h.1 ?_)
    have O0 : y_ev x (0, [(6, 1)]) = x 6 := l_e1 _ _
    have O1 : y_ev x (0, [(7, 1)]) = x 7 := l_e1 _ _
    have O2 : y_ev x (0, [(8, 1)]) = x 8 := l_e1 _ _
    have O3 : y_ev x (0, [(9, 1)]) = x 9 := l_e1 _ _
    have O4 : y_ev x (0, [(10, 1)]) = x 10 := l_e1 _ _
    have O5 : y_ev x (0, [(11, 1)]) = x 11 := l_e1 _ _
    have O6 : y_ev x (0, [(12, 1)]) = x 12 := l_e1 _ _
    have O7 : y_ev x (0, [(0, 2)]) = 2 * x 0 := by show ((0) : Int) + ((2) * x 0 + 0) = _; omega
    have O8 : y_ev x (0, [(1, 1)]) = x 1 := l_e1 _ _
    have O9 : y_ev x (1, []) = 1 := l_e0 _ _
    have O10 : y_ev x (1, [(0, 1)]) = x 0 + 1 := by show ((1) : Int) + ((1) * x 0 + 0) = _; omega
    have O11 : y_ev x (0, []) = 0 := l_e0 _ _
    show (True) ∧ (q_mgn v (y_ev x (0, [(6, 1)])) (y_ev x (0, [(7, 1)])) (y_ev x (0, [(8, 1)])) (y_ev x (0, [(9, 1)])) (y_ev x (0, [(10, 1)])) (y_ev x (0, [(11, 1)])) (y_ev x (0, [(12, 1)])) (y_ev x (0, [(0, 2)])) (y_ev x (0, [(1, 1)])) ∧ q_qry v (y_ev x (1, [])) (y_ev x (0, [(6, 1)])) (y_ev x (0, [(7, 1)])) (y_ev x (0, [(8, 1)])) (y_ev x (0, [(9, 1)])) (y_ev x (0, [(10, 1)])) (y_ev x (0, [(11, 1)])) (y_ev x (0, [(12, 1)])) (y_ev x (1, [(0, 1)])) (y_ev x (1, [(0, 1)])) (y_ev x (0, [])) ∧ True)
    (try rw [O0]); (try rw [O1]); (try rw [O2]); (try rw [O3]); (try rw [O4]); (try rw [O5]); (try rw [O6]); (try rw [O7]); (try rw [O8]); (try rw [O9]); (try rw [O10]); (try rw [O11])
    exact K
def lm_856p : zS := ((lm_650pi_0 (lm_650pi_1 [])), [(5, false)], [(0, [(1, 1)]), (0, [(1, (-1))]), ((-1), [(0, (-1))]), (1, [(0, 1)]), (0, [(3, 1)]), (0, [(3, (-1))])], [], [(0, 0, 0, [(0, 1)])], [(0, (false, 2, 0, []), 0, 0, 0, [(1, 1)])], [(236, [(0, [(2, 1)]), (0, [(3, 1)]), (0, [(4, 1)]), (0, [(5, 1)]), (0, [(6, 1)]), (0, [(7, 1)]), (0, [(8, 1)]), (0, [(9, 1)]), (0, [(10, 1)]), (0, [(11, 1)]), (0, [(12, 1)])])])
def lm_856 : zLem := (lm_856p, [lm_853q0])
theorem lk_856 : l_core lm_856 := by
  first
  | skip
    intro v x h
    have K := k_mg1t (V := v) (i := x 0) (m := x 1) (H := x 2) (p := x 3) (y := x 4) (d := x 5) (q := x 6) (b := x 7) (s := x 8) (o := x 9) (a1 := x 10) (a2 := x 11) (a3 := x 12) (l_c11 (fun w0 w1 w2 w3 w4 w5 w6 w7 w8 w9 w10 : Int => q_sto v 1 w0 w1 w2 w3 w4 w5 w6 w7 w8 w9 w10) (l_e1 x 2) (l_e1 x 3) (l_e1 x 4) (l_e1 x 5) (l_e1 x 6) (l_e1 x 7) (l_e1 x 8) (l_e1 x 9) (l_e1 x 10) (l_e1 x 11) (l_e1 x 12) (h.2.2.2.1)) (l_cc (l_e1 x 1) (h.2.1.1)) (l_cc (l_q7 x 1) (h.2.1.2.1)) (l_cc (l_q11 1 x 0) (h.2.1.2.2.1)) (l_cc (l_q3 1 x 0) (h.2.1.2.2.2.1)) (l_cc (l_e1 x 3) (h.2.1.2.2.2.2.1)) (l_cc (l_q7 x 3) (h.2.1.2.2.2.2.2.1))
    refine l_outH rfl (And.intro h.1 ?_)
    exact l_o12 (fun w0 w1 w2 w3 w4 w5 w6 w7 w8 w9 w10 w11 : Int => (True) ∧ (q_mgn v w0 w1 w2 w3 w4 w5 w6 w7 w8 ∧ q_qry v w9 w0 w1 w2 w3 w4 w5 w6 w10 w10 w11 ∧ True)) (l_e1 x 6) (l_e1 x 7) (l_e1 x 8) (l_e1 x 9) (l_e1 x 10) (l_e1 x 11) (l_e1 x 12) (l_q16 2 x 0) (l_e1 x 1) (l_e0 x (1)) (l_q3 1 x 0) (l_e0 x (0)) K
  | skip
    intro v x h
    have C0 : (0 : Int) ≤ x 1 := l_cc (a := y_ev x (0, [(1, 1)])) (l_e1 _ _) (h.2.1.1)
    have C1 : (0 : Int) ≤ -x 1 := l_cc (a := y_ev x (0, [(1, (-1))])) (by show ((0) : Int) + ((-1) * x 1 + 0) = -x 1; omega) (h.2.1.2.1)
    have C2 : (0 : Int) ≤ -x 0 - 1 := l_cc (a := y_ev x ((-1), [(0, (-1))])) (by show ((-1) : Int) + ((-1) * x 0 + 0) = -x 0 - 1; omega) (h.2.1.2.2.1)
    have C3 : (0 : Int) ≤ x 0 + 1 := l_cc (a := y_ev x (1, [(0, 1)])) (by show ((1) : Int) + ((1) * x 0 + 0) = x 0 + 1; omega) (h.2.1.2.2.2.1)
    have C4 : (0 : Int) ≤ x 3 := l_cc (a := y_ev x (0, [(3, 1)])) (l_e1 _ _) (h.2.1.2.2.2.2.1)
    have C5 : (0 : Int) ≤ -x 3 := l_cc (a := y_ev x (0, [(3, (-1))])) (by show ((0) : Int) + ((-1) * x 3 + 0) = -x 3; omega) (h.2.1.2.2.2.2.2.1)
    have E0 : y_ev x (0, [(2, 1)]) = x 2 := (l_e1 _ _)
    have E1 : y_ev x (0, [(3, 1)]) = x 3 := (l_e1 _ _)
    have E2 : y_ev x (0, [(4, 1)]) = x 4 := (l_e1 _ _)
    have E3 : y_ev x (0, [(5, 1)]) = x 5 := (l_e1 _ _)
    have E4 : y_ev x (0, [(6, 1)]) = x 6 := (l_e1 _ _)
    have E5 : y_ev x (0, [(7, 1)]) = x 7 := (l_e1 _ _)
    have E6 : y_ev x (0, [(8, 1)]) = x 8 := (l_e1 _ _)
    have E7 : y_ev x (0, [(9, 1)]) = x 9 := (l_e1 _ _)
    have E8 : y_ev x (0, [(10, 1)]) = x 10 := (l_e1 _ _)
    have E9 : y_ev x (0, [(11, 1)]) = x 11 := (l_e1 _ _)
    have E10 : y_ev x (0, [(12, 1)]) = x 12 := (l_e1 _ _)
    have T0 : q_sto v 1 (y_ev x (0, [(2, 1)])) (y_ev x (0, [(3, 1)])) (y_ev x (0, [(4, 1)])) (y_ev x (0, [(5, 1)])) (y_ev x (0, [(6, 1)])) (y_ev x (0, [(7, 1)])) (y_ev x (0, [(8, 1)])) (y_ev x (0, [(9, 1)])) (y_ev x (0, [(10, 1)])) (y_ev x (0, [(11, 1)])) (y_ev x (0, [(12, 1)])) := h.2.2.2.1
    (try rw [E0] at T0); (try rw [E1] at T0); (try rw [E2] at T0); (try rw [E3] at T0); (try rw [E4] at T0); (try rw [E5] at T0); (try rw [E6] at T0); (try rw [E7] at T0); (try rw [E8] at T0); (try rw [E9] at T0); (try rw [E10] at T0)
    have K := k_mg1t (V := v) (i := x 0) (m := x 1) (H := x 2) (p := x 3) (y := x 4) (d := x 5) (q := x 6) (b := x 7) (s := x 8) (o := x 9) (a1 := x 10) (a2 := x 11) (a3 := x 12) T0 C0 C1 C2 C3 C4 C5
    refine l_outH rfl (And.intro h.1 ?_)
    have O0 : y_ev x (0, [(6, 1)]) = x 6 := l_e1 _ _
    have O1 : y_ev x (0, [(7, 1)]) = x 7 := l_e1 _ _
    have O2 : y_ev x (0, [(8, 1)]) = x 8 := l_e1 _ _
    have O3 : y_ev x (0, [(9, 1)]) = x 9 := l_e1 _ _
    have O4 : y_ev x (0, [(10, 1)]) = x 10 := l_e1 _ _
    have O5 : y_ev x (0, [(11, 1)]) = x 11 := l_e1 _ _
    have O6 : y_ev x (0, [(12, 1)]) = x 12 := l_e1 _ _
    have O7 : y_ev x (0, [(0, 2)]) = 2 * x 0 := by show ((0) : Int) + ((2) * x 0 + 0) = _; omega
    have O8 : y_ev x (0, [(1, 1)]) = x 1 := l_e1 _ _
    have O9 : y_ev x (1, []) = 1 := l_e0 _ _
    have O10 : y_ev x (1, [(0, 1)]) = x 0 + 1 := by show ((1) : Int) + ((1) * x 0 + 0) = _; omega
    have O11 : y_ev x (0, []) = 0 := l_e0 _ _
    show (True) ∧ (q_mgn v (y_ev x (0, [(6, 1)])) (y_ev x (0, [(7, 1)])) (y_ev x (0, [(8, 1)])) (y_ev x (0, [(9, 1)])) (y_ev x (0, [(10, 1)])) (y_ev x (0, [(11, 1)])) (y_ev x (0, [(12, 1)])) (y_ev x (0, [(0, 2)])) (y_ev x (0, [(1, 1)])) ∧ q_qry v (y_ev x (1, [])) (y_ev x (0, [(6, 1)])) (y_ev x (0, [(7, 1)])) (y_ev x (0, [(8, 1)])) (y_ev x (0, [(9, 1)])) (y_ev x (0, [(10, 1)])) (y_ev x (0, [(11, 1)])) (y_ev x (0, [(12, 1)])) (y_ev x (1, [(0, 1)])) (y_ev x (1, [(0, 1)])) (y_ev x (0, [])) ∧ True)
    (try rw [O0]); (try rw [O1]); (try rw [O2]); (try rw [O3]); (try rw [O4]); (try rw [O5]); (try rw [O6]); (try rw [O7]); (try rw [O8]); (try rw [O9]); (try rw [O10]); (try rw [O11])
    exact K
def lm_857p : zS := ((lm_473pi_0 (lm_473pi_1 [])), [(25, false)], [(0, [(0, 1)])], [], [(0, 0, 0, [(0, 1)])], [(0, (true, 0, 0, [(0, 2)]), 0, 0, 0, [(2, 1)])], [(252, [(0, [(3, 1)]), (0, [(4, 1)]), (0, [(5, 1)]), (0, [(6, 1)]), (0, [(7, 1)]), (0, [(8, 1)]), (0, [(9, 1)]), (0, [(0, 2)]), (0, [(1, 1)])]), (238, [(2, []), (0, [(3, 1)]), (0, [(4, 1)]), (0, [(5, 1)]), (0, [(6, 1)]), (0, [(7, 1)]), (0, [(8, 1)]), (0, [(9, 1)]), (1, [(0, 2)]), (0, []), (0, [(2, 1)])])])
def lm_857 : zLem := (lm_857p, [([((-2147483648), 2147483647), ((-2147483648), 2147483647), ((-2147483648), 2147483647), ((-2147483648), 2147483647), ((-2147483648), 2147483647), ((-2147483648), 2147483647), ((-2147483648), 2147483647), ((-2147483648), 2147483647), ((-2147483648), 2147483647), ((-2147483648), 2147483647)], [(25, false)], [], [], [], [], [(252, [(0, [(3, 1)]), (0, [(4, 1)]), (0, [(5, 1)]), (0, [(6, 1)]), (0, [(7, 1)]), (0, [(8, 1)]), (0, [(9, 1)]), ((-1), [(0, 2)]), (0, [(1, 1)])])])])
theorem lk_857 : l_core lm_857 := by
  first
  | skip
    intro v x h
    have G0 := h.2.2.1
    have K := k_mgP (V := v) (i := x 0) (m := x 1) (v := x 2) (q := x 3) (b := x 4) (s := x 5) (o := x 6) (a1 := x 7) (a2 := x 8) (a3 := x 9) (l_c9 (fun w0 w1 w2 w3 w4 w5 w6 w7 w8 : Int => q_mgn v w0 w1 w2 w3 w4 w5 w6 w7 w8) (l_e1 x 3) (l_e1 x 4) (l_e1 x 5) (l_e1 x 6) (l_e1 x 7) (l_e1 x 8) (l_e1 x 9) (l_q16 2 x 0) (l_e1 x 1) (h.2.2.2.1)) (l_c11 (fun w0 w1 w2 w3 w4 w5 w6 w7 w8 w9 w10 : Int => q_qry v w0 w1 w2 w3 w4 w5 w6 w7 w8 w9 w10) (l_e0 x (2)) (l_e1 x 3) (l_e1 x 4) (l_e1 x 5) (l_e1 x 6) (l_e1 x 7) (l_e1 x 8) (l_e1 x 9) (l_q9 1 2 x 0) (l_e0 x (0)) (l_e1 x 2) (h.2.2.2.2.1)) (l_cc (l_e1 x 0) (h.2.1.1)) (l_ff (f := v 25) (L := j_len 25) (l_q16 2 x 0) (l_e1 x 2) (G0.1.1))
    refine l_outH rfl (And.intro h.1 ?_)
    exact l_o9 (fun w0 w1 w2 w3 w4 w5 w6 w7 w8 : Int => (True) ∧ (q_mgn v w0 w1 w2 w3 w4 w5 w6 w7 w8 ∧ True)) (l_e1 x 3) (l_e1 x 4) (l_e1 x 5) (l_e1 x 6) (l_e1 x 7) (l_e1 x 8) (l_e1 x 9) (show y_ev x ((-1), [(0, 2)]) = 2 * x 0 - 1 by show ((-1) : Int) + ((2) * x 0 + 0) = _; omega) (l_e1 x 1) K
  | skip
    intro v x h
    have G0 := h.2.2.1
    have C0 : (0 : Int) ≤ x 0 := l_cc (a := y_ev x (0, [(0, 1)])) (l_e1 _ _) (h.2.1.1)
    have F0 : (0 : Int) ≤ 2 * x 0 ∧ (2 * x 0 : Int) < j_len 25 ∧ v 25 (2 * x 0) = x 2 := l_ff (f := v 25) (L := j_len 25) (a := y_ev x (0, [(0, 2)])) (b := y_ev x (0, [(2, 1)])) (by show ((0) : Int) + ((2) * x 0 + 0) = 2 * x 0; omega) (l_e1 _ _) (G0.1.1)
    have E0 : y_ev x (0, [(3, 1)]) = x 3 := (l_e1 _ _)
    have E1 : y_ev x (0, [(4, 1)]) = x 4 := (l_e1 _ _)
    have E2 : y_ev x (0, [(5, 1)]) = x 5 := (l_e1 _ _)
    have E3 : y_ev x (0, [(6, 1)]) = x 6 := (l_e1 _ _)
    have E4 : y_ev x (0, [(7, 1)]) = x 7 := (l_e1 _ _)
    have E5 : y_ev x (0, [(8, 1)]) = x 8 := (l_e1 _ _)
    have E6 : y_ev x (0, [(9, 1)]) = x 9 := (l_e1 _ _)
    have E7 : y_ev x (0, [(0, 2)]) = 2 * x 0 := (by show ((0) : Int) + ((2) * x 0 + 0) = 2 * x 0; omega)
    have E8 : y_ev x (0, [(1, 1)]) = x 1 := (l_e1 _ _)
    have E9 : y_ev x (2, []) = 2 := (l_e0 _ _)
    have E10 : y_ev x (1, [(0, 2)]) = 2 * x 0 + 1 := (by show ((1) : Int) + ((2) * x 0 + 0) = 2 * x 0 + 1; omega)
    have E11 : y_ev x (0, []) = 0 := (l_e0 _ _)
    have E12 : y_ev x (0, [(2, 1)]) = x 2 := (l_e1 _ _)
    have T0 : q_mgn v (y_ev x (0, [(3, 1)])) (y_ev x (0, [(4, 1)])) (y_ev x (0, [(5, 1)])) (y_ev x (0, [(6, 1)])) (y_ev x (0, [(7, 1)])) (y_ev x (0, [(8, 1)])) (y_ev x (0, [(9, 1)])) (y_ev x (0, [(0, 2)])) (y_ev x (0, [(1, 1)])) := h.2.2.2.1
    (try rw [E0] at T0); (try rw [E1] at T0); (try rw [E2] at T0); (try rw [E3] at T0); (try rw [E4] at T0); (try rw [E5] at T0); (try rw [E6] at T0); (try rw [E7] at T0); (try rw [E8] at T0)
    have T1 : q_qry v (y_ev x (2, [])) (y_ev x (0, [(3, 1)])) (y_ev x (0, [(4, 1)])) (y_ev x (0, [(5, 1)])) (y_ev x (0, [(6, 1)])) (y_ev x (0, [(7, 1)])) (y_ev x (0, [(8, 1)])) (y_ev x (0, [(9, 1)])) (y_ev x (1, [(0, 2)])) (y_ev x (0, [])) (y_ev x (0, [(2, 1)])) := h.2.2.2.2.1
    (try rw [E9] at T1); (try rw [E0] at T1); (try rw [E1] at T1); (try rw [E2] at T1); (try rw [E3] at T1); (try rw [E4] at T1); (try rw [E5] at T1); (try rw [E6] at T1); (try rw [E10] at T1); (try rw [E11] at T1); (try rw [E12] at T1)
    have K := k_mgP (V := v) (i := x 0) (m := x 1) (v := x 2) (q := x 3) (b := x 4) (s := x 5) (o := x 6) (a1 := x 7) (a2 := x 8) (a3 := x 9) T0 T1 C0 F0
    refine l_outH rfl (And.intro h.1 ?_)
    have O0 : y_ev x (0, [(3, 1)]) = x 3 := l_e1 _ _
    have O1 : y_ev x (0, [(4, 1)]) = x 4 := l_e1 _ _
    have O2 : y_ev x (0, [(5, 1)]) = x 5 := l_e1 _ _
    have O3 : y_ev x (0, [(6, 1)]) = x 6 := l_e1 _ _
    have O4 : y_ev x (0, [(7, 1)]) = x 7 := l_e1 _ _
    have O5 : y_ev x (0, [(8, 1)]) = x 8 := l_e1 _ _
    have O6 : y_ev x (0, [(9, 1)]) = x 9 := l_e1 _ _
    have O7 : y_ev x ((-1), [(0, 2)]) = 2 * x 0 - 1 := by show ((-1) : Int) + ((2) * x 0 + 0) = _; omega
    have O8 : y_ev x (0, [(1, 1)]) = x 1 := l_e1 _ _
    show (True) ∧ (q_mgn v (y_ev x (0, [(3, 1)])) (y_ev x (0, [(4, 1)])) (y_ev x (0, [(5, 1)])) (y_ev x (0, [(6, 1)])) (y_ev x (0, [(7, 1)])) (y_ev x (0, [(8, 1)])) (y_ev x (0, [(9, 1)])) (y_ev x ((-1), [(0, 2)])) (y_ev x (0, [(1, 1)])) ∧ True)
    (try rw [O0]); (try rw [O1]); (try rw [O2]); (try rw [O3]); (try rw [O4]); (try rw [O5]); (try rw [O6]); (try rw [O7]); (try rw [O8])
    exact K
def lm_858p : zS := ((lm_473pi_0 (lm_473pi_1 [])), [(25, false)], [((-1), [(0, 1)])], [], [(0, 0, 0, [(0, 1)])], [(0, (true, 0, (-1), [(0, 2)]), 0, 0, 0, [(2, 1)])], [(252, [(0, [(3, 1)]), (0, [(4, 1)]), (0, [(5, 1)]), (0, [(6, 1)]), (0, [(7, 1)]), (0, [(8, 1)]), (0, [(9, 1)]), ((-1), [(0, 2)]), (0, [(1, 1)])]), (238, [(2, []), (0, [(3, 1)]), (0, [(4, 1)]), (0, [(5, 1)]), (0, [(6, 1)]), (0, [(7, 1)]), (0, [(8, 1)]), (0, [(9, 1)]), (0, [(0, 2)]), (0, []), (0, [(2, 1)])])])
def lm_858 : zLem := (lm_858p, [([((-2147483648), 2147483647), ((-2147483648), 2147483647), ((-2147483648), 2147483647), ((-2147483648), 2147483647), ((-2147483648), 2147483647), ((-2147483648), 2147483647), ((-2147483648), 2147483647), ((-2147483648), 2147483647), ((-2147483648), 2147483647), ((-2147483648), 2147483647)], [(25, false)], [], [], [], [], [(252, [(0, [(3, 1)]), (0, [(4, 1)]), (0, [(5, 1)]), (0, [(6, 1)]), (0, [(7, 1)]), (0, [(8, 1)]), (0, [(9, 1)]), ((-2), [(0, 2)]), (0, [(1, 1)])])])])
theorem lk_858 : l_core lm_858 := by
  first
  | skip
    intro v x h
    have G0 := h.2.2.1
    have K := k_mgJ (V := v) (i := x 0) (m := x 1) (v := x 2) (q := x 3) (b := x 4) (s := x 5) (o := x 6) (a1 := x 7) (a2 := x 8) (a3 := x 9) (l_c9 (fun w0 w1 w2 w3 w4 w5 w6 w7 w8 : Int => q_mgn v w0 w1 w2 w3 w4 w5 w6 w7 w8) (l_e1 x 3) (l_e1 x 4) (l_e1 x 5) (l_e1 x 6) (l_e1 x 7) (l_e1 x 8) (l_e1 x 9) (show y_ev x ((-1), [(0, 2)]) = 2 * x 0 - 1 by show ((-1) : Int) + ((2) * x 0 + 0) = _; omega) (l_e1 x 1) (h.2.2.2.1)) (l_c11 (fun w0 w1 w2 w3 w4 w5 w6 w7 w8 w9 w10 : Int => q_qry v w0 w1 w2 w3 w4 w5 w6 w7 w8 w9 w10) (l_e0 x (2)) (l_e1 x 3) (l_e1 x 4) (l_e1 x 5) (l_e1 x 6) (l_e1 x 7) (l_e1 x 8) (l_e1 x 9) (l_q16 2 x 0) (l_e0 x (0)) (l_e1 x 2) (h.2.2.2.2.1)) (l_cc (l_q2 1 x 0) (h.2.1.1)) (l_ff (f := v 25) (L := j_len 25) (show y_ev x ((-1), [(0, 2)]) = 2 * x 0 - 1 by show ((-1) : Int) + ((2) * x 0 + 0) = _; omega) (l_e1 x 2) (G0.1.1))
    refine l_outH rfl (And.intro h.1 ?_)
    exact l_o9 (fun w0 w1 w2 w3 w4 w5 w6 w7 w8 : Int => (True) ∧ (q_mgn v w0 w1 w2 w3 w4 w5 w6 w7 w8 ∧ True)) (l_e1 x 3) (l_e1 x 4) (l_e1 x 5) (l_e1 x 6) (l_e1 x 7) (l_e1 x 8) (l_e1 x 9) (show y_ev x ((-2), [(0, 2)]) = 2 * x 0 - 2 by show ((-2) : Int) + ((2) * x 0 + 0) = _; omega) (l_e1 x 1) K
  | skip
    intro v x h
    have G0 := h.2.2.1
    have C0 : (0 : Int) ≤ x 0 - 1 := l_cc (a := y_ev x ((-1), [(0, 1)])) (by show ((-1) : Int) + ((1) * x 0 + 0) = x 0 - 1; omega) (h.2.1.1)
    have F0 : (0 : Int) ≤ 2 * x 0 - 1 ∧ (2 * x 0 - 1 : Int) < j_len 25 ∧ v 25 (2 * x 0 - 1) = x 2 := l_ff (f := v 25) (L := j_len 25) (a := y_ev x ((-1), [(0, 2)])) (b := y_ev x (0, [(2, 1)])) (by show ((-1) : Int) + ((2) * x 0 + 0) = 2 * x 0 - 1; omega) (l_e1 _ _) (G0.1.1)
    have E0 : y_ev x (0, [(3, 1)]) = x 3 := (l_e1 _ _)
    have E1 : y_ev x (0, [(4, 1)]) = x 4 := (l_e1 _ _)
    have E2 : y_ev x (0, [(5, 1)]) = x 5 := (l_e1 _ _)
    have E3 : y_ev x (0, [(6, 1)]) = x 6 := (l_e1 _ _)
    have E4 : y_ev x (0, [(7, 1)]) = x 7 := (l_e1 _ _)
    have E5 : y_ev x (0, [(8, 1)]) = x 8 := (l_e1 _ _)
    have E6 : y_ev x (0, [(9, 1)]) = x 9 := (l_e1 _ _)
    have E7 : y_ev x ((-1), [(0, 2)]) = 2 * x 0 - 1 := (by show ((-1) : Int) + ((2) * x 0 + 0) = 2 * x 0 - 1; omega)
    have E8 : y_ev x (0, [(1, 1)]) = x 1 := (l_e1 _ _)
    have E9 : y_ev x (2, []) = 2 := (l_e0 _ _)
    have E10 : y_ev x (0, [(0, 2)]) = 2 * x 0 := (by show ((0) : Int) + ((2) * x 0 + 0) = 2 * x 0; omega)
    have E11 : y_ev x (0, []) = 0 := (l_e0 _ _)
    have E12 : y_ev x (0, [(2, 1)]) = x 2 := (l_e1 _ _)
    have T0 : q_mgn v (y_ev x (0, [(3, 1)])) (y_ev x (0, [(4, 1)])) (y_ev x (0, [(5, 1)])) (y_ev x (0, [(6, 1)])) (y_ev x (0, [(7, 1)])) (y_ev x (0, [(8, 1)])) (y_ev x (0, [(9, 1)])) (y_ev x ((-1), [(0, 2)])) (y_ev x (0, [(1, 1)])) := h.2.2.2.1
    (try rw [E0] at T0); (try rw [E1] at T0); (try rw [E2] at T0); (try rw [E3] at T0); (try rw [E4] at T0); (try rw [E5] at T0); (try rw [E6] at T0); (try rw [E7] at T0); (try rw [E8] at T0)
    have T1 : q_qry v (y_ev x (2, [])) (y_ev x (0, [(3, 1)])) (y_ev x (0, [(4, 1)])) (y_ev x (0, [(5, 1)])) (y_ev x (0, [(6, 1)])) (y_ev x (0, [(7, 1)])) (y_ev x (0, [(8, 1)])) (y_ev x (0, [(9, 1)])) (y_ev x (0, [(0, 2)])) (y_ev x (0, [])) (y_ev x (0, [(2, 1)])) := h.2.2.2.2.1
    (try rw [E9] at T1); (try rw [E0] at T1); (try rw [E1] at T1); (try rw [E2] at T1); (try rw [E3] at T1); (try rw [E4] at T1); (try rw [E5] at T1); (try rw [E6] at T1); (try rw [E10] at T1); (try rw [E11] at T1); (try rw [E12] at T1)
    have K := k_mgJ (V := v) (i := x 0) (m := x 1) (v := x 2) (q := x 3) (b := x 4) (s := x 5) (o := x 6) (a1 := x 7) (a2 := x 8) (a3 := x 9) T0 T1 C0 F0
    refine l_outH rfl (And.intro h.1 ?_)
    have O0 : y_ev x (0, [(3, 1)]) = x 3 := l_e1 _ _
    have O1 : y_ev x (0, [(4, 1)]) = x 4 := l_e1 _ _
    have O2 : y_ev x (0, [(5, 1)]) = x 5 := l_e1 _ _
    have O3 : y_ev x (0, [(6, 1)]) = x 6 := l_e1 _ _
    have O4 : y_ev x (0, [(7, 1)]) = x 7 := l_e1 _ _
    have O5 : y_ev x (0, [(8, 1)]) = x 8 := l_e1 _ _
    have O6 : y_ev x (0, [(9, 1)]) = x 9 := l_e1 _ _
    have O7 : y_ev x ((-2), [(0, 2)]) = 2 * x 0 - 2 := by show ((-2) : Int) + ((2) * x 0 + 0) = _; omega
    have O8 : y_ev x (0, [(1, 1)]) = x 1 := l_e1 _ _
    show (True) ∧ (q_mgn v (y_ev x (0, [(3, 1)])) (y_ev x (0, [(4, 1)])) (y_ev x (0, [(5, 1)])) (y_ev x (0, [(6, 1)])) (y_ev x (0, [(7, 1)])) (y_ev x (0, [(8, 1)])) (y_ev x (0, [(9, 1)])) (y_ev x ((-2), [(0, 2)])) (y_ev x (0, [(1, 1)])) ∧ True)
    (try rw [O0]); (try rw [O1]); (try rw [O2]); (try rw [O3]); (try rw [O4]); (try rw [O5]); (try rw [O6]); (try rw [O7]); (try rw [O8])
    exact K
def lm_859 : zLem := (([((-2147483648), 2147483647), ((-2147483648), 2147483647), ((-2147483648), 2147483647), ((-2147483648), 2147483647), ((-2147483648), 2147483647), ((-2147483648), 2147483647), ((-2147483648), 2147483647), ((-2147483648), 2147483647), ((-2147483648), 2147483647)], [], [(0, [(0, 1)]), (0, [(0, (-1))])], [], [(0, 0, 0, [(0, 1)])], [], [(252, [(0, [(2, 1)]), (0, [(3, 1)]), (0, [(4, 1)]), (0, [(5, 1)]), (0, [(6, 1)]), (0, [(7, 1)]), (0, [(8, 1)]), ((-1), []), (0, [(1, 1)])])]), [([((-2147483648), 2147483647), ((-2147483648), 2147483647), ((-2147483648), 2147483647), ((-2147483648), 2147483647), ((-2147483648), 2147483647), ((-2147483648), 2147483647), ((-2147483648), 2147483647), ((-2147483648), 2147483647), ((-2147483648), 2147483647)], [], [], [], [], [], [(252, [(0, [(2, 1)]), (0, [(3, 1)]), (0, [(4, 1)]), (0, [(5, 1)]), (0, [(6, 1)]), (0, [(7, 1)]), (0, [(8, 1)]), ((-2), []), (0, [(1, 1)])])])])
theorem lk_859 : l_core lm_859 := by
  first
  | skip
    intro v x h
    have K := k_mgZ (V := v) (i := x 0) (m := x 1) (q := x 2) (b := x 3) (s := x 4) (o := x 5) (a1 := x 6) (a2 := x 7) (a3 := x 8) (l_c9 (fun w0 w1 w2 w3 w4 w5 w6 w7 w8 : Int => q_mgn v w0 w1 w2 w3 w4 w5 w6 w7 w8) (l_e1 x 2) (l_e1 x 3) (l_e1 x 4) (l_e1 x 5) (l_e1 x 6) (l_e1 x 7) (l_e1 x 8) (l_e0 x (-1)) (l_e1 x 1) (h.2.2.2.1)) (l_cc (l_e1 x 0) (h.2.1.1)) (l_cc (l_q7 x 0) (h.2.1.2.1))
    refine l_outH rfl (And.intro h.1 ?_)
    exact l_o9 (fun w0 w1 w2 w3 w4 w5 w6 w7 w8 : Int => (True) ∧ (q_mgn v w0 w1 w2 w3 w4 w5 w6 w7 w8 ∧ True)) (l_e1 x 2) (l_e1 x 3) (l_e1 x 4) (l_e1 x 5) (l_e1 x 6) (l_e1 x 7) (l_e1 x 8) (l_e0 x (-2)) (l_e1 x 1) K
  | skip
    intro v x h
    have C0 : (0 : Int) ≤ x 0 := l_cc (a := y_ev x (0, [(0, 1)])) (l_e1 _ _) (h.2.1.1)
    have C1 : (0 : Int) ≤ -x 0 := l_cc (a := y_ev x (0, [(0, (-1))])) (by show ((0) : Int) + ((-1) * x 0 + 0) = -x 0; omega) (h.2.1.2.1)
    have E0 : y_ev x (0, [(2, 1)]) = x 2 := (l_e1 _ _)
    have E1 : y_ev x (0, [(3, 1)]) = x 3 := (l_e1 _ _)
    have E2 : y_ev x (0, [(4, 1)]) = x 4 := (l_e1 _ _)
    have E3 : y_ev x (0, [(5, 1)]) = x 5 := (l_e1 _ _)
    have E4 : y_ev x (0, [(6, 1)]) = x 6 := (l_e1 _ _)
    have E5 : y_ev x (0, [(7, 1)]) = x 7 := (l_e1 _ _)
    have E6 : y_ev x (0, [(8, 1)]) = x 8 := (l_e1 _ _)
    have E7 : y_ev x ((-1), []) = (-1) := (l_e0 _ _)
    have E8 : y_ev x (0, [(1, 1)]) = x 1 := (l_e1 _ _)
    have T0 : q_mgn v (y_ev x (0, [(2, 1)])) (y_ev x (0, [(3, 1)])) (y_ev x (0, [(4, 1)])) (y_ev x (0, [(5, 1)])) (y_ev x (0, [(6, 1)])) (y_ev x (0, [(7, 1)])) (y_ev x (0, [(8, 1)])) (y_ev x ((-1), [])) (y_ev x (0, [(1, 1)])) := h.2.2.2.1
    (try rw [E0] at T0); (try rw [E1] at T0); (try rw [E2] at T0); (try rw [E3] at T0); (try rw [E4] at T0); (try rw [E5] at T0); (try rw [E6] at T0); (try rw [E7] at T0); (try rw [E8] at T0)
    have K := k_mgZ (V := v) (i := x 0) (m := x 1) (q := x 2) (b := x 3) (s := x 4) (o := x 5) (a1 := x 6) (a2 := x 7) (a3 := x 8) T0 C0 C1
    refine l_outH rfl (And.intro h.1 ?_)
    have O0 : y_ev x (0, [(2, 1)]) = x 2 := l_e1 _ _
    have O1 : y_ev x (0, [(3, 1)]) = x 3 := l_e1 _ _
    have O2 : y_ev x (0, [(4, 1)]) = x 4 := l_e1 _ _
    have O3 : y_ev x (0, [(5, 1)]) = x 5 := l_e1 _ _
    have O4 : y_ev x (0, [(6, 1)]) = x 6 := l_e1 _ _
    have O5 : y_ev x (0, [(7, 1)]) = x 7 := l_e1 _ _
    have O6 : y_ev x (0, [(8, 1)]) = x 8 := l_e1 _ _
    have O7 : y_ev x ((-2), []) = (-2) := l_e0 _ _
    have O8 : y_ev x (0, [(1, 1)]) = x 1 := l_e1 _ _
    show (True) ∧ (q_mgn v (y_ev x (0, [(2, 1)])) (y_ev x (0, [(3, 1)])) (y_ev x (0, [(4, 1)])) (y_ev x (0, [(5, 1)])) (y_ev x (0, [(6, 1)])) (y_ev x (0, [(7, 1)])) (y_ev x (0, [(8, 1)])) (y_ev x ((-2), [])) (y_ev x (0, [(1, 1)])) ∧ True)
    (try rw [O0]); (try rw [O1]); (try rw [O2]); (try rw [O3]); (try rw [O4]); (try rw [O5]); (try rw [O6]); (try rw [O7]); (try rw [O8])
    exact K
def lm_860pg_0 (t : List zTg) : List zTg := (238, [(18, []), (0, [(4, 1)]), (0, [(5, 1)]), (0, [(6, 1)]), (0, [(7, 1)]), (0, [(8, 1)]), (0, [(9, 1)]), (0, [(10, 1)]), (0, [(0, 1)]), (0, []), (0, [(3, 1)])]) :: (238, [(1, []), (0, [(4, 1)]), (0, [(5, 1)]), (0, [(6, 1)]), (0, [(7, 1)]), (0, [(8, 1)]), (0, [(9, 1)]), (0, [(10, 1)]), (1, [(0, 1)]), (0, [(1, 1)]), (0, [(2, 1)])]) :: (238, [(8, []), (0, [(4, 1)]), (0, [(5, 1)]), (0, [(6, 1)]), (0, [(7, 1)]), (0, [(8, 1)]), (0, [(9, 1)]), (0, [(10, 1)]), (24, []), (0, []), (0, [(1, 1)])]) :: t
def lm_860p : zS := ((lm_416pi_0 (lm_416pi_1 [])), [], [(0, [(0, 1)]), ((-1), [(0, (-1)), (1, 1)]), (6, [(1, (-1))])], [], [(0, 0, 0, [(0, 1)]), (0, 0, 0, [(2, 1)])], [], (lm_860pg_0 []))
def lm_860 : zLem := (lm_860p, [([((-2147483648), 2147483647), ((-2147483648), 2147483647), ((-2147483648), 2147483647), ((-2147483648), 2147483647), ((-2147483648), 2147483647), ((-2147483648), 2147483647), ((-2147483648), 2147483647), ((-2147483648), 2147483647), ((-2147483648), 2147483647), ((-2147483648), 2147483647), ((-2147483648), 2147483647)], [], [], [], [], [], [(238, [(2, []), (0, [(4, 1)]), (0, [(5, 1)]), (0, [(6, 1)]), (0, [(7, 1)]), (0, [(8, 1)]), (0, [(9, 1)]), (0, [(10, 1)]), (1, [(0, 2)]), (0, []), (0, [(2, (-1)), (3, 1)])])])])
theorem lk_860 : l_core lm_860 := by
  first
  | skip
    intro v x h
    have K := k_spaP (V := v) (i := x 0) (p := x 1) (z := x 2) (w := x 3) (q := x 4) (b := x 5) (s := x 6) (o := x 7) (a1 := x 8) (a2 := x 9) (a3 := x 10) (l_c11 (fun w0 w1 w2 w3 w4 w5 w6 w7 w8 w9 w10 : Int => q_qry v w0 w1 w2 w3 w4 w5 w6 w7 w8 w9 w10) (l_e0 x (18)) (l_e1 x 4) (l_e1 x 5) (l_e1 x 6) (l_e1 x 7) (l_e1 x 8) (l_e1 x 9) (l_e1 x 10) (l_e1 x 0) (l_e0 x (0)) (l_e1 x 3) (h.2.2.2.1)) (l_c11 (fun w0 w1 w2 w3 w4 w5 w6 w7 w8 w9 w10 : Int => q_qry v w0 w1 w2 w3 w4 w5 w6 w7 w8 w9 w10) (l_e0 x (1)) (l_e1 x 4) (l_e1 x 5) (l_e1 x 6) (l_e1 x 7) (l_e1 x 8) (l_e1 x 9) (l_e1 x 10) (l_q3 1 x 0) (l_e1 x 1) (l_e1 x 2) (h.2.2.2.2.1)) (l_c11 (fun w0 w1 w2 w3 w4 w5 w6 w7 w8 w9 w10 : Int => q_qry v w0 w1 w2 w3 w4 w5 w6 w7 w8 w9 w10) (l_e0 x (8)) (l_e1 x 4) (l_e1 x 5) (l_e1 x 6) (l_e1 x 7) (l_e1 x 8) (l_e1 x 9) (l_e1 x 10) (l_e0 x (24)) (l_e0 x (0)) (l_e1 x 1) (h.2.2.2.2.2.1)) (l_cc (l_e1 x 0) (h.2.1.1)) (l_cc (l_q6 1 x 0 1) (h.2.1.2.1)) (l_cc (l_q1 6 x 1) (h.2.1.2.2.1))
    refine l_outH rfl (And.intro h.1 ?_)
    exact l_o11 (fun w0 w1 w2 w3 w4 w5 w6 w7 w8 w9 w10 : Int => (True) ∧ (q_qry v w0 w1 w2 w3 w4 w5 w6 w7 w8 w9 w10 ∧ True)) (l_e0 x (2)) (l_e1 x 4) (l_e1 x 5) (l_e1 x 6) (l_e1 x 7) (l_e1 x 8) (l_e1 x 9) (l_e1 x 10) (l_q9 1 2 x 0) (l_e0 x (0)) (l_q4 x 2 3) K
  | skip
    intro v x h
    have C0 : (0 : Int) ≤ x 0 := l_cc (a := y_ev x (0, [(0, 1)])) (l_e1 _ _) (h.2.1.1)
    have C1 : (0 : Int) ≤ x 1 - x 0 - 1 := l_cc (a := y_ev x ((-1), [(0, (-1)), (1, 1)])) (by show ((-1) : Int) + ((-1) * x 0 + ((1) * x 1 + 0)) = x 1 - x 0 - 1; omega) (h.2.1.2.1)
    have C2 : (0 : Int) ≤ 6 - x 1 := l_cc (a := y_ev x (6, [(1, (-1))])) (by show ((6) : Int) + ((-1) * x 1 + 0) = 6 - x 1; omega) (h.2.1.2.2.1)
    have E0 : y_ev x (18, []) = 18 := (l_e0 _ _)
    have E1 : y_ev x (0, [(4, 1)]) = x 4 := (l_e1 _ _)
    have E2 : y_ev x (0, [(5, 1)]) = x 5 := (l_e1 _ _)
    have E3 : y_ev x (0, [(6, 1)]) = x 6 := (l_e1 _ _)
    have E4 : y_ev x (0, [(7, 1)]) = x 7 := (l_e1 _ _)
    have E5 : y_ev x (0, [(8, 1)]) = x 8 := (l_e1 _ _)
    have E6 : y_ev x (0, [(9, 1)]) = x 9 := (l_e1 _ _)
    have E7 : y_ev x (0, [(10, 1)]) = x 10 := (l_e1 _ _)
    have E8 : y_ev x (0, [(0, 1)]) = x 0 := (l_e1 _ _)
    have E9 : y_ev x (0, []) = 0 := (l_e0 _ _)
    have E10 : y_ev x (0, [(3, 1)]) = x 3 := (l_e1 _ _)
    have E11 : y_ev x (1, []) = 1 := (l_e0 _ _)
    have E12 : y_ev x (1, [(0, 1)]) = x 0 + 1 := (by show ((1) : Int) + ((1) * x 0 + 0) = x 0 + 1; omega)
    have E13 : y_ev x (0, [(1, 1)]) = x 1 := (l_e1 _ _)
    have E14 : y_ev x (0, [(2, 1)]) = x 2 := (l_e1 _ _)
    have E15 : y_ev x (8, []) = 8 := (l_e0 _ _)
    have E16 : y_ev x (24, []) = 24 := (l_e0 _ _)
    have T0 : q_qry v (y_ev x (18, [])) (y_ev x (0, [(4, 1)])) (y_ev x (0, [(5, 1)])) (y_ev x (0, [(6, 1)])) (y_ev x (0, [(7, 1)])) (y_ev x (0, [(8, 1)])) (y_ev x (0, [(9, 1)])) (y_ev x (0, [(10, 1)])) (y_ev x (0, [(0, 1)])) (y_ev x (0, [])) (y_ev x (0, [(3, 1)])) := h.2.2.2.1
    (try rw [E0] at T0); (try rw [E1] at T0); (try rw [E2] at T0); (try rw [E3] at T0); (try rw [E4] at T0); (try rw [E5] at T0); (try rw [E6] at T0); (try rw [E7] at T0); (try rw [E8] at T0); (try rw [E9] at T0); (try rw [E10] at T0)
    have T1 : q_qry v (y_ev x (1, [])) (y_ev x (0, [(4, 1)])) (y_ev x (0, [(5, 1)])) (y_ev x (0, [(6, 1)])) (y_ev x (0, [(7, 1)])) (y_ev x (0, [(8, 1)])) (y_ev x (0, [(9, 1)])) (y_ev x (0, [(10, 1)])) (y_ev x (1, [(0, 1)])) (y_ev x (0, [(1, 1)])) (y_ev x (0, [(2, 1)])) := h.2.2.2.2.1
    (try rw [E11] at T1); (try rw [E1] at T1); (try rw [E2] at T1); (try rw [E3] at T1); (try rw [E4] at T1); (try rw [E5] at T1); (try rw [E6] at T1); (try rw [E7] at T1); (try rw [E12] at T1); (try rw [E13] at T1); (try rw [E14] at T1)
    have T2 : q_qry v (y_ev x (8, [])) (y_ev x (0, [(4, 1)])) (y_ev x (0, [(5, 1)])) (y_ev x (0, [(6, 1)])) (y_ev x (0, [(7, 1)])) (y_ev x (0, [(8, 1)])) (y_ev x (0, [(9, 1)])) (y_ev x (0, [(10, 1)])) (y_ev x (24, [])) (y_ev x (0, [])) (y_ev x (0, [(1, 1)])) := h.2.2.2.2.2.1
    (try rw [E15] at T2); (try rw [E1] at T2); (try rw [E2] at T2); (try rw [E3] at T2); (try rw [E4] at T2); (try rw [E5] at T2); (try rw [E6] at T2); (try rw [E7] at T2); (try rw [E16] at T2); (try rw [E9] at T2); (try rw [E13] at T2)
    have K := k_spaP (V := v) (i := x 0) (p := x 1) (z := x 2) (w := x 3) (q := x 4) (b := x 5) (s := x 6) (o := x 7) (a1 := x 8) (a2 := x 9) (a3 := x 10) T0 T1 T2 C0 C1 C2
    refine l_outH rfl (And.intro h.1 ?_)
    have O0 : y_ev x (2, []) = 2 := l_e0 _ _
    have O1 : y_ev x (0, [(4, 1)]) = x 4 := l_e1 _ _
    have O2 : y_ev x (0, [(5, 1)]) = x 5 := l_e1 _ _
    have O3 : y_ev x (0, [(6, 1)]) = x 6 := l_e1 _ _
    have O4 : y_ev x (0, [(7, 1)]) = x 7 := l_e1 _ _
    have O5 : y_ev x (0, [(8, 1)]) = x 8 := l_e1 _ _
    have O6 : y_ev x (0, [(9, 1)]) = x 9 := l_e1 _ _
    have O7 : y_ev x (0, [(10, 1)]) = x 10 := l_e1 _ _
    have O8 : y_ev x (1, [(0, 2)]) = 2 * x 0 + 1 := by show ((1) : Int) + ((2) * x 0 + 0) = _; omega
    have O9 : y_ev x (0, []) = 0 := l_e0 _ _
    have O10 : y_ev x (0, [(2, (-1)), (3, 1)]) = x 3 - x 2 := by show ((0) : Int) + ((-1) * x 2 + ((1) * x 3 + 0)) = _; omega
    show (True) ∧ (q_qry v (y_ev x (2, [])) (y_ev x (0, [(4, 1)])) (y_ev x (0, [(5, 1)])) (y_ev x (0, [(6, 1)])) (y_ev x (0, [(7, 1)])) (y_ev x (0, [(8, 1)])) (y_ev x (0, [(9, 1)])) (y_ev x (0, [(10, 1)])) (y_ev x (1, [(0, 2)])) (y_ev x (0, [])) (y_ev x (0, [(2, (-1)), (3, 1)])) ∧ True)
    (try rw [O0]); (try rw [O1]); (try rw [O2]); (try rw [O3]); (try rw [O4]); (try rw [O5]); (try rw [O6]); (try rw [O7]); (try rw [O8]); (try rw [O9]); (try rw [O10])
    exact K
def lm_861pg_0 (t : List zTg) : List zTg := (238, [(17, []), (0, [(4, 1)]), (0, [(5, 1)]), (0, [(6, 1)]), (0, [(7, 1)]), (0, [(8, 1)]), (0, [(9, 1)]), (0, [(10, 1)]), (0, [(0, 1)]), (0, []), (0, [(3, 1)])]) :: (238, [(1, []), (0, [(4, 1)]), (0, [(5, 1)]), (0, [(6, 1)]), (0, [(7, 1)]), (0, [(8, 1)]), (0, [(9, 1)]), (0, [(10, 1)]), (0, [(0, 1)]), (0, [(1, 1)]), (0, [(2, 1)])]) :: (238, [(8, []), (0, [(4, 1)]), (0, [(5, 1)]), (0, [(6, 1)]), (0, [(7, 1)]), (0, [(8, 1)]), (0, [(9, 1)]), (0, [(10, 1)]), (24, []), (0, []), (0, [(1, 1)])]) :: t
def lm_861p : zS := ((lm_416pi_0 (lm_416pi_1 [])), [], [((-1), [(0, 1)]), ((-1), [(0, (-1)), (1, 1)]), (6, [(1, (-1))])], [], [(0, 0, 0, [(0, 1)]), (0, 0, 0, [(2, 1)]), (0, 0, 0, [(3, 1)])], [], (lm_861pg_0 []))
def lm_861 : zLem := (lm_861p, [([((-2147483648), 2147483647), ((-2147483648), 2147483647), ((-2147483648), 2147483647), ((-2147483648), 2147483647), ((-2147483648), 2147483647), ((-2147483648), 2147483647), ((-2147483648), 2147483647), ((-2147483648), 2147483647), ((-2147483648), 2147483647), ((-2147483648), 2147483647), ((-2147483648), 2147483647)], [], [], [], [], [], [(238, [(2, []), (0, [(4, 1)]), (0, [(5, 1)]), (0, [(6, 1)]), (0, [(7, 1)]), (0, [(8, 1)]), (0, [(9, 1)]), (0, [(10, 1)]), (0, [(0, 2)]), (0, []), (0, [(2, (-1)), (3, 1)])])])])
theorem lk_861 : l_core lm_861 := by
  first
  | skip
    intro v x h
    have K := k_spaJ (V := v) (i := x 0) (p := x 1) (z := x 2) (w := x 3) (q := x 4) (b := x 5) (s := x 6) (o := x 7) (a1 := x 8) (a2 := x 9) (a3 := x 10) (l_c11 (fun w0 w1 w2 w3 w4 w5 w6 w7 w8 w9 w10 : Int => q_qry v w0 w1 w2 w3 w4 w5 w6 w7 w8 w9 w10) (l_e0 x (17)) (l_e1 x 4) (l_e1 x 5) (l_e1 x 6) (l_e1 x 7) (l_e1 x 8) (l_e1 x 9) (l_e1 x 10) (l_e1 x 0) (l_e0 x (0)) (l_e1 x 3) (h.2.2.2.1)) (l_c11 (fun w0 w1 w2 w3 w4 w5 w6 w7 w8 w9 w10 : Int => q_qry v w0 w1 w2 w3 w4 w5 w6 w7 w8 w9 w10) (l_e0 x (1)) (l_e1 x 4) (l_e1 x 5) (l_e1 x 6) (l_e1 x 7) (l_e1 x 8) (l_e1 x 9) (l_e1 x 10) (l_e1 x 0) (l_e1 x 1) (l_e1 x 2) (h.2.2.2.2.1)) (l_c11 (fun w0 w1 w2 w3 w4 w5 w6 w7 w8 w9 w10 : Int => q_qry v w0 w1 w2 w3 w4 w5 w6 w7 w8 w9 w10) (l_e0 x (8)) (l_e1 x 4) (l_e1 x 5) (l_e1 x 6) (l_e1 x 7) (l_e1 x 8) (l_e1 x 9) (l_e1 x 10) (l_e0 x (24)) (l_e0 x (0)) (l_e1 x 1) (h.2.2.2.2.2.1)) (l_cc (l_q2 1 x 0) (h.2.1.1)) (l_cc (l_q6 1 x 0 1) (h.2.1.2.1)) (l_cc (l_q1 6 x 1) (h.2.1.2.2.1))
    refine l_outH rfl (And.intro h.1 ?_)
    exact l_o11 (fun w0 w1 w2 w3 w4 w5 w6 w7 w8 w9 w10 : Int => (True) ∧ (q_qry v w0 w1 w2 w3 w4 w5 w6 w7 w8 w9 w10 ∧ True)) (l_e0 x (2)) (l_e1 x 4) (l_e1 x 5) (l_e1 x 6) (l_e1 x 7) (l_e1 x 8) (l_e1 x 9) (l_e1 x 10) (l_q16 2 x 0) (l_e0 x (0)) (l_q4 x 2 3) K
  | skip
    intro v x h
    have C0 : (0 : Int) ≤ x 0 - 1 := l_cc (a := y_ev x ((-1), [(0, 1)])) (by show ((-1) : Int) + ((1) * x 0 + 0) = x 0 - 1; omega) (h.2.1.1)
    have C1 : (0 : Int) ≤ x 1 - x 0 - 1 := l_cc (a := y_ev x ((-1), [(0, (-1)), (1, 1)])) (by show ((-1) : Int) + ((-1) * x 0 + ((1) * x 1 + 0)) = x 1 - x 0 - 1; omega) (h.2.1.2.1)
    have C2 : (0 : Int) ≤ 6 - x 1 := l_cc (a := y_ev x (6, [(1, (-1))])) (by show ((6) : Int) + ((-1) * x 1 + 0) = 6 - x 1; omega) (h.2.1.2.2.1)
    have E0 : y_ev x (17, []) = 17 := (l_e0 _ _)
    have E1 : y_ev x (0, [(4, 1)]) = x 4 := (l_e1 _ _)
    have E2 : y_ev x (0, [(5, 1)]) = x 5 := (l_e1 _ _)
    have E3 : y_ev x (0, [(6, 1)]) = x 6 := (l_e1 _ _)
    have E4 : y_ev x (0, [(7, 1)]) = x 7 := (l_e1 _ _)
    have E5 : y_ev x (0, [(8, 1)]) = x 8 := (l_e1 _ _)
    have E6 : y_ev x (0, [(9, 1)]) = x 9 := (l_e1 _ _)
    have E7 : y_ev x (0, [(10, 1)]) = x 10 := (l_e1 _ _)
    have E8 : y_ev x (0, [(0, 1)]) = x 0 := (l_e1 _ _)
    have E9 : y_ev x (0, []) = 0 := (l_e0 _ _)
    have E10 : y_ev x (0, [(3, 1)]) = x 3 := (l_e1 _ _)
    have E11 : y_ev x (1, []) = 1 := (l_e0 _ _)
    have E12 : y_ev x (0, [(1, 1)]) = x 1 := (l_e1 _ _)
    have E13 : y_ev x (0, [(2, 1)]) = x 2 := (l_e1 _ _)
    have E14 : y_ev x (8, []) = 8 := (l_e0 _ _)
    have E15 : y_ev x (24, []) = 24 := (l_e0 _ _)
    have T0 : q_qry v (y_ev x (17, [])) (y_ev x (0, [(4, 1)])) (y_ev x (0, [(5, 1)])) (y_ev x (0, [(6, 1)])) (y_ev x (0, [(7, 1)])) (y_ev x (0, [(8, 1)])) (y_ev x (0, [(9, 1)])) (y_ev x (0, [(10, 1)])) (y_ev x (0, [(0, 1)])) (y_ev x (0, [])) (y_ev x (0, [(3, 1)])) := h.2.2.2.1
    (try rw [E0] at T0); (try rw [E1] at T0); (try rw [E2] at T0); (try rw [E3] at T0); (try rw [E4] at T0); (try rw [E5] at T0); (try rw [E6] at T0); (try rw [E7] at T0); (try rw [E8] at T0); (try rw [E9] at T0); (try rw [E10] at T0)
    have T1 : q_qry v (y_ev x (1, [])) (y_ev x (0, [(4, 1)])) (y_ev x (0, [(5, 1)])) (y_ev x (0, [(6, 1)])) (y_ev x (0, [(7, 1)])) (y_ev x (0, [(8, 1)])) (y_ev x (0, [(9, 1)])) (y_ev x (0, [(10, 1)])) (y_ev x (0, [(0, 1)])) (y_ev x (0, [(1, 1)])) (y_ev x (0, [(2, 1)])) := h.2.2.2.2.1
    (try rw [E11] at T1); (try rw [E1] at T1); (try rw [E2] at T1); (try rw [E3] at T1); (try rw [E4] at T1); (try rw [E5] at T1); (try rw [E6] at T1); (try rw [E7] at T1); (try rw [E8] at T1); (try rw [E12] at T1); (try rw [E13] at T1)
    have T2 : q_qry v (y_ev x (8, [])) (y_ev x (0, [(4, 1)])) (y_ev x (0, [(5, 1)])) (y_ev x (0, [(6, 1)])) (y_ev x (0, [(7, 1)])) (y_ev x (0, [(8, 1)])) (y_ev x (0, [(9, 1)])) (y_ev x (0, [(10, 1)])) (y_ev x (24, [])) (y_ev x (0, [])) (y_ev x (0, [(1, 1)])) := h.2.2.2.2.2.1
    (try rw [E14] at T2); (try rw [E1] at T2); (try rw [E2] at T2); (try rw [E3] at T2); (try rw [E4] at T2); (try rw [E5] at T2); (try rw [E6] at T2); (try rw [E7] at T2); (try rw [E15] at T2); (try rw [E9] at T2); (try rw [E12] at T2)
    have K := k_spaJ (V := v) (i := x 0) (p := x 1) (z := x 2) (w := x 3) (q := x 4) (b := x 5) (s := x 6) (o := x 7) (a1 := x 8) (a2 := x 9) (a3 := x 10) T0 T1 T2 C0 C1 C2
    refine l_outH rfl (And.intro h.1 ?_)
    have O0 : y_ev x (2, []) = 2 := l_e0 _ _
    have O1 : y_ev x (0, [(4, 1)]) = x 4 := l_e1 _ _
    have O2 : y_ev x (0, [(5, 1)]) = x 5 := l_e1 _ _
    have O3 : y_ev x (0, [(6, 1)]) = x 6 := l_e1 _ _
    have O4 : y_ev x (0, [(7, 1)]) = x 7 := l_e1 _ _
    have O5 : y_ev x (0, [(8, 1)]) = x 8 := l_e1 _ _
    have O6 : y_ev x (0, [(9, 1)]) = x 9 := l_e1 _ _
    have O7 : y_ev x (0, [(10, 1)]) = x 10 := l_e1 _ _
    have O8 : y_ev x (0, [(0, 2)]) = 2 * x 0 := by show ((0) : Int) + ((2) * x 0 + 0) = _; omega
    have O9 : y_ev x (0, []) = 0 := l_e0 _ _
    have O10 : y_ev x (0, [(2, (-1)), (3, 1)]) = x 3 - x 2 := by show ((0) : Int) + ((-1) * x 2 + ((1) * x 3 + 0)) = _; omega
    show (True) ∧ (q_qry v (y_ev x (2, [])) (y_ev x (0, [(4, 1)])) (y_ev x (0, [(5, 1)])) (y_ev x (0, [(6, 1)])) (y_ev x (0, [(7, 1)])) (y_ev x (0, [(8, 1)])) (y_ev x (0, [(9, 1)])) (y_ev x (0, [(10, 1)])) (y_ev x (0, [(0, 2)])) (y_ev x (0, [])) (y_ev x (0, [(2, (-1)), (3, 1)])) ∧ True)
    (try rw [O0]); (try rw [O1]); (try rw [O2]); (try rw [O3]); (try rw [O4]); (try rw [O5]); (try rw [O6]); (try rw [O7]); (try rw [O8]); (try rw [O9]); (try rw [O10])
    exact K
def lm_862p : zS := ((lm_416pi_0 (lm_416pi_1 [])), [], [(0, [(0, 1)]), ((-1), [(0, (-1)), (1, 1)]), (6, [(1, (-1))])], [], [(0, 0, 0, [(0, 1)]), (0, 0, 0, [(2, 1)])], [], [(238, [(19, []), (0, [(4, 1)]), (0, [(5, 1)]), (0, [(6, 1)]), (0, [(7, 1)]), (0, [(8, 1)]), (0, [(9, 1)]), (0, [(10, 1)]), (0, [(0, 1)]), (0, []), (0, [(3, 1)])]), (238, [(1, []), (0, [(4, 1)]), (0, [(5, 1)]), (0, [(6, 1)]), (0, [(7, 1)]), (0, [(8, 1)]), (0, [(9, 1)]), (0, [(10, 1)]), (1, [(0, 1)]), (0, [(1, 1)]), (0, [(2, 1)])])])
def lm_862 : zLem := (lm_862p, [([((-2147483648), 2147483647), ((-2147483648), 2147483647), ((-2147483648), 2147483647), ((-2147483648), 2147483647), ((-2147483648), 2147483647), ((-2147483648), 2147483647), ((-2147483648), 2147483647), ((-2147483648), 2147483647), ((-2147483648), 2147483647), ((-2147483648), 2147483647), ((-2147483648), 2147483647)], [], [], [], [], [], [(238, [(1, []), (0, [(4, 1)]), (0, [(5, 1)]), (0, [(6, 1)]), (0, [(7, 1)]), (0, [(8, 1)]), (0, [(9, 1)]), (0, [(10, 1)]), (0, [(0, 1)]), (0, [(1, 1)]), (0, [(2, 1), (3, 1)])])])])
theorem lk_862 : l_core lm_862 := by
  first
  | skip
    intro v x h
    have K := k_sumD (V := v) (i := x 0) (p := x 1) (z := x 2) (w := x 3) (q := x 4) (b := x 5) (s := x 6) (o := x 7) (a1 := x 8) (a2 := x 9) (a3 := x 10) (l_c11 (fun w0 w1 w2 w3 w4 w5 w6 w7 w8 w9 w10 : Int => q_qry v w0 w1 w2 w3 w4 w5 w6 w7 w8 w9 w10) (l_e0 x (19)) (l_e1 x 4) (l_e1 x 5) (l_e1 x 6) (l_e1 x 7) (l_e1 x 8) (l_e1 x 9) (l_e1 x 10) (l_e1 x 0) (l_e0 x (0)) (l_e1 x 3) (h.2.2.2.1)) (l_c11 (fun w0 w1 w2 w3 w4 w5 w6 w7 w8 w9 w10 : Int => q_qry v w0 w1 w2 w3 w4 w5 w6 w7 w8 w9 w10) (l_e0 x (1)) (l_e1 x 4) (l_e1 x 5) (l_e1 x 6) (l_e1 x 7) (l_e1 x 8) (l_e1 x 9) (l_e1 x 10) (l_q3 1 x 0) (l_e1 x 1) (l_e1 x 2) (h.2.2.2.2.1)) (l_cc (l_e1 x 0) (h.2.1.1)) (l_cc (l_q6 1 x 0 1) (h.2.1.2.1)) (l_cc (l_q1 6 x 1) (h.2.1.2.2.1))
    refine l_outH rfl (And.intro h.1 ?_)
    exact l_o11 (fun w0 w1 w2 w3 w4 w5 w6 w7 w8 w9 w10 : Int => (True) ∧ (q_qry v w0 w1 w2 w3 w4 w5 w6 w7 w8 w9 w10 ∧ True)) (l_e0 x (1)) (l_e1 x 4) (l_e1 x 5) (l_e1 x 6) (l_e1 x 7) (l_e1 x 8) (l_e1 x 9) (l_e1 x 10) (l_e1 x 0) (l_e1 x 1) (l_q12 x 2 3) K
  | skip
    intro v x h
    have C0 : (0 : Int) ≤ x 0 := l_cc (a := y_ev x (0, [(0, 1)])) (l_e1 _ _) (h.2.1.1)
    have C1 : (0 : Int) ≤ x 1 - x 0 - 1 := l_cc (a := y_ev x ((-1), [(0, (-1)), (1, 1)])) (by show ((-1) : Int) + ((-1) * x 0 + ((1) * x 1 + 0)) = x 1 - x 0 - 1; omega) (h.2.1.2.1)
    have C2 : (0 : Int) ≤ 6 - x 1 := l_cc (a := y_ev x (6, [(1, (-1))])) (by show ((6) : Int) + ((-1) * x 1 + 0) = 6 - x 1; omega) (h.2.1.2.2.1)
    have E0 : y_ev x (19, []) = 19 := (l_e0 _ _)
    have E1 : y_ev x (0, [(4, 1)]) = x 4 := (l_e1 _ _)
    have E2 : y_ev x (0, [(5, 1)]) = x 5 := (l_e1 _ _)
    have E3 : y_ev x (0, [(6, 1)]) = x 6 := (l_e1 _ _)
    have E4 : y_ev x (0, [(7, 1)]) = x 7 := (l_e1 _ _)
    have E5 : y_ev x (0, [(8, 1)]) = x 8 := (l_e1 _ _)
    have E6 : y_ev x (0, [(9, 1)]) = x 9 := (l_e1 _ _)
    have E7 : y_ev x (0, [(10, 1)]) = x 10 := (l_e1 _ _)
    have E8 : y_ev x (0, [(0, 1)]) = x 0 := (l_e1 _ _)
    have E9 : y_ev x (0, []) = 0 := (l_e0 _ _)
    have E10 : y_ev x (0, [(3, 1)]) = x 3 := (l_e1 _ _)
    have E11 : y_ev x (1, []) = 1 := (l_e0 _ _)
    have E12 : y_ev x (1, [(0, 1)]) = x 0 + 1 := (by show ((1) : Int) + ((1) * x 0 + 0) = x 0 + 1; omega)
    have E13 : y_ev x (0, [(1, 1)]) = x 1 := (l_e1 _ _)
    have E14 : y_ev x (0, [(2, 1)]) = x 2 := (l_e1 _ _)
    have T0 : q_qry v (y_ev x (19, [])) (y_ev x (0, [(4, 1)])) (y_ev x (0, [(5, 1)])) (y_ev x (0, [(6, 1)])) (y_ev x (0, [(7, 1)])) (y_ev x (0, [(8, 1)])) (y_ev x (0, [(9, 1)])) (y_ev x (0, [(10, 1)])) (y_ev x (0, [(0, 1)])) (y_ev x (0, [])) (y_ev x (0, [(3, 1)])) := h.2.2.2.1
    (try rw [E0] at T0); (try rw [E1] at T0); (try rw [E2] at T0); (try rw [E3] at T0); (try rw [E4] at T0); (try rw [E5] at T0); (try rw [E6] at T0); (try rw [E7] at T0); (try rw [E8] at T0); (try rw [E9] at T0); (try rw [E10] at T0)
    have T1 : q_qry v (y_ev x (1, [])) (y_ev x (0, [(4, 1)])) (y_ev x (0, [(5, 1)])) (y_ev x (0, [(6, 1)])) (y_ev x (0, [(7, 1)])) (y_ev x (0, [(8, 1)])) (y_ev x (0, [(9, 1)])) (y_ev x (0, [(10, 1)])) (y_ev x (1, [(0, 1)])) (y_ev x (0, [(1, 1)])) (y_ev x (0, [(2, 1)])) := h.2.2.2.2.1
    (try rw [E11] at T1); (try rw [E1] at T1); (try rw [E2] at T1); (try rw [E3] at T1); (try rw [E4] at T1); (try rw [E5] at T1); (try rw [E6] at T1); (try rw [E7] at T1); (try rw [E12] at T1); (try rw [E13] at T1); (try rw [E14] at T1)
    have K := k_sumD (V := v) (i := x 0) (p := x 1) (z := x 2) (w := x 3) (q := x 4) (b := x 5) (s := x 6) (o := x 7) (a1 := x 8) (a2 := x 9) (a3 := x 10) T0 T1 C0 C1 C2
    refine l_outH rfl (And.intro h.1 ?_)
    have O0 : y_ev x (1, []) = 1 := l_e0 _ _
    have O1 : y_ev x (0, [(4, 1)]) = x 4 := l_e1 _ _
    have O2 : y_ev x (0, [(5, 1)]) = x 5 := l_e1 _ _
    have O3 : y_ev x (0, [(6, 1)]) = x 6 := l_e1 _ _
    have O4 : y_ev x (0, [(7, 1)]) = x 7 := l_e1 _ _
    have O5 : y_ev x (0, [(8, 1)]) = x 8 := l_e1 _ _
    have O6 : y_ev x (0, [(9, 1)]) = x 9 := l_e1 _ _
    have O7 : y_ev x (0, [(10, 1)]) = x 10 := l_e1 _ _
    have O8 : y_ev x (0, [(0, 1)]) = x 0 := l_e1 _ _
    have O9 : y_ev x (0, [(1, 1)]) = x 1 := l_e1 _ _
    have O10 : y_ev x (0, [(2, 1), (3, 1)]) = x 2 + x 3 := by show ((0) : Int) + ((1) * x 2 + ((1) * x 3 + 0)) = _; omega
    show (True) ∧ (q_qry v (y_ev x (1, [])) (y_ev x (0, [(4, 1)])) (y_ev x (0, [(5, 1)])) (y_ev x (0, [(6, 1)])) (y_ev x (0, [(7, 1)])) (y_ev x (0, [(8, 1)])) (y_ev x (0, [(9, 1)])) (y_ev x (0, [(10, 1)])) (y_ev x (0, [(0, 1)])) (y_ev x (0, [(1, 1)])) (y_ev x (0, [(2, 1), (3, 1)])) ∧ True)
    (try rw [O0]); (try rw [O1]); (try rw [O2]); (try rw [O3]); (try rw [O4]); (try rw [O5]); (try rw [O6]); (try rw [O7]); (try rw [O8]); (try rw [O9]); (try rw [O10])
    exact K
def lm_863p : zS := ((lm_416pi_0 (lm_416pi_1 [])), [], [(0, [(0, 1)]), (0, [(0, (-1)), (1, 1)]), (5, [(1, (-1))])], [], [(0, 0, 0, [(1, 1)]), (0, 0, 0, [(2, 1)])], [], [(238, [(19, []), (0, [(4, 1)]), (0, [(5, 1)]), (0, [(6, 1)]), (0, [(7, 1)]), (0, [(8, 1)]), (0, [(9, 1)]), (0, [(10, 1)]), (0, [(1, 1)]), (0, []), (0, [(3, 1)])]), (238, [(1, []), (0, [(4, 1)]), (0, [(5, 1)]), (0, [(6, 1)]), (0, [(7, 1)]), (0, [(8, 1)]), (0, [(9, 1)]), (0, [(10, 1)]), (0, [(0, 1)]), (0, [(1, 1)]), (0, [(2, 1)])])])
def lm_863 : zLem := (lm_863p, [([((-2147483648), 2147483647), ((-2147483648), 2147483647), ((-2147483648), 2147483647), ((-2147483648), 2147483647), ((-2147483648), 2147483647), ((-2147483648), 2147483647), ((-2147483648), 2147483647), ((-2147483648), 2147483647), ((-2147483648), 2147483647), ((-2147483648), 2147483647), ((-2147483648), 2147483647)], [], [], [], [], [], [(238, [(1, []), (0, [(4, 1)]), (0, [(5, 1)]), (0, [(6, 1)]), (0, [(7, 1)]), (0, [(8, 1)]), (0, [(9, 1)]), (0, [(10, 1)]), (0, [(0, 1)]), (1, [(1, 1)]), (0, [(2, 1), (3, 1)])])])])
theorem lk_863 : l_core lm_863 := by
  first
  | skip
    intro v x h
    have K := k_sumU (V := v) (a := x 0) (k := x 1) (z := x 2) (w := x 3) (q := x 4) (b := x 5) (s := x 6) (o := x 7) (a1 := x 8) (a2 := x 9) (a3 := x 10) (l_c11 (fun w0 w1 w2 w3 w4 w5 w6 w7 w8 w9 w10 : Int => q_qry v w0 w1 w2 w3 w4 w5 w6 w7 w8 w9 w10) (l_e0 x (19)) (l_e1 x 4) (l_e1 x 5) (l_e1 x 6) (l_e1 x 7) (l_e1 x 8) (l_e1 x 9) (l_e1 x 10) (l_e1 x 1) (l_e0 x (0)) (l_e1 x 3) (h.2.2.2.1)) (l_c11 (fun w0 w1 w2 w3 w4 w5 w6 w7 w8 w9 w10 : Int => q_qry v w0 w1 w2 w3 w4 w5 w6 w7 w8 w9 w10) (l_e0 x (1)) (l_e1 x 4) (l_e1 x 5) (l_e1 x 6) (l_e1 x 7) (l_e1 x 8) (l_e1 x 9) (l_e1 x 10) (l_e1 x 0) (l_e1 x 1) (l_e1 x 2) (h.2.2.2.2.1)) (l_cc (l_e1 x 0) (h.2.1.1)) (l_cc (l_q4 x 0 1) (h.2.1.2.1)) (l_cc (l_q1 5 x 1) (h.2.1.2.2.1))
    refine l_outH rfl (And.intro h.1 ?_)
    exact l_o11 (fun w0 w1 w2 w3 w4 w5 w6 w7 w8 w9 w10 : Int => (True) ∧ (q_qry v w0 w1 w2 w3 w4 w5 w6 w7 w8 w9 w10 ∧ True)) (l_e0 x (1)) (l_e1 x 4) (l_e1 x 5) (l_e1 x 6) (l_e1 x 7) (l_e1 x 8) (l_e1 x 9) (l_e1 x 10) (l_e1 x 0) (l_q3 1 x 1) (l_q12 x 2 3) K
  | skip
    intro v x h
    have C0 : (0 : Int) ≤ x 0 := l_cc (a := y_ev x (0, [(0, 1)])) (l_e1 _ _) (h.2.1.1)
    have C1 : (0 : Int) ≤ x 1 - x 0 := l_cc (a := y_ev x (0, [(0, (-1)), (1, 1)])) (by show ((0) : Int) + ((-1) * x 0 + ((1) * x 1 + 0)) = x 1 - x 0; omega) (h.2.1.2.1)
    have C2 : (0 : Int) ≤ 5 - x 1 := l_cc (a := y_ev x (5, [(1, (-1))])) (by show ((5) : Int) + ((-1) * x 1 + 0) = 5 - x 1; omega) (h.2.1.2.2.1)
    have E0 : y_ev x (19, []) = 19 := (l_e0 _ _)
    have E1 : y_ev x (0, [(4, 1)]) = x 4 := (l_e1 _ _)
    have E2 : y_ev x (0, [(5, 1)]) = x 5 := (l_e1 _ _)
    have E3 : y_ev x (0, [(6, 1)]) = x 6 := (l_e1 _ _)
    have E4 : y_ev x (0, [(7, 1)]) = x 7 := (l_e1 _ _)
    have E5 : y_ev x (0, [(8, 1)]) = x 8 := (l_e1 _ _)
    have E6 : y_ev x (0, [(9, 1)]) = x 9 := (l_e1 _ _)
    have E7 : y_ev x (0, [(10, 1)]) = x 10 := (l_e1 _ _)
    have E8 : y_ev x (0, [(1, 1)]) = x 1 := (l_e1 _ _)
    have E9 : y_ev x (0, []) = 0 := (l_e0 _ _)
    have E10 : y_ev x (0, [(3, 1)]) = x 3 := (l_e1 _ _)
    have E11 : y_ev x (1, []) = 1 := (l_e0 _ _)
    have E12 : y_ev x (0, [(0, 1)]) = x 0 := (l_e1 _ _)
    have E13 : y_ev x (0, [(2, 1)]) = x 2 := (l_e1 _ _)
    have T0 : q_qry v (y_ev x (19, [])) (y_ev x (0, [(4, 1)])) (y_ev x (0, [(5, 1)])) (y_ev x (0, [(6, 1)])) (y_ev x (0, [(7, 1)])) (y_ev x (0, [(8, 1)])) (y_ev x (0, [(9, 1)])) (y_ev x (0, [(10, 1)])) (y_ev x (0, [(1, 1)])) (y_ev x (0, [])) (y_ev x (0, [(3, 1)])) := h.2.2.2.1
    (try rw [E0] at T0); (try rw [E1] at T0); (try rw [E2] at T0); (try rw [E3] at T0); (try rw [E4] at T0); (try rw [E5] at T0); (try rw [E6] at T0); (try rw [E7] at T0); (try rw [E8] at T0); (try rw [E9] at T0); (try rw [E10] at T0)
    have T1 : q_qry v (y_ev x (1, [])) (y_ev x (0, [(4, 1)])) (y_ev x (0, [(5, 1)])) (y_ev x (0, [(6, 1)])) (y_ev x (0, [(7, 1)])) (y_ev x (0, [(8, 1)])) (y_ev x (0, [(9, 1)])) (y_ev x (0, [(10, 1)])) (y_ev x (0, [(0, 1)])) (y_ev x (0, [(1, 1)])) (y_ev x (0, [(2, 1)])) := h.2.2.2.2.1
    (try rw [E11] at T1); (try rw [E1] at T1); (try rw [E2] at T1); (try rw [E3] at T1); (try rw [E4] at T1); (try rw [E5] at T1); (try rw [E6] at T1); (try rw [E7] at T1); (try rw [E12] at T1); (try rw [E8] at T1); (try rw [E13] at T1)
    have K := k_sumU (V := v) (a := x 0) (k := x 1) (z := x 2) (w := x 3) (q := x 4) (b := x 5) (s := x 6) (o := x 7) (a1 := x 8) (a2 := x 9) (a3 := x 10) T0 T1 C0 C1 C2
    refine l_outH rfl (And.intro h.1 ?_)
    have O0 : y_ev x (1, []) = 1 := l_e0 _ _
    have O1 : y_ev x (0, [(4, 1)]) = x 4 := l_e1 _ _
    have O2 : y_ev x (0, [(5, 1)]) = x 5 := l_e1 _ _
    have O3 : y_ev x (0, [(6, 1)]) = x 6 := l_e1 _ _
    have O4 : y_ev x (0, [(7, 1)]) = x 7 := l_e1 _ _
    have O5 : y_ev x (0, [(8, 1)]) = x 8 := l_e1 _ _
    have O6 : y_ev x (0, [(9, 1)]) = x 9 := l_e1 _ _
    have O7 : y_ev x (0, [(10, 1)]) = x 10 := l_e1 _ _
    have O8 : y_ev x (0, [(0, 1)]) = x 0 := l_e1 _ _
    have O9 : y_ev x (1, [(1, 1)]) = x 1 + 1 := by show ((1) : Int) + ((1) * x 1 + 0) = _; omega
    have O10 : y_ev x (0, [(2, 1), (3, 1)]) = x 2 + x 3 := by show ((0) : Int) + ((1) * x 2 + ((1) * x 3 + 0)) = _; omega
    show (True) ∧ (q_qry v (y_ev x (1, [])) (y_ev x (0, [(4, 1)])) (y_ev x (0, [(5, 1)])) (y_ev x (0, [(6, 1)])) (y_ev x (0, [(7, 1)])) (y_ev x (0, [(8, 1)])) (y_ev x (0, [(9, 1)])) (y_ev x (0, [(10, 1)])) (y_ev x (0, [(0, 1)])) (y_ev x (1, [(1, 1)])) (y_ev x (0, [(2, 1), (3, 1)])) ∧ True)
    (try rw [O0]); (try rw [O1]); (try rw [O2]); (try rw [O3]); (try rw [O4]); (try rw [O5]); (try rw [O6]); (try rw [O7]); (try rw [O8]); (try rw [O9]); (try rw [O10])
    exact K
def lm_864 : zLem := (([((-2147483648), 2147483647), ((-2147483648), 2147483647), ((-2147483648), 2147483647), ((-2147483648), 2147483647), ((-2147483648), 2147483647), ((-2147483648), 2147483647), ((-2147483648), 2147483647), ((-2147483648), 2147483647), ((-2147483648), 2147483647), ((-2147483648), 2147483647), ((-2147483648), 2147483647), ((-2147483648), 2147483647)], [], [(0, [(0, 1)])], [], [(0, 0, 0, [(0, 1)])], [], [(235, [(0, [(1, 1)]), (0, [(2, 1)]), (0, [(3, 1)]), (0, [(4, 1)]), (0, [(5, 1)]), (0, [(6, 1)]), (0, [(7, 1)]), (0, [(8, 1)]), (0, [(9, 1)]), (0, [(10, 1)]), (0, [(11, 1)])])]), [([((-2147483648), 2147483647), ((-2147483648), 2147483647), ((-2147483648), 2147483647), ((-2147483648), 2147483647), ((-2147483648), 2147483647), ((-2147483648), 2147483647), ((-2147483648), 2147483647), ((-2147483648), 2147483647), ((-2147483648), 2147483647), ((-2147483648), 2147483647), ((-2147483648), 2147483647), ((-2147483648), 2147483647)], [], [], [], [], [], [(238, [(1, []), (0, [(5, 1)]), (0, [(6, 1)]), (0, [(7, 1)]), (0, [(8, 1)]), (0, [(9, 1)]), (0, [(10, 1)]), (0, [(11, 1)]), (0, [(0, 1)]), (0, [(0, 1)]), (0, [])])])])
theorem lk_864 : l_core lm_864 := by
  first
  | skip
    intro v x h
    have K := k_sum0 (V := v) (a := x 0) (H := x 1) (p := x 2) (y := x 3) (d := x 4) (q := x 5) (b := x 6) (s := x 7) (o := x 8) (a1 := x 9) (a2 := x 10) (a3 := x 11) (l_c11 (fun w0 w1 w2 w3 w4 w5 w6 w7 w8 w9 w10 : Int => q_sto v 0 w0 w1 w2 w3 w4 w5 w6 w7 w8 w9 w10) (l_e1 x 1) (l_e1 x 2) (l_e1 x 3) (l_e1 x 4) (l_e1 x 5) (l_e1 x 6) (l_e1 x 7) (l_e1 x 8) (l_e1 x 9) (l_e1 x 10) (l_e1 x 11) (h.2.2.2.1)) (l_cc (l_e1 x 0) (h.2.1.1))
    refine l_outH rfl (And.intro h.1 ?_)
    exact l_o10 (fun w0 w1 w2 w3 w4 w5 w6 w7 w8 w9 : Int => (True) ∧ (q_qry v w0 w1 w2 w3 w4 w5 w6 w7 w8 w8 w9 ∧ True)) (l_e0 x (1)) (l_e1 x 5) (l_e1 x 6) (l_e1 x 7) (l_e1 x 8) (l_e1 x 9) (l_e1 x 10) (l_e1 x 11) (l_e1 x 0) (l_e0 x (0)) K
  | skip
    intro v x h
    have C0 : (0 : Int) ≤ x 0 := l_cc (a := y_ev x (0, [(0, 1)])) (l_e1 _ _) (h.2.1.1)
    have E0 : y_ev x (0, [(1, 1)]) = x 1 := (l_e1 _ _)
    have E1 : y_ev x (0, [(2, 1)]) = x 2 := (l_e1 _ _)
    have E2 : y_ev x (0, [(3, 1)]) = x 3 := (l_e1 _ _)
    have E3 : y_ev x (0, [(4, 1)]) = x 4 := (l_e1 _ _)
    have E4 : y_ev x (0, [(5, 1)]) = x 5 := (l_e1 _ _)
    have E5 : y_ev x (0, [(6, 1)]) = x 6 := (l_e1 _ _)
    have E6 : y_ev x (0, [(7, 1)]) = x 7 := (l_e1 _ _)
    have E7 : y_ev x (0, [(8, 1)]) = x 8 := (l_e1 _ _)
    have E8 : y_ev x (0, [(9, 1)]) = x 9 := (l_e1 _ _)
    have E9 : y_ev x (0, [(10, 1)]) = x 10 := (l_e1 _ _)
    have E10 : y_ev x (0, [(11, 1)]) = x 11 := (l_e1 _ _)
    have T0 : q_sto v 0 (y_ev x (0, [(1, 1)])) (y_ev x (0, [(2, 1)])) (y_ev x (0, [(3, 1)])) (y_ev x (0, [(4, 1)])) (y_ev x (0, [(5, 1)])) (y_ev x (0, [(6, 1)])) (y_ev x (0, [(7, 1)])) (y_ev x (0, [(8, 1)])) (y_ev x (0, [(9, 1)])) (y_ev x (0, [(10, 1)])) (y_ev x (0, [(11, 1)])) := h.2.2.2.1
    (try rw [E0] at T0); (try rw [E1] at T0); (try rw [E2] at T0); (try rw [E3] at T0); (try rw [E4] at T0); (try rw [E5] at T0); (try rw [E6] at T0); (try rw [E7] at T0); (try rw [E8] at T0); (try rw [E9] at T0); (try rw [E10] at T0)
    have K := k_sum0 (V := v) (a := x 0) (H := x 1) (p := x 2) (y := x 3) (d := x 4) (q := x 5) (b := x 6) (s := x 7) (o := x 8) (a1 := x 9) (a2 := x 10) (a3 := x 11) T0 C0
    refine l_outH rfl (And.intro h.1 ?_)
    have O0 : y_ev x (1, []) = 1 := l_e0 _ _
    have O1 : y_ev x (0, [(5, 1)]) = x 5 := l_e1 _ _
    have O2 : y_ev x (0, [(6, 1)]) = x 6 := l_e1 _ _
    have O3 : y_ev x (0, [(7, 1)]) = x 7 := l_e1 _ _
    have O4 : y_ev x (0, [(8, 1)]) = x 8 := l_e1 _ _
    have O5 : y_ev x (0, [(9, 1)]) = x 9 := l_e1 _ _
    have O6 : y_ev x (0, [(10, 1)]) = x 10 := l_e1 _ _
    have O7 : y_ev x (0, [(11, 1)]) = x 11 := l_e1 _ _
    have O8 : y_ev x (0, [(0, 1)]) = x 0 := l_e1 _ _
    have O9 : y_ev x (0, []) = 0 := l_e0 _ _
    show (True) ∧ (q_qry v (y_ev x (1, [])) (y_ev x (0, [(5, 1)])) (y_ev x (0, [(6, 1)])) (y_ev x (0, [(7, 1)])) (y_ev x (0, [(8, 1)])) (y_ev x (0, [(9, 1)])) (y_ev x (0, [(10, 1)])) (y_ev x (0, [(11, 1)])) (y_ev x (0, [(0, 1)])) (y_ev x (0, [(0, 1)])) (y_ev x (0, [])) ∧ True)
    (try rw [O0]); (try rw [O1]); (try rw [O2]); (try rw [O3]); (try rw [O4]); (try rw [O5]); (try rw [O6]); (try rw [O7]); (try rw [O8]); (try rw [O9])
    exact K
def lm_866 : zLem := (([((-2147483648), 2147483647)], [], [], [], [(0, 0, 0, [(0, 1)])], [], []), [([((-2147483648), 2147483647)], [], [], [], [], [], [(253, [(0, [(0, 1)]), (0, [])])])])
theorem lk_866 : l_core lm_866 := by
  first
  | skip
    intro v x h
    have K := k_hb0 (V := v) (w := x 0) 
    refine l_outH rfl (And.intro h.1 ?_)
    exact l_o2 (fun w0 w1 : Int => (True) ∧ ((∀ t : Int, 0 ≤ t → t < w1 → w0 ≤ v 25 t) ∧ True)) (l_e1 x 0) (l_e0 x (0)) K
  | skip
    intro v x h
    have K := k_hb0 (V := v) (w := x 0) 
    refine l_outH rfl (And.intro h.1 ?_)
    have O0 : y_ev x (0, [(0, 1)]) = x 0 := l_e1 _ _
    have O1 : y_ev x (0, []) = 0 := l_e0 _ _
    show (True) ∧ ((∀ t : Int, 0 ≤ t → t < (y_ev x (0, [])) → (y_ev x (0, [(0, 1)])) ≤ v 25 t) ∧ True)
    (try rw [O0]); (try rw [O1])
    exact K
def lm_867 : zLem := (([((-2147483648), 2147483647), ((-2147483648), 2147483647), ((-2147483648), 2147483647)], [(25, false)], [(0, [(1, 1)]), (10, [(1, (-1))]), (0, [(0, (-1)), (2, 1)])], [], [(0, 0, 0, [(0, 1)]), (0, 0, 0, [(1, 1)])], [(0, (true, 0, 0, [(1, 1)]), 0, 0, 0, [(2, 1)])], [(253, [(0, [(0, 1)]), (0, [(1, 1)])])]), [([((-2147483648), 2147483647), ((-2147483648), 2147483647), ((-2147483648), 2147483647)], [(25, false)], [], [], [], [], [(253, [(0, [(0, 1)]), (1, [(1, 1)])])])])
theorem lk_867 : l_core lm_867 := by
  first
  | skip
    intro v x h
    have G0 := h.2.2.1
    have K := k_hbS (V := v) (w := x 0) (i := x 1) (u := x 2) (l_c2 (fun w0 w1 : Int => ∀ t : Int, 0 ≤ t → t < w1 → w0 ≤ v 25 t) (l_e1 x 0) (l_e1 x 1) (h.2.2.2.1)) (l_cc (l_e1 x 1) (h.2.1.1)) (l_cc (l_q1 10 x 1) (h.2.1.2.1)) (l_cc (l_q4 x 0 2) (h.2.1.2.2.1)) (l_ff (f := v 25) (L := j_len 25) (l_e1 x 1) (l_e1 x 2) (G0.1.1))
    refine l_outH rfl (And.intro h.1 ?_)
    exact l_o2 (fun w0 w1 : Int => (True) ∧ ((∀ t : Int, 0 ≤ t → t < w1 → w0 ≤ v 25 t) ∧ True)) (l_e1 x 0) (l_q3 1 x 1) K
  | skip
    intro v x h
    have G0 := h.2.2.1
    have C0 : (0 : Int) ≤ x 1 := l_cc (a := y_ev x (0, [(1, 1)])) (l_e1 _ _) (h.2.1.1)
    have C1 : (0 : Int) ≤ 10 - x 1 := l_cc (a := y_ev x (10, [(1, (-1))])) (by show ((10) : Int) + ((-1) * x 1 + 0) = 10 - x 1; omega) (h.2.1.2.1)
    have C2 : (0 : Int) ≤ x 2 - x 0 := l_cc (a := y_ev x (0, [(0, (-1)), (2, 1)])) (by show ((0) : Int) + ((-1) * x 0 + ((1) * x 2 + 0)) = x 2 - x 0; omega) (h.2.1.2.2.1)
    have F0 : (0 : Int) ≤ x 1 ∧ (x 1 : Int) < j_len 25 ∧ v 25 (x 1) = x 2 := l_ff (f := v 25) (L := j_len 25) (a := y_ev x (0, [(1, 1)])) (b := y_ev x (0, [(2, 1)])) (l_e1 _ _) (l_e1 _ _) (G0.1.1)
    have E0 : y_ev x (0, [(0, 1)]) = x 0 := (l_e1 _ _)
    have E1 : y_ev x (0, [(1, 1)]) = x 1 := (l_e1 _ _)
    have T0 : ∀ t : Int, 0 ≤ t → t < (y_ev x (0, [(1, 1)])) → (y_ev x (0, [(0, 1)])) ≤ v 25 t := h.2.2.2.1
    (try rw [E0] at T0); (try rw [E1] at T0)
    have K := k_hbS (V := v) (w := x 0) (i := x 1) (u := x 2) T0 C0 C1 C2 F0
    refine l_outH rfl (And.intro h.1 ?_)
    have O0 : y_ev x (0, [(0, 1)]) = x 0 := l_e1 _ _
    have O1 : y_ev x (1, [(1, 1)]) = x 1 + 1 := by show ((1) : Int) + ((1) * x 1 + 0) = _; omega
    show (True) ∧ ((∀ t : Int, 0 ≤ t → t < (y_ev x (1, [(1, 1)])) → (y_ev x (0, [(0, 1)])) ≤ v 25 t) ∧ True)
    (try rw [O0]); (try rw [O1])
    exact K
def lm_868 : zLem := (([((-2147483648), 2147483647), ((-2147483648), 2147483647), ((-2147483648), 2147483647), ((-2147483648), 2147483647)], [(25, false), (5, false)], [(0, [(1, 1)]), (10, [(1, (-1))]), ((-1), [(0, 1), (2, (-1))]), ((-1), [(1, (-1)), (3, 1)])], [], [(0, 0, 0, [(0, 1)]), (0, 0, 0, [(1, 1)])], [(0, (true, 0, 0, [(1, 1)]), 0, 0, 0, [(2, 1)]), (1, (false, 2, 0, []), 0, 0, 0, [(3, 1)])], [(253, [(0, [(0, 1)]), (0, [(1, 1)])])]), [([((-2147483648), 2147483647), ((-2147483648), 2147483647), ((-2147483648), 2147483647), ((-2147483648), 2147483647)], [(25, false), (5, false)], [], [], [], [], [(254, [(0, [(0, 1)]), (0, [(3, 1)]), (0, [(1, 1)])])])])
theorem lk_868 : l_core lm_868 := by
  first
  | skip
    intro v x h
    have G0 := h.2.2.1
    have K := k_hbY (V := v) (w := x 0) (i := x 1) (u := x 2) (m := x 3) (l_c2 (fun w0 w1 : Int => ∀ t : Int, 0 ≤ t → t < w1 → w0 ≤ v 25 t) (l_e1 x 0) (l_e1 x 1) (h.2.2.2.1)) (l_cc (l_e1 x 1) (h.2.1.1)) (l_cc (l_q1 10 x 1) (h.2.1.2.1)) (l_cc (l_q8 1 x 0 2) (h.2.1.2.2.1)) (l_cc (l_q6 1 x 1 3) (h.2.1.2.2.2.1)) (l_ff (f := v 25) (L := j_len 25) (l_e1 x 1) (l_e1 x 2) (G0.1.1))
    refine l_outH rfl (And.intro h.1 ?_)
    exact l_o3 (fun w0 w1 w2 : Int => (True) ∧ (((0 ≤ w2 ∧ w2 < w1 ∧ v 25 w2 < w0 ∧ ∀ t : Int, 0 ≤ t → t < w2 → w0 ≤ v 25 t) ∨ (w2 = -1 ∧ ∀ t : Int, 0 ≤ t → t < w1 → w0 ≤ v 25 t)) ∧ True)) (l_e1 x 0) (l_e1 x 3) (l_e1 x 1) K
  | skip
    intro v x h
    have G0 := h.2.2.1
    have C0 : (0 : Int) ≤ x 1 := l_cc (a := y_ev x (0, [(1, 1)])) (l_e1 _ _) (h.2.1.1)
    have C1 : (0 : Int) ≤ 10 - x 1 := l_cc (a := y_ev x (10, [(1, (-1))])) (by show ((10) : Int) + ((-1) * x 1 + 0) = 10 - x 1; omega) (h.2.1.2.1)
    have C2 : (0 : Int) ≤ x 0 - x 2 - 1 := l_cc (a := y_ev x ((-1), [(0, 1), (2, (-1))])) (by show ((-1) : Int) + ((1) * x 0 + ((-1) * x 2 + 0)) = x 0 - x 2 - 1; omega) (h.2.1.2.2.1)
    have C3 : (0 : Int) ≤ x 3 - x 1 - 1 := l_cc (a := y_ev x ((-1), [(1, (-1)), (3, 1)])) (by show ((-1) : Int) + ((-1) * x 1 + ((1) * x 3 + 0)) = x 3 - x 1 - 1; omega) (h.2.1.2.2.2.1)
    have F0 : (0 : Int) ≤ x 1 ∧ (x 1 : Int) < j_len 25 ∧ v 25 (x 1) = x 2 := l_ff (f := v 25) (L := j_len 25) (a := y_ev x (0, [(1, 1)])) (b := y_ev x (0, [(2, 1)])) (l_e1 _ _) (l_e1 _ _) (G0.1.1)
    have E0 : y_ev x (0, [(0, 1)]) = x 0 := (l_e1 _ _)
    have E1 : y_ev x (0, [(1, 1)]) = x 1 := (l_e1 _ _)
    have T0 : ∀ t : Int, 0 ≤ t → t < (y_ev x (0, [(1, 1)])) → (y_ev x (0, [(0, 1)])) ≤ v 25 t := h.2.2.2.1
    (try rw [E0] at T0); (try rw [E1] at T0)
    have K := k_hbY (V := v) (w := x 0) (i := x 1) (u := x 2) (m := x 3) T0 C0 C1 C2 C3 F0
    refine l_outH rfl (And.intro h.1 ?_)
    have O0 : y_ev x (0, [(0, 1)]) = x 0 := l_e1 _ _
    have O1 : y_ev x (0, [(3, 1)]) = x 3 := l_e1 _ _
    have O2 : y_ev x (0, [(1, 1)]) = x 1 := l_e1 _ _
    show (True) ∧ (((0 ≤ (y_ev x (0, [(1, 1)])) ∧ (y_ev x (0, [(1, 1)])) < (y_ev x (0, [(3, 1)])) ∧ v 25 (y_ev x (0, [(1, 1)])) < (y_ev x (0, [(0, 1)])) ∧ ∀ t : Int, 0 ≤ t → t < (y_ev x (0, [(1, 1)])) → (y_ev x (0, [(0, 1)])) ≤ v 25 t) ∨ ((y_ev x (0, [(1, 1)])) = -1 ∧ ∀ t : Int, 0 ≤ t → t < (y_ev x (0, [(3, 1)])) → (y_ev x (0, [(0, 1)])) ≤ v 25 t)) ∧ True)
    (try rw [O0]); (try rw [O1]); (try rw [O2])
    exact K
def lm_869 : zLem := (([((-2147483648), 2147483647), ((-2147483648), 2147483647), ((-2147483648), 2147483647)], [(5, false)], [(0, [(1, 1), (2, (-1))]), (0, [(2, 1)])], [], [(0, 0, 0, [(0, 1)]), (0, 0, 0, [(1, 1)])], [(0, (false, 2, 0, []), 0, 0, 0, [(2, 1)])], [(253, [(0, [(0, 1)]), (0, [(1, 1)])])]), [([((-2147483648), 2147483647), ((-2147483648), 2147483647), ((-2147483648), 2147483647)], [(5, false)], [], [], [], [], [(254, [(0, [(0, 1)]), (0, [(2, 1)]), ((-1), [])])])])
theorem lk_869 : l_core lm_869 := by
  first
  | skip
    intro v x h
    have K := k_hbN (V := v) (w := x 0) (i := x 1) (m := x 2) (l_c2 (fun w0 w1 : Int => ∀ t : Int, 0 ≤ t → t < w1 → w0 ≤ v 25 t) (l_e1 x 0) (l_e1 x 1) (h.2.2.2.1)) (l_cc (l_q5 x 1 2) (h.2.1.1)) (l_cc (l_e1 x 2) (h.2.1.2.1))
    refine l_outH rfl (And.intro h.1 ?_)
    exact l_o3 (fun w0 w1 w2 : Int => (True) ∧ (((0 ≤ w2 ∧ w2 < w1 ∧ v 25 w2 < w0 ∧ ∀ t : Int, 0 ≤ t → t < w2 → w0 ≤ v 25 t) ∨ (w2 = -1 ∧ ∀ t : Int, 0 ≤ t → t < w1 → w0 ≤ v 25 t)) ∧ True)) (l_e1 x 0) (l_e1 x 2) (l_e0 x (-1)) K
  | skip
    intro v x h
    have C0 : (0 : Int) ≤ x 1 - x 2 := l_cc (a := y_ev x (0, [(1, 1), (2, (-1))])) (by show ((0) : Int) + ((1) * x 1 + ((-1) * x 2 + 0)) = x 1 - x 2; omega) (h.2.1.1)
    have C1 : (0 : Int) ≤ x 2 := l_cc (a := y_ev x (0, [(2, 1)])) (l_e1 _ _) (h.2.1.2.1)
    have E0 : y_ev x (0, [(0, 1)]) = x 0 := (l_e1 _ _)
    have E1 : y_ev x (0, [(1, 1)]) = x 1 := (l_e1 _ _)
    have T0 : ∀ t : Int, 0 ≤ t → t < (y_ev x (0, [(1, 1)])) → (y_ev x (0, [(0, 1)])) ≤ v 25 t := h.2.2.2.1
    (try rw [E0] at T0); (try rw [E1] at T0)
    have K := k_hbN (V := v) (w := x 0) (i := x 1) (m := x 2) T0 C0 C1
    refine l_outH rfl (And.intro h.1 ?_)
    have O0 : y_ev x (0, [(0, 1)]) = x 0 := l_e1 _ _
    have O1 : y_ev x (0, [(2, 1)]) = x 2 := l_e1 _ _
    have O2 : y_ev x ((-1), []) = (-1) := l_e0 _ _
    show (True) ∧ (((0 ≤ (y_ev x ((-1), [])) ∧ (y_ev x ((-1), [])) < (y_ev x (0, [(2, 1)])) ∧ v 25 (y_ev x ((-1), [])) < (y_ev x (0, [(0, 1)])) ∧ ∀ t : Int, 0 ≤ t → t < (y_ev x ((-1), [])) → (y_ev x (0, [(0, 1)])) ≤ v 25 t) ∨ ((y_ev x ((-1), [])) = -1 ∧ ∀ t : Int, 0 ≤ t → t < (y_ev x (0, [(2, 1)])) → (y_ev x (0, [(0, 1)])) ≤ v 25 t)) ∧ True)
    (try rw [O0]); (try rw [O1]); (try rw [O2])
    exact K
def lm_870 : zLem := (([((-2147483648), 2147483647), ((-2147483648), 2147483647), ((-2147483648), 2147483647), ((-2147483648), 2147483647), ((-2147483648), 2147483647), ((-2147483648), 2147483647), ((-2147483648), 2147483647), ((-2147483648), 2147483647), ((-2147483648), 2147483647), ((-2147483648), 2147483647)], [], [(0, [(2, 1)]), (9999, [(0, (-1))])], [], [(0, 0, 0, [(0, 1)]), (0, 0, 0, [(2, 1)])], [], [(252, [(0, [(3, 1)]), (0, [(4, 1)]), (0, [(5, 1)]), (0, [(6, 1)]), (0, [(7, 1)]), (0, [(8, 1)]), (0, [(9, 1)]), ((-2), []), (0, [(1, 1)])]), (254, [(0, [(0, 1)]), (0, [(1, 1)]), (0, [(2, 1)])])]), [([((-2147483648), 2147483647), ((-2147483648), 2147483647), ((-2147483648), 2147483647), ((-2147483648), 2147483647), ((-2147483648), 2147483647), ((-2147483648), 2147483647), ((-2147483648), 2147483647), ((-2147483648), 2147483647), ((-2147483648), 2147483647), ((-2147483648), 2147483647)], [], [], [], [], [], [(238, [(3, []), (0, [(3, 1)]), (0, [(4, 1)]), (0, [(5, 1)]), (0, [(6, 1)]), (0, [(7, 1)]), (0, [(8, 1)]), (0, [(9, 1)]), (0, [(0, 1)]), (0, []), (1, [(2, 1)])])])])
theorem lk_870 : l_core lm_870 := by
  first
  | skip
    intro v x h
    have K := k_brk1 (V := v) (w := x 0) (m := x 1) (i := x 2) (q := x 3) (b := x 4) (s := x 5) (o := x 6) (a1 := x 7) (a2 := x 8) (a3 := x 9) (l_c9 (fun w0 w1 w2 w3 w4 w5 w6 w7 w8 : Int => q_mgn v w0 w1 w2 w3 w4 w5 w6 w7 w8) (l_e1 x 3) (l_e1 x 4) (l_e1 x 5) (l_e1 x 6) (l_e1 x 7) (l_e1 x 8) (l_e1 x 9) (l_e0 x (-2)) (l_e1 x 1) (h.2.2.2.1)) (l_c3 (fun w0 w1 w2 : Int => (0 ≤ w2 ∧ w2 < w1 ∧ v 25 w2 < w0 ∧ ∀ t : Int, 0 ≤ t → t < w2 → w0 ≤ v 25 t) ∨ (w2 = -1 ∧ ∀ t : Int, 0 ≤ t → t < w1 → w0 ≤ v 25 t)) (l_e1 x 0) (l_e1 x 1) (l_e1 x 2) (h.2.2.2.2.1)) (l_cc (l_e1 x 2) (h.2.1.1)) (l_cc (l_q1 9999 x 0) (h.2.1.2.1))
    refine l_outH rfl (And.intro h.1 ?_)
    exact l_o11 (fun w0 w1 w2 w3 w4 w5 w6 w7 w8 w9 w10 : Int => (True) ∧ (q_qry v w0 w1 w2 w3 w4 w5 w6 w7 w8 w9 w10 ∧ True)) (l_e0 x (3)) (l_e1 x 3) (l_e1 x 4) (l_e1 x 5) (l_e1 x 6) (l_e1 x 7) (l_e1 x 8) (l_e1 x 9) (l_e1 x 0) (l_e0 x (0)) (l_q3 1 x 2) K
  | skip
    intro v x h
    have C0 : (0 : Int) ≤ x 2 := l_cc (a := y_ev x (0, [(2, 1)])) (l_e1 _ _) (h.2.1.1)
    have C1 : (0 : Int) ≤ 9999 - x 0 := l_cc (a := y_ev x (9999, [(0, (-1))])) (by show ((9999) : Int) + ((-1) * x 0 + 0) = 9999 - x 0; omega) (h.2.1.2.1)
    have E0 : y_ev x (0, [(3, 1)]) = x 3 := (l_e1 _ _)
    have E1 : y_ev x (0, [(4, 1)]) = x 4 := (l_e1 _ _)
    have E2 : y_ev x (0, [(5, 1)]) = x 5 := (l_e1 _ _)
    have E3 : y_ev x (0, [(6, 1)]) = x 6 := (l_e1 _ _)
    have E4 : y_ev x (0, [(7, 1)]) = x 7 := (l_e1 _ _)
    have E5 : y_ev x (0, [(8, 1)]) = x 8 := (l_e1 _ _)
    have E6 : y_ev x (0, [(9, 1)]) = x 9 := (l_e1 _ _)
    have E7 : y_ev x ((-2), []) = (-2) := (l_e0 _ _)
    have E8 : y_ev x (0, [(1, 1)]) = x 1 := (l_e1 _ _)
    have E9 : y_ev x (0, [(0, 1)]) = x 0 := (l_e1 _ _)
    have E10 : y_ev x (0, [(2, 1)]) = x 2 := (l_e1 _ _)
    have T0 : q_mgn v (y_ev x (0, [(3, 1)])) (y_ev x (0, [(4, 1)])) (y_ev x (0, [(5, 1)])) (y_ev x (0, [(6, 1)])) (y_ev x (0, [(7, 1)])) (y_ev x (0, [(8, 1)])) (y_ev x (0, [(9, 1)])) (y_ev x ((-2), [])) (y_ev x (0, [(1, 1)])) := h.2.2.2.1
    (try rw [E0] at T0); (try rw [E1] at T0); (try rw [E2] at T0); (try rw [E3] at T0); (try rw [E4] at T0); (try rw [E5] at T0); (try rw [E6] at T0); (try rw [E7] at T0); (try rw [E8] at T0)
    have T1 : (0 ≤ (y_ev x (0, [(2, 1)])) ∧ (y_ev x (0, [(2, 1)])) < (y_ev x (0, [(1, 1)])) ∧ v 25 (y_ev x (0, [(2, 1)])) < (y_ev x (0, [(0, 1)])) ∧ ∀ t : Int, 0 ≤ t → t < (y_ev x (0, [(2, 1)])) → (y_ev x (0, [(0, 1)])) ≤ v 25 t) ∨ ((y_ev x (0, [(2, 1)])) = -1 ∧ ∀ t : Int, 0 ≤ t → t < (y_ev x (0, [(1, 1)])) → (y_ev x (0, [(0, 1)])) ≤ v 25 t) := h.2.2.2.2.1
    (try rw [E9] at T1); (try rw [E8] at T1); (try rw [E10] at T1)
    have K := k_brk1 (V := v) (w := x 0) (m := x 1) (i := x 2) (q := x 3) (b := x 4) (s := x 5) (o := x 6) (a1 := x 7) (a2 := x 8) (a3 := x 9) T0 T1 C0 C1
    refine l_outH rfl (And.intro h.1 ?_)
    have O0 : y_ev x (3, []) = 3 := l_e0 _ _
    have O1 : y_ev x (0, [(3, 1)]) = x 3 := l_e1 _ _
    have O2 : y_ev x (0, [(4, 1)]) = x 4 := l_e1 _ _
    have O3 : y_ev x (0, [(5, 1)]) = x 5 := l_e1 _ _
    have O4 : y_ev x (0, [(6, 1)]) = x 6 := l_e1 _ _
    have O5 : y_ev x (0, [(7, 1)]) = x 7 := l_e1 _ _
    have O6 : y_ev x (0, [(8, 1)]) = x 8 := l_e1 _ _
    have O7 : y_ev x (0, [(9, 1)]) = x 9 := l_e1 _ _
    have O8 : y_ev x (0, [(0, 1)]) = x 0 := l_e1 _ _
    have O9 : y_ev x (0, []) = 0 := l_e0 _ _
    have O10 : y_ev x (1, [(2, 1)]) = x 2 + 1 := by show ((1) : Int) + ((1) * x 2 + 0) = _; omega
    show (True) ∧ (q_qry v (y_ev x (3, [])) (y_ev x (0, [(3, 1)])) (y_ev x (0, [(4, 1)])) (y_ev x (0, [(5, 1)])) (y_ev x (0, [(6, 1)])) (y_ev x (0, [(7, 1)])) (y_ev x (0, [(8, 1)])) (y_ev x (0, [(9, 1)])) (y_ev x (0, [(0, 1)])) (y_ev x (0, [])) (y_ev x (1, [(2, 1)])) ∧ True)
    (try rw [O0]); (try rw [O1]); (try rw [O2]); (try rw [O3]); (try rw [O4]); (try rw [O5]); (try rw [O6]); (try rw [O7]); (try rw [O8]); (try rw [O9]); (try rw [O10])
    exact K
def lm_871 : zLem := (([((-2147483648), 2147483647), ((-2147483648), 2147483647), ((-2147483648), 2147483647), ((-2147483648), 2147483647), ((-2147483648), 2147483647), ((-2147483648), 2147483647), ((-2147483648), 2147483647), ((-2147483648), 2147483647), ((-2147483648), 2147483647)], [], [(9999, [(0, (-1))])], [], [(0, 0, 0, [(0, 1)])], [], [(252, [(0, [(2, 1)]), (0, [(3, 1)]), (0, [(4, 1)]), (0, [(5, 1)]), (0, [(6, 1)]), (0, [(7, 1)]), (0, [(8, 1)]), ((-2), []), (0, [(1, 1)])]), (254, [(0, [(0, 1)]), (0, [(1, 1)]), ((-1), [])])]), [([((-2147483648), 2147483647), ((-2147483648), 2147483647), ((-2147483648), 2147483647), ((-2147483648), 2147483647), ((-2147483648), 2147483647), ((-2147483648), 2147483647), ((-2147483648), 2147483647), ((-2147483648), 2147483647), ((-2147483648), 2147483647)], [], [], [], [], [], [(238, [(3, []), (0, [(2, 1)]), (0, [(3, 1)]), (0, [(4, 1)]), (0, [(5, 1)]), (0, [(6, 1)]), (0, [(7, 1)]), (0, [(8, 1)]), (0, [(0, 1)]), (0, []), ((-1), [])])])])
theorem lk_871 : l_core lm_871 := by
  first
  | skip
    intro v x h
    have K := k_brk0 (V := v) (w := x 0) (m := x 1) (q := x 2) (b := x 3) (s := x 4) (o := x 5) (a1 := x 6) (a2 := x 7) (a3 := x 8) (l_c9 (fun w0 w1 w2 w3 w4 w5 w6 w7 w8 : Int => q_mgn v w0 w1 w2 w3 w4 w5 w6 w7 w8) (l_e1 x 2) (l_e1 x 3) (l_e1 x 4) (l_e1 x 5) (l_e1 x 6) (l_e1 x 7) (l_e1 x 8) (l_e0 x (-2)) (l_e1 x 1) (h.2.2.2.1)) (l_c3 (fun w0 w1 w2 : Int => (0 ≤ w2 ∧ w2 < w1 ∧ v 25 w2 < w0 ∧ ∀ t : Int, 0 ≤ t → t < w2 → w0 ≤ v 25 t) ∨ (w2 = -1 ∧ ∀ t : Int, 0 ≤ t → t < w1 → w0 ≤ v 25 t)) (l_e1 x 0) (l_e1 x 1) (l_e0 x (-1)) (h.2.2.2.2.1)) (l_cc (l_q1 9999 x 0) (h.2.1.1))
    refine l_outH rfl (And.intro h.1 ?_)
    exact l_o11 (fun w0 w1 w2 w3 w4 w5 w6 w7 w8 w9 w10 : Int => (True) ∧ (q_qry v w0 w1 w2 w3 w4 w5 w6 w7 w8 w9 w10 ∧ True)) (l_e0 x (3)) (l_e1 x 2) (l_e1 x 3) (l_e1 x 4) (l_e1 x 5) (l_e1 x 6) (l_e1 x 7) (l_e1 x 8) (l_e1 x 0) (l_e0 x (0)) (l_e0 x (-1)) K
  | skip
    intro v x h
    have C0 : (0 : Int) ≤ 9999 - x 0 := l_cc (a := y_ev x (9999, [(0, (-1))])) (by show ((9999) : Int) + ((-1) * x 0 + 0) = 9999 - x 0; omega) (h.2.1.1)
    have E0 : y_ev x (0, [(2, 1)]) = x 2 := (l_e1 _ _)
    have E1 : y_ev x (0, [(3, 1)]) = x 3 := (l_e1 _ _)
    have E2 : y_ev x (0, [(4, 1)]) = x 4 := (l_e1 _ _)
    have E3 : y_ev x (0, [(5, 1)]) = x 5 := (l_e1 _ _)
    have E4 : y_ev x (0, [(6, 1)]) = x 6 := (l_e1 _ _)
    have E5 : y_ev x (0, [(7, 1)]) = x 7 := (l_e1 _ _)
    have E6 : y_ev x (0, [(8, 1)]) = x 8 := (l_e1 _ _)
    have E7 : y_ev x ((-2), []) = (-2) := (l_e0 _ _)
    have E8 : y_ev x (0, [(1, 1)]) = x 1 := (l_e1 _ _)
    have E9 : y_ev x (0, [(0, 1)]) = x 0 := (l_e1 _ _)
    have E10 : y_ev x ((-1), []) = (-1) := (l_e0 _ _)
    have T0 : q_mgn v (y_ev x (0, [(2, 1)])) (y_ev x (0, [(3, 1)])) (y_ev x (0, [(4, 1)])) (y_ev x (0, [(5, 1)])) (y_ev x (0, [(6, 1)])) (y_ev x (0, [(7, 1)])) (y_ev x (0, [(8, 1)])) (y_ev x ((-2), [])) (y_ev x (0, [(1, 1)])) := h.2.2.2.1
    (try rw [E0] at T0); (try rw [E1] at T0); (try rw [E2] at T0); (try rw [E3] at T0); (try rw [E4] at T0); (try rw [E5] at T0); (try rw [E6] at T0); (try rw [E7] at T0); (try rw [E8] at T0)
    have T1 : (0 ≤ (y_ev x ((-1), [])) ∧ (y_ev x ((-1), [])) < (y_ev x (0, [(1, 1)])) ∧ v 25 (y_ev x ((-1), [])) < (y_ev x (0, [(0, 1)])) ∧ ∀ t : Int, 0 ≤ t → t < (y_ev x ((-1), [])) → (y_ev x (0, [(0, 1)])) ≤ v 25 t) ∨ ((y_ev x ((-1), [])) = -1 ∧ ∀ t : Int, 0 ≤ t → t < (y_ev x (0, [(1, 1)])) → (y_ev x (0, [(0, 1)])) ≤ v 25 t) := h.2.2.2.2.1
    (try rw [E9] at T1); (try rw [E8] at T1); (try rw [E10] at T1)
    have K := k_brk0 (V := v) (w := x 0) (m := x 1) (q := x 2) (b := x 3) (s := x 4) (o := x 5) (a1 := x 6) (a2 := x 7) (a3 := x 8) T0 T1 C0
    refine l_outH rfl (And.intro h.1 ?_)
    have O0 : y_ev x (3, []) = 3 := l_e0 _ _
    have O1 : y_ev x (0, [(2, 1)]) = x 2 := l_e1 _ _
    have O2 : y_ev x (0, [(3, 1)]) = x 3 := l_e1 _ _
    have O3 : y_ev x (0, [(4, 1)]) = x 4 := l_e1 _ _
    have O4 : y_ev x (0, [(5, 1)]) = x 5 := l_e1 _ _
    have O5 : y_ev x (0, [(6, 1)]) = x 6 := l_e1 _ _
    have O6 : y_ev x (0, [(7, 1)]) = x 7 := l_e1 _ _
    have O7 : y_ev x (0, [(8, 1)]) = x 8 := l_e1 _ _
    have O8 : y_ev x (0, [(0, 1)]) = x 0 := l_e1 _ _
    have O9 : y_ev x (0, []) = 0 := l_e0 _ _
    have O10 : y_ev x ((-1), []) = (-1) := l_e0 _ _
    show (True) ∧ (q_qry v (y_ev x (3, [])) (y_ev x (0, [(2, 1)])) (y_ev x (0, [(3, 1)])) (y_ev x (0, [(4, 1)])) (y_ev x (0, [(5, 1)])) (y_ev x (0, [(6, 1)])) (y_ev x (0, [(7, 1)])) (y_ev x (0, [(8, 1)])) (y_ev x (0, [(0, 1)])) (y_ev x (0, [])) (y_ev x ((-1), [])) ∧ True)
    (try rw [O0]); (try rw [O1]); (try rw [O2]); (try rw [O3]); (try rw [O4]); (try rw [O5]); (try rw [O6]); (try rw [O7]); (try rw [O8]); (try rw [O9]); (try rw [O10])
    exact K
def lm_872 : zLem := (([((-2147483648), 2147483647), ((-2147483648), 2147483647), ((-2147483648), 2147483647), ((-2147483648), 2147483647), ((-2147483648), 2147483647), ((-2147483648), 2147483647), ((-2147483648), 2147483647)], [], [], [], [(0, 0, 0, [(0, 1)]), (0, 0, 0, [(1, 1)]), (0, 0, 0, [(5, 1)])], [], [(103, [(0, [(0, 1)]), (0, [(1, 1)]), (0, [(2, 1)])]), (100, [(0, [(2, 1)]), (1103515245, []), (0, [(3, 1)])]), (110, [(0, [(3, 1)]), (12345, []), (0, [(4, 1)])]), (106, [(0, [(4, 1)]), (15, []), (0, [(6, 1)])]), (103, [(0, [(4, 1)]), (0, [(6, 1)]), (0, [(5, 1)])])]), [([((-2147483648), 2147483647), ((-2147483648), 2147483647), ((-2147483648), 2147483647), ((-2147483648), 2147483647), ((-2147483648), 2147483647), ((-2147483648), 2147483647), ((-2147483648), 2147483647)], [], [], [], [], [], [(256, [(0, [(0, 1)]), (0, [(1, 1)]), (0, [(5, 1)])])])])
theorem lk_872 : l_core lm_872 := by
  first
  | skip
    intro v x h
    have K := k_mix (V := v) (h := x 0) (it := x 1) (a := x 2) (g := x 3) (c := x 4) (e := x 5) (i := x 6) (l_c3 (fun w0 w1 w2 : Int => (mOP 103 (Int32.ofInt w0) (Int32.ofInt w1)).toInt = w2) (l_e1 x 0) (l_e1 x 1) (l_e1 x 2) (h.2.2.2.1)) (l_c3 (fun w0 w1 w2 : Int => (mOP 100 (Int32.ofInt w0) (Int32.ofInt w1)).toInt = w2) (l_e1 x 2) (l_e0 x (1103515245)) (l_e1 x 3) (h.2.2.2.2.1)) (l_c3 (fun w0 w1 w2 : Int => (mOP 110 (Int32.ofInt w0) (Int32.ofInt w1)).toInt = w2) (l_e1 x 3) (l_e0 x (12345)) (l_e1 x 4) (h.2.2.2.2.2.1)) (l_c3 (fun w0 w1 w2 : Int => (mOP 106 (Int32.ofInt w0) (Int32.ofInt w1)).toInt = w2) (l_e1 x 4) (l_e0 x (15)) (l_e1 x 6) (h.2.2.2.2.2.2.1)) (l_c3 (fun w0 w1 w2 : Int => (mOP 103 (Int32.ofInt w0) (Int32.ofInt w1)).toInt = w2) (l_e1 x 4) (l_e1 x 6) (l_e1 x 5) (h.2.2.2.2.2.2.2.1))
    refine l_outH rfl (And.intro h.1 ?_)
    exact l_o3 (fun w0 w1 w2 : Int => (True) ∧ ((w2 = g_mx w0 w1) ∧ True)) (l_e1 x 0) (l_e1 x 1) (l_e1 x 5) K
  | skip
    intro v x h
    have E0 : y_ev x (0, [(0, 1)]) = x 0 := (l_e1 _ _)
    have E1 : y_ev x (0, [(1, 1)]) = x 1 := (l_e1 _ _)
    have E2 : y_ev x (0, [(2, 1)]) = x 2 := (l_e1 _ _)
    have E3 : y_ev x (1103515245, []) = 1103515245 := (l_e0 _ _)
    have E4 : y_ev x (0, [(3, 1)]) = x 3 := (l_e1 _ _)
    have E5 : y_ev x (12345, []) = 12345 := (l_e0 _ _)
    have E6 : y_ev x (0, [(4, 1)]) = x 4 := (l_e1 _ _)
    have E7 : y_ev x (15, []) = 15 := (l_e0 _ _)
    have E8 : y_ev x (0, [(6, 1)]) = x 6 := (l_e1 _ _)
    have E9 : y_ev x (0, [(5, 1)]) = x 5 := (l_e1 _ _)
    have T0 : (mOP 103 (Int32.ofInt (y_ev x (0, [(0, 1)]))) (Int32.ofInt (y_ev x (0, [(1, 1)])))).toInt = (y_ev x (0, [(2, 1)])) := h.2.2.2.1
    (try rw [E0] at T0); (try rw [E1] at T0); (try rw [E2] at T0)
    have T1 : (mOP 100 (Int32.ofInt (y_ev x (0, [(2, 1)]))) (Int32.ofInt (y_ev x (1103515245, [])))).toInt = (y_ev x (0, [(3, 1)])) := h.2.2.2.2.1
    (try rw [E2] at T1); (try rw [E3] at T1); (try rw [E4] at T1)
    have T2 : (mOP 110 (Int32.ofInt (y_ev x (0, [(3, 1)]))) (Int32.ofInt (y_ev x (12345, [])))).toInt = (y_ev x (0, [(4, 1)])) := h.2.2.2.2.2.1
    (try rw [E4] at T2); (try rw [E5] at T2); (try rw [E6] at T2)
    have T3 : (mOP 106 (Int32.ofInt (y_ev x (0, [(4, 1)]))) (Int32.ofInt (y_ev x (15, [])))).toInt = (y_ev x (0, [(6, 1)])) := h.2.2.2.2.2.2.1
    (try rw [E6] at T3); (try rw [E7] at T3); (try rw [E8] at T3)
    have T4 : (mOP 103 (Int32.ofInt (y_ev x (0, [(4, 1)]))) (Int32.ofInt (y_ev x (0, [(6, 1)])))).toInt = (y_ev x (0, [(5, 1)])) := h.2.2.2.2.2.2.2.1
    (try rw [E6] at T4); (try rw [E8] at T4); (try rw [E9] at T4)
    have K := k_mix (V := v) (h := x 0) (it := x 1) (a := x 2) (g := x 3) (c := x 4) (e := x 5) (i := x 6) T0 T1 T2 T3 T4
    refine l_outH rfl (And.intro h.1 ?_)
    have O0 : y_ev x (0, [(0, 1)]) = x 0 := l_e1 _ _
    have O1 : y_ev x (0, [(1, 1)]) = x 1 := l_e1 _ _
    have O2 : y_ev x (0, [(5, 1)]) = x 5 := l_e1 _ _
    show (True) ∧ (((y_ev x (0, [(5, 1)])) = g_mx (y_ev x (0, [(0, 1)])) (y_ev x (0, [(1, 1)]))) ∧ True)
    (try rw [O0]); (try rw [O1]); (try rw [O2])
    exact K
def lm_873 : zLem := (([((-2147483648), 2147483647), ((-2147483648), 2147483647), ((-2147483648), 2147483647), ((-2147483648), 2147483647), ((-2147483648), 2147483647), ((-2147483648), 2147483647)], [], [], [], [(0, 0, 0, [(0, 1)]), (0, 0, 0, [(1, 1)]), (0, 0, 0, [(5, 1)])], [], [(256, [(0, [(0, 1)]), (219, []), (0, [(2, 1)])]), (256, [(0, [(2, 1)]), (0, [(1, 1)]), (0, [(3, 1)])]), (106, [(0, [(3, 1)]), (1, []), (0, [(4, 1)])]), (108, [(0, [(4, 1)]), (100, []), (0, [(5, 1)])])]), [([((-2147483648), 2147483647), ((-2147483648), 2147483647), ((-2147483648), 2147483647), ((-2147483648), 2147483647), ((-2147483648), 2147483647), ((-2147483648), 2147483647)], [], [(0, [(5, 1)]), (99, [(5, (-1))])], [], [], [], [(255, [(0, [(0, 1)]), (0, [(1, 1)]), (0, [(5, 1)])])])])
theorem lk_873 : l_core lm_873 := by
  first
  | skip
    intro v x h
    have K := k_lot (V := v) (z := x 0) (w := x 1) (a := x 2) (c := x 3) (e := x 4) (r := x 5) (l_c3 (fun w0 w1 w2 : Int => w2 = g_mx w0 w1) (l_e1 x 0) (l_e0 x (219)) (l_e1 x 2) (h.2.2.2.1)) (l_c3 (fun w0 w1 w2 : Int => w2 = g_mx w0 w1) (l_e1 x 2) (l_e1 x 1) (l_e1 x 3) (h.2.2.2.2.1)) (l_c3 (fun w0 w1 w2 : Int => (mOP 106 (Int32.ofInt w0) (Int32.ofInt w1)).toInt = w2) (l_e1 x 3) (l_e0 x (1)) (l_e1 x 4) (h.2.2.2.2.2.1)) (l_c3 (fun w0 w1 w2 : Int => (mOP 108 (Int32.ofInt w0) (Int32.ofInt w1)).toInt = w2) (l_e1 x 4) (l_e0 x (100)) (l_e1 x 5) (h.2.2.2.2.2.2.1))
    refine l_outH rfl (And.intro h.1 ?_)
    exact l_o4 (fun w0 w1 w2 w3 : Int => (0 ≤ w0 ∧ 0 ≤ w1 ∧ True) ∧ ((w0 = g_lot w2 w3) ∧ True)) (l_e1 x 5) (l_q1 99 x 5) (l_e1 x 0) (l_e1 x 1) K
  | skip
    intro v x h
    have E0 : y_ev x (0, [(0, 1)]) = x 0 := (l_e1 _ _)
    have E1 : y_ev x (219, []) = 219 := (l_e0 _ _)
    have E2 : y_ev x (0, [(2, 1)]) = x 2 := (l_e1 _ _)
    have E3 : y_ev x (0, [(1, 1)]) = x 1 := (l_e1 _ _)
    have E4 : y_ev x (0, [(3, 1)]) = x 3 := (l_e1 _ _)
    have E5 : y_ev x (1, []) = 1 := (l_e0 _ _)
    have E6 : y_ev x (0, [(4, 1)]) = x 4 := (l_e1 _ _)
    have E7 : y_ev x (100, []) = 100 := (l_e0 _ _)
    have E8 : y_ev x (0, [(5, 1)]) = x 5 := (l_e1 _ _)
    have T0 : (y_ev x (0, [(2, 1)])) = g_mx (y_ev x (0, [(0, 1)])) (y_ev x (219, [])) := h.2.2.2.1
    (try rw [E0] at T0); (try rw [E1] at T0); (try rw [E2] at T0)
    have T1 : (y_ev x (0, [(3, 1)])) = g_mx (y_ev x (0, [(2, 1)])) (y_ev x (0, [(1, 1)])) := h.2.2.2.2.1
    (try rw [E2] at T1); (try rw [E3] at T1); (try rw [E4] at T1)
    have T2 : (mOP 106 (Int32.ofInt (y_ev x (0, [(3, 1)]))) (Int32.ofInt (y_ev x (1, [])))).toInt = (y_ev x (0, [(4, 1)])) := h.2.2.2.2.2.1
    (try rw [E4] at T2); (try rw [E5] at T2); (try rw [E6] at T2)
    have T3 : (mOP 108 (Int32.ofInt (y_ev x (0, [(4, 1)]))) (Int32.ofInt (y_ev x (100, [])))).toInt = (y_ev x (0, [(5, 1)])) := h.2.2.2.2.2.2.1
    (try rw [E6] at T3); (try rw [E7] at T3); (try rw [E8] at T3)
    have K := k_lot (V := v) (z := x 0) (w := x 1) (a := x 2) (c := x 3) (e := x 4) (r := x 5) T0 T1 T2 T3
    refine l_outH rfl (And.intro h.1 ?_)
    have O0 : y_ev x (0, [(5, 1)]) = x 5 := l_e1 _ _
    have O1 : y_ev x (99, [(5, (-1))]) = 99 - x 5 := by show ((99) : Int) + ((-1) * x 5 + 0) = _; omega
    have O2 : y_ev x (0, [(0, 1)]) = x 0 := l_e1 _ _
    have O3 : y_ev x (0, [(1, 1)]) = x 1 := l_e1 _ _
    show (0 ≤ y_ev x (0, [(5, 1)]) ∧ 0 ≤ y_ev x (99, [(5, (-1))]) ∧ True) ∧ (((y_ev x (0, [(5, 1)])) = g_lot (y_ev x (0, [(0, 1)])) (y_ev x (0, [(1, 1)]))) ∧ True)
    (try rw [O0]); (try rw [O1]); (try rw [O2]); (try rw [O3])
    exact K
def lm_874pg_0 (t : List zTg) : List zTg := (235, [(0, [(4, 1)]), (0, [(5, 1)]), (0, [(6, 1)]), (0, [(7, 1)]), (0, [(8, 1)]), (0, [(9, 1)]), (0, [(10, 1)]), (0, [(11, 1)]), (0, [(12, 1)]), (0, [(13, 1)]), (0, [(14, 1)])]) :: (238, [(6, []), (0, [(8, 1)]), (0, [(9, 1)]), (0, [(10, 1)]), (0, [(11, 1)]), (0, [(12, 1)]), (0, [(13, 1)]), (0, [(14, 1)]), (0, [(0, 1)]), (0, []), (0, [(1, 1)])]) :: (238, [(8, []), (0, [(8, 1)]), (0, [(9, 1)]), (0, [(10, 1)]), (0, [(11, 1)]), (0, [(12, 1)]), (0, [(13, 1)]), (0, [(14, 1)]), (0, [(0, 1)]), (0, []), (0, [(2, 1)])]) :: (238, [(8, []), (0, [(8, 1)]), (0, [(9, 1)]), (0, [(10, 1)]), (0, [(11, 1)]), (0, [(12, 1)]), (0, [(13, 1)]), (0, [(14, 1)]), (12, [(0, 1)]), (0, []), (0, [(3, 1)])]) :: t
def lm_874p : zS := ((lm_624pi_0 (lm_624pi_1 [])), [], [(0, [(1, 1)]), (5, [(1, (-1))]), (0, [(0, 1)]), (5, [(0, (-1))])], [], [(0, 0, 0, [(0, 1)]), (0, 0, 0, [(1, 1)])], [], (lm_874pg_0 []))
def lm_874 : zLem := (lm_874p, [([((-2147483648), 2147483647), ((-2147483648), 2147483647), ((-2147483648), 2147483647), ((-2147483648), 2147483647), ((-2147483648), 2147483647), ((-2147483648), 2147483647), ((-2147483648), 2147483647), ((-2147483648), 2147483647), ((-2147483648), 2147483647), ((-2147483648), 2147483647), ((-2147483648), 2147483647), ((-2147483648), 2147483647), ((-2147483648), 2147483647), ((-2147483648), 2147483647), ((-2147483648), 2147483647)], [], [], [], [], [], [(257, [(0, [(4, 1)]), (0, [(5, 1)]), (0, [(6, 1)]), (0, [(7, 1)]), (0, [(8, 1)]), (0, [(9, 1)]), (0, [(10, 1)]), (0, [(11, 1)]), (0, [(12, 1)]), (0, [(13, 1)]), (0, [(14, 1)]), (0, [(0, 1)]), (0, [(1, 1)]), (0, [(2, 1)]), (0, [(3, 1)])])])])
theorem lk_874 : l_core lm_874 := by
  first
  | skip
    intro v x h
    have K := k_saxY (V := v) (h := x 0) (i := x 1) (x := x 2) (z := x 3) (H := x 4) (p := x 5) (y := x 6) (d := x 7) (q := x 8) (b := x 9) (s := x 10) (o := x 11) (a1 := x 12) (a2 := x 13) (a3 := x 14) (l_c11 (fun w0 w1 w2 w3 w4 w5 w6 w7 w8 w9 w10 : Int => q_sto v 0 w0 w1 w2 w3 w4 w5 w6 w7 w8 w9 w10) (l_e1 x 4) (l_e1 x 5) (l_e1 x 6) (l_e1 x 7) (l_e1 x 8) (l_e1 x 9) (l_e1 x 10) (l_e1 x 11) (l_e1 x 12) (l_e1 x 13) (l_e1 x 14) (h.2.2.2.1)) (l_c11 (fun w0 w1 w2 w3 w4 w5 w6 w7 w8 w9 w10 : Int => q_qry v w0 w1 w2 w3 w4 w5 w6 w7 w8 w9 w10) (l_e0 x (6)) (l_e1 x 8) (l_e1 x 9) (l_e1 x 10) (l_e1 x 11) (l_e1 x 12) (l_e1 x 13) (l_e1 x 14) (l_e1 x 0) (l_e0 x (0)) (l_e1 x 1) (h.2.2.2.2.1)) (l_c11 (fun w0 w1 w2 w3 w4 w5 w6 w7 w8 w9 w10 : Int => q_qry v w0 w1 w2 w3 w4 w5 w6 w7 w8 w9 w10) (l_e0 x (8)) (l_e1 x 8) (l_e1 x 9) (l_e1 x 10) (l_e1 x 11) (l_e1 x 12) (l_e1 x 13) (l_e1 x 14) (l_e1 x 0) (l_e0 x (0)) (l_e1 x 2) (h.2.2.2.2.2.1)) (l_c11 (fun w0 w1 w2 w3 w4 w5 w6 w7 w8 w9 w10 : Int => q_qry v w0 w1 w2 w3 w4 w5 w6 w7 w8 w9 w10) (l_e0 x (8)) (l_e1 x 8) (l_e1 x 9) (l_e1 x 10) (l_e1 x 11) (l_e1 x 12) (l_e1 x 13) (l_e1 x 14) (l_q3 12 x 0) (l_e0 x (0)) (l_e1 x 3) (h.2.2.2.2.2.2.1)) (l_cc (l_e1 x 1) (h.2.1.1)) (l_cc (l_q1 5 x 1) (h.2.1.2.1)) (l_cc (l_e1 x 0) (h.2.1.2.2.1)) (l_cc (l_q1 5 x 0) (h.2.1.2.2.2.1))
    refine l_outH rfl (And.intro h.1 ?_)
    exact l_o15 (fun w0 w1 w2 w3 w4 w5 w6 w7 w8 w9 w10 w11 w12 w13 w14 : Int => (True) ∧ (q_sax v 0 w0 w1 w2 w3 w4 w5 w6 w7 w8 w9 w10 w11 w12 w13 w14 ∧ True)) (l_e1 x 4) (l_e1 x 5) (l_e1 x 6) (l_e1 x 7) (l_e1 x 8) (l_e1 x 9) (l_e1 x 10) (l_e1 x 11) (l_e1 x 12) (l_e1 x 13) (l_e1 x 14) (l_e1 x 0) (l_e1 x 1) (l_e1 x 2) (l_e1 x 3) K
  | skip
    intro v x h
    have C0 : (0 : Int) ≤ x 1 := l_cc (a := y_ev x (0, [(1, 1)])) (l_e1 _ _) (h.2.1.1)
    have C1 : (0 : Int) ≤ 5 - x 1 := l_cc (a := y_ev x (5, [(1, (-1))])) (by show ((5) : Int) + ((-1) * x 1 + 0) = 5 - x 1; omega) (h.2.1.2.1)
    have C2 : (0 : Int) ≤ x 0 := l_cc (a := y_ev x (0, [(0, 1)])) (l_e1 _ _) (h.2.1.2.2.1)
    have C3 : (0 : Int) ≤ 5 - x 0 := l_cc (a := y_ev x (5, [(0, (-1))])) (by show ((5) : Int) + ((-1) * x 0 + 0) = 5 - x 0; omega) (h.2.1.2.2.2.1)
    have E0 : y_ev x (0, [(4, 1)]) = x 4 := (l_e1 _ _)
    have E1 : y_ev x (0, [(5, 1)]) = x 5 := (l_e1 _ _)
    have E2 : y_ev x (0, [(6, 1)]) = x 6 := (l_e1 _ _)
    have E3 : y_ev x (0, [(7, 1)]) = x 7 := (l_e1 _ _)
    have E4 : y_ev x (0, [(8, 1)]) = x 8 := (l_e1 _ _)
    have E5 : y_ev x (0, [(9, 1)]) = x 9 := (l_e1 _ _)
    have E6 : y_ev x (0, [(10, 1)]) = x 10 := (l_e1 _ _)
    have E7 : y_ev x (0, [(11, 1)]) = x 11 := (l_e1 _ _)
    have E8 : y_ev x (0, [(12, 1)]) = x 12 := (l_e1 _ _)
    have E9 : y_ev x (0, [(13, 1)]) = x 13 := (l_e1 _ _)
    have E10 : y_ev x (0, [(14, 1)]) = x 14 := (l_e1 _ _)
    have E11 : y_ev x (6, []) = 6 := (l_e0 _ _)
    have E12 : y_ev x (0, [(0, 1)]) = x 0 := (l_e1 _ _)
    have E13 : y_ev x (0, []) = 0 := (l_e0 _ _)
    have E14 : y_ev x (0, [(1, 1)]) = x 1 := (l_e1 _ _)
    have E15 : y_ev x (8, []) = 8 := (l_e0 _ _)
    have E16 : y_ev x (0, [(2, 1)]) = x 2 := (l_e1 _ _)
    have E17 : y_ev x (12, [(0, 1)]) = x 0 + 12 := (by show ((12) : Int) + ((1) * x 0 + 0) = x 0 + 12; omega)
    have E18 : y_ev x (0, [(3, 1)]) = x 3 := (l_e1 _ _)
    have T0 : q_sto v 0 (y_ev x (0, [(4, 1)])) (y_ev x (0, [(5, 1)])) (y_ev x (0, [(6, 1)])) (y_ev x (0, [(7, 1)])) (y_ev x (0, [(8, 1)])) (y_ev x (0, [(9, 1)])) (y_ev x (0, [(10, 1)])) (y_ev x (0, [(11, 1)])) (y_ev x (0, [(12, 1)])) (y_ev x (0, [(13, 1)])) (y_ev x (0, [(14, 1)])) := h.2.2.2.1
    (try rw [E0] at T0); (try rw [E1] at T0); (try rw [E2] at T0); (try rw [E3] at T0); (try rw [E4] at T0); (try rw [E5] at T0); (try rw [E6] at T0); (try rw [E7] at T0); (try rw [E8] at T0); (try rw [E9] at T0); (try rw [E10] at T0)
    have T1 : q_qry v (y_ev x (6, [])) (y_ev x (0, [(8, 1)])) (y_ev x (0, [(9, 1)])) (y_ev x (0, [(10, 1)])) (y_ev x (0, [(11, 1)])) (y_ev x (0, [(12, 1)])) (y_ev x (0, [(13, 1)])) (y_ev x (0, [(14, 1)])) (y_ev x (0, [(0, 1)])) (y_ev x (0, [])) (y_ev x (0, [(1, 1)])) := h.2.2.2.2.1
    (try rw [E11] at T1); (try rw [E4] at T1); (try rw [E5] at T1); (try rw [E6] at T1); (try rw [E7] at T1); (try rw [E8] at T1); (try rw [E9] at T1); (try rw [E10] at T1); (try rw [E12] at T1); (try rw [E13] at T1); (try rw [E14] at T1)
    have T2 : q_qry v (y_ev x (8, [])) (y_ev x (0, [(8, 1)])) (y_ev x (0, [(9, 1)])) (y_ev x (0, [(10, 1)])) (y_ev x (0, [(11, 1)])) (y_ev x (0, [(12, 1)])) (y_ev x (0, [(13, 1)])) (y_ev x (0, [(14, 1)])) (y_ev x (0, [(0, 1)])) (y_ev x (0, [])) (y_ev x (0, [(2, 1)])) := h.2.2.2.2.2.1
    (try rw [E15] at T2); (try rw [E4] at T2); (try rw [E5] at T2); (try rw [E6] at T2); (try rw [E7] at T2); (try rw [E8] at T2); (try rw [E9] at T2); (try rw [E10] at T2); (try rw [E12] at T2); (try rw [E13] at T2); (try rw [E16] at T2)
    have T3 : q_qry v (y_ev x (8, [])) (y_ev x (0, [(8, 1)])) (y_ev x (0, [(9, 1)])) (y_ev x (0, [(10, 1)])) (y_ev x (0, [(11, 1)])) (y_ev x (0, [(12, 1)])) (y_ev x (0, [(13, 1)])) (y_ev x (0, [(14, 1)])) (y_ev x (12, [(0, 1)])) (y_ev x (0, [])) (y_ev x (0, [(3, 1)])) := h.2.2.2.2.2.2.1
    (try rw [E15] at T3); (try rw [E4] at T3); (try rw [E5] at T3); (try rw [E6] at T3); (try rw [E7] at T3); (try rw [E8] at T3); (try rw [E9] at T3); (try rw [E10] at T3); (try rw [E17] at T3); (try rw [E13] at T3); (try rw [E18] at T3)
    have K := k_saxY (V := v) (h := x 0) (i := x 1) (x := x 2) (z := x 3) (H := x 4) (p := x 5) (y := x 6) (d := x 7) (q := x 8) (b := x 9) (s := x 10) (o := x 11) (a1 := x 12) (a2 := x 13) (a3 := x 14) T0 T1 T2 T3 C0 C1 C2 C3
    refine l_outH rfl (And.intro h.1 ?_)
    have O0 : y_ev x (0, [(4, 1)]) = x 4 := l_e1 _ _
    have O1 : y_ev x (0, [(5, 1)]) = x 5 := l_e1 _ _
    have O2 : y_ev x (0, [(6, 1)]) = x 6 := l_e1 _ _
    have O3 : y_ev x (0, [(7, 1)]) = x 7 := l_e1 _ _
    have O4 : y_ev x (0, [(8, 1)]) = x 8 := l_e1 _ _
    have O5 : y_ev x (0, [(9, 1)]) = x 9 := l_e1 _ _
    have O6 : y_ev x (0, [(10, 1)]) = x 10 := l_e1 _ _
    have O7 : y_ev x (0, [(11, 1)]) = x 11 := l_e1 _ _
    have O8 : y_ev x (0, [(12, 1)]) = x 12 := l_e1 _ _
    have O9 : y_ev x (0, [(13, 1)]) = x 13 := l_e1 _ _
    have O10 : y_ev x (0, [(14, 1)]) = x 14 := l_e1 _ _
    have O11 : y_ev x (0, [(0, 1)]) = x 0 := l_e1 _ _
    have O12 : y_ev x (0, [(1, 1)]) = x 1 := l_e1 _ _
    have O13 : y_ev x (0, [(2, 1)]) = x 2 := l_e1 _ _
    have O14 : y_ev x (0, [(3, 1)]) = x 3 := l_e1 _ _
    show (True) ∧ (q_sax v 0 (y_ev x (0, [(4, 1)])) (y_ev x (0, [(5, 1)])) (y_ev x (0, [(6, 1)])) (y_ev x (0, [(7, 1)])) (y_ev x (0, [(8, 1)])) (y_ev x (0, [(9, 1)])) (y_ev x (0, [(10, 1)])) (y_ev x (0, [(11, 1)])) (y_ev x (0, [(12, 1)])) (y_ev x (0, [(13, 1)])) (y_ev x (0, [(14, 1)])) (y_ev x (0, [(0, 1)])) (y_ev x (0, [(1, 1)])) (y_ev x (0, [(2, 1)])) (y_ev x (0, [(3, 1)])) ∧ True)
    (try rw [O0]); (try rw [O1]); (try rw [O2]); (try rw [O3]); (try rw [O4]); (try rw [O5]); (try rw [O6]); (try rw [O7]); (try rw [O8]); (try rw [O9]); (try rw [O10]); (try rw [O11]); (try rw [O12]); (try rw [O13]); (try rw [O14])
    exact K
def lm_875pg_0 (t : List zTg) : List zTg := (235, [(0, [(2, 1)]), (0, [(3, 1)]), (0, [(4, 1)]), (0, [(5, 1)]), (0, [(6, 1)]), (0, [(7, 1)]), (0, [(8, 1)]), (0, [(9, 1)]), (0, [(10, 1)]), (0, [(11, 1)]), (0, [(12, 1)])]) :: (238, [(6, []), (0, [(6, 1)]), (0, [(7, 1)]), (0, [(8, 1)]), (0, [(9, 1)]), (0, [(10, 1)]), (0, [(11, 1)]), (0, [(12, 1)]), (0, [(0, 1)]), (0, []), ((-1), [])]) :: (238, [(8, []), (0, [(6, 1)]), (0, [(7, 1)]), (0, [(8, 1)]), (0, [(9, 1)]), (0, [(10, 1)]), (0, [(11, 1)]), (0, [(12, 1)]), (0, [(0, 1)]), (0, []), (0, [(1, 1)])]) :: t
def lm_875p : zS := ((lm_650pi_0 (lm_650pi_1 [])), [], [(0, [(0, 1)]), ((-1), [(0, (-1)), (2, 1)]), (6, [(2, (-1))])], [], [(0, 0, 0, [(0, 1)])], [], (lm_875pg_0 []))
def lm_875 : zLem := (lm_875p, [([((-2147483648), 2147483647), ((-2147483648), 2147483647), ((-2147483648), 2147483647), ((-2147483648), 2147483647), ((-2147483648), 2147483647), ((-2147483648), 2147483647), ((-2147483648), 2147483647), ((-2147483648), 2147483647), ((-2147483648), 2147483647), ((-2147483648), 2147483647), ((-2147483648), 2147483647), ((-2147483648), 2147483647), ((-2147483648), 2147483647)], [], [], [], [], [], [(257, [(0, [(2, 1)]), (0, [(3, 1)]), (0, [(4, 1)]), (0, [(5, 1)]), (0, [(6, 1)]), (0, [(7, 1)]), (0, [(8, 1)]), (0, [(9, 1)]), (0, [(10, 1)]), (0, [(11, 1)]), (0, [(12, 1)]), (0, [(0, 1)]), ((-1), []), (0, [(1, 1)]), (0, [])])])])
theorem lk_875 : l_core lm_875 := by
  first
  | skip
    intro v x h
    have K := k_saxN (V := v) (h := x 0) (x := x 1) (H := x 2) (p := x 3) (y := x 4) (d := x 5) (q := x 6) (b := x 7) (s := x 8) (o := x 9) (a1 := x 10) (a2 := x 11) (a3 := x 12) (l_c11 (fun w0 w1 w2 w3 w4 w5 w6 w7 w8 w9 w10 : Int => q_sto v 0 w0 w1 w2 w3 w4 w5 w6 w7 w8 w9 w10) (l_e1 x 2) (l_e1 x 3) (l_e1 x 4) (l_e1 x 5) (l_e1 x 6) (l_e1 x 7) (l_e1 x 8) (l_e1 x 9) (l_e1 x 10) (l_e1 x 11) (l_e1 x 12) (h.2.2.2.1)) (l_c11 (fun w0 w1 w2 w3 w4 w5 w6 w7 w8 w9 w10 : Int => q_qry v w0 w1 w2 w3 w4 w5 w6 w7 w8 w9 w10) (l_e0 x (6)) (l_e1 x 6) (l_e1 x 7) (l_e1 x 8) (l_e1 x 9) (l_e1 x 10) (l_e1 x 11) (l_e1 x 12) (l_e1 x 0) (l_e0 x (0)) (l_e0 x (-1)) (h.2.2.2.2.1)) (l_c11 (fun w0 w1 w2 w3 w4 w5 w6 w7 w8 w9 w10 : Int => q_qry v w0 w1 w2 w3 w4 w5 w6 w7 w8 w9 w10) (l_e0 x (8)) (l_e1 x 6) (l_e1 x 7) (l_e1 x 8) (l_e1 x 9) (l_e1 x 10) (l_e1 x 11) (l_e1 x 12) (l_e1 x 0) (l_e0 x (0)) (l_e1 x 1) (h.2.2.2.2.2.1)) (l_cc (l_e1 x 0) (h.2.1.1)) (l_cc (l_q6 1 x 0 2) (h.2.1.2.1)) (l_cc (l_q1 6 x 2) (h.2.1.2.2.1))
    refine l_outH rfl (And.intro h.1 ?_)
    exact l_o15 (fun w0 w1 w2 w3 w4 w5 w6 w7 w8 w9 w10 w11 w12 w13 w14 : Int => (True) ∧ (q_sax v 0 w0 w1 w2 w3 w4 w5 w6 w7 w8 w9 w10 w11 w12 w13 w14 ∧ True)) (l_e1 x 2) (l_e1 x 3) (l_e1 x 4) (l_e1 x 5) (l_e1 x 6) (l_e1 x 7) (l_e1 x 8) (l_e1 x 9) (l_e1 x 10) (l_e1 x 11) (l_e1 x 12) (l_e1 x 0) (l_e0 x (-1)) (l_e1 x 1) (l_e0 x (0)) K
  | skip
    intro v x h
    have C0 : (0 : Int) ≤ x 0 := l_cc (a := y_ev x (0, [(0, 1)])) (l_e1 _ _) (h.2.1.1)
    have C1 : (0 : Int) ≤ x 2 - x 0 - 1 := l_cc (a := y_ev x ((-1), [(0, (-1)), (2, 1)])) (by show ((-1) : Int) + ((-1) * x 0 + ((1) * x 2 + 0)) = x 2 - x 0 - 1; omega) (h.2.1.2.1)
    have C2 : (0 : Int) ≤ 6 - x 2 := l_cc (a := y_ev x (6, [(2, (-1))])) (by show ((6) : Int) + ((-1) * x 2 + 0) = 6 - x 2; omega) (h.2.1.2.2.1)
    have E0 : y_ev x (0, [(2, 1)]) = x 2 := (l_e1 _ _)
    have E1 : y_ev x (0, [(3, 1)]) = x 3 := (l_e1 _ _)
    have E2 : y_ev x (0, [(4, 1)]) = x 4 := (l_e1 _ _)
    have E3 : y_ev x (0, [(5, 1)]) = x 5 := (l_e1 _ _)
    have E4 : y_ev x (0, [(6, 1)]) = x 6 := (l_e1 _ _)
    have E5 : y_ev x (0, [(7, 1)]) = x 7 := (l_e1 _ _)
    have E6 : y_ev x (0, [(8, 1)]) = x 8 := (l_e1 _ _)
    have E7 : y_ev x (0, [(9, 1)]) = x 9 := (l_e1 _ _)
    have E8 : y_ev x (0, [(10, 1)]) = x 10 := (l_e1 _ _)
    have E9 : y_ev x (0, [(11, 1)]) = x 11 := (l_e1 _ _)
    have E10 : y_ev x (0, [(12, 1)]) = x 12 := (l_e1 _ _)
    have E11 : y_ev x (6, []) = 6 := (l_e0 _ _)
    have E12 : y_ev x (0, [(0, 1)]) = x 0 := (l_e1 _ _)
    have E13 : y_ev x (0, []) = 0 := (l_e0 _ _)
    have E14 : y_ev x ((-1), []) = (-1) := (l_e0 _ _)
    have E15 : y_ev x (8, []) = 8 := (l_e0 _ _)
    have E16 : y_ev x (0, [(1, 1)]) = x 1 := (l_e1 _ _)
    have T0 : q_sto v 0 (y_ev x (0, [(2, 1)])) (y_ev x (0, [(3, 1)])) (y_ev x (0, [(4, 1)])) (y_ev x (0, [(5, 1)])) (y_ev x (0, [(6, 1)])) (y_ev x (0, [(7, 1)])) (y_ev x (0, [(8, 1)])) (y_ev x (0, [(9, 1)])) (y_ev x (0, [(10, 1)])) (y_ev x (0, [(11, 1)])) (y_ev x (0, [(12, 1)])) := h.2.2.2.1
    (try rw [E0] at T0); (try rw [E1] at T0); (try rw [E2] at T0); (try rw [E3] at T0); (try rw [E4] at T0); (try rw [E5] at T0); (try rw [E6] at T0); (try rw [E7] at T0); (try rw [E8] at T0); (try rw [E9] at T0); (try rw [E10] at T0)
    have T1 : q_qry v (y_ev x (6, [])) (y_ev x (0, [(6, 1)])) (y_ev x (0, [(7, 1)])) (y_ev x (0, [(8, 1)])) (y_ev x (0, [(9, 1)])) (y_ev x (0, [(10, 1)])) (y_ev x (0, [(11, 1)])) (y_ev x (0, [(12, 1)])) (y_ev x (0, [(0, 1)])) (y_ev x (0, [])) (y_ev x ((-1), [])) := h.2.2.2.2.1
    (try rw [E11] at T1); (try rw [E4] at T1); (try rw [E5] at T1); (try rw [E6] at T1); (try rw [E7] at T1); (try rw [E8] at T1); (try rw [E9] at T1); (try rw [E10] at T1); (try rw [E12] at T1); (try rw [E13] at T1); (try rw [E14] at T1)
    have T2 : q_qry v (y_ev x (8, [])) (y_ev x (0, [(6, 1)])) (y_ev x (0, [(7, 1)])) (y_ev x (0, [(8, 1)])) (y_ev x (0, [(9, 1)])) (y_ev x (0, [(10, 1)])) (y_ev x (0, [(11, 1)])) (y_ev x (0, [(12, 1)])) (y_ev x (0, [(0, 1)])) (y_ev x (0, [])) (y_ev x (0, [(1, 1)])) := h.2.2.2.2.2.1
    (try rw [E15] at T2); (try rw [E4] at T2); (try rw [E5] at T2); (try rw [E6] at T2); (try rw [E7] at T2); (try rw [E8] at T2); (try rw [E9] at T2); (try rw [E10] at T2); (try rw [E12] at T2); (try rw [E13] at T2); (try rw [E16] at T2)
    have K := k_saxN (V := v) (h := x 0) (x := x 1) (H := x 2) (p := x 3) (y := x 4) (d := x 5) (q := x 6) (b := x 7) (s := x 8) (o := x 9) (a1 := x 10) (a2 := x 11) (a3 := x 12) T0 T1 T2 C0 C1 C2
    refine l_outH rfl (And.intro h.1 ?_)
    have O0 : y_ev x (0, [(2, 1)]) = x 2 := l_e1 _ _
    have O1 : y_ev x (0, [(3, 1)]) = x 3 := l_e1 _ _
    have O2 : y_ev x (0, [(4, 1)]) = x 4 := l_e1 _ _
    have O3 : y_ev x (0, [(5, 1)]) = x 5 := l_e1 _ _
    have O4 : y_ev x (0, [(6, 1)]) = x 6 := l_e1 _ _
    have O5 : y_ev x (0, [(7, 1)]) = x 7 := l_e1 _ _
    have O6 : y_ev x (0, [(8, 1)]) = x 8 := l_e1 _ _
    have O7 : y_ev x (0, [(9, 1)]) = x 9 := l_e1 _ _
    have O8 : y_ev x (0, [(10, 1)]) = x 10 := l_e1 _ _
    have O9 : y_ev x (0, [(11, 1)]) = x 11 := l_e1 _ _
    have O10 : y_ev x (0, [(12, 1)]) = x 12 := l_e1 _ _
    have O11 : y_ev x (0, [(0, 1)]) = x 0 := l_e1 _ _
    have O12 : y_ev x ((-1), []) = (-1) := l_e0 _ _
    have O13 : y_ev x (0, [(1, 1)]) = x 1 := l_e1 _ _
    have O14 : y_ev x (0, []) = 0 := l_e0 _ _
    show (True) ∧ (q_sax v 0 (y_ev x (0, [(2, 1)])) (y_ev x (0, [(3, 1)])) (y_ev x (0, [(4, 1)])) (y_ev x (0, [(5, 1)])) (y_ev x (0, [(6, 1)])) (y_ev x (0, [(7, 1)])) (y_ev x (0, [(8, 1)])) (y_ev x (0, [(9, 1)])) (y_ev x (0, [(10, 1)])) (y_ev x (0, [(11, 1)])) (y_ev x (0, [(12, 1)])) (y_ev x (0, [(0, 1)])) (y_ev x ((-1), [])) (y_ev x (0, [(1, 1)])) (y_ev x (0, [])) ∧ True)
    (try rw [O0]); (try rw [O1]); (try rw [O2]); (try rw [O3]); (try rw [O4]); (try rw [O5]); (try rw [O6]); (try rw [O7]); (try rw [O8]); (try rw [O9]); (try rw [O10]); (try rw [O11]); (try rw [O12]); (try rw [O13]); (try rw [O14])
    exact K
def lm_876pg_0 (t : List zTg) : List zTg := (257, [(0, [(7, 1)]), (0, [(8, 1)]), (0, [(9, 1)]), (0, [(10, 1)]), (0, [(11, 1)]), (0, [(12, 1)]), (0, [(13, 1)]), (4, []), (0, [(6, 1)]), (0, [(0, 1)]), (0, [(7, 1)]), (0, [(0, 1)]), (0, [(1, 1)]), (0, [(2, 1)]), (0, [(3, 1)])]) :: (238, [(20, []), (0, [(11, 1)]), (0, [(12, 1)]), (0, [(13, 1)]), (4, []), (0, [(6, 1)]), (0, [(0, 1)]), (0, [(7, 1)]), (0, [(0, 1)]), (0, []), (0, [(4, 1)])]) :: (238, [(21, []), (0, [(11, 1)]), (0, [(12, 1)]), (0, [(13, 1)]), (4, []), (0, [(6, 1)]), (0, [(0, 1)]), (0, [(7, 1)]), (0, [(0, 1)]), (0, []), (0, [(5, 1)])]) :: (238, [(6, []), (0, [(11, 1)]), (0, [(12, 1)]), (0, [(13, 1)]), (4, []), (0, [(6, 1)]), (0, [(0, 1)]), (0, [(7, 1)]), (0, [(0, 1)]), (0, []), (0, [(1, 1)])]) :: t
def lm_876p : zS := ((lm_716pi_0 (lm_716pi_1 [])), [(27, false), (31, false)], [(0, [(1, 1)]), (5, [(1, (-1))]), (0, [(0, 1)]), ((-1), [(0, (-1)), (7, 1)]), (6, [(7, (-1))]), ((-1), [(1, (-1)), (8, 1)]), (6, [(8, (-1))])], [], [(0, 0, 0, [(0, 1)]), (0, 0, 0, [(1, 1)])], [(0, (true, 0, 0, [(0, 1)]), 0, 0, 0, [(4, 1)]), (1, (true, 0, 0, [(1, 1)]), 0, 0, 0, [(5, 1)])], (lm_876pg_0 []))
def lm_876 : zLem := (lm_876p, [([((-2147483648), 2147483647), ((-2147483648), 2147483647), ((-2147483648), 2147483647), ((-2147483648), 2147483647), ((-2147483648), 2147483647), ((-2147483648), 2147483647), ((-2147483648), 2147483647), ((-2147483648), 2147483647), ((-2147483648), 2147483647), ((-2147483648), 2147483647), ((-2147483648), 2147483647), ((-2147483648), 2147483647), ((-2147483648), 2147483647), ((-2147483648), 2147483647)], [(27, false), (31, false)], [], [], [], [], [(235, [(0, [(7, 1)]), (0, [(8, 1)]), (0, [(9, 1)]), (0, [(10, 1)]), (0, [(11, 1)]), (0, [(12, 1)]), (0, [(13, 1)]), (4, []), (0, [(6, 1)]), (1, [(0, 1)]), (0, [(7, 1)])])])])
theorem lk_876 : l_core lm_876 := by
  first
  | skip
    intro v x h
    have G0 := h.2.2.1
    have G1 := G0.2
    have K := k_ageEY (V := v) (h := x 0) (i := x 1) (x := x 2) (z := x 3) (v := x 4) (w := x 5) (n := x 6) (H := x 7) (p := x 8) (y := x 9) (d := x 10) (q := x 11) (b := x 12) (s := x 13) (l_c13 (fun w0 w1 w2 w3 w4 w5 w6 w7 w8 w9 w10 w11 w12 : Int => q_sax v 0 w0 w1 w2 w3 w4 w5 w6 w7 w8 w9 w0 w9 w10 w11 w12) (l_e1 x 7) (l_e1 x 8) (l_e1 x 9) (l_e1 x 10) (l_e1 x 11) (l_e1 x 12) (l_e1 x 13) (l_e0 x (4)) (l_e1 x 6) (l_e1 x 0) (l_e1 x 1) (l_e1 x 2) (l_e1 x 3) (h.2.2.2.1)) (l_c10 (fun w0 w1 w2 w3 w4 w5 w6 w7 w8 w9 : Int => q_qry v w0 w1 w2 w3 w4 w5 w6 w7 w6 w8 w9) (l_e0 x (20)) (l_e1 x 11) (l_e1 x 12) (l_e1 x 13) (l_e0 x (4)) (l_e1 x 6) (l_e1 x 0) (l_e1 x 7) (l_e0 x (0)) (l_e1 x 4) (h.2.2.2.2.1)) (l_c10 (fun w0 w1 w2 w3 w4 w5 w6 w7 w8 w9 : Int => q_qry v w0 w1 w2 w3 w4 w5 w6 w7 w6 w8 w9) (l_e0 x (21)) (l_e1 x 11) (l_e1 x 12) (l_e1 x 13) (l_e0 x (4)) (l_e1 x 6) (l_e1 x 0) (l_e1 x 7) (l_e0 x (0)) (l_e1 x 5) (h.2.2.2.2.2.1)) (l_c10 (fun w0 w1 w2 w3 w4 w5 w6 w7 w8 w9 : Int => q_qry v w0 w1 w2 w3 w4 w5 w6 w7 w6 w8 w9) (l_e0 x (6)) (l_e1 x 11) (l_e1 x 12) (l_e1 x 13) (l_e0 x (4)) (l_e1 x 6) (l_e1 x 0) (l_e1 x 7) (l_e0 x (0)) (l_e1 x 1) (h.2.2.2.2.2.2.1)) (l_cc (l_e1 x 1) (h.2.1.1)) (l_cc (l_q1 5 x 1) (h.2.1.2.1)) (l_cc (l_e1 x 0) (h.2.1.2.2.1)) (l_cc (l_q6 1 x 0 7) (h.2.1.2.2.2.1)) (l_cc (l_q1 6 x 7) (h.2.1.2.2.2.2.1)) (l_cc (l_q6 1 x 1 8) (h.2.1.2.2.2.2.2.1)) (l_cc (l_q1 6 x 8) (h.2.1.2.2.2.2.2.2.1)) (l_ff (f := v 27) (L := j_len 27) (l_e1 x 0) (l_e1 x 4) (G0.1.1)) (l_ff (f := v 31) (L := j_len 31) (l_e1 x 1) (l_e1 x 5) (G1.1.1))
    refine l_outH rfl (And.intro h.1 ?_)
    exact l_o10 (fun w0 w1 w2 w3 w4 w5 w6 w7 w8 w9 : Int => (True) ∧ (q_sto v 0 w0 w1 w2 w3 w4 w5 w6 w7 w8 w9 w0 ∧ True)) (l_e1 x 7) (l_e1 x 8) (l_e1 x 9) (l_e1 x 10) (l_e1 x 11) (l_e1 x 12) (l_e1 x 13) (l_e0 x (4)) (l_e1 x 6) (l_q3 1 x 0) K
  | skip
    intro v x h
    have G0 := h.2.2.1
    have G1 := G0.2
    have C0 : (0 : Int) ≤ x 1 := l_cc (a := y_ev x (0, [(1, 1)])) (l_e1 _ _) (h.2.1.1)
    have C1 : (0 : Int) ≤ 5 - x 1 := l_cc (a := y_ev x (5, [(1, (-1))])) (by show ((5) : Int) + ((-1) * x 1 + 0) = 5 - x 1; omega) (h.2.1.2.1)
    have C2 : (0 : Int) ≤ x 0 := l_cc (a := y_ev x (0, [(0, 1)])) (l_e1 _ _) (h.2.1.2.2.1)
    have C3 : (0 : Int) ≤ x 7 - x 0 - 1 := l_cc (a := y_ev x ((-1), [(0, (-1)), (7, 1)])) (by show ((-1) : Int) + ((-1) * x 0 + ((1) * x 7 + 0)) = x 7 - x 0 - 1; omega) (h.2.1.2.2.2.1)
    have C4 : (0 : Int) ≤ 6 - x 7 := l_cc (a := y_ev x (6, [(7, (-1))])) (by show ((6) : Int) + ((-1) * x 7 + 0) = 6 - x 7; omega) (h.2.1.2.2.2.2.1)
    have C5 : (0 : Int) ≤ x 8 - x 1 - 1 := l_cc (a := y_ev x ((-1), [(1, (-1)), (8, 1)])) (by show ((-1) : Int) + ((-1) * x 1 + ((1) * x 8 + 0)) = x 8 - x 1 - 1; omega) (h.2.1.2.2.2.2.2.1)
    have C6 : (0 : Int) ≤ 6 - x 8 := l_cc (a := y_ev x (6, [(8, (-1))])) (by show ((6) : Int) + ((-1) * x 8 + 0) = 6 - x 8; omega) (h.2.1.2.2.2.2.2.2.1)
    have F0 : (0 : Int) ≤ x 0 ∧ (x 0 : Int) < j_len 27 ∧ v 27 (x 0) = x 4 := l_ff (f := v 27) (L := j_len 27) (a := y_ev x (0, [(0, 1)])) (b := y_ev x (0, [(4, 1)])) (l_e1 _ _) (l_e1 _ _) (G0.1.1)
    have F1 : (0 : Int) ≤ x 1 ∧ (x 1 : Int) < j_len 31 ∧ v 31 (x 1) = x 5 := l_ff (f := v 31) (L := j_len 31) (a := y_ev x (0, [(1, 1)])) (b := y_ev x (0, [(5, 1)])) (l_e1 _ _) (l_e1 _ _) (G1.1.1)
    have E0 : y_ev x (0, [(7, 1)]) = x 7 := (l_e1 _ _)
    have E1 : y_ev x (0, [(8, 1)]) = x 8 := (l_e1 _ _)
    have E2 : y_ev x (0, [(9, 1)]) = x 9 := (l_e1 _ _)
    have E3 : y_ev x (0, [(10, 1)]) = x 10 := (l_e1 _ _)
    have E4 : y_ev x (0, [(11, 1)]) = x 11 := (l_e1 _ _)
    have E5 : y_ev x (0, [(12, 1)]) = x 12 := (l_e1 _ _)
    have E6 : y_ev x (0, [(13, 1)]) = x 13 := (l_e1 _ _)
    have E7 : y_ev x (4, []) = 4 := (l_e0 _ _)
    have E8 : y_ev x (0, [(6, 1)]) = x 6 := (l_e1 _ _)
    have E9 : y_ev x (0, [(0, 1)]) = x 0 := (l_e1 _ _)
    have E10 : y_ev x (0, [(1, 1)]) = x 1 := (l_e1 _ _)
    have E11 : y_ev x (0, [(2, 1)]) = x 2 := (l_e1 _ _)
    have E12 : y_ev x (0, [(3, 1)]) = x 3 := (l_e1 _ _)
    have E13 : y_ev x (20, []) = 20 := (l_e0 _ _)
    have E14 : y_ev x (0, []) = 0 := (l_e0 _ _)
    have E15 : y_ev x (0, [(4, 1)]) = x 4 := (l_e1 _ _)
    have E16 : y_ev x (21, []) = 21 := (l_e0 _ _)
    have E17 : y_ev x (0, [(5, 1)]) = x 5 := (l_e1 _ _)
    have E18 : y_ev x (6, []) = 6 := (l_e0 _ _)
    have T0 : q_sax v 0 (y_ev x (0, [(7, 1)])) (y_ev x (0, [(8, 1)])) (y_ev x (0, [(9, 1)])) (y_ev x (0, [(10, 1)])) (y_ev x (0, [(11, 1)])) (y_ev x (0, [(12, 1)])) (y_ev x (0, [(13, 1)])) (y_ev x (4, [])) (y_ev x (0, [(6, 1)])) (y_ev x (0, [(0, 1)])) (y_ev x (0, [(7, 1)])) (y_ev x (0, [(0, 1)])) (y_ev x (0, [(1, 1)])) (y_ev x (0, [(2, 1)])) (y_ev x (0, [(3, 1)])) := h.2.2.2.1
    (try rw [E0] at T0); (try rw [E1] at T0); (try rw [E2] at T0); (try rw [E3] at T0); (try rw [E4] at T0); (try rw [E5] at T0); (try rw [E6] at T0); (try rw [E7] at T0); (try rw [E8] at T0); (try rw [E9] at T0); (try rw [E10] at T0); (try rw [E11] at T0); (try rw [E12] at T0)
    have T1 : q_qry v (y_ev x (20, [])) (y_ev x (0, [(11, 1)])) (y_ev x (0, [(12, 1)])) (y_ev x (0, [(13, 1)])) (y_ev x (4, [])) (y_ev x (0, [(6, 1)])) (y_ev x (0, [(0, 1)])) (y_ev x (0, [(7, 1)])) (y_ev x (0, [(0, 1)])) (y_ev x (0, [])) (y_ev x (0, [(4, 1)])) := h.2.2.2.2.1
    (try rw [E13] at T1); (try rw [E4] at T1); (try rw [E5] at T1); (try rw [E6] at T1); (try rw [E7] at T1); (try rw [E8] at T1); (try rw [E9] at T1); (try rw [E0] at T1); (try rw [E14] at T1); (try rw [E15] at T1)
    have T2 : q_qry v (y_ev x (21, [])) (y_ev x (0, [(11, 1)])) (y_ev x (0, [(12, 1)])) (y_ev x (0, [(13, 1)])) (y_ev x (4, [])) (y_ev x (0, [(6, 1)])) (y_ev x (0, [(0, 1)])) (y_ev x (0, [(7, 1)])) (y_ev x (0, [(0, 1)])) (y_ev x (0, [])) (y_ev x (0, [(5, 1)])) := h.2.2.2.2.2.1
    (try rw [E16] at T2); (try rw [E4] at T2); (try rw [E5] at T2); (try rw [E6] at T2); (try rw [E7] at T2); (try rw [E8] at T2); (try rw [E9] at T2); (try rw [E0] at T2); (try rw [E14] at T2); (try rw [E17] at T2)
    have T3 : q_qry v (y_ev x (6, [])) (y_ev x (0, [(11, 1)])) (y_ev x (0, [(12, 1)])) (y_ev x (0, [(13, 1)])) (y_ev x (4, [])) (y_ev x (0, [(6, 1)])) (y_ev x (0, [(0, 1)])) (y_ev x (0, [(7, 1)])) (y_ev x (0, [(0, 1)])) (y_ev x (0, [])) (y_ev x (0, [(1, 1)])) := h.2.2.2.2.2.2.1
    (try rw [E18] at T3); (try rw [E4] at T3); (try rw [E5] at T3); (try rw [E6] at T3); (try rw [E7] at T3); (try rw [E8] at T3); (try rw [E9] at T3); (try rw [E0] at T3); (try rw [E14] at T3); (try rw [E10] at T3)
    have K := k_ageEY (V := v) (h := x 0) (i := x 1) (x := x 2) (z := x 3) (v := x 4) (w := x 5) (n := x 6) (H := x 7) (p := x 8) (y := x 9) (d := x 10) (q := x 11) (b := x 12) (s := x 13) T0 T1 T2 T3 C0 C1 C2 C3 C4 C5 C6 F0 F1
    refine l_outH rfl (And.intro h.1 ?_)
    have O0 : y_ev x (0, [(7, 1)]) = x 7 := l_e1 _ _
    have O1 : y_ev x (0, [(8, 1)]) = x 8 := l_e1 _ _
    have O2 : y_ev x (0, [(9, 1)]) = x 9 := l_e1 _ _
    have O3 : y_ev x (0, [(10, 1)]) = x 10 := l_e1 _ _
    have O4 : y_ev x (0, [(11, 1)]) = x 11 := l_e1 _ _
    have O5 : y_ev x (0, [(12, 1)]) = x 12 := l_e1 _ _
    have O6 : y_ev x (0, [(13, 1)]) = x 13 := l_e1 _ _
    have O7 : y_ev x (4, []) = 4 := l_e0 _ _
    have O8 : y_ev x (0, [(6, 1)]) = x 6 := l_e1 _ _
    have O9 : y_ev x (1, [(0, 1)]) = x 0 + 1 := by show ((1) : Int) + ((1) * x 0 + 0) = _; omega
    show (True) ∧ (q_sto v 0 (y_ev x (0, [(7, 1)])) (y_ev x (0, [(8, 1)])) (y_ev x (0, [(9, 1)])) (y_ev x (0, [(10, 1)])) (y_ev x (0, [(11, 1)])) (y_ev x (0, [(12, 1)])) (y_ev x (0, [(13, 1)])) (y_ev x (4, [])) (y_ev x (0, [(6, 1)])) (y_ev x (1, [(0, 1)])) (y_ev x (0, [(7, 1)])) ∧ True)
    (try rw [O0]); (try rw [O1]); (try rw [O2]); (try rw [O3]); (try rw [O4]); (try rw [O5]); (try rw [O6]); (try rw [O7]); (try rw [O8]); (try rw [O9])
    exact K
def lm_877pg_0 (t : List zTg) : List zTg := (257, [(0, [(4, 1)]), (0, [(5, 1)]), (0, [(6, 1)]), (0, [(7, 1)]), (0, [(8, 1)]), (0, [(9, 1)]), (0, [(10, 1)]), (4, []), (0, [(3, 1)]), (0, [(0, 1)]), (0, [(4, 1)]), (0, [(0, 1)]), ((-1), []), (0, [(1, 1)]), (0, [])]) :: (238, [(20, []), (0, [(8, 1)]), (0, [(9, 1)]), (0, [(10, 1)]), (4, []), (0, [(3, 1)]), (0, [(0, 1)]), (0, [(4, 1)]), (0, [(0, 1)]), (0, []), (0, [(2, 1)])]) :: (238, [(6, []), (0, [(8, 1)]), (0, [(9, 1)]), (0, [(10, 1)]), (4, []), (0, [(3, 1)]), (0, [(0, 1)]), (0, [(4, 1)]), (0, [(0, 1)]), (0, []), ((-1), [])]) :: t
def lm_877p : zS := ((lm_416pi_0 (lm_416pi_1 [])), [(27, false)], [(0, [(0, 1)]), ((-1), [(0, (-1)), (4, 1)]), (6, [(4, (-1))]), (0, [(5, 1)]), (6, [(5, (-1))])], [], [(0, 0, 0, [(0, 1)])], [(0, (true, 0, 0, [(0, 1)]), 0, 0, 0, [(2, 1)])], (lm_877pg_0 []))
def lm_877 : zLem := (lm_877p, [([((-2147483648), 2147483647), ((-2147483648), 2147483647), ((-2147483648), 2147483647), ((-2147483648), 2147483647), ((-2147483648), 2147483647), ((-2147483648), 2147483647), ((-2147483648), 2147483647), ((-2147483648), 2147483647), ((-2147483648), 2147483647), ((-2147483648), 2147483647), ((-2147483648), 2147483647)], [(27, false)], [], [], [], [], [(235, [(0, [(4, 1)]), (0, [(5, 1)]), (0, [(6, 1)]), (0, [(7, 1)]), (0, [(8, 1)]), (0, [(9, 1)]), (0, [(10, 1)]), (4, []), (0, [(3, 1)]), (1, [(0, 1)]), (0, [(4, 1)])])])])
theorem lk_877 : l_core lm_877 := by
  first
  | skip
    intro v x h
    have G0 := h.2.2.1
    have K := k_ageEN (V := v) (h := x 0) (x := x 1) (v := x 2) (n := x 3) (H := x 4) (p := x 5) (y := x 6) (d := x 7) (q := x 8) (b := x 9) (s := x 10) (l_c13 (fun w0 w1 w2 w3 w4 w5 w6 w7 w8 w9 w10 w11 w12 : Int => q_sax v 0 w0 w1 w2 w3 w4 w5 w6 w7 w8 w9 w0 w9 w10 w11 w12) (l_e1 x 4) (l_e1 x 5) (l_e1 x 6) (l_e1 x 7) (l_e1 x 8) (l_e1 x 9) (l_e1 x 10) (l_e0 x (4)) (l_e1 x 3) (l_e1 x 0) (l_e0 x (-1)) (l_e1 x 1) (l_e0 x (0)) (h.2.2.2.1)) (l_c10 (fun w0 w1 w2 w3 w4 w5 w6 w7 w8 w9 : Int => q_qry v w0 w1 w2 w3 w4 w5 w6 w7 w6 w8 w9) (l_e0 x (20)) (l_e1 x 8) (l_e1 x 9) (l_e1 x 10) (l_e0 x (4)) (l_e1 x 3) (l_e1 x 0) (l_e1 x 4) (l_e0 x (0)) (l_e1 x 2) (h.2.2.2.2.1)) (l_c10 (fun w0 w1 w2 w3 w4 w5 w6 w7 w8 w9 : Int => q_qry v w0 w1 w2 w3 w4 w5 w6 w7 w6 w8 w9) (l_e0 x (6)) (l_e1 x 8) (l_e1 x 9) (l_e1 x 10) (l_e0 x (4)) (l_e1 x 3) (l_e1 x 0) (l_e1 x 4) (l_e0 x (0)) (l_e0 x (-1)) (h.2.2.2.2.2.1)) (l_cc (l_e1 x 0) (h.2.1.1)) (l_cc (l_q6 1 x 0 4) (h.2.1.2.1)) (l_cc (l_q1 6 x 4) (h.2.1.2.2.1)) (l_cc (l_e1 x 5) (h.2.1.2.2.2.1)) (l_cc (l_q1 6 x 5) (h.2.1.2.2.2.2.1)) (l_ff (f := v 27) (L := j_len 27) (l_e1 x 0) (l_e1 x 2) (G0.1.1))
    refine l_outH rfl (And.intro h.1 ?_)
    exact l_o10 (fun w0 w1 w2 w3 w4 w5 w6 w7 w8 w9 : Int => (True) ∧ (q_sto v 0 w0 w1 w2 w3 w4 w5 w6 w7 w8 w9 w0 ∧ True)) (l_e1 x 4) (l_e1 x 5) (l_e1 x 6) (l_e1 x 7) (l_e1 x 8) (l_e1 x 9) (l_e1 x 10) (l_e0 x (4)) (l_e1 x 3) (l_q3 1 x 0) K
  | skip
    intro v x h
    have G0 := h.2.2.1
    have C0 : (0 : Int) ≤ x 0 := l_cc (a := y_ev x (0, [(0, 1)])) (l_e1 _ _) (h.2.1.1)
    have C1 : (0 : Int) ≤ x 4 - x 0 - 1 := l_cc (a := y_ev x ((-1), [(0, (-1)), (4, 1)])) (by show ((-1) : Int) + ((-1) * x 0 + ((1) * x 4 + 0)) = x 4 - x 0 - 1; omega) (h.2.1.2.1)
    have C2 : (0 : Int) ≤ 6 - x 4 := l_cc (a := y_ev x (6, [(4, (-1))])) (by show ((6) : Int) + ((-1) * x 4 + 0) = 6 - x 4; omega) (h.2.1.2.2.1)
    have C3 : (0 : Int) ≤ x 5 := l_cc (a := y_ev x (0, [(5, 1)])) (l_e1 _ _) (h.2.1.2.2.2.1)
    have C4 : (0 : Int) ≤ 6 - x 5 := l_cc (a := y_ev x (6, [(5, (-1))])) (by show ((6) : Int) + ((-1) * x 5 + 0) = 6 - x 5; omega) (h.2.1.2.2.2.2.1)
    have F0 : (0 : Int) ≤ x 0 ∧ (x 0 : Int) < j_len 27 ∧ v 27 (x 0) = x 2 := l_ff (f := v 27) (L := j_len 27) (a := y_ev x (0, [(0, 1)])) (b := y_ev x (0, [(2, 1)])) (l_e1 _ _) (l_e1 _ _) (G0.1.1)
    have E0 : y_ev x (0, [(4, 1)]) = x 4 := (l_e1 _ _)
    have E1 : y_ev x (0, [(5, 1)]) = x 5 := (l_e1 _ _)
    have E2 : y_ev x (0, [(6, 1)]) = x 6 := (l_e1 _ _)
    have E3 : y_ev x (0, [(7, 1)]) = x 7 := (l_e1 _ _)
    have E4 : y_ev x (0, [(8, 1)]) = x 8 := (l_e1 _ _)
    have E5 : y_ev x (0, [(9, 1)]) = x 9 := (l_e1 _ _)
    have E6 : y_ev x (0, [(10, 1)]) = x 10 := (l_e1 _ _)
    have E7 : y_ev x (4, []) = 4 := (l_e0 _ _)
    have E8 : y_ev x (0, [(3, 1)]) = x 3 := (l_e1 _ _)
    have E9 : y_ev x (0, [(0, 1)]) = x 0 := (l_e1 _ _)
    have E10 : y_ev x ((-1), []) = (-1) := (l_e0 _ _)
    have E11 : y_ev x (0, [(1, 1)]) = x 1 := (l_e1 _ _)
    have E12 : y_ev x (0, []) = 0 := (l_e0 _ _)
    have E13 : y_ev x (20, []) = 20 := (l_e0 _ _)
    have E14 : y_ev x (0, [(2, 1)]) = x 2 := (l_e1 _ _)
    have E15 : y_ev x (6, []) = 6 := (l_e0 _ _)
    have T0 : q_sax v 0 (y_ev x (0, [(4, 1)])) (y_ev x (0, [(5, 1)])) (y_ev x (0, [(6, 1)])) (y_ev x (0, [(7, 1)])) (y_ev x (0, [(8, 1)])) (y_ev x (0, [(9, 1)])) (y_ev x (0, [(10, 1)])) (y_ev x (4, [])) (y_ev x (0, [(3, 1)])) (y_ev x (0, [(0, 1)])) (y_ev x (0, [(4, 1)])) (y_ev x (0, [(0, 1)])) (y_ev x ((-1), [])) (y_ev x (0, [(1, 1)])) (y_ev x (0, [])) := h.2.2.2.1
    (try rw [E0] at T0); (try rw [E1] at T0); (try rw [E2] at T0); (try rw [E3] at T0); (try rw [E4] at T0); (try rw [E5] at T0); (try rw [E6] at T0); (try rw [E7] at T0); (try rw [E8] at T0); (try rw [E9] at T0); (try rw [E10] at T0); (try rw [E11] at T0); (try rw [E12] at T0)
    have T1 : q_qry v (y_ev x (20, [])) (y_ev x (0, [(8, 1)])) (y_ev x (0, [(9, 1)])) (y_ev x (0, [(10, 1)])) (y_ev x (4, [])) (y_ev x (0, [(3, 1)])) (y_ev x (0, [(0, 1)])) (y_ev x (0, [(4, 1)])) (y_ev x (0, [(0, 1)])) (y_ev x (0, [])) (y_ev x (0, [(2, 1)])) := h.2.2.2.2.1
    (try rw [E13] at T1); (try rw [E4] at T1); (try rw [E5] at T1); (try rw [E6] at T1); (try rw [E7] at T1); (try rw [E8] at T1); (try rw [E9] at T1); (try rw [E0] at T1); (try rw [E12] at T1); (try rw [E14] at T1)
    have T2 : q_qry v (y_ev x (6, [])) (y_ev x (0, [(8, 1)])) (y_ev x (0, [(9, 1)])) (y_ev x (0, [(10, 1)])) (y_ev x (4, [])) (y_ev x (0, [(3, 1)])) (y_ev x (0, [(0, 1)])) (y_ev x (0, [(4, 1)])) (y_ev x (0, [(0, 1)])) (y_ev x (0, [])) (y_ev x ((-1), [])) := h.2.2.2.2.2.1
    (try rw [E15] at T2); (try rw [E4] at T2); (try rw [E5] at T2); (try rw [E6] at T2); (try rw [E7] at T2); (try rw [E8] at T2); (try rw [E9] at T2); (try rw [E0] at T2); (try rw [E12] at T2); (try rw [E10] at T2)
    have K := k_ageEN (V := v) (h := x 0) (x := x 1) (v := x 2) (n := x 3) (H := x 4) (p := x 5) (y := x 6) (d := x 7) (q := x 8) (b := x 9) (s := x 10) T0 T1 T2 C0 C1 C2 C3 C4 F0
    refine l_outH rfl (And.intro h.1 ?_)
    have O0 : y_ev x (0, [(4, 1)]) = x 4 := l_e1 _ _
    have O1 : y_ev x (0, [(5, 1)]) = x 5 := l_e1 _ _
    have O2 : y_ev x (0, [(6, 1)]) = x 6 := l_e1 _ _
    have O3 : y_ev x (0, [(7, 1)]) = x 7 := l_e1 _ _
    have O4 : y_ev x (0, [(8, 1)]) = x 8 := l_e1 _ _
    have O5 : y_ev x (0, [(9, 1)]) = x 9 := l_e1 _ _
    have O6 : y_ev x (0, [(10, 1)]) = x 10 := l_e1 _ _
    have O7 : y_ev x (4, []) = 4 := l_e0 _ _
    have O8 : y_ev x (0, [(3, 1)]) = x 3 := l_e1 _ _
    have O9 : y_ev x (1, [(0, 1)]) = x 0 + 1 := by show ((1) : Int) + ((1) * x 0 + 0) = _; omega
    show (True) ∧ (q_sto v 0 (y_ev x (0, [(4, 1)])) (y_ev x (0, [(5, 1)])) (y_ev x (0, [(6, 1)])) (y_ev x (0, [(7, 1)])) (y_ev x (0, [(8, 1)])) (y_ev x (0, [(9, 1)])) (y_ev x (0, [(10, 1)])) (y_ev x (4, [])) (y_ev x (0, [(3, 1)])) (y_ev x (1, [(0, 1)])) (y_ev x (0, [(4, 1)])) ∧ True)
    (try rw [O0]); (try rw [O1]); (try rw [O2]); (try rw [O3]); (try rw [O4]); (try rw [O5]); (try rw [O6]); (try rw [O7]); (try rw [O8]); (try rw [O9])
    exact K
def lm_878pg_0 (t : List zTg) : List zTg := (257, [(0, [(7, 1)]), (0, [(8, 1)]), (0, [(9, 1)]), (0, [(10, 1)]), (0, [(11, 1)]), (0, [(12, 1)]), (0, [(13, 1)]), (5, []), (0, [(6, 1)]), (0, [(0, 1)]), (0, []), (0, [(0, 1)]), (0, [(1, 1)]), (0, [(2, 1)]), (0, [(3, 1)])]) :: (238, [(20, []), (0, [(11, 1)]), (0, [(12, 1)]), (0, [(13, 1)]), (5, []), (0, [(6, 1)]), (0, [(0, 1)]), (0, []), (0, [(0, 1)]), (0, []), (0, [(4, 1)])]) :: (238, [(21, []), (0, [(11, 1)]), (0, [(12, 1)]), (0, [(13, 1)]), (5, []), (0, [(6, 1)]), (0, [(0, 1)]), (0, []), (0, [(0, 1)]), (0, []), (0, [(5, 1)])]) :: (238, [(6, []), (0, [(11, 1)]), (0, [(12, 1)]), (0, [(13, 1)]), (5, []), (0, [(6, 1)]), (0, [(0, 1)]), (0, []), (0, [(0, 1)]), (0, []), (0, [(1, 1)])]) :: t
def lm_878p : zS := ((lm_716pi_0 (lm_716pi_1 [])), [(27, false), (31, false)], [(0, [(1, 1)]), (5, [(1, (-1))]), (0, [(0, 1)]), ((-1), [(0, (-1)), (7, 1)]), (6, [(7, (-1))]), ((-1), [(1, (-1)), (8, 1)]), (6, [(8, (-1))])], [], [(0, 0, 0, [(0, 1)]), (0, 0, 0, [(1, 1)])], [(0, (true, 0, 0, [(0, 1)]), 0, 0, 0, [(4, 1)]), (1, (true, 0, 0, [(1, 1)]), 0, 0, 0, [(5, 1)])], (lm_878pg_0 []))
def lm_878 : zLem := (lm_878p, [([((-2147483648), 2147483647), ((-2147483648), 2147483647), ((-2147483648), 2147483647), ((-2147483648), 2147483647), ((-2147483648), 2147483647), ((-2147483648), 2147483647), ((-2147483648), 2147483647), ((-2147483648), 2147483647), ((-2147483648), 2147483647), ((-2147483648), 2147483647), ((-2147483648), 2147483647), ((-2147483648), 2147483647), ((-2147483648), 2147483647), ((-2147483648), 2147483647)], [(27, false), (31, false)], [], [], [], [], [(235, [(0, [(7, 1)]), (0, [(8, 1)]), (0, [(9, 1)]), (0, [(10, 1)]), (0, [(11, 1)]), (0, [(12, 1)]), (0, [(13, 1)]), (5, []), (0, [(6, 1)]), (0, [(0, 1)]), (1, [])])])])
theorem lk_878 : l_core lm_878 := by
  first
  | skip
    intro v x h
    have G0 := h.2.2.1
    have G1 := G0.2
    have K := k_ageSY (V := v) (h := x 0) (i := x 1) (x := x 2) (z := x 3) (v := x 4) (w := x 5) (n := x 6) (H := x 7) (p := x 8) (y := x 9) (d := x 10) (q := x 11) (b := x 12) (s := x 13) (l_c14 (fun w0 w1 w2 w3 w4 w5 w6 w7 w8 w9 w10 w11 w12 w13 : Int => q_sax v 0 w0 w1 w2 w3 w4 w5 w6 w7 w8 w9 w10 w9 w11 w12 w13) (l_e1 x 7) (l_e1 x 8) (l_e1 x 9) (l_e1 x 10) (l_e1 x 11) (l_e1 x 12) (l_e1 x 13) (l_e0 x (5)) (l_e1 x 6) (l_e1 x 0) (l_e0 x (0)) (l_e1 x 1) (l_e1 x 2) (l_e1 x 3) (h.2.2.2.1)) (l_c9 (fun w0 w1 w2 w3 w4 w5 w6 w7 w8 : Int => q_qry v w0 w1 w2 w3 w4 w5 w6 w7 w6 w7 w8) (l_e0 x (20)) (l_e1 x 11) (l_e1 x 12) (l_e1 x 13) (l_e0 x (5)) (l_e1 x 6) (l_e1 x 0) (l_e0 x (0)) (l_e1 x 4) (h.2.2.2.2.1)) (l_c9 (fun w0 w1 w2 w3 w4 w5 w6 w7 w8 : Int => q_qry v w0 w1 w2 w3 w4 w5 w6 w7 w6 w7 w8) (l_e0 x (21)) (l_e1 x 11) (l_e1 x 12) (l_e1 x 13) (l_e0 x (5)) (l_e1 x 6) (l_e1 x 0) (l_e0 x (0)) (l_e1 x 5) (h.2.2.2.2.2.1)) (l_c9 (fun w0 w1 w2 w3 w4 w5 w6 w7 w8 : Int => q_qry v w0 w1 w2 w3 w4 w5 w6 w7 w6 w7 w8) (l_e0 x (6)) (l_e1 x 11) (l_e1 x 12) (l_e1 x 13) (l_e0 x (5)) (l_e1 x 6) (l_e1 x 0) (l_e0 x (0)) (l_e1 x 1) (h.2.2.2.2.2.2.1)) (l_cc (l_e1 x 1) (h.2.1.1)) (l_cc (l_q1 5 x 1) (h.2.1.2.1)) (l_cc (l_e1 x 0) (h.2.1.2.2.1)) (l_cc (l_q6 1 x 0 7) (h.2.1.2.2.2.1)) (l_cc (l_q1 6 x 7) (h.2.1.2.2.2.2.1)) (l_cc (l_q6 1 x 1 8) (h.2.1.2.2.2.2.2.1)) (l_cc (l_q1 6 x 8) (h.2.1.2.2.2.2.2.2.1)) (l_ff (f := v 27) (L := j_len 27) (l_e1 x 0) (l_e1 x 4) (G0.1.1)) (l_ff (f := v 31) (L := j_len 31) (l_e1 x 1) (l_e1 x 5) (G1.1.1))
    refine l_outH rfl (And.intro h.1 ?_)
    exact l_o11 (fun w0 w1 w2 w3 w4 w5 w6 w7 w8 w9 w10 : Int => (True) ∧ (q_sto v 0 w0 w1 w2 w3 w4 w5 w6 w7 w8 w9 w10 ∧ True)) (l_e1 x 7) (l_e1 x 8) (l_e1 x 9) (l_e1 x 10) (l_e1 x 11) (l_e1 x 12) (l_e1 x 13) (l_e0 x (5)) (l_e1 x 6) (l_e1 x 0) (l_e0 x (1)) K
  | skip
    intro v x h
    have G0 := h.2.2.1
    have G1 := G0.2
    have C0 : (0 : Int) ≤ x 1 := l_cc (a := y_ev x (0, [(1, 1)])) (l_e1 _ _) (h.2.1.1)
    have C1 : (0 : Int) ≤ 5 - x 1 := l_cc (a := y_ev x (5, [(1, (-1))])) (by show ((5) : Int) + ((-1) * x 1 + 0) = 5 - x 1; omega) (h.2.1.2.1)
    have C2 : (0 : Int) ≤ x 0 := l_cc (a := y_ev x (0, [(0, 1)])) (l_e1 _ _) (h.2.1.2.2.1)
    have C3 : (0 : Int) ≤ x 7 - x 0 - 1 := l_cc (a := y_ev x ((-1), [(0, (-1)), (7, 1)])) (by show ((-1) : Int) + ((-1) * x 0 + ((1) * x 7 + 0)) = x 7 - x 0 - 1; omega) (h.2.1.2.2.2.1)
    have C4 : (0 : Int) ≤ 6 - x 7 := l_cc (a := y_ev x (6, [(7, (-1))])) (by show ((6) : Int) + ((-1) * x 7 + 0) = 6 - x 7; omega) (h.2.1.2.2.2.2.1)
    have C5 : (0 : Int) ≤ x 8 - x 1 - 1 := l_cc (a := y_ev x ((-1), [(1, (-1)), (8, 1)])) (by show ((-1) : Int) + ((-1) * x 1 + ((1) * x 8 + 0)) = x 8 - x 1 - 1; omega) (h.2.1.2.2.2.2.2.1)
    have C6 : (0 : Int) ≤ 6 - x 8 := l_cc (a := y_ev x (6, [(8, (-1))])) (by show ((6) : Int) + ((-1) * x 8 + 0) = 6 - x 8; omega) (h.2.1.2.2.2.2.2.2.1)
    have F0 : (0 : Int) ≤ x 0 ∧ (x 0 : Int) < j_len 27 ∧ v 27 (x 0) = x 4 := l_ff (f := v 27) (L := j_len 27) (a := y_ev x (0, [(0, 1)])) (b := y_ev x (0, [(4, 1)])) (l_e1 _ _) (l_e1 _ _) (G0.1.1)
    have F1 : (0 : Int) ≤ x 1 ∧ (x 1 : Int) < j_len 31 ∧ v 31 (x 1) = x 5 := l_ff (f := v 31) (L := j_len 31) (a := y_ev x (0, [(1, 1)])) (b := y_ev x (0, [(5, 1)])) (l_e1 _ _) (l_e1 _ _) (G1.1.1)
    have E0 : y_ev x (0, [(7, 1)]) = x 7 := (l_e1 _ _)
    have E1 : y_ev x (0, [(8, 1)]) = x 8 := (l_e1 _ _)
    have E2 : y_ev x (0, [(9, 1)]) = x 9 := (l_e1 _ _)
    have E3 : y_ev x (0, [(10, 1)]) = x 10 := (l_e1 _ _)
    have E4 : y_ev x (0, [(11, 1)]) = x 11 := (l_e1 _ _)
    have E5 : y_ev x (0, [(12, 1)]) = x 12 := (l_e1 _ _)
    have E6 : y_ev x (0, [(13, 1)]) = x 13 := (l_e1 _ _)
    have E7 : y_ev x (5, []) = 5 := (l_e0 _ _)
    have E8 : y_ev x (0, [(6, 1)]) = x 6 := (l_e1 _ _)
    have E9 : y_ev x (0, [(0, 1)]) = x 0 := (l_e1 _ _)
    have E10 : y_ev x (0, []) = 0 := (l_e0 _ _)
    have E11 : y_ev x (0, [(1, 1)]) = x 1 := (l_e1 _ _)
    have E12 : y_ev x (0, [(2, 1)]) = x 2 := (l_e1 _ _)
    have E13 : y_ev x (0, [(3, 1)]) = x 3 := (l_e1 _ _)
    have E14 : y_ev x (20, []) = 20 := (l_e0 _ _)
    have E15 : y_ev x (0, [(4, 1)]) = x 4 := (l_e1 _ _)
    have E16 : y_ev x (21, []) = 21 := (l_e0 _ _)
    have E17 : y_ev x (0, [(5, 1)]) = x 5 := (l_e1 _ _)
    have E18 : y_ev x (6, []) = 6 := (l_e0 _ _)
    have T0 : q_sax v 0 (y_ev x (0, [(7, 1)])) (y_ev x (0, [(8, 1)])) (y_ev x (0, [(9, 1)])) (y_ev x (0, [(10, 1)])) (y_ev x (0, [(11, 1)])) (y_ev x (0, [(12, 1)])) (y_ev x (0, [(13, 1)])) (y_ev x (5, [])) (y_ev x (0, [(6, 1)])) (y_ev x (0, [(0, 1)])) (y_ev x (0, [])) (y_ev x (0, [(0, 1)])) (y_ev x (0, [(1, 1)])) (y_ev x (0, [(2, 1)])) (y_ev x (0, [(3, 1)])) := h.2.2.2.1
    (try rw [E0] at T0); (try rw [E1] at T0); (try rw [E2] at T0); (try rw [E3] at T0); (try rw [E4] at T0); (try rw [E5] at T0); (try rw [E6] at T0); (try rw [E7] at T0); (try rw [E8] at T0); (try rw [E9] at T0); (try rw [E10] at T0); (try rw [E11] at T0); (try rw [E12] at T0); (try rw [E13] at T0)
    have T1 : q_qry v (y_ev x (20, [])) (y_ev x (0, [(11, 1)])) (y_ev x (0, [(12, 1)])) (y_ev x (0, [(13, 1)])) (y_ev x (5, [])) (y_ev x (0, [(6, 1)])) (y_ev x (0, [(0, 1)])) (y_ev x (0, [])) (y_ev x (0, [(0, 1)])) (y_ev x (0, [])) (y_ev x (0, [(4, 1)])) := h.2.2.2.2.1
    (try rw [E14] at T1); (try rw [E4] at T1); (try rw [E5] at T1); (try rw [E6] at T1); (try rw [E7] at T1); (try rw [E8] at T1); (try rw [E9] at T1); (try rw [E10] at T1); (try rw [E15] at T1)
    have T2 : q_qry v (y_ev x (21, [])) (y_ev x (0, [(11, 1)])) (y_ev x (0, [(12, 1)])) (y_ev x (0, [(13, 1)])) (y_ev x (5, [])) (y_ev x (0, [(6, 1)])) (y_ev x (0, [(0, 1)])) (y_ev x (0, [])) (y_ev x (0, [(0, 1)])) (y_ev x (0, [])) (y_ev x (0, [(5, 1)])) := h.2.2.2.2.2.1
    (try rw [E16] at T2); (try rw [E4] at T2); (try rw [E5] at T2); (try rw [E6] at T2); (try rw [E7] at T2); (try rw [E8] at T2); (try rw [E9] at T2); (try rw [E10] at T2); (try rw [E17] at T2)
    have T3 : q_qry v (y_ev x (6, [])) (y_ev x (0, [(11, 1)])) (y_ev x (0, [(12, 1)])) (y_ev x (0, [(13, 1)])) (y_ev x (5, [])) (y_ev x (0, [(6, 1)])) (y_ev x (0, [(0, 1)])) (y_ev x (0, [])) (y_ev x (0, [(0, 1)])) (y_ev x (0, [])) (y_ev x (0, [(1, 1)])) := h.2.2.2.2.2.2.1
    (try rw [E18] at T3); (try rw [E4] at T3); (try rw [E5] at T3); (try rw [E6] at T3); (try rw [E7] at T3); (try rw [E8] at T3); (try rw [E9] at T3); (try rw [E10] at T3); (try rw [E11] at T3)
    have K := k_ageSY (V := v) (h := x 0) (i := x 1) (x := x 2) (z := x 3) (v := x 4) (w := x 5) (n := x 6) (H := x 7) (p := x 8) (y := x 9) (d := x 10) (q := x 11) (b := x 12) (s := x 13) T0 T1 T2 T3 C0 C1 C2 C3 C4 C5 C6 F0 F1
    refine l_outH rfl (And.intro h.1 ?_)
    have O0 : y_ev x (0, [(7, 1)]) = x 7 := l_e1 _ _
    have O1 : y_ev x (0, [(8, 1)]) = x 8 := l_e1 _ _
    have O2 : y_ev x (0, [(9, 1)]) = x 9 := l_e1 _ _
    have O3 : y_ev x (0, [(10, 1)]) = x 10 := l_e1 _ _
    have O4 : y_ev x (0, [(11, 1)]) = x 11 := l_e1 _ _
    have O5 : y_ev x (0, [(12, 1)]) = x 12 := l_e1 _ _
    have O6 : y_ev x (0, [(13, 1)]) = x 13 := l_e1 _ _
    have O7 : y_ev x (5, []) = 5 := l_e0 _ _
    have O8 : y_ev x (0, [(6, 1)]) = x 6 := l_e1 _ _
    have O9 : y_ev x (0, [(0, 1)]) = x 0 := l_e1 _ _
    have O10 : y_ev x (1, []) = 1 := l_e0 _ _
    show (True) ∧ (q_sto v 0 (y_ev x (0, [(7, 1)])) (y_ev x (0, [(8, 1)])) (y_ev x (0, [(9, 1)])) (y_ev x (0, [(10, 1)])) (y_ev x (0, [(11, 1)])) (y_ev x (0, [(12, 1)])) (y_ev x (0, [(13, 1)])) (y_ev x (5, [])) (y_ev x (0, [(6, 1)])) (y_ev x (0, [(0, 1)])) (y_ev x (1, [])) ∧ True)
    (try rw [O0]); (try rw [O1]); (try rw [O2]); (try rw [O3]); (try rw [O4]); (try rw [O5]); (try rw [O6]); (try rw [O7]); (try rw [O8]); (try rw [O9]); (try rw [O10])
    exact K
def lm_879pg_0 (t : List zTg) : List zTg := (257, [(0, [(4, 1)]), (0, [(5, 1)]), (0, [(6, 1)]), (0, [(7, 1)]), (0, [(8, 1)]), (0, [(9, 1)]), (0, [(10, 1)]), (5, []), (0, [(3, 1)]), (0, [(0, 1)]), (0, []), (0, [(0, 1)]), ((-1), []), (0, [(1, 1)]), (0, [])]) :: (238, [(20, []), (0, [(8, 1)]), (0, [(9, 1)]), (0, [(10, 1)]), (5, []), (0, [(3, 1)]), (0, [(0, 1)]), (0, []), (0, [(0, 1)]), (0, []), (0, [(2, 1)])]) :: (238, [(6, []), (0, [(8, 1)]), (0, [(9, 1)]), (0, [(10, 1)]), (5, []), (0, [(3, 1)]), (0, [(0, 1)]), (0, []), (0, [(0, 1)]), (0, []), ((-1), [])]) :: t
def lm_879p : zS := ((lm_416pi_0 (lm_416pi_1 [])), [(27, false)], [(0, [(0, 1)]), ((-1), [(0, (-1)), (4, 1)]), (6, [(4, (-1))]), (0, [(5, 1)]), (6, [(5, (-1))])], [], [(0, 0, 0, [(0, 1)])], [(0, (true, 0, 0, [(0, 1)]), 0, 0, 0, [(2, 1)])], (lm_879pg_0 []))
def lm_879 : zLem := (lm_879p, [([((-2147483648), 2147483647), ((-2147483648), 2147483647), ((-2147483648), 2147483647), ((-2147483648), 2147483647), ((-2147483648), 2147483647), ((-2147483648), 2147483647), ((-2147483648), 2147483647), ((-2147483648), 2147483647), ((-2147483648), 2147483647), ((-2147483648), 2147483647), ((-2147483648), 2147483647)], [(27, false)], [], [], [], [], [(235, [(0, [(4, 1)]), (0, [(5, 1)]), (0, [(6, 1)]), (0, [(7, 1)]), (0, [(8, 1)]), (0, [(9, 1)]), (0, [(10, 1)]), (5, []), (0, [(3, 1)]), (0, [(0, 1)]), (1, [])])])])
theorem lk_879 : l_core lm_879 := by
  first
  | skip
    intro v x h
    have G0 := h.2.2.1
    have K := k_ageSN (V := v) (h := x 0) (x := x 1) (v := x 2) (n := x 3) (H := x 4) (p := x 5) (y := x 6) (d := x 7) (q := x 8) (b := x 9) (s := x 10) (l_c13 (fun w0 w1 w2 w3 w4 w5 w6 w7 w8 w9 w10 w11 w12 : Int => q_sax v 0 w0 w1 w2 w3 w4 w5 w6 w7 w8 w9 w10 w9 w11 w12 w10) (l_e1 x 4) (l_e1 x 5) (l_e1 x 6) (l_e1 x 7) (l_e1 x 8) (l_e1 x 9) (l_e1 x 10) (l_e0 x (5)) (l_e1 x 3) (l_e1 x 0) (l_e0 x (0)) (l_e0 x (-1)) (l_e1 x 1) (h.2.2.2.1)) (l_c9 (fun w0 w1 w2 w3 w4 w5 w6 w7 w8 : Int => q_qry v w0 w1 w2 w3 w4 w5 w6 w7 w6 w7 w8) (l_e0 x (20)) (l_e1 x 8) (l_e1 x 9) (l_e1 x 10) (l_e0 x (5)) (l_e1 x 3) (l_e1 x 0) (l_e0 x (0)) (l_e1 x 2) (h.2.2.2.2.1)) (l_c9 (fun w0 w1 w2 w3 w4 w5 w6 w7 w8 : Int => q_qry v w0 w1 w2 w3 w4 w5 w6 w7 w6 w7 w8) (l_e0 x (6)) (l_e1 x 8) (l_e1 x 9) (l_e1 x 10) (l_e0 x (5)) (l_e1 x 3) (l_e1 x 0) (l_e0 x (0)) (l_e0 x (-1)) (h.2.2.2.2.2.1)) (l_cc (l_e1 x 0) (h.2.1.1)) (l_cc (l_q6 1 x 0 4) (h.2.1.2.1)) (l_cc (l_q1 6 x 4) (h.2.1.2.2.1)) (l_cc (l_e1 x 5) (h.2.1.2.2.2.1)) (l_cc (l_q1 6 x 5) (h.2.1.2.2.2.2.1)) (l_ff (f := v 27) (L := j_len 27) (l_e1 x 0) (l_e1 x 2) (G0.1.1))
    refine l_outH rfl (And.intro h.1 ?_)
    exact l_o11 (fun w0 w1 w2 w3 w4 w5 w6 w7 w8 w9 w10 : Int => (True) ∧ (q_sto v 0 w0 w1 w2 w3 w4 w5 w6 w7 w8 w9 w10 ∧ True)) (l_e1 x 4) (l_e1 x 5) (l_e1 x 6) (l_e1 x 7) (l_e1 x 8) (l_e1 x 9) (l_e1 x 10) (l_e0 x (5)) (l_e1 x 3) (l_e1 x 0) (l_e0 x (1)) K
  | skip
    intro v x h
    have G0 := h.2.2.1
    have C0 : (0 : Int) ≤ x 0 := l_cc (a := y_ev x (0, [(0, 1)])) (l_e1 _ _) (h.2.1.1)
    have C1 : (0 : Int) ≤ x 4 - x 0 - 1 := l_cc (a := y_ev x ((-1), [(0, (-1)), (4, 1)])) (by show ((-1) : Int) + ((-1) * x 0 + ((1) * x 4 + 0)) = x 4 - x 0 - 1; omega) (h.2.1.2.1)
    have C2 : (0 : Int) ≤ 6 - x 4 := l_cc (a := y_ev x (6, [(4, (-1))])) (by show ((6) : Int) + ((-1) * x 4 + 0) = 6 - x 4; omega) (h.2.1.2.2.1)
    have C3 : (0 : Int) ≤ x 5 := l_cc (a := y_ev x (0, [(5, 1)])) (l_e1 _ _) (h.2.1.2.2.2.1)
    have C4 : (0 : Int) ≤ 6 - x 5 := l_cc (a := y_ev x (6, [(5, (-1))])) (by show ((6) : Int) + ((-1) * x 5 + 0) = 6 - x 5; omega) (h.2.1.2.2.2.2.1)
    have F0 : (0 : Int) ≤ x 0 ∧ (x 0 : Int) < j_len 27 ∧ v 27 (x 0) = x 2 := l_ff (f := v 27) (L := j_len 27) (a := y_ev x (0, [(0, 1)])) (b := y_ev x (0, [(2, 1)])) (l_e1 _ _) (l_e1 _ _) (G0.1.1)
    have E0 : y_ev x (0, [(4, 1)]) = x 4 := (l_e1 _ _)
    have E1 : y_ev x (0, [(5, 1)]) = x 5 := (l_e1 _ _)
    have E2 : y_ev x (0, [(6, 1)]) = x 6 := (l_e1 _ _)
    have E3 : y_ev x (0, [(7, 1)]) = x 7 := (l_e1 _ _)
    have E4 : y_ev x (0, [(8, 1)]) = x 8 := (l_e1 _ _)
    have E5 : y_ev x (0, [(9, 1)]) = x 9 := (l_e1 _ _)
    have E6 : y_ev x (0, [(10, 1)]) = x 10 := (l_e1 _ _)
    have E7 : y_ev x (5, []) = 5 := (l_e0 _ _)
    have E8 : y_ev x (0, [(3, 1)]) = x 3 := (l_e1 _ _)
    have E9 : y_ev x (0, [(0, 1)]) = x 0 := (l_e1 _ _)
    have E10 : y_ev x (0, []) = 0 := (l_e0 _ _)
    have E11 : y_ev x ((-1), []) = (-1) := (l_e0 _ _)
    have E12 : y_ev x (0, [(1, 1)]) = x 1 := (l_e1 _ _)
    have E13 : y_ev x (20, []) = 20 := (l_e0 _ _)
    have E14 : y_ev x (0, [(2, 1)]) = x 2 := (l_e1 _ _)
    have E15 : y_ev x (6, []) = 6 := (l_e0 _ _)
    have T0 : q_sax v 0 (y_ev x (0, [(4, 1)])) (y_ev x (0, [(5, 1)])) (y_ev x (0, [(6, 1)])) (y_ev x (0, [(7, 1)])) (y_ev x (0, [(8, 1)])) (y_ev x (0, [(9, 1)])) (y_ev x (0, [(10, 1)])) (y_ev x (5, [])) (y_ev x (0, [(3, 1)])) (y_ev x (0, [(0, 1)])) (y_ev x (0, [])) (y_ev x (0, [(0, 1)])) (y_ev x ((-1), [])) (y_ev x (0, [(1, 1)])) (y_ev x (0, [])) := h.2.2.2.1
    (try rw [E0] at T0); (try rw [E1] at T0); (try rw [E2] at T0); (try rw [E3] at T0); (try rw [E4] at T0); (try rw [E5] at T0); (try rw [E6] at T0); (try rw [E7] at T0); (try rw [E8] at T0); (try rw [E9] at T0); (try rw [E10] at T0); (try rw [E11] at T0); (try rw [E12] at T0)
    have T1 : q_qry v (y_ev x (20, [])) (y_ev x (0, [(8, 1)])) (y_ev x (0, [(9, 1)])) (y_ev x (0, [(10, 1)])) (y_ev x (5, [])) (y_ev x (0, [(3, 1)])) (y_ev x (0, [(0, 1)])) (y_ev x (0, [])) (y_ev x (0, [(0, 1)])) (y_ev x (0, [])) (y_ev x (0, [(2, 1)])) := h.2.2.2.2.1
    (try rw [E13] at T1); (try rw [E4] at T1); (try rw [E5] at T1); (try rw [E6] at T1); (try rw [E7] at T1); (try rw [E8] at T1); (try rw [E9] at T1); (try rw [E10] at T1); (try rw [E14] at T1)
    have T2 : q_qry v (y_ev x (6, [])) (y_ev x (0, [(8, 1)])) (y_ev x (0, [(9, 1)])) (y_ev x (0, [(10, 1)])) (y_ev x (5, [])) (y_ev x (0, [(3, 1)])) (y_ev x (0, [(0, 1)])) (y_ev x (0, [])) (y_ev x (0, [(0, 1)])) (y_ev x (0, [])) (y_ev x ((-1), [])) := h.2.2.2.2.2.1
    (try rw [E15] at T2); (try rw [E4] at T2); (try rw [E5] at T2); (try rw [E6] at T2); (try rw [E7] at T2); (try rw [E8] at T2); (try rw [E9] at T2); (try rw [E10] at T2); (try rw [E11] at T2)
    have K := k_ageSN (V := v) (h := x 0) (x := x 1) (v := x 2) (n := x 3) (H := x 4) (p := x 5) (y := x 6) (d := x 7) (q := x 8) (b := x 9) (s := x 10) T0 T1 T2 C0 C1 C2 C3 C4 F0
    refine l_outH rfl (And.intro h.1 ?_)
    have O0 : y_ev x (0, [(4, 1)]) = x 4 := l_e1 _ _
    have O1 : y_ev x (0, [(5, 1)]) = x 5 := l_e1 _ _
    have O2 : y_ev x (0, [(6, 1)]) = x 6 := l_e1 _ _
    have O3 : y_ev x (0, [(7, 1)]) = x 7 := l_e1 _ _
    have O4 : y_ev x (0, [(8, 1)]) = x 8 := l_e1 _ _
    have O5 : y_ev x (0, [(9, 1)]) = x 9 := l_e1 _ _
    have O6 : y_ev x (0, [(10, 1)]) = x 10 := l_e1 _ _
    have O7 : y_ev x (5, []) = 5 := l_e0 _ _
    have O8 : y_ev x (0, [(3, 1)]) = x 3 := l_e1 _ _
    have O9 : y_ev x (0, [(0, 1)]) = x 0 := l_e1 _ _
    have O10 : y_ev x (1, []) = 1 := l_e0 _ _
    show (True) ∧ (q_sto v 0 (y_ev x (0, [(4, 1)])) (y_ev x (0, [(5, 1)])) (y_ev x (0, [(6, 1)])) (y_ev x (0, [(7, 1)])) (y_ev x (0, [(8, 1)])) (y_ev x (0, [(9, 1)])) (y_ev x (0, [(10, 1)])) (y_ev x (5, [])) (y_ev x (0, [(3, 1)])) (y_ev x (0, [(0, 1)])) (y_ev x (1, [])) ∧ True)
    (try rw [O0]); (try rw [O1]); (try rw [O2]); (try rw [O3]); (try rw [O4]); (try rw [O5]); (try rw [O6]); (try rw [O7]); (try rw [O8]); (try rw [O9]); (try rw [O10])
    exact K
def lm_880pg_0 (t : List zTg) : List zTg := (238, [(6, []), (0, [(5, 1)]), (0, [(6, 1)]), (0, [(7, 1)]), (0, [(8, 1)]), (0, [(9, 1)]), (0, [(10, 1)]), (0, [(11, 1)]), (0, [(0, 1)]), (0, []), (0, [(1, 1)])]) :: (238, [(8, []), (0, [(5, 1)]), (0, [(6, 1)]), (0, [(7, 1)]), (0, [(8, 1)]), (0, [(9, 1)]), (0, [(10, 1)]), (0, [(11, 1)]), (12, [(0, 1)]), (0, []), (0, [(2, 1)])]) :: (238, [(4, []), (0, [(5, 1)]), (0, [(6, 1)]), (0, [(7, 1)]), (0, [(8, 1)]), (0, [(9, 1)]), (0, [(10, 1)]), (0, [(11, 1)]), (1, []), (0, [(0, 1)]), (0, [(3, 1)])]) :: t
def lm_880p : zS := ((lm_660pi_0 (lm_660pi_1 [])), [(31, false)], [(0, [(1, 1)]), (5, [(1, (-1))]), (0, [(0, 1)]), (5, [(0, (-1))]), (0, [(2, 1), (3, (-1))]), (0, [(2, (-1)), (3, 1), (4, 1)]), (0, [(2, 1), (3, (-1)), (4, (-1))])], [], [(0, 0, 0, [(0, 1)]), (0, 0, 0, [(1, 1)])], [(0, (true, 0, 0, [(1, 1)]), 0, 0, 0, [(4, 1)])], (lm_880pg_0 []))
def lm_880 : zLem := (lm_880p, [([((-2147483648), 2147483647), ((-2147483648), 2147483647), ((-2147483648), 2147483647), ((-2147483648), 2147483647), ((-2147483648), 2147483647), ((-2147483648), 2147483647), ((-2147483648), 2147483647), ((-2147483648), 2147483647), ((-2147483648), 2147483647), ((-2147483648), 2147483647), ((-2147483648), 2147483647), ((-2147483648), 2147483647)], [(31, false)], [], [], [], [], [(238, [(21, []), (0, [(5, 1)]), (0, [(6, 1)]), (0, [(7, 1)]), (0, [(8, 1)]), (0, [(9, 1)]), (0, [(10, 1)]), (0, [(11, 1)]), (0, [(0, 1)]), (0, []), (0, [(4, 1)])])])])
theorem lk_880 : l_core lm_880 := by
  first
  | skip
    intro v x h
    have G0 := h.2.2.1
    have K := k_ns1 (V := v) (h := x 0) (i := x 1) (z := x 2) (w := x 3) (v := x 4) (q := x 5) (b := x 6) (s := x 7) (o := x 8) (a1 := x 9) (a2 := x 10) (a3 := x 11) (l_c11 (fun w0 w1 w2 w3 w4 w5 w6 w7 w8 w9 w10 : Int => q_qry v w0 w1 w2 w3 w4 w5 w6 w7 w8 w9 w10) (l_e0 x (6)) (l_e1 x 5) (l_e1 x 6) (l_e1 x 7) (l_e1 x 8) (l_e1 x 9) (l_e1 x 10) (l_e1 x 11) (l_e1 x 0) (l_e0 x (0)) (l_e1 x 1) (h.2.2.2.1)) (l_c11 (fun w0 w1 w2 w3 w4 w5 w6 w7 w8 w9 w10 : Int => q_qry v w0 w1 w2 w3 w4 w5 w6 w7 w8 w9 w10) (l_e0 x (8)) (l_e1 x 5) (l_e1 x 6) (l_e1 x 7) (l_e1 x 8) (l_e1 x 9) (l_e1 x 10) (l_e1 x 11) (l_q3 12 x 0) (l_e0 x (0)) (l_e1 x 2) (h.2.2.2.2.1)) (l_c11 (fun w0 w1 w2 w3 w4 w5 w6 w7 w8 w9 w10 : Int => q_qry v w0 w1 w2 w3 w4 w5 w6 w7 w8 w9 w10) (l_e0 x (4)) (l_e1 x 5) (l_e1 x 6) (l_e1 x 7) (l_e1 x 8) (l_e1 x 9) (l_e1 x 10) (l_e1 x 11) (l_e0 x (1)) (l_e1 x 0) (l_e1 x 3) (h.2.2.2.2.2.1)) (l_cc (l_e1 x 1) (h.2.1.1)) (l_cc (l_q1 5 x 1) (h.2.1.2.1)) (l_cc (l_e1 x 0) (h.2.1.2.2.1)) (l_cc (l_q1 5 x 0) (h.2.1.2.2.2.1)) (l_cc (l_q5 x 2 3) (h.2.1.2.2.2.2.1)) (l_cc (show y_ev x (0, [(2, (-1)), (3, 1), (4, 1)]) = x 3 + x 4 - x 2 by show ((0) : Int) + ((-1) * x 2 + ((1) * x 3 + ((1) * x 4 + 0))) = _; omega) (h.2.1.2.2.2.2.2.1)) (l_cc (show y_ev x (0, [(2, 1), (3, (-1)), (4, (-1))]) = x 2 - x 3 - x 4 by show ((0) : Int) + ((1) * x 2 + ((-1) * x 3 + ((-1) * x 4 + 0))) = _; omega) (h.2.1.2.2.2.2.2.2.1)) (l_ff (f := v 31) (L := j_len 31) (l_e1 x 1) (l_e1 x 4) (G0.1.1))
    refine l_outH rfl (And.intro h.1 ?_)
    exact l_o11 (fun w0 w1 w2 w3 w4 w5 w6 w7 w8 w9 w10 : Int => (True) ∧ (q_qry v w0 w1 w2 w3 w4 w5 w6 w7 w8 w9 w10 ∧ True)) (l_e0 x (21)) (l_e1 x 5) (l_e1 x 6) (l_e1 x 7) (l_e1 x 8) (l_e1 x 9) (l_e1 x 10) (l_e1 x 11) (l_e1 x 0) (l_e0 x (0)) (l_e1 x 4) K
  | skip
    intro v x h
    have G0 := h.2.2.1
    have C0 : (0 : Int) ≤ x 1 := l_cc (a := y_ev x (0, [(1, 1)])) (l_e1 _ _) (h.2.1.1)
    have C1 : (0 : Int) ≤ 5 - x 1 := l_cc (a := y_ev x (5, [(1, (-1))])) (by show ((5) : Int) + ((-1) * x 1 + 0) = 5 - x 1; omega) (h.2.1.2.1)
    have C2 : (0 : Int) ≤ x 0 := l_cc (a := y_ev x (0, [(0, 1)])) (l_e1 _ _) (h.2.1.2.2.1)
    have C3 : (0 : Int) ≤ 5 - x 0 := l_cc (a := y_ev x (5, [(0, (-1))])) (by show ((5) : Int) + ((-1) * x 0 + 0) = 5 - x 0; omega) (h.2.1.2.2.2.1)
    have C4 : (0 : Int) ≤ x 2 - x 3 := l_cc (a := y_ev x (0, [(2, 1), (3, (-1))])) (by show ((0) : Int) + ((1) * x 2 + ((-1) * x 3 + 0)) = x 2 - x 3; omega) (h.2.1.2.2.2.2.1)
    have C5 : (0 : Int) ≤ x 3 + x 4 - x 2 := l_cc (a := y_ev x (0, [(2, (-1)), (3, 1), (4, 1)])) (by show ((0) : Int) + ((-1) * x 2 + ((1) * x 3 + ((1) * x 4 + 0))) = x 3 + x 4 - x 2; omega) (h.2.1.2.2.2.2.2.1)
    have C6 : (0 : Int) ≤ x 2 - x 3 - x 4 := l_cc (a := y_ev x (0, [(2, 1), (3, (-1)), (4, (-1))])) (by show ((0) : Int) + ((1) * x 2 + ((-1) * x 3 + ((-1) * x 4 + 0))) = x 2 - x 3 - x 4; omega) (h.2.1.2.2.2.2.2.2.1)
    have F0 : (0 : Int) ≤ x 1 ∧ (x 1 : Int) < j_len 31 ∧ v 31 (x 1) = x 4 := l_ff (f := v 31) (L := j_len 31) (a := y_ev x (0, [(1, 1)])) (b := y_ev x (0, [(4, 1)])) (l_e1 _ _) (l_e1 _ _) (G0.1.1)
    have E0 : y_ev x (6, []) = 6 := (l_e0 _ _)
    have E1 : y_ev x (0, [(5, 1)]) = x 5 := (l_e1 _ _)
    have E2 : y_ev x (0, [(6, 1)]) = x 6 := (l_e1 _ _)
    have E3 : y_ev x (0, [(7, 1)]) = x 7 := (l_e1 _ _)
    have E4 : y_ev x (0, [(8, 1)]) = x 8 := (l_e1 _ _)
    have E5 : y_ev x (0, [(9, 1)]) = x 9 := (l_e1 _ _)
    have E6 : y_ev x (0, [(10, 1)]) = x 10 := (l_e1 _ _)
    have E7 : y_ev x (0, [(11, 1)]) = x 11 := (l_e1 _ _)
    have E8 : y_ev x (0, [(0, 1)]) = x 0 := (l_e1 _ _)
    have E9 : y_ev x (0, []) = 0 := (l_e0 _ _)
    have E10 : y_ev x (0, [(1, 1)]) = x 1 := (l_e1 _ _)
    have E11 : y_ev x (8, []) = 8 := (l_e0 _ _)
    have E12 : y_ev x (12, [(0, 1)]) = x 0 + 12 := (by show ((12) : Int) + ((1) * x 0 + 0) = x 0 + 12; omega)
    have E13 : y_ev x (0, [(2, 1)]) = x 2 := (l_e1 _ _)
    have E14 : y_ev x (4, []) = 4 := (l_e0 _ _)
    have E15 : y_ev x (1, []) = 1 := (l_e0 _ _)
    have E16 : y_ev x (0, [(3, 1)]) = x 3 := (l_e1 _ _)
    have T0 : q_qry v (y_ev x (6, [])) (y_ev x (0, [(5, 1)])) (y_ev x (0, [(6, 1)])) (y_ev x (0, [(7, 1)])) (y_ev x (0, [(8, 1)])) (y_ev x (0, [(9, 1)])) (y_ev x (0, [(10, 1)])) (y_ev x (0, [(11, 1)])) (y_ev x (0, [(0, 1)])) (y_ev x (0, [])) (y_ev x (0, [(1, 1)])) := h.2.2.2.1
    (try rw [E0] at T0); (try rw [E1] at T0); (try rw [E2] at T0); (try rw [E3] at T0); (try rw [E4] at T0); (try rw [E5] at T0); (try rw [E6] at T0); (try rw [E7] at T0); (try rw [E8] at T0); (try rw [E9] at T0); (try rw [E10] at T0)
    have T1 : q_qry v (y_ev x (8, [])) (y_ev x (0, [(5, 1)])) (y_ev x (0, [(6, 1)])) (y_ev x (0, [(7, 1)])) (y_ev x (0, [(8, 1)])) (y_ev x (0, [(9, 1)])) (y_ev x (0, [(10, 1)])) (y_ev x (0, [(11, 1)])) (y_ev x (12, [(0, 1)])) (y_ev x (0, [])) (y_ev x (0, [(2, 1)])) := h.2.2.2.2.1
    (try rw [E11] at T1); (try rw [E1] at T1); (try rw [E2] at T1); (try rw [E3] at T1); (try rw [E4] at T1); (try rw [E5] at T1); (try rw [E6] at T1); (try rw [E7] at T1); (try rw [E12] at T1); (try rw [E9] at T1); (try rw [E13] at T1)
    have T2 : q_qry v (y_ev x (4, [])) (y_ev x (0, [(5, 1)])) (y_ev x (0, [(6, 1)])) (y_ev x (0, [(7, 1)])) (y_ev x (0, [(8, 1)])) (y_ev x (0, [(9, 1)])) (y_ev x (0, [(10, 1)])) (y_ev x (0, [(11, 1)])) (y_ev x (1, [])) (y_ev x (0, [(0, 1)])) (y_ev x (0, [(3, 1)])) := h.2.2.2.2.2.1
    (try rw [E14] at T2); (try rw [E1] at T2); (try rw [E2] at T2); (try rw [E3] at T2); (try rw [E4] at T2); (try rw [E5] at T2); (try rw [E6] at T2); (try rw [E7] at T2); (try rw [E15] at T2); (try rw [E8] at T2); (try rw [E16] at T2)
    have K := k_ns1 (V := v) (h := x 0) (i := x 1) (z := x 2) (w := x 3) (v := x 4) (q := x 5) (b := x 6) (s := x 7) (o := x 8) (a1 := x 9) (a2 := x 10) (a3 := x 11) T0 T1 T2 C0 C1 C2 C3 C4 C5 C6 F0
    refine l_outH rfl (And.intro h.1 ?_)
    have O0 : y_ev x (21, []) = 21 := l_e0 _ _
    have O1 : y_ev x (0, [(5, 1)]) = x 5 := l_e1 _ _
    have O2 : y_ev x (0, [(6, 1)]) = x 6 := l_e1 _ _
    have O3 : y_ev x (0, [(7, 1)]) = x 7 := l_e1 _ _
    have O4 : y_ev x (0, [(8, 1)]) = x 8 := l_e1 _ _
    have O5 : y_ev x (0, [(9, 1)]) = x 9 := l_e1 _ _
    have O6 : y_ev x (0, [(10, 1)]) = x 10 := l_e1 _ _
    have O7 : y_ev x (0, [(11, 1)]) = x 11 := l_e1 _ _
    have O8 : y_ev x (0, [(0, 1)]) = x 0 := l_e1 _ _
    have O9 : y_ev x (0, []) = 0 := l_e0 _ _
    have O10 : y_ev x (0, [(4, 1)]) = x 4 := l_e1 _ _
    show (True) ∧ (q_qry v (y_ev x (21, [])) (y_ev x (0, [(5, 1)])) (y_ev x (0, [(6, 1)])) (y_ev x (0, [(7, 1)])) (y_ev x (0, [(8, 1)])) (y_ev x (0, [(9, 1)])) (y_ev x (0, [(10, 1)])) (y_ev x (0, [(11, 1)])) (y_ev x (0, [(0, 1)])) (y_ev x (0, [])) (y_ev x (0, [(4, 1)])) ∧ True)
    (try rw [O0]); (try rw [O1]); (try rw [O2]); (try rw [O3]); (try rw [O4]); (try rw [O5]); (try rw [O6]); (try rw [O7]); (try rw [O8]); (try rw [O9]); (try rw [O10])
    exact K
def lm_881p : zS := ((lm_660pi_0 (lm_660pi_1 [])), [(31, false)], [(0, [(1, 1)]), (5, [(1, (-1))]), (0, [(0, 1)]), (5, [(0, (-1))]), ((-1), [(2, (-1)), (3, 1)]), (0, [(4, 1)]), (0, [(4, (-1))])], [], [(0, 0, 0, [(0, 1)]), (0, 0, 0, [(1, 1)])], [(0, (true, 0, 0, [(1, 1)]), 0, 0, 0, [(4, 1)])], (lm_880pg_0 []))
def lm_881 : zLem := (lm_881p, [([((-2147483648), 2147483647), ((-2147483648), 2147483647), ((-2147483648), 2147483647), ((-2147483648), 2147483647), ((-2147483648), 2147483647), ((-2147483648), 2147483647), ((-2147483648), 2147483647), ((-2147483648), 2147483647), ((-2147483648), 2147483647), ((-2147483648), 2147483647), ((-2147483648), 2147483647), ((-2147483648), 2147483647)], [(31, false)], [], [], [], [], [(238, [(21, []), (0, [(5, 1)]), (0, [(6, 1)]), (0, [(7, 1)]), (0, [(8, 1)]), (0, [(9, 1)]), (0, [(10, 1)]), (0, [(11, 1)]), (0, [(0, 1)]), (0, []), (0, [(4, 1)])])])])
theorem lk_881 : l_core lm_881 := by
  first
  | skip
    intro v x h
    have G0 := h.2.2.1
    have K := k_ns0 (V := v) (h := x 0) (i := x 1) (z := x 2) (w := x 3) (v := x 4) (q := x 5) (b := x 6) (s := x 7) (o := x 8) (a1 := x 9) (a2 := x 10) (a3 := x 11) (l_c11 (fun w0 w1 w2 w3 w4 w5 w6 w7 w8 w9 w10 : Int => q_qry v w0 w1 w2 w3 w4 w5 w6 w7 w8 w9 w10) (l_e0 x (6)) (l_e1 x 5) (l_e1 x 6) (l_e1 x 7) (l_e1 x 8) (l_e1 x 9) (l_e1 x 10) (l_e1 x 11) (l_e1 x 0) (l_e0 x (0)) (l_e1 x 1) (h.2.2.2.1)) (l_c11 (fun w0 w1 w2 w3 w4 w5 w6 w7 w8 w9 w10 : Int => q_qry v w0 w1 w2 w3 w4 w5 w6 w7 w8 w9 w10) (l_e0 x (8)) (l_e1 x 5) (l_e1 x 6) (l_e1 x 7) (l_e1 x 8) (l_e1 x 9) (l_e1 x 10) (l_e1 x 11) (l_q3 12 x 0) (l_e0 x (0)) (l_e1 x 2) (h.2.2.2.2.1)) (l_c11 (fun w0 w1 w2 w3 w4 w5 w6 w7 w8 w9 w10 : Int => q_qry v w0 w1 w2 w3 w4 w5 w6 w7 w8 w9 w10) (l_e0 x (4)) (l_e1 x 5) (l_e1 x 6) (l_e1 x 7) (l_e1 x 8) (l_e1 x 9) (l_e1 x 10) (l_e1 x 11) (l_e0 x (1)) (l_e1 x 0) (l_e1 x 3) (h.2.2.2.2.2.1)) (l_cc (l_e1 x 1) (h.2.1.1)) (l_cc (l_q1 5 x 1) (h.2.1.2.1)) (l_cc (l_e1 x 0) (h.2.1.2.2.1)) (l_cc (l_q1 5 x 0) (h.2.1.2.2.2.1)) (l_cc (l_q6 1 x 2 3) (h.2.1.2.2.2.2.1)) (l_cc (l_e1 x 4) (h.2.1.2.2.2.2.2.1)) (l_cc (l_q7 x 4) (h.2.1.2.2.2.2.2.2.1)) (l_ff (f := v 31) (L := j_len 31) (l_e1 x 1) (l_e1 x 4) (G0.1.1))
    refine l_outH rfl (And.intro h.1 ?_)
    exact l_o11 (fun w0 w1 w2 w3 w4 w5 w6 w7 w8 w9 w10 : Int => (True) ∧ (q_qry v w0 w1 w2 w3 w4 w5 w6 w7 w8 w9 w10 ∧ True)) (l_e0 x (21)) (l_e1 x 5) (l_e1 x 6) (l_e1 x 7) (l_e1 x 8) (l_e1 x 9) (l_e1 x 10) (l_e1 x 11) (l_e1 x 0) (l_e0 x (0)) (l_e1 x 4) K
  | skip
    intro v x h
    have G0 := h.2.2.1
    have C0 : (0 : Int) ≤ x 1 := l_cc (a := y_ev x (0, [(1, 1)])) (l_e1 _ _) (h.2.1.1)
    have C1 : (0 : Int) ≤ 5 - x 1 := l_cc (a := y_ev x (5, [(1, (-1))])) (by show ((5) : Int) + ((-1) * x 1 + 0) = 5 - x 1; omega) (h.2.1.2.1)
    have C2 : (0 : Int) ≤ x 0 := l_cc (a := y_ev x (0, [(0, 1)])) (l_e1 _ _) (h.2.1.2.2.1)
    have C3 : (0 : Int) ≤ 5 - x 0 := l_cc (a := y_ev x (5, [(0, (-1))])) (by show ((5) : Int) + ((-1) * x 0 + 0) = 5 - x 0; omega) (h.2.1.2.2.2.1)
    have C4 : (0 : Int) ≤ x 3 - x 2 - 1 := l_cc (a := y_ev x ((-1), [(2, (-1)), (3, 1)])) (by show ((-1) : Int) + ((-1) * x 2 + ((1) * x 3 + 0)) = x 3 - x 2 - 1; omega) (h.2.1.2.2.2.2.1)
    have C5 : (0 : Int) ≤ x 4 := l_cc (a := y_ev x (0, [(4, 1)])) (l_e1 _ _) (h.2.1.2.2.2.2.2.1)
    have C6 : (0 : Int) ≤ -x 4 := l_cc (a := y_ev x (0, [(4, (-1))])) (by show ((0) : Int) + ((-1) * x 4 + 0) = -x 4; omega) (h.2.1.2.2.2.2.2.2.1)
    have F0 : (0 : Int) ≤ x 1 ∧ (x 1 : Int) < j_len 31 ∧ v 31 (x 1) = x 4 := l_ff (f := v 31) (L := j_len 31) (a := y_ev x (0, [(1, 1)])) (b := y_ev x (0, [(4, 1)])) (l_e1 _ _) (l_e1 _ _) (G0.1.1)
    have E0 : y_ev x (6, []) = 6 := (l_e0 _ _)
    have E1 : y_ev x (0, [(5, 1)]) = x 5 := (l_e1 _ _)
    have E2 : y_ev x (0, [(6, 1)]) = x 6 := (l_e1 _ _)
    have E3 : y_ev x (0, [(7, 1)]) = x 7 := (l_e1 _ _)
    have E4 : y_ev x (0, [(8, 1)]) = x 8 := (l_e1 _ _)
    have E5 : y_ev x (0, [(9, 1)]) = x 9 := (l_e1 _ _)
    have E6 : y_ev x (0, [(10, 1)]) = x 10 := (l_e1 _ _)
    have E7 : y_ev x (0, [(11, 1)]) = x 11 := (l_e1 _ _)
    have E8 : y_ev x (0, [(0, 1)]) = x 0 := (l_e1 _ _)
    have E9 : y_ev x (0, []) = 0 := (l_e0 _ _)
    have E10 : y_ev x (0, [(1, 1)]) = x 1 := (l_e1 _ _)
    have E11 : y_ev x (8, []) = 8 := (l_e0 _ _)
    have E12 : y_ev x (12, [(0, 1)]) = x 0 + 12 := (by show ((12) : Int) + ((1) * x 0 + 0) = x 0 + 12; omega)
    have E13 : y_ev x (0, [(2, 1)]) = x 2 := (l_e1 _ _)
    have E14 : y_ev x (4, []) = 4 := (l_e0 _ _)
    have E15 : y_ev x (1, []) = 1 := (l_e0 _ _)
    have E16 : y_ev x (0, [(3, 1)]) = x 3 := (l_e1 _ _)
    have T0 : q_qry v (y_ev x (6, [])) (y_ev x (0, [(5, 1)])) (y_ev x (0, [(6, 1)])) (y_ev x (0, [(7, 1)])) (y_ev x (0, [(8, 1)])) (y_ev x (0, [(9, 1)])) (y_ev x (0, [(10, 1)])) (y_ev x (0, [(11, 1)])) (y_ev x (0, [(0, 1)])) (y_ev x (0, [])) (y_ev x (0, [(1, 1)])) := h.2.2.2.1
    (try rw [E0] at T0); (try rw [E1] at T0); (try rw [E2] at T0); (try rw [E3] at T0); (try rw [E4] at T0); (try rw [E5] at T0); (try rw [E6] at T0); (try rw [E7] at T0); (try rw [E8] at T0); (try rw [E9] at T0); (try rw [E10] at T0)
    have T1 : q_qry v (y_ev x (8, [])) (y_ev x (0, [(5, 1)])) (y_ev x (0, [(6, 1)])) (y_ev x (0, [(7, 1)])) (y_ev x (0, [(8, 1)])) (y_ev x (0, [(9, 1)])) (y_ev x (0, [(10, 1)])) (y_ev x (0, [(11, 1)])) (y_ev x (12, [(0, 1)])) (y_ev x (0, [])) (y_ev x (0, [(2, 1)])) := h.2.2.2.2.1
    (try rw [E11] at T1); (try rw [E1] at T1); (try rw [E2] at T1); (try rw [E3] at T1); (try rw [E4] at T1); (try rw [E5] at T1); (try rw [E6] at T1); (try rw [E7] at T1); (try rw [E12] at T1); (try rw [E9] at T1); (try rw [E13] at T1)
    have T2 : q_qry v (y_ev x (4, [])) (y_ev x (0, [(5, 1)])) (y_ev x (0, [(6, 1)])) (y_ev x (0, [(7, 1)])) (y_ev x (0, [(8, 1)])) (y_ev x (0, [(9, 1)])) (y_ev x (0, [(10, 1)])) (y_ev x (0, [(11, 1)])) (y_ev x (1, [])) (y_ev x (0, [(0, 1)])) (y_ev x (0, [(3, 1)])) := h.2.2.2.2.2.1
    (try rw [E14] at T2); (try rw [E1] at T2); (try rw [E2] at T2); (try rw [E3] at T2); (try rw [E4] at T2); (try rw [E5] at T2); (try rw [E6] at T2); (try rw [E7] at T2); (try rw [E15] at T2); (try rw [E8] at T2); (try rw [E16] at T2)
    have K := k_ns0 (V := v) (h := x 0) (i := x 1) (z := x 2) (w := x 3) (v := x 4) (q := x 5) (b := x 6) (s := x 7) (o := x 8) (a1 := x 9) (a2 := x 10) (a3 := x 11) T0 T1 T2 C0 C1 C2 C3 C4 C5 C6 F0
    refine l_outH rfl (And.intro h.1 ?_)
    have O0 : y_ev x (21, []) = 21 := l_e0 _ _
    have O1 : y_ev x (0, [(5, 1)]) = x 5 := l_e1 _ _
    have O2 : y_ev x (0, [(6, 1)]) = x 6 := l_e1 _ _
    have O3 : y_ev x (0, [(7, 1)]) = x 7 := l_e1 _ _
    have O4 : y_ev x (0, [(8, 1)]) = x 8 := l_e1 _ _
    have O5 : y_ev x (0, [(9, 1)]) = x 9 := l_e1 _ _
    have O6 : y_ev x (0, [(10, 1)]) = x 10 := l_e1 _ _
    have O7 : y_ev x (0, [(11, 1)]) = x 11 := l_e1 _ _
    have O8 : y_ev x (0, [(0, 1)]) = x 0 := l_e1 _ _
    have O9 : y_ev x (0, []) = 0 := l_e0 _ _
    have O10 : y_ev x (0, [(4, 1)]) = x 4 := l_e1 _ _
    show (True) ∧ (q_qry v (y_ev x (21, [])) (y_ev x (0, [(5, 1)])) (y_ev x (0, [(6, 1)])) (y_ev x (0, [(7, 1)])) (y_ev x (0, [(8, 1)])) (y_ev x (0, [(9, 1)])) (y_ev x (0, [(10, 1)])) (y_ev x (0, [(11, 1)])) (y_ev x (0, [(0, 1)])) (y_ev x (0, [])) (y_ev x (0, [(4, 1)])) ∧ True)
    (try rw [O0]); (try rw [O1]); (try rw [O2]); (try rw [O3]); (try rw [O4]); (try rw [O5]); (try rw [O6]); (try rw [O7]); (try rw [O8]); (try rw [O9]); (try rw [O10])
    exact K
def lm_882pg_0 (t : List zTg) : List zTg := (236, [(0, [(4, 1)]), (0, [(5, 1)]), (0, [(6, 1)]), (0, [(7, 1)]), (0, [(8, 1)]), (0, [(9, 1)]), (0, [(10, 1)]), (0, [(11, 1)]), (0, [(12, 1)]), (0, [(13, 1)]), (0, [(14, 1)])]) :: (238, [(6, []), (0, [(8, 1)]), (0, [(9, 1)]), (0, [(10, 1)]), (0, [(11, 1)]), (0, [(12, 1)]), (0, [(13, 1)]), (0, [(14, 1)]), (0, [(0, 1)]), (0, []), (0, [(1, 1)])]) :: (238, [(8, []), (0, [(8, 1)]), (0, [(9, 1)]), (0, [(10, 1)]), (0, [(11, 1)]), (0, [(12, 1)]), (0, [(13, 1)]), (0, [(14, 1)]), (0, [(0, 1)]), (0, []), (0, [(2, 1)])]) :: (238, [(8, []), (0, [(8, 1)]), (0, [(9, 1)]), (0, [(10, 1)]), (0, [(11, 1)]), (0, [(12, 1)]), (0, [(13, 1)]), (0, [(14, 1)]), (12, [(0, 1)]), (0, []), (0, [(3, 1)])]) :: t
def lm_882p : zS := ((lm_624pi_0 (lm_624pi_1 [])), [], [(0, [(1, 1)]), (5, [(1, (-1))]), (0, [(0, 1)]), (5, [(0, (-1))])], [], [(0, 0, 0, [(0, 1)]), (0, 0, 0, [(1, 1)])], [], (lm_882pg_0 []))
def lm_882 : zLem := (lm_882p, [([((-2147483648), 2147483647), ((-2147483648), 2147483647), ((-2147483648), 2147483647), ((-2147483648), 2147483647), ((-2147483648), 2147483647), ((-2147483648), 2147483647), ((-2147483648), 2147483647), ((-2147483648), 2147483647), ((-2147483648), 2147483647), ((-2147483648), 2147483647), ((-2147483648), 2147483647), ((-2147483648), 2147483647), ((-2147483648), 2147483647), ((-2147483648), 2147483647), ((-2147483648), 2147483647)], [], [], [], [], [], [(258, [(0, [(4, 1)]), (0, [(5, 1)]), (0, [(6, 1)]), (0, [(7, 1)]), (0, [(8, 1)]), (0, [(9, 1)]), (0, [(10, 1)]), (0, [(11, 1)]), (0, [(12, 1)]), (0, [(13, 1)]), (0, [(14, 1)]), (0, [(0, 1)]), (0, [(1, 1)]), (0, [(2, 1)]), (0, [(3, 1)])])])])
theorem lk_882 : l_core lm_882 := by
  first
  | skip
    intro v x h
    have K := k_saxYt (V := v) (h := x 0) (i := x 1) (x := x 2) (z := x 3) (H := x 4) (p := x 5) (y := x 6) (d := x 7) (q := x 8) (b := x 9) (s := x 10) (o := x 11) (a1 := x 12) (a2 := x 13) (a3 := x 14) (l_c11 (fun w0 w1 w2 w3 w4 w5 w6 w7 w8 w9 w10 : Int => q_sto v 1 w0 w1 w2 w3 w4 w5 w6 w7 w8 w9 w10) (l_e1 x 4) (l_e1 x 5) (l_e1 x 6) (l_e1 x 7) (l_e1 x 8) (l_e1 x 9) (l_e1 x 10) (l_e1 x 11) (l_e1 x 12) (l_e1 x 13) (l_e1 x 14) (h.2.2.2.1)) (l_c11 (fun w0 w1 w2 w3 w4 w5 w6 w7 w8 w9 w10 : Int => q_qry v w0 w1 w2 w3 w4 w5 w6 w7 w8 w9 w10) (l_e0 x (6)) (l_e1 x 8) (l_e1 x 9) (l_e1 x 10) (l_e1 x 11) (l_e1 x 12) (l_e1 x 13) (l_e1 x 14) (l_e1 x 0) (l_e0 x (0)) (l_e1 x 1) (h.2.2.2.2.1)) (l_c11 (fun w0 w1 w2 w3 w4 w5 w6 w7 w8 w9 w10 : Int => q_qry v w0 w1 w2 w3 w4 w5 w6 w7 w8 w9 w10) (l_e0 x (8)) (l_e1 x 8) (l_e1 x 9) (l_e1 x 10) (l_e1 x 11) (l_e1 x 12) (l_e1 x 13) (l_e1 x 14) (l_e1 x 0) (l_e0 x (0)) (l_e1 x 2) (h.2.2.2.2.2.1)) (l_c11 (fun w0 w1 w2 w3 w4 w5 w6 w7 w8 w9 w10 : Int => q_qry v w0 w1 w2 w3 w4 w5 w6 w7 w8 w9 w10) (l_e0 x (8)) (l_e1 x 8) (l_e1 x 9) (l_e1 x 10) (l_e1 x 11) (l_e1 x 12) (l_e1 x 13) (l_e1 x 14) (l_q3 12 x 0) (l_e0 x (0)) (l_e1 x 3) (h.2.2.2.2.2.2.1)) (l_cc (l_e1 x 1) (h.2.1.1)) (l_cc (l_q1 5 x 1) (h.2.1.2.1)) (l_cc (l_e1 x 0) (h.2.1.2.2.1)) (l_cc (l_q1 5 x 0) (h.2.1.2.2.2.1))
    refine l_outH rfl (And.intro h.1 ?_)
    exact l_o15 (fun w0 w1 w2 w3 w4 w5 w6 w7 w8 w9 w10 w11 w12 w13 w14 : Int => (True) ∧ (q_sax v 1 w0 w1 w2 w3 w4 w5 w6 w7 w8 w9 w10 w11 w12 w13 w14 ∧ True)) (l_e1 x 4) (l_e1 x 5) (l_e1 x 6) (l_e1 x 7) (l_e1 x 8) (l_e1 x 9) (l_e1 x 10) (l_e1 x 11) (l_e1 x 12) (l_e1 x 13) (l_e1 x 14) (l_e1 x 0) (l_e1 x 1) (l_e1 x 2) (l_e1 x 3) K
  | skip
    intro v x h
    have C0 : (0 : Int) ≤ x 1 := l_cc (a := y_ev x (0, [(1, 1)])) (l_e1 _ _) (h.2.1.1)
    have C1 : (0 : Int) ≤ 5 - x 1 := l_cc (a := y_ev x (5, [(1, (-1))])) (by show ((5) : Int) + ((-1) * x 1 + 0) = 5 - x 1; omega) (h.2.1.2.1)
    have C2 : (0 : Int) ≤ x 0 := l_cc (a := y_ev x (0, [(0, 1)])) (l_e1 _ _) (h.2.1.2.2.1)
    have C3 : (0 : Int) ≤ 5 - x 0 := l_cc (a := y_ev x (5, [(0, (-1))])) (by show ((5) : Int) + ((-1) * x 0 + 0) = 5 - x 0; omega) (h.2.1.2.2.2.1)
    have E0 : y_ev x (0, [(4, 1)]) = x 4 := (l_e1 _ _)
    have E1 : y_ev x (0, [(5, 1)]) = x 5 := (l_e1 _ _)
    have E2 : y_ev x (0, [(6, 1)]) = x 6 := (l_e1 _ _)
    have E3 : y_ev x (0, [(7, 1)]) = x 7 := (l_e1 _ _)
    have E4 : y_ev x (0, [(8, 1)]) = x 8 := (l_e1 _ _)
    have E5 : y_ev x (0, [(9, 1)]) = x 9 := (l_e1 _ _)
    have E6 : y_ev x (0, [(10, 1)]) = x 10 := (l_e1 _ _)
    have E7 : y_ev x (0, [(11, 1)]) = x 11 := (l_e1 _ _)
    have E8 : y_ev x (0, [(12, 1)]) = x 12 := (l_e1 _ _)
    have E9 : y_ev x (0, [(13, 1)]) = x 13 := (l_e1 _ _)
    have E10 : y_ev x (0, [(14, 1)]) = x 14 := (l_e1 _ _)
    have E11 : y_ev x (6, []) = 6 := (l_e0 _ _)
    have E12 : y_ev x (0, [(0, 1)]) = x 0 := (l_e1 _ _)
    have E13 : y_ev x (0, []) = 0 := (l_e0 _ _)
    have E14 : y_ev x (0, [(1, 1)]) = x 1 := (l_e1 _ _)
    have E15 : y_ev x (8, []) = 8 := (l_e0 _ _)
    have E16 : y_ev x (0, [(2, 1)]) = x 2 := (l_e1 _ _)
    have E17 : y_ev x (12, [(0, 1)]) = x 0 + 12 := (by show ((12) : Int) + ((1) * x 0 + 0) = x 0 + 12; omega)
    have E18 : y_ev x (0, [(3, 1)]) = x 3 := (l_e1 _ _)
    have T0 : q_sto v 1 (y_ev x (0, [(4, 1)])) (y_ev x (0, [(5, 1)])) (y_ev x (0, [(6, 1)])) (y_ev x (0, [(7, 1)])) (y_ev x (0, [(8, 1)])) (y_ev x (0, [(9, 1)])) (y_ev x (0, [(10, 1)])) (y_ev x (0, [(11, 1)])) (y_ev x (0, [(12, 1)])) (y_ev x (0, [(13, 1)])) (y_ev x (0, [(14, 1)])) := h.2.2.2.1
    (try rw [E0] at T0); (try rw [E1] at T0); (try rw [E2] at T0); (try rw [E3] at T0); (try rw [E4] at T0); (try rw [E5] at T0); (try rw [E6] at T0); (try rw [E7] at T0); (try rw [E8] at T0); (try rw [E9] at T0); (try rw [E10] at T0)
    have T1 : q_qry v (y_ev x (6, [])) (y_ev x (0, [(8, 1)])) (y_ev x (0, [(9, 1)])) (y_ev x (0, [(10, 1)])) (y_ev x (0, [(11, 1)])) (y_ev x (0, [(12, 1)])) (y_ev x (0, [(13, 1)])) (y_ev x (0, [(14, 1)])) (y_ev x (0, [(0, 1)])) (y_ev x (0, [])) (y_ev x (0, [(1, 1)])) := h.2.2.2.2.1
    (try rw [E11] at T1); (try rw [E4] at T1); (try rw [E5] at T1); (try rw [E6] at T1); (try rw [E7] at T1); (try rw [E8] at T1); (try rw [E9] at T1); (try rw [E10] at T1); (try rw [E12] at T1); (try rw [E13] at T1); (try rw [E14] at T1)
    have T2 : q_qry v (y_ev x (8, [])) (y_ev x (0, [(8, 1)])) (y_ev x (0, [(9, 1)])) (y_ev x (0, [(10, 1)])) (y_ev x (0, [(11, 1)])) (y_ev x (0, [(12, 1)])) (y_ev x (0, [(13, 1)])) (y_ev x (0, [(14, 1)])) (y_ev x (0, [(0, 1)])) (y_ev x (0, [])) (y_ev x (0, [(2, 1)])) := h.2.2.2.2.2.1
    (try rw [E15] at T2); (try rw [E4] at T2); (try rw [E5] at T2); (try rw [E6] at T2); (try rw [E7] at T2); (try rw [E8] at T2); (try rw [E9] at T2); (try rw [E10] at T2); (try rw [E12] at T2); (try rw [E13] at T2); (try rw [E16] at T2)
    have T3 : q_qry v (y_ev x (8, [])) (y_ev x (0, [(8, 1)])) (y_ev x (0, [(9, 1)])) (y_ev x (0, [(10, 1)])) (y_ev x (0, [(11, 1)])) (y_ev x (0, [(12, 1)])) (y_ev x (0, [(13, 1)])) (y_ev x (0, [(14, 1)])) (y_ev x (12, [(0, 1)])) (y_ev x (0, [])) (y_ev x (0, [(3, 1)])) := h.2.2.2.2.2.2.1
    (try rw [E15] at T3); (try rw [E4] at T3); (try rw [E5] at T3); (try rw [E6] at T3); (try rw [E7] at T3); (try rw [E8] at T3); (try rw [E9] at T3); (try rw [E10] at T3); (try rw [E17] at T3); (try rw [E13] at T3); (try rw [E18] at T3)
    have K := k_saxYt (V := v) (h := x 0) (i := x 1) (x := x 2) (z := x 3) (H := x 4) (p := x 5) (y := x 6) (d := x 7) (q := x 8) (b := x 9) (s := x 10) (o := x 11) (a1 := x 12) (a2 := x 13) (a3 := x 14) T0 T1 T2 T3 C0 C1 C2 C3
    refine l_outH rfl (And.intro h.1 ?_)
    have O0 : y_ev x (0, [(4, 1)]) = x 4 := l_e1 _ _
    have O1 : y_ev x (0, [(5, 1)]) = x 5 := l_e1 _ _
    have O2 : y_ev x (0, [(6, 1)]) = x 6 := l_e1 _ _
    have O3 : y_ev x (0, [(7, 1)]) = x 7 := l_e1 _ _
    have O4 : y_ev x (0, [(8, 1)]) = x 8 := l_e1 _ _
    have O5 : y_ev x (0, [(9, 1)]) = x 9 := l_e1 _ _
    have O6 : y_ev x (0, [(10, 1)]) = x 10 := l_e1 _ _
    have O7 : y_ev x (0, [(11, 1)]) = x 11 := l_e1 _ _
    have O8 : y_ev x (0, [(12, 1)]) = x 12 := l_e1 _ _
    have O9 : y_ev x (0, [(13, 1)]) = x 13 := l_e1 _ _
    have O10 : y_ev x (0, [(14, 1)]) = x 14 := l_e1 _ _
    have O11 : y_ev x (0, [(0, 1)]) = x 0 := l_e1 _ _
    have O12 : y_ev x (0, [(1, 1)]) = x 1 := l_e1 _ _
    have O13 : y_ev x (0, [(2, 1)]) = x 2 := l_e1 _ _
    have O14 : y_ev x (0, [(3, 1)]) = x 3 := l_e1 _ _
    show (True) ∧ (q_sax v 1 (y_ev x (0, [(4, 1)])) (y_ev x (0, [(5, 1)])) (y_ev x (0, [(6, 1)])) (y_ev x (0, [(7, 1)])) (y_ev x (0, [(8, 1)])) (y_ev x (0, [(9, 1)])) (y_ev x (0, [(10, 1)])) (y_ev x (0, [(11, 1)])) (y_ev x (0, [(12, 1)])) (y_ev x (0, [(13, 1)])) (y_ev x (0, [(14, 1)])) (y_ev x (0, [(0, 1)])) (y_ev x (0, [(1, 1)])) (y_ev x (0, [(2, 1)])) (y_ev x (0, [(3, 1)])) ∧ True)
    (try rw [O0]); (try rw [O1]); (try rw [O2]); (try rw [O3]); (try rw [O4]); (try rw [O5]); (try rw [O6]); (try rw [O7]); (try rw [O8]); (try rw [O9]); (try rw [O10]); (try rw [O11]); (try rw [O12]); (try rw [O13]); (try rw [O14])
    exact K
def lm_883pg_0 (t : List zTg) : List zTg := (236, [(0, [(2, 1)]), (0, [(3, 1)]), (0, [(4, 1)]), (0, [(5, 1)]), (0, [(6, 1)]), (0, [(7, 1)]), (0, [(8, 1)]), (0, [(9, 1)]), (0, [(10, 1)]), (0, [(11, 1)]), (0, [(12, 1)])]) :: (238, [(6, []), (0, [(6, 1)]), (0, [(7, 1)]), (0, [(8, 1)]), (0, [(9, 1)]), (0, [(10, 1)]), (0, [(11, 1)]), (0, [(12, 1)]), (0, [(0, 1)]), (0, []), ((-1), [])]) :: (238, [(8, []), (0, [(6, 1)]), (0, [(7, 1)]), (0, [(8, 1)]), (0, [(9, 1)]), (0, [(10, 1)]), (0, [(11, 1)]), (0, [(12, 1)]), (0, [(0, 1)]), (0, []), (0, [(1, 1)])]) :: t
def lm_883p : zS := ((lm_650pi_0 (lm_650pi_1 [])), [], [(0, [(0, 1)]), ((-1), [(0, (-1)), (2, 1)]), (6, [(2, (-1))])], [], [(0, 0, 0, [(0, 1)])], [], (lm_883pg_0 []))
def lm_883 : zLem := (lm_883p, [([((-2147483648), 2147483647), ((-2147483648), 2147483647), ((-2147483648), 2147483647), ((-2147483648), 2147483647), ((-2147483648), 2147483647), ((-2147483648), 2147483647), ((-2147483648), 2147483647), ((-2147483648), 2147483647), ((-2147483648), 2147483647), ((-2147483648), 2147483647), ((-2147483648), 2147483647), ((-2147483648), 2147483647), ((-2147483648), 2147483647)], [], [], [], [], [], [(258, [(0, [(2, 1)]), (0, [(3, 1)]), (0, [(4, 1)]), (0, [(5, 1)]), (0, [(6, 1)]), (0, [(7, 1)]), (0, [(8, 1)]), (0, [(9, 1)]), (0, [(10, 1)]), (0, [(11, 1)]), (0, [(12, 1)]), (0, [(0, 1)]), ((-1), []), (0, [(1, 1)]), (0, [])])])])
theorem lk_883 : l_core lm_883 := by
  first
  | skip
    intro v x h
    have K := k_saxNt (V := v) (h := x 0) (x := x 1) (H := x 2) (p := x 3) (y := x 4) (d := x 5) (q := x 6) (b := x 7) (s := x 8) (o := x 9) (a1 := x 10) (a2 := x 11) (a3 := x 12) (l_c11 (fun w0 w1 w2 w3 w4 w5 w6 w7 w8 w9 w10 : Int => q_sto v 1 w0 w1 w2 w3 w4 w5 w6 w7 w8 w9 w10) (l_e1 x 2) (l_e1 x 3) (l_e1 x 4) (l_e1 x 5) (l_e1 x 6) (l_e1 x 7) (l_e1 x 8) (l_e1 x 9) (l_e1 x 10) (l_e1 x 11) (l_e1 x 12) (h.2.2.2.1)) (l_c11 (fun w0 w1 w2 w3 w4 w5 w6 w7 w8 w9 w10 : Int => q_qry v w0 w1 w2 w3 w4 w5 w6 w7 w8 w9 w10) (l_e0 x (6)) (l_e1 x 6) (l_e1 x 7) (l_e1 x 8) (l_e1 x 9) (l_e1 x 10) (l_e1 x 11) (l_e1 x 12) (l_e1 x 0) (l_e0 x (0)) (l_e0 x (-1)) (h.2.2.2.2.1)) (l_c11 (fun w0 w1 w2 w3 w4 w5 w6 w7 w8 w9 w10 : Int => q_qry v w0 w1 w2 w3 w4 w5 w6 w7 w8 w9 w10) (l_e0 x (8)) (l_e1 x 6) (l_e1 x 7) (l_e1 x 8) (l_e1 x 9) (l_e1 x 10) (l_e1 x 11) (l_e1 x 12) (l_e1 x 0) (l_e0 x (0)) (l_e1 x 1) (h.2.2.2.2.2.1)) (l_cc (l_e1 x 0) (h.2.1.1)) (l_cc (l_q6 1 x 0 2) (h.2.1.2.1)) (l_cc (l_q1 6 x 2) (h.2.1.2.2.1))
    refine l_outH rfl (And.intro h.1 ?_)
    exact l_o15 (fun w0 w1 w2 w3 w4 w5 w6 w7 w8 w9 w10 w11 w12 w13 w14 : Int => (True) ∧ (q_sax v 1 w0 w1 w2 w3 w4 w5 w6 w7 w8 w9 w10 w11 w12 w13 w14 ∧ True)) (l_e1 x 2) (l_e1 x 3) (l_e1 x 4) (l_e1 x 5) (l_e1 x 6) (l_e1 x 7) (l_e1 x 8) (l_e1 x 9) (l_e1 x 10) (l_e1 x 11) (l_e1 x 12) (l_e1 x 0) (l_e0 x (-1)) (l_e1 x 1) (l_e0 x (0)) K
  | skip
    intro v x h
    have C0 : (0 : Int) ≤ x 0 := l_cc (a := y_ev x (0, [(0, 1)])) (l_e1 _ _) (h.2.1.1)
    have C1 : (0 : Int) ≤ x 2 - x 0 - 1 := l_cc (a := y_ev x ((-1), [(0, (-1)), (2, 1)])) (by show ((-1) : Int) + ((-1) * x 0 + ((1) * x 2 + 0)) = x 2 - x 0 - 1; omega) (h.2.1.2.1)
    have C2 : (0 : Int) ≤ 6 - x 2 := l_cc (a := y_ev x (6, [(2, (-1))])) (by show ((6) : Int) + ((-1) * x 2 + 0) = 6 - x 2; omega) (h.2.1.2.2.1)
    have E0 : y_ev x (0, [(2, 1)]) = x 2 := (l_e1 _ _)
    have E1 : y_ev x (0, [(3, 1)]) = x 3 := (l_e1 _ _)
    have E2 : y_ev x (0, [(4, 1)]) = x 4 := (l_e1 _ _)
    have E3 : y_ev x (0, [(5, 1)]) = x 5 := (l_e1 _ _)
    have E4 : y_ev x (0, [(6, 1)]) = x 6 := (l_e1 _ _)
    have E5 : y_ev x (0, [(7, 1)]) = x 7 := (l_e1 _ _)
    have E6 : y_ev x (0, [(8, 1)]) = x 8 := (l_e1 _ _)
    have E7 : y_ev x (0, [(9, 1)]) = x 9 := (l_e1 _ _)
    have E8 : y_ev x (0, [(10, 1)]) = x 10 := (l_e1 _ _)
    have E9 : y_ev x (0, [(11, 1)]) = x 11 := (l_e1 _ _)
    have E10 : y_ev x (0, [(12, 1)]) = x 12 := (l_e1 _ _)
    have E11 : y_ev x (6, []) = 6 := (l_e0 _ _)
    have E12 : y_ev x (0, [(0, 1)]) = x 0 := (l_e1 _ _)
    have E13 : y_ev x (0, []) = 0 := (l_e0 _ _)
    have E14 : y_ev x ((-1), []) = (-1) := (l_e0 _ _)
    have E15 : y_ev x (8, []) = 8 := (l_e0 _ _)
    have E16 : y_ev x (0, [(1, 1)]) = x 1 := (l_e1 _ _)
    have T0 : q_sto v 1 (y_ev x (0, [(2, 1)])) (y_ev x (0, [(3, 1)])) (y_ev x (0, [(4, 1)])) (y_ev x (0, [(5, 1)])) (y_ev x (0, [(6, 1)])) (y_ev x (0, [(7, 1)])) (y_ev x (0, [(8, 1)])) (y_ev x (0, [(9, 1)])) (y_ev x (0, [(10, 1)])) (y_ev x (0, [(11, 1)])) (y_ev x (0, [(12, 1)])) := h.2.2.2.1
    (try rw [E0] at T0); (try rw [E1] at T0); (try rw [E2] at T0); (try rw [E3] at T0); (try rw [E4] at T0); (try rw [E5] at T0); (try rw [E6] at T0); (try rw [E7] at T0); (try rw [E8] at T0); (try rw [E9] at T0); (try rw [E10] at T0)
    have T1 : q_qry v (y_ev x (6, [])) (y_ev x (0, [(6, 1)])) (y_ev x (0, [(7, 1)])) (y_ev x (0, [(8, 1)])) (y_ev x (0, [(9, 1)])) (y_ev x (0, [(10, 1)])) (y_ev x (0, [(11, 1)])) (y_ev x (0, [(12, 1)])) (y_ev x (0, [(0, 1)])) (y_ev x (0, [])) (y_ev x ((-1), [])) := h.2.2.2.2.1
    (try rw [E11] at T1); (try rw [E4] at T1); (try rw [E5] at T1); (try rw [E6] at T1); (try rw [E7] at T1); (try rw [E8] at T1); (try rw [E9] at T1); (try rw [E10] at T1); (try rw [E12] at T1); (try rw [E13] at T1); (try rw [E14] at T1)
    have T2 : q_qry v (y_ev x (8, [])) (y_ev x (0, [(6, 1)])) (y_ev x (0, [(7, 1)])) (y_ev x (0, [(8, 1)])) (y_ev x (0, [(9, 1)])) (y_ev x (0, [(10, 1)])) (y_ev x (0, [(11, 1)])) (y_ev x (0, [(12, 1)])) (y_ev x (0, [(0, 1)])) (y_ev x (0, [])) (y_ev x (0, [(1, 1)])) := h.2.2.2.2.2.1
    (try rw [E15] at T2); (try rw [E4] at T2); (try rw [E5] at T2); (try rw [E6] at T2); (try rw [E7] at T2); (try rw [E8] at T2); (try rw [E9] at T2); (try rw [E10] at T2); (try rw [E12] at T2); (try rw [E13] at T2); (try rw [E16] at T2)
    have K := k_saxNt (V := v) (h := x 0) (x := x 1) (H := x 2) (p := x 3) (y := x 4) (d := x 5) (q := x 6) (b := x 7) (s := x 8) (o := x 9) (a1 := x 10) (a2 := x 11) (a3 := x 12) T0 T1 T2 C0 C1 C2
    refine l_outH rfl (And.intro h.1 ?_)
    have O0 : y_ev x (0, [(2, 1)]) = x 2 := l_e1 _ _
    have O1 : y_ev x (0, [(3, 1)]) = x 3 := l_e1 _ _
    have O2 : y_ev x (0, [(4, 1)]) = x 4 := l_e1 _ _
    have O3 : y_ev x (0, [(5, 1)]) = x 5 := l_e1 _ _
    have O4 : y_ev x (0, [(6, 1)]) = x 6 := l_e1 _ _
    have O5 : y_ev x (0, [(7, 1)]) = x 7 := l_e1 _ _
    have O6 : y_ev x (0, [(8, 1)]) = x 8 := l_e1 _ _
    have O7 : y_ev x (0, [(9, 1)]) = x 9 := l_e1 _ _
    have O8 : y_ev x (0, [(10, 1)]) = x 10 := l_e1 _ _
    have O9 : y_ev x (0, [(11, 1)]) = x 11 := l_e1 _ _
    have O10 : y_ev x (0, [(12, 1)]) = x 12 := l_e1 _ _
    have O11 : y_ev x (0, [(0, 1)]) = x 0 := l_e1 _ _
    have O12 : y_ev x ((-1), []) = (-1) := l_e0 _ _
    have O13 : y_ev x (0, [(1, 1)]) = x 1 := l_e1 _ _
    have O14 : y_ev x (0, []) = 0 := l_e0 _ _
    show (True) ∧ (q_sax v 1 (y_ev x (0, [(2, 1)])) (y_ev x (0, [(3, 1)])) (y_ev x (0, [(4, 1)])) (y_ev x (0, [(5, 1)])) (y_ev x (0, [(6, 1)])) (y_ev x (0, [(7, 1)])) (y_ev x (0, [(8, 1)])) (y_ev x (0, [(9, 1)])) (y_ev x (0, [(10, 1)])) (y_ev x (0, [(11, 1)])) (y_ev x (0, [(12, 1)])) (y_ev x (0, [(0, 1)])) (y_ev x ((-1), [])) (y_ev x (0, [(1, 1)])) (y_ev x (0, [])) ∧ True)
    (try rw [O0]); (try rw [O1]); (try rw [O2]); (try rw [O3]); (try rw [O4]); (try rw [O5]); (try rw [O6]); (try rw [O7]); (try rw [O8]); (try rw [O9]); (try rw [O10]); (try rw [O11]); (try rw [O12]); (try rw [O13]); (try rw [O14])
    exact K
def lm_884pg_0 (t : List zTg) : List zTg := (258, [(0, [(7, 1)]), (0, [(8, 1)]), (0, [(9, 1)]), (0, [(10, 1)]), (0, [(11, 1)]), (0, [(12, 1)]), (0, [(13, 1)]), (4, []), (0, [(6, 1)]), (0, [(0, 1)]), (0, [(7, 1)]), (0, [(0, 1)]), (0, [(1, 1)]), (0, [(2, 1)]), (0, [(3, 1)])]) :: (238, [(20, []), (0, [(11, 1)]), (0, [(12, 1)]), (0, [(13, 1)]), (4, []), (0, [(6, 1)]), (0, [(0, 1)]), (0, [(7, 1)]), (0, [(0, 1)]), (0, []), (0, [(4, 1)])]) :: (238, [(21, []), (0, [(11, 1)]), (0, [(12, 1)]), (0, [(13, 1)]), (4, []), (0, [(6, 1)]), (0, [(0, 1)]), (0, [(7, 1)]), (0, [(0, 1)]), (0, []), (0, [(5, 1)])]) :: (238, [(6, []), (0, [(11, 1)]), (0, [(12, 1)]), (0, [(13, 1)]), (4, []), (0, [(6, 1)]), (0, [(0, 1)]), (0, [(7, 1)]), (0, [(0, 1)]), (0, []), (0, [(1, 1)])]) :: t
def lm_884p : zS := ((lm_716pi_0 (lm_716pi_1 [])), [(107, false), (111, false)], [(0, [(1, 1)]), (5, [(1, (-1))]), (0, [(0, 1)]), ((-1), [(0, (-1)), (7, 1)]), (6, [(7, (-1))]), ((-1), [(1, (-1)), (8, 1)]), (6, [(8, (-1))])], [], [(0, 0, 0, [(0, 1)]), (0, 0, 0, [(1, 1)])], [(0, (true, 0, 0, [(0, 1)]), 0, 0, 0, [(4, 1)]), (1, (true, 0, 0, [(1, 1)]), 0, 0, 0, [(5, 1)])], (lm_884pg_0 []))
def lm_884 : zLem := (lm_884p, [([((-2147483648), 2147483647), ((-2147483648), 2147483647), ((-2147483648), 2147483647), ((-2147483648), 2147483647), ((-2147483648), 2147483647), ((-2147483648), 2147483647), ((-2147483648), 2147483647), ((-2147483648), 2147483647), ((-2147483648), 2147483647), ((-2147483648), 2147483647), ((-2147483648), 2147483647), ((-2147483648), 2147483647), ((-2147483648), 2147483647), ((-2147483648), 2147483647)], [(107, false), (111, false)], [], [], [], [], [(236, [(0, [(7, 1)]), (0, [(8, 1)]), (0, [(9, 1)]), (0, [(10, 1)]), (0, [(11, 1)]), (0, [(12, 1)]), (0, [(13, 1)]), (4, []), (0, [(6, 1)]), (1, [(0, 1)]), (0, [(7, 1)])])])])
theorem lk_884 : l_core lm_884 := by
  first
  | skip
    intro v x h
    have G0 := h.2.2.1
    have G1 := G0.2
    have K := k_ageEYt (V := v) (h := x 0) (i := x 1) (x := x 2) (z := x 3) (v := x 4) (w := x 5) (n := x 6) (H := x 7) (p := x 8) (y := x 9) (d := x 10) (q := x 11) (b := x 12) (s := x 13) (l_c13 (fun w0 w1 w2 w3 w4 w5 w6 w7 w8 w9 w10 w11 w12 : Int => q_sax v 1 w0 w1 w2 w3 w4 w5 w6 w7 w8 w9 w0 w9 w10 w11 w12) (l_e1 x 7) (l_e1 x 8) (l_e1 x 9) (l_e1 x 10) (l_e1 x 11) (l_e1 x 12) (l_e1 x 13) (l_e0 x (4)) (l_e1 x 6) (l_e1 x 0) (l_e1 x 1) (l_e1 x 2) (l_e1 x 3) (h.2.2.2.1)) (l_c10 (fun w0 w1 w2 w3 w4 w5 w6 w7 w8 w9 : Int => q_qry v w0 w1 w2 w3 w4 w5 w6 w7 w6 w8 w9) (l_e0 x (20)) (l_e1 x 11) (l_e1 x 12) (l_e1 x 13) (l_e0 x (4)) (l_e1 x 6) (l_e1 x 0) (l_e1 x 7) (l_e0 x (0)) (l_e1 x 4) (h.2.2.2.2.1)) (l_c10 (fun w0 w1 w2 w3 w4 w5 w6 w7 w8 w9 : Int => q_qry v w0 w1 w2 w3 w4 w5 w6 w7 w6 w8 w9) (l_e0 x (21)) (l_e1 x 11) (l_e1 x 12) (l_e1 x 13) (l_e0 x (4)) (l_e1 x 6) (l_e1 x 0) (l_e1 x 7) (l_e0 x (0)) (l_e1 x 5) (h.2.2.2.2.2.1)) (l_c10 (fun w0 w1 w2 w3 w4 w5 w6 w7 w8 w9 : Int => q_qry v w0 w1 w2 w3 w4 w5 w6 w7 w6 w8 w9) (l_e0 x (6)) (l_e1 x 11) (l_e1 x 12) (l_e1 x 13) (l_e0 x (4)) (l_e1 x 6) (l_e1 x 0) (l_e1 x 7) (l_e0 x (0)) (l_e1 x 1) (h.2.2.2.2.2.2.1)) (l_cc (l_e1 x 1) (h.2.1.1)) (l_cc (l_q1 5 x 1) (h.2.1.2.1)) (l_cc (l_e1 x 0) (h.2.1.2.2.1)) (l_cc (l_q6 1 x 0 7) (h.2.1.2.2.2.1)) (l_cc (l_q1 6 x 7) (h.2.1.2.2.2.2.1)) (l_cc (l_q6 1 x 1 8) (h.2.1.2.2.2.2.2.1)) (l_cc (l_q1 6 x 8) (h.2.1.2.2.2.2.2.2.1)) (l_ff (f := v 107) (L := j_len 107) (l_e1 x 0) (l_e1 x 4) (G0.1.1)) (l_ff (f := v 111) (L := j_len 111) (l_e1 x 1) (l_e1 x 5) (G1.1.1))
    refine l_outH rfl (And.intro h.1 ?_)
    exact l_o10 (fun w0 w1 w2 w3 w4 w5 w6 w7 w8 w9 : Int => (True) ∧ (q_sto v 1 w0 w1 w2 w3 w4 w5 w6 w7 w8 w9 w0 ∧ True)) (l_e1 x 7) (l_e1 x 8) (l_e1 x 9) (l_e1 x 10) (l_e1 x 11) (l_e1 x 12) (l_e1 x 13) (l_e0 x (4)) (l_e1 x 6) (l_q3 1 x 0) K
  | skip
    intro v x h
    have G0 := h.2.2.1
    have G1 := G0.2
    have C0 : (0 : Int) ≤ x 1 := l_cc (a := y_ev x (0, [(1, 1)])) (l_e1 _ _) (h.2.1.1)
    have C1 : (0 : Int) ≤ 5 - x 1 := l_cc (a := y_ev x (5, [(1, (-1))])) (by show ((5) : Int) + ((-1) * x 1 + 0) = 5 - x 1; omega) (h.2.1.2.1)
    have C2 : (0 : Int) ≤ x 0 := l_cc (a := y_ev x (0, [(0, 1)])) (l_e1 _ _) (h.2.1.2.2.1)
    have C3 : (0 : Int) ≤ x 7 - x 0 - 1 := l_cc (a := y_ev x ((-1), [(0, (-1)), (7, 1)])) (by show ((-1) : Int) + ((-1) * x 0 + ((1) * x 7 + 0)) = x 7 - x 0 - 1; omega) (h.2.1.2.2.2.1)
    have C4 : (0 : Int) ≤ 6 - x 7 := l_cc (a := y_ev x (6, [(7, (-1))])) (by show ((6) : Int) + ((-1) * x 7 + 0) = 6 - x 7; omega) (h.2.1.2.2.2.2.1)
    have C5 : (0 : Int) ≤ x 8 - x 1 - 1 := l_cc (a := y_ev x ((-1), [(1, (-1)), (8, 1)])) (by show ((-1) : Int) + ((-1) * x 1 + ((1) * x 8 + 0)) = x 8 - x 1 - 1; omega) (h.2.1.2.2.2.2.2.1)
    have C6 : (0 : Int) ≤ 6 - x 8 := l_cc (a := y_ev x (6, [(8, (-1))])) (by show ((6) : Int) + ((-1) * x 8 + 0) = 6 - x 8; omega) (h.2.1.2.2.2.2.2.2.1)
    have F0 : (0 : Int) ≤ x 0 ∧ (x 0 : Int) < j_len 107 ∧ v 107 (x 0) = x 4 := l_ff (f := v 107) (L := j_len 107) (a := y_ev x (0, [(0, 1)])) (b := y_ev x (0, [(4, 1)])) (l_e1 _ _) (l_e1 _ _) (G0.1.1)
    have F1 : (0 : Int) ≤ x 1 ∧ (x 1 : Int) < j_len 111 ∧ v 111 (x 1) = x 5 := l_ff (f := v 111) (L := j_len 111) (a := y_ev x (0, [(1, 1)])) (b := y_ev x (0, [(5, 1)])) (l_e1 _ _) (l_e1 _ _) (G1.1.1)
    have E0 : y_ev x (0, [(7, 1)]) = x 7 := (l_e1 _ _)
    have E1 : y_ev x (0, [(8, 1)]) = x 8 := (l_e1 _ _)
    have E2 : y_ev x (0, [(9, 1)]) = x 9 := (l_e1 _ _)
    have E3 : y_ev x (0, [(10, 1)]) = x 10 := (l_e1 _ _)
    have E4 : y_ev x (0, [(11, 1)]) = x 11 := (l_e1 _ _)
    have E5 : y_ev x (0, [(12, 1)]) = x 12 := (l_e1 _ _)
    have E6 : y_ev x (0, [(13, 1)]) = x 13 := (l_e1 _ _)
    have E7 : y_ev x (4, []) = 4 := (l_e0 _ _)
    have E8 : y_ev x (0, [(6, 1)]) = x 6 := (l_e1 _ _)
    have E9 : y_ev x (0, [(0, 1)]) = x 0 := (l_e1 _ _)
    have E10 : y_ev x (0, [(1, 1)]) = x 1 := (l_e1 _ _)
    have E11 : y_ev x (0, [(2, 1)]) = x 2 := (l_e1 _ _)
    have E12 : y_ev x (0, [(3, 1)]) = x 3 := (l_e1 _ _)
    have E13 : y_ev x (20, []) = 20 := (l_e0 _ _)
    have E14 : y_ev x (0, []) = 0 := (l_e0 _ _)
    have E15 : y_ev x (0, [(4, 1)]) = x 4 := (l_e1 _ _)
    have E16 : y_ev x (21, []) = 21 := (l_e0 _ _)
    have E17 : y_ev x (0, [(5, 1)]) = x 5 := (l_e1 _ _)
    have E18 : y_ev x (6, []) = 6 := (l_e0 _ _)
    have T0 : q_sax v 1 (y_ev x (0, [(7, 1)])) (y_ev x (0, [(8, 1)])) (y_ev x (0, [(9, 1)])) (y_ev x (0, [(10, 1)])) (y_ev x (0, [(11, 1)])) (y_ev x (0, [(12, 1)])) (y_ev x (0, [(13, 1)])) (y_ev x (4, [])) (y_ev x (0, [(6, 1)])) (y_ev x (0, [(0, 1)])) (y_ev x (0, [(7, 1)])) (y_ev x (0, [(0, 1)])) (y_ev x (0, [(1, 1)])) (y_ev x (0, [(2, 1)])) (y_ev x (0, [(3, 1)])) := h.2.2.2.1
    (try rw [E0] at T0); (try rw [E1] at T0); (try rw [E2] at T0); (try rw [E3] at T0); (try rw [E4] at T0); (try rw [E5] at T0); (try rw [E6] at T0); (try rw [E7] at T0); (try rw [E8] at T0); (try rw [E9] at T0); (try rw [E10] at T0); (try rw [E11] at T0); (try rw [E12] at T0)
    have T1 : q_qry v (y_ev x (20, [])) (y_ev x (0, [(11, 1)])) (y_ev x (0, [(12, 1)])) (y_ev x (0, [(13, 1)])) (y_ev x (4, [])) (y_ev x (0, [(6, 1)])) (y_ev x (0, [(0, 1)])) (y_ev x (0, [(7, 1)])) (y_ev x (0, [(0, 1)])) (y_ev x (0, [])) (y_ev x (0, [(4, 1)])) := h.2.2.2.2.1
    (try rw [E13] at T1); (try rw [E4] at T1); (try rw [E5] at T1); (try rw [E6] at T1); (try rw [E7] at T1); (try rw [E8] at T1); (try rw [E9] at T1); (try rw [E0] at T1); (try rw [E14] at T1); (try rw [E15] at T1)
    have T2 : q_qry v (y_ev x (21, [])) (y_ev x (0, [(11, 1)])) (y_ev x (0, [(12, 1)])) (y_ev x (0, [(13, 1)])) (y_ev x (4, [])) (y_ev x (0, [(6, 1)])) (y_ev x (0, [(0, 1)])) (y_ev x (0, [(7, 1)])) (y_ev x (0, [(0, 1)])) (y_ev x (0, [])) (y_ev x (0, [(5, 1)])) := h.2.2.2.2.2.1
    (try rw [E16] at T2); (try rw [E4] at T2); (try rw [E5] at T2); (try rw [E6] at T2); (try rw [E7] at T2); (try rw [E8] at T2); (try rw [E9] at T2); (try rw [E0] at T2); (try rw [E14] at T2); (try rw [E17] at T2)
    have T3 : q_qry v (y_ev x (6, [])) (y_ev x (0, [(11, 1)])) (y_ev x (0, [(12, 1)])) (y_ev x (0, [(13, 1)])) (y_ev x (4, [])) (y_ev x (0, [(6, 1)])) (y_ev x (0, [(0, 1)])) (y_ev x (0, [(7, 1)])) (y_ev x (0, [(0, 1)])) (y_ev x (0, [])) (y_ev x (0, [(1, 1)])) := h.2.2.2.2.2.2.1
    (try rw [E18] at T3); (try rw [E4] at T3); (try rw [E5] at T3); (try rw [E6] at T3); (try rw [E7] at T3); (try rw [E8] at T3); (try rw [E9] at T3); (try rw [E0] at T3); (try rw [E14] at T3); (try rw [E10] at T3)
    have K := k_ageEYt (V := v) (h := x 0) (i := x 1) (x := x 2) (z := x 3) (v := x 4) (w := x 5) (n := x 6) (H := x 7) (p := x 8) (y := x 9) (d := x 10) (q := x 11) (b := x 12) (s := x 13) T0 T1 T2 T3 C0 C1 C2 C3 C4 C5 C6 F0 F1
    refine l_outH rfl (And.intro h.1 ?_)
    have O0 : y_ev x (0, [(7, 1)]) = x 7 := l_e1 _ _
    have O1 : y_ev x (0, [(8, 1)]) = x 8 := l_e1 _ _
    have O2 : y_ev x (0, [(9, 1)]) = x 9 := l_e1 _ _
    have O3 : y_ev x (0, [(10, 1)]) = x 10 := l_e1 _ _
    have O4 : y_ev x (0, [(11, 1)]) = x 11 := l_e1 _ _
    have O5 : y_ev x (0, [(12, 1)]) = x 12 := l_e1 _ _
    have O6 : y_ev x (0, [(13, 1)]) = x 13 := l_e1 _ _
    have O7 : y_ev x (4, []) = 4 := l_e0 _ _
    have O8 : y_ev x (0, [(6, 1)]) = x 6 := l_e1 _ _
    have O9 : y_ev x (1, [(0, 1)]) = x 0 + 1 := by show ((1) : Int) + ((1) * x 0 + 0) = _; omega
    show (True) ∧ (q_sto v 1 (y_ev x (0, [(7, 1)])) (y_ev x (0, [(8, 1)])) (y_ev x (0, [(9, 1)])) (y_ev x (0, [(10, 1)])) (y_ev x (0, [(11, 1)])) (y_ev x (0, [(12, 1)])) (y_ev x (0, [(13, 1)])) (y_ev x (4, [])) (y_ev x (0, [(6, 1)])) (y_ev x (1, [(0, 1)])) (y_ev x (0, [(7, 1)])) ∧ True)
    (try rw [O0]); (try rw [O1]); (try rw [O2]); (try rw [O3]); (try rw [O4]); (try rw [O5]); (try rw [O6]); (try rw [O7]); (try rw [O8]); (try rw [O9])
    exact K
def lm_885pg_0 (t : List zTg) : List zTg := (258, [(0, [(4, 1)]), (0, [(5, 1)]), (0, [(6, 1)]), (0, [(7, 1)]), (0, [(8, 1)]), (0, [(9, 1)]), (0, [(10, 1)]), (4, []), (0, [(3, 1)]), (0, [(0, 1)]), (0, [(4, 1)]), (0, [(0, 1)]), ((-1), []), (0, [(1, 1)]), (0, [])]) :: (238, [(20, []), (0, [(8, 1)]), (0, [(9, 1)]), (0, [(10, 1)]), (4, []), (0, [(3, 1)]), (0, [(0, 1)]), (0, [(4, 1)]), (0, [(0, 1)]), (0, []), (0, [(2, 1)])]) :: (238, [(6, []), (0, [(8, 1)]), (0, [(9, 1)]), (0, [(10, 1)]), (4, []), (0, [(3, 1)]), (0, [(0, 1)]), (0, [(4, 1)]), (0, [(0, 1)]), (0, []), ((-1), [])]) :: t
def lm_885p : zS := ((lm_416pi_0 (lm_416pi_1 [])), [(107, false)], [(0, [(0, 1)]), ((-1), [(0, (-1)), (4, 1)]), (6, [(4, (-1))]), (0, [(5, 1)]), (6, [(5, (-1))])], [], [(0, 0, 0, [(0, 1)])], [(0, (true, 0, 0, [(0, 1)]), 0, 0, 0, [(2, 1)])], (lm_885pg_0 []))
def lm_885 : zLem := (lm_885p, [([((-2147483648), 2147483647), ((-2147483648), 2147483647), ((-2147483648), 2147483647), ((-2147483648), 2147483647), ((-2147483648), 2147483647), ((-2147483648), 2147483647), ((-2147483648), 2147483647), ((-2147483648), 2147483647), ((-2147483648), 2147483647), ((-2147483648), 2147483647), ((-2147483648), 2147483647)], [(107, false)], [], [], [], [], [(236, [(0, [(4, 1)]), (0, [(5, 1)]), (0, [(6, 1)]), (0, [(7, 1)]), (0, [(8, 1)]), (0, [(9, 1)]), (0, [(10, 1)]), (4, []), (0, [(3, 1)]), (1, [(0, 1)]), (0, [(4, 1)])])])])
theorem lk_885 : l_core lm_885 := by
  first
  | skip
    intro v x h
    have G0 := h.2.2.1
    have K := k_ageENt (V := v) (h := x 0) (x := x 1) (v := x 2) (n := x 3) (H := x 4) (p := x 5) (y := x 6) (d := x 7) (q := x 8) (b := x 9) (s := x 10) (l_c13 (fun w0 w1 w2 w3 w4 w5 w6 w7 w8 w9 w10 w11 w12 : Int => q_sax v 1 w0 w1 w2 w3 w4 w5 w6 w7 w8 w9 w0 w9 w10 w11 w12) (l_e1 x 4) (l_e1 x 5) (l_e1 x 6) (l_e1 x 7) (l_e1 x 8) (l_e1 x 9) (l_e1 x 10) (l_e0 x (4)) (l_e1 x 3) (l_e1 x 0) (l_e0 x (-1)) (l_e1 x 1) (l_e0 x (0)) (h.2.2.2.1)) (l_c10 (fun w0 w1 w2 w3 w4 w5 w6 w7 w8 w9 : Int => q_qry v w0 w1 w2 w3 w4 w5 w6 w7 w6 w8 w9) (l_e0 x (20)) (l_e1 x 8) (l_e1 x 9) (l_e1 x 10) (l_e0 x (4)) (l_e1 x 3) (l_e1 x 0) (l_e1 x 4) (l_e0 x (0)) (l_e1 x 2) (h.2.2.2.2.1)) (l_c10 (fun w0 w1 w2 w3 w4 w5 w6 w7 w8 w9 : Int => q_qry v w0 w1 w2 w3 w4 w5 w6 w7 w6 w8 w9) (l_e0 x (6)) (l_e1 x 8) (l_e1 x 9) (l_e1 x 10) (l_e0 x (4)) (l_e1 x 3) (l_e1 x 0) (l_e1 x 4) (l_e0 x (0)) (l_e0 x (-1)) (h.2.2.2.2.2.1)) (l_cc (l_e1 x 0) (h.2.1.1)) (l_cc (l_q6 1 x 0 4) (h.2.1.2.1)) (l_cc (l_q1 6 x 4) (h.2.1.2.2.1)) (l_cc (l_e1 x 5) (h.2.1.2.2.2.1)) (l_cc (l_q1 6 x 5) (h.2.1.2.2.2.2.1)) (l_ff (f := v 107) (L := j_len 107) (l_e1 x 0) (l_e1 x 2) (G0.1.1))
    refine l_outH rfl (And.intro h.1 ?_)
    exact l_o10 (fun w0 w1 w2 w3 w4 w5 w6 w7 w8 w9 : Int => (True) ∧ (q_sto v 1 w0 w1 w2 w3 w4 w5 w6 w7 w8 w9 w0 ∧ True)) (l_e1 x 4) (l_e1 x 5) (l_e1 x 6) (l_e1 x 7) (l_e1 x 8) (l_e1 x 9) (l_e1 x 10) (l_e0 x (4)) (l_e1 x 3) (l_q3 1 x 0) K
  | skip
    intro v x h
    have G0 := h.2.2.1
    have C0 : (0 : Int) ≤ x 0 := l_cc (a := y_ev x (0, [(0, 1)])) (l_e1 _ _) (h.2.1.1)
    have C1 : (0 : Int) ≤ x 4 - x 0 - 1 := l_cc (a := y_ev x ((-1), [(0, (-1)), (4, 1)])) (by show ((-1) : Int) + ((-1) * x 0 + ((1) * x 4 + 0)) = x 4 - x 0 - 1; omega) (h.2.1.2.1)
    have C2 : (0 : Int) ≤ 6 - x 4 := l_cc (a := y_ev x (6, [(4, (-1))])) (by show ((6) : Int) + ((-1) * x 4 + 0) = 6 - x 4; omega) (h.2.1.2.2.1)
    have C3 : (0 : Int) ≤ x 5 := l_cc (a := y_ev x (0, [(5, 1)])) (l_e1 _ _) (h.2.1.2.2.2.1)
    have C4 : (0 : Int) ≤ 6 - x 5 := l_cc (a := y_ev x (6, [(5, (-1))])) (by show ((6) : Int) + ((-1) * x 5 + 0) = 6 - x 5; omega) (h.2.1.2.2.2.2.1)
    have F0 : (0 : Int) ≤ x 0 ∧ (x 0 : Int) < j_len 107 ∧ v 107 (x 0) = x 2 := l_ff (f := v 107) (L := j_len 107) (a := y_ev x (0, [(0, 1)])) (b := y_ev x (0, [(2, 1)])) (l_e1 _ _) (l_e1 _ _) (G0.1.1)
    have E0 : y_ev x (0, [(4, 1)]) = x 4 := (l_e1 _ _)
    have E1 : y_ev x (0, [(5, 1)]) = x 5 := (l_e1 _ _)
    have E2 : y_ev x (0, [(6, 1)]) = x 6 := (l_e1 _ _)
    have E3 : y_ev x (0, [(7, 1)]) = x 7 := (l_e1 _ _)
    have E4 : y_ev x (0, [(8, 1)]) = x 8 := (l_e1 _ _)
    have E5 : y_ev x (0, [(9, 1)]) = x 9 := (l_e1 _ _)
    have E6 : y_ev x (0, [(10, 1)]) = x 10 := (l_e1 _ _)
    have E7 : y_ev x (4, []) = 4 := (l_e0 _ _)
    have E8 : y_ev x (0, [(3, 1)]) = x 3 := (l_e1 _ _)
    have E9 : y_ev x (0, [(0, 1)]) = x 0 := (l_e1 _ _)
    have E10 : y_ev x ((-1), []) = (-1) := (l_e0 _ _)
    have E11 : y_ev x (0, [(1, 1)]) = x 1 := (l_e1 _ _)
    have E12 : y_ev x (0, []) = 0 := (l_e0 _ _)
    have E13 : y_ev x (20, []) = 20 := (l_e0 _ _)
    have E14 : y_ev x (0, [(2, 1)]) = x 2 := (l_e1 _ _)
    have E15 : y_ev x (6, []) = 6 := (l_e0 _ _)
    have T0 : q_sax v 1 (y_ev x (0, [(4, 1)])) (y_ev x (0, [(5, 1)])) (y_ev x (0, [(6, 1)])) (y_ev x (0, [(7, 1)])) (y_ev x (0, [(8, 1)])) (y_ev x (0, [(9, 1)])) (y_ev x (0, [(10, 1)])) (y_ev x (4, [])) (y_ev x (0, [(3, 1)])) (y_ev x (0, [(0, 1)])) (y_ev x (0, [(4, 1)])) (y_ev x (0, [(0, 1)])) (y_ev x ((-1), [])) (y_ev x (0, [(1, 1)])) (y_ev x (0, [])) := h.2.2.2.1
    (try rw [E0] at T0); (try rw [E1] at T0); (try rw [E2] at T0); (try rw [E3] at T0); (try rw [E4] at T0); (try rw [E5] at T0); (try rw [E6] at T0); (try rw [E7] at T0); (try rw [E8] at T0); (try rw [E9] at T0); (try rw [E10] at T0); (try rw [E11] at T0); (try rw [E12] at T0)
    have T1 : q_qry v (y_ev x (20, [])) (y_ev x (0, [(8, 1)])) (y_ev x (0, [(9, 1)])) (y_ev x (0, [(10, 1)])) (y_ev x (4, [])) (y_ev x (0, [(3, 1)])) (y_ev x (0, [(0, 1)])) (y_ev x (0, [(4, 1)])) (y_ev x (0, [(0, 1)])) (y_ev x (0, [])) (y_ev x (0, [(2, 1)])) := h.2.2.2.2.1
    (try rw [E13] at T1); (try rw [E4] at T1); (try rw [E5] at T1); (try rw [E6] at T1); (try rw [E7] at T1); (try rw [E8] at T1); (try rw [E9] at T1); (try rw [E0] at T1); (try rw [E12] at T1); (try rw [E14] at T1)
    have T2 : q_qry v (y_ev x (6, [])) (y_ev x (0, [(8, 1)])) (y_ev x (0, [(9, 1)])) (y_ev x (0, [(10, 1)])) (y_ev x (4, [])) (y_ev x (0, [(3, 1)])) (y_ev x (0, [(0, 1)])) (y_ev x (0, [(4, 1)])) (y_ev x (0, [(0, 1)])) (y_ev x (0, [])) (y_ev x ((-1), [])) := h.2.2.2.2.2.1
    (try rw [E15] at T2); (try rw [E4] at T2); (try rw [E5] at T2); (try rw [E6] at T2); (try rw [E7] at T2); (try rw [E8] at T2); (try rw [E9] at T2); (try rw [E0] at T2); (try rw [E12] at T2); (try rw [E10] at T2)
    have K := k_ageENt (V := v) (h := x 0) (x := x 1) (v := x 2) (n := x 3) (H := x 4) (p := x 5) (y := x 6) (d := x 7) (q := x 8) (b := x 9) (s := x 10) T0 T1 T2 C0 C1 C2 C3 C4 F0
    refine l_outH rfl (And.intro h.1 ?_)
    have O0 : y_ev x (0, [(4, 1)]) = x 4 := l_e1 _ _
    have O1 : y_ev x (0, [(5, 1)]) = x 5 := l_e1 _ _
    have O2 : y_ev x (0, [(6, 1)]) = x 6 := l_e1 _ _
    have O3 : y_ev x (0, [(7, 1)]) = x 7 := l_e1 _ _
    have O4 : y_ev x (0, [(8, 1)]) = x 8 := l_e1 _ _
    have O5 : y_ev x (0, [(9, 1)]) = x 9 := l_e1 _ _
    have O6 : y_ev x (0, [(10, 1)]) = x 10 := l_e1 _ _
    have O7 : y_ev x (4, []) = 4 := l_e0 _ _
    have O8 : y_ev x (0, [(3, 1)]) = x 3 := l_e1 _ _
    have O9 : y_ev x (1, [(0, 1)]) = x 0 + 1 := by show ((1) : Int) + ((1) * x 0 + 0) = _; omega
    show (True) ∧ (q_sto v 1 (y_ev x (0, [(4, 1)])) (y_ev x (0, [(5, 1)])) (y_ev x (0, [(6, 1)])) (y_ev x (0, [(7, 1)])) (y_ev x (0, [(8, 1)])) (y_ev x (0, [(9, 1)])) (y_ev x (0, [(10, 1)])) (y_ev x (4, [])) (y_ev x (0, [(3, 1)])) (y_ev x (1, [(0, 1)])) (y_ev x (0, [(4, 1)])) ∧ True)
    (try rw [O0]); (try rw [O1]); (try rw [O2]); (try rw [O3]); (try rw [O4]); (try rw [O5]); (try rw [O6]); (try rw [O7]); (try rw [O8]); (try rw [O9])
    exact K
def lm_886pg_0 (t : List zTg) : List zTg := (258, [(0, [(7, 1)]), (0, [(8, 1)]), (0, [(9, 1)]), (0, [(10, 1)]), (0, [(11, 1)]), (0, [(12, 1)]), (0, [(13, 1)]), (5, []), (0, [(6, 1)]), (0, [(0, 1)]), (0, []), (0, [(0, 1)]), (0, [(1, 1)]), (0, [(2, 1)]), (0, [(3, 1)])]) :: (238, [(20, []), (0, [(11, 1)]), (0, [(12, 1)]), (0, [(13, 1)]), (5, []), (0, [(6, 1)]), (0, [(0, 1)]), (0, []), (0, [(0, 1)]), (0, []), (0, [(4, 1)])]) :: (238, [(21, []), (0, [(11, 1)]), (0, [(12, 1)]), (0, [(13, 1)]), (5, []), (0, [(6, 1)]), (0, [(0, 1)]), (0, []), (0, [(0, 1)]), (0, []), (0, [(5, 1)])]) :: (238, [(6, []), (0, [(11, 1)]), (0, [(12, 1)]), (0, [(13, 1)]), (5, []), (0, [(6, 1)]), (0, [(0, 1)]), (0, []), (0, [(0, 1)]), (0, []), (0, [(1, 1)])]) :: t
def lm_886p : zS := ((lm_716pi_0 (lm_716pi_1 [])), [(107, false), (111, false)], [(0, [(1, 1)]), (5, [(1, (-1))]), (0, [(0, 1)]), ((-1), [(0, (-1)), (7, 1)]), (6, [(7, (-1))]), ((-1), [(1, (-1)), (8, 1)]), (6, [(8, (-1))])], [], [(0, 0, 0, [(0, 1)]), (0, 0, 0, [(1, 1)])], [(0, (true, 0, 0, [(0, 1)]), 0, 0, 0, [(4, 1)]), (1, (true, 0, 0, [(1, 1)]), 0, 0, 0, [(5, 1)])], (lm_886pg_0 []))
def lm_886 : zLem := (lm_886p, [([((-2147483648), 2147483647), ((-2147483648), 2147483647), ((-2147483648), 2147483647), ((-2147483648), 2147483647), ((-2147483648), 2147483647), ((-2147483648), 2147483647), ((-2147483648), 2147483647), ((-2147483648), 2147483647), ((-2147483648), 2147483647), ((-2147483648), 2147483647), ((-2147483648), 2147483647), ((-2147483648), 2147483647), ((-2147483648), 2147483647), ((-2147483648), 2147483647)], [(107, false), (111, false)], [], [], [], [], [(236, [(0, [(7, 1)]), (0, [(8, 1)]), (0, [(9, 1)]), (0, [(10, 1)]), (0, [(11, 1)]), (0, [(12, 1)]), (0, [(13, 1)]), (5, []), (0, [(6, 1)]), (0, [(0, 1)]), (1, [])])])])
theorem lk_886 : l_core lm_886 := by
  first
  | skip
    intro v x h
    have G0 := h.2.2.1
    have G1 := G0.2
    have K := k_ageSYt (V := v) (h := x 0) (i := x 1) (x := x 2) (z := x 3) (v := x 4) (w := x 5) (n := x 6) (H := x 7) (p := x 8) (y := x 9) (d := x 10) (q := x 11) (b := x 12) (s := x 13) (l_c14 (fun w0 w1 w2 w3 w4 w5 w6 w7 w8 w9 w10 w11 w12 w13 : Int => q_sax v 1 w0 w1 w2 w3 w4 w5 w6 w7 w8 w9 w10 w9 w11 w12 w13) (l_e1 x 7) (l_e1 x 8) (l_e1 x 9) (l_e1 x 10) (l_e1 x 11) (l_e1 x 12) (l_e1 x 13) (l_e0 x (5)) (l_e1 x 6) (l_e1 x 0) (l_e0 x (0)) (l_e1 x 1) (l_e1 x 2) (l_e1 x 3) (h.2.2.2.1)) (l_c9 (fun w0 w1 w2 w3 w4 w5 w6 w7 w8 : Int => q_qry v w0 w1 w2 w3 w4 w5 w6 w7 w6 w7 w8) (l_e0 x (20)) (l_e1 x 11) (l_e1 x 12) (l_e1 x 13) (l_e0 x (5)) (l_e1 x 6) (l_e1 x 0) (l_e0 x (0)) (l_e1 x 4) (h.2.2.2.2.1)) (l_c9 (fun w0 w1 w2 w3 w4 w5 w6 w7 w8 : Int => q_qry v w0 w1 w2 w3 w4 w5 w6 w7 w6 w7 w8) (l_e0 x (21)) (l_e1 x 11) (l_e1 x 12) (l_e1 x 13) (l_e0 x (5)) (l_e1 x 6) (l_e1 x 0) (l_e0 x (0)) (l_e1 x 5) (h.2.2.2.2.2.1)) (l_c9 (fun w0 w1 w2 w3 w4 w5 w6 w7 w8 : Int => q_qry v w0 w1 w2 w3 w4 w5 w6 w7 w6 w7 w8) (l_e0 x (6)) (l_e1 x 11) (l_e1 x 12) (l_e1 x 13) (l_e0 x (5)) (l_e1 x 6) (l_e1 x 0) (l_e0 x (0)) (l_e1 x 1) (h.2.2.2.2.2.2.1)) (l_cc (l_e1 x 1) (h.2.1.1)) (l_cc (l_q1 5 x 1) (h.2.1.2.1)) (l_cc (l_e1 x 0) (h.2.1.2.2.1)) (l_cc (l_q6 1 x 0 7) (h.2.1.2.2.2.1)) (l_cc (l_q1 6 x 7) (h.2.1.2.2.2.2.1)) (l_cc (l_q6 1 x 1 8) (h.2.1.2.2.2.2.2.1)) (l_cc (l_q1 6 x 8) (h.2.1.2.2.2.2.2.2.1)) (l_ff (f := v 107) (L := j_len 107) (l_e1 x 0) (l_e1 x 4) (G0.1.1)) (l_ff (f := v 111) (L := j_len 111) (l_e1 x 1) (l_e1 x 5) (G1.1.1))
    refine l_outH rfl (And.intro h.1 ?_)
    exact l_o11 (fun w0 w1 w2 w3 w4 w5 w6 w7 w8 w9 w10 : Int => (True) ∧ (q_sto v 1 w0 w1 w2 w3 w4 w5 w6 w7 w8 w9 w10 ∧ True)) (l_e1 x 7) (l_e1 x 8) (l_e1 x 9) (l_e1 x 10) (l_e1 x 11) (l_e1 x 12) (l_e1 x 13) (l_e0 x (5)) (l_e1 x 6) (l_e1 x 0) (l_e0 x (1)) K
  | skip
    intro v x h
    have G0 := h.2.2.1
    have G1 := G0.2
    have C0 : (0 : Int) ≤ x 1 := l_cc (a := y_ev x (0, [(1, 1)])) (l_e1 _ _) (h.2.1.1)
    have C1 : (0 : Int) ≤ 5 - x 1 := l_cc (a := y_ev x (5, [(1, (-1))])) (by show ((5) : Int) + ((-1) * x 1 + 0) = 5 - x 1; omega) (h.2.1.2.1)
    have C2 : (0 : Int) ≤ x 0 := l_cc (a := y_ev x (0, [(0, 1)])) (l_e1 _ _) (h.2.1.2.2.1)
    have C3 : (0 : Int) ≤ x 7 - x 0 - 1 := l_cc (a := y_ev x ((-1), [(0, (-1)), (7, 1)])) (by show ((-1) : Int) + ((-1) * x 0 + ((1) * x 7 + 0)) = x 7 - x 0 - 1; omega) (h.2.1.2.2.2.1)
    have C4 : (0 : Int) ≤ 6 - x 7 := l_cc (a := y_ev x (6, [(7, (-1))])) (by show ((6) : Int) + ((-1) * x 7 + 0) = 6 - x 7; omega) (h.2.1.2.2.2.2.1)
    have C5 : (0 : Int) ≤ x 8 - x 1 - 1 := l_cc (a := y_ev x ((-1), [(1, (-1)), (8, 1)])) (by show ((-1) : Int) + ((-1) * x 1 + ((1) * x 8 + 0)) = x 8 - x 1 - 1; omega) (h.2.1.2.2.2.2.2.1)
    have C6 : (0 : Int) ≤ 6 - x 8 := l_cc (a := y_ev x (6, [(8, (-1))])) (by show ((6) : Int) + ((-1) * x 8 + 0) = 6 - x 8; omega) (h.2.1.2.2.2.2.2.2.1)
    have F0 : (0 : Int) ≤ x 0 ∧ (x 0 : Int) < j_len 107 ∧ v 107 (x 0) = x 4 := l_ff (f := v 107) (L := j_len 107) (a := y_ev x (0, [(0, 1)])) (b := y_ev x (0, [(4, 1)])) (l_e1 _ _) (l_e1 _ _) (G0.1.1)
    have F1 : (0 : Int) ≤ x 1 ∧ (x 1 : Int) < j_len 111 ∧ v 111 (x 1) = x 5 := l_ff (f := v 111) (L := j_len 111) (a := y_ev x (0, [(1, 1)])) (b := y_ev x (0, [(5, 1)])) (l_e1 _ _) (l_e1 _ _) (G1.1.1)
    have E0 : y_ev x (0, [(7, 1)]) = x 7 := (l_e1 _ _)
    have E1 : y_ev x (0, [(8, 1)]) = x 8 := (l_e1 _ _)
    have E2 : y_ev x (0, [(9, 1)]) = x 9 := (l_e1 _ _)
    have E3 : y_ev x (0, [(10, 1)]) = x 10 := (l_e1 _ _)
    have E4 : y_ev x (0, [(11, 1)]) = x 11 := (l_e1 _ _)
    have E5 : y_ev x (0, [(12, 1)]) = x 12 := (l_e1 _ _)
    have E6 : y_ev x (0, [(13, 1)]) = x 13 := (l_e1 _ _)
    have E7 : y_ev x (5, []) = 5 := (l_e0 _ _)
    have E8 : y_ev x (0, [(6, 1)]) = x 6 := (l_e1 _ _)
    have E9 : y_ev x (0, [(0, 1)]) = x 0 := (l_e1 _ _)
    have E10 : y_ev x (0, []) = 0 := (l_e0 _ _)
    have E11 : y_ev x (0, [(1, 1)]) = x 1 := (l_e1 _ _)
    have E12 : y_ev x (0, [(2, 1)]) = x 2 := (l_e1 _ _)
    have E13 : y_ev x (0, [(3, 1)]) = x 3 := (l_e1 _ _)
    have E14 : y_ev x (20, []) = 20 := (l_e0 _ _)
    have E15 : y_ev x (0, [(4, 1)]) = x 4 := (l_e1 _ _)
    have E16 : y_ev x (21, []) = 21 := (l_e0 _ _)
    have E17 : y_ev x (0, [(5, 1)]) = x 5 := (l_e1 _ _)
    have E18 : y_ev x (6, []) = 6 := (l_e0 _ _)
    have T0 : q_sax v 1 (y_ev x (0, [(7, 1)])) (y_ev x (0, [(8, 1)])) (y_ev x (0, [(9, 1)])) (y_ev x (0, [(10, 1)])) (y_ev x (0, [(11, 1)])) (y_ev x (0, [(12, 1)])) (y_ev x (0, [(13, 1)])) (y_ev x (5, [])) (y_ev x (0, [(6, 1)])) (y_ev x (0, [(0, 1)])) (y_ev x (0, [])) (y_ev x (0, [(0, 1)])) (y_ev x (0, [(1, 1)])) (y_ev x (0, [(2, 1)])) (y_ev x (0, [(3, 1)])) := h.2.2.2.1
    (try rw [E0] at T0); (try rw [E1] at T0); (try rw [E2] at T0); (try rw [E3] at T0); (try rw [E4] at T0); (try rw [E5] at T0); (try rw [E6] at T0); (try rw [E7] at T0); (try rw [E8] at T0); (try rw [E9] at T0); (try rw [E10] at T0); (try rw [E11] at T0); (try rw [E12] at T0); (try rw [E13] at T0)
    have T1 : q_qry v (y_ev x (20, [])) (y_ev x (0, [(11, 1)])) (y_ev x (0, [(12, 1)])) (y_ev x (0, [(13, 1)])) (y_ev x (5, [])) (y_ev x (0, [(6, 1)])) (y_ev x (0, [(0, 1)])) (y_ev x (0, [])) (y_ev x (0, [(0, 1)])) (y_ev x (0, [])) (y_ev x (0, [(4, 1)])) := h.2.2.2.2.1
    (try rw [E14] at T1); (try rw [E4] at T1); (try rw [E5] at T1); (try rw [E6] at T1); (try rw [E7] at T1); (try rw [E8] at T1); (try rw [E9] at T1); (try rw [E10] at T1); (try rw [E15] at T1)
    have T2 : q_qry v (y_ev x (21, [])) (y_ev x (0, [(11, 1)])) (y_ev x (0, [(12, 1)])) (y_ev x (0, [(13, 1)])) (y_ev x (5, [])) (y_ev x (0, [(6, 1)])) (y_ev x (0, [(0, 1)])) (y_ev x (0, [])) (y_ev x (0, [(0, 1)])) (y_ev x (0, [])) (y_ev x (0, [(5, 1)])) := h.2.2.2.2.2.1
    (try rw [E16] at T2); (try rw [E4] at T2); (try rw [E5] at T2); (try rw [E6] at T2); (try rw [E7] at T2); (try rw [E8] at T2); (try rw [E9] at T2); (try rw [E10] at T2); (try rw [E17] at T2)
    have T3 : q_qry v (y_ev x (6, [])) (y_ev x (0, [(11, 1)])) (y_ev x (0, [(12, 1)])) (y_ev x (0, [(13, 1)])) (y_ev x (5, [])) (y_ev x (0, [(6, 1)])) (y_ev x (0, [(0, 1)])) (y_ev x (0, [])) (y_ev x (0, [(0, 1)])) (y_ev x (0, [])) (y_ev x (0, [(1, 1)])) := h.2.2.2.2.2.2.1
    (try rw [E18] at T3); (try rw [E4] at T3); (try rw [E5] at T3); (try rw [E6] at T3); (try rw [E7] at T3); (try rw [E8] at T3); (try rw [E9] at T3); (try rw [E10] at T3); (try rw [E11] at T3)
    have K := k_ageSYt (V := v) (h := x 0) (i := x 1) (x := x 2) (z := x 3) (v := x 4) (w := x 5) (n := x 6) (H := x 7) (p := x 8) (y := x 9) (d := x 10) (q := x 11) (b := x 12) (s := x 13) T0 T1 T2 T3 C0 C1 C2 C3 C4 C5 C6 F0 F1
    refine l_outH rfl (And.intro h.1 ?_)
    have O0 : y_ev x (0, [(7, 1)]) = x 7 := l_e1 _ _
    have O1 : y_ev x (0, [(8, 1)]) = x 8 := l_e1 _ _
    have O2 : y_ev x (0, [(9, 1)]) = x 9 := l_e1 _ _
    have O3 : y_ev x (0, [(10, 1)]) = x 10 := l_e1 _ _
    have O4 : y_ev x (0, [(11, 1)]) = x 11 := l_e1 _ _
    have O5 : y_ev x (0, [(12, 1)]) = x 12 := l_e1 _ _
    have O6 : y_ev x (0, [(13, 1)]) = x 13 := l_e1 _ _
    have O7 : y_ev x (5, []) = 5 := l_e0 _ _
    have O8 : y_ev x (0, [(6, 1)]) = x 6 := l_e1 _ _
    have O9 : y_ev x (0, [(0, 1)]) = x 0 := l_e1 _ _
    have O10 : y_ev x (1, []) = 1 := l_e0 _ _
    show (True) ∧ (q_sto v 1 (y_ev x (0, [(7, 1)])) (y_ev x (0, [(8, 1)])) (y_ev x (0, [(9, 1)])) (y_ev x (0, [(10, 1)])) (y_ev x (0, [(11, 1)])) (y_ev x (0, [(12, 1)])) (y_ev x (0, [(13, 1)])) (y_ev x (5, [])) (y_ev x (0, [(6, 1)])) (y_ev x (0, [(0, 1)])) (y_ev x (1, [])) ∧ True)
    (try rw [O0]); (try rw [O1]); (try rw [O2]); (try rw [O3]); (try rw [O4]); (try rw [O5]); (try rw [O6]); (try rw [O7]); (try rw [O8]); (try rw [O9]); (try rw [O10])
    exact K
def lm_887pg_0 (t : List zTg) : List zTg := (258, [(0, [(4, 1)]), (0, [(5, 1)]), (0, [(6, 1)]), (0, [(7, 1)]), (0, [(8, 1)]), (0, [(9, 1)]), (0, [(10, 1)]), (5, []), (0, [(3, 1)]), (0, [(0, 1)]), (0, []), (0, [(0, 1)]), ((-1), []), (0, [(1, 1)]), (0, [])]) :: (238, [(20, []), (0, [(8, 1)]), (0, [(9, 1)]), (0, [(10, 1)]), (5, []), (0, [(3, 1)]), (0, [(0, 1)]), (0, []), (0, [(0, 1)]), (0, []), (0, [(2, 1)])]) :: (238, [(6, []), (0, [(8, 1)]), (0, [(9, 1)]), (0, [(10, 1)]), (5, []), (0, [(3, 1)]), (0, [(0, 1)]), (0, []), (0, [(0, 1)]), (0, []), ((-1), [])]) :: t
def lm_887p : zS := ((lm_416pi_0 (lm_416pi_1 [])), [(107, false)], [(0, [(0, 1)]), ((-1), [(0, (-1)), (4, 1)]), (6, [(4, (-1))]), (0, [(5, 1)]), (6, [(5, (-1))])], [], [(0, 0, 0, [(0, 1)])], [(0, (true, 0, 0, [(0, 1)]), 0, 0, 0, [(2, 1)])], (lm_887pg_0 []))
def lm_887 : zLem := (lm_887p, [([((-2147483648), 2147483647), ((-2147483648), 2147483647), ((-2147483648), 2147483647), ((-2147483648), 2147483647), ((-2147483648), 2147483647), ((-2147483648), 2147483647), ((-2147483648), 2147483647), ((-2147483648), 2147483647), ((-2147483648), 2147483647), ((-2147483648), 2147483647), ((-2147483648), 2147483647)], [(107, false)], [], [], [], [], [(236, [(0, [(4, 1)]), (0, [(5, 1)]), (0, [(6, 1)]), (0, [(7, 1)]), (0, [(8, 1)]), (0, [(9, 1)]), (0, [(10, 1)]), (5, []), (0, [(3, 1)]), (0, [(0, 1)]), (1, [])])])])
theorem lk_887 : l_core lm_887 := by
  first
  | skip
    intro v x h
    have G0 := h.2.2.1
    have K := k_ageSNt (V := v) (h := x 0) (x := x 1) (v := x 2) (n := x 3) (H := x 4) (p := x 5) (y := x 6) (d := x 7) (q := x 8) (b := x 9) (s := x 10) (l_c13 (fun w0 w1 w2 w3 w4 w5 w6 w7 w8 w9 w10 w11 w12 : Int => q_sax v 1 w0 w1 w2 w3 w4 w5 w6 w7 w8 w9 w10 w9 w11 w12 w10) (l_e1 x 4) (l_e1 x 5) (l_e1 x 6) (l_e1 x 7) (l_e1 x 8) (l_e1 x 9) (l_e1 x 10) (l_e0 x (5)) (l_e1 x 3) (l_e1 x 0) (l_e0 x (0)) (l_e0 x (-1)) (l_e1 x 1) (h.2.2.2.1)) (l_c9 (fun w0 w1 w2 w3 w4 w5 w6 w7 w8 : Int => q_qry v w0 w1 w2 w3 w4 w5 w6 w7 w6 w7 w8) (l_e0 x (20)) (l_e1 x 8) (l_e1 x 9) (l_e1 x 10) (l_e0 x (5)) (l_e1 x 3) (l_e1 x 0) (l_e0 x (0)) (l_e1 x 2) (h.2.2.2.2.1)) (l_c9 (fun w0 w1 w2 w3 w4 w5 w6 w7 w8 : Int => q_qry v w0 w1 w2 w3 w4 w5 w6 w7 w6 w7 w8) (l_e0 x (6)) (l_e1 x 8) (l_e1 x 9) (l_e1 x 10) (l_e0 x (5)) (l_e1 x 3) (l_e1 x 0) (l_e0 x (0)) (l_e0 x (-1)) (h.2.2.2.2.2.1)) (l_cc (l_e1 x 0) (h.2.1.1)) (l_cc (l_q6 1 x 0 4) (h.2.1.2.1)) (l_cc (l_q1 6 x 4) (h.2.1.2.2.1)) (l_cc (l_e1 x 5) (h.2.1.2.2.2.1)) (l_cc (l_q1 6 x 5) (h.2.1.2.2.2.2.1)) (l_ff (f := v 107) (L := j_len 107) (l_e1 x 0) (l_e1 x 2) (G0.1.1))
    refine l_outH rfl (And.intro h.1 ?_)
    exact l_o11 (fun w0 w1 w2 w3 w4 w5 w6 w7 w8 w9 w10 : Int => (True) ∧ (q_sto v 1 w0 w1 w2 w3 w4 w5 w6 w7 w8 w9 w10 ∧ True)) (l_e1 x 4) (l_e1 x 5) (l_e1 x 6) (l_e1 x 7) (l_e1 x 8) (l_e1 x 9) (l_e1 x 10) (l_e0 x (5)) (l_e1 x 3) (l_e1 x 0) (l_e0 x (1)) K
  | skip
    intro v x h
    have G0 := h.2.2.1
    have C0 : (0 : Int) ≤ x 0 := l_cc (a := y_ev x (0, [(0, 1)])) (l_e1 _ _) (h.2.1.1)
    have C1 : (0 : Int) ≤ x 4 - x 0 - 1 := l_cc (a := y_ev x ((-1), [(0, (-1)), (4, 1)])) (by show ((-1) : Int) + ((-1) * x 0 + ((1) * x 4 + 0)) = x 4 - x 0 - 1; omega) (h.2.1.2.1)
    have C2 : (0 : Int) ≤ 6 - x 4 := l_cc (a := y_ev x (6, [(4, (-1))])) (by show ((6) : Int) + ((-1) * x 4 + 0) = 6 - x 4; omega) (h.2.1.2.2.1)
    have C3 : (0 : Int) ≤ x 5 := l_cc (a := y_ev x (0, [(5, 1)])) (l_e1 _ _) (h.2.1.2.2.2.1)
    have C4 : (0 : Int) ≤ 6 - x 5 := l_cc (a := y_ev x (6, [(5, (-1))])) (by show ((6) : Int) + ((-1) * x 5 + 0) = 6 - x 5; omega) (h.2.1.2.2.2.2.1)
    have F0 : (0 : Int) ≤ x 0 ∧ (x 0 : Int) < j_len 107 ∧ v 107 (x 0) = x 2 := l_ff (f := v 107) (L := j_len 107) (a := y_ev x (0, [(0, 1)])) (b := y_ev x (0, [(2, 1)])) (l_e1 _ _) (l_e1 _ _) (G0.1.1)
    have E0 : y_ev x (0, [(4, 1)]) = x 4 := (l_e1 _ _)
    have E1 : y_ev x (0, [(5, 1)]) = x 5 := (l_e1 _ _)
    have E2 : y_ev x (0, [(6, 1)]) = x 6 := (l_e1 _ _)
    have E3 : y_ev x (0, [(7, 1)]) = x 7 := (l_e1 _ _)
    have E4 : y_ev x (0, [(8, 1)]) = x 8 := (l_e1 _ _)
    have E5 : y_ev x (0, [(9, 1)]) = x 9 := (l_e1 _ _)
    have E6 : y_ev x (0, [(10, 1)]) = x 10 := (l_e1 _ _)
    have E7 : y_ev x (5, []) = 5 := (l_e0 _ _)
    have E8 : y_ev x (0, [(3, 1)]) = x 3 := (l_e1 _ _)
    have E9 : y_ev x (0, [(0, 1)]) = x 0 := (l_e1 _ _)
    have E10 : y_ev x (0, []) = 0 := (l_e0 _ _)
    have E11 : y_ev x ((-1), []) = (-1) := (l_e0 _ _)
    have E12 : y_ev x (0, [(1, 1)]) = x 1 := (l_e1 _ _)
    have E13 : y_ev x (20, []) = 20 := (l_e0 _ _)
    have E14 : y_ev x (0, [(2, 1)]) = x 2 := (l_e1 _ _)
    have E15 : y_ev x (6, []) = 6 := (l_e0 _ _)
    have T0 : q_sax v 1 (y_ev x (0, [(4, 1)])) (y_ev x (0, [(5, 1)])) (y_ev x (0, [(6, 1)])) (y_ev x (0, [(7, 1)])) (y_ev x (0, [(8, 1)])) (y_ev x (0, [(9, 1)])) (y_ev x (0, [(10, 1)])) (y_ev x (5, [])) (y_ev x (0, [(3, 1)])) (y_ev x (0, [(0, 1)])) (y_ev x (0, [])) (y_ev x (0, [(0, 1)])) (y_ev x ((-1), [])) (y_ev x (0, [(1, 1)])) (y_ev x (0, [])) := h.2.2.2.1
    (try rw [E0] at T0); (try rw [E1] at T0); (try rw [E2] at T0); (try rw [E3] at T0); (try rw [E4] at T0); (try rw [E5] at T0); (try rw [E6] at T0); (try rw [E7] at T0); (try rw [E8] at T0); (try rw [E9] at T0); (try rw [E10] at T0); (try rw [E11] at T0); (try rw [E12] at T0)
    have T1 : q_qry v (y_ev x (20, [])) (y_ev x (0, [(8, 1)])) (y_ev x (0, [(9, 1)])) (y_ev x (0, [(10, 1)])) (y_ev x (5, [])) (y_ev x (0, [(3, 1)])) (y_ev x (0, [(0, 1)])) (y_ev x (0, [])) (y_ev x (0, [(0, 1)])) (y_ev x (0, [])) (y_ev x (0, [(2, 1)])) := h.2.2.2.2.1
    (try rw [E13] at T1); (try rw [E4] at T1); (try rw [E5] at T1); (try rw [E6] at T1); (try rw [E7] at T1); (try rw [E8] at T1); (try rw [E9] at T1); (try rw [E10] at T1); (try rw [E14] at T1)
    have T2 : q_qry v (y_ev x (6, [])) (y_ev x (0, [(8, 1)])) (y_ev x (0, [(9, 1)])) (y_ev x (0, [(10, 1)])) (y_ev x (5, [])) (y_ev x (0, [(3, 1)])) (y_ev x (0, [(0, 1)])) (y_ev x (0, [])) (y_ev x (0, [(0, 1)])) (y_ev x (0, [])) (y_ev x ((-1), [])) := h.2.2.2.2.2.1
    (try rw [E15] at T2); (try rw [E4] at T2); (try rw [E5] at T2); (try rw [E6] at T2); (try rw [E7] at T2); (try rw [E8] at T2); (try rw [E9] at T2); (try rw [E10] at T2); (try rw [E11] at T2)
    have K := k_ageSNt (V := v) (h := x 0) (x := x 1) (v := x 2) (n := x 3) (H := x 4) (p := x 5) (y := x 6) (d := x 7) (q := x 8) (b := x 9) (s := x 10) T0 T1 T2 C0 C1 C2 C3 C4 F0
    refine l_outH rfl (And.intro h.1 ?_)
    have O0 : y_ev x (0, [(4, 1)]) = x 4 := l_e1 _ _
    have O1 : y_ev x (0, [(5, 1)]) = x 5 := l_e1 _ _
    have O2 : y_ev x (0, [(6, 1)]) = x 6 := l_e1 _ _
    have O3 : y_ev x (0, [(7, 1)]) = x 7 := l_e1 _ _
    have O4 : y_ev x (0, [(8, 1)]) = x 8 := l_e1 _ _
    have O5 : y_ev x (0, [(9, 1)]) = x 9 := l_e1 _ _
    have O6 : y_ev x (0, [(10, 1)]) = x 10 := l_e1 _ _
    have O7 : y_ev x (5, []) = 5 := l_e0 _ _
    have O8 : y_ev x (0, [(3, 1)]) = x 3 := l_e1 _ _
    have O9 : y_ev x (0, [(0, 1)]) = x 0 := l_e1 _ _
    have O10 : y_ev x (1, []) = 1 := l_e0 _ _
    show (True) ∧ (q_sto v 1 (y_ev x (0, [(4, 1)])) (y_ev x (0, [(5, 1)])) (y_ev x (0, [(6, 1)])) (y_ev x (0, [(7, 1)])) (y_ev x (0, [(8, 1)])) (y_ev x (0, [(9, 1)])) (y_ev x (0, [(10, 1)])) (y_ev x (5, [])) (y_ev x (0, [(3, 1)])) (y_ev x (0, [(0, 1)])) (y_ev x (1, [])) ∧ True)
    (try rw [O0]); (try rw [O1]); (try rw [O2]); (try rw [O3]); (try rw [O4]); (try rw [O5]); (try rw [O6]); (try rw [O7]); (try rw [O8]); (try rw [O9]); (try rw [O10])
    exact K
def lm_888p : zS := ((lm_660pi_0 (lm_660pi_1 [])), [(111, false)], [(0, [(1, 1)]), (5, [(1, (-1))]), (0, [(0, 1)]), (5, [(0, (-1))]), (0, [(2, 1), (3, (-1))]), (0, [(2, (-1)), (3, 1), (4, 1)]), (0, [(2, 1), (3, (-1)), (4, (-1))])], [], [(0, 0, 0, [(0, 1)]), (0, 0, 0, [(1, 1)])], [(0, (true, 0, 0, [(1, 1)]), 0, 0, 0, [(4, 1)])], (lm_880pg_0 []))
def lm_888 : zLem := (lm_888p, [([((-2147483648), 2147483647), ((-2147483648), 2147483647), ((-2147483648), 2147483647), ((-2147483648), 2147483647), ((-2147483648), 2147483647), ((-2147483648), 2147483647), ((-2147483648), 2147483647), ((-2147483648), 2147483647), ((-2147483648), 2147483647), ((-2147483648), 2147483647), ((-2147483648), 2147483647), ((-2147483648), 2147483647)], [(111, false)], [], [], [], [], [(238, [(21, []), (0, [(5, 1)]), (0, [(6, 1)]), (0, [(7, 1)]), (0, [(8, 1)]), (0, [(9, 1)]), (0, [(10, 1)]), (0, [(11, 1)]), (0, [(0, 1)]), (0, []), (0, [(4, 1)])])])])
theorem lk_888 : l_core lm_888 := by
  first
  | skip
    intro v x h
    have G0 := h.2.2.1
    have K := k_ns1t (V := v) (h := x 0) (i := x 1) (z := x 2) (w := x 3) (v := x 4) (q := x 5) (b := x 6) (s := x 7) (o := x 8) (a1 := x 9) (a2 := x 10) (a3 := x 11) (l_c11 (fun w0 w1 w2 w3 w4 w5 w6 w7 w8 w9 w10 : Int => q_qry v w0 w1 w2 w3 w4 w5 w6 w7 w8 w9 w10) (l_e0 x (6)) (l_e1 x 5) (l_e1 x 6) (l_e1 x 7) (l_e1 x 8) (l_e1 x 9) (l_e1 x 10) (l_e1 x 11) (l_e1 x 0) (l_e0 x (0)) (l_e1 x 1) (h.2.2.2.1)) (l_c11 (fun w0 w1 w2 w3 w4 w5 w6 w7 w8 w9 w10 : Int => q_qry v w0 w1 w2 w3 w4 w5 w6 w7 w8 w9 w10) (l_e0 x (8)) (l_e1 x 5) (l_e1 x 6) (l_e1 x 7) (l_e1 x 8) (l_e1 x 9) (l_e1 x 10) (l_e1 x 11) (l_q3 12 x 0) (l_e0 x (0)) (l_e1 x 2) (h.2.2.2.2.1)) (l_c11 (fun w0 w1 w2 w3 w4 w5 w6 w7 w8 w9 w10 : Int => q_qry v w0 w1 w2 w3 w4 w5 w6 w7 w8 w9 w10) (l_e0 x (4)) (l_e1 x 5) (l_e1 x 6) (l_e1 x 7) (l_e1 x 8) (l_e1 x 9) (l_e1 x 10) (l_e1 x 11) (l_e0 x (1)) (l_e1 x 0) (l_e1 x 3) (h.2.2.2.2.2.1)) (l_cc (l_e1 x 1) (h.2.1.1)) (l_cc (l_q1 5 x 1) (h.2.1.2.1)) (l_cc (l_e1 x 0) (h.2.1.2.2.1)) (l_cc (l_q1 5 x 0) (h.2.1.2.2.2.1)) (l_cc (l_q5 x 2 3) (h.2.1.2.2.2.2.1)) (l_cc (show y_ev x (0, [(2, (-1)), (3, 1), (4, 1)]) = x 3 + x 4 - x 2 by show ((0) : Int) + ((-1) * x 2 + ((1) * x 3 + ((1) * x 4 + 0))) = _; omega) (h.2.1.2.2.2.2.2.1)) (l_cc (show y_ev x (0, [(2, 1), (3, (-1)), (4, (-1))]) = x 2 - x 3 - x 4 by show ((0) : Int) + ((1) * x 2 + ((-1) * x 3 + ((-1) * x 4 + 0))) = _; omega) (h.2.1.2.2.2.2.2.2.1)) (l_ff (f := v 111) (L := j_len 111) (l_e1 x 1) (l_e1 x 4) (G0.1.1))
    refine l_outH rfl (And.intro h.1 ?_)
    exact l_o11 (fun w0 w1 w2 w3 w4 w5 w6 w7 w8 w9 w10 : Int => (True) ∧ (q_qry v w0 w1 w2 w3 w4 w5 w6 w7 w8 w9 w10 ∧ True)) (l_e0 x (21)) (l_e1 x 5) (l_e1 x 6) (l_e1 x 7) (l_e1 x 8) (l_e1 x 9) (l_e1 x 10) (l_e1 x 11) (l_e1 x 0) (l_e0 x (0)) (l_e1 x 4) K
  | skip
    intro v x h
    have G0 := h.2.2.1
    have C0 : (0 : Int) ≤ x 1 := l_cc (a := y_ev x (0, [(1, 1)])) (l_e1 _ _) (h.2.1.1)
    have C1 : (0 : Int) ≤ 5 - x 1 := l_cc (a := y_ev x (5, [(1, (-1))])) (by show ((5) : Int) + ((-1) * x 1 + 0) = 5 - x 1; omega) (h.2.1.2.1)
    have C2 : (0 : Int) ≤ x 0 := l_cc (a := y_ev x (0, [(0, 1)])) (l_e1 _ _) (h.2.1.2.2.1)
    have C3 : (0 : Int) ≤ 5 - x 0 := l_cc (a := y_ev x (5, [(0, (-1))])) (by show ((5) : Int) + ((-1) * x 0 + 0) = 5 - x 0; omega) (h.2.1.2.2.2.1)
    have C4 : (0 : Int) ≤ x 2 - x 3 := l_cc (a := y_ev x (0, [(2, 1), (3, (-1))])) (by show ((0) : Int) + ((1) * x 2 + ((-1) * x 3 + 0)) = x 2 - x 3; omega) (h.2.1.2.2.2.2.1)
    have C5 : (0 : Int) ≤ x 3 + x 4 - x 2 := l_cc (a := y_ev x (0, [(2, (-1)), (3, 1), (4, 1)])) (by show ((0) : Int) + ((-1) * x 2 + ((1) * x 3 + ((1) * x 4 + 0))) = x 3 + x 4 - x 2; omega) (h.2.1.2.2.2.2.2.1)
    have C6 : (0 : Int) ≤ x 2 - x 3 - x 4 := l_cc (a := y_ev x (0, [(2, 1), (3, (-1)), (4, (-1))])) (by show ((0) : Int) + ((1) * x 2 + ((-1) * x 3 + ((-1) * x 4 + 0))) = x 2 - x 3 - x 4; omega) (h.2.1.2.2.2.2.2.2.1)
    have F0 : (0 : Int) ≤ x 1 ∧ (x 1 : Int) < j_len 111 ∧ v 111 (x 1) = x 4 := l_ff (f := v 111) (L := j_len 111) (a := y_ev x (0, [(1, 1)])) (b := y_ev x (0, [(4, 1)])) (l_e1 _ _) (l_e1 _ _) (G0.1.1)
    have E0 : y_ev x (6, []) = 6 := (l_e0 _ _)
    have E1 : y_ev x (0, [(5, 1)]) = x 5 := (l_e1 _ _)
    have E2 : y_ev x (0, [(6, 1)]) = x 6 := (l_e1 _ _)
    have E3 : y_ev x (0, [(7, 1)]) = x 7 := (l_e1 _ _)
    have E4 : y_ev x (0, [(8, 1)]) = x 8 := (l_e1 _ _)
    have E5 : y_ev x (0, [(9, 1)]) = x 9 := (l_e1 _ _)
    have E6 : y_ev x (0, [(10, 1)]) = x 10 := (l_e1 _ _)
    have E7 : y_ev x (0, [(11, 1)]) = x 11 := (l_e1 _ _)
    have E8 : y_ev x (0, [(0, 1)]) = x 0 := (l_e1 _ _)
    have E9 : y_ev x (0, []) = 0 := (l_e0 _ _)
    have E10 : y_ev x (0, [(1, 1)]) = x 1 := (l_e1 _ _)
    have E11 : y_ev x (8, []) = 8 := (l_e0 _ _)
    have E12 : y_ev x (12, [(0, 1)]) = x 0 + 12 := (by show ((12) : Int) + ((1) * x 0 + 0) = x 0 + 12; omega)
    have E13 : y_ev x (0, [(2, 1)]) = x 2 := (l_e1 _ _)
    have E14 : y_ev x (4, []) = 4 := (l_e0 _ _)
    have E15 : y_ev x (1, []) = 1 := (l_e0 _ _)
    have E16 : y_ev x (0, [(3, 1)]) = x 3 := (l_e1 _ _)
    have T0 : q_qry v (y_ev x (6, [])) (y_ev x (0, [(5, 1)])) (y_ev x (0, [(6, 1)])) (y_ev x (0, [(7, 1)])) (y_ev x (0, [(8, 1)])) (y_ev x (0, [(9, 1)])) (y_ev x (0, [(10, 1)])) (y_ev x (0, [(11, 1)])) (y_ev x (0, [(0, 1)])) (y_ev x (0, [])) (y_ev x (0, [(1, 1)])) := h.2.2.2.1
    (try rw [E0] at T0); (try rw [E1] at T0); (try rw [E2] at T0); (try rw [E3] at T0); (try rw [E4] at T0); (try rw [E5] at T0); (try rw [E6] at T0); (try rw [E7] at T0); (try rw [E8] at T0); (try rw [E9] at T0); (try rw [E10] at T0)
    have T1 : q_qry v (y_ev x (8, [])) (y_ev x (0, [(5, 1)])) (y_ev x (0, [(6, 1)])) (y_ev x (0, [(7, 1)])) (y_ev x (0, [(8, 1)])) (y_ev x (0, [(9, 1)])) (y_ev x (0, [(10, 1)])) (y_ev x (0, [(11, 1)])) (y_ev x (12, [(0, 1)])) (y_ev x (0, [])) (y_ev x (0, [(2, 1)])) := h.2.2.2.2.1
    (try rw [E11] at T1); (try rw [E1] at T1); (try rw [E2] at T1); (try rw [E3] at T1); (try rw [E4] at T1); (try rw [E5] at T1); (try rw [E6] at T1); (try rw [E7] at T1); (try rw [E12] at T1); (try rw [E9] at T1); (try rw [E13] at T1)
    have T2 : q_qry v (y_ev x (4, [])) (y_ev x (0, [(5, 1)])) (y_ev x (0, [(6, 1)])) (y_ev x (0, [(7, 1)])) (y_ev x (0, [(8, 1)])) (y_ev x (0, [(9, 1)])) (y_ev x (0, [(10, 1)])) (y_ev x (0, [(11, 1)])) (y_ev x (1, [])) (y_ev x (0, [(0, 1)])) (y_ev x (0, [(3, 1)])) := h.2.2.2.2.2.1
    (try rw [E14] at T2); (try rw [E1] at T2); (try rw [E2] at T2); (try rw [E3] at T2); (try rw [E4] at T2); (try rw [E5] at T2); (try rw [E6] at T2); (try rw [E7] at T2); (try rw [E15] at T2); (try rw [E8] at T2); (try rw [E16] at T2)
    have K := k_ns1t (V := v) (h := x 0) (i := x 1) (z := x 2) (w := x 3) (v := x 4) (q := x 5) (b := x 6) (s := x 7) (o := x 8) (a1 := x 9) (a2 := x 10) (a3 := x 11) T0 T1 T2 C0 C1 C2 C3 C4 C5 C6 F0
    refine l_outH rfl (And.intro h.1 ?_)
    have O0 : y_ev x (21, []) = 21 := l_e0 _ _
    have O1 : y_ev x (0, [(5, 1)]) = x 5 := l_e1 _ _
    have O2 : y_ev x (0, [(6, 1)]) = x 6 := l_e1 _ _
    have O3 : y_ev x (0, [(7, 1)]) = x 7 := l_e1 _ _
    have O4 : y_ev x (0, [(8, 1)]) = x 8 := l_e1 _ _
    have O5 : y_ev x (0, [(9, 1)]) = x 9 := l_e1 _ _
    have O6 : y_ev x (0, [(10, 1)]) = x 10 := l_e1 _ _
    have O7 : y_ev x (0, [(11, 1)]) = x 11 := l_e1 _ _
    have O8 : y_ev x (0, [(0, 1)]) = x 0 := l_e1 _ _
    have O9 : y_ev x (0, []) = 0 := l_e0 _ _
    have O10 : y_ev x (0, [(4, 1)]) = x 4 := l_e1 _ _
    show (True) ∧ (q_qry v (y_ev x (21, [])) (y_ev x (0, [(5, 1)])) (y_ev x (0, [(6, 1)])) (y_ev x (0, [(7, 1)])) (y_ev x (0, [(8, 1)])) (y_ev x (0, [(9, 1)])) (y_ev x (0, [(10, 1)])) (y_ev x (0, [(11, 1)])) (y_ev x (0, [(0, 1)])) (y_ev x (0, [])) (y_ev x (0, [(4, 1)])) ∧ True)
    (try rw [O0]); (try rw [O1]); (try rw [O2]); (try rw [O3]); (try rw [O4]); (try rw [O5]); (try rw [O6]); (try rw [O7]); (try rw [O8]); (try rw [O9]); (try rw [O10])
    exact K
def lm_889p : zS := ((lm_660pi_0 (lm_660pi_1 [])), [(111, false)], [(0, [(1, 1)]), (5, [(1, (-1))]), (0, [(0, 1)]), (5, [(0, (-1))]), ((-1), [(2, (-1)), (3, 1)]), (0, [(4, 1)]), (0, [(4, (-1))])], [], [(0, 0, 0, [(0, 1)]), (0, 0, 0, [(1, 1)])], [(0, (true, 0, 0, [(1, 1)]), 0, 0, 0, [(4, 1)])], (lm_880pg_0 []))
def lm_889 : zLem := (lm_889p, [([((-2147483648), 2147483647), ((-2147483648), 2147483647), ((-2147483648), 2147483647), ((-2147483648), 2147483647), ((-2147483648), 2147483647), ((-2147483648), 2147483647), ((-2147483648), 2147483647), ((-2147483648), 2147483647), ((-2147483648), 2147483647), ((-2147483648), 2147483647), ((-2147483648), 2147483647), ((-2147483648), 2147483647)], [(111, false)], [], [], [], [], [(238, [(21, []), (0, [(5, 1)]), (0, [(6, 1)]), (0, [(7, 1)]), (0, [(8, 1)]), (0, [(9, 1)]), (0, [(10, 1)]), (0, [(11, 1)]), (0, [(0, 1)]), (0, []), (0, [(4, 1)])])])])
theorem lk_889 : l_core lm_889 := by
  first
  | skip
    intro v x h
    have G0 := h.2.2.1
    have K := k_ns0t (V := v) (h := x 0) (i := x 1) (z := x 2) (w := x 3) (v := x 4) (q := x 5) (b := x 6) (s := x 7) (o := x 8) (a1 := x 9) (a2 := x 10) (a3 := x 11) (l_c11 (fun w0 w1 w2 w3 w4 w5 w6 w7 w8 w9 w10 : Int => q_qry v w0 w1 w2 w3 w4 w5 w6 w7 w8 w9 w10) (l_e0 x (6)) (l_e1 x 5) (l_e1 x 6) (l_e1 x 7) (l_e1 x 8) (l_e1 x 9) (l_e1 x 10) (l_e1 x 11) (l_e1 x 0) (l_e0 x (0)) (l_e1 x 1) (h.2.2.2.1)) (l_c11 (fun w0 w1 w2 w3 w4 w5 w6 w7 w8 w9 w10 : Int => q_qry v w0 w1 w2 w3 w4 w5 w6 w7 w8 w9 w10) (l_e0 x (8)) (l_e1 x 5) (l_e1 x 6) (l_e1 x 7) (l_e1 x 8) (l_e1 x 9) (l_e1 x 10) (l_e1 x 11) (l_q3 12 x 0) (l_e0 x (0)) (l_e1 x 2) (h.2.2.2.2.1)) (l_c11 (fun w0 w1 w2 w3 w4 w5 w6 w7 w8 w9 w10 : Int => q_qry v w0 w1 w2 w3 w4 w5 w6 w7 w8 w9 w10) (l_e0 x (4)) (l_e1 x 5) (l_e1 x 6) (l_e1 x 7) (l_e1 x 8) (l_e1 x 9) (l_e1 x 10) (l_e1 x 11) (l_e0 x (1)) (l_e1 x 0) (l_e1 x 3) (h.2.2.2.2.2.1)) (l_cc (l_e1 x 1) (h.2.1.1)) (l_cc (l_q1 5 x 1) (h.2.1.2.1)) (l_cc (l_e1 x 0) (h.2.1.2.2.1)) (l_cc (l_q1 5 x 0) (h.2.1.2.2.2.1)) (l_cc (l_q6 1 x 2 3) (h.2.1.2.2.2.2.1)) (l_cc (l_e1 x 4) (h.2.1.2.2.2.2.2.1)) (l_cc (l_q7 x 4) (h.2.1.2.2.2.2.2.2.1)) (l_ff (f := v 111) (L := j_len 111) (l_e1 x 1) (l_e1 x 4) (G0.1.1))
    refine l_outH rfl (And.intro h.1 ?_)
    exact l_o11 (fun w0 w1 w2 w3 w4 w5 w6 w7 w8 w9 w10 : Int => (True) ∧ (q_qry v w0 w1 w2 w3 w4 w5 w6 w7 w8 w9 w10 ∧ True)) (l_e0 x (21)) (l_e1 x 5) (l_e1 x 6) (l_e1 x 7) (l_e1 x 8) (l_e1 x 9) (l_e1 x 10) (l_e1 x 11) (l_e1 x 0) (l_e0 x (0)) (l_e1 x 4) K
  | skip
    intro v x h
    have G0 := h.2.2.1
    have C0 : (0 : Int) ≤ x 1 := l_cc (a := y_ev x (0, [(1, 1)])) (l_e1 _ _) (h.2.1.1)
    have C1 : (0 : Int) ≤ 5 - x 1 := l_cc (a := y_ev x (5, [(1, (-1))])) (by show ((5) : Int) + ((-1) * x 1 + 0) = 5 - x 1; omega) (h.2.1.2.1)
    have C2 : (0 : Int) ≤ x 0 := l_cc (a := y_ev x (0, [(0, 1)])) (l_e1 _ _) (h.2.1.2.2.1)
    have C3 : (0 : Int) ≤ 5 - x 0 := l_cc (a := y_ev x (5, [(0, (-1))])) (by show ((5) : Int) + ((-1) * x 0 + 0) = 5 - x 0; omega) (h.2.1.2.2.2.1)
    have C4 : (0 : Int) ≤ x 3 - x 2 - 1 := l_cc (a := y_ev x ((-1), [(2, (-1)), (3, 1)])) (by show ((-1) : Int) + ((-1) * x 2 + ((1) * x 3 + 0)) = x 3 - x 2 - 1; omega) (h.2.1.2.2.2.2.1)
    have C5 : (0 : Int) ≤ x 4 := l_cc (a := y_ev x (0, [(4, 1)])) (l_e1 _ _) (h.2.1.2.2.2.2.2.1)
    have C6 : (0 : Int) ≤ -x 4 := l_cc (a := y_ev x (0, [(4, (-1))])) (by show ((0) : Int) + ((-1) * x 4 + 0) = -x 4; omega) (h.2.1.2.2.2.2.2.2.1)
    have F0 : (0 : Int) ≤ x 1 ∧ (x 1 : Int) < j_len 111 ∧ v 111 (x 1) = x 4 := l_ff (f := v 111) (L := j_len 111) (a := y_ev x (0, [(1, 1)])) (b := y_ev x (0, [(4, 1)])) (l_e1 _ _) (l_e1 _ _) (G0.1.1)
    have E0 : y_ev x (6, []) = 6 := (l_e0 _ _)
    have E1 : y_ev x (0, [(5, 1)]) = x 5 := (l_e1 _ _)
    have E2 : y_ev x (0, [(6, 1)]) = x 6 := (l_e1 _ _)
    have E3 : y_ev x (0, [(7, 1)]) = x 7 := (l_e1 _ _)
    have E4 : y_ev x (0, [(8, 1)]) = x 8 := (l_e1 _ _)
    have E5 : y_ev x (0, [(9, 1)]) = x 9 := (l_e1 _ _)
    have E6 : y_ev x (0, [(10, 1)]) = x 10 := (l_e1 _ _)
    have E7 : y_ev x (0, [(11, 1)]) = x 11 := (l_e1 _ _)
    have E8 : y_ev x (0, [(0, 1)]) = x 0 := (l_e1 _ _)
    have E9 : y_ev x (0, []) = 0 := (l_e0 _ _)
    have E10 : y_ev x (0, [(1, 1)]) = x 1 := (l_e1 _ _)
    have E11 : y_ev x (8, []) = 8 := (l_e0 _ _)
    have E12 : y_ev x (12, [(0, 1)]) = x 0 + 12 := (by show ((12) : Int) + ((1) * x 0 + 0) = x 0 + 12; omega)
    have E13 : y_ev x (0, [(2, 1)]) = x 2 := (l_e1 _ _)
    have E14 : y_ev x (4, []) = 4 := (l_e0 _ _)
    have E15 : y_ev x (1, []) = 1 := (l_e0 _ _)
    have E16 : y_ev x (0, [(3, 1)]) = x 3 := (l_e1 _ _)
    have T0 : q_qry v (y_ev x (6, [])) (y_ev x (0, [(5, 1)])) (y_ev x (0, [(6, 1)])) (y_ev x (0, [(7, 1)])) (y_ev x (0, [(8, 1)])) (y_ev x (0, [(9, 1)])) (y_ev x (0, [(10, 1)])) (y_ev x (0, [(11, 1)])) (y_ev x (0, [(0, 1)])) (y_ev x (0, [])) (y_ev x (0, [(1, 1)])) := h.2.2.2.1
    (try rw [E0] at T0); (try rw [E1] at T0); (try rw [E2] at T0); (try rw [E3] at T0); (try rw [E4] at T0); (try rw [E5] at T0); (try rw [E6] at T0); (try rw [E7] at T0); (try rw [E8] at T0); (try rw [E9] at T0); (try rw [E10] at T0)
    have T1 : q_qry v (y_ev x (8, [])) (y_ev x (0, [(5, 1)])) (y_ev x (0, [(6, 1)])) (y_ev x (0, [(7, 1)])) (y_ev x (0, [(8, 1)])) (y_ev x (0, [(9, 1)])) (y_ev x (0, [(10, 1)])) (y_ev x (0, [(11, 1)])) (y_ev x (12, [(0, 1)])) (y_ev x (0, [])) (y_ev x (0, [(2, 1)])) := h.2.2.2.2.1
    (try rw [E11] at T1); (try rw [E1] at T1); (try rw [E2] at T1); (try rw [E3] at T1); (try rw [E4] at T1); (try rw [E5] at T1); (try rw [E6] at T1); (try rw [E7] at T1); (try rw [E12] at T1); (try rw [E9] at T1); (try rw [E13] at T1)
    have T2 : q_qry v (y_ev x (4, [])) (y_ev x (0, [(5, 1)])) (y_ev x (0, [(6, 1)])) (y_ev x (0, [(7, 1)])) (y_ev x (0, [(8, 1)])) (y_ev x (0, [(9, 1)])) (y_ev x (0, [(10, 1)])) (y_ev x (0, [(11, 1)])) (y_ev x (1, [])) (y_ev x (0, [(0, 1)])) (y_ev x (0, [(3, 1)])) := h.2.2.2.2.2.1
    (try rw [E14] at T2); (try rw [E1] at T2); (try rw [E2] at T2); (try rw [E3] at T2); (try rw [E4] at T2); (try rw [E5] at T2); (try rw [E6] at T2); (try rw [E7] at T2); (try rw [E15] at T2); (try rw [E8] at T2); (try rw [E16] at T2)
    have K := k_ns0t (V := v) (h := x 0) (i := x 1) (z := x 2) (w := x 3) (v := x 4) (q := x 5) (b := x 6) (s := x 7) (o := x 8) (a1 := x 9) (a2 := x 10) (a3 := x 11) T0 T1 T2 C0 C1 C2 C3 C4 C5 C6 F0
    refine l_outH rfl (And.intro h.1 ?_)
    have O0 : y_ev x (21, []) = 21 := l_e0 _ _
    have O1 : y_ev x (0, [(5, 1)]) = x 5 := l_e1 _ _
    have O2 : y_ev x (0, [(6, 1)]) = x 6 := l_e1 _ _
    have O3 : y_ev x (0, [(7, 1)]) = x 7 := l_e1 _ _
    have O4 : y_ev x (0, [(8, 1)]) = x 8 := l_e1 _ _
    have O5 : y_ev x (0, [(9, 1)]) = x 9 := l_e1 _ _
    have O6 : y_ev x (0, [(10, 1)]) = x 10 := l_e1 _ _
    have O7 : y_ev x (0, [(11, 1)]) = x 11 := l_e1 _ _
    have O8 : y_ev x (0, [(0, 1)]) = x 0 := l_e1 _ _
    have O9 : y_ev x (0, []) = 0 := l_e0 _ _
    have O10 : y_ev x (0, [(4, 1)]) = x 4 := l_e1 _ _
    show (True) ∧ (q_qry v (y_ev x (21, [])) (y_ev x (0, [(5, 1)])) (y_ev x (0, [(6, 1)])) (y_ev x (0, [(7, 1)])) (y_ev x (0, [(8, 1)])) (y_ev x (0, [(9, 1)])) (y_ev x (0, [(10, 1)])) (y_ev x (0, [(11, 1)])) (y_ev x (0, [(0, 1)])) (y_ev x (0, [])) (y_ev x (0, [(4, 1)])) ∧ True)
    (try rw [O0]); (try rw [O1]); (try rw [O2]); (try rw [O3]); (try rw [O4]); (try rw [O5]); (try rw [O6]); (try rw [O7]); (try rw [O8]); (try rw [O9]); (try rw [O10])
    exact K
def lm_890p : zS := ((lm_660pi_0 (lm_660pi_1 [])), [], [((-1), [(4, (-1)), (7, 1)])], [], [(0, 0, 0, [(0, 1)])], [], [(255, [(0, [(5, 1)]), (0, [(3, 1)]), (0, [(4, 1)])]), (100, [(8, []), (0, [(1, 1)]), (0, [(2, 1)])]), (110, [(0, [(2, 1)]), (0, [(0, 1)]), (0, [(3, 1)])]), (238, [(8, []), (0, [(6, 1)]), (0, [(7, 1)]), (0, [(5, 1)]), (0, [(8, 1)]), (0, [(9, 1)]), (0, [(10, 1)]), (0, [(11, 1)]), (31, []), (0, []), (0, [(1, 1)])])])
def lm_890 : zLem := (lm_890p, [([((-2147483648), 2147483647), ((-2147483648), 2147483647), ((-2147483648), 2147483647), ((-2147483648), 2147483647), ((-2147483648), 2147483647), ((-2147483648), 2147483647), ((-2147483648), 2147483647), ((-2147483648), 2147483647), ((-2147483648), 2147483647), ((-2147483648), 2147483647), ((-2147483648), 2147483647), ((-2147483648), 2147483647)], [], [], [], [], [], [(238, [(25, []), (0, [(6, 1)]), (0, [(7, 1)]), (0, [(5, 1)]), (0, [(8, 1)]), (0, [(9, 1)]), (0, [(10, 1)]), (0, [(11, 1)]), (0, [(0, 1)]), (0, []), (1, [])])])])
theorem lk_890 : l_core lm_890 := by
  first
  | skip
    intro v x h
    have K := k_bli1 (V := v) (h := x 0) (y := x 1) (m := x 2) (c := x 3) (r := x 4) (s := x 5) (q := x 6) (b := x 7) (o := x 8) (a1 := x 9) (a2 := x 10) (a3 := x 11) (l_c3 (fun w0 w1 w2 : Int => w2 = g_lot w0 w1) (l_e1 x 5) (l_e1 x 3) (l_e1 x 4) (h.2.2.2.1)) (l_c3 (fun w0 w1 w2 : Int => (mOP 100 (Int32.ofInt w0) (Int32.ofInt w1)).toInt = w2) (l_e0 x (8)) (l_e1 x 1) (l_e1 x 2) (h.2.2.2.2.1)) (l_c3 (fun w0 w1 w2 : Int => (mOP 110 (Int32.ofInt w0) (Int32.ofInt w1)).toInt = w2) (l_e1 x 2) (l_e1 x 0) (l_e1 x 3) (h.2.2.2.2.2.1)) (l_c11 (fun w0 w1 w2 w3 w4 w5 w6 w7 w8 w9 w10 : Int => q_qry v w0 w1 w2 w3 w4 w5 w6 w7 w8 w9 w10) (l_e0 x (8)) (l_e1 x 6) (l_e1 x 7) (l_e1 x 5) (l_e1 x 8) (l_e1 x 9) (l_e1 x 10) (l_e1 x 11) (l_e0 x (31)) (l_e0 x (0)) (l_e1 x 1) (h.2.2.2.2.2.2.1)) (l_cc (l_q6 1 x 4 7) (h.2.1.1))
    refine l_outH rfl (And.intro h.1 ?_)
    exact l_o11 (fun w0 w1 w2 w3 w4 w5 w6 w7 w8 w9 w10 : Int => (True) ∧ (q_qry v w0 w1 w2 w3 w4 w5 w6 w7 w8 w9 w10 ∧ True)) (l_e0 x (25)) (l_e1 x 6) (l_e1 x 7) (l_e1 x 5) (l_e1 x 8) (l_e1 x 9) (l_e1 x 10) (l_e1 x 11) (l_e1 x 0) (l_e0 x (0)) (l_e0 x (1)) K
  | skip
    intro v x h
    have C0 : (0 : Int) ≤ x 7 - x 4 - 1 := l_cc (a := y_ev x ((-1), [(4, (-1)), (7, 1)])) (by show ((-1) : Int) + ((-1) * x 4 + ((1) * x 7 + 0)) = x 7 - x 4 - 1; omega) (h.2.1.1)
    have E0 : y_ev x (0, [(5, 1)]) = x 5 := (l_e1 _ _)
    have E1 : y_ev x (0, [(3, 1)]) = x 3 := (l_e1 _ _)
    have E2 : y_ev x (0, [(4, 1)]) = x 4 := (l_e1 _ _)
    have E3 : y_ev x (8, []) = 8 := (l_e0 _ _)
    have E4 : y_ev x (0, [(1, 1)]) = x 1 := (l_e1 _ _)
    have E5 : y_ev x (0, [(2, 1)]) = x 2 := (l_e1 _ _)
    have E6 : y_ev x (0, [(0, 1)]) = x 0 := (l_e1 _ _)
    have E7 : y_ev x (0, [(6, 1)]) = x 6 := (l_e1 _ _)
    have E8 : y_ev x (0, [(7, 1)]) = x 7 := (l_e1 _ _)
    have E9 : y_ev x (0, [(8, 1)]) = x 8 := (l_e1 _ _)
    have E10 : y_ev x (0, [(9, 1)]) = x 9 := (l_e1 _ _)
    have E11 : y_ev x (0, [(10, 1)]) = x 10 := (l_e1 _ _)
    have E12 : y_ev x (0, [(11, 1)]) = x 11 := (l_e1 _ _)
    have E13 : y_ev x (31, []) = 31 := (l_e0 _ _)
    have E14 : y_ev x (0, []) = 0 := (l_e0 _ _)
    have T0 : (y_ev x (0, [(4, 1)])) = g_lot (y_ev x (0, [(5, 1)])) (y_ev x (0, [(3, 1)])) := h.2.2.2.1
    (try rw [E0] at T0); (try rw [E1] at T0); (try rw [E2] at T0)
    have T1 : (mOP 100 (Int32.ofInt (y_ev x (8, []))) (Int32.ofInt (y_ev x (0, [(1, 1)])))).toInt = (y_ev x (0, [(2, 1)])) := h.2.2.2.2.1
    (try rw [E3] at T1); (try rw [E4] at T1); (try rw [E5] at T1)
    have T2 : (mOP 110 (Int32.ofInt (y_ev x (0, [(2, 1)]))) (Int32.ofInt (y_ev x (0, [(0, 1)])))).toInt = (y_ev x (0, [(3, 1)])) := h.2.2.2.2.2.1
    (try rw [E5] at T2); (try rw [E6] at T2); (try rw [E1] at T2)
    have T3 : q_qry v (y_ev x (8, [])) (y_ev x (0, [(6, 1)])) (y_ev x (0, [(7, 1)])) (y_ev x (0, [(5, 1)])) (y_ev x (0, [(8, 1)])) (y_ev x (0, [(9, 1)])) (y_ev x (0, [(10, 1)])) (y_ev x (0, [(11, 1)])) (y_ev x (31, [])) (y_ev x (0, [])) (y_ev x (0, [(1, 1)])) := h.2.2.2.2.2.2.1
    (try rw [E3] at T3); (try rw [E7] at T3); (try rw [E8] at T3); (try rw [E0] at T3); (try rw [E9] at T3); (try rw [E10] at T3); (try rw [E11] at T3); (try rw [E12] at T3); (try rw [E13] at T3); (try rw [E14] at T3); (try rw [E4] at T3)
    have K := k_bli1 (V := v) (h := x 0) (y := x 1) (m := x 2) (c := x 3) (r := x 4) (s := x 5) (q := x 6) (b := x 7) (o := x 8) (a1 := x 9) (a2 := x 10) (a3 := x 11) T0 T1 T2 T3 C0
    refine l_outH rfl (And.intro h.1 ?_)
    have O0 : y_ev x (25, []) = 25 := l_e0 _ _
    have O1 : y_ev x (0, [(6, 1)]) = x 6 := l_e1 _ _
    have O2 : y_ev x (0, [(7, 1)]) = x 7 := l_e1 _ _
    have O3 : y_ev x (0, [(5, 1)]) = x 5 := l_e1 _ _
    have O4 : y_ev x (0, [(8, 1)]) = x 8 := l_e1 _ _
    have O5 : y_ev x (0, [(9, 1)]) = x 9 := l_e1 _ _
    have O6 : y_ev x (0, [(10, 1)]) = x 10 := l_e1 _ _
    have O7 : y_ev x (0, [(11, 1)]) = x 11 := l_e1 _ _
    have O8 : y_ev x (0, [(0, 1)]) = x 0 := l_e1 _ _
    have O9 : y_ev x (0, []) = 0 := l_e0 _ _
    have O10 : y_ev x (1, []) = 1 := l_e0 _ _
    show (True) ∧ (q_qry v (y_ev x (25, [])) (y_ev x (0, [(6, 1)])) (y_ev x (0, [(7, 1)])) (y_ev x (0, [(5, 1)])) (y_ev x (0, [(8, 1)])) (y_ev x (0, [(9, 1)])) (y_ev x (0, [(10, 1)])) (y_ev x (0, [(11, 1)])) (y_ev x (0, [(0, 1)])) (y_ev x (0, [])) (y_ev x (1, [])) ∧ True)
    (try rw [O0]); (try rw [O1]); (try rw [O2]); (try rw [O3]); (try rw [O4]); (try rw [O5]); (try rw [O6]); (try rw [O7]); (try rw [O8]); (try rw [O9]); (try rw [O10])
    exact K
def lm_891p : zS := ((lm_660pi_0 (lm_660pi_1 [])), [], [(0, [(4, 1), (7, (-1))])], [], [(0, 0, 0, [(0, 1)])], [], [(255, [(0, [(5, 1)]), (0, [(3, 1)]), (0, [(4, 1)])]), (100, [(8, []), (0, [(1, 1)]), (0, [(2, 1)])]), (110, [(0, [(2, 1)]), (0, [(0, 1)]), (0, [(3, 1)])]), (238, [(8, []), (0, [(6, 1)]), (0, [(7, 1)]), (0, [(5, 1)]), (0, [(8, 1)]), (0, [(9, 1)]), (0, [(10, 1)]), (0, [(11, 1)]), (31, []), (0, []), (0, [(1, 1)])])])
def lm_891 : zLem := (lm_891p, [([((-2147483648), 2147483647), ((-2147483648), 2147483647), ((-2147483648), 2147483647), ((-2147483648), 2147483647), ((-2147483648), 2147483647), ((-2147483648), 2147483647), ((-2147483648), 2147483647), ((-2147483648), 2147483647), ((-2147483648), 2147483647), ((-2147483648), 2147483647), ((-2147483648), 2147483647), ((-2147483648), 2147483647)], [], [], [], [], [], [(238, [(25, []), (0, [(6, 1)]), (0, [(7, 1)]), (0, [(5, 1)]), (0, [(8, 1)]), (0, [(9, 1)]), (0, [(10, 1)]), (0, [(11, 1)]), (0, [(0, 1)]), (0, []), (0, [])])])])
theorem lk_891 : l_core lm_891 := by
  first
  | skip
    intro v x h
    have K := k_bli0 (V := v) (h := x 0) (y := x 1) (m := x 2) (c := x 3) (r := x 4) (s := x 5) (q := x 6) (b := x 7) (o := x 8) (a1 := x 9) (a2 := x 10) (a3 := x 11) (l_c3 (fun w0 w1 w2 : Int => w2 = g_lot w0 w1) (l_e1 x 5) (l_e1 x 3) (l_e1 x 4) (h.2.2.2.1)) (l_c3 (fun w0 w1 w2 : Int => (mOP 100 (Int32.ofInt w0) (Int32.ofInt w1)).toInt = w2) (l_e0 x (8)) (l_e1 x 1) (l_e1 x 2) (h.2.2.2.2.1)) (l_c3 (fun w0 w1 w2 : Int => (mOP 110 (Int32.ofInt w0) (Int32.ofInt w1)).toInt = w2) (l_e1 x 2) (l_e1 x 0) (l_e1 x 3) (h.2.2.2.2.2.1)) (l_c11 (fun w0 w1 w2 w3 w4 w5 w6 w7 w8 w9 w10 : Int => q_qry v w0 w1 w2 w3 w4 w5 w6 w7 w8 w9 w10) (l_e0 x (8)) (l_e1 x 6) (l_e1 x 7) (l_e1 x 5) (l_e1 x 8) (l_e1 x 9) (l_e1 x 10) (l_e1 x 11) (l_e0 x (31)) (l_e0 x (0)) (l_e1 x 1) (h.2.2.2.2.2.2.1)) (l_cc (l_q5 x 4 7) (h.2.1.1))
    refine l_outH rfl (And.intro h.1 ?_)
    exact l_o10 (fun w0 w1 w2 w3 w4 w5 w6 w7 w8 w9 : Int => (True) ∧ (q_qry v w0 w1 w2 w3 w4 w5 w6 w7 w8 w9 w9 ∧ True)) (l_e0 x (25)) (l_e1 x 6) (l_e1 x 7) (l_e1 x 5) (l_e1 x 8) (l_e1 x 9) (l_e1 x 10) (l_e1 x 11) (l_e1 x 0) (l_e0 x (0)) K
  | skip
    intro v x h
    have C0 : (0 : Int) ≤ x 4 - x 7 := l_cc (a := y_ev x (0, [(4, 1), (7, (-1))])) (by show ((0) : Int) + ((1) * x 4 + ((-1) * x 7 + 0)) = x 4 - x 7; omega) (h.2.1.1)
    have E0 : y_ev x (0, [(5, 1)]) = x 5 := (l_e1 _ _)
    have E1 : y_ev x (0, [(3, 1)]) = x 3 := (l_e1 _ _)
    have E2 : y_ev x (0, [(4, 1)]) = x 4 := (l_e1 _ _)
    have E3 : y_ev x (8, []) = 8 := (l_e0 _ _)
    have E4 : y_ev x (0, [(1, 1)]) = x 1 := (l_e1 _ _)
    have E5 : y_ev x (0, [(2, 1)]) = x 2 := (l_e1 _ _)
    have E6 : y_ev x (0, [(0, 1)]) = x 0 := (l_e1 _ _)
    have E7 : y_ev x (0, [(6, 1)]) = x 6 := (l_e1 _ _)
    have E8 : y_ev x (0, [(7, 1)]) = x 7 := (l_e1 _ _)
    have E9 : y_ev x (0, [(8, 1)]) = x 8 := (l_e1 _ _)
    have E10 : y_ev x (0, [(9, 1)]) = x 9 := (l_e1 _ _)
    have E11 : y_ev x (0, [(10, 1)]) = x 10 := (l_e1 _ _)
    have E12 : y_ev x (0, [(11, 1)]) = x 11 := (l_e1 _ _)
    have E13 : y_ev x (31, []) = 31 := (l_e0 _ _)
    have E14 : y_ev x (0, []) = 0 := (l_e0 _ _)
    have T0 : (y_ev x (0, [(4, 1)])) = g_lot (y_ev x (0, [(5, 1)])) (y_ev x (0, [(3, 1)])) := h.2.2.2.1
    (try rw [E0] at T0); (try rw [E1] at T0); (try rw [E2] at T0)
    have T1 : (mOP 100 (Int32.ofInt (y_ev x (8, []))) (Int32.ofInt (y_ev x (0, [(1, 1)])))).toInt = (y_ev x (0, [(2, 1)])) := h.2.2.2.2.1
    (try rw [E3] at T1); (try rw [E4] at T1); (try rw [E5] at T1)
    have T2 : (mOP 110 (Int32.ofInt (y_ev x (0, [(2, 1)]))) (Int32.ofInt (y_ev x (0, [(0, 1)])))).toInt = (y_ev x (0, [(3, 1)])) := h.2.2.2.2.2.1
    (try rw [E5] at T2); (try rw [E6] at T2); (try rw [E1] at T2)
    have T3 : q_qry v (y_ev x (8, [])) (y_ev x (0, [(6, 1)])) (y_ev x (0, [(7, 1)])) (y_ev x (0, [(5, 1)])) (y_ev x (0, [(8, 1)])) (y_ev x (0, [(9, 1)])) (y_ev x (0, [(10, 1)])) (y_ev x (0, [(11, 1)])) (y_ev x (31, [])) (y_ev x (0, [])) (y_ev x (0, [(1, 1)])) := h.2.2.2.2.2.2.1
    (try rw [E3] at T3); (try rw [E7] at T3); (try rw [E8] at T3); (try rw [E0] at T3); (try rw [E9] at T3); (try rw [E10] at T3); (try rw [E11] at T3); (try rw [E12] at T3); (try rw [E13] at T3); (try rw [E14] at T3); (try rw [E4] at T3)
    have K := k_bli0 (V := v) (h := x 0) (y := x 1) (m := x 2) (c := x 3) (r := x 4) (s := x 5) (q := x 6) (b := x 7) (o := x 8) (a1 := x 9) (a2 := x 10) (a3 := x 11) T0 T1 T2 T3 C0
    refine l_outH rfl (And.intro h.1 ?_)
    have O0 : y_ev x (25, []) = 25 := l_e0 _ _
    have O1 : y_ev x (0, [(6, 1)]) = x 6 := l_e1 _ _
    have O2 : y_ev x (0, [(7, 1)]) = x 7 := l_e1 _ _
    have O3 : y_ev x (0, [(5, 1)]) = x 5 := l_e1 _ _
    have O4 : y_ev x (0, [(8, 1)]) = x 8 := l_e1 _ _
    have O5 : y_ev x (0, [(9, 1)]) = x 9 := l_e1 _ _
    have O6 : y_ev x (0, [(10, 1)]) = x 10 := l_e1 _ _
    have O7 : y_ev x (0, [(11, 1)]) = x 11 := l_e1 _ _
    have O8 : y_ev x (0, [(0, 1)]) = x 0 := l_e1 _ _
    have O9 : y_ev x (0, []) = 0 := l_e0 _ _
    show (True) ∧ (q_qry v (y_ev x (25, [])) (y_ev x (0, [(6, 1)])) (y_ev x (0, [(7, 1)])) (y_ev x (0, [(5, 1)])) (y_ev x (0, [(8, 1)])) (y_ev x (0, [(9, 1)])) (y_ev x (0, [(10, 1)])) (y_ev x (0, [(11, 1)])) (y_ev x (0, [(0, 1)])) (y_ev x (0, [])) (y_ev x (0, [])) ∧ True)
    (try rw [O0]); (try rw [O1]); (try rw [O2]); (try rw [O3]); (try rw [O4]); (try rw [O5]); (try rw [O6]); (try rw [O7]); (try rw [O8]); (try rw [O9])
    exact K
def lm_892p : zS := ((lm_473pi_0 (lm_473pi_1 [])), [], [(0, [(0, 1)]), (5, [(0, (-1))])], [], [(0, 0, 0, [(0, 1)]), (0, 0, 0, [(2, 1)])], [], [(238, [(8, []), (0, [(3, 1)]), (0, [(4, 1)]), (0, [(5, 1)]), (0, [(6, 1)]), (0, [(7, 1)]), (0, [(8, 1)]), (0, [(9, 1)]), (0, [(0, 1)]), (0, []), (0, [(1, 1)])]), (107, [(0, [(1, 1)]), (2, []), (0, [(2, 1)])]), (238, [(25, []), (0, [(3, 1)]), (0, [(4, 1)]), (0, [(5, 1)]), (0, [(6, 1)]), (0, [(7, 1)]), (0, [(8, 1)]), (0, [(9, 1)]), (0, [(0, 1)]), (0, []), (1, [])])])
def lm_892 : zLem := (lm_892p, [([((-2147483648), 2147483647), ((-2147483648), 2147483647), ((-2147483648), 2147483647), ((-2147483648), 2147483647), ((-2147483648), 2147483647), ((-2147483648), 2147483647), ((-2147483648), 2147483647), ((-2147483648), 2147483647), ((-2147483648), 2147483647), ((-2147483648), 2147483647)], [], [], [], [], [], [(238, [(20, []), (0, [(3, 1)]), (0, [(4, 1)]), (0, [(5, 1)]), (0, [(6, 1)]), (0, [(7, 1)]), (0, [(8, 1)]), (0, [(9, 1)]), (0, [(0, 1)]), (0, []), (0, [(2, 1)])])])])
theorem lk_892 : l_core lm_892 := by
  first
  | skip
    intro v x h
    have K := k_nhB (V := v) (h := x 0) (x := x 1) (v := x 2) (q := x 3) (b := x 4) (s := x 5) (o := x 6) (a1 := x 7) (a2 := x 8) (a3 := x 9) (l_c11 (fun w0 w1 w2 w3 w4 w5 w6 w7 w8 w9 w10 : Int => q_qry v w0 w1 w2 w3 w4 w5 w6 w7 w8 w9 w10) (l_e0 x (8)) (l_e1 x 3) (l_e1 x 4) (l_e1 x 5) (l_e1 x 6) (l_e1 x 7) (l_e1 x 8) (l_e1 x 9) (l_e1 x 0) (l_e0 x (0)) (l_e1 x 1) (h.2.2.2.1)) (l_c3 (fun w0 w1 w2 : Int => (mOP 107 (Int32.ofInt w0) (Int32.ofInt w1)).toInt = w2) (l_e1 x 1) (l_e0 x (2)) (l_e1 x 2) (h.2.2.2.2.1)) (l_c11 (fun w0 w1 w2 w3 w4 w5 w6 w7 w8 w9 w10 : Int => q_qry v w0 w1 w2 w3 w4 w5 w6 w7 w8 w9 w10) (l_e0 x (25)) (l_e1 x 3) (l_e1 x 4) (l_e1 x 5) (l_e1 x 6) (l_e1 x 7) (l_e1 x 8) (l_e1 x 9) (l_e1 x 0) (l_e0 x (0)) (l_e0 x (1)) (h.2.2.2.2.2.1)) (l_cc (l_e1 x 0) (h.2.1.1)) (l_cc (l_q1 5 x 0) (h.2.1.2.1))
    refine l_outH rfl (And.intro h.1 ?_)
    exact l_o11 (fun w0 w1 w2 w3 w4 w5 w6 w7 w8 w9 w10 : Int => (True) ∧ (q_qry v w0 w1 w2 w3 w4 w5 w6 w7 w8 w9 w10 ∧ True)) (l_e0 x (20)) (l_e1 x 3) (l_e1 x 4) (l_e1 x 5) (l_e1 x 6) (l_e1 x 7) (l_e1 x 8) (l_e1 x 9) (l_e1 x 0) (l_e0 x (0)) (l_e1 x 2) K
  | skip
    intro v x h
    have C0 : (0 : Int) ≤ x 0 := l_cc (a := y_ev x (0, [(0, 1)])) (l_e1 _ _) (h.2.1.1)
    have C1 : (0 : Int) ≤ 5 - x 0 := l_cc (a := y_ev x (5, [(0, (-1))])) (by show ((5) : Int) + ((-1) * x 0 + 0) = 5 - x 0; omega) (h.2.1.2.1)
    have E0 : y_ev x (8, []) = 8 := (l_e0 _ _)
    have E1 : y_ev x (0, [(3, 1)]) = x 3 := (l_e1 _ _)
    have E2 : y_ev x (0, [(4, 1)]) = x 4 := (l_e1 _ _)
    have E3 : y_ev x (0, [(5, 1)]) = x 5 := (l_e1 _ _)
    have E4 : y_ev x (0, [(6, 1)]) = x 6 := (l_e1 _ _)
    have E5 : y_ev x (0, [(7, 1)]) = x 7 := (l_e1 _ _)
    have E6 : y_ev x (0, [(8, 1)]) = x 8 := (l_e1 _ _)
    have E7 : y_ev x (0, [(9, 1)]) = x 9 := (l_e1 _ _)
    have E8 : y_ev x (0, [(0, 1)]) = x 0 := (l_e1 _ _)
    have E9 : y_ev x (0, []) = 0 := (l_e0 _ _)
    have E10 : y_ev x (0, [(1, 1)]) = x 1 := (l_e1 _ _)
    have E11 : y_ev x (2, []) = 2 := (l_e0 _ _)
    have E12 : y_ev x (0, [(2, 1)]) = x 2 := (l_e1 _ _)
    have E13 : y_ev x (25, []) = 25 := (l_e0 _ _)
    have E14 : y_ev x (1, []) = 1 := (l_e0 _ _)
    have T0 : q_qry v (y_ev x (8, [])) (y_ev x (0, [(3, 1)])) (y_ev x (0, [(4, 1)])) (y_ev x (0, [(5, 1)])) (y_ev x (0, [(6, 1)])) (y_ev x (0, [(7, 1)])) (y_ev x (0, [(8, 1)])) (y_ev x (0, [(9, 1)])) (y_ev x (0, [(0, 1)])) (y_ev x (0, [])) (y_ev x (0, [(1, 1)])) := h.2.2.2.1
    (try rw [E0] at T0); (try rw [E1] at T0); (try rw [E2] at T0); (try rw [E3] at T0); (try rw [E4] at T0); (try rw [E5] at T0); (try rw [E6] at T0); (try rw [E7] at T0); (try rw [E8] at T0); (try rw [E9] at T0); (try rw [E10] at T0)
    have T1 : (mOP 107 (Int32.ofInt (y_ev x (0, [(1, 1)]))) (Int32.ofInt (y_ev x (2, [])))).toInt = (y_ev x (0, [(2, 1)])) := h.2.2.2.2.1
    (try rw [E10] at T1); (try rw [E11] at T1); (try rw [E12] at T1)
    have T2 : q_qry v (y_ev x (25, [])) (y_ev x (0, [(3, 1)])) (y_ev x (0, [(4, 1)])) (y_ev x (0, [(5, 1)])) (y_ev x (0, [(6, 1)])) (y_ev x (0, [(7, 1)])) (y_ev x (0, [(8, 1)])) (y_ev x (0, [(9, 1)])) (y_ev x (0, [(0, 1)])) (y_ev x (0, [])) (y_ev x (1, [])) := h.2.2.2.2.2.1
    (try rw [E13] at T2); (try rw [E1] at T2); (try rw [E2] at T2); (try rw [E3] at T2); (try rw [E4] at T2); (try rw [E5] at T2); (try rw [E6] at T2); (try rw [E7] at T2); (try rw [E8] at T2); (try rw [E9] at T2); (try rw [E14] at T2)
    have K := k_nhB (V := v) (h := x 0) (x := x 1) (v := x 2) (q := x 3) (b := x 4) (s := x 5) (o := x 6) (a1 := x 7) (a2 := x 8) (a3 := x 9) T0 T1 T2 C0 C1
    refine l_outH rfl (And.intro h.1 ?_)
    have O0 : y_ev x (20, []) = 20 := l_e0 _ _
    have O1 : y_ev x (0, [(3, 1)]) = x 3 := l_e1 _ _
    have O2 : y_ev x (0, [(4, 1)]) = x 4 := l_e1 _ _
    have O3 : y_ev x (0, [(5, 1)]) = x 5 := l_e1 _ _
    have O4 : y_ev x (0, [(6, 1)]) = x 6 := l_e1 _ _
    have O5 : y_ev x (0, [(7, 1)]) = x 7 := l_e1 _ _
    have O6 : y_ev x (0, [(8, 1)]) = x 8 := l_e1 _ _
    have O7 : y_ev x (0, [(9, 1)]) = x 9 := l_e1 _ _
    have O8 : y_ev x (0, [(0, 1)]) = x 0 := l_e1 _ _
    have O9 : y_ev x (0, []) = 0 := l_e0 _ _
    have O10 : y_ev x (0, [(2, 1)]) = x 2 := l_e1 _ _
    show (True) ∧ (q_qry v (y_ev x (20, [])) (y_ev x (0, [(3, 1)])) (y_ev x (0, [(4, 1)])) (y_ev x (0, [(5, 1)])) (y_ev x (0, [(6, 1)])) (y_ev x (0, [(7, 1)])) (y_ev x (0, [(8, 1)])) (y_ev x (0, [(9, 1)])) (y_ev x (0, [(0, 1)])) (y_ev x (0, [])) (y_ev x (0, [(2, 1)])) ∧ True)
    (try rw [O0]); (try rw [O1]); (try rw [O2]); (try rw [O3]); (try rw [O4]); (try rw [O5]); (try rw [O6]); (try rw [O7]); (try rw [O8]); (try rw [O9]); (try rw [O10])
    exact K
def lm_893pg_0 (t : List zTg) : List zTg := (238, [(8, []), (0, [(4, 1)]), (0, [(5, 1)]), (0, [(6, 1)]), (0, [(7, 1)]), (0, [(8, 1)]), (0, [(9, 1)]), (0, [(10, 1)]), (0, [(0, 1)]), (0, []), (0, [(1, 1)])]) :: (238, [(4, []), (0, [(4, 1)]), (0, [(5, 1)]), (0, [(6, 1)]), (0, [(7, 1)]), (0, [(8, 1)]), (0, [(9, 1)]), (0, [(10, 1)]), (0, []), (0, [(0, 1)]), (0, [(3, 1)])]) :: (238, [(25, []), (0, [(4, 1)]), (0, [(5, 1)]), (0, [(6, 1)]), (0, [(7, 1)]), (0, [(8, 1)]), (0, [(9, 1)]), (0, [(10, 1)]), (0, [(0, 1)]), (0, []), (0, [])]) :: t
def lm_893p : zS := ((lm_416pi_0 (lm_416pi_1 [])), [], [(0, [(0, 1)]), (5, [(0, (-1))]), (99, [(1, (-1)), (3, (-1))]), (0, [(1, (-1)), (2, 1), (3, (-1))]), (0, [(1, 1), (2, (-1)), (3, 1)])], [], [(0, 0, 0, [(0, 1)]), (0, 0, 0, [(2, 1)])], [], (lm_893pg_0 []))
def lm_893 : zLem := (lm_893p, [([((-2147483648), 2147483647), ((-2147483648), 2147483647), ((-2147483648), 2147483647), ((-2147483648), 2147483647), ((-2147483648), 2147483647), ((-2147483648), 2147483647), ((-2147483648), 2147483647), ((-2147483648), 2147483647), ((-2147483648), 2147483647), ((-2147483648), 2147483647), ((-2147483648), 2147483647)], [], [], [], [], [], [(238, [(20, []), (0, [(4, 1)]), (0, [(5, 1)]), (0, [(6, 1)]), (0, [(7, 1)]), (0, [(8, 1)]), (0, [(9, 1)]), (0, [(10, 1)]), (0, [(0, 1)]), (0, []), (0, [(2, 1)])])])])
theorem lk_893 : l_core lm_893 := by
  first
  | skip
    intro v x h
    have K := k_nhG1 (V := v) (h := x 0) (x := x 1) (v := x 2) (g := x 3) (q := x 4) (b := x 5) (s := x 6) (o := x 7) (a1 := x 8) (a2 := x 9) (a3 := x 10) (l_c11 (fun w0 w1 w2 w3 w4 w5 w6 w7 w8 w9 w10 : Int => q_qry v w0 w1 w2 w3 w4 w5 w6 w7 w8 w9 w10) (l_e0 x (8)) (l_e1 x 4) (l_e1 x 5) (l_e1 x 6) (l_e1 x 7) (l_e1 x 8) (l_e1 x 9) (l_e1 x 10) (l_e1 x 0) (l_e0 x (0)) (l_e1 x 1) (h.2.2.2.1)) (l_c11 (fun w0 w1 w2 w3 w4 w5 w6 w7 w8 w9 w10 : Int => q_qry v w0 w1 w2 w3 w4 w5 w6 w7 w8 w9 w10) (l_e0 x (4)) (l_e1 x 4) (l_e1 x 5) (l_e1 x 6) (l_e1 x 7) (l_e1 x 8) (l_e1 x 9) (l_e1 x 10) (l_e0 x (0)) (l_e1 x 0) (l_e1 x 3) (h.2.2.2.2.1)) (l_c10 (fun w0 w1 w2 w3 w4 w5 w6 w7 w8 w9 : Int => q_qry v w0 w1 w2 w3 w4 w5 w6 w7 w8 w9 w9) (l_e0 x (25)) (l_e1 x 4) (l_e1 x 5) (l_e1 x 6) (l_e1 x 7) (l_e1 x 8) (l_e1 x 9) (l_e1 x 10) (l_e1 x 0) (l_e0 x (0)) (h.2.2.2.2.2.1)) (l_cc (l_e1 x 0) (h.2.1.1)) (l_cc (l_q1 5 x 0) (h.2.1.2.1)) (l_cc (show y_ev x (99, [(1, (-1)), (3, (-1))]) = 99 - x 1 - x 3 by show ((99) : Int) + ((-1) * x 1 + ((-1) * x 3 + 0)) = _; omega) (h.2.1.2.2.1)) (l_cc (show y_ev x (0, [(1, (-1)), (2, 1), (3, (-1))]) = x 2 - x 1 - x 3 by show ((0) : Int) + ((-1) * x 1 + ((1) * x 2 + ((-1) * x 3 + 0))) = _; omega) (h.2.1.2.2.2.1)) (l_cc (show y_ev x (0, [(1, 1), (2, (-1)), (3, 1)]) = x 1 + x 3 - x 2 by show ((0) : Int) + ((1) * x 1 + ((-1) * x 2 + ((1) * x 3 + 0))) = _; omega) (h.2.1.2.2.2.2.1))
    refine l_outH rfl (And.intro h.1 ?_)
    exact l_o11 (fun w0 w1 w2 w3 w4 w5 w6 w7 w8 w9 w10 : Int => (True) ∧ (q_qry v w0 w1 w2 w3 w4 w5 w6 w7 w8 w9 w10 ∧ True)) (l_e0 x (20)) (l_e1 x 4) (l_e1 x 5) (l_e1 x 6) (l_e1 x 7) (l_e1 x 8) (l_e1 x 9) (l_e1 x 10) (l_e1 x 0) (l_e0 x (0)) (l_e1 x 2) K
  | skip
    intro v x h
    have C0 : (0 : Int) ≤ x 0 := l_cc (a := y_ev x (0, [(0, 1)])) (l_e1 _ _) (h.2.1.1)
    have C1 : (0 : Int) ≤ 5 - x 0 := l_cc (a := y_ev x (5, [(0, (-1))])) (by show ((5) : Int) + ((-1) * x 0 + 0) = 5 - x 0; omega) (h.2.1.2.1)
    have C2 : (0 : Int) ≤ 99 - x 1 - x 3 := l_cc (a := y_ev x (99, [(1, (-1)), (3, (-1))])) (by show ((99) : Int) + ((-1) * x 1 + ((-1) * x 3 + 0)) = 99 - x 1 - x 3; omega) (h.2.1.2.2.1)
    have C3 : (0 : Int) ≤ x 2 - x 1 - x 3 := l_cc (a := y_ev x (0, [(1, (-1)), (2, 1), (3, (-1))])) (by show ((0) : Int) + ((-1) * x 1 + ((1) * x 2 + ((-1) * x 3 + 0))) = x 2 - x 1 - x 3; omega) (h.2.1.2.2.2.1)
    have C4 : (0 : Int) ≤ x 1 + x 3 - x 2 := l_cc (a := y_ev x (0, [(1, 1), (2, (-1)), (3, 1)])) (by show ((0) : Int) + ((1) * x 1 + ((-1) * x 2 + ((1) * x 3 + 0))) = x 1 + x 3 - x 2; omega) (h.2.1.2.2.2.2.1)
    have E0 : y_ev x (8, []) = 8 := (l_e0 _ _)
    have E1 : y_ev x (0, [(4, 1)]) = x 4 := (l_e1 _ _)
    have E2 : y_ev x (0, [(5, 1)]) = x 5 := (l_e1 _ _)
    have E3 : y_ev x (0, [(6, 1)]) = x 6 := (l_e1 _ _)
    have E4 : y_ev x (0, [(7, 1)]) = x 7 := (l_e1 _ _)
    have E5 : y_ev x (0, [(8, 1)]) = x 8 := (l_e1 _ _)
    have E6 : y_ev x (0, [(9, 1)]) = x 9 := (l_e1 _ _)
    have E7 : y_ev x (0, [(10, 1)]) = x 10 := (l_e1 _ _)
    have E8 : y_ev x (0, [(0, 1)]) = x 0 := (l_e1 _ _)
    have E9 : y_ev x (0, []) = 0 := (l_e0 _ _)
    have E10 : y_ev x (0, [(1, 1)]) = x 1 := (l_e1 _ _)
    have E11 : y_ev x (4, []) = 4 := (l_e0 _ _)
    have E12 : y_ev x (0, [(3, 1)]) = x 3 := (l_e1 _ _)
    have E13 : y_ev x (25, []) = 25 := (l_e0 _ _)
    have T0 : q_qry v (y_ev x (8, [])) (y_ev x (0, [(4, 1)])) (y_ev x (0, [(5, 1)])) (y_ev x (0, [(6, 1)])) (y_ev x (0, [(7, 1)])) (y_ev x (0, [(8, 1)])) (y_ev x (0, [(9, 1)])) (y_ev x (0, [(10, 1)])) (y_ev x (0, [(0, 1)])) (y_ev x (0, [])) (y_ev x (0, [(1, 1)])) := h.2.2.2.1
    (try rw [E0] at T0); (try rw [E1] at T0); (try rw [E2] at T0); (try rw [E3] at T0); (try rw [E4] at T0); (try rw [E5] at T0); (try rw [E6] at T0); (try rw [E7] at T0); (try rw [E8] at T0); (try rw [E9] at T0); (try rw [E10] at T0)
    have T1 : q_qry v (y_ev x (4, [])) (y_ev x (0, [(4, 1)])) (y_ev x (0, [(5, 1)])) (y_ev x (0, [(6, 1)])) (y_ev x (0, [(7, 1)])) (y_ev x (0, [(8, 1)])) (y_ev x (0, [(9, 1)])) (y_ev x (0, [(10, 1)])) (y_ev x (0, [])) (y_ev x (0, [(0, 1)])) (y_ev x (0, [(3, 1)])) := h.2.2.2.2.1
    (try rw [E11] at T1); (try rw [E1] at T1); (try rw [E2] at T1); (try rw [E3] at T1); (try rw [E4] at T1); (try rw [E5] at T1); (try rw [E6] at T1); (try rw [E7] at T1); (try rw [E9] at T1); (try rw [E8] at T1); (try rw [E12] at T1)
    have T2 : q_qry v (y_ev x (25, [])) (y_ev x (0, [(4, 1)])) (y_ev x (0, [(5, 1)])) (y_ev x (0, [(6, 1)])) (y_ev x (0, [(7, 1)])) (y_ev x (0, [(8, 1)])) (y_ev x (0, [(9, 1)])) (y_ev x (0, [(10, 1)])) (y_ev x (0, [(0, 1)])) (y_ev x (0, [])) (y_ev x (0, [])) := h.2.2.2.2.2.1
    (try rw [E13] at T2); (try rw [E1] at T2); (try rw [E2] at T2); (try rw [E3] at T2); (try rw [E4] at T2); (try rw [E5] at T2); (try rw [E6] at T2); (try rw [E7] at T2); (try rw [E8] at T2); (try rw [E9] at T2)
    have K := k_nhG1 (V := v) (h := x 0) (x := x 1) (v := x 2) (g := x 3) (q := x 4) (b := x 5) (s := x 6) (o := x 7) (a1 := x 8) (a2 := x 9) (a3 := x 10) T0 T1 T2 C0 C1 C2 C3 C4
    refine l_outH rfl (And.intro h.1 ?_)
    have O0 : y_ev x (20, []) = 20 := l_e0 _ _
    have O1 : y_ev x (0, [(4, 1)]) = x 4 := l_e1 _ _
    have O2 : y_ev x (0, [(5, 1)]) = x 5 := l_e1 _ _
    have O3 : y_ev x (0, [(6, 1)]) = x 6 := l_e1 _ _
    have O4 : y_ev x (0, [(7, 1)]) = x 7 := l_e1 _ _
    have O5 : y_ev x (0, [(8, 1)]) = x 8 := l_e1 _ _
    have O6 : y_ev x (0, [(9, 1)]) = x 9 := l_e1 _ _
    have O7 : y_ev x (0, [(10, 1)]) = x 10 := l_e1 _ _
    have O8 : y_ev x (0, [(0, 1)]) = x 0 := l_e1 _ _
    have O9 : y_ev x (0, []) = 0 := l_e0 _ _
    have O10 : y_ev x (0, [(2, 1)]) = x 2 := l_e1 _ _
    show (True) ∧ (q_qry v (y_ev x (20, [])) (y_ev x (0, [(4, 1)])) (y_ev x (0, [(5, 1)])) (y_ev x (0, [(6, 1)])) (y_ev x (0, [(7, 1)])) (y_ev x (0, [(8, 1)])) (y_ev x (0, [(9, 1)])) (y_ev x (0, [(10, 1)])) (y_ev x (0, [(0, 1)])) (y_ev x (0, [])) (y_ev x (0, [(2, 1)])) ∧ True)
    (try rw [O0]); (try rw [O1]); (try rw [O2]); (try rw [O3]); (try rw [O4]); (try rw [O5]); (try rw [O6]); (try rw [O7]); (try rw [O8]); (try rw [O9]); (try rw [O10])
    exact K
def lm_894p : zS := ((lm_416pi_0 (lm_416pi_1 [])), [], [(0, [(0, 1)]), (5, [(0, (-1))]), ((-100), [(1, 1), (3, 1)]), ((-99), [(2, 1)]), (99, [(2, (-1))])], [], [(0, 0, 0, [(0, 1)]), (0, 0, 0, [(2, 1)])], [], (lm_893pg_0 []))
def lm_894 : zLem := (lm_894p, [([((-2147483648), 2147483647), ((-2147483648), 2147483647), ((-2147483648), 2147483647), ((-2147483648), 2147483647), ((-2147483648), 2147483647), ((-2147483648), 2147483647), ((-2147483648), 2147483647), ((-2147483648), 2147483647), ((-2147483648), 2147483647), ((-2147483648), 2147483647), ((-2147483648), 2147483647)], [], [], [], [], [], [(238, [(20, []), (0, [(4, 1)]), (0, [(5, 1)]), (0, [(6, 1)]), (0, [(7, 1)]), (0, [(8, 1)]), (0, [(9, 1)]), (0, [(10, 1)]), (0, [(0, 1)]), (0, []), (0, [(2, 1)])])])])
theorem lk_894 : l_core lm_894 := by
  first
  | skip
    intro v x h
    have K := k_nhG9 (V := v) (h := x 0) (x := x 1) (v := x 2) (g := x 3) (q := x 4) (b := x 5) (s := x 6) (o := x 7) (a1 := x 8) (a2 := x 9) (a3 := x 10) (l_c11 (fun w0 w1 w2 w3 w4 w5 w6 w7 w8 w9 w10 : Int => q_qry v w0 w1 w2 w3 w4 w5 w6 w7 w8 w9 w10) (l_e0 x (8)) (l_e1 x 4) (l_e1 x 5) (l_e1 x 6) (l_e1 x 7) (l_e1 x 8) (l_e1 x 9) (l_e1 x 10) (l_e1 x 0) (l_e0 x (0)) (l_e1 x 1) (h.2.2.2.1)) (l_c11 (fun w0 w1 w2 w3 w4 w5 w6 w7 w8 w9 w10 : Int => q_qry v w0 w1 w2 w3 w4 w5 w6 w7 w8 w9 w10) (l_e0 x (4)) (l_e1 x 4) (l_e1 x 5) (l_e1 x 6) (l_e1 x 7) (l_e1 x 8) (l_e1 x 9) (l_e1 x 10) (l_e0 x (0)) (l_e1 x 0) (l_e1 x 3) (h.2.2.2.2.1)) (l_c10 (fun w0 w1 w2 w3 w4 w5 w6 w7 w8 w9 : Int => q_qry v w0 w1 w2 w3 w4 w5 w6 w7 w8 w9 w9) (l_e0 x (25)) (l_e1 x 4) (l_e1 x 5) (l_e1 x 6) (l_e1 x 7) (l_e1 x 8) (l_e1 x 9) (l_e1 x 10) (l_e1 x 0) (l_e0 x (0)) (h.2.2.2.2.2.1)) (l_cc (l_e1 x 0) (h.2.1.1)) (l_cc (l_q1 5 x 0) (h.2.1.2.1)) (l_cc (show y_ev x ((-100), [(1, 1), (3, 1)]) = x 1 + x 3 - 100 by show ((-100) : Int) + ((1) * x 1 + ((1) * x 3 + 0)) = _; omega) (h.2.1.2.2.1)) (l_cc (l_q2 99 x 2) (h.2.1.2.2.2.1)) (l_cc (l_q1 99 x 2) (h.2.1.2.2.2.2.1))
    refine l_outH rfl (And.intro h.1 ?_)
    exact l_o11 (fun w0 w1 w2 w3 w4 w5 w6 w7 w8 w9 w10 : Int => (True) ∧ (q_qry v w0 w1 w2 w3 w4 w5 w6 w7 w8 w9 w10 ∧ True)) (l_e0 x (20)) (l_e1 x 4) (l_e1 x 5) (l_e1 x 6) (l_e1 x 7) (l_e1 x 8) (l_e1 x 9) (l_e1 x 10) (l_e1 x 0) (l_e0 x (0)) (l_e1 x 2) K
  | skip
    intro v x h
    have C0 : (0 : Int) ≤ x 0 := l_cc (a := y_ev x (0, [(0, 1)])) (l_e1 _ _) (h.2.1.1)
    have C1 : (0 : Int) ≤ 5 - x 0 := l_cc (a := y_ev x (5, [(0, (-1))])) (by show ((5) : Int) + ((-1) * x 0 + 0) = 5 - x 0; omega) (h.2.1.2.1)
    have C2 : (0 : Int) ≤ x 1 + x 3 - 100 := l_cc (a := y_ev x ((-100), [(1, 1), (3, 1)])) (by show ((-100) : Int) + ((1) * x 1 + ((1) * x 3 + 0)) = x 1 + x 3 - 100; omega) (h.2.1.2.2.1)
    have C3 : (0 : Int) ≤ x 2 - 99 := l_cc (a := y_ev x ((-99), [(2, 1)])) (by show ((-99) : Int) + ((1) * x 2 + 0) = x 2 - 99; omega) (h.2.1.2.2.2.1)
    have C4 : (0 : Int) ≤ 99 - x 2 := l_cc (a := y_ev x (99, [(2, (-1))])) (by show ((99) : Int) + ((-1) * x 2 + 0) = 99 - x 2; omega) (h.2.1.2.2.2.2.1)
    have E0 : y_ev x (8, []) = 8 := (l_e0 _ _)
    have E1 : y_ev x (0, [(4, 1)]) = x 4 := (l_e1 _ _)
    have E2 : y_ev x (0, [(5, 1)]) = x 5 := (l_e1 _ _)
    have E3 : y_ev x (0, [(6, 1)]) = x 6 := (l_e1 _ _)
    have E4 : y_ev x (0, [(7, 1)]) = x 7 := (l_e1 _ _)
    have E5 : y_ev x (0, [(8, 1)]) = x 8 := (l_e1 _ _)
    have E6 : y_ev x (0, [(9, 1)]) = x 9 := (l_e1 _ _)
    have E7 : y_ev x (0, [(10, 1)]) = x 10 := (l_e1 _ _)
    have E8 : y_ev x (0, [(0, 1)]) = x 0 := (l_e1 _ _)
    have E9 : y_ev x (0, []) = 0 := (l_e0 _ _)
    have E10 : y_ev x (0, [(1, 1)]) = x 1 := (l_e1 _ _)
    have E11 : y_ev x (4, []) = 4 := (l_e0 _ _)
    have E12 : y_ev x (0, [(3, 1)]) = x 3 := (l_e1 _ _)
    have E13 : y_ev x (25, []) = 25 := (l_e0 _ _)
    have T0 : q_qry v (y_ev x (8, [])) (y_ev x (0, [(4, 1)])) (y_ev x (0, [(5, 1)])) (y_ev x (0, [(6, 1)])) (y_ev x (0, [(7, 1)])) (y_ev x (0, [(8, 1)])) (y_ev x (0, [(9, 1)])) (y_ev x (0, [(10, 1)])) (y_ev x (0, [(0, 1)])) (y_ev x (0, [])) (y_ev x (0, [(1, 1)])) := h.2.2.2.1
    (try rw [E0] at T0); (try rw [E1] at T0); (try rw [E2] at T0); (try rw [E3] at T0); (try rw [E4] at T0); (try rw [E5] at T0); (try rw [E6] at T0); (try rw [E7] at T0); (try rw [E8] at T0); (try rw [E9] at T0); (try rw [E10] at T0)
    have T1 : q_qry v (y_ev x (4, [])) (y_ev x (0, [(4, 1)])) (y_ev x (0, [(5, 1)])) (y_ev x (0, [(6, 1)])) (y_ev x (0, [(7, 1)])) (y_ev x (0, [(8, 1)])) (y_ev x (0, [(9, 1)])) (y_ev x (0, [(10, 1)])) (y_ev x (0, [])) (y_ev x (0, [(0, 1)])) (y_ev x (0, [(3, 1)])) := h.2.2.2.2.1
    (try rw [E11] at T1); (try rw [E1] at T1); (try rw [E2] at T1); (try rw [E3] at T1); (try rw [E4] at T1); (try rw [E5] at T1); (try rw [E6] at T1); (try rw [E7] at T1); (try rw [E9] at T1); (try rw [E8] at T1); (try rw [E12] at T1)
    have T2 : q_qry v (y_ev x (25, [])) (y_ev x (0, [(4, 1)])) (y_ev x (0, [(5, 1)])) (y_ev x (0, [(6, 1)])) (y_ev x (0, [(7, 1)])) (y_ev x (0, [(8, 1)])) (y_ev x (0, [(9, 1)])) (y_ev x (0, [(10, 1)])) (y_ev x (0, [(0, 1)])) (y_ev x (0, [])) (y_ev x (0, [])) := h.2.2.2.2.2.1
    (try rw [E13] at T2); (try rw [E1] at T2); (try rw [E2] at T2); (try rw [E3] at T2); (try rw [E4] at T2); (try rw [E5] at T2); (try rw [E6] at T2); (try rw [E7] at T2); (try rw [E8] at T2); (try rw [E9] at T2)
    have K := k_nhG9 (V := v) (h := x 0) (x := x 1) (v := x 2) (g := x 3) (q := x 4) (b := x 5) (s := x 6) (o := x 7) (a1 := x 8) (a2 := x 9) (a3 := x 10) T0 T1 T2 C0 C1 C2 C3 C4
    refine l_outH rfl (And.intro h.1 ?_)
    have O0 : y_ev x (20, []) = 20 := l_e0 _ _
    have O1 : y_ev x (0, [(4, 1)]) = x 4 := l_e1 _ _
    have O2 : y_ev x (0, [(5, 1)]) = x 5 := l_e1 _ _
    have O3 : y_ev x (0, [(6, 1)]) = x 6 := l_e1 _ _
    have O4 : y_ev x (0, [(7, 1)]) = x 7 := l_e1 _ _
    have O5 : y_ev x (0, [(8, 1)]) = x 8 := l_e1 _ _
    have O6 : y_ev x (0, [(9, 1)]) = x 9 := l_e1 _ _
    have O7 : y_ev x (0, [(10, 1)]) = x 10 := l_e1 _ _
    have O8 : y_ev x (0, [(0, 1)]) = x 0 := l_e1 _ _
    have O9 : y_ev x (0, []) = 0 := l_e0 _ _
    have O10 : y_ev x (0, [(2, 1)]) = x 2 := l_e1 _ _
    show (True) ∧ (q_qry v (y_ev x (20, [])) (y_ev x (0, [(4, 1)])) (y_ev x (0, [(5, 1)])) (y_ev x (0, [(6, 1)])) (y_ev x (0, [(7, 1)])) (y_ev x (0, [(8, 1)])) (y_ev x (0, [(9, 1)])) (y_ev x (0, [(10, 1)])) (y_ev x (0, [(0, 1)])) (y_ev x (0, [])) (y_ev x (0, [(2, 1)])) ∧ True)
    (try rw [O0]); (try rw [O1]); (try rw [O2]); (try rw [O3]); (try rw [O4]); (try rw [O5]); (try rw [O6]); (try rw [O7]); (try rw [O8]); (try rw [O9]); (try rw [O10])
    exact K
def lm_895 : zLem := (([((-2147483648), 2147483647), ((-2147483648), 2147483647)], [], [(0, [(0, 1)]), (99, [(0, (-1))])], [], [(0, 0, 0, [(1, 1)])], [], [(107, [(0, [(0, 1)]), (2, []), (0, [(1, 1)])])]), [([((-2147483648), 2147483647), ((-2147483648), 2147483647)], [], [(0, [(1, 1)]), (49, [(1, (-1))])], [], [], [], [])])
theorem lk_895 : l_core lm_895 := by
  first
  | skip
    intro v x h
    have K := k_hlf (V := v) (x := x 0) (v := x 1) (l_c3 (fun w0 w1 w2 : Int => (mOP 107 (Int32.ofInt w0) (Int32.ofInt w1)).toInt = w2) (l_e1 x 0) (l_e0 x (2)) (l_e1 x 1) (h.2.2.2.1)) (l_cc (l_e1 x 0) (h.2.1.1)) (l_cc (l_q1 99 x 0) (h.2.1.2.1))
    refine l_outH rfl (And.intro h.1 ?_)
    exact l_o2 (fun w0 w1 : Int => (0 ≤ w0 ∧ 0 ≤ w1 ∧ True) ∧ (True)) (l_e1 x 1) (l_q1 49 x 1) K
  | skip
    intro v x h
    have C0 : (0 : Int) ≤ x 0 := l_cc (a := y_ev x (0, [(0, 1)])) (l_e1 _ _) (h.2.1.1)
    have C1 : (0 : Int) ≤ 99 - x 0 := l_cc (a := y_ev x (99, [(0, (-1))])) (by show ((99) : Int) + ((-1) * x 0 + 0) = 99 - x 0; omega) (h.2.1.2.1)
    have E0 : y_ev x (0, [(0, 1)]) = x 0 := (l_e1 _ _)
    have E1 : y_ev x (2, []) = 2 := (l_e0 _ _)
    have E2 : y_ev x (0, [(1, 1)]) = x 1 := (l_e1 _ _)
    have T0 : (mOP 107 (Int32.ofInt (y_ev x (0, [(0, 1)]))) (Int32.ofInt (y_ev x (2, [])))).toInt = (y_ev x (0, [(1, 1)])) := h.2.2.2.1
    (try rw [E0] at T0); (try rw [E1] at T0); (try rw [E2] at T0)
    have K := k_hlf (V := v) (x := x 0) (v := x 1) T0 C0 C1
    refine l_outH rfl (And.intro h.1 ?_)
    have O0 : y_ev x (0, [(1, 1)]) = x 1 := l_e1 _ _
    have O1 : y_ev x (49, [(1, (-1))]) = 49 - x 1 := by show ((49) : Int) + ((-1) * x 1 + 0) = _; omega
    show (0 ≤ y_ev x (0, [(1, 1)]) ∧ 0 ≤ y_ev x (49, [(1, (-1))]) ∧ True) ∧ (True)
    (try rw [O0]); (try rw [O1])
    exact K
def lm_896 : zLem := (([((-2147483648), 2147483647)], [], [], [], [(0, 0, 0, [(0, 1)])], [], []), [([((-2147483648), 2147483647)], [], [(99, [(0, (-1))])], [], [], [], []), ([((-2147483648), 2147483647)], [], [((-100), [(0, 1)])], [], [], [], [])])
theorem lk_896 : l_core lm_896 := by
  first
  | skip
    intro v x h
    have K := k_sp100 (V := v) (v := x 0) 
    rcases K with K | K
    · refine l_outH rfl (And.intro h.1 ?_)
      exact l_o1 (fun w0 : Int => (0 ≤ w0 ∧ True) ∧ (True)) (l_q1 99 x 0) K
    · refine l_outT ?_
      refine l_outH rfl (And.intro h.1 ?_)
      exact l_o1 (fun w0 : Int => (0 ≤ w0 ∧ True) ∧ (True)) (l_q2 100 x 0) K
  | skip
    intro v x h
    have K := k_sp100 (V := v) (v := x 0) 
    rcases K with K | K
    · refine l_outH rfl (And.intro h.1 ?_)
      have O0 : y_ev x (99, [(0, (-1))]) = 99 - x 0 := by show ((99) : Int) + ((-1) * x 0 + 0) = _; omega
      show (0 ≤ y_ev x (99, [(0, (-1))]) ∧ True) ∧ (True)
      (try rw [O0])
      exact K
    · refine l_outT ?_
      refine l_outH rfl (And.intro h.1 ?_)
      have O0 : y_ev x ((-100), [(0, 1)]) = x 0 - 100 := by show ((-100) : Int) + ((1) * x 0 + 0) = _; omega
      show (0 ≤ y_ev x ((-100), [(0, 1)]) ∧ True) ∧ (True)
      (try rw [O0])
      exact K
def lm_897 : zLem := (([((-2147483648), 2147483647), ((-2147483648), 2147483647), ((-2147483648), 2147483647), ((-2147483648), 2147483647), ((-2147483648), 2147483647), ((-2147483648), 2147483647), ((-2147483648), 2147483647), ((-2147483648), 2147483647), ((-2147483648), 2147483647)], [], [(0, [(5, 1)]), (0, [(3, 1)])], [], [(0, 0, 0, [(4, 1)])], [], [(110, [(0, [(1, 1)]), (1, []), (0, [(4, 1)])]), (235, [(0, [(5, 1)]), (0, [(0, 1)]), (0, [(1, 1)]), (0, [(2, 1)]), (0, [(6, 1)]), (0, [(7, 1)]), (0, [(8, 1)]), (4, []), (0, [(3, 1)]), (0, [(5, 1)]), (0, [(5, 1)])])]), [([((-2147483648), 2147483647), ((-2147483648), 2147483647), ((-2147483648), 2147483647), ((-2147483648), 2147483647), ((-2147483648), 2147483647), ((-2147483648), 2147483647), ((-2147483648), 2147483647), ((-2147483648), 2147483647), ((-2147483648), 2147483647)], [], [], [], [], [], [(235, [(0, [(5, 1)]), (0, [(0, 1)]), (0, [(4, 1)]), (0, [(2, 1)]), (0, [(6, 1)]), (0, [(7, 1)]), (0, [(8, 1)]), (4, []), (1, [(3, 1)]), (0, []), (0, [(5, 1)])])])])
theorem lk_897 : l_core lm_897 := by
  first
  | skip
    intro v x h
    have K := k_yrE (V := v) (p := x 0) (y := x 1) (d := x 2) (n := x 3) (y2 := x 4) (H := x 5) (q := x 6) (b := x 7) (s := x 8) (l_c3 (fun w0 w1 w2 : Int => (mOP 110 (Int32.ofInt w0) (Int32.ofInt w1)).toInt = w2) (l_e1 x 1) (l_e0 x (1)) (l_e1 x 4) (h.2.2.2.1)) (l_c9 (fun w0 w1 w2 w3 w4 w5 w6 w7 w8 : Int => q_sto v 0 w0 w1 w2 w3 w4 w5 w6 w7 w8 w0 w0) (l_e1 x 5) (l_e1 x 0) (l_e1 x 1) (l_e1 x 2) (l_e1 x 6) (l_e1 x 7) (l_e1 x 8) (l_e0 x (4)) (l_e1 x 3) (h.2.2.2.2.1)) (l_cc (l_e1 x 5) (h.2.1.1)) (l_cc (l_e1 x 3) (h.2.1.2.1))
    refine l_outH rfl (And.intro h.1 ?_)
    exact l_o10 (fun w0 w1 w2 w3 w4 w5 w6 w7 w8 w9 : Int => (True) ∧ (q_sto v 0 w0 w1 w2 w3 w4 w5 w6 w7 w8 w9 w0 ∧ True)) (l_e1 x 5) (l_e1 x 0) (l_e1 x 4) (l_e1 x 2) (l_e1 x 6) (l_e1 x 7) (l_e1 x 8) (l_e0 x (4)) (l_q3 1 x 3) (l_e0 x (0)) K
  | skip
    intro v x h
    have C0 : (0 : Int) ≤ x 5 := l_cc (a := y_ev x (0, [(5, 1)])) (l_e1 _ _) (h.2.1.1)
    have C1 : (0 : Int) ≤ x 3 := l_cc (a := y_ev x (0, [(3, 1)])) (l_e1 _ _) (h.2.1.2.1)
    have E0 : y_ev x (0, [(1, 1)]) = x 1 := (l_e1 _ _)
    have E1 : y_ev x (1, []) = 1 := (l_e0 _ _)
    have E2 : y_ev x (0, [(4, 1)]) = x 4 := (l_e1 _ _)
    have E3 : y_ev x (0, [(5, 1)]) = x 5 := (l_e1 _ _)
    have E4 : y_ev x (0, [(0, 1)]) = x 0 := (l_e1 _ _)
    have E5 : y_ev x (0, [(2, 1)]) = x 2 := (l_e1 _ _)
    have E6 : y_ev x (0, [(6, 1)]) = x 6 := (l_e1 _ _)
    have E7 : y_ev x (0, [(7, 1)]) = x 7 := (l_e1 _ _)
    have E8 : y_ev x (0, [(8, 1)]) = x 8 := (l_e1 _ _)
    have E9 : y_ev x (4, []) = 4 := (l_e0 _ _)
    have E10 : y_ev x (0, [(3, 1)]) = x 3 := (l_e1 _ _)
    have T0 : (mOP 110 (Int32.ofInt (y_ev x (0, [(1, 1)]))) (Int32.ofInt (y_ev x (1, [])))).toInt = (y_ev x (0, [(4, 1)])) := h.2.2.2.1
    (try rw [E0] at T0); (try rw [E1] at T0); (try rw [E2] at T0)
    have T1 : q_sto v 0 (y_ev x (0, [(5, 1)])) (y_ev x (0, [(0, 1)])) (y_ev x (0, [(1, 1)])) (y_ev x (0, [(2, 1)])) (y_ev x (0, [(6, 1)])) (y_ev x (0, [(7, 1)])) (y_ev x (0, [(8, 1)])) (y_ev x (4, [])) (y_ev x (0, [(3, 1)])) (y_ev x (0, [(5, 1)])) (y_ev x (0, [(5, 1)])) := h.2.2.2.2.1
    (try rw [E3] at T1); (try rw [E4] at T1); (try rw [E0] at T1); (try rw [E5] at T1); (try rw [E6] at T1); (try rw [E7] at T1); (try rw [E8] at T1); (try rw [E9] at T1); (try rw [E10] at T1)
    have K := k_yrE (V := v) (p := x 0) (y := x 1) (d := x 2) (n := x 3) (y2 := x 4) (H := x 5) (q := x 6) (b := x 7) (s := x 8) T0 T1 C0 C1
    refine l_outH rfl (And.intro h.1 ?_)
    have O0 : y_ev x (0, [(5, 1)]) = x 5 := l_e1 _ _
    have O1 : y_ev x (0, [(0, 1)]) = x 0 := l_e1 _ _
    have O2 : y_ev x (0, [(4, 1)]) = x 4 := l_e1 _ _
    have O3 : y_ev x (0, [(2, 1)]) = x 2 := l_e1 _ _
    have O4 : y_ev x (0, [(6, 1)]) = x 6 := l_e1 _ _
    have O5 : y_ev x (0, [(7, 1)]) = x 7 := l_e1 _ _
    have O6 : y_ev x (0, [(8, 1)]) = x 8 := l_e1 _ _
    have O7 : y_ev x (4, []) = 4 := l_e0 _ _
    have O8 : y_ev x (1, [(3, 1)]) = x 3 + 1 := by show ((1) : Int) + ((1) * x 3 + 0) = _; omega
    have O9 : y_ev x (0, []) = 0 := l_e0 _ _
    show (True) ∧ (q_sto v 0 (y_ev x (0, [(5, 1)])) (y_ev x (0, [(0, 1)])) (y_ev x (0, [(4, 1)])) (y_ev x (0, [(2, 1)])) (y_ev x (0, [(6, 1)])) (y_ev x (0, [(7, 1)])) (y_ev x (0, [(8, 1)])) (y_ev x (4, [])) (y_ev x (1, [(3, 1)])) (y_ev x (0, [])) (y_ev x (0, [(5, 1)])) ∧ True)
    (try rw [O0]); (try rw [O1]); (try rw [O2]); (try rw [O3]); (try rw [O4]); (try rw [O5]); (try rw [O6]); (try rw [O7]); (try rw [O8]); (try rw [O9])
    exact K
def lm_898 : zLem := (([((-2147483648), 2147483647), ((-2147483648), 2147483647), ((-2147483648), 2147483647), ((-2147483648), 2147483647), ((-2147483648), 2147483647), ((-2147483648), 2147483647), ((-2147483648), 2147483647), ((-2147483648), 2147483647), ((-2147483648), 2147483647)], [], [(0, [(5, 1)]), (0, [(3, 1)])], [], [(0, 0, 0, [(4, 1)])], [], [(110, [(0, [(1, 1)]), (1, []), (0, [(4, 1)])]), (236, [(0, [(5, 1)]), (0, [(0, 1)]), (0, [(1, 1)]), (0, [(2, 1)]), (0, [(6, 1)]), (0, [(7, 1)]), (0, [(8, 1)]), (4, []), (0, [(3, 1)]), (0, [(5, 1)]), (0, [(5, 1)])])]), [([((-2147483648), 2147483647), ((-2147483648), 2147483647), ((-2147483648), 2147483647), ((-2147483648), 2147483647), ((-2147483648), 2147483647), ((-2147483648), 2147483647), ((-2147483648), 2147483647), ((-2147483648), 2147483647), ((-2147483648), 2147483647)], [], [], [], [], [], [(236, [(0, [(5, 1)]), (0, [(0, 1)]), (0, [(4, 1)]), (0, [(2, 1)]), (0, [(6, 1)]), (0, [(7, 1)]), (0, [(8, 1)]), (4, []), (1, [(3, 1)]), (0, []), (0, [(5, 1)])])])])
theorem lk_898 : l_core lm_898 := by
  first
  | skip
    intro v x h
    have K := k_yrEt (V := v) (p := x 0) (y := x 1) (d := x 2) (n := x 3) (y2 := x 4) (H := x 5) (q := x 6) (b := x 7) (s := x 8) (l_c3 (fun w0 w1 w2 : Int => (mOP 110 (Int32.ofInt w0) (Int32.ofInt w1)).toInt = w2) (l_e1 x 1) (l_e0 x (1)) (l_e1 x 4) (h.2.2.2.1)) (l_c9 (fun w0 w1 w2 w3 w4 w5 w6 w7 w8 : Int => q_sto v 1 w0 w1 w2 w3 w4 w5 w6 w7 w8 w0 w0) (l_e1 x 5) (l_e1 x 0) (l_e1 x 1) (l_e1 x 2) (l_e1 x 6) (l_e1 x 7) (l_e1 x 8) (l_e0 x (4)) (l_e1 x 3) (h.2.2.2.2.1)) (l_cc (l_e1 x 5) (h.2.1.1)) (l_cc (l_e1 x 3) (h.2.1.2.1))
    refine l_outH rfl (And.intro h.1 ?_)
    exact l_o10 (fun w0 w1 w2 w3 w4 w5 w6 w7 w8 w9 : Int => (True) ∧ (q_sto v 1 w0 w1 w2 w3 w4 w5 w6 w7 w8 w9 w0 ∧ True)) (l_e1 x 5) (l_e1 x 0) (l_e1 x 4) (l_e1 x 2) (l_e1 x 6) (l_e1 x 7) (l_e1 x 8) (l_e0 x (4)) (l_q3 1 x 3) (l_e0 x (0)) K
  | skip
    intro v x h
    have C0 : (0 : Int) ≤ x 5 := l_cc (a := y_ev x (0, [(5, 1)])) (l_e1 _ _) (h.2.1.1)
    have C1 : (0 : Int) ≤ x 3 := l_cc (a := y_ev x (0, [(3, 1)])) (l_e1 _ _) (h.2.1.2.1)
    have E0 : y_ev x (0, [(1, 1)]) = x 1 := (l_e1 _ _)
    have E1 : y_ev x (1, []) = 1 := (l_e0 _ _)
    have E2 : y_ev x (0, [(4, 1)]) = x 4 := (l_e1 _ _)
    have E3 : y_ev x (0, [(5, 1)]) = x 5 := (l_e1 _ _)
    have E4 : y_ev x (0, [(0, 1)]) = x 0 := (l_e1 _ _)
    have E5 : y_ev x (0, [(2, 1)]) = x 2 := (l_e1 _ _)
    have E6 : y_ev x (0, [(6, 1)]) = x 6 := (l_e1 _ _)
    have E7 : y_ev x (0, [(7, 1)]) = x 7 := (l_e1 _ _)
    have E8 : y_ev x (0, [(8, 1)]) = x 8 := (l_e1 _ _)
    have E9 : y_ev x (4, []) = 4 := (l_e0 _ _)
    have E10 : y_ev x (0, [(3, 1)]) = x 3 := (l_e1 _ _)
    have T0 : (mOP 110 (Int32.ofInt (y_ev x (0, [(1, 1)]))) (Int32.ofInt (y_ev x (1, [])))).toInt = (y_ev x (0, [(4, 1)])) := h.2.2.2.1
    (try rw [E0] at T0); (try rw [E1] at T0); (try rw [E2] at T0)
    have T1 : q_sto v 1 (y_ev x (0, [(5, 1)])) (y_ev x (0, [(0, 1)])) (y_ev x (0, [(1, 1)])) (y_ev x (0, [(2, 1)])) (y_ev x (0, [(6, 1)])) (y_ev x (0, [(7, 1)])) (y_ev x (0, [(8, 1)])) (y_ev x (4, [])) (y_ev x (0, [(3, 1)])) (y_ev x (0, [(5, 1)])) (y_ev x (0, [(5, 1)])) := h.2.2.2.2.1
    (try rw [E3] at T1); (try rw [E4] at T1); (try rw [E0] at T1); (try rw [E5] at T1); (try rw [E6] at T1); (try rw [E7] at T1); (try rw [E8] at T1); (try rw [E9] at T1); (try rw [E10] at T1)
    have K := k_yrEt (V := v) (p := x 0) (y := x 1) (d := x 2) (n := x 3) (y2 := x 4) (H := x 5) (q := x 6) (b := x 7) (s := x 8) T0 T1 C0 C1
    refine l_outH rfl (And.intro h.1 ?_)
    have O0 : y_ev x (0, [(5, 1)]) = x 5 := l_e1 _ _
    have O1 : y_ev x (0, [(0, 1)]) = x 0 := l_e1 _ _
    have O2 : y_ev x (0, [(4, 1)]) = x 4 := l_e1 _ _
    have O3 : y_ev x (0, [(2, 1)]) = x 2 := l_e1 _ _
    have O4 : y_ev x (0, [(6, 1)]) = x 6 := l_e1 _ _
    have O5 : y_ev x (0, [(7, 1)]) = x 7 := l_e1 _ _
    have O6 : y_ev x (0, [(8, 1)]) = x 8 := l_e1 _ _
    have O7 : y_ev x (4, []) = 4 := l_e0 _ _
    have O8 : y_ev x (1, [(3, 1)]) = x 3 + 1 := by show ((1) : Int) + ((1) * x 3 + 0) = _; omega
    have O9 : y_ev x (0, []) = 0 := l_e0 _ _
    show (True) ∧ (q_sto v 1 (y_ev x (0, [(5, 1)])) (y_ev x (0, [(0, 1)])) (y_ev x (0, [(4, 1)])) (y_ev x (0, [(2, 1)])) (y_ev x (0, [(6, 1)])) (y_ev x (0, [(7, 1)])) (y_ev x (0, [(8, 1)])) (y_ev x (4, [])) (y_ev x (1, [(3, 1)])) (y_ev x (0, [])) (y_ev x (0, [(5, 1)])) ∧ True)
    (try rw [O0]); (try rw [O1]); (try rw [O2]); (try rw [O3]); (try rw [O4]); (try rw [O5]); (try rw [O6]); (try rw [O7]); (try rw [O8]); (try rw [O9])
    exact K
def lm_899 : zLem := (([((-2147483648), 2147483647), ((-2147483648), 2147483647), ((-2147483648), 2147483647), ((-2147483648), 2147483647), ((-2147483648), 2147483647), ((-2147483648), 2147483647), ((-2147483648), 2147483647), ((-2147483648), 2147483647), ((-2147483648), 2147483647), ((-2147483648), 2147483647)], [], [(0, [(3, 1)])], [], [(0, 0, 0, [(4, 1)])], [], [(110, [(0, [(1, 1)]), (1, []), (0, [(4, 1)])]), (236, [(0, [(6, 1)]), (0, [(0, 1)]), (0, [(1, 1)]), (0, [(2, 1)]), (0, [(7, 1)]), (0, [(8, 1)]), (0, [(9, 1)]), (5, []), (0, [(3, 1)]), (0, [(5, 1)]), (1, [])])]), [([((-2147483648), 2147483647), ((-2147483648), 2147483647), ((-2147483648), 2147483647), ((-2147483648), 2147483647), ((-2147483648), 2147483647), ((-2147483648), 2147483647), ((-2147483648), 2147483647), ((-2147483648), 2147483647), ((-2147483648), 2147483647), ((-2147483648), 2147483647)], [], [], [], [], [], [(236, [(0, [(6, 1)]), (0, [(0, 1)]), (0, [(4, 1)]), (0, [(2, 1)]), (0, [(7, 1)]), (0, [(8, 1)]), (0, [(9, 1)]), (5, []), (1, [(3, 1)]), (0, [(5, 1)]), (0, [])])])])
theorem lk_899 : l_core lm_899 := by
  first
  | skip
    intro v x h
    have K := k_yrS (V := v) (p := x 0) (y := x 1) (d := x 2) (n := x 3) (y2 := x 4) (h := x 5) (H := x 6) (q := x 7) (b := x 8) (s := x 9) (l_c3 (fun w0 w1 w2 : Int => (mOP 110 (Int32.ofInt w0) (Int32.ofInt w1)).toInt = w2) (l_e1 x 1) (l_e0 x (1)) (l_e1 x 4) (h.2.2.2.1)) (l_c11 (fun w0 w1 w2 w3 w4 w5 w6 w7 w8 w9 w10 : Int => q_sto v 1 w0 w1 w2 w3 w4 w5 w6 w7 w8 w9 w10) (l_e1 x 6) (l_e1 x 0) (l_e1 x 1) (l_e1 x 2) (l_e1 x 7) (l_e1 x 8) (l_e1 x 9) (l_e0 x (5)) (l_e1 x 3) (l_e1 x 5) (l_e0 x (1)) (h.2.2.2.2.1)) (l_cc (l_e1 x 3) (h.2.1.1))
    refine l_outH rfl (And.intro h.1 ?_)
    exact l_o11 (fun w0 w1 w2 w3 w4 w5 w6 w7 w8 w9 w10 : Int => (True) ∧ (q_sto v 1 w0 w1 w2 w3 w4 w5 w6 w7 w8 w9 w10 ∧ True)) (l_e1 x 6) (l_e1 x 0) (l_e1 x 4) (l_e1 x 2) (l_e1 x 7) (l_e1 x 8) (l_e1 x 9) (l_e0 x (5)) (l_q3 1 x 3) (l_e1 x 5) (l_e0 x (0)) K
  | skip
    intro v x h
    have C0 : (0 : Int) ≤ x 3 := l_cc (a := y_ev x (0, [(3, 1)])) (l_e1 _ _) (h.2.1.1)
    have E0 : y_ev x (0, [(1, 1)]) = x 1 := (l_e1 _ _)
    have E1 : y_ev x (1, []) = 1 := (l_e0 _ _)
    have E2 : y_ev x (0, [(4, 1)]) = x 4 := (l_e1 _ _)
    have E3 : y_ev x (0, [(6, 1)]) = x 6 := (l_e1 _ _)
    have E4 : y_ev x (0, [(0, 1)]) = x 0 := (l_e1 _ _)
    have E5 : y_ev x (0, [(2, 1)]) = x 2 := (l_e1 _ _)
    have E6 : y_ev x (0, [(7, 1)]) = x 7 := (l_e1 _ _)
    have E7 : y_ev x (0, [(8, 1)]) = x 8 := (l_e1 _ _)
    have E8 : y_ev x (0, [(9, 1)]) = x 9 := (l_e1 _ _)
    have E9 : y_ev x (5, []) = 5 := (l_e0 _ _)
    have E10 : y_ev x (0, [(3, 1)]) = x 3 := (l_e1 _ _)
    have E11 : y_ev x (0, [(5, 1)]) = x 5 := (l_e1 _ _)
    have T0 : (mOP 110 (Int32.ofInt (y_ev x (0, [(1, 1)]))) (Int32.ofInt (y_ev x (1, [])))).toInt = (y_ev x (0, [(4, 1)])) := h.2.2.2.1
    (try rw [E0] at T0); (try rw [E1] at T0); (try rw [E2] at T0)
    have T1 : q_sto v 1 (y_ev x (0, [(6, 1)])) (y_ev x (0, [(0, 1)])) (y_ev x (0, [(1, 1)])) (y_ev x (0, [(2, 1)])) (y_ev x (0, [(7, 1)])) (y_ev x (0, [(8, 1)])) (y_ev x (0, [(9, 1)])) (y_ev x (5, [])) (y_ev x (0, [(3, 1)])) (y_ev x (0, [(5, 1)])) (y_ev x (1, [])) := h.2.2.2.2.1
    (try rw [E3] at T1); (try rw [E4] at T1); (try rw [E0] at T1); (try rw [E5] at T1); (try rw [E6] at T1); (try rw [E7] at T1); (try rw [E8] at T1); (try rw [E9] at T1); (try rw [E10] at T1); (try rw [E11] at T1); (try rw [E1] at T1)
    have K := k_yrS (V := v) (p := x 0) (y := x 1) (d := x 2) (n := x 3) (y2 := x 4) (h := x 5) (H := x 6) (q := x 7) (b := x 8) (s := x 9) T0 T1 C0
    refine l_outH rfl (And.intro h.1 ?_)
    have O0 : y_ev x (0, [(6, 1)]) = x 6 := l_e1 _ _
    have O1 : y_ev x (0, [(0, 1)]) = x 0 := l_e1 _ _
    have O2 : y_ev x (0, [(4, 1)]) = x 4 := l_e1 _ _
    have O3 : y_ev x (0, [(2, 1)]) = x 2 := l_e1 _ _
    have O4 : y_ev x (0, [(7, 1)]) = x 7 := l_e1 _ _
    have O5 : y_ev x (0, [(8, 1)]) = x 8 := l_e1 _ _
    have O6 : y_ev x (0, [(9, 1)]) = x 9 := l_e1 _ _
    have O7 : y_ev x (5, []) = 5 := l_e0 _ _
    have O8 : y_ev x (1, [(3, 1)]) = x 3 + 1 := by show ((1) : Int) + ((1) * x 3 + 0) = _; omega
    have O9 : y_ev x (0, [(5, 1)]) = x 5 := l_e1 _ _
    have O10 : y_ev x (0, []) = 0 := l_e0 _ _
    show (True) ∧ (q_sto v 1 (y_ev x (0, [(6, 1)])) (y_ev x (0, [(0, 1)])) (y_ev x (0, [(4, 1)])) (y_ev x (0, [(2, 1)])) (y_ev x (0, [(7, 1)])) (y_ev x (0, [(8, 1)])) (y_ev x (0, [(9, 1)])) (y_ev x (5, [])) (y_ev x (1, [(3, 1)])) (y_ev x (0, [(5, 1)])) (y_ev x (0, [])) ∧ True)
    (try rw [O0]); (try rw [O1]); (try rw [O2]); (try rw [O3]); (try rw [O4]); (try rw [O5]); (try rw [O6]); (try rw [O7]); (try rw [O8]); (try rw [O9]); (try rw [O10])
    exact K
def lm_901 : zLem := (([((-2147483648), 2147483647), ((-2147483648), 2147483647), ((-2147483648), 2147483647), ((-2147483648), 2147483647), ((-2147483648), 2147483647), ((-2147483648), 2147483647), ((-2147483648), 2147483647), ((-2147483648), 2147483647), ((-2147483648), 2147483647), ((-2147483648), 2147483647), ((-2147483648), 2147483647)], [], [], [], [(0, 0, 0, [(3, 1)])], [], [(238, [(0, [(0, 1)]), (0, [(4, 1)]), (0, [(5, 1)]), (0, [(6, 1)]), (0, [(7, 1)]), (0, [(8, 1)]), (0, [(9, 1)]), (0, [(10, 1)]), (0, [(1, 1)]), (0, [(2, 1)]), (0, [(3, 1)])])]), [([((-2147483648), 2147483647), ((-2147483648), 2147483647), ((-2147483648), 2147483647), ((-2147483648), 2147483647), ((-2147483648), 2147483647), ((-2147483648), 2147483647), ((-2147483648), 2147483647), ((-2147483648), 2147483647), ((-2147483648), 2147483647), ((-2147483648), 2147483647), ((-2147483648), 2147483647)], [], [], [], [], [], [(260, [(0, [(0, 1)]), (0, [(4, 1)]), (0, [(5, 1)]), (0, [(6, 1)]), (0, [(7, 1)]), (0, [(8, 1)]), (0, [(9, 1)]), (0, [(10, 1)]), (0, [(1, 1)]), (0, [(2, 1)]), (0, [(3, 1)])])])])
theorem lk_901 : l_core lm_901 := by
  first
  | skip
    intro v x h
    have K := k_qrc (V := v) (c := x 0) (x1 := x 1) (x2 := x 2) (u := x 3) (q := x 4) (b := x 5) (s := x 6) (o := x 7) (a1 := x 8) (a2 := x 9) (a3 := x 10) (l_c11 (fun w0 w1 w2 w3 w4 w5 w6 w7 w8 w9 w10 : Int => q_qry v w0 w1 w2 w3 w4 w5 w6 w7 w8 w9 w10) (l_e1 x 0) (l_e1 x 4) (l_e1 x 5) (l_e1 x 6) (l_e1 x 7) (l_e1 x 8) (l_e1 x 9) (l_e1 x 10) (l_e1 x 1) (l_e1 x 2) (l_e1 x 3) (h.2.2.2.1))
    refine l_outH rfl (And.intro h.1 ?_)
    exact l_o11 (fun w0 w1 w2 w3 w4 w5 w6 w7 w8 w9 w10 : Int => (True) ∧ (q_qry v w0 w1 w2 w3 w4 w5 w6 w7 w8 w9 w10 ∧ True)) (l_e1 x 0) (l_e1 x 4) (l_e1 x 5) (l_e1 x 6) (l_e1 x 7) (l_e1 x 8) (l_e1 x 9) (l_e1 x 10) (l_e1 x 1) (l_e1 x 2) (l_e1 x 3) K
  | skip
    intro v x h
    have E0 : y_ev x (0, [(0, 1)]) = x 0 := (l_e1 _ _)
    have E1 : y_ev x (0, [(4, 1)]) = x 4 := (l_e1 _ _)
    have E2 : y_ev x (0, [(5, 1)]) = x 5 := (l_e1 _ _)
    have E3 : y_ev x (0, [(6, 1)]) = x 6 := (l_e1 _ _)
    have E4 : y_ev x (0, [(7, 1)]) = x 7 := (l_e1 _ _)
    have E5 : y_ev x (0, [(8, 1)]) = x 8 := (l_e1 _ _)
    have E6 : y_ev x (0, [(9, 1)]) = x 9 := (l_e1 _ _)
    have E7 : y_ev x (0, [(10, 1)]) = x 10 := (l_e1 _ _)
    have E8 : y_ev x (0, [(1, 1)]) = x 1 := (l_e1 _ _)
    have E9 : y_ev x (0, [(2, 1)]) = x 2 := (l_e1 _ _)
    have E10 : y_ev x (0, [(3, 1)]) = x 3 := (l_e1 _ _)
    have T0 : q_qry v (y_ev x (0, [(0, 1)])) (y_ev x (0, [(4, 1)])) (y_ev x (0, [(5, 1)])) (y_ev x (0, [(6, 1)])) (y_ev x (0, [(7, 1)])) (y_ev x (0, [(8, 1)])) (y_ev x (0, [(9, 1)])) (y_ev x (0, [(10, 1)])) (y_ev x (0, [(1, 1)])) (y_ev x (0, [(2, 1)])) (y_ev x (0, [(3, 1)])) := h.2.2.2.1
    (try rw [E0] at T0); (try rw [E1] at T0); (try rw [E2] at T0); (try rw [E3] at T0); (try rw [E4] at T0); (try rw [E5] at T0); (try rw [E6] at T0); (try rw [E7] at T0); (try rw [E8] at T0); (try rw [E9] at T0); (try rw [E10] at T0)
    have K := k_qrc (V := v) (c := x 0) (x1 := x 1) (x2 := x 2) (u := x 3) (q := x 4) (b := x 5) (s := x 6) (o := x 7) (a1 := x 8) (a2 := x 9) (a3 := x 10) T0
    refine l_outH rfl (And.intro h.1 ?_)
    have O0 : y_ev x (0, [(0, 1)]) = x 0 := l_e1 _ _
    have O1 : y_ev x (0, [(4, 1)]) = x 4 := l_e1 _ _
    have O2 : y_ev x (0, [(5, 1)]) = x 5 := l_e1 _ _
    have O3 : y_ev x (0, [(6, 1)]) = x 6 := l_e1 _ _
    have O4 : y_ev x (0, [(7, 1)]) = x 7 := l_e1 _ _
    have O5 : y_ev x (0, [(8, 1)]) = x 8 := l_e1 _ _
    have O6 : y_ev x (0, [(9, 1)]) = x 9 := l_e1 _ _
    have O7 : y_ev x (0, [(10, 1)]) = x 10 := l_e1 _ _
    have O8 : y_ev x (0, [(1, 1)]) = x 1 := l_e1 _ _
    have O9 : y_ev x (0, [(2, 1)]) = x 2 := l_e1 _ _
    have O10 : y_ev x (0, [(3, 1)]) = x 3 := l_e1 _ _
    show (True) ∧ (q_qry v (y_ev x (0, [(0, 1)])) (y_ev x (0, [(4, 1)])) (y_ev x (0, [(5, 1)])) (y_ev x (0, [(6, 1)])) (y_ev x (0, [(7, 1)])) (y_ev x (0, [(8, 1)])) (y_ev x (0, [(9, 1)])) (y_ev x (0, [(10, 1)])) (y_ev x (0, [(1, 1)])) (y_ev x (0, [(2, 1)])) (y_ev x (0, [(3, 1)])) ∧ True)
    (try rw [O0]); (try rw [O1]); (try rw [O2]); (try rw [O3]); (try rw [O4]); (try rw [O5]); (try rw [O6]); (try rw [O7]); (try rw [O8]); (try rw [O9]); (try rw [O10])
    exact K
def lm_903 : zLem := (([((-2147483648), 2147483647), ((-2147483648), 2147483647), ((-2147483648), 2147483647), ((-2147483648), 2147483647), ((-2147483648), 2147483647)], [], [(0, [(0, 1)]), ((-1), [(0, (-1)), (2, 1)]), (6, [(2, (-1))]), (0, [(1, 1)]), (6, [(1, (-1))])], [], [(0, 0, 0, [(0, 1)])], [], [(235, [(0, [(2, 1)]), (0, [(1, 1)]), (0, [(3, 1)]), (0, [(4, 1)]), (0, []), (0, []), (0, []), (0, []), (0, []), (0, []), (0, [])]), (238, [(6, []), (0, []), (0, []), (0, []), (0, []), (0, []), (0, []), (0, []), (0, [(0, 1)]), (0, []), ((-1), [])])]), [([((-2147483648), 2147483647), ((-2147483648), 2147483647), ((-2147483648), 2147483647), ((-2147483648), 2147483647), ((-2147483648), 2147483647)], [], [(5, [(1, (-1))])], [], [], [], [])])
theorem lk_903 : l_core lm_903 := by
  first
  | skip
    intro v x h
    have K := k_pl6 (V := v) (h := x 0) (p := x 1) (H := x 2) (y := x 3) (d := x 4) (l_c5 (fun w0 w1 w2 w3 w4 : Int => q_sto v 0 w0 w1 w2 w3 w4 w4 w4 w4 w4 w4 w4) (l_e1 x 2) (l_e1 x 1) (l_e1 x 3) (l_e1 x 4) (l_e0 x (0)) (h.2.2.2.1)) (l_c4 (fun w0 w1 w2 w3 : Int => q_qry v w0 w1 w1 w1 w1 w1 w1 w1 w2 w1 w3) (l_e0 x (6)) (l_e0 x (0)) (l_e1 x 0) (l_e0 x (-1)) (h.2.2.2.2.1)) (l_cc (l_e1 x 0) (h.2.1.1)) (l_cc (l_q6 1 x 0 2) (h.2.1.2.1)) (l_cc (l_q1 6 x 2) (h.2.1.2.2.1)) (l_cc (l_e1 x 1) (h.2.1.2.2.2.1)) (l_cc (l_q1 6 x 1) (h.2.1.2.2.2.2.1))
    refine l_outH rfl (And.intro h.1 ?_)
    exact l_o1 (fun w0 : Int => (0 ≤ w0 ∧ True) ∧ (True)) (l_q1 5 x 1) K
  | skip
    intro v x h
    have C0 : (0 : Int) ≤ x 0 := l_cc (a := y_ev x (0, [(0, 1)])) (l_e1 _ _) (h.2.1.1)
    have C1 : (0 : Int) ≤ x 2 - x 0 - 1 := l_cc (a := y_ev x ((-1), [(0, (-1)), (2, 1)])) (by show ((-1) : Int) + ((-1) * x 0 + ((1) * x 2 + 0)) = x 2 - x 0 - 1; omega) (h.2.1.2.1)
    have C2 : (0 : Int) ≤ 6 - x 2 := l_cc (a := y_ev x (6, [(2, (-1))])) (by show ((6) : Int) + ((-1) * x 2 + 0) = 6 - x 2; omega) (h.2.1.2.2.1)
    have C3 : (0 : Int) ≤ x 1 := l_cc (a := y_ev x (0, [(1, 1)])) (l_e1 _ _) (h.2.1.2.2.2.1)
    have C4 : (0 : Int) ≤ 6 - x 1 := l_cc (a := y_ev x (6, [(1, (-1))])) (by show ((6) : Int) + ((-1) * x 1 + 0) = 6 - x 1; omega) (h.2.1.2.2.2.2.1)
    have E0 : y_ev x (0, [(2, 1)]) = x 2 := (l_e1 _ _)
    have E1 : y_ev x (0, [(1, 1)]) = x 1 := (l_e1 _ _)
    have E2 : y_ev x (0, [(3, 1)]) = x 3 := (l_e1 _ _)
    have E3 : y_ev x (0, [(4, 1)]) = x 4 := (l_e1 _ _)
    have E4 : y_ev x (0, []) = 0 := (l_e0 _ _)
    have E5 : y_ev x (6, []) = 6 := (l_e0 _ _)
    have E6 : y_ev x (0, [(0, 1)]) = x 0 := (l_e1 _ _)
    have E7 : y_ev x ((-1), []) = (-1) := (l_e0 _ _)
    have T0 : q_sto v 0 (y_ev x (0, [(2, 1)])) (y_ev x (0, [(1, 1)])) (y_ev x (0, [(3, 1)])) (y_ev x (0, [(4, 1)])) (y_ev x (0, [])) (y_ev x (0, [])) (y_ev x (0, [])) (y_ev x (0, [])) (y_ev x (0, [])) (y_ev x (0, [])) (y_ev x (0, [])) := h.2.2.2.1
    (try rw [E0] at T0); (try rw [E1] at T0); (try rw [E2] at T0); (try rw [E3] at T0); (try rw [E4] at T0)
    have T1 : q_qry v (y_ev x (6, [])) (y_ev x (0, [])) (y_ev x (0, [])) (y_ev x (0, [])) (y_ev x (0, [])) (y_ev x (0, [])) (y_ev x (0, [])) (y_ev x (0, [])) (y_ev x (0, [(0, 1)])) (y_ev x (0, [])) (y_ev x ((-1), [])) := h.2.2.2.2.1
    (try rw [E5] at T1); (try rw [E4] at T1); (try rw [E6] at T1); (try rw [E7] at T1)
    have K := k_pl6 (V := v) (h := x 0) (p := x 1) (H := x 2) (y := x 3) (d := x 4) T0 T1 C0 C1 C2 C3 C4
    refine l_outH rfl (And.intro h.1 ?_)
    have O0 : y_ev x (5, [(1, (-1))]) = 5 - x 1 := by show ((5) : Int) + ((-1) * x 1 + 0) = _; omega
    show (0 ≤ y_ev x (5, [(1, (-1))]) ∧ True) ∧ (True)
    (try rw [O0])
    exact K
def lm_904p : zS := ([((-2147483648), 2147483647), ((-2147483648), 2147483647), ((-2147483648), 2147483647), ((-2147483648), 2147483647), ((-2147483648), 2147483647), ((-2147483648), 2147483647), ((-2147483648), 2147483647)], [(28, false)], [(0, [(0, 1)]), ((-1), [(0, (-1)), (3, 1)]), (6, [(3, (-1))])], [], [(0, 0, 0, [(0, 1)])], [(0, (true, 0, 0, [(0, 1)]), 0, 0, 0, [(2, 1)])], [(235, [(0, [(3, 1)]), (0, [(4, 1)]), (0, [(5, 1)]), (0, [(6, 1)]), (0, []), (0, []), (0, []), (0, []), (0, []), (0, []), (0, [])]), (238, [(8, []), (0, []), (0, []), (0, []), (0, []), (0, []), (0, []), (0, []), (0, [(0, 1)]), (0, []), (0, [(1, 1)])]), (238, [(6, []), (0, []), (0, []), (0, []), (0, []), (0, []), (0, []), (0, []), (0, [(0, 1)]), (0, []), ((-1), [])])])
def lm_904 : zLem := (lm_904p, [([((-2147483648), 2147483647), ((-2147483648), 2147483647), ((-2147483648), 2147483647), ((-2147483648), 2147483647), ((-2147483648), 2147483647), ((-2147483648), 2147483647), ((-2147483648), 2147483647)], [(28, false)], [], [], [], [], [(259, [(0, [(3, 1)]), (0, [(4, 1)]), (0, [(5, 1)]), (0, [(6, 1)]), (0, [(0, 1)]), (0, [(1, 1)]), (0, [(2, 1)])])])])
theorem lk_904 : l_core lm_904 := by
  first
  | skip
    intro v x h
    have G0 := h.2.2.1
    have K := k_spx (V := v) (h := x 0) (x := x 1) (g := x 2) (H := x 3) (p := x 4) (y := x 5) (d := x 6) (l_c5 (fun w0 w1 w2 w3 w4 : Int => q_sto v 0 w0 w1 w2 w3 w4 w4 w4 w4 w4 w4 w4) (l_e1 x 3) (l_e1 x 4) (l_e1 x 5) (l_e1 x 6) (l_e0 x (0)) (h.2.2.2.1)) (l_c4 (fun w0 w1 w2 w3 : Int => q_qry v w0 w1 w1 w1 w1 w1 w1 w1 w2 w1 w3) (l_e0 x (8)) (l_e0 x (0)) (l_e1 x 0) (l_e1 x 1) (h.2.2.2.2.1)) (l_c4 (fun w0 w1 w2 w3 : Int => q_qry v w0 w1 w1 w1 w1 w1 w1 w1 w2 w1 w3) (l_e0 x (6)) (l_e0 x (0)) (l_e1 x 0) (l_e0 x (-1)) (h.2.2.2.2.2.1)) (l_cc (l_e1 x 0) (h.2.1.1)) (l_cc (l_q6 1 x 0 3) (h.2.1.2.1)) (l_cc (l_q1 6 x 3) (h.2.1.2.2.1)) (l_ff (f := v 28) (L := j_len 28) (l_e1 x 0) (l_e1 x 2) (G0.1.1))
    refine l_outH rfl (And.intro h.1 ?_)
    exact l_o7 (fun w0 w1 w2 w3 w4 w5 w6 : Int => (True) ∧ (q_spx v w0 w1 w2 w3 w4 w5 w6 ∧ True)) (l_e1 x 3) (l_e1 x 4) (l_e1 x 5) (l_e1 x 6) (l_e1 x 0) (l_e1 x 1) (l_e1 x 2) K
  | skip
    intro v x h
    have G0 := h.2.2.1
    have C0 : (0 : Int) ≤ x 0 := l_cc (a := y_ev x (0, [(0, 1)])) (l_e1 _ _) (h.2.1.1)
    have C1 : (0 : Int) ≤ x 3 - x 0 - 1 := l_cc (a := y_ev x ((-1), [(0, (-1)), (3, 1)])) (by show ((-1) : Int) + ((-1) * x 0 + ((1) * x 3 + 0)) = x 3 - x 0 - 1; omega) (h.2.1.2.1)
    have C2 : (0 : Int) ≤ 6 - x 3 := l_cc (a := y_ev x (6, [(3, (-1))])) (by show ((6) : Int) + ((-1) * x 3 + 0) = 6 - x 3; omega) (h.2.1.2.2.1)
    have F0 : (0 : Int) ≤ x 0 ∧ (x 0 : Int) < j_len 28 ∧ v 28 (x 0) = x 2 := l_ff (f := v 28) (L := j_len 28) (a := y_ev x (0, [(0, 1)])) (b := y_ev x (0, [(2, 1)])) (l_e1 _ _) (l_e1 _ _) (G0.1.1)
    have E0 : y_ev x (0, [(3, 1)]) = x 3 := (l_e1 _ _)
    have E1 : y_ev x (0, [(4, 1)]) = x 4 := (l_e1 _ _)
    have E2 : y_ev x (0, [(5, 1)]) = x 5 := (l_e1 _ _)
    have E3 : y_ev x (0, [(6, 1)]) = x 6 := (l_e1 _ _)
    have E4 : y_ev x (0, []) = 0 := (l_e0 _ _)
    have E5 : y_ev x (8, []) = 8 := (l_e0 _ _)
    have E6 : y_ev x (0, [(0, 1)]) = x 0 := (l_e1 _ _)
    have E7 : y_ev x (0, [(1, 1)]) = x 1 := (l_e1 _ _)
    have E8 : y_ev x (6, []) = 6 := (l_e0 _ _)
    have E9 : y_ev x ((-1), []) = (-1) := (l_e0 _ _)
    have T0 : q_sto v 0 (y_ev x (0, [(3, 1)])) (y_ev x (0, [(4, 1)])) (y_ev x (0, [(5, 1)])) (y_ev x (0, [(6, 1)])) (y_ev x (0, [])) (y_ev x (0, [])) (y_ev x (0, [])) (y_ev x (0, [])) (y_ev x (0, [])) (y_ev x (0, [])) (y_ev x (0, [])) := h.2.2.2.1
    (try rw [E0] at T0); (try rw [E1] at T0); (try rw [E2] at T0); (try rw [E3] at T0); (try rw [E4] at T0)
    have T1 : q_qry v (y_ev x (8, [])) (y_ev x (0, [])) (y_ev x (0, [])) (y_ev x (0, [])) (y_ev x (0, [])) (y_ev x (0, [])) (y_ev x (0, [])) (y_ev x (0, [])) (y_ev x (0, [(0, 1)])) (y_ev x (0, [])) (y_ev x (0, [(1, 1)])) := h.2.2.2.2.1
    (try rw [E5] at T1); (try rw [E4] at T1); (try rw [E6] at T1); (try rw [E7] at T1)
    have T2 : q_qry v (y_ev x (6, [])) (y_ev x (0, [])) (y_ev x (0, [])) (y_ev x (0, [])) (y_ev x (0, [])) (y_ev x (0, [])) (y_ev x (0, [])) (y_ev x (0, [])) (y_ev x (0, [(0, 1)])) (y_ev x (0, [])) (y_ev x ((-1), [])) := h.2.2.2.2.2.1
    (try rw [E8] at T2); (try rw [E4] at T2); (try rw [E6] at T2); (try rw [E9] at T2)
    have K := k_spx (V := v) (h := x 0) (x := x 1) (g := x 2) (H := x 3) (p := x 4) (y := x 5) (d := x 6) T0 T1 T2 C0 C1 C2 F0
    refine l_outH rfl (And.intro h.1 ?_)
    have O0 : y_ev x (0, [(3, 1)]) = x 3 := l_e1 _ _
    have O1 : y_ev x (0, [(4, 1)]) = x 4 := l_e1 _ _
    have O2 : y_ev x (0, [(5, 1)]) = x 5 := l_e1 _ _
    have O3 : y_ev x (0, [(6, 1)]) = x 6 := l_e1 _ _
    have O4 : y_ev x (0, [(0, 1)]) = x 0 := l_e1 _ _
    have O5 : y_ev x (0, [(1, 1)]) = x 1 := l_e1 _ _
    have O6 : y_ev x (0, [(2, 1)]) = x 2 := l_e1 _ _
    show (True) ∧ (q_spx v (y_ev x (0, [(3, 1)])) (y_ev x (0, [(4, 1)])) (y_ev x (0, [(5, 1)])) (y_ev x (0, [(6, 1)])) (y_ev x (0, [(0, 1)])) (y_ev x (0, [(1, 1)])) (y_ev x (0, [(2, 1)])) ∧ True)
    (try rw [O0]); (try rw [O1]); (try rw [O2]); (try rw [O3]); (try rw [O4]); (try rw [O5]); (try rw [O6])
    exact K
def lm_905pg_0 (t : List zTg) : List zTg := (259, [(0, [(6, 1)]), (0, [(5, 1)]), (0, [(7, 1)]), (0, [(8, 1)]), (0, [(0, 1)]), (0, [(1, 1)]), (0, [(2, 1)])]) :: (238, [(7, []), (0, []), (0, []), (0, []), (0, []), (0, []), (0, []), (0, []), (0, [(0, 1)]), (0, []), (0, [(4, 1)])]) :: (238, [(6, []), (0, []), (0, []), (0, []), (0, []), (0, []), (0, []), (0, []), (0, [(0, 1)]), (0, []), ((-1), [])]) :: (238, [(8, []), (0, []), (0, []), (0, []), (0, []), (0, []), (0, []), (0, []), (0, [(0, 1)]), (0, []), (0, [(1, 1)])]) :: (110, [(0, [(2, 1)]), (1, []), (0, [(3, 1)])]) :: t
def lm_905p : zS := ((lm_474pi_0 (lm_474pi_1 [])), [(27, false), (28, false), (29, false), (30, false), (31, false)], [(0, [(0, 1)]), ((-1), [(0, (-1)), (6, 1)]), (6, [(6, (-1))]), (0, [(5, 1)]), (5, [(5, (-1))]), ((-1), [(1, 1)])], [], [(0, 0, 0, [(0, 1)])], [(0, (true, 0, 0, [(0, 1)]), 0, 0, 0, []), (1, (true, 0, 0, [(0, 1)]), 0, 0, 0, [(3, 1)]), (2, (true, 0, 0, [(5, 1)]), 0, 0, 0, [(0, 1)]), (3, (true, 0, 0, [(5, 1)]), 0, 0, 0, [(1, 1)]), (4, (true, 0, 0, [(5, 1)]), 0, 0, 0, [(4, 1)])], (lm_905pg_0 []))
def lm_905 : zLem := (lm_905p, [([((-2147483648), 2147483647), ((-2147483648), 2147483647), ((-2147483648), 2147483647), ((-2147483648), 2147483647), ((-2147483648), 2147483647), ((-2147483648), 2147483647), ((-2147483648), 2147483647), ((-2147483648), 2147483647), ((-2147483648), 2147483647)], [(27, false), (28, false), (29, false), (30, false), (31, false)], [], [], [], [], [(235, [(0, [(6, 1)]), (1, [(5, 1)]), (0, [(7, 1)]), (0, [(8, 1)]), (0, []), (0, []), (0, []), (1, []), (0, [(0, 1)]), (0, []), (0, [])])])])
theorem lk_905 : l_core lm_905 := by
  first
  | skip
    intro v x h
    have G0 := h.2.2.1
    have G1 := G0.2
    have G2 := G1.2
    have G3 := G2.2
    have G4 := G3.2
    have K := k_spl (V := v) (h := x 0) (x := x 1) (g := x 2) (g2 := x 3) (z := x 4) (p := x 5) (H := x 6) (y := x 7) (d := x 8) (l_c7 (fun w0 w1 w2 w3 w4 w5 w6 : Int => q_spx v w0 w1 w2 w3 w4 w5 w6) (l_e1 x 6) (l_e1 x 5) (l_e1 x 7) (l_e1 x 8) (l_e1 x 0) (l_e1 x 1) (l_e1 x 2) (h.2.2.2.1)) (l_c4 (fun w0 w1 w2 w3 : Int => q_qry v w0 w1 w1 w1 w1 w1 w1 w1 w2 w1 w3) (l_e0 x (7)) (l_e0 x (0)) (l_e1 x 0) (l_e1 x 4) (h.2.2.2.2.1)) (l_c4 (fun w0 w1 w2 w3 : Int => q_qry v w0 w1 w1 w1 w1 w1 w1 w1 w2 w1 w3) (l_e0 x (6)) (l_e0 x (0)) (l_e1 x 0) (l_e0 x (-1)) (h.2.2.2.2.2.1)) (l_c4 (fun w0 w1 w2 w3 : Int => q_qry v w0 w1 w1 w1 w1 w1 w1 w1 w2 w1 w3) (l_e0 x (8)) (l_e0 x (0)) (l_e1 x 0) (l_e1 x 1) (h.2.2.2.2.2.2.1)) (l_c3 (fun w0 w1 w2 : Int => (mOP 110 (Int32.ofInt w0) (Int32.ofInt w1)).toInt = w2) (l_e1 x 2) (l_e0 x (1)) (l_e1 x 3) (h.2.2.2.2.2.2.2.1)) (l_cc (l_e1 x 0) (h.2.1.1)) (l_cc (l_q6 1 x 0 6) (h.2.1.2.1)) (l_cc (l_q1 6 x 6) (h.2.1.2.2.1)) (l_cc (l_e1 x 5) (h.2.1.2.2.2.1)) (l_cc (l_q1 5 x 5) (h.2.1.2.2.2.2.1)) (l_cc (l_q2 1 x 1) (h.2.1.2.2.2.2.2.1)) (l_ff (f := v 27) (L := j_len 27) (l_e1 x 0) (l_e0 x (0)) (G0.1.1)) (l_ff (f := v 28) (L := j_len 28) (l_e1 x 0) (l_e1 x 3) (G1.1.1)) (l_ff (f := v 29) (L := j_len 29) (l_e1 x 5) (l_e1 x 0) (G2.1.1)) (l_ff (f := v 30) (L := j_len 30) (l_e1 x 5) (l_e1 x 1) (G3.1.1)) (l_ff (f := v 31) (L := j_len 31) (l_e1 x 5) (l_e1 x 4) (G4.1.1))
    refine l_outH rfl (And.intro h.1 ?_)
    exact l_o7 (fun w0 w1 w2 w3 w4 w5 w6 : Int => (True) ∧ (q_sto v 0 w0 w1 w2 w3 w4 w4 w4 w5 w6 w4 w4 ∧ True)) (l_e1 x 6) (l_q3 1 x 5) (l_e1 x 7) (l_e1 x 8) (l_e0 x (0)) (l_e0 x (1)) (l_e1 x 0) K
  | skip
    intro v x h
    have G0 := h.2.2.1
    have G1 := G0.2
    have G2 := G1.2
    have G3 := G2.2
    have G4 := G3.2
    have C0 : (0 : Int) ≤ x 0 := l_cc (a := y_ev x (0, [(0, 1)])) (l_e1 _ _) (h.2.1.1)
    have C1 : (0 : Int) ≤ x 6 - x 0 - 1 := l_cc (a := y_ev x ((-1), [(0, (-1)), (6, 1)])) (by show ((-1) : Int) + ((-1) * x 0 + ((1) * x 6 + 0)) = x 6 - x 0 - 1; omega) (h.2.1.2.1)
    have C2 : (0 : Int) ≤ 6 - x 6 := l_cc (a := y_ev x (6, [(6, (-1))])) (by show ((6) : Int) + ((-1) * x 6 + 0) = 6 - x 6; omega) (h.2.1.2.2.1)
    have C3 : (0 : Int) ≤ x 5 := l_cc (a := y_ev x (0, [(5, 1)])) (l_e1 _ _) (h.2.1.2.2.2.1)
    have C4 : (0 : Int) ≤ 5 - x 5 := l_cc (a := y_ev x (5, [(5, (-1))])) (by show ((5) : Int) + ((-1) * x 5 + 0) = 5 - x 5; omega) (h.2.1.2.2.2.2.1)
    have C5 : (0 : Int) ≤ x 1 - 1 := l_cc (a := y_ev x ((-1), [(1, 1)])) (by show ((-1) : Int) + ((1) * x 1 + 0) = x 1 - 1; omega) (h.2.1.2.2.2.2.2.1)
    have F0 : (0 : Int) ≤ x 0 ∧ (x 0 : Int) < j_len 27 ∧ v 27 (x 0) = 0 := l_ff (f := v 27) (L := j_len 27) (a := y_ev x (0, [(0, 1)])) (b := y_ev x (0, [])) (l_e1 _ _) (l_e0 _ _) (G0.1.1)
    have F1 : (0 : Int) ≤ x 0 ∧ (x 0 : Int) < j_len 28 ∧ v 28 (x 0) = x 3 := l_ff (f := v 28) (L := j_len 28) (a := y_ev x (0, [(0, 1)])) (b := y_ev x (0, [(3, 1)])) (l_e1 _ _) (l_e1 _ _) (G1.1.1)
    have F2 : (0 : Int) ≤ x 5 ∧ (x 5 : Int) < j_len 29 ∧ v 29 (x 5) = x 0 := l_ff (f := v 29) (L := j_len 29) (a := y_ev x (0, [(5, 1)])) (b := y_ev x (0, [(0, 1)])) (l_e1 _ _) (l_e1 _ _) (G2.1.1)
    have F3 : (0 : Int) ≤ x 5 ∧ (x 5 : Int) < j_len 30 ∧ v 30 (x 5) = x 1 := l_ff (f := v 30) (L := j_len 30) (a := y_ev x (0, [(5, 1)])) (b := y_ev x (0, [(1, 1)])) (l_e1 _ _) (l_e1 _ _) (G3.1.1)
    have F4 : (0 : Int) ≤ x 5 ∧ (x 5 : Int) < j_len 31 ∧ v 31 (x 5) = x 4 := l_ff (f := v 31) (L := j_len 31) (a := y_ev x (0, [(5, 1)])) (b := y_ev x (0, [(4, 1)])) (l_e1 _ _) (l_e1 _ _) (G4.1.1)
    have E0 : y_ev x (0, [(6, 1)]) = x 6 := (l_e1 _ _)
    have E1 : y_ev x (0, [(5, 1)]) = x 5 := (l_e1 _ _)
    have E2 : y_ev x (0, [(7, 1)]) = x 7 := (l_e1 _ _)
    have E3 : y_ev x (0, [(8, 1)]) = x 8 := (l_e1 _ _)
    have E4 : y_ev x (0, [(0, 1)]) = x 0 := (l_e1 _ _)
    have E5 : y_ev x (0, [(1, 1)]) = x 1 := (l_e1 _ _)
    have E6 : y_ev x (0, [(2, 1)]) = x 2 := (l_e1 _ _)
    have E7 : y_ev x (7, []) = 7 := (l_e0 _ _)
    have E8 : y_ev x (0, []) = 0 := (l_e0 _ _)
    have E9 : y_ev x (0, [(4, 1)]) = x 4 := (l_e1 _ _)
    have E10 : y_ev x (6, []) = 6 := (l_e0 _ _)
    have E11 : y_ev x ((-1), []) = (-1) := (l_e0 _ _)
    have E12 : y_ev x (8, []) = 8 := (l_e0 _ _)
    have E13 : y_ev x (1, []) = 1 := (l_e0 _ _)
    have E14 : y_ev x (0, [(3, 1)]) = x 3 := (l_e1 _ _)
    have T0 : q_spx v (y_ev x (0, [(6, 1)])) (y_ev x (0, [(5, 1)])) (y_ev x (0, [(7, 1)])) (y_ev x (0, [(8, 1)])) (y_ev x (0, [(0, 1)])) (y_ev x (0, [(1, 1)])) (y_ev x (0, [(2, 1)])) := h.2.2.2.1
    (try rw [E0] at T0); (try rw [E1] at T0); (try rw [E2] at T0); (try rw [E3] at T0); (try rw [E4] at T0); (try rw [E5] at T0); (try rw [E6] at T0)
    have T1 : q_qry v (y_ev x (7, [])) (y_ev x (0, [])) (y_ev x (0, [])) (y_ev x (0, [])) (y_ev x (0, [])) (y_ev x (0, [])) (y_ev x (0, [])) (y_ev x (0, [])) (y_ev x (0, [(0, 1)])) (y_ev x (0, [])) (y_ev x (0, [(4, 1)])) := h.2.2.2.2.1
    (try rw [E7] at T1); (try rw [E8] at T1); (try rw [E4] at T1); (try rw [E9] at T1)
    have T2 : q_qry v (y_ev x (6, [])) (y_ev x (0, [])) (y_ev x (0, [])) (y_ev x (0, [])) (y_ev x (0, [])) (y_ev x (0, [])) (y_ev x (0, [])) (y_ev x (0, [])) (y_ev x (0, [(0, 1)])) (y_ev x (0, [])) (y_ev x ((-1), [])) := h.2.2.2.2.2.1
    (try rw [E10] at T2); (try rw [E8] at T2); (try rw [E4] at T2); (try rw [E11] at T2)
    have T3 : q_qry v (y_ev x (8, [])) (y_ev x (0, [])) (y_ev x (0, [])) (y_ev x (0, [])) (y_ev x (0, [])) (y_ev x (0, [])) (y_ev x (0, [])) (y_ev x (0, [])) (y_ev x (0, [(0, 1)])) (y_ev x (0, [])) (y_ev x (0, [(1, 1)])) := h.2.2.2.2.2.2.1
    (try rw [E12] at T3); (try rw [E8] at T3); (try rw [E4] at T3); (try rw [E5] at T3)
    have T4 : (mOP 110 (Int32.ofInt (y_ev x (0, [(2, 1)]))) (Int32.ofInt (y_ev x (1, [])))).toInt = (y_ev x (0, [(3, 1)])) := h.2.2.2.2.2.2.2.1
    (try rw [E6] at T4); (try rw [E13] at T4); (try rw [E14] at T4)
    have K := k_spl (V := v) (h := x 0) (x := x 1) (g := x 2) (g2 := x 3) (z := x 4) (p := x 5) (H := x 6) (y := x 7) (d := x 8) T0 T1 T2 T3 T4 C0 C1 C2 C3 C4 C5 F0 F1 F2 F3 F4
    refine l_outH rfl (And.intro h.1 ?_)
    have O0 : y_ev x (0, [(6, 1)]) = x 6 := l_e1 _ _
    have O1 : y_ev x (1, [(5, 1)]) = x 5 + 1 := by show ((1) : Int) + ((1) * x 5 + 0) = _; omega
    have O2 : y_ev x (0, [(7, 1)]) = x 7 := l_e1 _ _
    have O3 : y_ev x (0, [(8, 1)]) = x 8 := l_e1 _ _
    have O4 : y_ev x (0, []) = 0 := l_e0 _ _
    have O5 : y_ev x (1, []) = 1 := l_e0 _ _
    have O6 : y_ev x (0, [(0, 1)]) = x 0 := l_e1 _ _
    show (True) ∧ (q_sto v 0 (y_ev x (0, [(6, 1)])) (y_ev x (1, [(5, 1)])) (y_ev x (0, [(7, 1)])) (y_ev x (0, [(8, 1)])) (y_ev x (0, [])) (y_ev x (0, [])) (y_ev x (0, [])) (y_ev x (1, [])) (y_ev x (0, [(0, 1)])) (y_ev x (0, [])) (y_ev x (0, [])) ∧ True)
    (try rw [O0]); (try rw [O1]); (try rw [O2]); (try rw [O3]); (try rw [O4]); (try rw [O5]); (try rw [O6])
    exact K
def lm_906 : zLem := (([((-2147483648), 2147483647), ((-2147483648), 2147483647), ((-2147483648), 2147483647), ((-2147483648), 2147483647)], [], [(0, [(1, 1)]), (6, [(1, (-1))])], [], [], [], [(235, [(0, [(0, 1)]), (0, [(1, 1)]), (0, [(2, 1)]), (0, [(3, 1)]), (0, []), (0, []), (0, []), (0, []), (0, []), (0, []), (0, [])])]), [([((-2147483648), 2147483647), ((-2147483648), 2147483647), ((-2147483648), 2147483647), ((-2147483648), 2147483647)], [], [], [], [], [], [(260, [(8, []), (0, []), (0, []), (0, []), (0, []), (0, []), (0, []), (0, []), (24, []), (0, []), (0, [(1, 1)])])])])
theorem lk_906 : l_core lm_906 := by
  first
  | skip
    intro v x h
    have K := k_c24 (V := v) (H := x 0) (p := x 1) (y := x 2) (d := x 3) (l_c5 (fun w0 w1 w2 w3 w4 : Int => q_sto v 0 w0 w1 w2 w3 w4 w4 w4 w4 w4 w4 w4) (l_e1 x 0) (l_e1 x 1) (l_e1 x 2) (l_e1 x 3) (l_e0 x (0)) (h.2.2.2.1)) (l_cc (l_e1 x 1) (h.2.1.1)) (l_cc (l_q1 6 x 1) (h.2.1.2.1))
    refine l_outH rfl (And.intro h.1 ?_)
    exact l_o4 (fun w0 w1 w2 w3 : Int => (True) ∧ (q_qry v w0 w1 w1 w1 w1 w1 w1 w1 w2 w1 w3 ∧ True)) (l_e0 x (8)) (l_e0 x (0)) (l_e0 x (24)) (l_e1 x 1) K
  | skip
    intro v x h
    have C0 : (0 : Int) ≤ x 1 := l_cc (a := y_ev x (0, [(1, 1)])) (l_e1 _ _) (h.2.1.1)
    have C1 : (0 : Int) ≤ 6 - x 1 := l_cc (a := y_ev x (6, [(1, (-1))])) (by show ((6) : Int) + ((-1) * x 1 + 0) = 6 - x 1; omega) (h.2.1.2.1)
    have E0 : y_ev x (0, [(0, 1)]) = x 0 := (l_e1 _ _)
    have E1 : y_ev x (0, [(1, 1)]) = x 1 := (l_e1 _ _)
    have E2 : y_ev x (0, [(2, 1)]) = x 2 := (l_e1 _ _)
    have E3 : y_ev x (0, [(3, 1)]) = x 3 := (l_e1 _ _)
    have E4 : y_ev x (0, []) = 0 := (l_e0 _ _)
    have T0 : q_sto v 0 (y_ev x (0, [(0, 1)])) (y_ev x (0, [(1, 1)])) (y_ev x (0, [(2, 1)])) (y_ev x (0, [(3, 1)])) (y_ev x (0, [])) (y_ev x (0, [])) (y_ev x (0, [])) (y_ev x (0, [])) (y_ev x (0, [])) (y_ev x (0, [])) (y_ev x (0, [])) := h.2.2.2.1
    (try rw [E0] at T0); (try rw [E1] at T0); (try rw [E2] at T0); (try rw [E3] at T0); (try rw [E4] at T0)
    have K := k_c24 (V := v) (H := x 0) (p := x 1) (y := x 2) (d := x 3) T0 C0 C1
    refine l_outH rfl (And.intro h.1 ?_)
    have O0 : y_ev x (8, []) = 8 := l_e0 _ _
    have O1 : y_ev x (0, []) = 0 := l_e0 _ _
    have O2 : y_ev x (24, []) = 24 := l_e0 _ _
    have O3 : y_ev x (0, [(1, 1)]) = x 1 := l_e1 _ _
    show (True) ∧ (q_qry v (y_ev x (8, [])) (y_ev x (0, [])) (y_ev x (0, [])) (y_ev x (0, [])) (y_ev x (0, [])) (y_ev x (0, [])) (y_ev x (0, [])) (y_ev x (0, [])) (y_ev x (24, [])) (y_ev x (0, [])) (y_ev x (0, [(1, 1)])) ∧ True)
    (try rw [O0]); (try rw [O1]); (try rw [O2]); (try rw [O3])
    exact K
def lm_907 : zLem := (([((-2147483648), 2147483647), ((-2147483648), 2147483647), ((-2147483648), 2147483647), ((-2147483648), 2147483647), ((-2147483648), 2147483647), ((-2147483648), 2147483647)], [], [(0, [(0, 1)]), ((-1), [(0, (-1)), (2, 1)]), (6, [(2, (-1))]), ((-1), [(1, 1)])], [], [(0, 0, 0, [(0, 1)])], [], [(235, [(0, [(2, 1)]), (0, [(3, 1)]), (0, [(4, 1)]), (0, [(5, 1)]), (0, []), (0, []), (0, []), (0, []), (0, []), (0, []), (0, [])]), (238, [(6, []), (0, []), (0, []), (0, []), (0, []), (0, []), (0, []), (0, []), (0, [(0, 1)]), (0, []), ((-1), [])]), (238, [(8, []), (0, []), (0, []), (0, []), (0, []), (0, []), (0, []), (0, []), (0, [(0, 1)]), (0, []), (0, [(1, 1)])])]), [([((-2147483648), 2147483647), ((-2147483648), 2147483647), ((-2147483648), 2147483647), ((-2147483648), 2147483647), ((-2147483648), 2147483647), ((-2147483648), 2147483647)], [], [], [], [], [], [(260, [(9, []), (0, []), (0, []), (0, []), (0, []), (0, []), (0, []), (0, []), (0, [(0, 1)]), (0, [(2, 1)]), (1, [])])])])
theorem lk_907 : l_core lm_907 := by
  first
  | skip
    intro v x h
    have K := k_canY (V := v) (h := x 0) (x := x 1) (H := x 2) (p := x 3) (y := x 4) (d := x 5) (l_c5 (fun w0 w1 w2 w3 w4 : Int => q_sto v 0 w0 w1 w2 w3 w4 w4 w4 w4 w4 w4 w4) (l_e1 x 2) (l_e1 x 3) (l_e1 x 4) (l_e1 x 5) (l_e0 x (0)) (h.2.2.2.1)) (l_c4 (fun w0 w1 w2 w3 : Int => q_qry v w0 w1 w1 w1 w1 w1 w1 w1 w2 w1 w3) (l_e0 x (6)) (l_e0 x (0)) (l_e1 x 0) (l_e0 x (-1)) (h.2.2.2.2.1)) (l_c4 (fun w0 w1 w2 w3 : Int => q_qry v w0 w1 w1 w1 w1 w1 w1 w1 w2 w1 w3) (l_e0 x (8)) (l_e0 x (0)) (l_e1 x 0) (l_e1 x 1) (h.2.2.2.2.2.1)) (l_cc (l_e1 x 0) (h.2.1.1)) (l_cc (l_q6 1 x 0 2) (h.2.1.2.1)) (l_cc (l_q1 6 x 2) (h.2.1.2.2.1)) (l_cc (l_q2 1 x 1) (h.2.1.2.2.2.1))
    refine l_outH rfl (And.intro h.1 ?_)
    exact l_o5 (fun w0 w1 w2 w3 w4 : Int => (True) ∧ (q_qry v w0 w1 w1 w1 w1 w1 w1 w1 w2 w3 w4 ∧ True)) (l_e0 x (9)) (l_e0 x (0)) (l_e1 x 0) (l_e1 x 2) (l_e0 x (1)) K
  | skip
    intro v x h
    have C0 : (0 : Int) ≤ x 0 := l_cc (a := y_ev x (0, [(0, 1)])) (l_e1 _ _) (h.2.1.1)
    have C1 : (0 : Int) ≤ x 2 - x 0 - 1 := l_cc (a := y_ev x ((-1), [(0, (-1)), (2, 1)])) (by show ((-1) : Int) + ((-1) * x 0 + ((1) * x 2 + 0)) = x 2 - x 0 - 1; omega) (h.2.1.2.1)
    have C2 : (0 : Int) ≤ 6 - x 2 := l_cc (a := y_ev x (6, [(2, (-1))])) (by show ((6) : Int) + ((-1) * x 2 + 0) = 6 - x 2; omega) (h.2.1.2.2.1)
    have C3 : (0 : Int) ≤ x 1 - 1 := l_cc (a := y_ev x ((-1), [(1, 1)])) (by show ((-1) : Int) + ((1) * x 1 + 0) = x 1 - 1; omega) (h.2.1.2.2.2.1)
    have E0 : y_ev x (0, [(2, 1)]) = x 2 := (l_e1 _ _)
    have E1 : y_ev x (0, [(3, 1)]) = x 3 := (l_e1 _ _)
    have E2 : y_ev x (0, [(4, 1)]) = x 4 := (l_e1 _ _)
    have E3 : y_ev x (0, [(5, 1)]) = x 5 := (l_e1 _ _)
    have E4 : y_ev x (0, []) = 0 := (l_e0 _ _)
    have E5 : y_ev x (6, []) = 6 := (l_e0 _ _)
    have E6 : y_ev x (0, [(0, 1)]) = x 0 := (l_e1 _ _)
    have E7 : y_ev x ((-1), []) = (-1) := (l_e0 _ _)
    have E8 : y_ev x (8, []) = 8 := (l_e0 _ _)
    have E9 : y_ev x (0, [(1, 1)]) = x 1 := (l_e1 _ _)
    have T0 : q_sto v 0 (y_ev x (0, [(2, 1)])) (y_ev x (0, [(3, 1)])) (y_ev x (0, [(4, 1)])) (y_ev x (0, [(5, 1)])) (y_ev x (0, [])) (y_ev x (0, [])) (y_ev x (0, [])) (y_ev x (0, [])) (y_ev x (0, [])) (y_ev x (0, [])) (y_ev x (0, [])) := h.2.2.2.1
    (try rw [E0] at T0); (try rw [E1] at T0); (try rw [E2] at T0); (try rw [E3] at T0); (try rw [E4] at T0)
    have T1 : q_qry v (y_ev x (6, [])) (y_ev x (0, [])) (y_ev x (0, [])) (y_ev x (0, [])) (y_ev x (0, [])) (y_ev x (0, [])) (y_ev x (0, [])) (y_ev x (0, [])) (y_ev x (0, [(0, 1)])) (y_ev x (0, [])) (y_ev x ((-1), [])) := h.2.2.2.2.1
    (try rw [E5] at T1); (try rw [E4] at T1); (try rw [E6] at T1); (try rw [E7] at T1)
    have T2 : q_qry v (y_ev x (8, [])) (y_ev x (0, [])) (y_ev x (0, [])) (y_ev x (0, [])) (y_ev x (0, [])) (y_ev x (0, [])) (y_ev x (0, [])) (y_ev x (0, [])) (y_ev x (0, [(0, 1)])) (y_ev x (0, [])) (y_ev x (0, [(1, 1)])) := h.2.2.2.2.2.1
    (try rw [E8] at T2); (try rw [E4] at T2); (try rw [E6] at T2); (try rw [E9] at T2)
    have K := k_canY (V := v) (h := x 0) (x := x 1) (H := x 2) (p := x 3) (y := x 4) (d := x 5) T0 T1 T2 C0 C1 C2 C3
    refine l_outH rfl (And.intro h.1 ?_)
    have O0 : y_ev x (9, []) = 9 := l_e0 _ _
    have O1 : y_ev x (0, []) = 0 := l_e0 _ _
    have O2 : y_ev x (0, [(0, 1)]) = x 0 := l_e1 _ _
    have O3 : y_ev x (0, [(2, 1)]) = x 2 := l_e1 _ _
    have O4 : y_ev x (1, []) = 1 := l_e0 _ _
    show (True) ∧ (q_qry v (y_ev x (9, [])) (y_ev x (0, [])) (y_ev x (0, [])) (y_ev x (0, [])) (y_ev x (0, [])) (y_ev x (0, [])) (y_ev x (0, [])) (y_ev x (0, [])) (y_ev x (0, [(0, 1)])) (y_ev x (0, [(2, 1)])) (y_ev x (1, [])) ∧ True)
    (try rw [O0]); (try rw [O1]); (try rw [O2]); (try rw [O3]); (try rw [O4])
    exact K
def lm_908 : zLem := (([((-2147483648), 2147483647), ((-2147483648), 2147483647), ((-2147483648), 2147483647), ((-2147483648), 2147483647), ((-2147483648), 2147483647), ((-2147483648), 2147483647)], [], [(0, [(0, 1)]), ((-1), [(0, (-1)), (2, 1)]), (6, [(2, (-1))]), (0, [(1, (-1))])], [], [(0, 0, 0, [(0, 1)])], [], [(235, [(0, [(2, 1)]), (0, [(3, 1)]), (0, [(4, 1)]), (0, [(5, 1)]), (0, []), (0, []), (0, []), (0, []), (0, []), (0, []), (0, [])]), (238, [(8, []), (0, []), (0, []), (0, []), (0, []), (0, []), (0, []), (0, []), (0, [(0, 1)]), (0, []), (0, [(1, 1)])])]), [([((-2147483648), 2147483647), ((-2147483648), 2147483647), ((-2147483648), 2147483647), ((-2147483648), 2147483647), ((-2147483648), 2147483647), ((-2147483648), 2147483647)], [], [], [], [], [], [(260, [(9, []), (0, []), (0, []), (0, []), (0, []), (0, []), (0, []), (0, []), (0, [(0, 1)]), (0, [(2, 1)]), (0, [])])])])
theorem lk_908 : l_core lm_908 := by
  first
  | skip
    intro v x h
    have K := k_canN0 (V := v) (h := x 0) (x := x 1) (H := x 2) (p := x 3) (y := x 4) (d := x 5) (l_c5 (fun w0 w1 w2 w3 w4 : Int => q_sto v 0 w0 w1 w2 w3 w4 w4 w4 w4 w4 w4 w4) (l_e1 x 2) (l_e1 x 3) (l_e1 x 4) (l_e1 x 5) (l_e0 x (0)) (h.2.2.2.1)) (l_c4 (fun w0 w1 w2 w3 : Int => q_qry v w0 w1 w1 w1 w1 w1 w1 w1 w2 w1 w3) (l_e0 x (8)) (l_e0 x (0)) (l_e1 x 0) (l_e1 x 1) (h.2.2.2.2.1)) (l_cc (l_e1 x 0) (h.2.1.1)) (l_cc (l_q6 1 x 0 2) (h.2.1.2.1)) (l_cc (l_q1 6 x 2) (h.2.1.2.2.1)) (l_cc (l_q7 x 1) (h.2.1.2.2.2.1))
    refine l_outH rfl (And.intro h.1 ?_)
    exact l_o4 (fun w0 w1 w2 w3 : Int => (True) ∧ (q_qry v w0 w1 w1 w1 w1 w1 w1 w1 w2 w3 w1 ∧ True)) (l_e0 x (9)) (l_e0 x (0)) (l_e1 x 0) (l_e1 x 2) K
  | skip
    intro v x h
    have C0 : (0 : Int) ≤ x 0 := l_cc (a := y_ev x (0, [(0, 1)])) (l_e1 _ _) (h.2.1.1)
    have C1 : (0 : Int) ≤ x 2 - x 0 - 1 := l_cc (a := y_ev x ((-1), [(0, (-1)), (2, 1)])) (by show ((-1) : Int) + ((-1) * x 0 + ((1) * x 2 + 0)) = x 2 - x 0 - 1; omega) (h.2.1.2.1)
    have C2 : (0 : Int) ≤ 6 - x 2 := l_cc (a := y_ev x (6, [(2, (-1))])) (by show ((6) : Int) + ((-1) * x 2 + 0) = 6 - x 2; omega) (h.2.1.2.2.1)
    have C3 : (0 : Int) ≤ -x 1 := l_cc (a := y_ev x (0, [(1, (-1))])) (by show ((0) : Int) + ((-1) * x 1 + 0) = -x 1; omega) (h.2.1.2.2.2.1)
    have E0 : y_ev x (0, [(2, 1)]) = x 2 := (l_e1 _ _)
    have E1 : y_ev x (0, [(3, 1)]) = x 3 := (l_e1 _ _)
    have E2 : y_ev x (0, [(4, 1)]) = x 4 := (l_e1 _ _)
    have E3 : y_ev x (0, [(5, 1)]) = x 5 := (l_e1 _ _)
    have E4 : y_ev x (0, []) = 0 := (l_e0 _ _)
    have E5 : y_ev x (8, []) = 8 := (l_e0 _ _)
    have E6 : y_ev x (0, [(0, 1)]) = x 0 := (l_e1 _ _)
    have E7 : y_ev x (0, [(1, 1)]) = x 1 := (l_e1 _ _)
    have T0 : q_sto v 0 (y_ev x (0, [(2, 1)])) (y_ev x (0, [(3, 1)])) (y_ev x (0, [(4, 1)])) (y_ev x (0, [(5, 1)])) (y_ev x (0, [])) (y_ev x (0, [])) (y_ev x (0, [])) (y_ev x (0, [])) (y_ev x (0, [])) (y_ev x (0, [])) (y_ev x (0, [])) := h.2.2.2.1
    (try rw [E0] at T0); (try rw [E1] at T0); (try rw [E2] at T0); (try rw [E3] at T0); (try rw [E4] at T0)
    have T1 : q_qry v (y_ev x (8, [])) (y_ev x (0, [])) (y_ev x (0, [])) (y_ev x (0, [])) (y_ev x (0, [])) (y_ev x (0, [])) (y_ev x (0, [])) (y_ev x (0, [])) (y_ev x (0, [(0, 1)])) (y_ev x (0, [])) (y_ev x (0, [(1, 1)])) := h.2.2.2.2.1
    (try rw [E5] at T1); (try rw [E4] at T1); (try rw [E6] at T1); (try rw [E7] at T1)
    have K := k_canN0 (V := v) (h := x 0) (x := x 1) (H := x 2) (p := x 3) (y := x 4) (d := x 5) T0 T1 C0 C1 C2 C3
    refine l_outH rfl (And.intro h.1 ?_)
    have O0 : y_ev x (9, []) = 9 := l_e0 _ _
    have O1 : y_ev x (0, []) = 0 := l_e0 _ _
    have O2 : y_ev x (0, [(0, 1)]) = x 0 := l_e1 _ _
    have O3 : y_ev x (0, [(2, 1)]) = x 2 := l_e1 _ _
    show (True) ∧ (q_qry v (y_ev x (9, [])) (y_ev x (0, [])) (y_ev x (0, [])) (y_ev x (0, [])) (y_ev x (0, [])) (y_ev x (0, [])) (y_ev x (0, [])) (y_ev x (0, [])) (y_ev x (0, [(0, 1)])) (y_ev x (0, [(2, 1)])) (y_ev x (0, [])) ∧ True)
    (try rw [O0]); (try rw [O1]); (try rw [O2]); (try rw [O3])
    exact K
def lm_909 : zLem := (([((-2147483648), 2147483647), ((-2147483648), 2147483647), ((-2147483648), 2147483647), ((-2147483648), 2147483647), ((-2147483648), 2147483647), ((-2147483648), 2147483647)], [], [(0, [(0, 1)]), ((-1), [(0, (-1)), (2, 1)]), (6, [(2, (-1))]), (0, [(1, 1)])], [], [(0, 0, 0, [(0, 1)])], [], [(235, [(0, [(2, 1)]), (0, [(3, 1)]), (0, [(4, 1)]), (0, [(5, 1)]), (0, []), (0, []), (0, []), (0, []), (0, []), (0, []), (0, [])]), (238, [(6, []), (0, []), (0, []), (0, []), (0, []), (0, []), (0, []), (0, []), (0, [(0, 1)]), (0, []), (0, [(1, 1)])])]), [([((-2147483648), 2147483647), ((-2147483648), 2147483647), ((-2147483648), 2147483647), ((-2147483648), 2147483647), ((-2147483648), 2147483647), ((-2147483648), 2147483647)], [], [], [], [], [], [(260, [(9, []), (0, []), (0, []), (0, []), (0, []), (0, []), (0, []), (0, []), (0, [(0, 1)]), (0, [(2, 1)]), (0, [])])])])
theorem lk_909 : l_core lm_909 := by
  first
  | skip
    intro v x h
    have K := k_canN1 (V := v) (h := x 0) (i := x 1) (H := x 2) (p := x 3) (y := x 4) (d := x 5) (l_c5 (fun w0 w1 w2 w3 w4 : Int => q_sto v 0 w0 w1 w2 w3 w4 w4 w4 w4 w4 w4 w4) (l_e1 x 2) (l_e1 x 3) (l_e1 x 4) (l_e1 x 5) (l_e0 x (0)) (h.2.2.2.1)) (l_c4 (fun w0 w1 w2 w3 : Int => q_qry v w0 w1 w1 w1 w1 w1 w1 w1 w2 w1 w3) (l_e0 x (6)) (l_e0 x (0)) (l_e1 x 0) (l_e1 x 1) (h.2.2.2.2.1)) (l_cc (l_e1 x 0) (h.2.1.1)) (l_cc (l_q6 1 x 0 2) (h.2.1.2.1)) (l_cc (l_q1 6 x 2) (h.2.1.2.2.1)) (l_cc (l_e1 x 1) (h.2.1.2.2.2.1))
    refine l_outH rfl (And.intro h.1 ?_)
    exact l_o4 (fun w0 w1 w2 w3 : Int => (True) ∧ (q_qry v w0 w1 w1 w1 w1 w1 w1 w1 w2 w3 w1 ∧ True)) (l_e0 x (9)) (l_e0 x (0)) (l_e1 x 0) (l_e1 x 2) K
  | skip
    intro v x h
    have C0 : (0 : Int) ≤ x 0 := l_cc (a := y_ev x (0, [(0, 1)])) (l_e1 _ _) (h.2.1.1)
    have C1 : (0 : Int) ≤ x 2 - x 0 - 1 := l_cc (a := y_ev x ((-1), [(0, (-1)), (2, 1)])) (by show ((-1) : Int) + ((-1) * x 0 + ((1) * x 2 + 0)) = x 2 - x 0 - 1; omega) (h.2.1.2.1)
    have C2 : (0 : Int) ≤ 6 - x 2 := l_cc (a := y_ev x (6, [(2, (-1))])) (by show ((6) : Int) + ((-1) * x 2 + 0) = 6 - x 2; omega) (h.2.1.2.2.1)
    have C3 : (0 : Int) ≤ x 1 := l_cc (a := y_ev x (0, [(1, 1)])) (l_e1 _ _) (h.2.1.2.2.2.1)
    have E0 : y_ev x (0, [(2, 1)]) = x 2 := (l_e1 _ _)
    have E1 : y_ev x (0, [(3, 1)]) = x 3 := (l_e1 _ _)
    have E2 : y_ev x (0, [(4, 1)]) = x 4 := (l_e1 _ _)
    have E3 : y_ev x (0, [(5, 1)]) = x 5 := (l_e1 _ _)
    have E4 : y_ev x (0, []) = 0 := (l_e0 _ _)
    have E5 : y_ev x (6, []) = 6 := (l_e0 _ _)
    have E6 : y_ev x (0, [(0, 1)]) = x 0 := (l_e1 _ _)
    have E7 : y_ev x (0, [(1, 1)]) = x 1 := (l_e1 _ _)
    have T0 : q_sto v 0 (y_ev x (0, [(2, 1)])) (y_ev x (0, [(3, 1)])) (y_ev x (0, [(4, 1)])) (y_ev x (0, [(5, 1)])) (y_ev x (0, [])) (y_ev x (0, [])) (y_ev x (0, [])) (y_ev x (0, [])) (y_ev x (0, [])) (y_ev x (0, [])) (y_ev x (0, [])) := h.2.2.2.1
    (try rw [E0] at T0); (try rw [E1] at T0); (try rw [E2] at T0); (try rw [E3] at T0); (try rw [E4] at T0)
    have T1 : q_qry v (y_ev x (6, [])) (y_ev x (0, [])) (y_ev x (0, [])) (y_ev x (0, [])) (y_ev x (0, [])) (y_ev x (0, [])) (y_ev x (0, [])) (y_ev x (0, [])) (y_ev x (0, [(0, 1)])) (y_ev x (0, [])) (y_ev x (0, [(1, 1)])) := h.2.2.2.2.1
    (try rw [E5] at T1); (try rw [E4] at T1); (try rw [E6] at T1); (try rw [E7] at T1)
    have K := k_canN1 (V := v) (h := x 0) (i := x 1) (H := x 2) (p := x 3) (y := x 4) (d := x 5) T0 T1 C0 C1 C2 C3
    refine l_outH rfl (And.intro h.1 ?_)
    have O0 : y_ev x (9, []) = 9 := l_e0 _ _
    have O1 : y_ev x (0, []) = 0 := l_e0 _ _
    have O2 : y_ev x (0, [(0, 1)]) = x 0 := l_e1 _ _
    have O3 : y_ev x (0, [(2, 1)]) = x 2 := l_e1 _ _
    show (True) ∧ (q_qry v (y_ev x (9, [])) (y_ev x (0, [])) (y_ev x (0, [])) (y_ev x (0, [])) (y_ev x (0, [])) (y_ev x (0, [])) (y_ev x (0, [])) (y_ev x (0, [])) (y_ev x (0, [(0, 1)])) (y_ev x (0, [(2, 1)])) (y_ev x (0, [])) ∧ True)
    (try rw [O0]); (try rw [O1]); (try rw [O2]); (try rw [O3])
    exact K
def lm_910 : zLem := (([((-2147483648), 2147483647), ((-2147483648), 2147483647), ((-2147483648), 2147483647), ((-2147483648), 2147483647), ((-2147483648), 2147483647)], [], [((-1), [(0, (-1))])], [], [(0, 0, 0, [(0, 1)])], [], [(235, [(0, [(1, 1)]), (0, [(2, 1)]), (0, [(3, 1)]), (0, [(4, 1)]), (0, []), (0, []), (0, []), (0, []), (0, []), (0, []), (0, [])])]), [([((-2147483648), 2147483647), ((-2147483648), 2147483647), ((-2147483648), 2147483647), ((-2147483648), 2147483647), ((-2147483648), 2147483647)], [], [], [], [], [], [(260, [(9, []), (0, []), (0, []), (0, []), (0, []), (0, []), (0, []), (0, []), (0, [(0, 1)]), (0, [(1, 1)]), (0, [])])])])
theorem lk_910 : l_core lm_910 := by
  first
  | skip
    intro v x h
    have K := k_canN2 (V := v) (h := x 0) (H := x 1) (p := x 2) (y := x 3) (d := x 4) (l_c5 (fun w0 w1 w2 w3 w4 : Int => q_sto v 0 w0 w1 w2 w3 w4 w4 w4 w4 w4 w4 w4) (l_e1 x 1) (l_e1 x 2) (l_e1 x 3) (l_e1 x 4) (l_e0 x (0)) (h.2.2.2.1)) (l_cc (l_q11 1 x 0) (h.2.1.1))
    refine l_outH rfl (And.intro h.1 ?_)
    exact l_o4 (fun w0 w1 w2 w3 : Int => (True) ∧ (q_qry v w0 w1 w1 w1 w1 w1 w1 w1 w2 w3 w1 ∧ True)) (l_e0 x (9)) (l_e0 x (0)) (l_e1 x 0) (l_e1 x 1) K
  | skip
    intro v x h
    have C0 : (0 : Int) ≤ -x 0 - 1 := l_cc (a := y_ev x ((-1), [(0, (-1))])) (by show ((-1) : Int) + ((-1) * x 0 + 0) = -x 0 - 1; omega) (h.2.1.1)
    have E0 : y_ev x (0, [(1, 1)]) = x 1 := (l_e1 _ _)
    have E1 : y_ev x (0, [(2, 1)]) = x 2 := (l_e1 _ _)
    have E2 : y_ev x (0, [(3, 1)]) = x 3 := (l_e1 _ _)
    have E3 : y_ev x (0, [(4, 1)]) = x 4 := (l_e1 _ _)
    have E4 : y_ev x (0, []) = 0 := (l_e0 _ _)
    have T0 : q_sto v 0 (y_ev x (0, [(1, 1)])) (y_ev x (0, [(2, 1)])) (y_ev x (0, [(3, 1)])) (y_ev x (0, [(4, 1)])) (y_ev x (0, [])) (y_ev x (0, [])) (y_ev x (0, [])) (y_ev x (0, [])) (y_ev x (0, [])) (y_ev x (0, [])) (y_ev x (0, [])) := h.2.2.2.1
    (try rw [E0] at T0); (try rw [E1] at T0); (try rw [E2] at T0); (try rw [E3] at T0); (try rw [E4] at T0)
    have K := k_canN2 (V := v) (h := x 0) (H := x 1) (p := x 2) (y := x 3) (d := x 4) T0 C0
    refine l_outH rfl (And.intro h.1 ?_)
    have O0 : y_ev x (9, []) = 9 := l_e0 _ _
    have O1 : y_ev x (0, []) = 0 := l_e0 _ _
    have O2 : y_ev x (0, [(0, 1)]) = x 0 := l_e1 _ _
    have O3 : y_ev x (0, [(1, 1)]) = x 1 := l_e1 _ _
    show (True) ∧ (q_qry v (y_ev x (9, [])) (y_ev x (0, [])) (y_ev x (0, [])) (y_ev x (0, [])) (y_ev x (0, [])) (y_ev x (0, [])) (y_ev x (0, [])) (y_ev x (0, [])) (y_ev x (0, [(0, 1)])) (y_ev x (0, [(1, 1)])) (y_ev x (0, [])) ∧ True)
    (try rw [O0]); (try rw [O1]); (try rw [O2]); (try rw [O3])
    exact K
def lm_911 : zLem := (([((-2147483648), 2147483647), ((-2147483648), 2147483647), ((-2147483648), 2147483647), ((-2147483648), 2147483647), ((-2147483648), 2147483647)], [], [(0, [(0, 1), (1, (-1))])], [], [(0, 0, 0, [(0, 1)])], [], [(235, [(0, [(1, 1)]), (0, [(2, 1)]), (0, [(3, 1)]), (0, [(4, 1)]), (0, []), (0, []), (0, []), (0, []), (0, []), (0, []), (0, [])])]), [([((-2147483648), 2147483647), ((-2147483648), 2147483647), ((-2147483648), 2147483647), ((-2147483648), 2147483647), ((-2147483648), 2147483647)], [], [], [], [], [], [(260, [(9, []), (0, []), (0, []), (0, []), (0, []), (0, []), (0, []), (0, []), (0, [(0, 1)]), (0, [(1, 1)]), (0, [])])])])
theorem lk_911 : l_core lm_911 := by
  first
  | skip
    intro v x h
    have K := k_canN3 (V := v) (h := x 0) (H := x 1) (p := x 2) (y := x 3) (d := x 4) (l_c5 (fun w0 w1 w2 w3 w4 : Int => q_sto v 0 w0 w1 w2 w3 w4 w4 w4 w4 w4 w4 w4) (l_e1 x 1) (l_e1 x 2) (l_e1 x 3) (l_e1 x 4) (l_e0 x (0)) (h.2.2.2.1)) (l_cc (l_q5 x 0 1) (h.2.1.1))
    refine l_outH rfl (And.intro h.1 ?_)
    exact l_o4 (fun w0 w1 w2 w3 : Int => (True) ∧ (q_qry v w0 w1 w1 w1 w1 w1 w1 w1 w2 w3 w1 ∧ True)) (l_e0 x (9)) (l_e0 x (0)) (l_e1 x 0) (l_e1 x 1) K
  | skip
    intro v x h
    have C0 : (0 : Int) ≤ x 0 - x 1 := l_cc (a := y_ev x (0, [(0, 1), (1, (-1))])) (by show ((0) : Int) + ((1) * x 0 + ((-1) * x 1 + 0)) = x 0 - x 1; omega) (h.2.1.1)
    have E0 : y_ev x (0, [(1, 1)]) = x 1 := (l_e1 _ _)
    have E1 : y_ev x (0, [(2, 1)]) = x 2 := (l_e1 _ _)
    have E2 : y_ev x (0, [(3, 1)]) = x 3 := (l_e1 _ _)
    have E3 : y_ev x (0, [(4, 1)]) = x 4 := (l_e1 _ _)
    have E4 : y_ev x (0, []) = 0 := (l_e0 _ _)
    have T0 : q_sto v 0 (y_ev x (0, [(1, 1)])) (y_ev x (0, [(2, 1)])) (y_ev x (0, [(3, 1)])) (y_ev x (0, [(4, 1)])) (y_ev x (0, [])) (y_ev x (0, [])) (y_ev x (0, [])) (y_ev x (0, [])) (y_ev x (0, [])) (y_ev x (0, [])) (y_ev x (0, [])) := h.2.2.2.1
    (try rw [E0] at T0); (try rw [E1] at T0); (try rw [E2] at T0); (try rw [E3] at T0); (try rw [E4] at T0)
    have K := k_canN3 (V := v) (h := x 0) (H := x 1) (p := x 2) (y := x 3) (d := x 4) T0 C0
    refine l_outH rfl (And.intro h.1 ?_)
    have O0 : y_ev x (9, []) = 9 := l_e0 _ _
    have O1 : y_ev x (0, []) = 0 := l_e0 _ _
    have O2 : y_ev x (0, [(0, 1)]) = x 0 := l_e1 _ _
    have O3 : y_ev x (0, [(1, 1)]) = x 1 := l_e1 _ _
    show (True) ∧ (q_qry v (y_ev x (9, [])) (y_ev x (0, [])) (y_ev x (0, [])) (y_ev x (0, [])) (y_ev x (0, [])) (y_ev x (0, [])) (y_ev x (0, [])) (y_ev x (0, [])) (y_ev x (0, [(0, 1)])) (y_ev x (0, [(1, 1)])) (y_ev x (0, [])) ∧ True)
    (try rw [O0]); (try rw [O1]); (try rw [O2]); (try rw [O3])
    exact K
def lm_912 : zLem := (([((-2147483648), 2147483647), ((-2147483648), 2147483647), ((-2147483648), 2147483647), ((-2147483648), 2147483647), ((-2147483648), 2147483647)], [(6, false)], [((-1), [(1, 1)]), (1, [(1, (-1)), (4, 1)]), ((-1), [(1, 1), (4, (-1))]), (6, [(1, (-1))])], [], [], [(0, (false, 6, 0, []), 0, 0, 0, [(4, 1)])], [(235, [(0, [(0, 1)]), (0, [(1, 1)]), (0, [(2, 1)]), (0, [(3, 1)]), (0, []), (0, []), (0, []), (0, []), (0, []), (0, []), (0, [])])]), [([((-2147483648), 2147483647), ((-2147483648), 2147483647), ((-2147483648), 2147483647), ((-2147483648), 2147483647), ((-2147483648), 2147483647)], [(6, false)], [], [], [], [], [(235, [(0, [(0, 1)]), (0, [(4, 1)]), (0, [(2, 1)]), (0, [(3, 1)]), (0, []), (0, []), (0, []), (2, []), (0, [(4, 1)]), (0, []), (0, [])])])])
theorem lk_912 : l_core lm_912 := by
  first
  | skip
    intro v x h
    have K := k_uns (V := v) (H := x 0) (p := x 1) (y := x 2) (d := x 3) (z := x 4) (l_c5 (fun w0 w1 w2 w3 w4 : Int => q_sto v 0 w0 w1 w2 w3 w4 w4 w4 w4 w4 w4 w4) (l_e1 x 0) (l_e1 x 1) (l_e1 x 2) (l_e1 x 3) (l_e0 x (0)) (h.2.2.2.1)) (l_cc (l_q2 1 x 1) (h.2.1.1)) (l_cc (l_q14 1 x 1 4) (h.2.1.2.1)) (l_cc (l_q8 1 x 1 4) (h.2.1.2.2.1)) (l_cc (l_q1 6 x 1) (h.2.1.2.2.2.1))
    refine l_outH rfl (And.intro h.1 ?_)
    exact l_o6 (fun w0 w1 w2 w3 w4 w5 : Int => (True) ∧ (q_sto v 0 w0 w1 w2 w3 w4 w4 w4 w5 w1 w4 w4 ∧ True)) (l_e1 x 0) (l_e1 x 4) (l_e1 x 2) (l_e1 x 3) (l_e0 x (0)) (l_e0 x (2)) K
  | skip
    intro v x h
    have C0 : (0 : Int) ≤ x 1 - 1 := l_cc (a := y_ev x ((-1), [(1, 1)])) (by show ((-1) : Int) + ((1) * x 1 + 0) = x 1 - 1; omega) (h.2.1.1)
    have C1 : (0 : Int) ≤ x 4 - x 1 + 1 := l_cc (a := y_ev x (1, [(1, (-1)), (4, 1)])) (by show ((1) : Int) + ((-1) * x 1 + ((1) * x 4 + 0)) = x 4 - x 1 + 1; omega) (h.2.1.2.1)
    have C2 : (0 : Int) ≤ x 1 - x 4 - 1 := l_cc (a := y_ev x ((-1), [(1, 1), (4, (-1))])) (by show ((-1) : Int) + ((1) * x 1 + ((-1) * x 4 + 0)) = x 1 - x 4 - 1; omega) (h.2.1.2.2.1)
    have C3 : (0 : Int) ≤ 6 - x 1 := l_cc (a := y_ev x (6, [(1, (-1))])) (by show ((6) : Int) + ((-1) * x 1 + 0) = 6 - x 1; omega) (h.2.1.2.2.2.1)
    have E0 : y_ev x (0, [(0, 1)]) = x 0 := (l_e1 _ _)
    have E1 : y_ev x (0, [(1, 1)]) = x 1 := (l_e1 _ _)
    have E2 : y_ev x (0, [(2, 1)]) = x 2 := (l_e1 _ _)
    have E3 : y_ev x (0, [(3, 1)]) = x 3 := (l_e1 _ _)
    have E4 : y_ev x (0, []) = 0 := (l_e0 _ _)
    have T0 : q_sto v 0 (y_ev x (0, [(0, 1)])) (y_ev x (0, [(1, 1)])) (y_ev x (0, [(2, 1)])) (y_ev x (0, [(3, 1)])) (y_ev x (0, [])) (y_ev x (0, [])) (y_ev x (0, [])) (y_ev x (0, [])) (y_ev x (0, [])) (y_ev x (0, [])) (y_ev x (0, [])) := h.2.2.2.1
    (try rw [E0] at T0); (try rw [E1] at T0); (try rw [E2] at T0); (try rw [E3] at T0); (try rw [E4] at T0)
    have K := k_uns (V := v) (H := x 0) (p := x 1) (y := x 2) (d := x 3) (z := x 4) T0 C0 C1 C2 C3
    refine l_outH rfl (And.intro h.1 ?_)
    have O0 : y_ev x (0, [(0, 1)]) = x 0 := l_e1 _ _
    have O1 : y_ev x (0, [(4, 1)]) = x 4 := l_e1 _ _
    have O2 : y_ev x (0, [(2, 1)]) = x 2 := l_e1 _ _
    have O3 : y_ev x (0, [(3, 1)]) = x 3 := l_e1 _ _
    have O4 : y_ev x (0, []) = 0 := l_e0 _ _
    have O5 : y_ev x (2, []) = 2 := l_e0 _ _
    show (True) ∧ (q_sto v 0 (y_ev x (0, [(0, 1)])) (y_ev x (0, [(4, 1)])) (y_ev x (0, [(2, 1)])) (y_ev x (0, [(3, 1)])) (y_ev x (0, [])) (y_ev x (0, [])) (y_ev x (0, [])) (y_ev x (2, [])) (y_ev x (0, [(4, 1)])) (y_ev x (0, [])) (y_ev x (0, [])) ∧ True)
    (try rw [O0]); (try rw [O1]); (try rw [O2]); (try rw [O3]); (try rw [O4]); (try rw [O5])
    exact K
end
