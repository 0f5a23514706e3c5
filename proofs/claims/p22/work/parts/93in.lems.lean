noncomputable section
/-! ===== the lemmas as data, by program ===== -/
set_option maxRecDepth 100000
def lm_987 : zLem := (([((-2147483648), 2147483647), ((-2147483648), 2147483647), ((-2147483648), 2147483647)], [(78, false)], [(0, [(2, (-1))])], [], [(0, 0, 0, [(0, 1)])], [(0, (true, 0, 0, [(0, 1)]), 0, 0, 0, [(2, 1)])], [(260, [(9, []), (0, []), (0, []), (0, []), (0, []), (0, []), (0, []), (0, []), (0, [(0, 1)]), (0, [(1, 1)]), (1, [])]), (237, [(0, [(1, 1)]), (0, []), (0, []), (0, []), (0, []), (0, []), (0, []), (0, [])])]), [([((-2147483648), 2147483647), ((-2147483648), 2147483647), ((-2147483648), 2147483647)], [(78, false)], [((-1), [])], [], [], [], [])])
theorem lk_987 : l_core lm_987 := by
  first
  | skip
    intro v x h
    have G0 := h.2.2.1
    have K := k_mcx2 (V := v) (h := x 0) (H := x 1) (x := x 2) (l_c5 (fun w0 w1 w2 w3 w4 : Int => q_qry v w0 w1 w1 w1 w1 w1 w1 w1 w2 w3 w4) (l_e0 x (9)) (l_e0 x (0)) (l_e1 x 0) (l_e1 x 1) (l_e0 x (1)) (h.2.2.2.1)) (l_c2 (fun w0 w1 : Int => q_rwo v w0 w1 w1 w1 w1 w1 w1 w1) (l_e1 x 1) (l_e0 x (0)) (h.2.2.2.2.1)) (l_cc (l_q7 x 2) (h.2.1.1)) (l_ff (f := v 78) (L := j_len 78) (l_e1 x 0) (l_e1 x 2) (G0.1.1))
    refine l_outH rfl (And.intro h.1 ?_)
    exact l_o1 (fun w0 : Int => (0 ≤ w0 ∧ True) ∧ (True)) (l_e0 x (-1)) K
  | skip
    intro v x h
    have G0 := h.2.2.1
    have C0 : (0 : Int) ≤ -x 2 := l_cc (a := y_ev x (0, [(2, (-1))])) (by show ((0) : Int) + ((-1) * x 2 + 0) = -x 2; omega) (h.2.1.1)
    have F0 : (0 : Int) ≤ x 0 ∧ (x 0 : Int) < j_len 78 ∧ v 78 (x 0) = x 2 := l_ff (f := v 78) (L := j_len 78) (a := y_ev x (0, [(0, 1)])) (b := y_ev x (0, [(2, 1)])) (l_e1 _ _) (l_e1 _ _) (G0.1.1)
    have E0 : y_ev x (9, []) = 9 := (l_e0 _ _)
    have E1 : y_ev x (0, []) = 0 := (l_e0 _ _)
    have E2 : y_ev x (0, [(0, 1)]) = x 0 := (l_e1 _ _)
    have E3 : y_ev x (0, [(1, 1)]) = x 1 := (l_e1 _ _)
    have E4 : y_ev x (1, []) = 1 := (l_e0 _ _)
    have T0 : q_qry v (y_ev x (9, [])) (y_ev x (0, [])) (y_ev x (0, [])) (y_ev x (0, [])) (y_ev x (0, [])) (y_ev x (0, [])) (y_ev x (0, [])) (y_ev x (0, [])) (y_ev x (0, [(0, 1)])) (y_ev x (0, [(1, 1)])) (y_ev x (1, [])) := h.2.2.2.1
    (try rw [E0] at T0); (try rw [E1] at T0); (try rw [E2] at T0); (try rw [E3] at T0); (try rw [E4] at T0)
    have T1 : q_rwo v (y_ev x (0, [(1, 1)])) (y_ev x (0, [])) (y_ev x (0, [])) (y_ev x (0, [])) (y_ev x (0, [])) (y_ev x (0, [])) (y_ev x (0, [])) (y_ev x (0, [])) := h.2.2.2.2.1
    (try rw [E3] at T1); (try rw [E1] at T1)
    have K := k_mcx2 (V := v) (h := x 0) (H := x 1) (x := x 2) T0 T1 C0 F0
    refine l_outH rfl (And.intro h.1 ?_)
    have O0 : y_ev x ((-1), []) = (-1) := l_e0 _ _
    show (0 ≤ y_ev x ((-1), []) ∧ True) ∧ (True)
    (try rw [O0])
    exact K
def lm_988 : zLem := (([((-2147483648), 2147483647), ((-2147483648), 2147483647), ((-2147483648), 2147483647), ((-2147483648), 2147483647)], [(78, false)], [(0, [(0, 1)]), ((-1), [(0, (-1)), (1, 1)]), ((-1), [(2, 1)]), (0, [(3, (-1))])], [], [(0, 0, 0, [(0, 1)])], [(0, (true, 0, 0, [(0, 1)]), 0, 0, 0, [(2, 1)]), (0, (true, 0, 6, [(0, 1)]), 0, 0, 0, [(3, 1)])], [(260, [(9, []), (0, []), (0, []), (0, []), (0, []), (0, []), (0, []), (0, []), (0, [(0, 1)]), (0, [(1, 1)]), (0, [])]), (237, [(0, [(1, 1)]), (0, []), (0, []), (0, []), (0, []), (0, []), (0, []), (0, [])])]), [([((-2147483648), 2147483647), ((-2147483648), 2147483647), ((-2147483648), 2147483647), ((-2147483648), 2147483647)], [(78, false)], [((-1), [])], [], [], [], [])])
theorem lk_988 : l_core lm_988 := by
  first
  | skip
    intro v x h
    have G0 := h.2.2.1
    have G1 := G0.2
    have K := k_mcy (V := v) (h := x 0) (H := x 1) (x := x 2) (z := x 3) (l_c4 (fun w0 w1 w2 w3 : Int => q_qry v w0 w1 w1 w1 w1 w1 w1 w1 w2 w3 w1) (l_e0 x (9)) (l_e0 x (0)) (l_e1 x 0) (l_e1 x 1) (h.2.2.2.1)) (l_c2 (fun w0 w1 : Int => q_rwo v w0 w1 w1 w1 w1 w1 w1 w1) (l_e1 x 1) (l_e0 x (0)) (h.2.2.2.2.1)) (l_cc (l_e1 x 0) (h.2.1.1)) (l_cc (l_q6 1 x 0 1) (h.2.1.2.1)) (l_cc (l_q2 1 x 2) (h.2.1.2.2.1)) (l_cc (l_q7 x 3) (h.2.1.2.2.2.1)) (l_ff (f := v 78) (L := j_len 78) (l_e1 x 0) (l_e1 x 2) (G0.1.1)) (l_ff (f := v 78) (L := j_len 78) (l_q3 6 x 0) (l_e1 x 3) (G1.1.1))
    refine l_outH rfl (And.intro h.1 ?_)
    exact l_o1 (fun w0 : Int => (0 ≤ w0 ∧ True) ∧ (True)) (l_e0 x (-1)) K
  | skip
    intro v x h
    have G0 := h.2.2.1
    have G1 := G0.2
    have C0 : (0 : Int) ≤ x 0 := l_cc (a := y_ev x (0, [(0, 1)])) (l_e1 _ _) (h.2.1.1)
    have C1 : (0 : Int) ≤ x 1 - x 0 - 1 := l_cc (a := y_ev x ((-1), [(0, (-1)), (1, 1)])) (by show ((-1) : Int) + ((-1) * x 0 + ((1) * x 1 + 0)) = x 1 - x 0 - 1; omega) (h.2.1.2.1)
    have C2 : (0 : Int) ≤ x 2 - 1 := l_cc (a := y_ev x ((-1), [(2, 1)])) (by show ((-1) : Int) + ((1) * x 2 + 0) = x 2 - 1; omega) (h.2.1.2.2.1)
    have C3 : (0 : Int) ≤ -x 3 := l_cc (a := y_ev x (0, [(3, (-1))])) (by show ((0) : Int) + ((-1) * x 3 + 0) = -x 3; omega) (h.2.1.2.2.2.1)
    have F0 : (0 : Int) ≤ x 0 ∧ (x 0 : Int) < j_len 78 ∧ v 78 (x 0) = x 2 := l_ff (f := v 78) (L := j_len 78) (a := y_ev x (0, [(0, 1)])) (b := y_ev x (0, [(2, 1)])) (l_e1 _ _) (l_e1 _ _) (G0.1.1)
    have F1 : (0 : Int) ≤ x 0 + 6 ∧ (x 0 + 6 : Int) < j_len 78 ∧ v 78 (x 0 + 6) = x 3 := l_ff (f := v 78) (L := j_len 78) (a := y_ev x (6, [(0, 1)])) (b := y_ev x (0, [(3, 1)])) (by show ((6) : Int) + ((1) * x 0 + 0) = x 0 + 6; omega) (l_e1 _ _) (G1.1.1)
    have E0 : y_ev x (9, []) = 9 := (l_e0 _ _)
    have E1 : y_ev x (0, []) = 0 := (l_e0 _ _)
    have E2 : y_ev x (0, [(0, 1)]) = x 0 := (l_e1 _ _)
    have E3 : y_ev x (0, [(1, 1)]) = x 1 := (l_e1 _ _)
    have T0 : q_qry v (y_ev x (9, [])) (y_ev x (0, [])) (y_ev x (0, [])) (y_ev x (0, [])) (y_ev x (0, [])) (y_ev x (0, [])) (y_ev x (0, [])) (y_ev x (0, [])) (y_ev x (0, [(0, 1)])) (y_ev x (0, [(1, 1)])) (y_ev x (0, [])) := h.2.2.2.1
    (try rw [E0] at T0); (try rw [E1] at T0); (try rw [E2] at T0); (try rw [E3] at T0)
    have T1 : q_rwo v (y_ev x (0, [(1, 1)])) (y_ev x (0, [])) (y_ev x (0, [])) (y_ev x (0, [])) (y_ev x (0, [])) (y_ev x (0, [])) (y_ev x (0, [])) (y_ev x (0, [])) := h.2.2.2.2.1
    (try rw [E3] at T1); (try rw [E1] at T1)
    have K := k_mcy (V := v) (h := x 0) (H := x 1) (x := x 2) (z := x 3) T0 T1 C0 C1 C2 C3 F0 F1
    refine l_outH rfl (And.intro h.1 ?_)
    have O0 : y_ev x ((-1), []) = (-1) := l_e0 _ _
    show (0 ≤ y_ev x ((-1), []) ∧ True) ∧ (True)
    (try rw [O0])
    exact K
def lm_989 : zLem := (([((-2147483648), 2147483647), ((-2147483648), 2147483647), ((-2147483648), 2147483647)], [(78, false)], [(0, [(0, 1)]), (5, [(0, (-1))])], [], [(0, 0, 0, [(0, 1)])], [(0, (true, 0, 24, []), 0, 0, 0, [(2, 1)])], [(237, [(0, [(1, 1)]), (0, []), (0, []), (0, []), (0, []), (0, []), (0, []), (0, [])])]), [([((-2147483648), 2147483647), ((-2147483648), 2147483647), ((-2147483648), 2147483647)], [(78, false)], [], [], [], [], [(263, [(0, [(1, 1)]), (0, [(0, 1)]), (6, [(0, 1)]), (12, [(0, 1)]), (18, [(0, 1)]), (24, []), (25, [(2, 1)])])])])
theorem lk_989 : l_core lm_989 := by
  first
  | skip
    intro v x h
    have G0 := h.2.2.1
    have K := k_rnx (V := v) (h := x 0) (H := x 1) (p := x 2) (l_c2 (fun w0 w1 : Int => q_rwo v w0 w1 w1 w1 w1 w1 w1 w1) (l_e1 x 1) (l_e0 x (0)) (h.2.2.2.1)) (l_cc (l_e1 x 0) (h.2.1.1)) (l_cc (l_q1 5 x 0) (h.2.1.2.1)) (l_ff (f := v 78) (L := j_len 78) (l_e0 x (24)) (l_e1 x 2) (G0.1.1))
    refine l_outH rfl (And.intro h.1 ?_)
    exact l_o7 (fun w0 w1 w2 w3 w4 w5 w6 : Int => (True) ∧ (q_rnx v w0 w1 w2 w3 w4 w5 w6 ∧ True)) (l_e1 x 1) (l_e1 x 0) (l_q3 6 x 0) (l_q3 12 x 0) (l_q3 18 x 0) (l_e0 x (24)) (l_q3 25 x 2) K
  | skip
    intro v x h
    have G0 := h.2.2.1
    have C0 : (0 : Int) ≤ x 0 := l_cc (a := y_ev x (0, [(0, 1)])) (l_e1 _ _) (h.2.1.1)
    have C1 : (0 : Int) ≤ 5 - x 0 := l_cc (a := y_ev x (5, [(0, (-1))])) (by show ((5) : Int) + ((-1) * x 0 + 0) = 5 - x 0; omega) (h.2.1.2.1)
    have F0 : (0 : Int) ≤ 24 ∧ (24 : Int) < j_len 78 ∧ v 78 (24) = x 2 := l_ff (f := v 78) (L := j_len 78) (a := y_ev x (24, [])) (b := y_ev x (0, [(2, 1)])) (l_e0 _ _) (l_e1 _ _) (G0.1.1)
    have E0 : y_ev x (0, [(1, 1)]) = x 1 := (l_e1 _ _)
    have E1 : y_ev x (0, []) = 0 := (l_e0 _ _)
    have T0 : q_rwo v (y_ev x (0, [(1, 1)])) (y_ev x (0, [])) (y_ev x (0, [])) (y_ev x (0, [])) (y_ev x (0, [])) (y_ev x (0, [])) (y_ev x (0, [])) (y_ev x (0, [])) := h.2.2.2.1
    (try rw [E0] at T0); (try rw [E1] at T0)
    have K := k_rnx (V := v) (h := x 0) (H := x 1) (p := x 2) T0 C0 C1 F0
    refine l_outH rfl (And.intro h.1 ?_)
    have O0 : y_ev x (0, [(1, 1)]) = x 1 := l_e1 _ _
    have O1 : y_ev x (0, [(0, 1)]) = x 0 := l_e1 _ _
    have O2 : y_ev x (6, [(0, 1)]) = x 0 + 6 := by show ((6) : Int) + ((1) * x 0 + 0) = _; omega
    have O3 : y_ev x (12, [(0, 1)]) = x 0 + 12 := by show ((12) : Int) + ((1) * x 0 + 0) = _; omega
    have O4 : y_ev x (18, [(0, 1)]) = x 0 + 18 := by show ((18) : Int) + ((1) * x 0 + 0) = _; omega
    have O5 : y_ev x (24, []) = 24 := l_e0 _ _
    have O6 : y_ev x (25, [(2, 1)]) = x 2 + 25 := by show ((25) : Int) + ((1) * x 2 + 0) = _; omega
    show (True) ∧ (q_rnx v (y_ev x (0, [(1, 1)])) (y_ev x (0, [(0, 1)])) (y_ev x (6, [(0, 1)])) (y_ev x (12, [(0, 1)])) (y_ev x (18, [(0, 1)])) (y_ev x (24, [])) (y_ev x (25, [(2, 1)])) ∧ True)
    (try rw [O0]); (try rw [O1]); (try rw [O2]); (try rw [O3]); (try rw [O4]); (try rw [O5]); (try rw [O6])
    exact K
def lm_990 : zLem := (([((-2147483648), 2147483647), ((-2147483648), 2147483647), ((-2147483648), 2147483647)], [(78, false)], [(0, [(0, 1)]), (32, [(0, (-1))])], [], [(0, 0, 0, [(0, 1)])], [(0, (true, 0, 0, [(0, 1)]), 0, 0, 0, [(1, 1)])], [(237, [(0, [(2, 1)]), (0, []), (0, []), (0, []), (0, []), (0, []), (0, []), (0, [])])]), [([((-2147483648), 2147483647), ((-2147483648), 2147483647), ((-2147483648), 2147483647)], [(78, false)], [], [], [], [], [(238, [(8, []), (0, []), (0, []), (0, []), (0, []), (0, []), (0, []), (0, []), (0, [(0, 1)]), (0, []), (0, [(1, 1)])])])])
theorem lk_990 : l_core lm_990 := by
  first
  | skip
    intro v x h
    have G0 := h.2.2.1
    have K := k_rcelz (V := v) (h := x 0) (u := x 1) (H := x 2) (l_c2 (fun w0 w1 : Int => q_rwo v w0 w1 w1 w1 w1 w1 w1 w1) (l_e1 x 2) (l_e0 x (0)) (h.2.2.2.1)) (l_cc (l_e1 x 0) (h.2.1.1)) (l_cc (l_q1 32 x 0) (h.2.1.2.1)) (l_ff (f := v 78) (L := j_len 78) (l_e1 x 0) (l_e1 x 1) (G0.1.1))
    refine l_outH rfl (And.intro h.1 ?_)
    exact l_o4 (fun w0 w1 w2 w3 : Int => (True) ∧ (q_qry v w0 w1 w1 w1 w1 w1 w1 w1 w2 w1 w3 ∧ True)) (l_e0 x (8)) (l_e0 x (0)) (l_e1 x 0) (l_e1 x 1) K
  | skip
    intro v x h
    have G0 := h.2.2.1
    have C0 : (0 : Int) ≤ x 0 := l_cc (a := y_ev x (0, [(0, 1)])) (l_e1 _ _) (h.2.1.1)
    have C1 : (0 : Int) ≤ 32 - x 0 := l_cc (a := y_ev x (32, [(0, (-1))])) (by show ((32) : Int) + ((-1) * x 0 + 0) = 32 - x 0; omega) (h.2.1.2.1)
    have F0 : (0 : Int) ≤ x 0 ∧ (x 0 : Int) < j_len 78 ∧ v 78 (x 0) = x 1 := l_ff (f := v 78) (L := j_len 78) (a := y_ev x (0, [(0, 1)])) (b := y_ev x (0, [(1, 1)])) (l_e1 _ _) (l_e1 _ _) (G0.1.1)
    have E0 : y_ev x (0, [(2, 1)]) = x 2 := (l_e1 _ _)
    have E1 : y_ev x (0, []) = 0 := (l_e0 _ _)
    have T0 : q_rwo v (y_ev x (0, [(2, 1)])) (y_ev x (0, [])) (y_ev x (0, [])) (y_ev x (0, [])) (y_ev x (0, [])) (y_ev x (0, [])) (y_ev x (0, [])) (y_ev x (0, [])) := h.2.2.2.1
    (try rw [E0] at T0); (try rw [E1] at T0)
    have K := k_rcelz (V := v) (h := x 0) (u := x 1) (H := x 2) T0 C0 C1 F0
    refine l_outH rfl (And.intro h.1 ?_)
    have O0 : y_ev x (8, []) = 8 := l_e0 _ _
    have O1 : y_ev x (0, []) = 0 := l_e0 _ _
    have O2 : y_ev x (0, [(0, 1)]) = x 0 := l_e1 _ _
    have O3 : y_ev x (0, [(1, 1)]) = x 1 := l_e1 _ _
    show (True) ∧ (q_qry v (y_ev x (8, [])) (y_ev x (0, [])) (y_ev x (0, [])) (y_ev x (0, [])) (y_ev x (0, [])) (y_ev x (0, [])) (y_ev x (0, [])) (y_ev x (0, [])) (y_ev x (0, [(0, 1)])) (y_ev x (0, [])) (y_ev x (0, [(1, 1)])) ∧ True)
    (try rw [O0]); (try rw [O1]); (try rw [O2]); (try rw [O3])
    exact K
def lm_991 : zLem := (([((-2147483648), 2147483647), ((-2147483648), 2147483647), ((-2147483648), 2147483647)], [(78, false)], [(0, [(0, 1)]), (5, [(0, (-1))])], [], [(0, 0, 0, [(0, 1)])], [(0, (true, 0, 6, [(0, 1)]), 0, 0, 0, [(1, 1)])], [(237, [(0, [(2, 1)]), (0, []), (0, []), (0, []), (0, []), (0, []), (0, []), (0, [])])]), [([((-2147483648), 2147483647), ((-2147483648), 2147483647), ((-2147483648), 2147483647)], [(78, false)], [], [], [], [], [(238, [(8, []), (0, []), (0, []), (0, []), (0, []), (0, []), (0, []), (0, []), (6, [(0, 1)]), (0, []), (0, [(1, 1)])])])])
theorem lk_991 : l_core lm_991 := by
  first
  | skip
    intro v x h
    have G0 := h.2.2.1
    have K := k_rcelz6 (V := v) (h := x 0) (u := x 1) (H := x 2) (l_c2 (fun w0 w1 : Int => q_rwo v w0 w1 w1 w1 w1 w1 w1 w1) (l_e1 x 2) (l_e0 x (0)) (h.2.2.2.1)) (l_cc (l_e1 x 0) (h.2.1.1)) (l_cc (l_q1 5 x 0) (h.2.1.2.1)) (l_ff (f := v 78) (L := j_len 78) (l_q3 6 x 0) (l_e1 x 1) (G0.1.1))
    refine l_outH rfl (And.intro h.1 ?_)
    exact l_o4 (fun w0 w1 w2 w3 : Int => (True) ∧ (q_qry v w0 w1 w1 w1 w1 w1 w1 w1 w2 w1 w3 ∧ True)) (l_e0 x (8)) (l_e0 x (0)) (l_q3 6 x 0) (l_e1 x 1) K
  | skip
    intro v x h
    have G0 := h.2.2.1
    have C0 : (0 : Int) ≤ x 0 := l_cc (a := y_ev x (0, [(0, 1)])) (l_e1 _ _) (h.2.1.1)
    have C1 : (0 : Int) ≤ 5 - x 0 := l_cc (a := y_ev x (5, [(0, (-1))])) (by show ((5) : Int) + ((-1) * x 0 + 0) = 5 - x 0; omega) (h.2.1.2.1)
    have F0 : (0 : Int) ≤ x 0 + 6 ∧ (x 0 + 6 : Int) < j_len 78 ∧ v 78 (x 0 + 6) = x 1 := l_ff (f := v 78) (L := j_len 78) (a := y_ev x (6, [(0, 1)])) (b := y_ev x (0, [(1, 1)])) (by show ((6) : Int) + ((1) * x 0 + 0) = x 0 + 6; omega) (l_e1 _ _) (G0.1.1)
    have E0 : y_ev x (0, [(2, 1)]) = x 2 := (l_e1 _ _)
    have E1 : y_ev x (0, []) = 0 := (l_e0 _ _)
    have T0 : q_rwo v (y_ev x (0, [(2, 1)])) (y_ev x (0, [])) (y_ev x (0, [])) (y_ev x (0, [])) (y_ev x (0, [])) (y_ev x (0, [])) (y_ev x (0, [])) (y_ev x (0, [])) := h.2.2.2.1
    (try rw [E0] at T0); (try rw [E1] at T0)
    have K := k_rcelz6 (V := v) (h := x 0) (u := x 1) (H := x 2) T0 C0 C1 F0
    refine l_outH rfl (And.intro h.1 ?_)
    have O0 : y_ev x (8, []) = 8 := l_e0 _ _
    have O1 : y_ev x (0, []) = 0 := l_e0 _ _
    have O2 : y_ev x (6, [(0, 1)]) = x 0 + 6 := by show ((6) : Int) + ((1) * x 0 + 0) = _; omega
    have O3 : y_ev x (0, [(1, 1)]) = x 1 := l_e1 _ _
    show (True) ∧ (q_qry v (y_ev x (8, [])) (y_ev x (0, [])) (y_ev x (0, [])) (y_ev x (0, [])) (y_ev x (0, [])) (y_ev x (0, [])) (y_ev x (0, [])) (y_ev x (0, [])) (y_ev x (6, [(0, 1)])) (y_ev x (0, [])) (y_ev x (0, [(1, 1)])) ∧ True)
    (try rw [O0]); (try rw [O1]); (try rw [O2]); (try rw [O3])
    exact K
def lm_992 : zLem := (([((-2147483648), 2147483647), ((-2147483648), 2147483647), ((-2147483648), 2147483647)], [(78, false)], [(0, [(0, 1)]), (5, [(0, (-1))])], [], [(0, 0, 0, [(0, 1)])], [(0, (true, 0, 18, [(0, 1)]), 0, 0, 0, [(1, 1)])], [(237, [(0, [(2, 1)]), (0, []), (0, []), (0, []), (0, []), (0, []), (0, []), (0, [])])]), [([((-2147483648), 2147483647), ((-2147483648), 2147483647), ((-2147483648), 2147483647)], [(78, false)], [], [], [], [], [(238, [(8, []), (0, []), (0, []), (0, []), (0, []), (0, []), (0, []), (0, []), (18, [(0, 1)]), (0, []), (0, [(1, 1)])])])])
theorem lk_992 : l_core lm_992 := by
  first
  | skip
    intro v x h
    have G0 := h.2.2.1
    have K := k_rcelz18 (V := v) (h := x 0) (u := x 1) (H := x 2) (l_c2 (fun w0 w1 : Int => q_rwo v w0 w1 w1 w1 w1 w1 w1 w1) (l_e1 x 2) (l_e0 x (0)) (h.2.2.2.1)) (l_cc (l_e1 x 0) (h.2.1.1)) (l_cc (l_q1 5 x 0) (h.2.1.2.1)) (l_ff (f := v 78) (L := j_len 78) (l_q3 18 x 0) (l_e1 x 1) (G0.1.1))
    refine l_outH rfl (And.intro h.1 ?_)
    exact l_o4 (fun w0 w1 w2 w3 : Int => (True) ∧ (q_qry v w0 w1 w1 w1 w1 w1 w1 w1 w2 w1 w3 ∧ True)) (l_e0 x (8)) (l_e0 x (0)) (l_q3 18 x 0) (l_e1 x 1) K
  | skip
    intro v x h
    have G0 := h.2.2.1
    have C0 : (0 : Int) ≤ x 0 := l_cc (a := y_ev x (0, [(0, 1)])) (l_e1 _ _) (h.2.1.1)
    have C1 : (0 : Int) ≤ 5 - x 0 := l_cc (a := y_ev x (5, [(0, (-1))])) (by show ((5) : Int) + ((-1) * x 0 + 0) = 5 - x 0; omega) (h.2.1.2.1)
    have F0 : (0 : Int) ≤ x 0 + 18 ∧ (x 0 + 18 : Int) < j_len 78 ∧ v 78 (x 0 + 18) = x 1 := l_ff (f := v 78) (L := j_len 78) (a := y_ev x (18, [(0, 1)])) (b := y_ev x (0, [(1, 1)])) (by show ((18) : Int) + ((1) * x 0 + 0) = x 0 + 18; omega) (l_e1 _ _) (G0.1.1)
    have E0 : y_ev x (0, [(2, 1)]) = x 2 := (l_e1 _ _)
    have E1 : y_ev x (0, []) = 0 := (l_e0 _ _)
    have T0 : q_rwo v (y_ev x (0, [(2, 1)])) (y_ev x (0, [])) (y_ev x (0, [])) (y_ev x (0, [])) (y_ev x (0, [])) (y_ev x (0, [])) (y_ev x (0, [])) (y_ev x (0, [])) := h.2.2.2.1
    (try rw [E0] at T0); (try rw [E1] at T0)
    have K := k_rcelz18 (V := v) (h := x 0) (u := x 1) (H := x 2) T0 C0 C1 F0
    refine l_outH rfl (And.intro h.1 ?_)
    have O0 : y_ev x (8, []) = 8 := l_e0 _ _
    have O1 : y_ev x (0, []) = 0 := l_e0 _ _
    have O2 : y_ev x (18, [(0, 1)]) = x 0 + 18 := by show ((18) : Int) + ((1) * x 0 + 0) = _; omega
    have O3 : y_ev x (0, [(1, 1)]) = x 1 := l_e1 _ _
    show (True) ∧ (q_qry v (y_ev x (8, [])) (y_ev x (0, [])) (y_ev x (0, [])) (y_ev x (0, [])) (y_ev x (0, [])) (y_ev x (0, [])) (y_ev x (0, [])) (y_ev x (0, [])) (y_ev x (18, [(0, 1)])) (y_ev x (0, [])) (y_ev x (0, [(1, 1)])) ∧ True)
    (try rw [O0]); (try rw [O1]); (try rw [O2]); (try rw [O3])
    exact K
def lm_993 : zLem := (([((-2147483648), 2147483647), ((-2147483648), 2147483647)], [(78, false)], [], [], [], [(0, (true, 0, 24, []), 0, 0, 0, [(0, 1)])], [(237, [(0, [(1, 1)]), (0, []), (0, []), (0, []), (0, []), (0, []), (0, []), (0, [])])]), [([((-2147483648), 2147483647), ((-2147483648), 2147483647)], [(78, false)], [], [], [], [], [(238, [(8, []), (0, []), (0, []), (0, []), (0, []), (0, []), (0, []), (0, []), (24, []), (0, []), (0, [(0, 1)])])])])
theorem lk_993 : l_core lm_993 := by
  first
  | skip
    intro v x h
    have G0 := h.2.2.1
    have K := k_rcelz_24 (V := v) (u := x 0) (H := x 1) (l_c2 (fun w0 w1 : Int => q_rwo v w0 w1 w1 w1 w1 w1 w1 w1) (l_e1 x 1) (l_e0 x (0)) (h.2.2.2.1)) (l_ff (f := v 78) (L := j_len 78) (l_e0 x (24)) (l_e1 x 0) (G0.1.1))
    refine l_outH rfl (And.intro h.1 ?_)
    exact l_o4 (fun w0 w1 w2 w3 : Int => (True) ∧ (q_qry v w0 w1 w1 w1 w1 w1 w1 w1 w2 w1 w3 ∧ True)) (l_e0 x (8)) (l_e0 x (0)) (l_e0 x (24)) (l_e1 x 0) K
  | skip
    intro v x h
    have G0 := h.2.2.1
    have F0 : (0 : Int) ≤ 24 ∧ (24 : Int) < j_len 78 ∧ v 78 (24) = x 0 := l_ff (f := v 78) (L := j_len 78) (a := y_ev x (24, [])) (b := y_ev x (0, [(0, 1)])) (l_e0 _ _) (l_e1 _ _) (G0.1.1)
    have E0 : y_ev x (0, [(1, 1)]) = x 1 := (l_e1 _ _)
    have E1 : y_ev x (0, []) = 0 := (l_e0 _ _)
    have T0 : q_rwo v (y_ev x (0, [(1, 1)])) (y_ev x (0, [])) (y_ev x (0, [])) (y_ev x (0, [])) (y_ev x (0, [])) (y_ev x (0, [])) (y_ev x (0, [])) (y_ev x (0, [])) := h.2.2.2.1
    (try rw [E0] at T0); (try rw [E1] at T0)
    have K := k_rcelz_24 (V := v) (u := x 0) (H := x 1) T0 F0
    refine l_outH rfl (And.intro h.1 ?_)
    have O0 : y_ev x (8, []) = 8 := l_e0 _ _
    have O1 : y_ev x (0, []) = 0 := l_e0 _ _
    have O2 : y_ev x (24, []) = 24 := l_e0 _ _
    have O3 : y_ev x (0, [(0, 1)]) = x 0 := l_e1 _ _
    show (True) ∧ (q_qry v (y_ev x (8, [])) (y_ev x (0, [])) (y_ev x (0, [])) (y_ev x (0, [])) (y_ev x (0, [])) (y_ev x (0, [])) (y_ev x (0, [])) (y_ev x (0, [])) (y_ev x (24, [])) (y_ev x (0, [])) (y_ev x (0, [(0, 1)])) ∧ True)
    (try rw [O0]); (try rw [O1]); (try rw [O2]); (try rw [O3])
    exact K
def lm_994 : zLem := (([((-2147483648), 2147483647), ((-2147483648), 2147483647)], [(78, false)], [], [], [], [(0, (true, 0, 32, []), 0, 0, 0, [(0, 1)])], [(237, [(0, [(1, 1)]), (0, []), (0, []), (0, []), (0, []), (0, []), (0, []), (0, [])])]), [([((-2147483648), 2147483647), ((-2147483648), 2147483647)], [(78, false)], [], [], [], [], [(238, [(8, []), (0, []), (0, []), (0, []), (0, []), (0, []), (0, []), (0, []), (32, []), (0, []), (0, [(0, 1)])])])])
theorem lk_994 : l_core lm_994 := by
  first
  | skip
    intro v x h
    have G0 := h.2.2.1
    have K := k_rcelz_32 (V := v) (u := x 0) (H := x 1) (l_c2 (fun w0 w1 : Int => q_rwo v w0 w1 w1 w1 w1 w1 w1 w1) (l_e1 x 1) (l_e0 x (0)) (h.2.2.2.1)) (l_ff (f := v 78) (L := j_len 78) (l_e0 x (32)) (l_e1 x 0) (G0.1.1))
    refine l_outH rfl (And.intro h.1 ?_)
    exact l_o4 (fun w0 w1 w2 w3 : Int => (True) ∧ (q_qry v w0 w1 w1 w1 w1 w1 w1 w1 w2 w1 w3 ∧ True)) (l_e0 x (8)) (l_e0 x (0)) (l_e0 x (32)) (l_e1 x 0) K
  | skip
    intro v x h
    have G0 := h.2.2.1
    have F0 : (0 : Int) ≤ 32 ∧ (32 : Int) < j_len 78 ∧ v 78 (32) = x 0 := l_ff (f := v 78) (L := j_len 78) (a := y_ev x (32, [])) (b := y_ev x (0, [(0, 1)])) (l_e0 _ _) (l_e1 _ _) (G0.1.1)
    have E0 : y_ev x (0, [(1, 1)]) = x 1 := (l_e1 _ _)
    have E1 : y_ev x (0, []) = 0 := (l_e0 _ _)
    have T0 : q_rwo v (y_ev x (0, [(1, 1)])) (y_ev x (0, [])) (y_ev x (0, [])) (y_ev x (0, [])) (y_ev x (0, [])) (y_ev x (0, [])) (y_ev x (0, [])) (y_ev x (0, [])) := h.2.2.2.1
    (try rw [E0] at T0); (try rw [E1] at T0)
    have K := k_rcelz_32 (V := v) (u := x 0) (H := x 1) T0 F0
    refine l_outH rfl (And.intro h.1 ?_)
    have O0 : y_ev x (8, []) = 8 := l_e0 _ _
    have O1 : y_ev x (0, []) = 0 := l_e0 _ _
    have O2 : y_ev x (32, []) = 32 := l_e0 _ _
    have O3 : y_ev x (0, [(0, 1)]) = x 0 := l_e1 _ _
    show (True) ∧ (q_qry v (y_ev x (8, [])) (y_ev x (0, [])) (y_ev x (0, [])) (y_ev x (0, [])) (y_ev x (0, [])) (y_ev x (0, [])) (y_ev x (0, [])) (y_ev x (0, [])) (y_ev x (32, [])) (y_ev x (0, [])) (y_ev x (0, [(0, 1)])) ∧ True)
    (try rw [O0]); (try rw [O1]); (try rw [O2]); (try rw [O3])
    exact K
def lm_995pg_0 (t : List zTg) : List zTg := (238, [(8, []), (0, []), (0, []), (0, []), (0, []), (0, []), (0, []), (0, []), (24, []), (0, []), (0, [(2, 1)])]) :: (263, [(0, [(1, 1)]), (0, [(0, 1)]), (6, [(0, 1)]), (12, [(0, 1)]), (18, [(0, 1)]), (24, []), (25, [(2, 1)])]) :: (238, [(8, []), (0, []), (0, []), (0, []), (0, []), (0, []), (0, []), (0, []), (0, [(0, 1)]), (0, []), (0, [(3, 1)])]) :: (238, [(8, []), (0, []), (0, []), (0, []), (0, []), (0, []), (0, []), (0, []), (18, [(0, 1)]), (0, []), (0, [(5, 1)])]) :: (262, [(0, [(0, 1)]), (0, [(4, 1)])]) :: (110, [(0, [(5, 1)]), (1, []), (0, [(6, 1)])]) :: (260, [(9, []), (0, []), (0, []), (0, []), (0, []), (0, []), (0, []), (0, []), (0, [(0, 1)]), (0, [(1, 1)]), (1, [])]) :: t
def lm_995p : zS := ([((-2147483648), 2147483647), ((-2147483648), 2147483647), ((-2147483648), 2147483647), ((-2147483648), 2147483647), ((-2147483648), 2147483647), ((-2147483648), 2147483647), ((-2147483648), 2147483647)], [(78, false)], [(0, [(2, 1)]), (5, [(2, (-1))])], [], [(0, 0, 0, [(0, 1)])], [(0, (true, 0, 0, [(0, 1)]), 0, 0, 0, []), (0, (true, 0, 6, [(0, 1)]), 0, 0, 0, [(3, 1)]), (0, (true, 0, 12, [(0, 1)]), 0, 0, 0, [(4, 1)]), (0, (true, 0, 18, [(0, 1)]), 0, 0, 0, [(6, 1)]), (0, (true, 0, 24, []), 0, 0, 1, [(2, 1)]), (0, (true, 0, 25, [(2, 1)]), 0, 0, 0, [(0, 1)])], (lm_995pg_0 []))
def lm_995 : zLem := (lm_995p, [([((-2147483648), 2147483647), ((-2147483648), 2147483647), ((-2147483648), 2147483647), ((-2147483648), 2147483647), ((-2147483648), 2147483647), ((-2147483648), 2147483647), ((-2147483648), 2147483647)], [(78, false)], [], [], [], [], [(237, [(0, [(1, 1)]), (0, []), (0, []), (0, []), (1, []), (0, [(0, 1)]), (0, []), (0, [])])])])
theorem lk_995 : l_core lm_995 := by
  first
  | skip
    intro v x h
    have G0 := h.2.2.1
    have G1 := G0.2
    have G2 := G1.2
    have G3 := G2.2
    have G4 := G3.2
    have G5 := G4.2
    have K := k_mspl (V := v) (h := x 0) (H := x 1) (p := x 2) (x := x 3) (z := x 4) (g := x 5) (g2 := x 6) (l_c4 (fun w0 w1 w2 w3 : Int => q_qry v w0 w1 w1 w1 w1 w1 w1 w1 w2 w1 w3) (l_e0 x (8)) (l_e0 x (0)) (l_e0 x (24)) (l_e1 x 2) (h.2.2.2.1)) (l_c7 (fun w0 w1 w2 w3 w4 w5 w6 : Int => q_rnx v w0 w1 w2 w3 w4 w5 w6) (l_e1 x 1) (l_e1 x 0) (l_q3 6 x 0) (l_q3 12 x 0) (l_q3 18 x 0) (l_e0 x (24)) (l_q3 25 x 2) (h.2.2.2.2.1)) (l_c4 (fun w0 w1 w2 w3 : Int => q_qry v w0 w1 w1 w1 w1 w1 w1 w1 w2 w1 w3) (l_e0 x (8)) (l_e0 x (0)) (l_e1 x 0) (l_e1 x 3) (h.2.2.2.2.2.1)) (l_c4 (fun w0 w1 w2 w3 : Int => q_qry v w0 w1 w1 w1 w1 w1 w1 w1 w2 w1 w3) (l_e0 x (8)) (l_e0 x (0)) (l_q3 18 x 0) (l_e1 x 5) (h.2.2.2.2.2.2.1)) (l_c2 (fun w0 w1 : Int => v 20 w0 = w1) (l_e1 x 0) (l_e1 x 4) (h.2.2.2.2.2.2.2.1)) (l_c3 (fun w0 w1 w2 : Int => (mOP 110 (Int32.ofInt w0) (Int32.ofInt w1)).toInt = w2) (l_e1 x 5) (l_e0 x (1)) (l_e1 x 6) (h.2.2.2.2.2.2.2.2.1)) (l_c5 (fun w0 w1 w2 w3 w4 : Int => q_qry v w0 w1 w1 w1 w1 w1 w1 w1 w2 w3 w4) (l_e0 x (9)) (l_e0 x (0)) (l_e1 x 0) (l_e1 x 1) (l_e0 x (1)) (h.2.2.2.2.2.2.2.2.2.1)) (l_cc (l_e1 x 2) (h.2.1.1)) (l_cc (l_q1 5 x 2) (h.2.1.2.1)) (l_ff (f := v 78) (L := j_len 78) (l_e1 x 0) (l_e0 x (0)) (G0.1.1)) (l_ff (f := v 78) (L := j_len 78) (l_q3 6 x 0) (l_e1 x 3) (G1.1.1)) (l_ff (f := v 78) (L := j_len 78) (l_q3 12 x 0) (l_e1 x 4) (G2.1.1)) (l_ff (f := v 78) (L := j_len 78) (l_q3 18 x 0) (l_e1 x 6) (G3.1.1)) (l_ff (f := v 78) (L := j_len 78) (l_e0 x (24)) (l_q3 1 x 2) (G4.1.1)) (l_ff (f := v 78) (L := j_len 78) (l_q3 25 x 2) (l_e1 x 0) (G5.1.1))
    refine l_outH rfl (And.intro h.1 ?_)
    exact l_o4 (fun w0 w1 w2 w3 : Int => (True) ∧ (q_rwo v w0 w1 w1 w1 w2 w3 w1 w1 ∧ True)) (l_e1 x 1) (l_e0 x (0)) (l_e0 x (1)) (l_e1 x 0) K
  | skip
    intro v x h
    have G0 := h.2.2.1
    have G1 := G0.2
    have G2 := G1.2
    have G3 := G2.2
    have G4 := G3.2
    have G5 := G4.2
    have C0 : (0 : Int) ≤ x 2 := l_cc (a := y_ev x (0, [(2, 1)])) (l_e1 _ _) (h.2.1.1)
    have C1 : (0 : Int) ≤ 5 - x 2 := l_cc (a := y_ev x (5, [(2, (-1))])) (by show ((5) : Int) + ((-1) * x 2 + 0) = 5 - x 2; omega) (h.2.1.2.1)
    have F0 : (0 : Int) ≤ x 0 ∧ (x 0 : Int) < j_len 78 ∧ v 78 (x 0) = 0 := l_ff (f := v 78) (L := j_len 78) (a := y_ev x (0, [(0, 1)])) (b := y_ev x (0, [])) (l_e1 _ _) (l_e0 _ _) (G0.1.1)
    have F1 : (0 : Int) ≤ x 0 + 6 ∧ (x 0 + 6 : Int) < j_len 78 ∧ v 78 (x 0 + 6) = x 3 := l_ff (f := v 78) (L := j_len 78) (a := y_ev x (6, [(0, 1)])) (b := y_ev x (0, [(3, 1)])) (by show ((6) : Int) + ((1) * x 0 + 0) = x 0 + 6; omega) (l_e1 _ _) (G1.1.1)
    have F2 : (0 : Int) ≤ x 0 + 12 ∧ (x 0 + 12 : Int) < j_len 78 ∧ v 78 (x 0 + 12) = x 4 := l_ff (f := v 78) (L := j_len 78) (a := y_ev x (12, [(0, 1)])) (b := y_ev x (0, [(4, 1)])) (by show ((12) : Int) + ((1) * x 0 + 0) = x 0 + 12; omega) (l_e1 _ _) (G2.1.1)
    have F3 : (0 : Int) ≤ x 0 + 18 ∧ (x 0 + 18 : Int) < j_len 78 ∧ v 78 (x 0 + 18) = x 6 := l_ff (f := v 78) (L := j_len 78) (a := y_ev x (18, [(0, 1)])) (b := y_ev x (0, [(6, 1)])) (by show ((18) : Int) + ((1) * x 0 + 0) = x 0 + 18; omega) (l_e1 _ _) (G3.1.1)
    have F4 : (0 : Int) ≤ 24 ∧ (24 : Int) < j_len 78 ∧ v 78 (24) = x 2 + 1 := l_ff (f := v 78) (L := j_len 78) (a := y_ev x (24, [])) (b := y_ev x (1, [(2, 1)])) (l_e0 _ _) (by show ((1) : Int) + ((1) * x 2 + 0) = x 2 + 1; omega) (G4.1.1)
    have F5 : (0 : Int) ≤ x 2 + 25 ∧ (x 2 + 25 : Int) < j_len 78 ∧ v 78 (x 2 + 25) = x 0 := l_ff (f := v 78) (L := j_len 78) (a := y_ev x (25, [(2, 1)])) (b := y_ev x (0, [(0, 1)])) (by show ((25) : Int) + ((1) * x 2 + 0) = x 2 + 25; omega) (l_e1 _ _) (G5.1.1)
    have E0 : y_ev x (8, []) = 8 := (l_e0 _ _)
    have E1 : y_ev x (0, []) = 0 := (l_e0 _ _)
    have E2 : y_ev x (24, []) = 24 := (l_e0 _ _)
    have E3 : y_ev x (0, [(2, 1)]) = x 2 := (l_e1 _ _)
    have E4 : y_ev x (0, [(1, 1)]) = x 1 := (l_e1 _ _)
    have E5 : y_ev x (0, [(0, 1)]) = x 0 := (l_e1 _ _)
    have E6 : y_ev x (6, [(0, 1)]) = x 0 + 6 := (by show ((6) : Int) + ((1) * x 0 + 0) = x 0 + 6; omega)
    have E7 : y_ev x (12, [(0, 1)]) = x 0 + 12 := (by show ((12) : Int) + ((1) * x 0 + 0) = x 0 + 12; omega)
    have E8 : y_ev x (18, [(0, 1)]) = x 0 + 18 := (by show ((18) : Int) + ((1) * x 0 + 0) = x 0 + 18; omega)
    have E9 : y_ev x (25, [(2, 1)]) = x 2 + 25 := (by show ((25) : Int) + ((1) * x 2 + 0) = x 2 + 25; omega)
    have E10 : y_ev x (0, [(3, 1)]) = x 3 := (l_e1 _ _)
    have E11 : y_ev x (0, [(5, 1)]) = x 5 := (l_e1 _ _)
    have E12 : y_ev x (0, [(4, 1)]) = x 4 := (l_e1 _ _)
    have E13 : y_ev x (1, []) = 1 := (l_e0 _ _)
    have E14 : y_ev x (0, [(6, 1)]) = x 6 := (l_e1 _ _)
    have E15 : y_ev x (9, []) = 9 := (l_e0 _ _)
    have T0 : q_qry v (y_ev x (8, [])) (y_ev x (0, [])) (y_ev x (0, [])) (y_ev x (0, [])) (y_ev x (0, [])) (y_ev x (0, [])) (y_ev x (0, [])) (y_ev x (0, [])) (y_ev x (24, [])) (y_ev x (0, [])) (y_ev x (0, [(2, 1)])) := h.2.2.2.1
    (try rw [E0] at T0); (try rw [E1] at T0); (try rw [E2] at T0); (try rw [E3] at T0)
    have T1 : q_rnx v (y_ev x (0, [(1, 1)])) (y_ev x (0, [(0, 1)])) (y_ev x (6, [(0, 1)])) (y_ev x (12, [(0, 1)])) (y_ev x (18, [(0, 1)])) (y_ev x (24, [])) (y_ev x (25, [(2, 1)])) := h.2.2.2.2.1
    (try rw [E4] at T1); (try rw [E5] at T1); (try rw [E6] at T1); (try rw [E7] at T1); (try rw [E8] at T1); (try rw [E2] at T1); (try rw [E9] at T1)
    have T2 : q_qry v (y_ev x (8, [])) (y_ev x (0, [])) (y_ev x (0, [])) (y_ev x (0, [])) (y_ev x (0, [])) (y_ev x (0, [])) (y_ev x (0, [])) (y_ev x (0, [])) (y_ev x (0, [(0, 1)])) (y_ev x (0, [])) (y_ev x (0, [(3, 1)])) := h.2.2.2.2.2.1
    (try rw [E0] at T2); (try rw [E1] at T2); (try rw [E5] at T2); (try rw [E10] at T2)
    have T3 : q_qry v (y_ev x (8, [])) (y_ev x (0, [])) (y_ev x (0, [])) (y_ev x (0, [])) (y_ev x (0, [])) (y_ev x (0, [])) (y_ev x (0, [])) (y_ev x (0, [])) (y_ev x (18, [(0, 1)])) (y_ev x (0, [])) (y_ev x (0, [(5, 1)])) := h.2.2.2.2.2.2.1
    (try rw [E0] at T3); (try rw [E1] at T3); (try rw [E8] at T3); (try rw [E11] at T3)
    have T4 : v 20 (y_ev x (0, [(0, 1)])) = (y_ev x (0, [(4, 1)])) := h.2.2.2.2.2.2.2.1
    (try rw [E5] at T4); (try rw [E12] at T4)
    have T5 : (mOP 110 (Int32.ofInt (y_ev x (0, [(5, 1)]))) (Int32.ofInt (y_ev x (1, [])))).toInt = (y_ev x (0, [(6, 1)])) := h.2.2.2.2.2.2.2.2.1
    (try rw [E11] at T5); (try rw [E13] at T5); (try rw [E14] at T5)
    have T6 : q_qry v (y_ev x (9, [])) (y_ev x (0, [])) (y_ev x (0, [])) (y_ev x (0, [])) (y_ev x (0, [])) (y_ev x (0, [])) (y_ev x (0, [])) (y_ev x (0, [])) (y_ev x (0, [(0, 1)])) (y_ev x (0, [(1, 1)])) (y_ev x (1, [])) := h.2.2.2.2.2.2.2.2.2.1
    (try rw [E15] at T6); (try rw [E1] at T6); (try rw [E5] at T6); (try rw [E4] at T6); (try rw [E13] at T6)
    have K := k_mspl (V := v) (h := x 0) (H := x 1) (p := x 2) (x := x 3) (z := x 4) (g := x 5) (g2 := x 6) T0 T1 T2 T3 T4 T5 T6 C0 C1 F0 F1 F2 F3 F4 F5
    refine l_outH rfl (And.intro h.1 ?_)
    have O0 : y_ev x (0, [(1, 1)]) = x 1 := l_e1 _ _
    have O1 : y_ev x (0, []) = 0 := l_e0 _ _
    have O2 : y_ev x (1, []) = 1 := l_e0 _ _
    have O3 : y_ev x (0, [(0, 1)]) = x 0 := l_e1 _ _
    show (True) ∧ (q_rwo v (y_ev x (0, [(1, 1)])) (y_ev x (0, [])) (y_ev x (0, [])) (y_ev x (0, [])) (y_ev x (1, [])) (y_ev x (0, [(0, 1)])) (y_ev x (0, [])) (y_ev x (0, [])) ∧ True)
    (try rw [O0]); (try rw [O1]); (try rw [O2]); (try rw [O3])
    exact K
def lm_996 : zLem := (([((-2147483648), 2147483647), ((-2147483648), 2147483647), ((-2147483648), 2147483647), ((-2147483648), 2147483647)], [], [], [], [], [], [(260, [(1, []), (0, []), (0, []), (0, []), (1, []), (0, [(0, 1)]), (0, []), (0, []), (0, []), (0, [(1, 1)]), (0, [(2, 1)])]), (238, [(1, []), (0, []), (0, []), (0, []), (1, []), (0, [(0, 1)]), (0, []), (0, []), (0, []), (0, [(1, 1)]), (0, [(3, 1)])])]), [([((-2147483648), 2147483647), ((-2147483648), 2147483647), ((-2147483648), 2147483647), ((-2147483648), 2147483647)], [], [(0, [(2, 1), (3, (-1))]), (0, [(2, (-1)), (3, 1)])], [], [], [], [])])
theorem lk_996 : l_core lm_996 := by
  first
  | skip
    intro v x h
    have K := k_qeT (V := v) (h := x 0) (p := x 1) (u := x 2) (w := x 3) (l_c5 (fun w0 w1 w2 w3 w4 : Int => q_qry v w0 w1 w1 w1 w0 w2 w1 w1 w1 w3 w4) (l_e0 x (1)) (l_e0 x (0)) (l_e1 x 0) (l_e1 x 1) (l_e1 x 2) (h.2.2.2.1)) (l_c5 (fun w0 w1 w2 w3 w4 : Int => q_qry v w0 w1 w1 w1 w0 w2 w1 w1 w1 w3 w4) (l_e0 x (1)) (l_e0 x (0)) (l_e1 x 0) (l_e1 x 1) (l_e1 x 3) (h.2.2.2.2.1))
    refine l_outH rfl (And.intro h.1 ?_)
    exact l_o2 (fun w0 w1 : Int => (0 ≤ w0 ∧ 0 ≤ w1 ∧ True) ∧ (True)) (l_q5 x 2 3) (l_q4 x 2 3) K
  | skip
    intro v x h
    have E0 : y_ev x (1, []) = 1 := (l_e0 _ _)
    have E1 : y_ev x (0, []) = 0 := (l_e0 _ _)
    have E2 : y_ev x (0, [(0, 1)]) = x 0 := (l_e1 _ _)
    have E3 : y_ev x (0, [(1, 1)]) = x 1 := (l_e1 _ _)
    have E4 : y_ev x (0, [(2, 1)]) = x 2 := (l_e1 _ _)
    have E5 : y_ev x (0, [(3, 1)]) = x 3 := (l_e1 _ _)
    have T0 : q_qry v (y_ev x (1, [])) (y_ev x (0, [])) (y_ev x (0, [])) (y_ev x (0, [])) (y_ev x (1, [])) (y_ev x (0, [(0, 1)])) (y_ev x (0, [])) (y_ev x (0, [])) (y_ev x (0, [])) (y_ev x (0, [(1, 1)])) (y_ev x (0, [(2, 1)])) := h.2.2.2.1
    (try rw [E0] at T0); (try rw [E1] at T0); (try rw [E2] at T0); (try rw [E3] at T0); (try rw [E4] at T0)
    have T1 : q_qry v (y_ev x (1, [])) (y_ev x (0, [])) (y_ev x (0, [])) (y_ev x (0, [])) (y_ev x (1, [])) (y_ev x (0, [(0, 1)])) (y_ev x (0, [])) (y_ev x (0, [])) (y_ev x (0, [])) (y_ev x (0, [(1, 1)])) (y_ev x (0, [(3, 1)])) := h.2.2.2.2.1
    (try rw [E0] at T1); (try rw [E1] at T1); (try rw [E2] at T1); (try rw [E3] at T1); (try rw [E5] at T1)
    have K := k_qeT (V := v) (h := x 0) (p := x 1) (u := x 2) (w := x 3) T0 T1
    refine l_outH rfl (And.intro h.1 ?_)
    have O0 : y_ev x (0, [(2, 1), (3, (-1))]) = x 2 - x 3 := by show ((0) : Int) + ((1) * x 2 + ((-1) * x 3 + 0)) = _; omega
    have O1 : y_ev x (0, [(2, (-1)), (3, 1)]) = x 3 - x 2 := by show ((0) : Int) + ((-1) * x 2 + ((1) * x 3 + 0)) = _; omega
    show (0 ≤ y_ev x (0, [(2, 1), (3, (-1))]) ∧ 0 ≤ y_ev x (0, [(2, (-1)), (3, 1)]) ∧ True) ∧ (True)
    (try rw [O0]); (try rw [O1])
    exact K
def lm_997 : zLem := (([((-2147483648), 2147483647), ((-2147483648), 2147483647), ((-2147483648), 2147483647), ((-2147483648), 2147483647), ((-2147483648), 2147483647)], [(78, false)], [], [], [], [(0, (true, 0, 24, []), 0, 0, 0, [(0, 1)])], [(237, [(0, [(1, 1)]), (0, []), (0, []), (0, []), (0, []), (0, []), (0, []), (0, [])]), (235, [(0, [(1, 1)]), (0, [(2, 1)]), (0, [(3, 1)]), (0, [(4, 1)]), (0, []), (0, []), (0, []), (0, []), (0, []), (0, []), (0, [])])]), [([((-2147483648), 2147483647), ((-2147483648), 2147483647), ((-2147483648), 2147483647), ((-2147483648), 2147483647), ((-2147483648), 2147483647)], [(78, false)], [(0, [(0, 1), (2, (-1))]), (0, [(0, (-1)), (2, 1)])], [], [], [], [])])
theorem lk_997 : l_core lm_997 := by
  first
  | skip
    intro v x h
    have G0 := h.2.2.1
    have K := k_rp0 (V := v) (x := x 0) (H := x 1) (p := x 2) (y := x 3) (d := x 4) (l_c2 (fun w0 w1 : Int => q_rwo v w0 w1 w1 w1 w1 w1 w1 w1) (l_e1 x 1) (l_e0 x (0)) (h.2.2.2.1)) (l_c5 (fun w0 w1 w2 w3 w4 : Int => q_sto v 0 w0 w1 w2 w3 w4 w4 w4 w4 w4 w4 w4) (l_e1 x 1) (l_e1 x 2) (l_e1 x 3) (l_e1 x 4) (l_e0 x (0)) (h.2.2.2.2.1)) (l_ff (f := v 78) (L := j_len 78) (l_e0 x (24)) (l_e1 x 0) (G0.1.1))
    refine l_outH rfl (And.intro h.1 ?_)
    exact l_o2 (fun w0 w1 : Int => (0 ≤ w0 ∧ 0 ≤ w1 ∧ True) ∧ (True)) (l_q5 x 0 2) (l_q4 x 0 2) K
  | skip
    intro v x h
    have G0 := h.2.2.1
    have F0 : (0 : Int) ≤ 24 ∧ (24 : Int) < j_len 78 ∧ v 78 (24) = x 0 := l_ff (f := v 78) (L := j_len 78) (a := y_ev x (24, [])) (b := y_ev x (0, [(0, 1)])) (l_e0 _ _) (l_e1 _ _) (G0.1.1)
    have E0 : y_ev x (0, [(1, 1)]) = x 1 := (l_e1 _ _)
    have E1 : y_ev x (0, []) = 0 := (l_e0 _ _)
    have E2 : y_ev x (0, [(2, 1)]) = x 2 := (l_e1 _ _)
    have E3 : y_ev x (0, [(3, 1)]) = x 3 := (l_e1 _ _)
    have E4 : y_ev x (0, [(4, 1)]) = x 4 := (l_e1 _ _)
    have T0 : q_rwo v (y_ev x (0, [(1, 1)])) (y_ev x (0, [])) (y_ev x (0, [])) (y_ev x (0, [])) (y_ev x (0, [])) (y_ev x (0, [])) (y_ev x (0, [])) (y_ev x (0, [])) := h.2.2.2.1
    (try rw [E0] at T0); (try rw [E1] at T0)
    have T1 : q_sto v 0 (y_ev x (0, [(1, 1)])) (y_ev x (0, [(2, 1)])) (y_ev x (0, [(3, 1)])) (y_ev x (0, [(4, 1)])) (y_ev x (0, [])) (y_ev x (0, [])) (y_ev x (0, [])) (y_ev x (0, [])) (y_ev x (0, [])) (y_ev x (0, [])) (y_ev x (0, [])) := h.2.2.2.2.1
    (try rw [E0] at T1); (try rw [E2] at T1); (try rw [E3] at T1); (try rw [E4] at T1); (try rw [E1] at T1)
    have K := k_rp0 (V := v) (x := x 0) (H := x 1) (p := x 2) (y := x 3) (d := x 4) T0 T1 F0
    refine l_outH rfl (And.intro h.1 ?_)
    have O0 : y_ev x (0, [(0, 1), (2, (-1))]) = x 0 - x 2 := by show ((0) : Int) + ((1) * x 0 + ((-1) * x 2 + 0)) = _; omega
    have O1 : y_ev x (0, [(0, (-1)), (2, 1)]) = x 2 - x 0 := by show ((0) : Int) + ((-1) * x 0 + ((1) * x 2 + 0)) = _; omega
    show (0 ≤ y_ev x (0, [(0, 1), (2, (-1))]) ∧ 0 ≤ y_ev x (0, [(0, (-1)), (2, 1)]) ∧ True) ∧ (True)
    (try rw [O0]); (try rw [O1])
    exact K
def lm_998 : zLem := (([((-2147483648), 2147483647), ((-2147483648), 2147483647), ((-2147483648), 2147483647), ((-2147483648), 2147483647)], [(12, false), (61, false)], [], [], [], [(0, (false, 18, 0, []), 0, 0, 0, [(0, 1)]), (1, (true, 0, 0, [(0, 1)]), 0, 0, 0, [(1, 1)])], [(88, [(0, [(0, 1)]), (0, [(2, 1)]), (0, [(3, 1)])])]), [([((-2147483648), 2147483647), ((-2147483648), 2147483647), ((-2147483648), 2147483647), ((-2147483648), 2147483647)], [(12, false), (61, false)], [(0, [(1, 1), (2, (-1))]), (0, [(1, (-1)), (2, 1)])], [], [], [], [])])
theorem lk_998 : l_core lm_998 := by
  first
  | skip
    intro v x h
    have G0 := h.2.2.1
    have G1 := G0.2
    have K := k_nwW (V := v) (l := x 0) (u := x 1) (w := x 2) (x := x 3) (l_c3 (fun w0 w1 w2 : Int => 0 ≤ w0 ∧ w0 ≠ w2 ∧ v 61 w0 = w1) (l_e1 x 0) (l_e1 x 2) (l_e1 x 3) (h.2.2.2.1)) (l_ff (f := v 61) (L := j_len 61) (l_e1 x 0) (l_e1 x 1) (G1.1.1))
    refine l_outH rfl (And.intro h.1 ?_)
    exact l_o2 (fun w0 w1 : Int => (0 ≤ w0 ∧ 0 ≤ w1 ∧ True) ∧ (True)) (l_q5 x 1 2) (l_q4 x 1 2) K
  | skip
    intro v x h
    have G0 := h.2.2.1
    have G1 := G0.2
    have F0 : (0 : Int) ≤ x 0 ∧ (x 0 : Int) < j_len 61 ∧ v 61 (x 0) = x 1 := l_ff (f := v 61) (L := j_len 61) (a := y_ev x (0, [(0, 1)])) (b := y_ev x (0, [(1, 1)])) (l_e1 _ _) (l_e1 _ _) (G1.1.1)
    have E0 : y_ev x (0, [(0, 1)]) = x 0 := (l_e1 _ _)
    have E1 : y_ev x (0, [(2, 1)]) = x 2 := (l_e1 _ _)
    have E2 : y_ev x (0, [(3, 1)]) = x 3 := (l_e1 _ _)
    have T0 : 0 ≤ (y_ev x (0, [(0, 1)])) ∧ (y_ev x (0, [(0, 1)])) ≠ (y_ev x (0, [(3, 1)])) ∧ v 61 (y_ev x (0, [(0, 1)])) = (y_ev x (0, [(2, 1)])) := h.2.2.2.1
    (try rw [E0] at T0); (try rw [E1] at T0); (try rw [E2] at T0)
    have K := k_nwW (V := v) (l := x 0) (u := x 1) (w := x 2) (x := x 3) T0 F0
    refine l_outH rfl (And.intro h.1 ?_)
    have O0 : y_ev x (0, [(1, 1), (2, (-1))]) = x 1 - x 2 := by show ((0) : Int) + ((1) * x 1 + ((-1) * x 2 + 0)) = _; omega
    have O1 : y_ev x (0, [(1, (-1)), (2, 1)]) = x 2 - x 1 := by show ((0) : Int) + ((-1) * x 1 + ((1) * x 2 + 0)) = _; omega
    show (0 ≤ y_ev x (0, [(1, 1), (2, (-1))]) ∧ 0 ≤ y_ev x (0, [(1, (-1)), (2, 1)]) ∧ True) ∧ (True)
    (try rw [O0]); (try rw [O1])
    exact K
def lm_999 : zLem := (([((-2147483648), 2147483647), ((-2147483648), 2147483647), ((-2147483648), 2147483647), ((-2147483648), 2147483647), ((-2147483648), 2147483647), ((-2147483648), 2147483647), ((-2147483648), 2147483647), ((-2147483648), 2147483647), ((-2147483648), 2147483647), ((-2147483648), 2147483647)], [], [(0, [(2, 1)])], [], [(0, 0, 0, [(0, 1)]), (0, 0, 0, [(2, 1)]), (0, 0, 0, [(1, 1)])], [], [(107, [(0, [(2, 1)]), (2, []), (0, [(1, 1)])]), (238, [(3, []), (0, [(3, 1)]), (0, [(4, 1)]), (0, [(5, 1)]), (0, [(6, 1)]), (0, [(7, 1)]), (0, [(8, 1)]), (0, [(9, 1)]), (0, [(0, 1)]), (0, []), (0, [(2, 1)])])]), [([((-2147483648), 2147483647), ((-2147483648), 2147483647), ((-2147483648), 2147483647), ((-2147483648), 2147483647), ((-2147483648), 2147483647), ((-2147483648), 2147483647), ((-2147483648), 2147483647), ((-2147483648), 2147483647), ((-2147483648), 2147483647), ((-2147483648), 2147483647)], [], [(0, [(1, (-2)), (2, 1)]), (1, [(1, 2), (2, (-1))])], [], [], [], [(238, [(22, []), (0, [(3, 1)]), (0, [(4, 1)]), (0, [(5, 1)]), (0, [(6, 1)]), (0, [(7, 1)]), (0, [(8, 1)]), (0, [(9, 1)]), (0, [(0, 1)]), (0, []), (0, [(1, 1)])])])])
theorem lk_999 : l_core lm_999 := by
  first
  | skip
    intro v x h
    have K := k_bplmB (V := v) (w := x 0) (j := x 1) (k := x 2) (q := x 3) (b := x 4) (s := x 5) (o := x 6) (a1 := x 7) (a2 := x 8) (a3 := x 9) (l_c3 (fun w0 w1 w2 : Int => (mOP 107 (Int32.ofInt w0) (Int32.ofInt w1)).toInt = w2) (l_e1 x 2) (l_e0 x (2)) (l_e1 x 1) (h.2.2.2.1)) (l_c11 (fun w0 w1 w2 w3 w4 w5 w6 w7 w8 w9 w10 : Int => q_qry v w0 w1 w2 w3 w4 w5 w6 w7 w8 w9 w10) (l_e0 x (3)) (l_e1 x 3) (l_e1 x 4) (l_e1 x 5) (l_e1 x 6) (l_e1 x 7) (l_e1 x 8) (l_e1 x 9) (l_e1 x 0) (l_e0 x (0)) (l_e1 x 2) (h.2.2.2.2.1)) (l_cc (l_e1 x 2) (h.2.1.1))
    refine l_outH rfl (And.intro h.1 ?_)
    exact l_o13 (fun w0 w1 w2 w3 w4 w5 w6 w7 w8 w9 w10 w11 w12 : Int => (0 ≤ w0 ∧ 0 ≤ w1 ∧ True) ∧ (q_qry v w2 w3 w4 w5 w6 w7 w8 w9 w10 w11 w12 ∧ True)) (show y_ev x (0, [(1, (-2)), (2, 1)]) = x 2 - 2 * x 1 by show ((0) : Int) + ((-2) * x 1 + ((1) * x 2 + 0)) = _; omega) (show y_ev x (1, [(1, 2), (2, (-1))]) = 2 * x 1 - x 2 + 1 by show ((1) : Int) + ((2) * x 1 + ((-1) * x 2 + 0)) = _; omega) (l_e0 x (22)) (l_e1 x 3) (l_e1 x 4) (l_e1 x 5) (l_e1 x 6) (l_e1 x 7) (l_e1 x 8) (l_e1 x 9) (l_e1 x 0) (l_e0 x (0)) (l_e1 x 1) K
  | skip
    intro v x h
    have C0 : (0 : Int) ≤ x 2 := l_cc (a := y_ev x (0, [(2, 1)])) (l_e1 _ _) (h.2.1.1)
    have E0 : y_ev x (0, [(2, 1)]) = x 2 := (l_e1 _ _)
    have E1 : y_ev x (2, []) = 2 := (l_e0 _ _)
    have E2 : y_ev x (0, [(1, 1)]) = x 1 := (l_e1 _ _)
    have E3 : y_ev x (3, []) = 3 := (l_e0 _ _)
    have E4 : y_ev x (0, [(3, 1)]) = x 3 := (l_e1 _ _)
    have E5 : y_ev x (0, [(4, 1)]) = x 4 := (l_e1 _ _)
    have E6 : y_ev x (0, [(5, 1)]) = x 5 := (l_e1 _ _)
    have E7 : y_ev x (0, [(6, 1)]) = x 6 := (l_e1 _ _)
    have E8 : y_ev x (0, [(7, 1)]) = x 7 := (l_e1 _ _)
    have E9 : y_ev x (0, [(8, 1)]) = x 8 := (l_e1 _ _)
    have E10 : y_ev x (0, [(9, 1)]) = x 9 := (l_e1 _ _)
    have E11 : y_ev x (0, [(0, 1)]) = x 0 := (l_e1 _ _)
    have E12 : y_ev x (0, []) = 0 := (l_e0 _ _)
    have T0 : (mOP 107 (Int32.ofInt (y_ev x (0, [(2, 1)]))) (Int32.ofInt (y_ev x (2, [])))).toInt = (y_ev x (0, [(1, 1)])) := h.2.2.2.1
    (try rw [E0] at T0); (try rw [E1] at T0); (try rw [E2] at T0)
    have T1 : q_qry v (y_ev x (3, [])) (y_ev x (0, [(3, 1)])) (y_ev x (0, [(4, 1)])) (y_ev x (0, [(5, 1)])) (y_ev x (0, [(6, 1)])) (y_ev x (0, [(7, 1)])) (y_ev x (0, [(8, 1)])) (y_ev x (0, [(9, 1)])) (y_ev x (0, [(0, 1)])) (y_ev x (0, [])) (y_ev x (0, [(2, 1)])) := h.2.2.2.2.1
    (try rw [E3] at T1); (try rw [E4] at T1); (try rw [E5] at T1); (try rw [E6] at T1); (try rw [E7] at T1); (try rw [E8] at T1); (try rw [E9] at T1); (try rw [E10] at T1); (try rw [E11] at T1); (try rw [E12] at T1); (try rw [E0] at T1)
    have K := k_bplmB (V := v) (w := x 0) (j := x 1) (k := x 2) (q := x 3) (b := x 4) (s := x 5) (o := x 6) (a1 := x 7) (a2 := x 8) (a3 := x 9) T0 T1 C0
    refine l_outH rfl (And.intro h.1 ?_)
    have O0 : y_ev x (0, [(1, (-2)), (2, 1)]) = x 2 - 2 * x 1 := by show ((0) : Int) + ((-2) * x 1 + ((1) * x 2 + 0)) = _; omega
    have O1 : y_ev x (1, [(1, 2), (2, (-1))]) = 2 * x 1 - x 2 + 1 := by show ((1) : Int) + ((2) * x 1 + ((-1) * x 2 + 0)) = _; omega
    have O2 : y_ev x (22, []) = 22 := l_e0 _ _
    have O3 : y_ev x (0, [(3, 1)]) = x 3 := l_e1 _ _
    have O4 : y_ev x (0, [(4, 1)]) = x 4 := l_e1 _ _
    have O5 : y_ev x (0, [(5, 1)]) = x 5 := l_e1 _ _
    have O6 : y_ev x (0, [(6, 1)]) = x 6 := l_e1 _ _
    have O7 : y_ev x (0, [(7, 1)]) = x 7 := l_e1 _ _
    have O8 : y_ev x (0, [(8, 1)]) = x 8 := l_e1 _ _
    have O9 : y_ev x (0, [(9, 1)]) = x 9 := l_e1 _ _
    have O10 : y_ev x (0, [(0, 1)]) = x 0 := l_e1 _ _
    have O11 : y_ev x (0, []) = 0 := l_e0 _ _
    have O12 : y_ev x (0, [(1, 1)]) = x 1 := l_e1 _ _
    show (0 ≤ y_ev x (0, [(1, (-2)), (2, 1)]) ∧ 0 ≤ y_ev x (1, [(1, 2), (2, (-1))]) ∧ True) ∧ (q_qry v (y_ev x (22, [])) (y_ev x (0, [(3, 1)])) (y_ev x (0, [(4, 1)])) (y_ev x (0, [(5, 1)])) (y_ev x (0, [(6, 1)])) (y_ev x (0, [(7, 1)])) (y_ev x (0, [(8, 1)])) (y_ev x (0, [(9, 1)])) (y_ev x (0, [(0, 1)])) (y_ev x (0, [])) (y_ev x (0, [(1, 1)])) ∧ True)
    (try rw [O0]); (try rw [O1]); (try rw [O2]); (try rw [O3]); (try rw [O4]); (try rw [O5]); (try rw [O6]); (try rw [O7]); (try rw [O8]); (try rw [O9]); (try rw [O10]); (try rw [O11]); (try rw [O12])
    exact K
def lm_1000 : zLem := (([((-2147483648), 2147483647)], [], [], [], [], [], [(237, [(0, [(0, 1)]), (0, []), (0, []), (0, []), (0, []), (0, []), (0, []), (0, [])])]), [([((-2147483648), 2147483647)], [], [], [], [], [], [(263, [(0, [(0, 1)]), (32, []), (32, []), (32, []), (32, []), (32, []), (32, [])])])])
theorem lk_1000 : l_core lm_1000 := by
  first
  | skip
    intro v x h
    have K := k_rnx32 (V := v) (H := x 0) (l_c2 (fun w0 w1 : Int => q_rwo v w0 w1 w1 w1 w1 w1 w1 w1) (l_e1 x 0) (l_e0 x (0)) (h.2.2.2.1))
    refine l_outH rfl (And.intro h.1 ?_)
    exact l_o2 (fun w0 w1 : Int => (True) ∧ (q_rnx v w0 w1 w1 w1 w1 w1 w1 ∧ True)) (l_e1 x 0) (l_e0 x (32)) K
  | skip
    intro v x h
    have E0 : y_ev x (0, [(0, 1)]) = x 0 := (l_e1 _ _)
    have E1 : y_ev x (0, []) = 0 := (l_e0 _ _)
    have T0 : q_rwo v (y_ev x (0, [(0, 1)])) (y_ev x (0, [])) (y_ev x (0, [])) (y_ev x (0, [])) (y_ev x (0, [])) (y_ev x (0, [])) (y_ev x (0, [])) (y_ev x (0, [])) := h.2.2.2.1
    (try rw [E0] at T0); (try rw [E1] at T0)
    have K := k_rnx32 (V := v) (H := x 0) T0
    refine l_outH rfl (And.intro h.1 ?_)
    have O0 : y_ev x (0, [(0, 1)]) = x 0 := l_e1 _ _
    have O1 : y_ev x (32, []) = 32 := l_e0 _ _
    show (True) ∧ (q_rnx v (y_ev x (0, [(0, 1)])) (y_ev x (32, [])) (y_ev x (32, [])) (y_ev x (32, [])) (y_ev x (32, [])) (y_ev x (32, [])) (y_ev x (32, [])) ∧ True)
    (try rw [O0]); (try rw [O1])
    exact K
def lm_1001 : zLem := (([((-2147483648), 2147483647), ((-2147483648), 2147483647), ((-2147483648), 2147483647), ((-2147483648), 2147483647)], [(78, false)], [], [], [(0, 0, 0, [(0, 1)])], [(0, (true, 0, 32, []), 0, 0, 0, [(3, 1)])], [(263, [(0, [(1, 1)]), (32, []), (32, []), (32, []), (32, []), (32, []), (32, [])]), (238, [(8, []), (0, []), (0, []), (0, []), (0, []), (0, []), (0, []), (0, []), (32, []), (0, []), (0, [(2, 1)])]), (110, [(0, [(2, 1)]), (0, [(0, 1)]), (0, [(3, 1)])])]), [([((-2147483648), 2147483647), ((-2147483648), 2147483647), ((-2147483648), 2147483647), ((-2147483648), 2147483647)], [(78, false)], [], [], [], [], [(237, [(0, [(1, 1)]), (0, []), (0, []), (0, []), (3, []), (0, [(0, 1)]), (0, []), (0, [])])])])
theorem lk_1001 : l_core lm_1001 := by
  first
  | skip
    intro v x h
    have G0 := h.2.2.1
    have K := k_mdrw (V := v) (w := x 0) (H := x 1) (x := x 2) (v := x 3) (l_c2 (fun w0 w1 : Int => q_rnx v w0 w1 w1 w1 w1 w1 w1) (l_e1 x 1) (l_e0 x (32)) (h.2.2.2.1)) (l_c4 (fun w0 w1 w2 w3 : Int => q_qry v w0 w1 w1 w1 w1 w1 w1 w1 w2 w1 w3) (l_e0 x (8)) (l_e0 x (0)) (l_e0 x (32)) (l_e1 x 2) (h.2.2.2.2.1)) (l_c3 (fun w0 w1 w2 : Int => (mOP 110 (Int32.ofInt w0) (Int32.ofInt w1)).toInt = w2) (l_e1 x 2) (l_e1 x 0) (l_e1 x 3) (h.2.2.2.2.2.1)) (l_ff (f := v 78) (L := j_len 78) (l_e0 x (32)) (l_e1 x 3) (G0.1.1))
    refine l_outH rfl (And.intro h.1 ?_)
    exact l_o4 (fun w0 w1 w2 w3 : Int => (True) ∧ (q_rwo v w0 w1 w1 w1 w2 w3 w1 w1 ∧ True)) (l_e1 x 1) (l_e0 x (0)) (l_e0 x (3)) (l_e1 x 0) K
  | skip
    intro v x h
    have G0 := h.2.2.1
    have F0 : (0 : Int) ≤ 32 ∧ (32 : Int) < j_len 78 ∧ v 78 (32) = x 3 := l_ff (f := v 78) (L := j_len 78) (a := y_ev x (32, [])) (b := y_ev x (0, [(3, 1)])) (l_e0 _ _) (l_e1 _ _) (G0.1.1)
    have E0 : y_ev x (0, [(1, 1)]) = x 1 := (l_e1 _ _)
    have E1 : y_ev x (32, []) = 32 := (l_e0 _ _)
    have E2 : y_ev x (8, []) = 8 := (l_e0 _ _)
    have E3 : y_ev x (0, []) = 0 := (l_e0 _ _)
    have E4 : y_ev x (0, [(2, 1)]) = x 2 := (l_e1 _ _)
    have E5 : y_ev x (0, [(0, 1)]) = x 0 := (l_e1 _ _)
    have E6 : y_ev x (0, [(3, 1)]) = x 3 := (l_e1 _ _)
    have T0 : q_rnx v (y_ev x (0, [(1, 1)])) (y_ev x (32, [])) (y_ev x (32, [])) (y_ev x (32, [])) (y_ev x (32, [])) (y_ev x (32, [])) (y_ev x (32, [])) := h.2.2.2.1
    (try rw [E0] at T0); (try rw [E1] at T0)
    have T1 : q_qry v (y_ev x (8, [])) (y_ev x (0, [])) (y_ev x (0, [])) (y_ev x (0, [])) (y_ev x (0, [])) (y_ev x (0, [])) (y_ev x (0, [])) (y_ev x (0, [])) (y_ev x (32, [])) (y_ev x (0, [])) (y_ev x (0, [(2, 1)])) := h.2.2.2.2.1
    (try rw [E2] at T1); (try rw [E3] at T1); (try rw [E1] at T1); (try rw [E4] at T1)
    have T2 : (mOP 110 (Int32.ofInt (y_ev x (0, [(2, 1)]))) (Int32.ofInt (y_ev x (0, [(0, 1)])))).toInt = (y_ev x (0, [(3, 1)])) := h.2.2.2.2.2.1
    (try rw [E4] at T2); (try rw [E5] at T2); (try rw [E6] at T2)
    have K := k_mdrw (V := v) (w := x 0) (H := x 1) (x := x 2) (v := x 3) T0 T1 T2 F0
    refine l_outH rfl (And.intro h.1 ?_)
    have O0 : y_ev x (0, [(1, 1)]) = x 1 := l_e1 _ _
    have O1 : y_ev x (0, []) = 0 := l_e0 _ _
    have O2 : y_ev x (3, []) = 3 := l_e0 _ _
    have O3 : y_ev x (0, [(0, 1)]) = x 0 := l_e1 _ _
    show (True) ∧ (q_rwo v (y_ev x (0, [(1, 1)])) (y_ev x (0, [])) (y_ev x (0, [])) (y_ev x (0, [])) (y_ev x (3, [])) (y_ev x (0, [(0, 1)])) (y_ev x (0, [])) (y_ev x (0, [])) ∧ True)
    (try rw [O0]); (try rw [O1]); (try rw [O2]); (try rw [O3])
    exact K
def lm_1002 : zLem := (([((-2147483648), 2147483647), ((-2147483648), 2147483647), ((-2147483648), 2147483647), ((-2147483648), 2147483647), ((-2147483648), 2147483647)], [(77, false)], [], [], [(0, 0, 0, [(0, 1)])], [(0, (true, 0, 24, []), 0, 0, 0, [(0, 1)])], [(235, [(0, [(1, 1)]), (0, [(2, 1)]), (0, [(3, 1)]), (0, [(4, 1)]), (0, []), (0, []), (0, []), (0, []), (0, []), (0, []), (0, [])])]), [([((-2147483648), 2147483647), ((-2147483648), 2147483647), ((-2147483648), 2147483647), ((-2147483648), 2147483647), ((-2147483648), 2147483647)], [(77, false)], [(0, [(0, 1), (2, (-1))]), (0, [(0, (-1)), (2, 1)])], [], [], [], [])])
theorem lk_1002 : l_core lm_1002 := by
  first
  | skip
    intro v x h
    have G0 := h.2.2.1
    have K := k_np24 (V := v) (x := x 0) (H := x 1) (p := x 2) (y := x 3) (d := x 4) (l_c5 (fun w0 w1 w2 w3 w4 : Int => q_sto v 0 w0 w1 w2 w3 w4 w4 w4 w4 w4 w4 w4) (l_e1 x 1) (l_e1 x 2) (l_e1 x 3) (l_e1 x 4) (l_e0 x (0)) (h.2.2.2.1)) (l_ff (f := v 77) (L := j_len 77) (l_e0 x (24)) (l_e1 x 0) (G0.1.1))
    refine l_outH rfl (And.intro h.1 ?_)
    exact l_o2 (fun w0 w1 : Int => (0 ≤ w0 ∧ 0 ≤ w1 ∧ True) ∧ (True)) (l_q5 x 0 2) (l_q4 x 0 2) K
  | skip
    intro v x h
    have G0 := h.2.2.1
    have F0 : (0 : Int) ≤ 24 ∧ (24 : Int) < j_len 77 ∧ v 77 (24) = x 0 := l_ff (f := v 77) (L := j_len 77) (a := y_ev x (24, [])) (b := y_ev x (0, [(0, 1)])) (l_e0 _ _) (l_e1 _ _) (G0.1.1)
    have E0 : y_ev x (0, [(1, 1)]) = x 1 := (l_e1 _ _)
    have E1 : y_ev x (0, [(2, 1)]) = x 2 := (l_e1 _ _)
    have E2 : y_ev x (0, [(3, 1)]) = x 3 := (l_e1 _ _)
    have E3 : y_ev x (0, [(4, 1)]) = x 4 := (l_e1 _ _)
    have E4 : y_ev x (0, []) = 0 := (l_e0 _ _)
    have T0 : q_sto v 0 (y_ev x (0, [(1, 1)])) (y_ev x (0, [(2, 1)])) (y_ev x (0, [(3, 1)])) (y_ev x (0, [(4, 1)])) (y_ev x (0, [])) (y_ev x (0, [])) (y_ev x (0, [])) (y_ev x (0, [])) (y_ev x (0, [])) (y_ev x (0, [])) (y_ev x (0, [])) := h.2.2.2.1
    (try rw [E0] at T0); (try rw [E1] at T0); (try rw [E2] at T0); (try rw [E3] at T0); (try rw [E4] at T0)
    have K := k_np24 (V := v) (x := x 0) (H := x 1) (p := x 2) (y := x 3) (d := x 4) T0 F0
    refine l_outH rfl (And.intro h.1 ?_)
    have O0 : y_ev x (0, [(0, 1), (2, (-1))]) = x 0 - x 2 := by show ((0) : Int) + ((1) * x 0 + ((-1) * x 2 + 0)) = _; omega
    have O1 : y_ev x (0, [(0, (-1)), (2, 1)]) = x 2 - x 0 := by show ((0) : Int) + ((-1) * x 0 + ((1) * x 2 + 0)) = _; omega
    show (0 ≤ y_ev x (0, [(0, 1), (2, (-1))]) ∧ 0 ≤ y_ev x (0, [(0, (-1)), (2, 1)]) ∧ True) ∧ (True)
    (try rw [O0]); (try rw [O1])
    exact K
def lm_1003 : zLem := (([((-2147483648), 2147483647), ((-2147483648), 2147483647), ((-2147483648), 2147483647), ((-2147483648), 2147483647), ((-2147483648), 2147483647)], [(77, false)], [], [], [(0, 0, 0, [(0, 1)])], [(0, (true, 0, 31, []), 0, 0, 0, [(0, 1)])], [(235, [(0, [(1, 1)]), (0, [(2, 1)]), (0, [(3, 1)]), (0, [(4, 1)]), (0, []), (0, []), (0, []), (0, []), (0, []), (0, []), (0, [])])]), [([((-2147483648), 2147483647), ((-2147483648), 2147483647), ((-2147483648), 2147483647), ((-2147483648), 2147483647), ((-2147483648), 2147483647)], [(77, false)], [(0, [(0, 1), (3, (-1))]), (0, [(0, (-1)), (3, 1)])], [], [], [], [])])
theorem lk_1003 : l_core lm_1003 := by
  first
  | skip
    intro v x h
    have G0 := h.2.2.1
    have K := k_np31 (V := v) (x := x 0) (H := x 1) (p := x 2) (y := x 3) (d := x 4) (l_c5 (fun w0 w1 w2 w3 w4 : Int => q_sto v 0 w0 w1 w2 w3 w4 w4 w4 w4 w4 w4 w4) (l_e1 x 1) (l_e1 x 2) (l_e1 x 3) (l_e1 x 4) (l_e0 x (0)) (h.2.2.2.1)) (l_ff (f := v 77) (L := j_len 77) (l_e0 x (31)) (l_e1 x 0) (G0.1.1))
    refine l_outH rfl (And.intro h.1 ?_)
    exact l_o2 (fun w0 w1 : Int => (0 ≤ w0 ∧ 0 ≤ w1 ∧ True) ∧ (True)) (l_q5 x 0 3) (l_q4 x 0 3) K
  | skip
    intro v x h
    have G0 := h.2.2.1
    have F0 : (0 : Int) ≤ 31 ∧ (31 : Int) < j_len 77 ∧ v 77 (31) = x 0 := l_ff (f := v 77) (L := j_len 77) (a := y_ev x (31, [])) (b := y_ev x (0, [(0, 1)])) (l_e0 _ _) (l_e1 _ _) (G0.1.1)
    have E0 : y_ev x (0, [(1, 1)]) = x 1 := (l_e1 _ _)
    have E1 : y_ev x (0, [(2, 1)]) = x 2 := (l_e1 _ _)
    have E2 : y_ev x (0, [(3, 1)]) = x 3 := (l_e1 _ _)
    have E3 : y_ev x (0, [(4, 1)]) = x 4 := (l_e1 _ _)
    have E4 : y_ev x (0, []) = 0 := (l_e0 _ _)
    have T0 : q_sto v 0 (y_ev x (0, [(1, 1)])) (y_ev x (0, [(2, 1)])) (y_ev x (0, [(3, 1)])) (y_ev x (0, [(4, 1)])) (y_ev x (0, [])) (y_ev x (0, [])) (y_ev x (0, [])) (y_ev x (0, [])) (y_ev x (0, [])) (y_ev x (0, [])) (y_ev x (0, [])) := h.2.2.2.1
    (try rw [E0] at T0); (try rw [E1] at T0); (try rw [E2] at T0); (try rw [E3] at T0); (try rw [E4] at T0)
    have K := k_np31 (V := v) (x := x 0) (H := x 1) (p := x 2) (y := x 3) (d := x 4) T0 F0
    refine l_outH rfl (And.intro h.1 ?_)
    have O0 : y_ev x (0, [(0, 1), (3, (-1))]) = x 0 - x 3 := by show ((0) : Int) + ((1) * x 0 + ((-1) * x 3 + 0)) = _; omega
    have O1 : y_ev x (0, [(0, (-1)), (3, 1)]) = x 3 - x 0 := by show ((0) : Int) + ((-1) * x 0 + ((1) * x 3 + 0)) = _; omega
    show (0 ≤ y_ev x (0, [(0, 1), (3, (-1))]) ∧ 0 ≤ y_ev x (0, [(0, (-1)), (3, 1)]) ∧ True) ∧ (True)
    (try rw [O0]); (try rw [O1])
    exact K
def lm_1004 : zLem := (([((-2147483648), 2147483647), ((-2147483648), 2147483647), ((-2147483648), 2147483647), ((-2147483648), 2147483647)], [(12, false), (63, false)], [], [], [], [(0, (false, 18, 0, []), 0, 0, 0, [(0, 1)]), (1, (true, 0, 0, [(0, 1)]), 0, 0, 0, [(1, 1)])], [(90, [(0, [(0, 1)]), (0, [(2, 1)]), (0, [(3, 1)])])]), [([((-2147483648), 2147483647), ((-2147483648), 2147483647), ((-2147483648), 2147483647), ((-2147483648), 2147483647)], [(12, false), (63, false)], [(0, [(1, 1), (2, (-1))]), (0, [(1, (-1)), (2, 1)])], [], [], [], [])])
theorem lk_1004 : l_core lm_1004 := by
  first
  | skip
    intro v x h
    have G0 := h.2.2.1
    have G1 := G0.2
    have K := k_nwB (V := v) (l := x 0) (u := x 1) (w := x 2) (x := x 3) (l_c3 (fun w0 w1 w2 : Int => 0 ≤ w0 ∧ w0 ≠ w2 ∧ v 63 w0 = w1) (l_e1 x 0) (l_e1 x 2) (l_e1 x 3) (h.2.2.2.1)) (l_ff (f := v 63) (L := j_len 63) (l_e1 x 0) (l_e1 x 1) (G1.1.1))
    refine l_outH rfl (And.intro h.1 ?_)
    exact l_o2 (fun w0 w1 : Int => (0 ≤ w0 ∧ 0 ≤ w1 ∧ True) ∧ (True)) (l_q5 x 1 2) (l_q4 x 1 2) K
  | skip
    intro v x h
    have G0 := h.2.2.1
    have G1 := G0.2
    have F0 : (0 : Int) ≤ x 0 ∧ (x 0 : Int) < j_len 63 ∧ v 63 (x 0) = x 1 := l_ff (f := v 63) (L := j_len 63) (a := y_ev x (0, [(0, 1)])) (b := y_ev x (0, [(1, 1)])) (l_e1 _ _) (l_e1 _ _) (G1.1.1)
    have E0 : y_ev x (0, [(0, 1)]) = x 0 := (l_e1 _ _)
    have E1 : y_ev x (0, [(2, 1)]) = x 2 := (l_e1 _ _)
    have E2 : y_ev x (0, [(3, 1)]) = x 3 := (l_e1 _ _)
    have T0 : 0 ≤ (y_ev x (0, [(0, 1)])) ∧ (y_ev x (0, [(0, 1)])) ≠ (y_ev x (0, [(3, 1)])) ∧ v 63 (y_ev x (0, [(0, 1)])) = (y_ev x (0, [(2, 1)])) := h.2.2.2.1
    (try rw [E0] at T0); (try rw [E1] at T0); (try rw [E2] at T0)
    have K := k_nwB (V := v) (l := x 0) (u := x 1) (w := x 2) (x := x 3) T0 F0
    refine l_outH rfl (And.intro h.1 ?_)
    have O0 : y_ev x (0, [(1, 1), (2, (-1))]) = x 1 - x 2 := by show ((0) : Int) + ((1) * x 1 + ((-1) * x 2 + 0)) = _; omega
    have O1 : y_ev x (0, [(1, (-1)), (2, 1)]) = x 2 - x 1 := by show ((0) : Int) + ((-1) * x 1 + ((1) * x 2 + 0)) = _; omega
    show (0 ≤ y_ev x (0, [(1, 1), (2, (-1))]) ∧ 0 ≤ y_ev x (0, [(1, (-1)), (2, 1)]) ∧ True) ∧ (True)
    (try rw [O0]); (try rw [O1])
    exact K
def lm_1005 : zLem := (([((-2147483648), 2147483647), ((-2147483648), 2147483647), ((-2147483648), 2147483647), ((-2147483648), 2147483647)], [(12, false), (64, false)], [], [], [], [(0, (false, 49, 0, []), 0, 0, 0, [(1, 1)]), (0, (false, 18, 0, []), 0, 0, 0, [(0, 1)]), (1, (true, 0, 0, [(0, 1)]), 0, 0, 0, [(1, 1)])], [(91, [(0, [(0, 1)]), (0, [(2, 1)]), (0, [(3, 1)])])]), [([((-2147483648), 2147483647), ((-2147483648), 2147483647), ((-2147483648), 2147483647), ((-2147483648), 2147483647)], [(12, false), (64, false)], [(0, [(1, 1), (2, (-1))]), (0, [(1, (-1)), (2, 1)])], [], [], [], [])])
theorem lk_1005 : l_core lm_1005 := by
  first
  | skip
    intro v x h
    have G0 := h.2.2.1
    have G1 := G0.2
    have G2 := G1.2
    have K := k_nwSd (V := v) (l := x 0) (u := x 1) (w := x 2) (x := x 3) (l_c3 (fun w0 w1 w2 : Int => 0 ≤ w0 ∧ w0 ≠ w2 ∧ v 64 w0 = w1) (l_e1 x 0) (l_e1 x 2) (l_e1 x 3) (h.2.2.2.1)) (l_ff (f := v 64) (L := j_len 64) (l_e1 x 0) (l_e1 x 1) (G2.1.1))
    refine l_outH rfl (And.intro h.1 ?_)
    exact l_o2 (fun w0 w1 : Int => (0 ≤ w0 ∧ 0 ≤ w1 ∧ True) ∧ (True)) (l_q5 x 1 2) (l_q4 x 1 2) K
  | skip
    intro v x h
    have G0 := h.2.2.1
    have G1 := G0.2
    have G2 := G1.2
    have F0 : (0 : Int) ≤ x 0 ∧ (x 0 : Int) < j_len 64 ∧ v 64 (x 0) = x 1 := l_ff (f := v 64) (L := j_len 64) (a := y_ev x (0, [(0, 1)])) (b := y_ev x (0, [(1, 1)])) (l_e1 _ _) (l_e1 _ _) (G2.1.1)
    have E0 : y_ev x (0, [(0, 1)]) = x 0 := (l_e1 _ _)
    have E1 : y_ev x (0, [(2, 1)]) = x 2 := (l_e1 _ _)
    have E2 : y_ev x (0, [(3, 1)]) = x 3 := (l_e1 _ _)
    have T0 : 0 ≤ (y_ev x (0, [(0, 1)])) ∧ (y_ev x (0, [(0, 1)])) ≠ (y_ev x (0, [(3, 1)])) ∧ v 64 (y_ev x (0, [(0, 1)])) = (y_ev x (0, [(2, 1)])) := h.2.2.2.1
    (try rw [E0] at T0); (try rw [E1] at T0); (try rw [E2] at T0)
    have K := k_nwSd (V := v) (l := x 0) (u := x 1) (w := x 2) (x := x 3) T0 F0
    refine l_outH rfl (And.intro h.1 ?_)
    have O0 : y_ev x (0, [(1, 1), (2, (-1))]) = x 1 - x 2 := by show ((0) : Int) + ((1) * x 1 + ((-1) * x 2 + 0)) = _; omega
    have O1 : y_ev x (0, [(1, (-1)), (2, 1)]) = x 2 - x 1 := by show ((0) : Int) + ((-1) * x 1 + ((1) * x 2 + 0)) = _; omega
    show (0 ≤ y_ev x (0, [(1, 1), (2, (-1))]) ∧ 0 ≤ y_ev x (0, [(1, (-1)), (2, 1)]) ∧ True) ∧ (True)
    (try rw [O0]); (try rw [O1])
    exact K
def lm_1006 : zLem := (([((-2147483648), 2147483647), ((-2147483648), 2147483647), ((-2147483648), 2147483647), ((-2147483648), 2147483647), ((-2147483648), 2147483647), ((-2147483648), 2147483647)], [(12, false)], [], [], [], [(0, (false, 18, 0, []), 0, 0, 0, [(4, 1)])], [(237, [(0, [(0, 1)]), (0, []), (0, []), (0, []), (0, []), (0, []), (0, []), (0, [])]), (224, [(0, [(4, 1)]), (0, [(5, 1)]), (1, []), (0, [(1, 1)])]), (90, [(0, [(4, 1)]), (0, [(2, 1)]), (0, [(5, 1)])]), (91, [(0, [(4, 1)]), (0, [(3, 1)]), (0, [(5, 1)])])]), [([((-2147483648), 2147483647), ((-2147483648), 2147483647), ((-2147483648), 2147483647), ((-2147483648), 2147483647), ((-2147483648), 2147483647), ((-2147483648), 2147483647)], [(12, false)], [], [], [], [], [(237, [(0, [(0, 1)]), (0, [(1, 1)]), (0, [(2, 1)]), (0, [(3, 1)]), (4, []), (0, []), (0, []), (0, [(0, 1)])])])])
theorem lk_1006 : l_core lm_1006 := by
  first
  | skip
    intro v x h
    have K := k_y0m (V := v) (H := x 0) (q := x 1) (b := x 2) (s := x 3) (l := x 4) (x := x 5) (l_c2 (fun w0 w1 : Int => q_rwo v w0 w1 w1 w1 w1 w1 w1 w1) (l_e1 x 0) (l_e0 x (0)) (h.2.2.2.1)) (l_c4 (fun w0 w1 w2 w3 : Int => w2 = 1 → q_leq v w0 w1 w3) (l_e1 x 4) (l_e1 x 5) (l_e0 x (1)) (l_e1 x 1) (h.2.2.2.2.1)) (l_c3 (fun w0 w1 w2 : Int => 0 ≤ w0 ∧ w0 ≠ w2 ∧ v 63 w0 = w1) (l_e1 x 4) (l_e1 x 2) (l_e1 x 5) (h.2.2.2.2.2.1)) (l_c3 (fun w0 w1 w2 : Int => 0 ≤ w0 ∧ w0 ≠ w2 ∧ v 64 w0 = w1) (l_e1 x 4) (l_e1 x 3) (l_e1 x 5) (h.2.2.2.2.2.2.1))
    refine l_outH rfl (And.intro h.1 ?_)
    exact l_o6 (fun w0 w1 w2 w3 w4 w5 : Int => (True) ∧ (q_rwo v w0 w1 w2 w3 w4 w5 w5 w0 ∧ True)) (l_e1 x 0) (l_e1 x 1) (l_e1 x 2) (l_e1 x 3) (l_e0 x (4)) (l_e0 x (0)) K
  | skip
    intro v x h
    have E0 : y_ev x (0, [(0, 1)]) = x 0 := (l_e1 _ _)
    have E1 : y_ev x (0, []) = 0 := (l_e0 _ _)
    have E2 : y_ev x (0, [(4, 1)]) = x 4 := (l_e1 _ _)
    have E3 : y_ev x (0, [(5, 1)]) = x 5 := (l_e1 _ _)
    have E4 : y_ev x (1, []) = 1 := (l_e0 _ _)
    have E5 : y_ev x (0, [(1, 1)]) = x 1 := (l_e1 _ _)
    have E6 : y_ev x (0, [(2, 1)]) = x 2 := (l_e1 _ _)
    have E7 : y_ev x (0, [(3, 1)]) = x 3 := (l_e1 _ _)
    have T0 : q_rwo v (y_ev x (0, [(0, 1)])) (y_ev x (0, [])) (y_ev x (0, [])) (y_ev x (0, [])) (y_ev x (0, [])) (y_ev x (0, [])) (y_ev x (0, [])) (y_ev x (0, [])) := h.2.2.2.1
    (try rw [E0] at T0); (try rw [E1] at T0)
    have T1 : (y_ev x (1, [])) = 1 → q_leq v (y_ev x (0, [(4, 1)])) (y_ev x (0, [(5, 1)])) (y_ev x (0, [(1, 1)])) := h.2.2.2.2.1
    (try rw [E2] at T1); (try rw [E3] at T1); (try rw [E4] at T1); (try rw [E5] at T1)
    have T2 : 0 ≤ (y_ev x (0, [(4, 1)])) ∧ (y_ev x (0, [(4, 1)])) ≠ (y_ev x (0, [(5, 1)])) ∧ v 63 (y_ev x (0, [(4, 1)])) = (y_ev x (0, [(2, 1)])) := h.2.2.2.2.2.1
    (try rw [E2] at T2); (try rw [E6] at T2); (try rw [E3] at T2)
    have T3 : 0 ≤ (y_ev x (0, [(4, 1)])) ∧ (y_ev x (0, [(4, 1)])) ≠ (y_ev x (0, [(5, 1)])) ∧ v 64 (y_ev x (0, [(4, 1)])) = (y_ev x (0, [(3, 1)])) := h.2.2.2.2.2.2.1
    (try rw [E2] at T3); (try rw [E7] at T3); (try rw [E3] at T3)
    have K := k_y0m (V := v) (H := x 0) (q := x 1) (b := x 2) (s := x 3) (l := x 4) (x := x 5) T0 T1 T2 T3
    refine l_outH rfl (And.intro h.1 ?_)
    have O0 : y_ev x (0, [(0, 1)]) = x 0 := l_e1 _ _
    have O1 : y_ev x (0, [(1, 1)]) = x 1 := l_e1 _ _
    have O2 : y_ev x (0, [(2, 1)]) = x 2 := l_e1 _ _
    have O3 : y_ev x (0, [(3, 1)]) = x 3 := l_e1 _ _
    have O4 : y_ev x (4, []) = 4 := l_e0 _ _
    have O5 : y_ev x (0, []) = 0 := l_e0 _ _
    show (True) ∧ (q_rwo v (y_ev x (0, [(0, 1)])) (y_ev x (0, [(1, 1)])) (y_ev x (0, [(2, 1)])) (y_ev x (0, [(3, 1)])) (y_ev x (4, [])) (y_ev x (0, [])) (y_ev x (0, [])) (y_ev x (0, [(0, 1)])) ∧ True)
    (try rw [O0]); (try rw [O1]); (try rw [O2]); (try rw [O3]); (try rw [O4]); (try rw [O5])
    exact K
def lm_1007 : zLem := (([((-2147483648), 2147483647), ((-2147483648), 2147483647), ((-2147483648), 2147483647), ((-2147483648), 2147483647), ((-2147483648), 2147483647), ((-2147483648), 2147483647), ((-2147483648), 2147483647)], [], [(0, [(0, 1), (3, (-1))]), (0, [(0, (-1)), (3, 1)]), (0, [(1, 1), (4, (-1))]), (0, [(1, (-1)), (4, 1)]), (0, [(3, 1), (4, (-1))])], [], [(0, 0, 0, [(0, 1)]), (0, 0, 0, [(1, 1)])], [], [(260, [(1, []), (0, []), (0, []), (0, []), (0, []), (0, []), (0, []), (0, []), (0, []), (0, [(6, 1)]), (0, [(3, 1)])]), (88, [(0, [(2, 1)]), (0, [(4, 1)]), (0, [(5, 1)])])]), [([((-2147483648), 2147483647), ((-2147483648), 2147483647), ((-2147483648), 2147483647), ((-2147483648), 2147483647), ((-2147483648), 2147483647), ((-2147483648), 2147483647), ((-2147483648), 2147483647)], [], [(0, [(0, 1), (1, (-1))])], [], [], [], [])])
theorem lk_1007 : l_core lm_1007 := by
  first
  | skip
    intro v x h
    have K := k_hokY (V := v) (u := x 0) (v := x 1) (l := x 2) (n := x 3) (w := x 4) (x := x 5) (p := x 6) (l_c4 (fun w0 w1 w2 w3 : Int => q_qry v w0 w1 w1 w1 w1 w1 w1 w1 w1 w2 w3) (l_e0 x (1)) (l_e0 x (0)) (l_e1 x 6) (l_e1 x 3) (h.2.2.2.1)) (l_c3 (fun w0 w1 w2 : Int => 0 ≤ w0 ∧ w0 ≠ w2 ∧ v 61 w0 = w1) (l_e1 x 2) (l_e1 x 4) (l_e1 x 5) (h.2.2.2.2.1)) (l_cc (l_q5 x 0 3) (h.2.1.1)) (l_cc (l_q4 x 0 3) (h.2.1.2.1)) (l_cc (l_q5 x 1 4) (h.2.1.2.2.1)) (l_cc (l_q4 x 1 4) (h.2.1.2.2.2.1)) (l_cc (l_q5 x 3 4) (h.2.1.2.2.2.2.1))
    refine l_outH rfl (And.intro h.1 ?_)
    exact l_o1 (fun w0 : Int => (0 ≤ w0 ∧ True) ∧ (True)) (l_q5 x 0 1) K
  | skip
    intro v x h
    have C0 : (0 : Int) ≤ x 0 - x 3 := l_cc (a := y_ev x (0, [(0, 1), (3, (-1))])) (by show ((0) : Int) + ((1) * x 0 + ((-1) * x 3 + 0)) = x 0 - x 3; omega) (h.2.1.1)
    have C1 : (0 : Int) ≤ x 3 - x 0 := l_cc (a := y_ev x (0, [(0, (-1)), (3, 1)])) (by show ((0) : Int) + ((-1) * x 0 + ((1) * x 3 + 0)) = x 3 - x 0; omega) (h.2.1.2.1)
    have C2 : (0 : Int) ≤ x 1 - x 4 := l_cc (a := y_ev x (0, [(1, 1), (4, (-1))])) (by show ((0) : Int) + ((1) * x 1 + ((-1) * x 4 + 0)) = x 1 - x 4; omega) (h.2.1.2.2.1)
    have C3 : (0 : Int) ≤ x 4 - x 1 := l_cc (a := y_ev x (0, [(1, (-1)), (4, 1)])) (by show ((0) : Int) + ((-1) * x 1 + ((1) * x 4 + 0)) = x 4 - x 1; omega) (h.2.1.2.2.2.1)
    have C4 : (0 : Int) ≤ x 3 - x 4 := l_cc (a := y_ev x (0, [(3, 1), (4, (-1))])) (by show ((0) : Int) + ((1) * x 3 + ((-1) * x 4 + 0)) = x 3 - x 4; omega) (h.2.1.2.2.2.2.1)
    have E0 : y_ev x (1, []) = 1 := (l_e0 _ _)
    have E1 : y_ev x (0, []) = 0 := (l_e0 _ _)
    have E2 : y_ev x (0, [(6, 1)]) = x 6 := (l_e1 _ _)
    have E3 : y_ev x (0, [(3, 1)]) = x 3 := (l_e1 _ _)
    have E4 : y_ev x (0, [(2, 1)]) = x 2 := (l_e1 _ _)
    have E5 : y_ev x (0, [(4, 1)]) = x 4 := (l_e1 _ _)
    have E6 : y_ev x (0, [(5, 1)]) = x 5 := (l_e1 _ _)
    have T0 : q_qry v (y_ev x (1, [])) (y_ev x (0, [])) (y_ev x (0, [])) (y_ev x (0, [])) (y_ev x (0, [])) (y_ev x (0, [])) (y_ev x (0, [])) (y_ev x (0, [])) (y_ev x (0, [])) (y_ev x (0, [(6, 1)])) (y_ev x (0, [(3, 1)])) := h.2.2.2.1
    (try rw [E0] at T0); (try rw [E1] at T0); (try rw [E2] at T0); (try rw [E3] at T0)
    have T1 : 0 ≤ (y_ev x (0, [(2, 1)])) ∧ (y_ev x (0, [(2, 1)])) ≠ (y_ev x (0, [(5, 1)])) ∧ v 61 (y_ev x (0, [(2, 1)])) = (y_ev x (0, [(4, 1)])) := h.2.2.2.2.1
    (try rw [E4] at T1); (try rw [E5] at T1); (try rw [E6] at T1)
    have K := k_hokY (V := v) (u := x 0) (v := x 1) (l := x 2) (n := x 3) (w := x 4) (x := x 5) (p := x 6) T0 T1 C0 C1 C2 C3 C4
    refine l_outH rfl (And.intro h.1 ?_)
    have O0 : y_ev x (0, [(0, 1), (1, (-1))]) = x 0 - x 1 := by show ((0) : Int) + ((1) * x 0 + ((-1) * x 1 + 0)) = _; omega
    show (0 ≤ y_ev x (0, [(0, 1), (1, (-1))]) ∧ True) ∧ (True)
    (try rw [O0])
    exact K
def lm_1008 : zLem := (([((-2147483648), 2147483647), ((-2147483648), 2147483647), ((-2147483648), 2147483647), ((-2147483648), 2147483647), ((-2147483648), 2147483647), ((-2147483648), 2147483647), ((-2147483648), 2147483647)], [], [(0, [(0, 1), (3, (-1))]), (0, [(0, (-1)), (3, 1)]), (0, [(1, 1), (4, (-1))]), (0, [(1, (-1)), (4, 1)]), ((-1), [(3, (-1)), (4, 1)])], [], [(0, 0, 0, [(0, 1)]), (0, 0, 0, [(1, 1)])], [], [(260, [(1, []), (0, []), (0, []), (0, []), (0, []), (0, []), (0, []), (0, []), (0, []), (0, [(6, 1)]), (0, [(3, 1)])]), (88, [(0, [(2, 1)]), (0, [(4, 1)]), (0, [(5, 1)])])]), [([((-2147483648), 2147483647), ((-2147483648), 2147483647), ((-2147483648), 2147483647), ((-2147483648), 2147483647), ((-2147483648), 2147483647), ((-2147483648), 2147483647), ((-2147483648), 2147483647)], [], [((-1), [(0, (-1)), (1, 1)])], [], [], [], [])])
theorem lk_1008 : l_core lm_1008 := by
  first
  | skip
    intro v x h
    have K := k_hokN (V := v) (u := x 0) (v := x 1) (l := x 2) (n := x 3) (w := x 4) (x := x 5) (p := x 6) (l_c4 (fun w0 w1 w2 w3 : Int => q_qry v w0 w1 w1 w1 w1 w1 w1 w1 w1 w2 w3) (l_e0 x (1)) (l_e0 x (0)) (l_e1 x 6) (l_e1 x 3) (h.2.2.2.1)) (l_c3 (fun w0 w1 w2 : Int => 0 ≤ w0 ∧ w0 ≠ w2 ∧ v 61 w0 = w1) (l_e1 x 2) (l_e1 x 4) (l_e1 x 5) (h.2.2.2.2.1)) (l_cc (l_q5 x 0 3) (h.2.1.1)) (l_cc (l_q4 x 0 3) (h.2.1.2.1)) (l_cc (l_q5 x 1 4) (h.2.1.2.2.1)) (l_cc (l_q4 x 1 4) (h.2.1.2.2.2.1)) (l_cc (l_q6 1 x 3 4) (h.2.1.2.2.2.2.1))
    refine l_outH rfl (And.intro h.1 ?_)
    exact l_o1 (fun w0 : Int => (0 ≤ w0 ∧ True) ∧ (True)) (l_q6 1 x 0 1) K
  | skip
    intro v x h
    have C0 : (0 : Int) ≤ x 0 - x 3 := l_cc (a := y_ev x (0, [(0, 1), (3, (-1))])) (by show ((0) : Int) + ((1) * x 0 + ((-1) * x 3 + 0)) = x 0 - x 3; omega) (h.2.1.1)
    have C1 : (0 : Int) ≤ x 3 - x 0 := l_cc (a := y_ev x (0, [(0, (-1)), (3, 1)])) (by show ((0) : Int) + ((-1) * x 0 + ((1) * x 3 + 0)) = x 3 - x 0; omega) (h.2.1.2.1)
    have C2 : (0 : Int) ≤ x 1 - x 4 := l_cc (a := y_ev x (0, [(1, 1), (4, (-1))])) (by show ((0) : Int) + ((1) * x 1 + ((-1) * x 4 + 0)) = x 1 - x 4; omega) (h.2.1.2.2.1)
    have C3 : (0 : Int) ≤ x 4 - x 1 := l_cc (a := y_ev x (0, [(1, (-1)), (4, 1)])) (by show ((0) : Int) + ((-1) * x 1 + ((1) * x 4 + 0)) = x 4 - x 1; omega) (h.2.1.2.2.2.1)
    have C4 : (0 : Int) ≤ x 4 - x 3 - 1 := l_cc (a := y_ev x ((-1), [(3, (-1)), (4, 1)])) (by show ((-1) : Int) + ((-1) * x 3 + ((1) * x 4 + 0)) = x 4 - x 3 - 1; omega) (h.2.1.2.2.2.2.1)
    have E0 : y_ev x (1, []) = 1 := (l_e0 _ _)
    have E1 : y_ev x (0, []) = 0 := (l_e0 _ _)
    have E2 : y_ev x (0, [(6, 1)]) = x 6 := (l_e1 _ _)
    have E3 : y_ev x (0, [(3, 1)]) = x 3 := (l_e1 _ _)
    have E4 : y_ev x (0, [(2, 1)]) = x 2 := (l_e1 _ _)
    have E5 : y_ev x (0, [(4, 1)]) = x 4 := (l_e1 _ _)
    have E6 : y_ev x (0, [(5, 1)]) = x 5 := (l_e1 _ _)
    have T0 : q_qry v (y_ev x (1, [])) (y_ev x (0, [])) (y_ev x (0, [])) (y_ev x (0, [])) (y_ev x (0, [])) (y_ev x (0, [])) (y_ev x (0, [])) (y_ev x (0, [])) (y_ev x (0, [])) (y_ev x (0, [(6, 1)])) (y_ev x (0, [(3, 1)])) := h.2.2.2.1
    (try rw [E0] at T0); (try rw [E1] at T0); (try rw [E2] at T0); (try rw [E3] at T0)
    have T1 : 0 ≤ (y_ev x (0, [(2, 1)])) ∧ (y_ev x (0, [(2, 1)])) ≠ (y_ev x (0, [(5, 1)])) ∧ v 61 (y_ev x (0, [(2, 1)])) = (y_ev x (0, [(4, 1)])) := h.2.2.2.2.1
    (try rw [E4] at T1); (try rw [E5] at T1); (try rw [E6] at T1)
    have K := k_hokN (V := v) (u := x 0) (v := x 1) (l := x 2) (n := x 3) (w := x 4) (x := x 5) (p := x 6) T0 T1 C0 C1 C2 C3 C4
    refine l_outH rfl (And.intro h.1 ?_)
    have O0 : y_ev x ((-1), [(0, (-1)), (1, 1)]) = x 1 - x 0 - 1 := by show ((-1) : Int) + ((-1) * x 0 + ((1) * x 1 + 0)) = _; omega
    show (0 ≤ y_ev x ((-1), [(0, (-1)), (1, 1)]) ∧ True) ∧ (True)
    (try rw [O0])
    exact K
def lm_1009 : zLem := (([((-2147483648), 2147483647)], [], [(0, [(0, (-1))]), (0, [(0, 1)])], [], [(0, 0, 0, [(0, 1)])], [], []), [([((-2147483648), 2147483647)], [], [], [], [], [], [(270, [(0, [(0, 1)])])])])
theorem lk_1009 : l_core lm_1009 := by
  first
  | skip
    intro v x h
    have K := k_flg0 (V := v) (i := x 0) (l_cc (l_q7 x 0) (h.2.1.1)) (l_cc (l_e1 x 0) (h.2.1.2.1))
    refine l_outH rfl (And.intro h.1 ?_)
    exact l_o1 (fun w0 : Int => (True) ∧ ((∀ t : Int, 0 ≤ t → t < w0 → v 28 t = 0) ∧ True)) (l_e1 x 0) K
  | skip
    intro v x h
    have C0 : (0 : Int) ≤ -x 0 := l_cc (a := y_ev x (0, [(0, (-1))])) (by show ((0) : Int) + ((-1) * x 0 + 0) = -x 0; omega) (h.2.1.1)
    have C1 : (0 : Int) ≤ x 0 := l_cc (a := y_ev x (0, [(0, 1)])) (l_e1 _ _) (h.2.1.2.1)
    have K := k_flg0 (V := v) (i := x 0) C0 C1
    refine l_outH rfl (And.intro h.1 ?_)
    have O0 : y_ev x (0, [(0, 1)]) = x 0 := l_e1 _ _
    show (True) ∧ ((∀ t : Int, 0 ≤ t → t < (y_ev x (0, [(0, 1)])) → v 28 t = 0) ∧ True)
    (try rw [O0])
    exact K
def lm_1010 : zLem := (([((-2147483648), 2147483647)], [(28, false)], [(0, [(0, 1)])], [], [(0, 0, 0, [(0, 1)])], [(0, (true, 0, 0, [(0, 1)]), 0, 0, 0, [])], [(270, [(0, [(0, 1)])])]), [([((-2147483648), 2147483647)], [(28, false)], [], [], [], [], [(270, [(1, [(0, 1)])])])])
theorem lk_1010 : l_core lm_1010 := by
  first
  | skip
    intro v x h
    have G0 := h.2.2.1
    have K := k_flgS (V := v) (i := x 0) (l_c1 (fun w0 : Int => ∀ t : Int, 0 ≤ t → t < w0 → v 28 t = 0) (l_e1 x 0) (h.2.2.2.1)) (l_cc (l_e1 x 0) (h.2.1.1)) (l_ff (f := v 28) (L := j_len 28) (l_e1 x 0) (l_e0 x (0)) (G0.1.1))
    refine l_outH rfl (And.intro h.1 ?_)
    exact l_o1 (fun w0 : Int => (True) ∧ ((∀ t : Int, 0 ≤ t → t < w0 → v 28 t = 0) ∧ True)) (l_q3 1 x 0) K
  | skip
    intro v x h
    have G0 := h.2.2.1
    have C0 : (0 : Int) ≤ x 0 := l_cc (a := y_ev x (0, [(0, 1)])) (l_e1 _ _) (h.2.1.1)
    have F0 : (0 : Int) ≤ x 0 ∧ (x 0 : Int) < j_len 28 ∧ v 28 (x 0) = 0 := l_ff (f := v 28) (L := j_len 28) (a := y_ev x (0, [(0, 1)])) (b := y_ev x (0, [])) (l_e1 _ _) (l_e0 _ _) (G0.1.1)
    have E0 : y_ev x (0, [(0, 1)]) = x 0 := (l_e1 _ _)
    have T0 : ∀ t : Int, 0 ≤ t → t < (y_ev x (0, [(0, 1)])) → v 28 t = 0 := h.2.2.2.1
    (try rw [E0] at T0)
    have K := k_flgS (V := v) (i := x 0) T0 C0 F0
    refine l_outH rfl (And.intro h.1 ?_)
    have O0 : y_ev x (1, [(0, 1)]) = x 0 + 1 := by show ((1) : Int) + ((1) * x 0 + 0) = _; omega
    show (True) ∧ ((∀ t : Int, 0 ≤ t → t < (y_ev x (1, [(0, 1)])) → v 28 t = 0) ∧ True)
    (try rw [O0])
    exact K
def lm_1011pf_0 (t : List zFa) : List zFa := (0, (true, 0, 0, []), 0, 0, 0, [(0, 1)]) :: (0, (true, 0, 1, []), 0, 0, 0, [(1, 1)]) :: (0, (true, 0, 2, []), 0, 0, 0, [(2, 1)]) :: (0, (true, 0, 3, []), 0, 0, 0, [(3, 1)]) :: (0, (true, 0, 4, []), 0, 0, 0, [(4, 1)]) :: (0, (true, 0, 5, []), 0, 0, 0, [(5, 1)]) :: (1, (true, 0, 0, []), 0, 0, 0, [(0, 1)]) :: (1, (true, 0, 1, []), 0, 0, 0, [(1, 1)]) :: t
def lm_1011pf_1 (t : List zFa) : List zFa := (1, (true, 0, 2, []), 0, 0, 0, [(2, 1)]) :: (1, (true, 0, 3, []), 0, 0, 0, [(3, 1)]) :: (1, (true, 0, 4, []), 0, 0, 0, [(4, 1)]) :: (1, (true, 0, 5, []), 0, 0, 0, [(5, 1)]) :: t
def lm_1011p : zS := ([((-2147483648), 2147483647), ((-2147483648), 2147483647), ((-2147483648), 2147483647), ((-2147483648), 2147483647), ((-2147483648), 2147483647), ((-2147483648), 2147483647)], [(27, false), (99, false)], [], [], [], (lm_1011pf_0 (lm_1011pf_1 [])), [(270, [(6, [])])])
def lm_1011 : zLem := (lm_1011p, [([((-2147483648), 2147483647), ((-2147483648), 2147483647), ((-2147483648), 2147483647), ((-2147483648), 2147483647), ((-2147483648), 2147483647), ((-2147483648), 2147483647)], [(27, false), (99, false)], [], [], [], [], [(271, [])])])
theorem lk_1011 : l_core lm_1011 := by
  first
  | skip
    intro v x h
    have G0 := h.2.2.1
    have G1 := G0.2
    have G2 := G1.2
    have G3 := G2.2
    have G4 := G3.2
    have G5 := G4.2
    have G6 := G5.2
    have G7 := G6.2
    have G8 := G7.2
    have G9 := G8.2
    have G10 := G9.2
    have G11 := G10.2
    have K := k_bgs (V := v) (h0 := x 0) (h1 := x 1) (h2 := x 2) (h3 := x 3) (h4 := x 4) (h5 := x 5) (l_c1 (fun w0 : Int => ∀ t : Int, 0 ≤ t → t < w0 → v 28 t = 0) (l_e0 x (6)) (h.2.2.2.1)) (l_ff (f := v 27) (L := j_len 27) (l_e0 x (0)) (l_e1 x 0) (G0.1.1)) (l_ff (f := v 27) (L := j_len 27) (l_e0 x (1)) (l_e1 x 1) (G1.1.1)) (l_ff (f := v 27) (L := j_len 27) (l_e0 x (2)) (l_e1 x 2) (G2.1.1)) (l_ff (f := v 27) (L := j_len 27) (l_e0 x (3)) (l_e1 x 3) (G3.1.1)) (l_ff (f := v 27) (L := j_len 27) (l_e0 x (4)) (l_e1 x 4) (G4.1.1)) (l_ff (f := v 27) (L := j_len 27) (l_e0 x (5)) (l_e1 x 5) (G5.1.1)) (l_ff (f := v 99) (L := j_len 99) (l_e0 x (0)) (l_e1 x 0) (G6.1.1)) (l_ff (f := v 99) (L := j_len 99) (l_e0 x (1)) (l_e1 x 1) (G7.1.1)) (l_ff (f := v 99) (L := j_len 99) (l_e0 x (2)) (l_e1 x 2) (G8.1.1)) (l_ff (f := v 99) (L := j_len 99) (l_e0 x (3)) (l_e1 x 3) (G9.1.1)) (l_ff (f := v 99) (L := j_len 99) (l_e0 x (4)) (l_e1 x 4) (G10.1.1)) (l_ff (f := v 99) (L := j_len 99) (l_e0 x (5)) (l_e1 x 5) (G11.1.1))
    refine l_outH rfl (And.intro h.1 ?_)
    show (True) ∧ ((∀ i : Int, 0 ≤ i → i < 6 → v 27 i = v 99 i ∧ v 28 i = 0) ∧ True)
    exact K
  | skip
    intro v x h
    have G0 := h.2.2.1
    have G1 := G0.2
    have G2 := G1.2
    have G3 := G2.2
    have G4 := G3.2
    have G5 := G4.2
    have G6 := G5.2
    have G7 := G6.2
    have G8 := G7.2
    have G9 := G8.2
    have G10 := G9.2
    have G11 := G10.2
    have F0 : (0 : Int) ≤ 0 ∧ (0 : Int) < j_len 27 ∧ v 27 (0) = x 0 := l_ff (f := v 27) (L := j_len 27) (a := y_ev x (0, [])) (b := y_ev x (0, [(0, 1)])) (l_e0 _ _) (l_e1 _ _) (G0.1.1)
    have F1 : (0 : Int) ≤ 1 ∧ (1 : Int) < j_len 27 ∧ v 27 (1) = x 1 := l_ff (f := v 27) (L := j_len 27) (a := y_ev x (1, [])) (b := y_ev x (0, [(1, 1)])) (l_e0 _ _) (l_e1 _ _) (G1.1.1)
    have F2 : (0 : Int) ≤ 2 ∧ (2 : Int) < j_len 27 ∧ v 27 (2) = x 2 := l_ff (f := v 27) (L := j_len 27) (a := y_ev x (2, [])) (b := y_ev x (0, [(2, 1)])) (l_e0 _ _) (l_e1 _ _) (G2.1.1)
    have F3 : (0 : Int) ≤ 3 ∧ (3 : Int) < j_len 27 ∧ v 27 (3) = x 3 := l_ff (f := v 27) (L := j_len 27) (a := y_ev x (3, [])) (b := y_ev x (0, [(3, 1)])) (l_e0 _ _) (l_e1 _ _) (G3.1.1)
    have F4 : (0 : Int) ≤ 4 ∧ (4 : Int) < j_len 27 ∧ v 27 (4) = x 4 := l_ff (f := v 27) (L := j_len 27) (a := y_ev x (4, [])) (b := y_ev x (0, [(4, 1)])) (l_e0 _ _) (l_e1 _ _) (G4.1.1)
    have F5 : (0 : Int) ≤ 5 ∧ (5 : Int) < j_len 27 ∧ v 27 (5) = x 5 := l_ff (f := v 27) (L := j_len 27) (a := y_ev x (5, [])) (b := y_ev x (0, [(5, 1)])) (l_e0 _ _) (l_e1 _ _) (G5.1.1)
    have F6 : (0 : Int) ≤ 0 ∧ (0 : Int) < j_len 99 ∧ v 99 (0) = x 0 := l_ff (f := v 99) (L := j_len 99) (a := y_ev x (0, [])) (b := y_ev x (0, [(0, 1)])) (l_e0 _ _) (l_e1 _ _) (G6.1.1)
    have F7 : (0 : Int) ≤ 1 ∧ (1 : Int) < j_len 99 ∧ v 99 (1) = x 1 := l_ff (f := v 99) (L := j_len 99) (a := y_ev x (1, [])) (b := y_ev x (0, [(1, 1)])) (l_e0 _ _) (l_e1 _ _) (G7.1.1)
    have F8 : (0 : Int) ≤ 2 ∧ (2 : Int) < j_len 99 ∧ v 99 (2) = x 2 := l_ff (f := v 99) (L := j_len 99) (a := y_ev x (2, [])) (b := y_ev x (0, [(2, 1)])) (l_e0 _ _) (l_e1 _ _) (G8.1.1)
    have F9 : (0 : Int) ≤ 3 ∧ (3 : Int) < j_len 99 ∧ v 99 (3) = x 3 := l_ff (f := v 99) (L := j_len 99) (a := y_ev x (3, [])) (b := y_ev x (0, [(3, 1)])) (l_e0 _ _) (l_e1 _ _) (G9.1.1)
    have F10 : (0 : Int) ≤ 4 ∧ (4 : Int) < j_len 99 ∧ v 99 (4) = x 4 := l_ff (f := v 99) (L := j_len 99) (a := y_ev x (4, [])) (b := y_ev x (0, [(4, 1)])) (l_e0 _ _) (l_e1 _ _) (G10.1.1)
    have F11 : (0 : Int) ≤ 5 ∧ (5 : Int) < j_len 99 ∧ v 99 (5) = x 5 := l_ff (f := v 99) (L := j_len 99) (a := y_ev x (5, [])) (b := y_ev x (0, [(5, 1)])) (l_e0 _ _) (l_e1 _ _) (G11.1.1)
    have E0 : y_ev x (6, []) = 6 := (l_e0 _ _)
    have T0 : ∀ t : Int, 0 ≤ t → t < (y_ev x (6, [])) → v 28 t = 0 := h.2.2.2.1
    (try rw [E0] at T0)
    have K := k_bgs (V := v) (h0 := x 0) (h1 := x 1) (h2 := x 2) (h3 := x 3) (h4 := x 4) (h5 := x 5) T0 F0 F1 F2 F3 F4 F5 F6 F7 F8 F9 F10 F11
    refine l_outH rfl (And.intro h.1 ?_)
    show (True) ∧ ((∀ i : Int, 0 ≤ i → i < 6 → v 27 i = v 99 i ∧ v 28 i = 0) ∧ True)
    exact K
def lm_1012pf_0 (t : List zFa) : List zFa := (0, (false, 18, 0, []), 0, 0, 0, [(0, 1)]) :: (1, (true, 0, 0, []), 0, 0, 0, []) :: (1, (true, 0, 1, []), 0, 0, 0, []) :: (1, (true, 0, 2, []), 0, 0, 0, []) :: (1, (true, 0, 3, []), 0, 0, 0, []) :: (1, (true, 0, 4, []), 0, 0, 0, []) :: (1, (true, 0, 5, []), 0, 0, 0, []) :: (1, (true, 0, 6, []), 0, 0, 0, []) :: t
def lm_1012pf_1 (t : List zFa) : List zFa := (1, (true, 0, 7, []), 0, 0, 0, []) :: (1, (true, 0, 8, []), 0, 0, 0, []) :: (1, (true, 0, 9, []), 0, 0, 0, []) :: (1, (true, 0, 10, []), 0, 0, 0, []) :: (1, (true, 0, 11, []), 0, 0, 0, []) :: (1, (true, 0, 12, []), 0, 0, 0, []) :: (1, (true, 0, 13, []), 0, 0, 0, []) :: (1, (true, 0, 14, []), 0, 0, 0, []) :: t
def lm_1012pf_2 (t : List zFa) : List zFa := (1, (true, 0, 15, []), 0, 0, 0, []) :: (1, (true, 0, 16, []), 0, 0, 0, []) :: (1, (true, 0, 17, []), 0, 0, 0, []) :: (1, (true, 0, 18, []), 0, 0, 0, []) :: (1, (true, 0, 19, []), 0, 0, 0, []) :: (1, (true, 0, 20, []), 0, 0, 0, []) :: (1, (true, 0, 21, []), 0, 0, 0, []) :: (1, (true, 0, 22, []), 0, 0, 0, []) :: t
def lm_1012pf_3 (t : List zFa) : List zFa := (1, (true, 0, 23, []), 0, 0, 0, []) :: (1, (true, 0, 24, []), 0, 0, 0, []) :: (1, (true, 0, 25, []), 0, 0, 0, []) :: (1, (true, 0, 26, []), 0, 0, 0, []) :: (1, (true, 0, 27, []), 0, 0, 0, []) :: (1, (true, 0, 28, []), 0, 0, 0, []) :: (1, (true, 0, 29, []), 0, 0, 0, []) :: (1, (true, 0, 30, []), 0, 0, 0, []) :: t
def lm_1012pf_4 (t : List zFa) : List zFa := (1, (true, 0, 31, []), 0, 0, 0, []) :: (1, (true, 0, 32, []), 0, 0, 0, []) :: t
def lm_1012p : zS := ([((-2147483648), 2147483647)], [(12, false), (78, false)], [(0, [(0, 1)]), (1, [(0, (-1))])], [], [], (lm_1012pf_0 (lm_1012pf_1 (lm_1012pf_2 (lm_1012pf_3 (lm_1012pf_4 []))))), [])
def lm_1012 : zLem := (lm_1012p, [([((-2147483648), 2147483647)], [(12, false), (78, false)], [], [], [], [], [(273, [(0, [(0, 1)]), (0, [])])])])
theorem lk_1012 : l_core lm_1012 := by
  first
  | skip
    intro v x h
    have G0 := h.2.2.1
    have G1 := G0.2
    have G2 := G1.2
    have G3 := G2.2
    have G4 := G3.2
    have G5 := G4.2
    have G6 := G5.2
    have G7 := G6.2
    have G8 := G7.2
    have G9 := G8.2
    have G10 := G9.2
    have G11 := G10.2
    have G12 := G11.2
    have G13 := G12.2
    have G14 := G13.2
    have G15 := G14.2
    have G16 := G15.2
    have G17 := G16.2
    have G18 := G17.2
    have G19 := G18.2
    have G20 := G19.2
    have G21 := G20.2
    have G22 := G21.2
    have G23 := G22.2
    have G24 := G23.2
    have G25 := G24.2
    have G26 := G25.2
    have G27 := G26.2
    have G28 := G27.2
    have G29 := G28.2
    have G30 := G29.2
    have G31 := G30.2
    have G32 := G31.2
    have G33 := G32.2
    have K := k_bgm0 (V := v) (l := x 0) (l_cc (l_e1 x 0) (h.2.1.1)) (l_cc (l_q1 1 x 0) (h.2.1.2.1)) (l_ff (f := v 78) (L := j_len 78) (l_e0 x (0)) (l_e0 x (0)) (G1.1.1)) (l_ff (f := v 78) (L := j_len 78) (l_e0 x (1)) (l_e0 x (0)) (G2.1.1)) (l_ff (f := v 78) (L := j_len 78) (l_e0 x (2)) (l_e0 x (0)) (G3.1.1)) (l_ff (f := v 78) (L := j_len 78) (l_e0 x (3)) (l_e0 x (0)) (G4.1.1)) (l_ff (f := v 78) (L := j_len 78) (l_e0 x (4)) (l_e0 x (0)) (G5.1.1)) (l_ff (f := v 78) (L := j_len 78) (l_e0 x (5)) (l_e0 x (0)) (G6.1.1)) (l_ff (f := v 78) (L := j_len 78) (l_e0 x (6)) (l_e0 x (0)) (G7.1.1)) (l_ff (f := v 78) (L := j_len 78) (l_e0 x (7)) (l_e0 x (0)) (G8.1.1)) (l_ff (f := v 78) (L := j_len 78) (l_e0 x (8)) (l_e0 x (0)) (G9.1.1)) (l_ff (f := v 78) (L := j_len 78) (l_e0 x (9)) (l_e0 x (0)) (G10.1.1)) (l_ff (f := v 78) (L := j_len 78) (l_e0 x (10)) (l_e0 x (0)) (G11.1.1)) (l_ff (f := v 78) (L := j_len 78) (l_e0 x (11)) (l_e0 x (0)) (G12.1.1)) (l_ff (f := v 78) (L := j_len 78) (l_e0 x (12)) (l_e0 x (0)) (G13.1.1)) (l_ff (f := v 78) (L := j_len 78) (l_e0 x (13)) (l_e0 x (0)) (G14.1.1)) (l_ff (f := v 78) (L := j_len 78) (l_e0 x (14)) (l_e0 x (0)) (G15.1.1)) (l_ff (f := v 78) (L := j_len 78) (l_e0 x (15)) (l_e0 x (0)) (G16.1.1)) (l_ff (f := v 78) (L := j_len 78) (l_e0 x (16)) (l_e0 x (0)) (G17.1.1)) (l_ff (f := v 78) (L := j_len 78) (l_e0 x (17)) (l_e0 x (0)) (G18.1.1)) (l_ff (f := v 78) (L := j_len 78) (l_e0 x (18)) (l_e0 x (0)) (G19.1.1)) (l_ff (f := v 78) (L := j_len 78) (l_e0 x (19)) (l_e0 x (0)) (G20.1.1)) (l_ff (f := v 78) (L := j_len 78) (l_e0 x (20)) (l_e0 x (0)) (G21.1.1)) (l_ff (f := v 78) (L := j_len 78) (l_e0 x (21)) (l_e0 x (0)) (G22.1.1)) (l_ff (f := v 78) (L := j_len 78) (l_e0 x (22)) (l_e0 x (0)) (G23.1.1)) (l_ff (f := v 78) (L := j_len 78) (l_e0 x (23)) (l_e0 x (0)) (G24.1.1)) (l_ff (f := v 78) (L := j_len 78) (l_e0 x (24)) (l_e0 x (0)) (G25.1.1)) (l_ff (f := v 78) (L := j_len 78) (l_e0 x (25)) (l_e0 x (0)) (G26.1.1)) (l_ff (f := v 78) (L := j_len 78) (l_e0 x (26)) (l_e0 x (0)) (G27.1.1)) (l_ff (f := v 78) (L := j_len 78) (l_e0 x (27)) (l_e0 x (0)) (G28.1.1)) (l_ff (f := v 78) (L := j_len 78) (l_e0 x (28)) (l_e0 x (0)) (G29.1.1)) (l_ff (f := v 78) (L := j_len 78) (l_e0 x (29)) (l_e0 x (0)) (G30.1.1)) (l_ff (f := v 78) (L := j_len 78) (l_e0 x (30)) (l_e0 x (0)) (G31.1.1)) (l_ff (f := v 78) (L := j_len 78) (l_e0 x (31)) (l_e0 x (0)) (G32.1.1)) (l_ff (f := v 78) (L := j_len 78) (l_e0 x (32)) (l_e0 x (0)) (G33.1.1))
    refine l_outH rfl (And.intro h.1 ?_)
    exact l_o2 (fun w0 w1 : Int => (True) ∧ (q_bgm v false w0 w1 ∧ True)) (l_e1 x 0) (l_e0 x (0)) K
  | skip
    intro v x h
    have G0 := h.2.2.1
    have G1 := G0.2
    have G2 := G1.2
    have G3 := G2.2
    have G4 := G3.2
    have G5 := G4.2
    have G6 := G5.2
    have G7 := G6.2
    have G8 := G7.2
    have G9 := G8.2
    have G10 := G9.2
    have G11 := G10.2
    have G12 := G11.2
    have G13 := G12.2
    have G14 := G13.2
    have G15 := G14.2
    have G16 := G15.2
    have G17 := G16.2
    have G18 := G17.2
    have G19 := G18.2
    have G20 := G19.2
    have G21 := G20.2
    have G22 := G21.2
    have G23 := G22.2
    have G24 := G23.2
    have G25 := G24.2
    have G26 := G25.2
    have G27 := G26.2
    have G28 := G27.2
    have G29 := G28.2
    have G30 := G29.2
    have G31 := G30.2
    have G32 := G31.2
    have G33 := G32.2
    have C0 : (0 : Int) ≤ x 0 := l_cc (a := y_ev x (0, [(0, 1)])) (l_e1 _ _) (h.2.1.1)
    have C1 : (0 : Int) ≤ 1 - x 0 := l_cc (a := y_ev x (1, [(0, (-1))])) (by show ((1) : Int) + ((-1) * x 0 + 0) = 1 - x 0; omega) (h.2.1.2.1)
    have F0 : (0 : Int) ≤ 0 ∧ (0 : Int) < j_len 78 ∧ v 78 (0) = 0 := l_ff (f := v 78) (L := j_len 78) (a := y_ev x (0, [])) (b := y_ev x (0, [])) (l_e0 _ _) (l_e0 _ _) (G1.1.1)
    have F1 : (0 : Int) ≤ 1 ∧ (1 : Int) < j_len 78 ∧ v 78 (1) = 0 := l_ff (f := v 78) (L := j_len 78) (a := y_ev x (1, [])) (b := y_ev x (0, [])) (l_e0 _ _) (l_e0 _ _) (G2.1.1)
    have F2 : (0 : Int) ≤ 2 ∧ (2 : Int) < j_len 78 ∧ v 78 (2) = 0 := l_ff (f := v 78) (L := j_len 78) (a := y_ev x (2, [])) (b := y_ev x (0, [])) (l_e0 _ _) (l_e0 _ _) (G3.1.1)
    have F3 : (0 : Int) ≤ 3 ∧ (3 : Int) < j_len 78 ∧ v 78 (3) = 0 := l_ff (f := v 78) (L := j_len 78) (a := y_ev x (3, [])) (b := y_ev x (0, [])) (l_e0 _ _) (l_e0 _ _) (G4.1.1)
    have F4 : (0 : Int) ≤ 4 ∧ (4 : Int) < j_len 78 ∧ v 78 (4) = 0 := l_ff (f := v 78) (L := j_len 78) (a := y_ev x (4, [])) (b := y_ev x (0, [])) (l_e0 _ _) (l_e0 _ _) (G5.1.1)
    have F5 : (0 : Int) ≤ 5 ∧ (5 : Int) < j_len 78 ∧ v 78 (5) = 0 := l_ff (f := v 78) (L := j_len 78) (a := y_ev x (5, [])) (b := y_ev x (0, [])) (l_e0 _ _) (l_e0 _ _) (G6.1.1)
    have F6 : (0 : Int) ≤ 6 ∧ (6 : Int) < j_len 78 ∧ v 78 (6) = 0 := l_ff (f := v 78) (L := j_len 78) (a := y_ev x (6, [])) (b := y_ev x (0, [])) (l_e0 _ _) (l_e0 _ _) (G7.1.1)
    have F7 : (0 : Int) ≤ 7 ∧ (7 : Int) < j_len 78 ∧ v 78 (7) = 0 := l_ff (f := v 78) (L := j_len 78) (a := y_ev x (7, [])) (b := y_ev x (0, [])) (l_e0 _ _) (l_e0 _ _) (G8.1.1)
    have F8 : (0 : Int) ≤ 8 ∧ (8 : Int) < j_len 78 ∧ v 78 (8) = 0 := l_ff (f := v 78) (L := j_len 78) (a := y_ev x (8, [])) (b := y_ev x (0, [])) (l_e0 _ _) (l_e0 _ _) (G9.1.1)
    have F9 : (0 : Int) ≤ 9 ∧ (9 : Int) < j_len 78 ∧ v 78 (9) = 0 := l_ff (f := v 78) (L := j_len 78) (a := y_ev x (9, [])) (b := y_ev x (0, [])) (l_e0 _ _) (l_e0 _ _) (G10.1.1)
    have F10 : (0 : Int) ≤ 10 ∧ (10 : Int) < j_len 78 ∧ v 78 (10) = 0 := l_ff (f := v 78) (L := j_len 78) (a := y_ev x (10, [])) (b := y_ev x (0, [])) (l_e0 _ _) (l_e0 _ _) (G11.1.1)
    have F11 : (0 : Int) ≤ 11 ∧ (11 : Int) < j_len 78 ∧ v 78 (11) = 0 := l_ff (f := v 78) (L := j_len 78) (a := y_ev x (11, [])) (b := y_ev x (0, [])) (l_e0 _ _) (l_e0 _ _) (G12.1.1)
    have F12 : (0 : Int) ≤ 12 ∧ (12 : Int) < j_len 78 ∧ v 78 (12) = 0 := l_ff (f := v 78) (L := j_len 78) (a := y_ev x (12, [])) (b := y_ev x (0, [])) (l_e0 _ _) (l_e0 _ _) (G13.1.1)
    have F13 : (0 : Int) ≤ 13 ∧ (13 : Int) < j_len 78 ∧ v 78 (13) = 0 := l_ff (f := v 78) (L := j_len 78) (a := y_ev x (13, [])) (b := y_ev x (0, [])) (l_e0 _ _) (l_e0 _ _) (G14.1.1)
    have F14 : (0 : Int) ≤ 14 ∧ (14 : Int) < j_len 78 ∧ v 78 (14) = 0 := l_ff (f := v 78) (L := j_len 78) (a := y_ev x (14, [])) (b := y_ev x (0, [])) (l_e0 _ _) (l_e0 _ _) (G15.1.1)
    have F15 : (0 : Int) ≤ 15 ∧ (15 : Int) < j_len 78 ∧ v 78 (15) = 0 := l_ff (f := v 78) (L := j_len 78) (a := y_ev x (15, [])) (b := y_ev x (0, [])) (l_e0 _ _) (l_e0 _ _) (G16.1.1)
    have F16 : (0 : Int) ≤ 16 ∧ (16 : Int) < j_len 78 ∧ v 78 (16) = 0 := l_ff (f := v 78) (L := j_len 78) (a := y_ev x (16, [])) (b := y_ev x (0, [])) (l_e0 _ _) (l_e0 _ _) (G17.1.1)
    have F17 : (0 : Int) ≤ 17 ∧ (17 : Int) < j_len 78 ∧ v 78 (17) = 0 := l_ff (f := v 78) (L := j_len 78) (a := y_ev x (17, [])) (b := y_ev x (0, [])) (l_e0 _ _) (l_e0 _ _) (G18.1.1)
    have F18 : (0 : Int) ≤ 18 ∧ (18 : Int) < j_len 78 ∧ v 78 (18) = 0 := l_ff (f := v 78) (L := j_len 78) (a := y_ev x (18, [])) (b := y_ev x (0, [])) (l_e0 _ _) (l_e0 _ _) (G19.1.1)
    have F19 : (0 : Int) ≤ 19 ∧ (19 : Int) < j_len 78 ∧ v 78 (19) = 0 := l_ff (f := v 78) (L := j_len 78) (a := y_ev x (19, [])) (b := y_ev x (0, [])) (l_e0 _ _) (l_e0 _ _) (G20.1.1)
    have F20 : (0 : Int) ≤ 20 ∧ (20 : Int) < j_len 78 ∧ v 78 (20) = 0 := l_ff (f := v 78) (L := j_len 78) (a := y_ev x (20, [])) (b := y_ev x (0, [])) (l_e0 _ _) (l_e0 _ _) (G21.1.1)
    have F21 : (0 : Int) ≤ 21 ∧ (21 : Int) < j_len 78 ∧ v 78 (21) = 0 := l_ff (f := v 78) (L := j_len 78) (a := y_ev x (21, [])) (b := y_ev x (0, [])) (l_e0 _ _) (l_e0 _ _) (G22.1.1)
    have F22 : (0 : Int) ≤ 22 ∧ (22 : Int) < j_len 78 ∧ v 78 (22) = 0 := l_ff (f := v 78) (L := j_len 78) (a := y_ev x (22, [])) (b := y_ev x (0, [])) (l_e0 _ _) (l_e0 _ _) (G23.1.1)
    have F23 : (0 : Int) ≤ 23 ∧ (23 : Int) < j_len 78 ∧ v 78 (23) = 0 := l_ff (f := v 78) (L := j_len 78) (a := y_ev x (23, [])) (b := y_ev x (0, [])) (l_e0 _ _) (l_e0 _ _) (G24.1.1)
    have F24 : (0 : Int) ≤ 24 ∧ (24 : Int) < j_len 78 ∧ v 78 (24) = 0 := l_ff (f := v 78) (L := j_len 78) (a := y_ev x (24, [])) (b := y_ev x (0, [])) (l_e0 _ _) (l_e0 _ _) (G25.1.1)
    have F25 : (0 : Int) ≤ 25 ∧ (25 : Int) < j_len 78 ∧ v 78 (25) = 0 := l_ff (f := v 78) (L := j_len 78) (a := y_ev x (25, [])) (b := y_ev x (0, [])) (l_e0 _ _) (l_e0 _ _) (G26.1.1)
    have F26 : (0 : Int) ≤ 26 ∧ (26 : Int) < j_len 78 ∧ v 78 (26) = 0 := l_ff (f := v 78) (L := j_len 78) (a := y_ev x (26, [])) (b := y_ev x (0, [])) (l_e0 _ _) (l_e0 _ _) (G27.1.1)
    have F27 : (0 : Int) ≤ 27 ∧ (27 : Int) < j_len 78 ∧ v 78 (27) = 0 := l_ff (f := v 78) (L := j_len 78) (a := y_ev x (27, [])) (b := y_ev x (0, [])) (l_e0 _ _) (l_e0 _ _) (G28.1.1)
    have F28 : (0 : Int) ≤ 28 ∧ (28 : Int) < j_len 78 ∧ v 78 (28) = 0 := l_ff (f := v 78) (L := j_len 78) (a := y_ev x (28, [])) (b := y_ev x (0, [])) (l_e0 _ _) (l_e0 _ _) (G29.1.1)
    have F29 : (0 : Int) ≤ 29 ∧ (29 : Int) < j_len 78 ∧ v 78 (29) = 0 := l_ff (f := v 78) (L := j_len 78) (a := y_ev x (29, [])) (b := y_ev x (0, [])) (l_e0 _ _) (l_e0 _ _) (G30.1.1)
    have F30 : (0 : Int) ≤ 30 ∧ (30 : Int) < j_len 78 ∧ v 78 (30) = 0 := l_ff (f := v 78) (L := j_len 78) (a := y_ev x (30, [])) (b := y_ev x (0, [])) (l_e0 _ _) (l_e0 _ _) (G31.1.1)
    have F31 : (0 : Int) ≤ 31 ∧ (31 : Int) < j_len 78 ∧ v 78 (31) = 0 := l_ff (f := v 78) (L := j_len 78) (a := y_ev x (31, [])) (b := y_ev x (0, [])) (l_e0 _ _) (l_e0 _ _) (G32.1.1)
    have F32 : (0 : Int) ≤ 32 ∧ (32 : Int) < j_len 78 ∧ v 78 (32) = 0 := l_ff (f := v 78) (L := j_len 78) (a := y_ev x (32, [])) (b := y_ev x (0, [])) (l_e0 _ _) (l_e0 _ _) (G33.1.1)
    have K := k_bgm0 (V := v) (l := x 0) C0 C1 F0 F1 F2 F3 F4 F5 F6 F7 F8 F9 F10 F11 F12 F13 F14 F15 F16 F17 F18 F19 F20 F21 F22 F23 F24 F25 F26 F27 F28 F29 F30 F31 F32
    refine l_outH rfl (And.intro h.1 ?_)
    have O0 : y_ev x (0, [(0, 1)]) = x 0 := l_e1 _ _
    have O1 : y_ev x (0, []) = 0 := l_e0 _ _
    show (True) ∧ (q_bgm v false (y_ev x (0, [(0, 1)])) (y_ev x (0, [])) ∧ True)
    (try rw [O0]); (try rw [O1])
    exact K
def lm_1013 : zLem := (([((-2147483648), 2147483647), ((-2147483648), 2147483647)], [], [], [], [(0, 0, 0, [(0, 1)])], [], [(273, [(0, [(1, 1)]), (0, [(0, 1)])])]), [([((-2147483648), 2147483647), ((-2147483648), 2147483647)], [], [], [], [], [], [(274, [(0, [(1, 1)]), (0, [(0, 1)])])])])
theorem lk_1013 : l_core lm_1013 := by
  first
  | skip
    intro v x h
    have K := k_bgx (V := v) (h := x 0) (l := x 1) (l_c2 (fun w0 w1 : Int => q_bgm v false w0 w1) (l_e1 x 1) (l_e1 x 0) (h.2.2.2.1))
    refine l_outH rfl (And.intro h.1 ?_)
    exact l_o2 (fun w0 w1 : Int => (True) ∧ (q_bgm v true w0 w1 ∧ True)) (l_e1 x 1) (l_e1 x 0) K
  | skip
    intro v x h
    have E0 : y_ev x (0, [(1, 1)]) = x 1 := (l_e1 _ _)
    have E1 : y_ev x (0, [(0, 1)]) = x 0 := (l_e1 _ _)
    have T0 : q_bgm v false (y_ev x (0, [(1, 1)])) (y_ev x (0, [(0, 1)])) := h.2.2.2.1
    (try rw [E0] at T0); (try rw [E1] at T0)
    have K := k_bgx (V := v) (h := x 0) (l := x 1) T0
    refine l_outH rfl (And.intro h.1 ?_)
    have O0 : y_ev x (0, [(1, 1)]) = x 1 := l_e1 _ _
    have O1 : y_ev x (0, [(0, 1)]) = x 0 := l_e1 _ _
    show (True) ∧ (q_bgm v true (y_ev x (0, [(1, 1)])) (y_ev x (0, [(0, 1)])) ∧ True)
    (try rw [O0]); (try rw [O1])
    exact K
def lm_1014 : zLem := (([((-2147483648), 2147483647), ((-2147483648), 2147483647), ((-2147483648), 2147483647)], [(78, false), (57, false)], [(0, [(0, 1)]), (5, [(0, (-1))])], [], [(0, 0, 0, [(0, 1)])], [(0, (true, 0, 0, [(0, 1)]), 0, 0, 0, [(2, 1)]), (1, (true, 0, 0, [(0, 1), (1, 6)]), 0, 0, 0, [(2, 1)])], [(274, [(0, [(1, 1)]), (0, [(0, 1)])])]), [([((-2147483648), 2147483647), ((-2147483648), 2147483647), ((-2147483648), 2147483647)], [(78, false), (57, false)], [], [], [], [], [(273, [(0, [(1, 1)]), (1, [(0, 1)])])])])
theorem lk_1014 : l_core lm_1014 := by
  first
  | skip
    intro v x h
    have G0 := h.2.2.1
    have G1 := G0.2
    have K := k_bgmS (V := v) (h := x 0) (l := x 1) (u := x 2) (l_c2 (fun w0 w1 : Int => q_bgm v true w0 w1) (l_e1 x 1) (l_e1 x 0) (h.2.2.2.1)) (l_cc (l_e1 x 0) (h.2.1.1)) (l_cc (l_q1 5 x 0) (h.2.1.2.1)) (l_ff (f := v 78) (L := j_len 78) (l_e1 x 0) (l_e1 x 2) (G0.1.1)) (l_ff (f := v 57) (L := j_len 57) (l_q15 6 x 0 1) (l_e1 x 2) (G1.1.1))
    refine l_outH rfl (And.intro h.1 ?_)
    exact l_o2 (fun w0 w1 : Int => (True) ∧ (q_bgm v false w0 w1 ∧ True)) (l_e1 x 1) (l_q3 1 x 0) K
  | skip
    intro v x h
    have G0 := h.2.2.1
    have G1 := G0.2
    have C0 : (0 : Int) ≤ x 0 := l_cc (a := y_ev x (0, [(0, 1)])) (l_e1 _ _) (h.2.1.1)
    have C1 : (0 : Int) ≤ 5 - x 0 := l_cc (a := y_ev x (5, [(0, (-1))])) (by show ((5) : Int) + ((-1) * x 0 + 0) = 5 - x 0; omega) (h.2.1.2.1)
    have F0 : (0 : Int) ≤ x 0 ∧ (x 0 : Int) < j_len 78 ∧ v 78 (x 0) = x 2 := l_ff (f := v 78) (L := j_len 78) (a := y_ev x (0, [(0, 1)])) (b := y_ev x (0, [(2, 1)])) (l_e1 _ _) (l_e1 _ _) (G0.1.1)
    have F1 : (0 : Int) ≤ x 0 + 6 * x 1 ∧ (x 0 + 6 * x 1 : Int) < j_len 57 ∧ v 57 (x 0 + 6 * x 1) = x 2 := l_ff (f := v 57) (L := j_len 57) (a := y_ev x (0, [(0, 1), (1, 6)])) (b := y_ev x (0, [(2, 1)])) (by show ((0) : Int) + ((1) * x 0 + ((6) * x 1 + 0)) = x 0 + 6 * x 1; omega) (l_e1 _ _) (G1.1.1)
    have E0 : y_ev x (0, [(1, 1)]) = x 1 := (l_e1 _ _)
    have E1 : y_ev x (0, [(0, 1)]) = x 0 := (l_e1 _ _)
    have T0 : q_bgm v true (y_ev x (0, [(1, 1)])) (y_ev x (0, [(0, 1)])) := h.2.2.2.1
    (try rw [E0] at T0); (try rw [E1] at T0)
    have K := k_bgmS (V := v) (h := x 0) (l := x 1) (u := x 2) T0 C0 C1 F0 F1
    refine l_outH rfl (And.intro h.1 ?_)
    have O0 : y_ev x (0, [(1, 1)]) = x 1 := l_e1 _ _
    have O1 : y_ev x (1, [(0, 1)]) = x 0 + 1 := by show ((1) : Int) + ((1) * x 0 + 0) = _; omega
    show (True) ∧ (q_bgm v false (y_ev x (0, [(1, 1)])) (y_ev x (1, [(0, 1)])) ∧ True)
    (try rw [O0]); (try rw [O1])
    exact K
def lm_1015 : zLem := (([((-2147483648), 2147483647), ((-2147483648), 2147483647)], [], [], [], [], [], [(273, [(0, [(0, 1)]), (0, [(1, 1)])]), (239, [])]), [([((-2147483648), 2147483647), ((-2147483648), 2147483647)], [], [], [], [], [], [(275, [(0, [(0, 1)]), (0, [(1, 1)])])])])
theorem lk_1015 : l_core lm_1015 := by
  first
  | skip
    intro v x h
    have K := k_nbg (V := v) (l := x 0) (h := x 1) (l_c2 (fun w0 w1 : Int => q_bgm v false w0 w1) (l_e1 x 0) (l_e1 x 1) (h.2.2.2.1)) (h.2.2.2.2.1)
    refine l_outH rfl (And.intro h.1 ?_)
    exact l_o2 (fun w0 w1 : Int => (True) ∧ (q_nbg v w0 w1 ∧ True)) (l_e1 x 0) (l_e1 x 1) K
  | skip
    intro v x h
    have E0 : y_ev x (0, [(0, 1)]) = x 0 := (l_e1 _ _)
    have E1 : y_ev x (0, [(1, 1)]) = x 1 := (l_e1 _ _)
    have T0 : q_bgm v false (y_ev x (0, [(0, 1)])) (y_ev x (0, [(1, 1)])) := h.2.2.2.1
    (try rw [E0] at T0); (try rw [E1] at T0)
    have T1 : q_ner v := h.2.2.2.2.1
    have K := k_nbg (V := v) (l := x 0) (h := x 1) T0 T1
    refine l_outH rfl (And.intro h.1 ?_)
    have O0 : y_ev x (0, [(0, 1)]) = x 0 := l_e1 _ _
    have O1 : y_ev x (0, [(1, 1)]) = x 1 := l_e1 _ _
    show (True) ∧ (q_nbg v (y_ev x (0, [(0, 1)])) (y_ev x (0, [(1, 1)])) ∧ True)
    (try rw [O0]); (try rw [O1])
    exact K
def lm_1016 : zLem := (([((-2147483648), 2147483647), ((-2147483648), 2147483647), ((-2147483648), 2147483647), ((-2147483648), 2147483647), ((-2147483648), 2147483647)], [], [(0, [(1, 1)]), (1, [(1, (-1))])], [], [], [], [(272, []), (275, [(0, [(1, 1)]), (0, [(0, 1)])]), (200, [(0, [(1, 1)]), (0, [(4, 1)]), (1, []), (0, [(0, 1)])]), (94, [(0, [(2, 1)]), (0, [(0, 1)])]), (96, [(0, [(2, 1)]), (0, [(0, 1)]), (0, [(1, 1)])]), (47, [(0, [(2, 1)]), (0, []), (0, [(3, 1)])])]), [([((-2147483648), 2147483647), ((-2147483648), 2147483647), ((-2147483648), 2147483647), ((-2147483648), 2147483647), ((-2147483648), 2147483647)], [], [], [], [], [], [(235, [(0, [(0, 1)]), (0, []), (0, []), (0, []), (0, []), (0, []), (0, []), (0, []), (0, []), (0, []), (0, [])])])])
theorem lk_1016 : l_core lm_1016 := by
  first
  | skip
    intro v x h
    have K := k_stb (V := v) (H := x 0) (l := x 1) (n := x 2) (q := x 3) (x := x 4) (h.2.2.2.1) (l_c2 (fun w0 w1 : Int => q_nbg v w0 w1) (l_e1 x 1) (l_e1 x 0) (h.2.2.2.2.1)) (l_c4 (fun w0 w1 w2 w3 : Int => w2 = 1 → 0 ≤ w0 ∧ 0 ≤ w1 ∧ w0 + w1 = 1 ∧ w3 ≤ 6 ∧ ∀ i_ : Int, 0 ≤ i_ → i_ < w3 → v 19 i_ = v 57 (6 * w0 + i_) ∧ v 20 i_ = v 58 (6 * w0 + i_)) (l_e1 x 1) (l_e1 x 4) (l_e0 x (1)) (l_e1 x 0) (h.2.2.2.2.2.1)) (l_c2 (fun w0 w1 : Int => q_fhs (t_b v) w0 w1 (v 19) (v 20)) (l_e1 x 2) (l_e1 x 0) (h.2.2.2.2.2.2.1)) (l_c3 (fun w0 w1 w2 : Int => 0 ≤ w2 ∧ q_fhs (t_b v) w0 w1 (fun i_ => v 57 (6 * w2 + i_)) (fun i_ => v 58 (6 * w2 + i_))) (l_e1 x 2) (l_e1 x 0) (l_e1 x 1) (h.2.2.2.2.2.2.2.1)) (l_c3 (fun w0 w1 w2 : Int => q_fin (t_b v) w0 w1 w2) (l_e1 x 2) (l_e0 x (0)) (l_e1 x 3) (h.2.2.2.2.2.2.2.2.1)) (l_cc (l_e1 x 1) (h.2.1.1)) (l_cc (l_q1 1 x 1) (h.2.1.2.1))
    refine l_outH rfl (And.intro h.1 ?_)
    exact l_o2 (fun w0 w1 : Int => (True) ∧ (q_sto v 0 w0 w1 w1 w1 w1 w1 w1 w1 w1 w1 w1 ∧ True)) (l_e1 x 0) (l_e0 x (0)) K
  | skip
    intro v x h
    have C0 : (0 : Int) ≤ x 1 := l_cc (a := y_ev x (0, [(1, 1)])) (l_e1 _ _) (h.2.1.1)
    have C1 : (0 : Int) ≤ 1 - x 1 := l_cc (a := y_ev x (1, [(1, (-1))])) (by show ((1) : Int) + ((-1) * x 1 + 0) = 1 - x 1; omega) (h.2.1.2.1)
    have E0 : y_ev x (0, [(1, 1)]) = x 1 := (l_e1 _ _)
    have E1 : y_ev x (0, [(0, 1)]) = x 0 := (l_e1 _ _)
    have E2 : y_ev x (0, [(4, 1)]) = x 4 := (l_e1 _ _)
    have E3 : y_ev x (1, []) = 1 := (l_e0 _ _)
    have E4 : y_ev x (0, [(2, 1)]) = x 2 := (l_e1 _ _)
    have E5 : y_ev x (0, []) = 0 := (l_e0 _ _)
    have E6 : y_ev x (0, [(3, 1)]) = x 3 := (l_e1 _ _)
    have T0 : ∀ i : Int, 0 ≤ i → i < 6 → v 27 i = v 19 i ∧ v 28 i = 0 := h.2.2.2.1
    have T1 : q_nbg v (y_ev x (0, [(1, 1)])) (y_ev x (0, [(0, 1)])) := h.2.2.2.2.1
    (try rw [E0] at T1); (try rw [E1] at T1)
    have T2 : (y_ev x (1, [])) = 1 → 0 ≤ (y_ev x (0, [(1, 1)])) ∧ 0 ≤ (y_ev x (0, [(4, 1)])) ∧ (y_ev x (0, [(1, 1)])) + (y_ev x (0, [(4, 1)])) = 1 ∧ (y_ev x (0, [(0, 1)])) ≤ 6 ∧ ∀ i_ : Int, 0 ≤ i_ → i_ < (y_ev x (0, [(0, 1)])) → v 19 i_ = v 57 (6 * (y_ev x (0, [(1, 1)])) + i_) ∧ v 20 i_ = v 58 (6 * (y_ev x (0, [(1, 1)])) + i_) := h.2.2.2.2.2.1
    (try rw [E0] at T2); (try rw [E2] at T2); (try rw [E3] at T2); (try rw [E1] at T2)
    have T3 : q_fhs (t_b v) (y_ev x (0, [(2, 1)])) (y_ev x (0, [(0, 1)])) (v 19) (v 20) := h.2.2.2.2.2.2.1
    (try rw [E4] at T3); (try rw [E1] at T3)
    have T4 : 0 ≤ (y_ev x (0, [(1, 1)])) ∧ q_fhs (t_b v) (y_ev x (0, [(2, 1)])) (y_ev x (0, [(0, 1)])) (fun i_ => v 57 (6 * (y_ev x (0, [(1, 1)])) + i_)) (fun i_ => v 58 (6 * (y_ev x (0, [(1, 1)])) + i_)) := h.2.2.2.2.2.2.2.1
    (try rw [E4] at T4); (try rw [E1] at T4); (try rw [E0] at T4)
    have T5 : q_fin (t_b v) (y_ev x (0, [(2, 1)])) (y_ev x (0, [])) (y_ev x (0, [(3, 1)])) := h.2.2.2.2.2.2.2.2.1
    (try rw [E4] at T5); (try rw [E5] at T5); (try rw [E6] at T5)
    have K := k_stb (V := v) (H := x 0) (l := x 1) (n := x 2) (q := x 3) (x := x 4) T0 T1 T2 T3 T4 T5 C0 C1
    refine l_outH rfl (And.intro h.1 ?_)
    have O0 : y_ev x (0, [(0, 1)]) = x 0 := l_e1 _ _
    have O1 : y_ev x (0, []) = 0 := l_e0 _ _
    show (True) ∧ (q_sto v 0 (y_ev x (0, [(0, 1)])) (y_ev x (0, [])) (y_ev x (0, [])) (y_ev x (0, [])) (y_ev x (0, [])) (y_ev x (0, [])) (y_ev x (0, [])) (y_ev x (0, [])) (y_ev x (0, [])) (y_ev x (0, [])) (y_ev x (0, [])) ∧ True)
    (try rw [O0]); (try rw [O1])
    exact K
def lm_1017 : zLem := (([((-2147483648), 2147483647), ((-2147483648), 2147483647), ((-2147483648), 2147483647), ((-2147483648), 2147483647), ((-2147483648), 2147483647)], [(6, false), (7, false)], [(0, [(1, 1)]), (39, [(1, (-1))])], [], [], [(0, (false, 5, 0, []), 0, 0, 0, [(0, 1)]), (1, (false, 2, 0, []), 0, 0, 0, [(1, 1)]), (1, (false, 3, 0, []), 0, 0, 0, [])], [(235, [(0, [(0, 1)]), (0, [(2, 1)]), (0, [(3, 1)]), (0, [(4, 1)]), (0, []), (0, []), (0, []), (0, []), (0, []), (0, []), (0, [])])]), [([((-2147483648), 2147483647), ((-2147483648), 2147483647), ((-2147483648), 2147483647), ((-2147483648), 2147483647), ((-2147483648), 2147483647)], [(6, false), (7, false)], [], [], [], [], [(242, [(0, [(0, 1)]), (0, [(1, 1)]), (0, []), (0, [])])])])
theorem lk_1017 : l_core lm_1017 := by
  first
  | skip
    intro v x h
    have K := k_his0 (V := v) (H := x 0) (o := x 1) (p := x 2) (y := x 3) (d := x 4) (l_c5 (fun w0 w1 w2 w3 w4 : Int => q_sto v 0 w0 w1 w2 w3 w4 w4 w4 w4 w4 w4 w4) (l_e1 x 0) (l_e1 x 2) (l_e1 x 3) (l_e1 x 4) (l_e0 x (0)) (h.2.2.2.1)) (l_cc (l_e1 x 1) (h.2.1.1)) (l_cc (l_q1 39 x 1) (h.2.1.2.1))
    refine l_outH rfl (And.intro h.1 ?_)
    exact l_o3 (fun w0 w1 w2 : Int => (True) ∧ (q_hx v (-1) w0 w1 w2 w2 ∧ True)) (l_e1 x 0) (l_e1 x 1) (l_e0 x (0)) K
  | skip
    intro v x h
    have C0 : (0 : Int) ≤ x 1 := l_cc (a := y_ev x (0, [(1, 1)])) (l_e1 _ _) (h.2.1.1)
    have C1 : (0 : Int) ≤ 39 - x 1 := l_cc (a := y_ev x (39, [(1, (-1))])) (by show ((39) : Int) + ((-1) * x 1 + 0) = 39 - x 1; omega) (h.2.1.2.1)
    have E0 : y_ev x (0, [(0, 1)]) = x 0 := (l_e1 _ _)
    have E1 : y_ev x (0, [(2, 1)]) = x 2 := (l_e1 _ _)
    have E2 : y_ev x (0, [(3, 1)]) = x 3 := (l_e1 _ _)
    have E3 : y_ev x (0, [(4, 1)]) = x 4 := (l_e1 _ _)
    have E4 : y_ev x (0, []) = 0 := (l_e0 _ _)
    have T0 : q_sto v 0 (y_ev x (0, [(0, 1)])) (y_ev x (0, [(2, 1)])) (y_ev x (0, [(3, 1)])) (y_ev x (0, [(4, 1)])) (y_ev x (0, [])) (y_ev x (0, [])) (y_ev x (0, [])) (y_ev x (0, [])) (y_ev x (0, [])) (y_ev x (0, [])) (y_ev x (0, [])) := h.2.2.2.1
    (try rw [E0] at T0); (try rw [E1] at T0); (try rw [E2] at T0); (try rw [E3] at T0); (try rw [E4] at T0)
    have K := k_his0 (V := v) (H := x 0) (o := x 1) (p := x 2) (y := x 3) (d := x 4) T0 C0 C1
    refine l_outH rfl (And.intro h.1 ?_)
    have O0 : y_ev x (0, [(0, 1)]) = x 0 := l_e1 _ _
    have O1 : y_ev x (0, [(1, 1)]) = x 1 := l_e1 _ _
    have O2 : y_ev x (0, []) = 0 := l_e0 _ _
    show (True) ∧ (q_hx v (-1) (y_ev x (0, [(0, 1)])) (y_ev x (0, [(1, 1)])) (y_ev x (0, [])) (y_ev x (0, [])) ∧ True)
    (try rw [O0]); (try rw [O1]); (try rw [O2])
    exact K
def lm_1018 : zLem := (([((-2147483648), 2147483647), ((-2147483648), 2147483647), ((-2147483648), 2147483647), ((-2147483648), 2147483647)], [(6, false)], [], [], [], [(0, (false, 5, 0, []), 0, 0, 0, [(0, 1)])], [(235, [(0, [(0, 1)]), (0, [(1, 1)]), (0, [(2, 1)]), (0, [(3, 1)]), (0, []), (0, []), (0, []), (0, []), (0, []), (0, []), (0, [])])]), [([((-2147483648), 2147483647), ((-2147483648), 2147483647), ((-2147483648), 2147483647), ((-2147483648), 2147483647)], [(6, false)], [], [], [], [], [(246, [(0, [(0, 1)]), (0, []), (0, []), (0, [])])])])
theorem lk_1018 : l_core lm_1018 := by
  first
  | skip
    intro v x h
    have K := k_slt0 (V := v) (H := x 0) (p := x 1) (y := x 2) (d := x 3) (l_c5 (fun w0 w1 w2 w3 w4 : Int => q_sto v 0 w0 w1 w2 w3 w4 w4 w4 w4 w4 w4 w4) (l_e1 x 0) (l_e1 x 1) (l_e1 x 2) (l_e1 x 3) (l_e0 x (0)) (h.2.2.2.1))
    refine l_outH rfl (And.intro h.1 ?_)
    exact l_o2 (fun w0 w1 : Int => (True) ∧ (q_sl v (-1) w0 w1 w1 w1 ∧ True)) (l_e1 x 0) (l_e0 x (0)) K
  | skip
    intro v x h
    have E0 : y_ev x (0, [(0, 1)]) = x 0 := (l_e1 _ _)
    have E1 : y_ev x (0, [(1, 1)]) = x 1 := (l_e1 _ _)
    have E2 : y_ev x (0, [(2, 1)]) = x 2 := (l_e1 _ _)
    have E3 : y_ev x (0, [(3, 1)]) = x 3 := (l_e1 _ _)
    have E4 : y_ev x (0, []) = 0 := (l_e0 _ _)
    have T0 : q_sto v 0 (y_ev x (0, [(0, 1)])) (y_ev x (0, [(1, 1)])) (y_ev x (0, [(2, 1)])) (y_ev x (0, [(3, 1)])) (y_ev x (0, [])) (y_ev x (0, [])) (y_ev x (0, [])) (y_ev x (0, [])) (y_ev x (0, [])) (y_ev x (0, [])) (y_ev x (0, [])) := h.2.2.2.1
    (try rw [E0] at T0); (try rw [E1] at T0); (try rw [E2] at T0); (try rw [E3] at T0); (try rw [E4] at T0)
    have K := k_slt0 (V := v) (H := x 0) (p := x 1) (y := x 2) (d := x 3) T0
    refine l_outH rfl (And.intro h.1 ?_)
    have O0 : y_ev x (0, [(0, 1)]) = x 0 := l_e1 _ _
    have O1 : y_ev x (0, []) = 0 := l_e0 _ _
    show (True) ∧ (q_sl v (-1) (y_ev x (0, [(0, 1)])) (y_ev x (0, [])) (y_ev x (0, [])) (y_ev x (0, [])) ∧ True)
    (try rw [O0]); (try rw [O1])
    exact K
def lm_1019 : zLem := (([((-2147483648), 2147483647), ((-2147483648), 2147483647), ((-2147483648), 2147483647), ((-2147483648), 2147483647), ((-2147483648), 2147483647), ((-2147483648), 2147483647)], [(77, false)], [(0, [(0, 1)]), (5, [(0, (-1))])], [], [(0, 0, 0, [(0, 1)])], [(0, (true, 0, 25, [(0, 1)]), 0, 0, 0, [(1, 1)])], [(235, [(0, [(2, 1)]), (0, [(3, 1)]), (0, [(4, 1)]), (0, [(5, 1)]), (0, []), (0, []), (0, []), (0, []), (0, []), (0, []), (0, [])])]), [([((-2147483648), 2147483647), ((-2147483648), 2147483647), ((-2147483648), 2147483647), ((-2147483648), 2147483647), ((-2147483648), 2147483647), ((-2147483648), 2147483647)], [(77, false)], [], [], [], [], [(238, [(8, []), (0, []), (0, []), (0, []), (0, []), (0, []), (0, []), (0, []), (25, [(0, 1)]), (0, []), (0, [(1, 1)])])])])
theorem lk_1019 : l_core lm_1019 := by
  first
  | skip
    intro v x h
    have G0 := h.2.2.1
    have K := k_ncel (V := v) (i := x 0) (u := x 1) (H := x 2) (p := x 3) (y := x 4) (d := x 5) (l_c5 (fun w0 w1 w2 w3 w4 : Int => q_sto v 0 w0 w1 w2 w3 w4 w4 w4 w4 w4 w4 w4) (l_e1 x 2) (l_e1 x 3) (l_e1 x 4) (l_e1 x 5) (l_e0 x (0)) (h.2.2.2.1)) (l_cc (l_e1 x 0) (h.2.1.1)) (l_cc (l_q1 5 x 0) (h.2.1.2.1)) (l_ff (f := v 77) (L := j_len 77) (l_q3 25 x 0) (l_e1 x 1) (G0.1.1))
    refine l_outH rfl (And.intro h.1 ?_)
    exact l_o4 (fun w0 w1 w2 w3 : Int => (True) ∧ (q_qry v w0 w1 w1 w1 w1 w1 w1 w1 w2 w1 w3 ∧ True)) (l_e0 x (8)) (l_e0 x (0)) (l_q3 25 x 0) (l_e1 x 1) K
  | skip
    intro v x h
    have G0 := h.2.2.1
    have C0 : (0 : Int) ≤ x 0 := l_cc (a := y_ev x (0, [(0, 1)])) (l_e1 _ _) (h.2.1.1)
    have C1 : (0 : Int) ≤ 5 - x 0 := l_cc (a := y_ev x (5, [(0, (-1))])) (by show ((5) : Int) + ((-1) * x 0 + 0) = 5 - x 0; omega) (h.2.1.2.1)
    have F0 : (0 : Int) ≤ x 0 + 25 ∧ (x 0 + 25 : Int) < j_len 77 ∧ v 77 (x 0 + 25) = x 1 := l_ff (f := v 77) (L := j_len 77) (a := y_ev x (25, [(0, 1)])) (b := y_ev x (0, [(1, 1)])) (by show ((25) : Int) + ((1) * x 0 + 0) = x 0 + 25; omega) (l_e1 _ _) (G0.1.1)
    have E0 : y_ev x (0, [(2, 1)]) = x 2 := (l_e1 _ _)
    have E1 : y_ev x (0, [(3, 1)]) = x 3 := (l_e1 _ _)
    have E2 : y_ev x (0, [(4, 1)]) = x 4 := (l_e1 _ _)
    have E3 : y_ev x (0, [(5, 1)]) = x 5 := (l_e1 _ _)
    have E4 : y_ev x (0, []) = 0 := (l_e0 _ _)
    have T0 : q_sto v 0 (y_ev x (0, [(2, 1)])) (y_ev x (0, [(3, 1)])) (y_ev x (0, [(4, 1)])) (y_ev x (0, [(5, 1)])) (y_ev x (0, [])) (y_ev x (0, [])) (y_ev x (0, [])) (y_ev x (0, [])) (y_ev x (0, [])) (y_ev x (0, [])) (y_ev x (0, [])) := h.2.2.2.1
    (try rw [E0] at T0); (try rw [E1] at T0); (try rw [E2] at T0); (try rw [E3] at T0); (try rw [E4] at T0)
    have K := k_ncel (V := v) (i := x 0) (u := x 1) (H := x 2) (p := x 3) (y := x 4) (d := x 5) T0 C0 C1 F0
    refine l_outH rfl (And.intro h.1 ?_)
    have O0 : y_ev x (8, []) = 8 := l_e0 _ _
    have O1 : y_ev x (0, []) = 0 := l_e0 _ _
    have O2 : y_ev x (25, [(0, 1)]) = x 0 + 25 := by show ((25) : Int) + ((1) * x 0 + 0) = _; omega
    have O3 : y_ev x (0, [(1, 1)]) = x 1 := l_e1 _ _
    show (True) ∧ (q_qry v (y_ev x (8, [])) (y_ev x (0, [])) (y_ev x (0, [])) (y_ev x (0, [])) (y_ev x (0, [])) (y_ev x (0, [])) (y_ev x (0, [])) (y_ev x (0, [])) (y_ev x (25, [(0, 1)])) (y_ev x (0, [])) (y_ev x (0, [(1, 1)])) ∧ True)
    (try rw [O0]); (try rw [O1]); (try rw [O2]); (try rw [O3])
    exact K
def lm_1020 : zLem := (([((-2147483648), 2147483647), ((-2147483648), 2147483647), ((-2147483648), 2147483647)], [], [], [], [(0, 0, 0, [(0, 1)])], [], [(260, [(8, []), (0, []), (0, []), (0, []), (0, []), (0, []), (0, []), (0, []), (25, [(0, 1)]), (0, []), (0, [(1, 1)])]), (238, [(8, []), (0, []), (0, []), (0, []), (0, []), (0, []), (0, []), (0, []), (25, [(0, 1)]), (0, []), (0, [(2, 1)])])]), [([((-2147483648), 2147483647), ((-2147483648), 2147483647), ((-2147483648), 2147483647)], [], [(0, [(1, 1), (2, (-1))]), (0, [(1, (-1)), (2, 1)])], [], [], [], [])])
theorem lk_1020 : l_core lm_1020 := by
  first
  | skip
    intro v x h
    have K := k_qeA (V := v) (i := x 0) (u := x 1) (w := x 2) (l_c4 (fun w0 w1 w2 w3 : Int => q_qry v w0 w1 w1 w1 w1 w1 w1 w1 w2 w1 w3) (l_e0 x (8)) (l_e0 x (0)) (l_q3 25 x 0) (l_e1 x 1) (h.2.2.2.1)) (l_c4 (fun w0 w1 w2 w3 : Int => q_qry v w0 w1 w1 w1 w1 w1 w1 w1 w2 w1 w3) (l_e0 x (8)) (l_e0 x (0)) (l_q3 25 x 0) (l_e1 x 2) (h.2.2.2.2.1))
    refine l_outH rfl (And.intro h.1 ?_)
    exact l_o2 (fun w0 w1 : Int => (0 ≤ w0 ∧ 0 ≤ w1 ∧ True) ∧ (True)) (l_q5 x 1 2) (l_q4 x 1 2) K
  | skip
    intro v x h
    have E0 : y_ev x (8, []) = 8 := (l_e0 _ _)
    have E1 : y_ev x (0, []) = 0 := (l_e0 _ _)
    have E2 : y_ev x (25, [(0, 1)]) = x 0 + 25 := (by show ((25) : Int) + ((1) * x 0 + 0) = x 0 + 25; omega)
    have E3 : y_ev x (0, [(1, 1)]) = x 1 := (l_e1 _ _)
    have E4 : y_ev x (0, [(2, 1)]) = x 2 := (l_e1 _ _)
    have T0 : q_qry v (y_ev x (8, [])) (y_ev x (0, [])) (y_ev x (0, [])) (y_ev x (0, [])) (y_ev x (0, [])) (y_ev x (0, [])) (y_ev x (0, [])) (y_ev x (0, [])) (y_ev x (25, [(0, 1)])) (y_ev x (0, [])) (y_ev x (0, [(1, 1)])) := h.2.2.2.1
    (try rw [E0] at T0); (try rw [E1] at T0); (try rw [E2] at T0); (try rw [E3] at T0)
    have T1 : q_qry v (y_ev x (8, [])) (y_ev x (0, [])) (y_ev x (0, [])) (y_ev x (0, [])) (y_ev x (0, [])) (y_ev x (0, [])) (y_ev x (0, [])) (y_ev x (0, [])) (y_ev x (25, [(0, 1)])) (y_ev x (0, [])) (y_ev x (0, [(2, 1)])) := h.2.2.2.2.1
    (try rw [E0] at T1); (try rw [E1] at T1); (try rw [E2] at T1); (try rw [E4] at T1)
    have K := k_qeA (V := v) (i := x 0) (u := x 1) (w := x 2) T0 T1
    refine l_outH rfl (And.intro h.1 ?_)
    have O0 : y_ev x (0, [(1, 1), (2, (-1))]) = x 1 - x 2 := by show ((0) : Int) + ((1) * x 1 + ((-1) * x 2 + 0)) = _; omega
    have O1 : y_ev x (0, [(1, (-1)), (2, 1)]) = x 2 - x 1 := by show ((0) : Int) + ((-1) * x 1 + ((1) * x 2 + 0)) = _; omega
    show (0 ≤ y_ev x (0, [(1, 1), (2, (-1))]) ∧ 0 ≤ y_ev x (0, [(1, (-1)), (2, 1)]) ∧ True) ∧ (True)
    (try rw [O0]); (try rw [O1])
    exact K
def lm_1021 : zLem := (([((-2147483648), 2147483647), ((-2147483648), 2147483647), ((-2147483648), 2147483647), ((-2147483648), 2147483647), ((-2147483648), 2147483647), ((-2147483648), 2147483647)], [(77, false)], [(0, [(0, 1), (1, (-1))]), (0, [(1, 1), (2, (-1))]), ((-1), [(0, (-1)), (2, 1)])], [], [(0, 0, 0, [(0, 1)])], [(0, (true, 0, 24, []), 0, 0, 0, [(1, 1)])], [(235, [(0, [(3, 1)]), (0, [(2, 1)]), (0, [(4, 1)]), (0, [(5, 1)]), (0, []), (0, []), (0, []), (0, []), (0, []), (0, []), (0, [])])]), [([((-2147483648), 2147483647), ((-2147483648), 2147483647), ((-2147483648), 2147483647), ((-2147483648), 2147483647), ((-2147483648), 2147483647), ((-2147483648), 2147483647)], [(77, false)], [((-1), [])], [], [], [], [])])
theorem lk_1021 : l_core lm_1021 := by
  first
  | skip
    intro v x h
    have G0 := h.2.2.1
    have K := k_atx (V := v) (i := x 0) (u := x 1) (p := x 2) (H := x 3) (y := x 4) (d := x 5) (l_c5 (fun w0 w1 w2 w3 w4 : Int => q_sto v 0 w0 w1 w2 w3 w4 w4 w4 w4 w4 w4 w4) (l_e1 x 3) (l_e1 x 2) (l_e1 x 4) (l_e1 x 5) (l_e0 x (0)) (h.2.2.2.1)) (l_cc (l_q5 x 0 1) (h.2.1.1)) (l_cc (l_q5 x 1 2) (h.2.1.2.1)) (l_cc (l_q6 1 x 0 2) (h.2.1.2.2.1)) (l_ff (f := v 77) (L := j_len 77) (l_e0 x (24)) (l_e1 x 1) (G0.1.1))
    refine l_outH rfl (And.intro h.1 ?_)
    exact l_o1 (fun w0 : Int => (0 ≤ w0 ∧ True) ∧ (True)) (l_e0 x (-1)) K
  | skip
    intro v x h
    have G0 := h.2.2.1
    have C0 : (0 : Int) ≤ x 0 - x 1 := l_cc (a := y_ev x (0, [(0, 1), (1, (-1))])) (by show ((0) : Int) + ((1) * x 0 + ((-1) * x 1 + 0)) = x 0 - x 1; omega) (h.2.1.1)
    have C1 : (0 : Int) ≤ x 1 - x 2 := l_cc (a := y_ev x (0, [(1, 1), (2, (-1))])) (by show ((0) : Int) + ((1) * x 1 + ((-1) * x 2 + 0)) = x 1 - x 2; omega) (h.2.1.2.1)
    have C2 : (0 : Int) ≤ x 2 - x 0 - 1 := l_cc (a := y_ev x ((-1), [(0, (-1)), (2, 1)])) (by show ((-1) : Int) + ((-1) * x 0 + ((1) * x 2 + 0)) = x 2 - x 0 - 1; omega) (h.2.1.2.2.1)
    have F0 : (0 : Int) ≤ 24 ∧ (24 : Int) < j_len 77 ∧ v 77 (24) = x 1 := l_ff (f := v 77) (L := j_len 77) (a := y_ev x (24, [])) (b := y_ev x (0, [(1, 1)])) (l_e0 _ _) (l_e1 _ _) (G0.1.1)
    have E0 : y_ev x (0, [(3, 1)]) = x 3 := (l_e1 _ _)
    have E1 : y_ev x (0, [(2, 1)]) = x 2 := (l_e1 _ _)
    have E2 : y_ev x (0, [(4, 1)]) = x 4 := (l_e1 _ _)
    have E3 : y_ev x (0, [(5, 1)]) = x 5 := (l_e1 _ _)
    have E4 : y_ev x (0, []) = 0 := (l_e0 _ _)
    have T0 : q_sto v 0 (y_ev x (0, [(3, 1)])) (y_ev x (0, [(2, 1)])) (y_ev x (0, [(4, 1)])) (y_ev x (0, [(5, 1)])) (y_ev x (0, [])) (y_ev x (0, [])) (y_ev x (0, [])) (y_ev x (0, [])) (y_ev x (0, [])) (y_ev x (0, [])) (y_ev x (0, [])) := h.2.2.2.1
    (try rw [E0] at T0); (try rw [E1] at T0); (try rw [E2] at T0); (try rw [E3] at T0); (try rw [E4] at T0)
    have K := k_atx (V := v) (i := x 0) (u := x 1) (p := x 2) (H := x 3) (y := x 4) (d := x 5) T0 C0 C1 C2 F0
    refine l_outH rfl (And.intro h.1 ?_)
    have O0 : y_ev x ((-1), []) = (-1) := l_e0 _ _
    show (0 ≤ y_ev x ((-1), []) ∧ True) ∧ (True)
    (try rw [O0])
    exact K
def lm_1022 : zLem := (([((-2147483648), 2147483647), ((-2147483648), 2147483647), ((-2147483648), 2147483647), ((-2147483648), 2147483647), ((-2147483648), 2147483647), ((-2147483648), 2147483647)], [(77, false)], [((-1), [(0, (-1)), (1, 1)]), (0, [(1, (-1)), (2, 1)]), (0, [(0, 1), (2, (-1))])], [], [(0, 0, 0, [(0, 1)])], [(0, (true, 0, 24, []), 0, 0, 0, [(1, 1)])], [(235, [(0, [(3, 1)]), (0, [(2, 1)]), (0, [(4, 1)]), (0, [(5, 1)]), (0, []), (0, []), (0, []), (0, []), (0, []), (0, []), (0, [])])]), [([((-2147483648), 2147483647), ((-2147483648), 2147483647), ((-2147483648), 2147483647), ((-2147483648), 2147483647), ((-2147483648), 2147483647), ((-2147483648), 2147483647)], [(77, false)], [((-1), [])], [], [], [], [])])
theorem lk_1022 : l_core lm_1022 := by
  first
  | skip
    intro v x h
    have G0 := h.2.2.1
    have K := k_aty (V := v) (i := x 0) (u := x 1) (p := x 2) (H := x 3) (y := x 4) (d := x 5) (l_c5 (fun w0 w1 w2 w3 w4 : Int => q_sto v 0 w0 w1 w2 w3 w4 w4 w4 w4 w4 w4 w4) (l_e1 x 3) (l_e1 x 2) (l_e1 x 4) (l_e1 x 5) (l_e0 x (0)) (h.2.2.2.1)) (l_cc (l_q6 1 x 0 1) (h.2.1.1)) (l_cc (l_q4 x 1 2) (h.2.1.2.1)) (l_cc (l_q5 x 0 2) (h.2.1.2.2.1)) (l_ff (f := v 77) (L := j_len 77) (l_e0 x (24)) (l_e1 x 1) (G0.1.1))
    refine l_outH rfl (And.intro h.1 ?_)
    exact l_o1 (fun w0 : Int => (0 ≤ w0 ∧ True) ∧ (True)) (l_e0 x (-1)) K
  | skip
    intro v x h
    have G0 := h.2.2.1
    have C0 : (0 : Int) ≤ x 1 - x 0 - 1 := l_cc (a := y_ev x ((-1), [(0, (-1)), (1, 1)])) (by show ((-1) : Int) + ((-1) * x 0 + ((1) * x 1 + 0)) = x 1 - x 0 - 1; omega) (h.2.1.1)
    have C1 : (0 : Int) ≤ x 2 - x 1 := l_cc (a := y_ev x (0, [(1, (-1)), (2, 1)])) (by show ((0) : Int) + ((-1) * x 1 + ((1) * x 2 + 0)) = x 2 - x 1; omega) (h.2.1.2.1)
    have C2 : (0 : Int) ≤ x 0 - x 2 := l_cc (a := y_ev x (0, [(0, 1), (2, (-1))])) (by show ((0) : Int) + ((1) * x 0 + ((-1) * x 2 + 0)) = x 0 - x 2; omega) (h.2.1.2.2.1)
    have F0 : (0 : Int) ≤ 24 ∧ (24 : Int) < j_len 77 ∧ v 77 (24) = x 1 := l_ff (f := v 77) (L := j_len 77) (a := y_ev x (24, [])) (b := y_ev x (0, [(1, 1)])) (l_e0 _ _) (l_e1 _ _) (G0.1.1)
    have E0 : y_ev x (0, [(3, 1)]) = x 3 := (l_e1 _ _)
    have E1 : y_ev x (0, [(2, 1)]) = x 2 := (l_e1 _ _)
    have E2 : y_ev x (0, [(4, 1)]) = x 4 := (l_e1 _ _)
    have E3 : y_ev x (0, [(5, 1)]) = x 5 := (l_e1 _ _)
    have E4 : y_ev x (0, []) = 0 := (l_e0 _ _)
    have T0 : q_sto v 0 (y_ev x (0, [(3, 1)])) (y_ev x (0, [(2, 1)])) (y_ev x (0, [(4, 1)])) (y_ev x (0, [(5, 1)])) (y_ev x (0, [])) (y_ev x (0, [])) (y_ev x (0, [])) (y_ev x (0, [])) (y_ev x (0, [])) (y_ev x (0, [])) (y_ev x (0, [])) := h.2.2.2.1
    (try rw [E0] at T0); (try rw [E1] at T0); (try rw [E2] at T0); (try rw [E3] at T0); (try rw [E4] at T0)
    have K := k_aty (V := v) (i := x 0) (u := x 1) (p := x 2) (H := x 3) (y := x 4) (d := x 5) T0 C0 C1 C2 F0
    refine l_outH rfl (And.intro h.1 ?_)
    have O0 : y_ev x ((-1), []) = (-1) := l_e0 _ _
    show (0 ≤ y_ev x ((-1), []) ∧ True) ∧ (True)
    (try rw [O0])
    exact K
def lm_1023 : zLem := (([((-2147483648), 2147483647), ((-2147483648), 2147483647), ((-2147483648), 2147483647), ((-2147483648), 2147483647)], [], [], [], [(0, 0, 0, [(0, 1)])], [], [(260, [(1, []), (0, []), (0, []), (0, []), (0, []), (0, []), (0, []), (0, []), (1, [(0, 1)]), (0, [(1, 1)]), (0, [(2, 1)])]), (238, [(1, []), (0, []), (0, []), (0, []), (0, []), (0, []), (0, []), (0, []), (1, [(0, 1)]), (0, [(1, 1)]), (0, [(3, 1)])])]), [([((-2147483648), 2147483647), ((-2147483648), 2147483647), ((-2147483648), 2147483647), ((-2147483648), 2147483647)], [], [(0, [(2, 1), (3, (-1))]), (0, [(2, (-1)), (3, 1)])], [], [], [], [])])
theorem lk_1023 : l_core lm_1023 := by
  first
  | skip
    intro v x h
    have K := k_qeW (V := v) (i := x 0) (p := x 1) (u := x 2) (w := x 3) (l_c5 (fun w0 w1 w2 w3 w4 : Int => q_qry v w0 w1 w1 w1 w1 w1 w1 w1 w2 w3 w4) (l_e0 x (1)) (l_e0 x (0)) (l_q3 1 x 0) (l_e1 x 1) (l_e1 x 2) (h.2.2.2.1)) (l_c5 (fun w0 w1 w2 w3 w4 : Int => q_qry v w0 w1 w1 w1 w1 w1 w1 w1 w2 w3 w4) (l_e0 x (1)) (l_e0 x (0)) (l_q3 1 x 0) (l_e1 x 1) (l_e1 x 3) (h.2.2.2.2.1))
    refine l_outH rfl (And.intro h.1 ?_)
    exact l_o2 (fun w0 w1 : Int => (0 ≤ w0 ∧ 0 ≤ w1 ∧ True) ∧ (True)) (l_q5 x 2 3) (l_q4 x 2 3) K
  | skip
    intro v x h
    have E0 : y_ev x (1, []) = 1 := (l_e0 _ _)
    have E1 : y_ev x (0, []) = 0 := (l_e0 _ _)
    have E2 : y_ev x (1, [(0, 1)]) = x 0 + 1 := (by show ((1) : Int) + ((1) * x 0 + 0) = x 0 + 1; omega)
    have E3 : y_ev x (0, [(1, 1)]) = x 1 := (l_e1 _ _)
    have E4 : y_ev x (0, [(2, 1)]) = x 2 := (l_e1 _ _)
    have E5 : y_ev x (0, [(3, 1)]) = x 3 := (l_e1 _ _)
    have T0 : q_qry v (y_ev x (1, [])) (y_ev x (0, [])) (y_ev x (0, [])) (y_ev x (0, [])) (y_ev x (0, [])) (y_ev x (0, [])) (y_ev x (0, [])) (y_ev x (0, [])) (y_ev x (1, [(0, 1)])) (y_ev x (0, [(1, 1)])) (y_ev x (0, [(2, 1)])) := h.2.2.2.1
    (try rw [E0] at T0); (try rw [E1] at T0); (try rw [E2] at T0); (try rw [E3] at T0); (try rw [E4] at T0)
    have T1 : q_qry v (y_ev x (1, [])) (y_ev x (0, [])) (y_ev x (0, [])) (y_ev x (0, [])) (y_ev x (0, [])) (y_ev x (0, [])) (y_ev x (0, [])) (y_ev x (0, [])) (y_ev x (1, [(0, 1)])) (y_ev x (0, [(1, 1)])) (y_ev x (0, [(3, 1)])) := h.2.2.2.2.1
    (try rw [E0] at T1); (try rw [E1] at T1); (try rw [E2] at T1); (try rw [E3] at T1); (try rw [E5] at T1)
    have K := k_qeW (V := v) (i := x 0) (p := x 1) (u := x 2) (w := x 3) T0 T1
    refine l_outH rfl (And.intro h.1 ?_)
    have O0 : y_ev x (0, [(2, 1), (3, (-1))]) = x 2 - x 3 := by show ((0) : Int) + ((1) * x 2 + ((-1) * x 3 + 0)) = _; omega
    have O1 : y_ev x (0, [(2, (-1)), (3, 1)]) = x 3 - x 2 := by show ((0) : Int) + ((-1) * x 2 + ((1) * x 3 + 0)) = _; omega
    show (0 ≤ y_ev x (0, [(2, 1), (3, (-1))]) ∧ 0 ≤ y_ev x (0, [(2, (-1)), (3, 1)]) ∧ True) ∧ (True)
    (try rw [O0]); (try rw [O1])
    exact K
def lm_1024 : zLem := (([((-2147483648), 2147483647), ((-2147483648), 2147483647), ((-2147483648), 2147483647), ((-2147483648), 2147483647), ((-2147483648), 2147483647), ((-2147483648), 2147483647)], [(78, false)], [(0, [(0, 1), (1, (-1))]), (0, [(1, 1), (2, (-1))]), ((-1), [(0, (-1)), (2, 1)])], [], [(0, 0, 0, [(0, 1)])], [(0, (true, 0, 24, []), 0, 0, 0, [(1, 1)])], [(235, [(0, [(3, 1)]), (0, [(2, 1)]), (0, [(4, 1)]), (0, [(5, 1)]), (0, []), (0, []), (0, []), (0, []), (0, []), (0, []), (0, [])])]), [([((-2147483648), 2147483647), ((-2147483648), 2147483647), ((-2147483648), 2147483647), ((-2147483648), 2147483647), ((-2147483648), 2147483647), ((-2147483648), 2147483647)], [(78, false)], [((-1), [])], [], [], [], [])])
theorem lk_1024 : l_core lm_1024 := by
  first
  | skip
    intro v x h
    have G0 := h.2.2.1
    have K := k_bex (V := v) (i := x 0) (u := x 1) (p := x 2) (H := x 3) (y := x 4) (d := x 5) (l_c5 (fun w0 w1 w2 w3 w4 : Int => q_sto v 0 w0 w1 w2 w3 w4 w4 w4 w4 w4 w4 w4) (l_e1 x 3) (l_e1 x 2) (l_e1 x 4) (l_e1 x 5) (l_e0 x (0)) (h.2.2.2.1)) (l_cc (l_q5 x 0 1) (h.2.1.1)) (l_cc (l_q5 x 1 2) (h.2.1.2.1)) (l_cc (l_q6 1 x 0 2) (h.2.1.2.2.1)) (l_ff (f := v 78) (L := j_len 78) (l_e0 x (24)) (l_e1 x 1) (G0.1.1))
    refine l_outH rfl (And.intro h.1 ?_)
    exact l_o1 (fun w0 : Int => (0 ≤ w0 ∧ True) ∧ (True)) (l_e0 x (-1)) K
  | skip
    intro v x h
    have G0 := h.2.2.1
    have C0 : (0 : Int) ≤ x 0 - x 1 := l_cc (a := y_ev x (0, [(0, 1), (1, (-1))])) (by show ((0) : Int) + ((1) * x 0 + ((-1) * x 1 + 0)) = x 0 - x 1; omega) (h.2.1.1)
    have C1 : (0 : Int) ≤ x 1 - x 2 := l_cc (a := y_ev x (0, [(1, 1), (2, (-1))])) (by show ((0) : Int) + ((1) * x 1 + ((-1) * x 2 + 0)) = x 1 - x 2; omega) (h.2.1.2.1)
    have C2 : (0 : Int) ≤ x 2 - x 0 - 1 := l_cc (a := y_ev x ((-1), [(0, (-1)), (2, 1)])) (by show ((-1) : Int) + ((-1) * x 0 + ((1) * x 2 + 0)) = x 2 - x 0 - 1; omega) (h.2.1.2.2.1)
    have F0 : (0 : Int) ≤ 24 ∧ (24 : Int) < j_len 78 ∧ v 78 (24) = x 1 := l_ff (f := v 78) (L := j_len 78) (a := y_ev x (24, [])) (b := y_ev x (0, [(1, 1)])) (l_e0 _ _) (l_e1 _ _) (G0.1.1)
    have E0 : y_ev x (0, [(3, 1)]) = x 3 := (l_e1 _ _)
    have E1 : y_ev x (0, [(2, 1)]) = x 2 := (l_e1 _ _)
    have E2 : y_ev x (0, [(4, 1)]) = x 4 := (l_e1 _ _)
    have E3 : y_ev x (0, [(5, 1)]) = x 5 := (l_e1 _ _)
    have E4 : y_ev x (0, []) = 0 := (l_e0 _ _)
    have T0 : q_sto v 0 (y_ev x (0, [(3, 1)])) (y_ev x (0, [(2, 1)])) (y_ev x (0, [(4, 1)])) (y_ev x (0, [(5, 1)])) (y_ev x (0, [])) (y_ev x (0, [])) (y_ev x (0, [])) (y_ev x (0, [])) (y_ev x (0, [])) (y_ev x (0, [])) (y_ev x (0, [])) := h.2.2.2.1
    (try rw [E0] at T0); (try rw [E1] at T0); (try rw [E2] at T0); (try rw [E3] at T0); (try rw [E4] at T0)
    have K := k_bex (V := v) (i := x 0) (u := x 1) (p := x 2) (H := x 3) (y := x 4) (d := x 5) T0 C0 C1 C2 F0
    refine l_outH rfl (And.intro h.1 ?_)
    have O0 : y_ev x ((-1), []) = (-1) := l_e0 _ _
    show (0 ≤ y_ev x ((-1), []) ∧ True) ∧ (True)
    (try rw [O0])
    exact K
def lm_1025 : zLem := (([((-2147483648), 2147483647), ((-2147483648), 2147483647), ((-2147483648), 2147483647), ((-2147483648), 2147483647), ((-2147483648), 2147483647), ((-2147483648), 2147483647)], [(78, false)], [((-1), [(0, (-1)), (1, 1)]), (0, [(1, (-1)), (2, 1)]), (0, [(0, 1), (2, (-1))])], [], [(0, 0, 0, [(0, 1)])], [(0, (true, 0, 24, []), 0, 0, 0, [(1, 1)])], [(235, [(0, [(3, 1)]), (0, [(2, 1)]), (0, [(4, 1)]), (0, [(5, 1)]), (0, []), (0, []), (0, []), (0, []), (0, []), (0, []), (0, [])])]), [([((-2147483648), 2147483647), ((-2147483648), 2147483647), ((-2147483648), 2147483647), ((-2147483648), 2147483647), ((-2147483648), 2147483647), ((-2147483648), 2147483647)], [(78, false)], [((-1), [])], [], [], [], [])])
theorem lk_1025 : l_core lm_1025 := by
  first
  | skip
    intro v x h
    have G0 := h.2.2.1
    have K := k_bey (V := v) (i := x 0) (u := x 1) (p := x 2) (H := x 3) (y := x 4) (d := x 5) (l_c5 (fun w0 w1 w2 w3 w4 : Int => q_sto v 0 w0 w1 w2 w3 w4 w4 w4 w4 w4 w4 w4) (l_e1 x 3) (l_e1 x 2) (l_e1 x 4) (l_e1 x 5) (l_e0 x (0)) (h.2.2.2.1)) (l_cc (l_q6 1 x 0 1) (h.2.1.1)) (l_cc (l_q4 x 1 2) (h.2.1.2.1)) (l_cc (l_q5 x 0 2) (h.2.1.2.2.1)) (l_ff (f := v 78) (L := j_len 78) (l_e0 x (24)) (l_e1 x 1) (G0.1.1))
    refine l_outH rfl (And.intro h.1 ?_)
    exact l_o1 (fun w0 : Int => (0 ≤ w0 ∧ True) ∧ (True)) (l_e0 x (-1)) K
  | skip
    intro v x h
    have G0 := h.2.2.1
    have C0 : (0 : Int) ≤ x 1 - x 0 - 1 := l_cc (a := y_ev x ((-1), [(0, (-1)), (1, 1)])) (by show ((-1) : Int) + ((-1) * x 0 + ((1) * x 1 + 0)) = x 1 - x 0 - 1; omega) (h.2.1.1)
    have C1 : (0 : Int) ≤ x 2 - x 1 := l_cc (a := y_ev x (0, [(1, (-1)), (2, 1)])) (by show ((0) : Int) + ((-1) * x 1 + ((1) * x 2 + 0)) = x 2 - x 1; omega) (h.2.1.2.1)
    have C2 : (0 : Int) ≤ x 0 - x 2 := l_cc (a := y_ev x (0, [(0, 1), (2, (-1))])) (by show ((0) : Int) + ((1) * x 0 + ((-1) * x 2 + 0)) = x 0 - x 2; omega) (h.2.1.2.2.1)
    have F0 : (0 : Int) ≤ 24 ∧ (24 : Int) < j_len 78 ∧ v 78 (24) = x 1 := l_ff (f := v 78) (L := j_len 78) (a := y_ev x (24, [])) (b := y_ev x (0, [(1, 1)])) (l_e0 _ _) (l_e1 _ _) (G0.1.1)
    have E0 : y_ev x (0, [(3, 1)]) = x 3 := (l_e1 _ _)
    have E1 : y_ev x (0, [(2, 1)]) = x 2 := (l_e1 _ _)
    have E2 : y_ev x (0, [(4, 1)]) = x 4 := (l_e1 _ _)
    have E3 : y_ev x (0, [(5, 1)]) = x 5 := (l_e1 _ _)
    have E4 : y_ev x (0, []) = 0 := (l_e0 _ _)
    have T0 : q_sto v 0 (y_ev x (0, [(3, 1)])) (y_ev x (0, [(2, 1)])) (y_ev x (0, [(4, 1)])) (y_ev x (0, [(5, 1)])) (y_ev x (0, [])) (y_ev x (0, [])) (y_ev x (0, [])) (y_ev x (0, [])) (y_ev x (0, [])) (y_ev x (0, [])) (y_ev x (0, [])) := h.2.2.2.1
    (try rw [E0] at T0); (try rw [E1] at T0); (try rw [E2] at T0); (try rw [E3] at T0); (try rw [E4] at T0)
    have K := k_bey (V := v) (i := x 0) (u := x 1) (p := x 2) (H := x 3) (y := x 4) (d := x 5) T0 C0 C1 C2 F0
    refine l_outH rfl (And.intro h.1 ?_)
    have O0 : y_ev x ((-1), []) = (-1) := l_e0 _ _
    show (0 ≤ y_ev x ((-1), []) ∧ True) ∧ (True)
    (try rw [O0])
    exact K
def lm_1026 : zLem := (([((-2147483648), 2147483647), ((-2147483648), 2147483647), ((-2147483648), 2147483647), ((-2147483648), 2147483647), ((-2147483648), 2147483647)], [], [], [], [(0, 0, 0, [(4, 1)])], [], [(238, [(5, []), (0, [(0, 1)]), (0, []), (0, []), (0, []), (0, []), (0, []), (0, []), (0, [(1, 1)]), (0, [(2, 1)]), (0, [(4, 1)])]), (260, [(5, []), (0, [(0, 1)]), (0, []), (0, []), (0, []), (0, []), (0, []), (0, []), (0, [(1, 1)]), (0, [(2, 1)]), (0, [(3, 1)])])]), [([((-2147483648), 2147483647), ((-2147483648), 2147483647), ((-2147483648), 2147483647), ((-2147483648), 2147483647), ((-2147483648), 2147483647)], [], [(0, [(3, 1), (4, (-1))]), (0, [(3, (-1)), (4, 1)])], [], [], [], [])])
theorem lk_1026 : l_core lm_1026 := by
  first
  | skip
    intro v x h
    have K := k_qeJ (V := v) (q := x 0) (i := x 1) (j := x 2) (u := x 3) (w := x 4) (l_c6 (fun w0 w1 w2 w3 w4 w5 : Int => q_qry v w0 w1 w2 w2 w2 w2 w2 w2 w3 w4 w5) (l_e0 x (5)) (l_e1 x 0) (l_e0 x (0)) (l_e1 x 1) (l_e1 x 2) (l_e1 x 4) (h.2.2.2.1)) (l_c6 (fun w0 w1 w2 w3 w4 w5 : Int => q_qry v w0 w1 w2 w2 w2 w2 w2 w2 w3 w4 w5) (l_e0 x (5)) (l_e1 x 0) (l_e0 x (0)) (l_e1 x 1) (l_e1 x 2) (l_e1 x 3) (h.2.2.2.2.1))
    refine l_outH rfl (And.intro h.1 ?_)
    exact l_o2 (fun w0 w1 : Int => (0 ≤ w0 ∧ 0 ≤ w1 ∧ True) ∧ (True)) (l_q5 x 3 4) (l_q4 x 3 4) K
  | skip
    intro v x h
    have E0 : y_ev x (5, []) = 5 := (l_e0 _ _)
    have E1 : y_ev x (0, [(0, 1)]) = x 0 := (l_e1 _ _)
    have E2 : y_ev x (0, []) = 0 := (l_e0 _ _)
    have E3 : y_ev x (0, [(1, 1)]) = x 1 := (l_e1 _ _)
    have E4 : y_ev x (0, [(2, 1)]) = x 2 := (l_e1 _ _)
    have E5 : y_ev x (0, [(4, 1)]) = x 4 := (l_e1 _ _)
    have E6 : y_ev x (0, [(3, 1)]) = x 3 := (l_e1 _ _)
    have T0 : q_qry v (y_ev x (5, [])) (y_ev x (0, [(0, 1)])) (y_ev x (0, [])) (y_ev x (0, [])) (y_ev x (0, [])) (y_ev x (0, [])) (y_ev x (0, [])) (y_ev x (0, [])) (y_ev x (0, [(1, 1)])) (y_ev x (0, [(2, 1)])) (y_ev x (0, [(4, 1)])) := h.2.2.2.1
    (try rw [E0] at T0); (try rw [E1] at T0); (try rw [E2] at T0); (try rw [E3] at T0); (try rw [E4] at T0); (try rw [E5] at T0)
    have T1 : q_qry v (y_ev x (5, [])) (y_ev x (0, [(0, 1)])) (y_ev x (0, [])) (y_ev x (0, [])) (y_ev x (0, [])) (y_ev x (0, [])) (y_ev x (0, [])) (y_ev x (0, [])) (y_ev x (0, [(1, 1)])) (y_ev x (0, [(2, 1)])) (y_ev x (0, [(3, 1)])) := h.2.2.2.2.1
    (try rw [E0] at T1); (try rw [E1] at T1); (try rw [E2] at T1); (try rw [E3] at T1); (try rw [E4] at T1); (try rw [E6] at T1)
    have K := k_qeJ (V := v) (q := x 0) (i := x 1) (j := x 2) (u := x 3) (w := x 4) T0 T1
    refine l_outH rfl (And.intro h.1 ?_)
    have O0 : y_ev x (0, [(3, 1), (4, (-1))]) = x 3 - x 4 := by show ((0) : Int) + ((1) * x 3 + ((-1) * x 4 + 0)) = _; omega
    have O1 : y_ev x (0, [(3, (-1)), (4, 1)]) = x 4 - x 3 := by show ((0) : Int) + ((-1) * x 3 + ((1) * x 4 + 0)) = _; omega
    show (0 ≤ y_ev x (0, [(3, 1), (4, (-1))]) ∧ 0 ≤ y_ev x (0, [(3, (-1)), (4, 1)]) ∧ True) ∧ (True)
    (try rw [O0]); (try rw [O1])
    exact K
def lm_1027 : zLem := (([((-2147483648), 2147483647), ((-2147483648), 2147483647), ((-2147483648), 2147483647), ((-2147483648), 2147483647), ((-2147483648), 2147483647)], [], [(0, [(0, 1)]), ((-1), [(0, (-1)), (1, 1)]), (6, [(1, (-1))])], [], [(0, 0, 0, [(0, 1)])], [], [(235, [(0, [(1, 1)]), (0, [(2, 1)]), (0, [(3, 1)]), (0, [(4, 1)]), (0, []), (0, []), (0, []), (0, []), (0, []), (0, []), (0, [])]), (238, [(6, []), (0, []), (0, []), (0, []), (0, []), (0, []), (0, []), (0, []), (0, [(0, 1)]), (0, []), ((-1), [])])]), [([((-2147483648), 2147483647), ((-2147483648), 2147483647), ((-2147483648), 2147483647), ((-2147483648), 2147483647), ((-2147483648), 2147483647)], [], [], [], [], [], [(238, [(8, []), (0, []), (0, []), (0, []), (0, []), (0, []), (0, []), (0, []), (6, [(0, 1)]), (0, []), (0, [])])])])
theorem lk_1027 : l_core lm_1027 := by
  first
  | skip
    intro v x h
    have K := k_celL0 (V := v) (h := x 0) (H := x 1) (p := x 2) (y := x 3) (d := x 4) (l_c5 (fun w0 w1 w2 w3 w4 : Int => q_sto v 0 w0 w1 w2 w3 w4 w4 w4 w4 w4 w4 w4) (l_e1 x 1) (l_e1 x 2) (l_e1 x 3) (l_e1 x 4) (l_e0 x (0)) (h.2.2.2.1)) (l_c4 (fun w0 w1 w2 w3 : Int => q_qry v w0 w1 w1 w1 w1 w1 w1 w1 w2 w1 w3) (l_e0 x (6)) (l_e0 x (0)) (l_e1 x 0) (l_e0 x (-1)) (h.2.2.2.2.1)) (l_cc (l_e1 x 0) (h.2.1.1)) (l_cc (l_q6 1 x 0 1) (h.2.1.2.1)) (l_cc (l_q1 6 x 1) (h.2.1.2.2.1))
    refine l_outH rfl (And.intro h.1 ?_)
    exact l_o3 (fun w0 w1 w2 : Int => (True) ∧ (q_qry v w0 w1 w1 w1 w1 w1 w1 w1 w2 w1 w1 ∧ True)) (l_e0 x (8)) (l_e0 x (0)) (l_q3 6 x 0) K
  | skip
    intro v x h
    have C0 : (0 : Int) ≤ x 0 := l_cc (a := y_ev x (0, [(0, 1)])) (l_e1 _ _) (h.2.1.1)
    have C1 : (0 : Int) ≤ x 1 - x 0 - 1 := l_cc (a := y_ev x ((-1), [(0, (-1)), (1, 1)])) (by show ((-1) : Int) + ((-1) * x 0 + ((1) * x 1 + 0)) = x 1 - x 0 - 1; omega) (h.2.1.2.1)
    have C2 : (0 : Int) ≤ 6 - x 1 := l_cc (a := y_ev x (6, [(1, (-1))])) (by show ((6) : Int) + ((-1) * x 1 + 0) = 6 - x 1; omega) (h.2.1.2.2.1)
    have E0 : y_ev x (0, [(1, 1)]) = x 1 := (l_e1 _ _)
    have E1 : y_ev x (0, [(2, 1)]) = x 2 := (l_e1 _ _)
    have E2 : y_ev x (0, [(3, 1)]) = x 3 := (l_e1 _ _)
    have E3 : y_ev x (0, [(4, 1)]) = x 4 := (l_e1 _ _)
    have E4 : y_ev x (0, []) = 0 := (l_e0 _ _)
    have E5 : y_ev x (6, []) = 6 := (l_e0 _ _)
    have E6 : y_ev x (0, [(0, 1)]) = x 0 := (l_e1 _ _)
    have E7 : y_ev x ((-1), []) = (-1) := (l_e0 _ _)
    have T0 : q_sto v 0 (y_ev x (0, [(1, 1)])) (y_ev x (0, [(2, 1)])) (y_ev x (0, [(3, 1)])) (y_ev x (0, [(4, 1)])) (y_ev x (0, [])) (y_ev x (0, [])) (y_ev x (0, [])) (y_ev x (0, [])) (y_ev x (0, [])) (y_ev x (0, [])) (y_ev x (0, [])) := h.2.2.2.1
    (try rw [E0] at T0); (try rw [E1] at T0); (try rw [E2] at T0); (try rw [E3] at T0); (try rw [E4] at T0)
    have T1 : q_qry v (y_ev x (6, [])) (y_ev x (0, [])) (y_ev x (0, [])) (y_ev x (0, [])) (y_ev x (0, [])) (y_ev x (0, [])) (y_ev x (0, [])) (y_ev x (0, [])) (y_ev x (0, [(0, 1)])) (y_ev x (0, [])) (y_ev x ((-1), [])) := h.2.2.2.2.1
    (try rw [E5] at T1); (try rw [E4] at T1); (try rw [E6] at T1); (try rw [E7] at T1)
    have K := k_celL0 (V := v) (h := x 0) (H := x 1) (p := x 2) (y := x 3) (d := x 4) T0 T1 C0 C1 C2
    refine l_outH rfl (And.intro h.1 ?_)
    have O0 : y_ev x (8, []) = 8 := l_e0 _ _
    have O1 : y_ev x (0, []) = 0 := l_e0 _ _
    have O2 : y_ev x (6, [(0, 1)]) = x 0 + 6 := by show ((6) : Int) + ((1) * x 0 + 0) = _; omega
    show (True) ∧ (q_qry v (y_ev x (8, [])) (y_ev x (0, [])) (y_ev x (0, [])) (y_ev x (0, [])) (y_ev x (0, [])) (y_ev x (0, [])) (y_ev x (0, [])) (y_ev x (0, [])) (y_ev x (6, [(0, 1)])) (y_ev x (0, [])) (y_ev x (0, [])) ∧ True)
    (try rw [O0]); (try rw [O1]); (try rw [O2])
    exact K
def lm_1028 : zLem := (([((-2147483648), 2147483647), ((-2147483648), 2147483647), ((-2147483648), 2147483647), ((-2147483648), 2147483647), ((-2147483648), 2147483647)], [], [(0, [(0, 1)]), ((-1), [(0, (-1)), (1, 1)]), (6, [(1, (-1))])], [], [(0, 0, 0, [(0, 1)])], [], [(235, [(0, [(1, 1)]), (0, [(2, 1)]), (0, [(3, 1)]), (0, [(4, 1)]), (0, []), (0, []), (0, []), (0, []), (0, []), (0, []), (0, [])]), (238, [(6, []), (0, []), (0, []), (0, []), (0, []), (0, []), (0, []), (0, []), (0, [(0, 1)]), (0, []), ((-1), [])])]), [([((-2147483648), 2147483647), ((-2147483648), 2147483647), ((-2147483648), 2147483647), ((-2147483648), 2147483647), ((-2147483648), 2147483647)], [], [], [], [], [], [(238, [(8, []), (0, []), (0, []), (0, []), (0, []), (0, []), (0, []), (0, []), (12, [(0, 1)]), (0, []), (0, [])])])])
theorem lk_1028 : l_core lm_1028 := by
  first
  | skip
    intro v x h
    have K := k_celS0 (V := v) (h := x 0) (H := x 1) (p := x 2) (y := x 3) (d := x 4) (l_c5 (fun w0 w1 w2 w3 w4 : Int => q_sto v 0 w0 w1 w2 w3 w4 w4 w4 w4 w4 w4 w4) (l_e1 x 1) (l_e1 x 2) (l_e1 x 3) (l_e1 x 4) (l_e0 x (0)) (h.2.2.2.1)) (l_c4 (fun w0 w1 w2 w3 : Int => q_qry v w0 w1 w1 w1 w1 w1 w1 w1 w2 w1 w3) (l_e0 x (6)) (l_e0 x (0)) (l_e1 x 0) (l_e0 x (-1)) (h.2.2.2.2.1)) (l_cc (l_e1 x 0) (h.2.1.1)) (l_cc (l_q6 1 x 0 1) (h.2.1.2.1)) (l_cc (l_q1 6 x 1) (h.2.1.2.2.1))
    refine l_outH rfl (And.intro h.1 ?_)
    exact l_o3 (fun w0 w1 w2 : Int => (True) ∧ (q_qry v w0 w1 w1 w1 w1 w1 w1 w1 w2 w1 w1 ∧ True)) (l_e0 x (8)) (l_e0 x (0)) (l_q3 12 x 0) K
  | skip
    intro v x h
    have C0 : (0 : Int) ≤ x 0 := l_cc (a := y_ev x (0, [(0, 1)])) (l_e1 _ _) (h.2.1.1)
    have C1 : (0 : Int) ≤ x 1 - x 0 - 1 := l_cc (a := y_ev x ((-1), [(0, (-1)), (1, 1)])) (by show ((-1) : Int) + ((-1) * x 0 + ((1) * x 1 + 0)) = x 1 - x 0 - 1; omega) (h.2.1.2.1)
    have C2 : (0 : Int) ≤ 6 - x 1 := l_cc (a := y_ev x (6, [(1, (-1))])) (by show ((6) : Int) + ((-1) * x 1 + 0) = 6 - x 1; omega) (h.2.1.2.2.1)
    have E0 : y_ev x (0, [(1, 1)]) = x 1 := (l_e1 _ _)
    have E1 : y_ev x (0, [(2, 1)]) = x 2 := (l_e1 _ _)
    have E2 : y_ev x (0, [(3, 1)]) = x 3 := (l_e1 _ _)
    have E3 : y_ev x (0, [(4, 1)]) = x 4 := (l_e1 _ _)
    have E4 : y_ev x (0, []) = 0 := (l_e0 _ _)
    have E5 : y_ev x (6, []) = 6 := (l_e0 _ _)
    have E6 : y_ev x (0, [(0, 1)]) = x 0 := (l_e1 _ _)
    have E7 : y_ev x ((-1), []) = (-1) := (l_e0 _ _)
    have T0 : q_sto v 0 (y_ev x (0, [(1, 1)])) (y_ev x (0, [(2, 1)])) (y_ev x (0, [(3, 1)])) (y_ev x (0, [(4, 1)])) (y_ev x (0, [])) (y_ev x (0, [])) (y_ev x (0, [])) (y_ev x (0, [])) (y_ev x (0, [])) (y_ev x (0, [])) (y_ev x (0, [])) := h.2.2.2.1
    (try rw [E0] at T0); (try rw [E1] at T0); (try rw [E2] at T0); (try rw [E3] at T0); (try rw [E4] at T0)
    have T1 : q_qry v (y_ev x (6, [])) (y_ev x (0, [])) (y_ev x (0, [])) (y_ev x (0, [])) (y_ev x (0, [])) (y_ev x (0, [])) (y_ev x (0, [])) (y_ev x (0, [])) (y_ev x (0, [(0, 1)])) (y_ev x (0, [])) (y_ev x ((-1), [])) := h.2.2.2.2.1
    (try rw [E5] at T1); (try rw [E4] at T1); (try rw [E6] at T1); (try rw [E7] at T1)
    have K := k_celS0 (V := v) (h := x 0) (H := x 1) (p := x 2) (y := x 3) (d := x 4) T0 T1 C0 C1 C2
    refine l_outH rfl (And.intro h.1 ?_)
    have O0 : y_ev x (8, []) = 8 := l_e0 _ _
    have O1 : y_ev x (0, []) = 0 := l_e0 _ _
    have O2 : y_ev x (12, [(0, 1)]) = x 0 + 12 := by show ((12) : Int) + ((1) * x 0 + 0) = _; omega
    show (True) ∧ (q_qry v (y_ev x (8, [])) (y_ev x (0, [])) (y_ev x (0, [])) (y_ev x (0, [])) (y_ev x (0, [])) (y_ev x (0, [])) (y_ev x (0, [])) (y_ev x (0, [])) (y_ev x (12, [(0, 1)])) (y_ev x (0, [])) (y_ev x (0, [])) ∧ True)
    (try rw [O0]); (try rw [O1]); (try rw [O2])
    exact K
def lm_1029 : zLem := (([((-2147483648), 2147483647), ((-2147483648), 2147483647), ((-2147483648), 2147483647)], [], [], [], [], [], [(260, [(8, []), (0, []), (0, []), (0, []), (0, []), (0, []), (0, []), (0, []), (0, [(0, 1)]), (0, []), (0, [(1, 1)])]), (238, [(8, []), (0, []), (0, []), (0, []), (0, []), (0, []), (0, []), (0, []), (0, [(0, 1)]), (0, []), (0, [(2, 1)])])]), [([((-2147483648), 2147483647), ((-2147483648), 2147483647), ((-2147483648), 2147483647)], [], [(0, [(1, 1), (2, (-1))]), (0, [(1, (-1)), (2, 1)])], [], [], [], [])])
theorem lk_1029 : l_core lm_1029 := by
  first
  | skip
    intro v x h
    have K := k_qeC (V := v) (h := x 0) (u := x 1) (w := x 2) (l_c4 (fun w0 w1 w2 w3 : Int => q_qry v w0 w1 w1 w1 w1 w1 w1 w1 w2 w1 w3) (l_e0 x (8)) (l_e0 x (0)) (l_e1 x 0) (l_e1 x 1) (h.2.2.2.1)) (l_c4 (fun w0 w1 w2 w3 : Int => q_qry v w0 w1 w1 w1 w1 w1 w1 w1 w2 w1 w3) (l_e0 x (8)) (l_e0 x (0)) (l_e1 x 0) (l_e1 x 2) (h.2.2.2.2.1))
    refine l_outH rfl (And.intro h.1 ?_)
    exact l_o2 (fun w0 w1 : Int => (0 ≤ w0 ∧ 0 ≤ w1 ∧ True) ∧ (True)) (l_q5 x 1 2) (l_q4 x 1 2) K
  | skip
    intro v x h
    have E0 : y_ev x (8, []) = 8 := (l_e0 _ _)
    have E1 : y_ev x (0, []) = 0 := (l_e0 _ _)
    have E2 : y_ev x (0, [(0, 1)]) = x 0 := (l_e1 _ _)
    have E3 : y_ev x (0, [(1, 1)]) = x 1 := (l_e1 _ _)
    have E4 : y_ev x (0, [(2, 1)]) = x 2 := (l_e1 _ _)
    have T0 : q_qry v (y_ev x (8, [])) (y_ev x (0, [])) (y_ev x (0, [])) (y_ev x (0, [])) (y_ev x (0, [])) (y_ev x (0, [])) (y_ev x (0, [])) (y_ev x (0, [])) (y_ev x (0, [(0, 1)])) (y_ev x (0, [])) (y_ev x (0, [(1, 1)])) := h.2.2.2.1
    (try rw [E0] at T0); (try rw [E1] at T0); (try rw [E2] at T0); (try rw [E3] at T0)
    have T1 : q_qry v (y_ev x (8, [])) (y_ev x (0, [])) (y_ev x (0, [])) (y_ev x (0, [])) (y_ev x (0, [])) (y_ev x (0, [])) (y_ev x (0, [])) (y_ev x (0, [])) (y_ev x (0, [(0, 1)])) (y_ev x (0, [])) (y_ev x (0, [(2, 1)])) := h.2.2.2.2.1
    (try rw [E0] at T1); (try rw [E1] at T1); (try rw [E2] at T1); (try rw [E4] at T1)
    have K := k_qeC (V := v) (h := x 0) (u := x 1) (w := x 2) T0 T1
    refine l_outH rfl (And.intro h.1 ?_)
    have O0 : y_ev x (0, [(1, 1), (2, (-1))]) = x 1 - x 2 := by show ((0) : Int) + ((1) * x 1 + ((-1) * x 2 + 0)) = _; omega
    have O1 : y_ev x (0, [(1, (-1)), (2, 1)]) = x 2 - x 1 := by show ((0) : Int) + ((-1) * x 1 + ((1) * x 2 + 0)) = _; omega
    show (0 ≤ y_ev x (0, [(1, 1), (2, (-1))]) ∧ 0 ≤ y_ev x (0, [(1, (-1)), (2, 1)]) ∧ True) ∧ (True)
    (try rw [O0]); (try rw [O1])
    exact K
def lm_1030 : zLem := (([((-2147483648), 2147483647), ((-2147483648), 2147483647), ((-2147483648), 2147483647)], [], [], [], [], [], [(260, [(6, []), (0, []), (0, []), (0, []), (0, []), (0, []), (0, []), (0, []), (0, [(0, 1)]), (0, []), (0, [(1, 1)])]), (238, [(6, []), (0, []), (0, []), (0, []), (0, []), (0, []), (0, []), (0, []), (0, [(0, 1)]), (0, []), (0, [(2, 1)])])]), [([((-2147483648), 2147483647), ((-2147483648), 2147483647), ((-2147483648), 2147483647)], [], [(0, [(1, 1), (2, (-1))]), (0, [(1, (-1)), (2, 1)])], [], [], [], [])])
theorem lk_1030 : l_core lm_1030 := by
  first
  | skip
    intro v x h
    have K := k_qePl (V := v) (h := x 0) (u := x 1) (w := x 2) (l_c4 (fun w0 w1 w2 w3 : Int => q_qry v w0 w1 w1 w1 w1 w1 w1 w1 w2 w1 w3) (l_e0 x (6)) (l_e0 x (0)) (l_e1 x 0) (l_e1 x 1) (h.2.2.2.1)) (l_c4 (fun w0 w1 w2 w3 : Int => q_qry v w0 w1 w1 w1 w1 w1 w1 w1 w2 w1 w3) (l_e0 x (6)) (l_e0 x (0)) (l_e1 x 0) (l_e1 x 2) (h.2.2.2.2.1))
    refine l_outH rfl (And.intro h.1 ?_)
    exact l_o2 (fun w0 w1 : Int => (0 ≤ w0 ∧ 0 ≤ w1 ∧ True) ∧ (True)) (l_q5 x 1 2) (l_q4 x 1 2) K
  | skip
    intro v x h
    have E0 : y_ev x (6, []) = 6 := (l_e0 _ _)
    have E1 : y_ev x (0, []) = 0 := (l_e0 _ _)
    have E2 : y_ev x (0, [(0, 1)]) = x 0 := (l_e1 _ _)
    have E3 : y_ev x (0, [(1, 1)]) = x 1 := (l_e1 _ _)
    have E4 : y_ev x (0, [(2, 1)]) = x 2 := (l_e1 _ _)
    have T0 : q_qry v (y_ev x (6, [])) (y_ev x (0, [])) (y_ev x (0, [])) (y_ev x (0, [])) (y_ev x (0, [])) (y_ev x (0, [])) (y_ev x (0, [])) (y_ev x (0, [])) (y_ev x (0, [(0, 1)])) (y_ev x (0, [])) (y_ev x (0, [(1, 1)])) := h.2.2.2.1
    (try rw [E0] at T0); (try rw [E1] at T0); (try rw [E2] at T0); (try rw [E3] at T0)
    have T1 : q_qry v (y_ev x (6, [])) (y_ev x (0, [])) (y_ev x (0, [])) (y_ev x (0, [])) (y_ev x (0, [])) (y_ev x (0, [])) (y_ev x (0, [])) (y_ev x (0, [])) (y_ev x (0, [(0, 1)])) (y_ev x (0, [])) (y_ev x (0, [(2, 1)])) := h.2.2.2.2.1
    (try rw [E0] at T1); (try rw [E1] at T1); (try rw [E2] at T1); (try rw [E4] at T1)
    have K := k_qePl (V := v) (h := x 0) (u := x 1) (w := x 2) T0 T1
    refine l_outH rfl (And.intro h.1 ?_)
    have O0 : y_ev x (0, [(1, 1), (2, (-1))]) = x 1 - x 2 := by show ((0) : Int) + ((1) * x 1 + ((-1) * x 2 + 0)) = _; omega
    have O1 : y_ev x (0, [(1, (-1)), (2, 1)]) = x 2 - x 1 := by show ((0) : Int) + ((-1) * x 1 + ((1) * x 2 + 0)) = _; omega
    show (0 ≤ y_ev x (0, [(1, 1), (2, (-1))]) ∧ 0 ≤ y_ev x (0, [(1, (-1)), (2, 1)]) ∧ True) ∧ (True)
    (try rw [O0]); (try rw [O1])
    exact K
def lm_1031 : zLem := (([((-2147483648), 2147483647), ((-2147483648), 2147483647), ((-2147483648), 2147483647), ((-2147483648), 2147483647), ((-2147483648), 2147483647)], [], [], [], [], [], [(260, [(4, []), (0, [(0, 1)]), (0, []), (0, []), (0, []), (0, []), (0, []), (0, []), (0, [(1, 1)]), (0, [(2, 1)]), (0, [(3, 1)])]), (238, [(4, []), (0, [(0, 1)]), (0, []), (0, []), (0, []), (0, []), (0, []), (0, []), (0, [(1, 1)]), (0, [(2, 1)]), (0, [(4, 1)])])]), [([((-2147483648), 2147483647), ((-2147483648), 2147483647), ((-2147483648), 2147483647), ((-2147483648), 2147483647), ((-2147483648), 2147483647)], [], [(0, [(3, 1), (4, (-1))]), (0, [(3, (-1)), (4, 1)])], [], [], [], [])])
theorem lk_1031 : l_core lm_1031 := by
  first
  | skip
    intro v x h
    have K := k_qeLw (V := v) (q := x 0) (k := x 1) (h := x 2) (u := x 3) (w := x 4) (l_c6 (fun w0 w1 w2 w3 w4 w5 : Int => q_qry v w0 w1 w2 w2 w2 w2 w2 w2 w3 w4 w5) (l_e0 x (4)) (l_e1 x 0) (l_e0 x (0)) (l_e1 x 1) (l_e1 x 2) (l_e1 x 3) (h.2.2.2.1)) (l_c6 (fun w0 w1 w2 w3 w4 w5 : Int => q_qry v w0 w1 w2 w2 w2 w2 w2 w2 w3 w4 w5) (l_e0 x (4)) (l_e1 x 0) (l_e0 x (0)) (l_e1 x 1) (l_e1 x 2) (l_e1 x 4) (h.2.2.2.2.1))
    refine l_outH rfl (And.intro h.1 ?_)
    exact l_o2 (fun w0 w1 : Int => (0 ≤ w0 ∧ 0 ≤ w1 ∧ True) ∧ (True)) (l_q5 x 3 4) (l_q4 x 3 4) K
  | skip
    intro v x h
    have E0 : y_ev x (4, []) = 4 := (l_e0 _ _)
    have E1 : y_ev x (0, [(0, 1)]) = x 0 := (l_e1 _ _)
    have E2 : y_ev x (0, []) = 0 := (l_e0 _ _)
    have E3 : y_ev x (0, [(1, 1)]) = x 1 := (l_e1 _ _)
    have E4 : y_ev x (0, [(2, 1)]) = x 2 := (l_e1 _ _)
    have E5 : y_ev x (0, [(3, 1)]) = x 3 := (l_e1 _ _)
    have E6 : y_ev x (0, [(4, 1)]) = x 4 := (l_e1 _ _)
    have T0 : q_qry v (y_ev x (4, [])) (y_ev x (0, [(0, 1)])) (y_ev x (0, [])) (y_ev x (0, [])) (y_ev x (0, [])) (y_ev x (0, [])) (y_ev x (0, [])) (y_ev x (0, [])) (y_ev x (0, [(1, 1)])) (y_ev x (0, [(2, 1)])) (y_ev x (0, [(3, 1)])) := h.2.2.2.1
    (try rw [E0] at T0); (try rw [E1] at T0); (try rw [E2] at T0); (try rw [E3] at T0); (try rw [E4] at T0); (try rw [E5] at T0)
    have T1 : q_qry v (y_ev x (4, [])) (y_ev x (0, [(0, 1)])) (y_ev x (0, [])) (y_ev x (0, [])) (y_ev x (0, [])) (y_ev x (0, [])) (y_ev x (0, [])) (y_ev x (0, [])) (y_ev x (0, [(1, 1)])) (y_ev x (0, [(2, 1)])) (y_ev x (0, [(4, 1)])) := h.2.2.2.2.1
    (try rw [E0] at T1); (try rw [E1] at T1); (try rw [E2] at T1); (try rw [E3] at T1); (try rw [E4] at T1); (try rw [E6] at T1)
    have K := k_qeLw (V := v) (q := x 0) (k := x 1) (h := x 2) (u := x 3) (w := x 4) T0 T1
    refine l_outH rfl (And.intro h.1 ?_)
    have O0 : y_ev x (0, [(3, 1), (4, (-1))]) = x 3 - x 4 := by show ((0) : Int) + ((1) * x 3 + ((-1) * x 4 + 0)) = _; omega
    have O1 : y_ev x (0, [(3, (-1)), (4, 1)]) = x 4 - x 3 := by show ((0) : Int) + ((-1) * x 3 + ((1) * x 4 + 0)) = _; omega
    show (0 ≤ y_ev x (0, [(3, 1), (4, (-1))]) ∧ 0 ≤ y_ev x (0, [(3, (-1)), (4, 1)]) ∧ True) ∧ (True)
    (try rw [O0]); (try rw [O1])
    exact K
def lm_1032 : zLem := (([((-2147483648), 2147483647), ((-2147483648), 2147483647)], [(20, false)], [(0, [(0, 1)]), (5, [(0, (-1))])], [], [(0, 0, 0, [(0, 1)])], [(0, (true, 0, 0, [(0, 1)]), 0, 0, 0, [(1, 1)])], []), [([((-2147483648), 2147483647), ((-2147483648), 2147483647)], [(20, false)], [], [], [], [], [(262, [(0, [(0, 1)]), (0, [(1, 1)])])])])
theorem lk_1032 : l_core lm_1032 := by
  first
  | skip
    intro v x h
    have G0 := h.2.2.1
    have K := k_sfvC (V := v) (h := x 0) (u := x 1) (l_cc (l_e1 x 0) (h.2.1.1)) (l_cc (l_q1 5 x 0) (h.2.1.2.1)) (l_ff (f := v 20) (L := j_len 20) (l_e1 x 0) (l_e1 x 1) (G0.1.1))
    refine l_outH rfl (And.intro h.1 ?_)
    exact l_o2 (fun w0 w1 : Int => (True) ∧ ((v 20 w0 = w1) ∧ True)) (l_e1 x 0) (l_e1 x 1) K
  | skip
    intro v x h
    have G0 := h.2.2.1
    have C0 : (0 : Int) ≤ x 0 := l_cc (a := y_ev x (0, [(0, 1)])) (l_e1 _ _) (h.2.1.1)
    have C1 : (0 : Int) ≤ 5 - x 0 := l_cc (a := y_ev x (5, [(0, (-1))])) (by show ((5) : Int) + ((-1) * x 0 + 0) = 5 - x 0; omega) (h.2.1.2.1)
    have F0 : (0 : Int) ≤ x 0 ∧ (x 0 : Int) < j_len 20 ∧ v 20 (x 0) = x 1 := l_ff (f := v 20) (L := j_len 20) (a := y_ev x (0, [(0, 1)])) (b := y_ev x (0, [(1, 1)])) (l_e1 _ _) (l_e1 _ _) (G0.1.1)
    have K := k_sfvC (V := v) (h := x 0) (u := x 1) C0 C1 F0
    refine l_outH rfl (And.intro h.1 ?_)
    have O0 : y_ev x (0, [(0, 1)]) = x 0 := l_e1 _ _
    have O1 : y_ev x (0, [(1, 1)]) = x 1 := l_e1 _ _
    show (True) ∧ ((v 20 (y_ev x (0, [(0, 1)])) = (y_ev x (0, [(1, 1)]))) ∧ True)
    (try rw [O0]); (try rw [O1])
    exact K
def lm_1033 : zLem := (([((-2147483648), 2147483647), ((-2147483648), 2147483647), ((-2147483648), 2147483647)], [], [], [], [(0, 0, 0, [(1, 1)]), (0, 0, 0, [(2, 1)])], [], [(262, [(0, [(0, 1)]), (0, [(1, 1)])]), (262, [(0, [(0, 1)]), (0, [(2, 1)])])]), [([((-2147483648), 2147483647), ((-2147483648), 2147483647), ((-2147483648), 2147483647)], [], [(0, [(1, 1), (2, (-1))]), (0, [(1, (-1)), (2, 1)])], [], [], [], [])])
theorem lk_1033 : l_core lm_1033 := by
  first
  | skip
    intro v x h
    have K := k_sfe (V := v) (h := x 0) (u := x 1) (w := x 2) (l_c2 (fun w0 w1 : Int => v 20 w0 = w1) (l_e1 x 0) (l_e1 x 1) (h.2.2.2.1)) (l_c2 (fun w0 w1 : Int => v 20 w0 = w1) (l_e1 x 0) (l_e1 x 2) (h.2.2.2.2.1))
    refine l_outH rfl (And.intro h.1 ?_)
    exact l_o2 (fun w0 w1 : Int => (0 ≤ w0 ∧ 0 ≤ w1 ∧ True) ∧ (True)) (l_q5 x 1 2) (l_q4 x 1 2) K
  | skip
    intro v x h
    have E0 : y_ev x (0, [(0, 1)]) = x 0 := (l_e1 _ _)
    have E1 : y_ev x (0, [(1, 1)]) = x 1 := (l_e1 _ _)
    have E2 : y_ev x (0, [(2, 1)]) = x 2 := (l_e1 _ _)
    have T0 : v 20 (y_ev x (0, [(0, 1)])) = (y_ev x (0, [(1, 1)])) := h.2.2.2.1
    (try rw [E0] at T0); (try rw [E1] at T0)
    have T1 : v 20 (y_ev x (0, [(0, 1)])) = (y_ev x (0, [(2, 1)])) := h.2.2.2.2.1
    (try rw [E0] at T1); (try rw [E2] at T1)
    have K := k_sfe (V := v) (h := x 0) (u := x 1) (w := x 2) T0 T1
    refine l_outH rfl (And.intro h.1 ?_)
    have O0 : y_ev x (0, [(1, 1), (2, (-1))]) = x 1 - x 2 := by show ((0) : Int) + ((1) * x 1 + ((-1) * x 2 + 0)) = _; omega
    have O1 : y_ev x (0, [(1, (-1)), (2, 1)]) = x 2 - x 1 := by show ((0) : Int) + ((-1) * x 1 + ((1) * x 2 + 0)) = _; omega
    show (0 ≤ y_ev x (0, [(1, 1), (2, (-1))]) ∧ 0 ≤ y_ev x (0, [(1, (-1)), (2, 1)]) ∧ True) ∧ (True)
    (try rw [O0]); (try rw [O1])
    exact K
def lm_1034 : zLem := (([((-2147483648), 2147483647), ((-2147483648), 2147483647), ((-2147483648), 2147483647)], [(78, false)], [(0, [(0, 1)]), (5, [(0, (-1))])], [], [(0, 0, 0, [(0, 1)])], [(0, (true, 0, 12, [(0, 1)]), 0, 0, 0, [(1, 1)])], [(237, [(0, [(2, 1)]), (0, []), (0, []), (0, []), (0, []), (0, []), (0, []), (0, [])])]), [([((-2147483648), 2147483647), ((-2147483648), 2147483647), ((-2147483648), 2147483647)], [(78, false)], [], [], [], [], [(238, [(8, []), (0, []), (0, []), (0, []), (0, []), (0, []), (0, []), (0, []), (12, [(0, 1)]), (0, []), (0, [(1, 1)])])])])
theorem lk_1034 : l_core lm_1034 := by
  first
  | skip
    intro v x h
    have G0 := h.2.2.1
    have K := k_rcelz12 (V := v) (h := x 0) (u := x 1) (H := x 2) (l_c2 (fun w0 w1 : Int => q_rwo v w0 w1 w1 w1 w1 w1 w1 w1) (l_e1 x 2) (l_e0 x (0)) (h.2.2.2.1)) (l_cc (l_e1 x 0) (h.2.1.1)) (l_cc (l_q1 5 x 0) (h.2.1.2.1)) (l_ff (f := v 78) (L := j_len 78) (l_q3 12 x 0) (l_e1 x 1) (G0.1.1))
    refine l_outH rfl (And.intro h.1 ?_)
    exact l_o4 (fun w0 w1 w2 w3 : Int => (True) ∧ (q_qry v w0 w1 w1 w1 w1 w1 w1 w1 w2 w1 w3 ∧ True)) (l_e0 x (8)) (l_e0 x (0)) (l_q3 12 x 0) (l_e1 x 1) K
  | skip
    intro v x h
    have G0 := h.2.2.1
    have C0 : (0 : Int) ≤ x 0 := l_cc (a := y_ev x (0, [(0, 1)])) (l_e1 _ _) (h.2.1.1)
    have C1 : (0 : Int) ≤ 5 - x 0 := l_cc (a := y_ev x (5, [(0, (-1))])) (by show ((5) : Int) + ((-1) * x 0 + 0) = 5 - x 0; omega) (h.2.1.2.1)
    have F0 : (0 : Int) ≤ x 0 + 12 ∧ (x 0 + 12 : Int) < j_len 78 ∧ v 78 (x 0 + 12) = x 1 := l_ff (f := v 78) (L := j_len 78) (a := y_ev x (12, [(0, 1)])) (b := y_ev x (0, [(1, 1)])) (by show ((12) : Int) + ((1) * x 0 + 0) = x 0 + 12; omega) (l_e1 _ _) (G0.1.1)
    have E0 : y_ev x (0, [(2, 1)]) = x 2 := (l_e1 _ _)
    have E1 : y_ev x (0, []) = 0 := (l_e0 _ _)
    have T0 : q_rwo v (y_ev x (0, [(2, 1)])) (y_ev x (0, [])) (y_ev x (0, [])) (y_ev x (0, [])) (y_ev x (0, [])) (y_ev x (0, [])) (y_ev x (0, [])) (y_ev x (0, [])) := h.2.2.2.1
    (try rw [E0] at T0); (try rw [E1] at T0)
    have K := k_rcelz12 (V := v) (h := x 0) (u := x 1) (H := x 2) T0 C0 C1 F0
    refine l_outH rfl (And.intro h.1 ?_)
    have O0 : y_ev x (8, []) = 8 := l_e0 _ _
    have O1 : y_ev x (0, []) = 0 := l_e0 _ _
    have O2 : y_ev x (12, [(0, 1)]) = x 0 + 12 := by show ((12) : Int) + ((1) * x 0 + 0) = _; omega
    have O3 : y_ev x (0, [(1, 1)]) = x 1 := l_e1 _ _
    show (True) ∧ (q_qry v (y_ev x (8, [])) (y_ev x (0, [])) (y_ev x (0, [])) (y_ev x (0, [])) (y_ev x (0, [])) (y_ev x (0, [])) (y_ev x (0, [])) (y_ev x (0, [])) (y_ev x (12, [(0, 1)])) (y_ev x (0, [])) (y_ev x (0, [(1, 1)])) ∧ True)
    (try rw [O0]); (try rw [O1]); (try rw [O2]); (try rw [O3])
    exact K
def lm_1035 : zLem := (([((-2147483648), 2147483647), ((-2147483648), 2147483647), ((-2147483648), 2147483647)], [], [(0, [(0, 1)]), (5, [(0, (-1))]), (0, [(1, (-1))])], [], [(0, 0, 0, [(0, 1)])], [], [(237, [(0, [(2, 1)]), (0, []), (0, []), (0, []), (0, []), (0, []), (0, []), (0, [])]), (238, [(8, []), (0, []), (0, []), (0, []), (0, []), (0, []), (0, []), (0, []), (6, [(0, 1)]), (0, []), (0, [(1, 1)])])]), [([((-2147483648), 2147483647), ((-2147483648), 2147483647), ((-2147483648), 2147483647)], [], [], [], [], [], [(238, [(6, []), (0, []), (0, []), (0, []), (0, []), (0, []), (0, []), (0, []), (0, [(0, 1)]), (0, []), ((-1), [])])])])
theorem lk_1035 : l_core lm_1035 := by
  first
  | skip
    intro v x h
    have K := k_plcN (V := v) (h := x 0) (x := x 1) (H := x 2) (l_c2 (fun w0 w1 : Int => q_rwo v w0 w1 w1 w1 w1 w1 w1 w1) (l_e1 x 2) (l_e0 x (0)) (h.2.2.2.1)) (l_c4 (fun w0 w1 w2 w3 : Int => q_qry v w0 w1 w1 w1 w1 w1 w1 w1 w2 w1 w3) (l_e0 x (8)) (l_e0 x (0)) (l_q3 6 x 0) (l_e1 x 1) (h.2.2.2.2.1)) (l_cc (l_e1 x 0) (h.2.1.1)) (l_cc (l_q1 5 x 0) (h.2.1.2.1)) (l_cc (l_q7 x 1) (h.2.1.2.2.1))
    refine l_outH rfl (And.intro h.1 ?_)
    exact l_o4 (fun w0 w1 w2 w3 : Int => (True) ∧ (q_qry v w0 w1 w1 w1 w1 w1 w1 w1 w2 w1 w3 ∧ True)) (l_e0 x (6)) (l_e0 x (0)) (l_e1 x 0) (l_e0 x (-1)) K
  | skip
    intro v x h
    have C0 : (0 : Int) ≤ x 0 := l_cc (a := y_ev x (0, [(0, 1)])) (l_e1 _ _) (h.2.1.1)
    have C1 : (0 : Int) ≤ 5 - x 0 := l_cc (a := y_ev x (5, [(0, (-1))])) (by show ((5) : Int) + ((-1) * x 0 + 0) = 5 - x 0; omega) (h.2.1.2.1)
    have C2 : (0 : Int) ≤ -x 1 := l_cc (a := y_ev x (0, [(1, (-1))])) (by show ((0) : Int) + ((-1) * x 1 + 0) = -x 1; omega) (h.2.1.2.2.1)
    have E0 : y_ev x (0, [(2, 1)]) = x 2 := (l_e1 _ _)
    have E1 : y_ev x (0, []) = 0 := (l_e0 _ _)
    have E2 : y_ev x (8, []) = 8 := (l_e0 _ _)
    have E3 : y_ev x (6, [(0, 1)]) = x 0 + 6 := (by show ((6) : Int) + ((1) * x 0 + 0) = x 0 + 6; omega)
    have E4 : y_ev x (0, [(1, 1)]) = x 1 := (l_e1 _ _)
    have T0 : q_rwo v (y_ev x (0, [(2, 1)])) (y_ev x (0, [])) (y_ev x (0, [])) (y_ev x (0, [])) (y_ev x (0, [])) (y_ev x (0, [])) (y_ev x (0, [])) (y_ev x (0, [])) := h.2.2.2.1
    (try rw [E0] at T0); (try rw [E1] at T0)
    have T1 : q_qry v (y_ev x (8, [])) (y_ev x (0, [])) (y_ev x (0, [])) (y_ev x (0, [])) (y_ev x (0, [])) (y_ev x (0, [])) (y_ev x (0, [])) (y_ev x (0, [])) (y_ev x (6, [(0, 1)])) (y_ev x (0, [])) (y_ev x (0, [(1, 1)])) := h.2.2.2.2.1
    (try rw [E2] at T1); (try rw [E1] at T1); (try rw [E3] at T1); (try rw [E4] at T1)
    have K := k_plcN (V := v) (h := x 0) (x := x 1) (H := x 2) T0 T1 C0 C1 C2
    refine l_outH rfl (And.intro h.1 ?_)
    have O0 : y_ev x (6, []) = 6 := l_e0 _ _
    have O1 : y_ev x (0, []) = 0 := l_e0 _ _
    have O2 : y_ev x (0, [(0, 1)]) = x 0 := l_e1 _ _
    have O3 : y_ev x ((-1), []) = (-1) := l_e0 _ _
    show (True) ∧ (q_qry v (y_ev x (6, [])) (y_ev x (0, [])) (y_ev x (0, [])) (y_ev x (0, [])) (y_ev x (0, [])) (y_ev x (0, [])) (y_ev x (0, [])) (y_ev x (0, [])) (y_ev x (0, [(0, 1)])) (y_ev x (0, [])) (y_ev x ((-1), [])) ∧ True)
    (try rw [O0]); (try rw [O1]); (try rw [O2]); (try rw [O3])
    exact K
def lm_1036 : zLem := (([((-2147483648), 2147483647), ((-2147483648), 2147483647), ((-2147483648), 2147483647), ((-2147483648), 2147483647), ((-2147483648), 2147483647), ((-2147483648), 2147483647), ((-2147483648), 2147483647)], [], [(0, [(0, 1)]), (6, [(3, (-1))]), (0, [(1, (-1))])], [], [(0, 0, 0, [(0, 1)]), (0, 0, 0, [(1, 1)])], [], [(235, [(0, [(2, 1)]), (0, [(3, 1)]), (0, [(4, 1)]), (0, [(5, 1)]), (0, []), (0, []), (0, []), (0, []), (0, []), (0, []), (0, [])]), (238, [(6, []), (0, []), (0, []), (0, []), (0, []), (0, []), (0, []), (0, []), (0, [(6, 1)]), (0, []), (0, [(0, 1)])]), (238, [(1, []), (0, []), (0, []), (0, []), (0, []), (0, []), (0, []), (0, []), (0, []), (0, [(3, 1)]), (0, [(1, 1)])])]), [([((-2147483648), 2147483647), ((-2147483648), 2147483647), ((-2147483648), 2147483647), ((-2147483648), 2147483647), ((-2147483648), 2147483647), ((-2147483648), 2147483647), ((-2147483648), 2147483647)], [], [((-1), [])], [], [], [], [])])
theorem lk_1036 : l_core lm_1036 := by
  first
  | skip
    intro v x h
    have K := k_suml (V := v) (i := x 0) (n := x 1) (H := x 2) (p := x 3) (y := x 4) (d := x 5) (h := x 6) (l_c5 (fun w0 w1 w2 w3 w4 : Int => q_sto v 0 w0 w1 w2 w3 w4 w4 w4 w4 w4 w4 w4) (l_e1 x 2) (l_e1 x 3) (l_e1 x 4) (l_e1 x 5) (l_e0 x (0)) (h.2.2.2.1)) (l_c4 (fun w0 w1 w2 w3 : Int => q_qry v w0 w1 w1 w1 w1 w1 w1 w1 w2 w1 w3) (l_e0 x (6)) (l_e0 x (0)) (l_e1 x 6) (l_e1 x 0) (h.2.2.2.2.1)) (l_c4 (fun w0 w1 w2 w3 : Int => q_qry v w0 w1 w1 w1 w1 w1 w1 w1 w1 w2 w3) (l_e0 x (1)) (l_e0 x (0)) (l_e1 x 3) (l_e1 x 1) (h.2.2.2.2.2.1)) (l_cc (l_e1 x 0) (h.2.1.1)) (l_cc (l_q1 6 x 3) (h.2.1.2.1)) (l_cc (l_q7 x 1) (h.2.1.2.2.1))
    refine l_outH rfl (And.intro h.1 ?_)
    exact l_o1 (fun w0 : Int => (0 ≤ w0 ∧ True) ∧ (True)) (l_e0 x (-1)) K
  | skip
    intro v x h
    have C0 : (0 : Int) ≤ x 0 := l_cc (a := y_ev x (0, [(0, 1)])) (l_e1 _ _) (h.2.1.1)
    have C1 : (0 : Int) ≤ 6 - x 3 := l_cc (a := y_ev x (6, [(3, (-1))])) (by show ((6) : Int) + ((-1) * x 3 + 0) = 6 - x 3; omega) (h.2.1.2.1)
    have C2 : (0 : Int) ≤ -x 1 := l_cc (a := y_ev x (0, [(1, (-1))])) (by show ((0) : Int) + ((-1) * x 1 + 0) = -x 1; omega) (h.2.1.2.2.1)
    have E0 : y_ev x (0, [(2, 1)]) = x 2 := (l_e1 _ _)
    have E1 : y_ev x (0, [(3, 1)]) = x 3 := (l_e1 _ _)
    have E2 : y_ev x (0, [(4, 1)]) = x 4 := (l_e1 _ _)
    have E3 : y_ev x (0, [(5, 1)]) = x 5 := (l_e1 _ _)
    have E4 : y_ev x (0, []) = 0 := (l_e0 _ _)
    have E5 : y_ev x (6, []) = 6 := (l_e0 _ _)
    have E6 : y_ev x (0, [(6, 1)]) = x 6 := (l_e1 _ _)
    have E7 : y_ev x (0, [(0, 1)]) = x 0 := (l_e1 _ _)
    have E8 : y_ev x (1, []) = 1 := (l_e0 _ _)
    have E9 : y_ev x (0, [(1, 1)]) = x 1 := (l_e1 _ _)
    have T0 : q_sto v 0 (y_ev x (0, [(2, 1)])) (y_ev x (0, [(3, 1)])) (y_ev x (0, [(4, 1)])) (y_ev x (0, [(5, 1)])) (y_ev x (0, [])) (y_ev x (0, [])) (y_ev x (0, [])) (y_ev x (0, [])) (y_ev x (0, [])) (y_ev x (0, [])) (y_ev x (0, [])) := h.2.2.2.1
    (try rw [E0] at T0); (try rw [E1] at T0); (try rw [E2] at T0); (try rw [E3] at T0); (try rw [E4] at T0)
    have T1 : q_qry v (y_ev x (6, [])) (y_ev x (0, [])) (y_ev x (0, [])) (y_ev x (0, [])) (y_ev x (0, [])) (y_ev x (0, [])) (y_ev x (0, [])) (y_ev x (0, [])) (y_ev x (0, [(6, 1)])) (y_ev x (0, [])) (y_ev x (0, [(0, 1)])) := h.2.2.2.2.1
    (try rw [E5] at T1); (try rw [E4] at T1); (try rw [E6] at T1); (try rw [E7] at T1)
    have T2 : q_qry v (y_ev x (1, [])) (y_ev x (0, [])) (y_ev x (0, [])) (y_ev x (0, [])) (y_ev x (0, [])) (y_ev x (0, [])) (y_ev x (0, [])) (y_ev x (0, [])) (y_ev x (0, [])) (y_ev x (0, [(3, 1)])) (y_ev x (0, [(1, 1)])) := h.2.2.2.2.2.1
    (try rw [E8] at T2); (try rw [E4] at T2); (try rw [E1] at T2); (try rw [E9] at T2)
    have K := k_suml (V := v) (i := x 0) (n := x 1) (H := x 2) (p := x 3) (y := x 4) (d := x 5) (h := x 6) T0 T1 T2 C0 C1 C2
    refine l_outH rfl (And.intro h.1 ?_)
    have O0 : y_ev x ((-1), []) = (-1) := l_e0 _ _
    show (0 ≤ y_ev x ((-1), []) ∧ True) ∧ (True)
    (try rw [O0])
    exact K
def lm_1037 : zLem := (([((-2147483648), 2147483647), ((-2147483648), 2147483647), ((-2147483648), 2147483647), ((-2147483648), 2147483647), ((-2147483648), 2147483647)], [(78, false)], [(0, [(0, 1)]), (5, [(0, (-1))]), ((-1), [(1, 1)])], [], [(0, 0, 0, [(0, 1)]), (0, 0, 0, [(3, 1)])], [(0, (true, 0, 24, []), 0, 0, 0, [(2, 1)])], [(237, [(0, [(4, 1)]), (0, []), (0, []), (0, []), (0, []), (0, []), (0, []), (0, [])]), (238, [(8, []), (0, []), (0, []), (0, []), (0, []), (0, []), (0, []), (0, []), (6, [(0, 1)]), (0, []), (0, [(1, 1)])]), (238, [(1, []), (0, []), (0, []), (0, []), (0, []), (0, []), (0, []), (0, []), (0, []), (0, [(2, 1)]), (0, [(3, 1)])])]), [([((-2147483648), 2147483647), ((-2147483648), 2147483647), ((-2147483648), 2147483647), ((-2147483648), 2147483647), ((-2147483648), 2147483647)], [(78, false)], [((-1), [(3, 1)])], [], [], [], [])])
theorem lk_1037 : l_core lm_1037 := by
  first
  | skip
    intro v x h
    have G0 := h.2.2.1
    have K := k_msuml (V := v) (h := x 0) (x := x 1) (p := x 2) (n := x 3) (H := x 4) (l_c2 (fun w0 w1 : Int => q_rwo v w0 w1 w1 w1 w1 w1 w1 w1) (l_e1 x 4) (l_e0 x (0)) (h.2.2.2.1)) (l_c4 (fun w0 w1 w2 w3 : Int => q_qry v w0 w1 w1 w1 w1 w1 w1 w1 w2 w1 w3) (l_e0 x (8)) (l_e0 x (0)) (l_q3 6 x 0) (l_e1 x 1) (h.2.2.2.2.1)) (l_c4 (fun w0 w1 w2 w3 : Int => q_qry v w0 w1 w1 w1 w1 w1 w1 w1 w1 w2 w3) (l_e0 x (1)) (l_e0 x (0)) (l_e1 x 2) (l_e1 x 3) (h.2.2.2.2.2.1)) (l_cc (l_e1 x 0) (h.2.1.1)) (l_cc (l_q1 5 x 0) (h.2.1.2.1)) (l_cc (l_q2 1 x 1) (h.2.1.2.2.1)) (l_ff (f := v 78) (L := j_len 78) (l_e0 x (24)) (l_e1 x 2) (G0.1.1))
    refine l_outH rfl (And.intro h.1 ?_)
    exact l_o1 (fun w0 : Int => (0 ≤ w0 ∧ True) ∧ (True)) (l_q2 1 x 3) K
  | skip
    intro v x h
    have G0 := h.2.2.1
    have C0 : (0 : Int) ≤ x 0 := l_cc (a := y_ev x (0, [(0, 1)])) (l_e1 _ _) (h.2.1.1)
    have C1 : (0 : Int) ≤ 5 - x 0 := l_cc (a := y_ev x (5, [(0, (-1))])) (by show ((5) : Int) + ((-1) * x 0 + 0) = 5 - x 0; omega) (h.2.1.2.1)
    have C2 : (0 : Int) ≤ x 1 - 1 := l_cc (a := y_ev x ((-1), [(1, 1)])) (by show ((-1) : Int) + ((1) * x 1 + 0) = x 1 - 1; omega) (h.2.1.2.2.1)
    have F0 : (0 : Int) ≤ 24 ∧ (24 : Int) < j_len 78 ∧ v 78 (24) = x 2 := l_ff (f := v 78) (L := j_len 78) (a := y_ev x (24, [])) (b := y_ev x (0, [(2, 1)])) (l_e0 _ _) (l_e1 _ _) (G0.1.1)
    have E0 : y_ev x (0, [(4, 1)]) = x 4 := (l_e1 _ _)
    have E1 : y_ev x (0, []) = 0 := (l_e0 _ _)
    have E2 : y_ev x (8, []) = 8 := (l_e0 _ _)
    have E3 : y_ev x (6, [(0, 1)]) = x 0 + 6 := (by show ((6) : Int) + ((1) * x 0 + 0) = x 0 + 6; omega)
    have E4 : y_ev x (0, [(1, 1)]) = x 1 := (l_e1 _ _)
    have E5 : y_ev x (1, []) = 1 := (l_e0 _ _)
    have E6 : y_ev x (0, [(2, 1)]) = x 2 := (l_e1 _ _)
    have E7 : y_ev x (0, [(3, 1)]) = x 3 := (l_e1 _ _)
    have T0 : q_rwo v (y_ev x (0, [(4, 1)])) (y_ev x (0, [])) (y_ev x (0, [])) (y_ev x (0, [])) (y_ev x (0, [])) (y_ev x (0, [])) (y_ev x (0, [])) (y_ev x (0, [])) := h.2.2.2.1
    (try rw [E0] at T0); (try rw [E1] at T0)
    have T1 : q_qry v (y_ev x (8, [])) (y_ev x (0, [])) (y_ev x (0, [])) (y_ev x (0, [])) (y_ev x (0, [])) (y_ev x (0, [])) (y_ev x (0, [])) (y_ev x (0, [])) (y_ev x (6, [(0, 1)])) (y_ev x (0, [])) (y_ev x (0, [(1, 1)])) := h.2.2.2.2.1
    (try rw [E2] at T1); (try rw [E1] at T1); (try rw [E3] at T1); (try rw [E4] at T1)
    have T2 : q_qry v (y_ev x (1, [])) (y_ev x (0, [])) (y_ev x (0, [])) (y_ev x (0, [])) (y_ev x (0, [])) (y_ev x (0, [])) (y_ev x (0, [])) (y_ev x (0, [])) (y_ev x (0, [])) (y_ev x (0, [(2, 1)])) (y_ev x (0, [(3, 1)])) := h.2.2.2.2.2.1
    (try rw [E5] at T2); (try rw [E1] at T2); (try rw [E6] at T2); (try rw [E7] at T2)
    have K := k_msuml (V := v) (h := x 0) (x := x 1) (p := x 2) (n := x 3) (H := x 4) T0 T1 T2 C0 C1 C2 F0
    refine l_outH rfl (And.intro h.1 ?_)
    have O0 : y_ev x ((-1), [(3, 1)]) = x 3 - 1 := by show ((-1) : Int) + ((1) * x 3 + 0) = _; omega
    show (0 ≤ y_ev x ((-1), [(3, 1)]) ∧ True) ∧ (True)
    (try rw [O0])
    exact K
def lm_1038 : zLem := (([((-2147483648), 2147483647), ((-2147483648), 2147483647), ((-2147483648), 2147483647), ((-2147483648), 2147483647), ((-2147483648), 2147483647), ((-2147483648), 2147483647)], [], [(0, [(0, 1), (1, (-1))]), (0, [(0, (-1)), (1, 1)]), (0, [(2, 1), (3, (-1))]), (0, [(2, (-1)), (3, 1)])], [], [(0, 0, 0, [(4, 1)]), (0, 0, 0, [(5, 1)])], [], [(107, [(0, [(0, 1)]), (0, [(2, 1)]), (0, [(4, 1)])]), (107, [(0, [(1, 1)]), (0, [(3, 1)]), (0, [(5, 1)])])]), [([((-2147483648), 2147483647), ((-2147483648), 2147483647), ((-2147483648), 2147483647), ((-2147483648), 2147483647), ((-2147483648), 2147483647), ((-2147483648), 2147483647)], [], [(0, [(4, 1), (5, (-1))]), (0, [(4, (-1)), (5, 1)])], [], [], [], [])])
theorem lk_1038 : l_core lm_1038 := by
  first
  | skip
    intro v x h
    have K := k_qdiv (V := v) (a := x 0) (b := x 1) (n := x 2) (k := x 3) (u := x 4) (w := x 5) (l_c3 (fun w0 w1 w2 : Int => (mOP 107 (Int32.ofInt w0) (Int32.ofInt w1)).toInt = w2) (l_e1 x 0) (l_e1 x 2) (l_e1 x 4) (h.2.2.2.1)) (l_c3 (fun w0 w1 w2 : Int => (mOP 107 (Int32.ofInt w0) (Int32.ofInt w1)).toInt = w2) (l_e1 x 1) (l_e1 x 3) (l_e1 x 5) (h.2.2.2.2.1)) (l_cc (l_q5 x 0 1) (h.2.1.1)) (l_cc (l_q4 x 0 1) (h.2.1.2.1)) (l_cc (l_q5 x 2 3) (h.2.1.2.2.1)) (l_cc (l_q4 x 2 3) (h.2.1.2.2.2.1))
    refine l_outH rfl (And.intro h.1 ?_)
    exact l_o2 (fun w0 w1 : Int => (0 ≤ w0 ∧ 0 ≤ w1 ∧ True) ∧ (True)) (l_q5 x 4 5) (l_q4 x 4 5) K
  | skip
    intro v x h
    have C0 : (0 : Int) ≤ x 0 - x 1 := l_cc (a := y_ev x (0, [(0, 1), (1, (-1))])) (by show ((0) : Int) + ((1) * x 0 + ((-1) * x 1 + 0)) = x 0 - x 1; omega) (h.2.1.1)
    have C1 : (0 : Int) ≤ x 1 - x 0 := l_cc (a := y_ev x (0, [(0, (-1)), (1, 1)])) (by show ((0) : Int) + ((-1) * x 0 + ((1) * x 1 + 0)) = x 1 - x 0; omega) (h.2.1.2.1)
    have C2 : (0 : Int) ≤ x 2 - x 3 := l_cc (a := y_ev x (0, [(2, 1), (3, (-1))])) (by show ((0) : Int) + ((1) * x 2 + ((-1) * x 3 + 0)) = x 2 - x 3; omega) (h.2.1.2.2.1)
    have C3 : (0 : Int) ≤ x 3 - x 2 := l_cc (a := y_ev x (0, [(2, (-1)), (3, 1)])) (by show ((0) : Int) + ((-1) * x 2 + ((1) * x 3 + 0)) = x 3 - x 2; omega) (h.2.1.2.2.2.1)
    have E0 : y_ev x (0, [(0, 1)]) = x 0 := (l_e1 _ _)
    have E1 : y_ev x (0, [(2, 1)]) = x 2 := (l_e1 _ _)
    have E2 : y_ev x (0, [(4, 1)]) = x 4 := (l_e1 _ _)
    have E3 : y_ev x (0, [(1, 1)]) = x 1 := (l_e1 _ _)
    have E4 : y_ev x (0, [(3, 1)]) = x 3 := (l_e1 _ _)
    have E5 : y_ev x (0, [(5, 1)]) = x 5 := (l_e1 _ _)
    have T0 : (mOP 107 (Int32.ofInt (y_ev x (0, [(0, 1)]))) (Int32.ofInt (y_ev x (0, [(2, 1)])))).toInt = (y_ev x (0, [(4, 1)])) := h.2.2.2.1
    (try rw [E0] at T0); (try rw [E1] at T0); (try rw [E2] at T0)
    have T1 : (mOP 107 (Int32.ofInt (y_ev x (0, [(1, 1)]))) (Int32.ofInt (y_ev x (0, [(3, 1)])))).toInt = (y_ev x (0, [(5, 1)])) := h.2.2.2.2.1
    (try rw [E3] at T1); (try rw [E4] at T1); (try rw [E5] at T1)
    have K := k_qdiv (V := v) (a := x 0) (b := x 1) (n := x 2) (k := x 3) (u := x 4) (w := x 5) T0 T1 C0 C1 C2 C3
    refine l_outH rfl (And.intro h.1 ?_)
    have O0 : y_ev x (0, [(4, 1), (5, (-1))]) = x 4 - x 5 := by show ((0) : Int) + ((1) * x 4 + ((-1) * x 5 + 0)) = _; omega
    have O1 : y_ev x (0, [(4, (-1)), (5, 1)]) = x 5 - x 4 := by show ((0) : Int) + ((-1) * x 4 + ((1) * x 5 + 0)) = _; omega
    show (0 ≤ y_ev x (0, [(4, 1), (5, (-1))]) ∧ 0 ≤ y_ev x (0, [(4, (-1)), (5, 1)]) ∧ True) ∧ (True)
    (try rw [O0]); (try rw [O1])
    exact K
def lm_1039pg_0 (t : List zTg) : List zTg := (260, [(8, []), (0, []), (0, []), (0, []), (0, []), (0, []), (0, []), (0, []), (0, [(6, 1)]), (0, []), (0, [(8, 1)])]) :: (238, [(8, []), (0, []), (0, []), (0, []), (0, []), (0, []), (0, []), (0, []), (0, [(6, 1)]), (0, []), (0, [(9, 1)])]) :: (260, [(1, []), (0, []), (0, []), (0, []), (0, []), (0, []), (0, []), (0, []), (0, []), (0, [(7, 1)]), (0, [(2, 1)])]) :: (238, [(1, []), (0, []), (0, []), (0, []), (0, []), (0, []), (0, []), (0, []), (0, []), (0, [(7, 1)]), (0, [(3, 1)])]) :: (107, [(0, [(0, 1)]), (0, [(2, 1)]), (0, [(4, 1)])]) :: (107, [(0, [(1, 1)]), (0, [(3, 1)]), (0, [(5, 1)])]) :: t
def lm_1039p : zS := ((lm_473pi_0 (lm_473pi_1 [])), [], [(0, [(0, 1), (8, (-1000))]), (0, [(0, (-1)), (8, 1000)]), (0, [(1, 1), (9, (-1000))]), (0, [(1, (-1)), (9, 1000)])], [], [(0, 0, 0, [(4, 1)]), (0, 0, 0, [(5, 1)])], [], (lm_1039pg_0 []))
def lm_1039 : zLem := (lm_1039p, [([((-2147483648), 2147483647), ((-2147483648), 2147483647), ((-2147483648), 2147483647), ((-2147483648), 2147483647), ((-2147483648), 2147483647), ((-2147483648), 2147483647), ((-2147483648), 2147483647), ((-2147483648), 2147483647), ((-2147483648), 2147483647), ((-2147483648), 2147483647)], [], [(0, [(4, 1), (5, (-1))]), (0, [(4, (-1)), (5, 1)])], [], [], [], [])])
theorem lk_1039 : l_core lm_1039 := by
  first
  | skip
    intro v x h
    have K := k_qshr (V := v) (a := x 0) (b := x 1) (n := x 2) (k := x 3) (u := x 4) (w := x 5) (h := x 6) (p := x 7) (x := x 8) (y := x 9) (l_c4 (fun w0 w1 w2 w3 : Int => q_qry v w0 w1 w1 w1 w1 w1 w1 w1 w2 w1 w3) (l_e0 x (8)) (l_e0 x (0)) (l_e1 x 6) (l_e1 x 8) (h.2.2.2.1)) (l_c4 (fun w0 w1 w2 w3 : Int => q_qry v w0 w1 w1 w1 w1 w1 w1 w1 w2 w1 w3) (l_e0 x (8)) (l_e0 x (0)) (l_e1 x 6) (l_e1 x 9) (h.2.2.2.2.1)) (l_c4 (fun w0 w1 w2 w3 : Int => q_qry v w0 w1 w1 w1 w1 w1 w1 w1 w1 w2 w3) (l_e0 x (1)) (l_e0 x (0)) (l_e1 x 7) (l_e1 x 2) (h.2.2.2.2.2.1)) (l_c4 (fun w0 w1 w2 w3 : Int => q_qry v w0 w1 w1 w1 w1 w1 w1 w1 w1 w2 w3) (l_e0 x (1)) (l_e0 x (0)) (l_e1 x 7) (l_e1 x 3) (h.2.2.2.2.2.2.1)) (l_c3 (fun w0 w1 w2 : Int => (mOP 107 (Int32.ofInt w0) (Int32.ofInt w1)).toInt = w2) (l_e1 x 0) (l_e1 x 2) (l_e1 x 4) (h.2.2.2.2.2.2.2.1)) (l_c3 (fun w0 w1 w2 : Int => (mOP 107 (Int32.ofInt w0) (Int32.ofInt w1)).toInt = w2) (l_e1 x 1) (l_e1 x 3) (l_e1 x 5) (h.2.2.2.2.2.2.2.2.1)) (l_cc (show y_ev x (0, [(0, 1), (8, (-1000))]) = x 0 - 1000 * x 8 by show ((0) : Int) + ((1) * x 0 + ((-1000) * x 8 + 0)) = _; omega) (h.2.1.1)) (l_cc (show y_ev x (0, [(0, (-1)), (8, 1000)]) = 1000 * x 8 - x 0 by show ((0) : Int) + ((-1) * x 0 + ((1000) * x 8 + 0)) = _; omega) (h.2.1.2.1)) (l_cc (show y_ev x (0, [(1, 1), (9, (-1000))]) = x 1 - 1000 * x 9 by show ((0) : Int) + ((1) * x 1 + ((-1000) * x 9 + 0)) = _; omega) (h.2.1.2.2.1)) (l_cc (show y_ev x (0, [(1, (-1)), (9, 1000)]) = 1000 * x 9 - x 1 by show ((0) : Int) + ((-1) * x 1 + ((1000) * x 9 + 0)) = _; omega) (h.2.1.2.2.2.1))
    refine l_outH rfl (And.intro h.1 ?_)
    exact l_o2 (fun w0 w1 : Int => (0 ≤ w0 ∧ 0 ≤ w1 ∧ True) ∧ (True)) (l_q5 x 4 5) (l_q4 x 4 5) K
  | skip
    intro v x h
    have C0 : (0 : Int) ≤ x 0 - 1000 * x 8 := l_cc (a := y_ev x (0, [(0, 1), (8, (-1000))])) (by show ((0) : Int) + ((1) * x 0 + ((-1000) * x 8 + 0)) = x 0 - 1000 * x 8; omega) (h.2.1.1)
    have C1 : (0 : Int) ≤ 1000 * x 8 - x 0 := l_cc (a := y_ev x (0, [(0, (-1)), (8, 1000)])) (by show ((0) : Int) + ((-1) * x 0 + ((1000) * x 8 + 0)) = 1000 * x 8 - x 0; omega) (h.2.1.2.1)
    have C2 : (0 : Int) ≤ x 1 - 1000 * x 9 := l_cc (a := y_ev x (0, [(1, 1), (9, (-1000))])) (by show ((0) : Int) + ((1) * x 1 + ((-1000) * x 9 + 0)) = x 1 - 1000 * x 9; omega) (h.2.1.2.2.1)
    have C3 : (0 : Int) ≤ 1000 * x 9 - x 1 := l_cc (a := y_ev x (0, [(1, (-1)), (9, 1000)])) (by show ((0) : Int) + ((-1) * x 1 + ((1000) * x 9 + 0)) = 1000 * x 9 - x 1; omega) (h.2.1.2.2.2.1)
    have E0 : y_ev x (8, []) = 8 := (l_e0 _ _)
    have E1 : y_ev x (0, []) = 0 := (l_e0 _ _)
    have E2 : y_ev x (0, [(6, 1)]) = x 6 := (l_e1 _ _)
    have E3 : y_ev x (0, [(8, 1)]) = x 8 := (l_e1 _ _)
    have E4 : y_ev x (0, [(9, 1)]) = x 9 := (l_e1 _ _)
    have E5 : y_ev x (1, []) = 1 := (l_e0 _ _)
    have E6 : y_ev x (0, [(7, 1)]) = x 7 := (l_e1 _ _)
    have E7 : y_ev x (0, [(2, 1)]) = x 2 := (l_e1 _ _)
    have E8 : y_ev x (0, [(3, 1)]) = x 3 := (l_e1 _ _)
    have E9 : y_ev x (0, [(0, 1)]) = x 0 := (l_e1 _ _)
    have E10 : y_ev x (0, [(4, 1)]) = x 4 := (l_e1 _ _)
    have E11 : y_ev x (0, [(1, 1)]) = x 1 := (l_e1 _ _)
    have E12 : y_ev x (0, [(5, 1)]) = x 5 := (l_e1 _ _)
    have T0 : q_qry v (y_ev x (8, [])) (y_ev x (0, [])) (y_ev x (0, [])) (y_ev x (0, [])) (y_ev x (0, [])) (y_ev x (0, [])) (y_ev x (0, [])) (y_ev x (0, [])) (y_ev x (0, [(6, 1)])) (y_ev x (0, [])) (y_ev x (0, [(8, 1)])) := h.2.2.2.1
    (try rw [E0] at T0); (try rw [E1] at T0); (try rw [E2] at T0); (try rw [E3] at T0)
    have T1 : q_qry v (y_ev x (8, [])) (y_ev x (0, [])) (y_ev x (0, [])) (y_ev x (0, [])) (y_ev x (0, [])) (y_ev x (0, [])) (y_ev x (0, [])) (y_ev x (0, [])) (y_ev x (0, [(6, 1)])) (y_ev x (0, [])) (y_ev x (0, [(9, 1)])) := h.2.2.2.2.1
    (try rw [E0] at T1); (try rw [E1] at T1); (try rw [E2] at T1); (try rw [E4] at T1)
    have T2 : q_qry v (y_ev x (1, [])) (y_ev x (0, [])) (y_ev x (0, [])) (y_ev x (0, [])) (y_ev x (0, [])) (y_ev x (0, [])) (y_ev x (0, [])) (y_ev x (0, [])) (y_ev x (0, [])) (y_ev x (0, [(7, 1)])) (y_ev x (0, [(2, 1)])) := h.2.2.2.2.2.1
    (try rw [E5] at T2); (try rw [E1] at T2); (try rw [E6] at T2); (try rw [E7] at T2)
    have T3 : q_qry v (y_ev x (1, [])) (y_ev x (0, [])) (y_ev x (0, [])) (y_ev x (0, [])) (y_ev x (0, [])) (y_ev x (0, [])) (y_ev x (0, [])) (y_ev x (0, [])) (y_ev x (0, [])) (y_ev x (0, [(7, 1)])) (y_ev x (0, [(3, 1)])) := h.2.2.2.2.2.2.1
    (try rw [E5] at T3); (try rw [E1] at T3); (try rw [E6] at T3); (try rw [E8] at T3)
    have T4 : (mOP 107 (Int32.ofInt (y_ev x (0, [(0, 1)]))) (Int32.ofInt (y_ev x (0, [(2, 1)])))).toInt = (y_ev x (0, [(4, 1)])) := h.2.2.2.2.2.2.2.1
    (try rw [E9] at T4); (try rw [E7] at T4); (try rw [E10] at T4)
    have T5 : (mOP 107 (Int32.ofInt (y_ev x (0, [(1, 1)]))) (Int32.ofInt (y_ev x (0, [(3, 1)])))).toInt = (y_ev x (0, [(5, 1)])) := h.2.2.2.2.2.2.2.2.1
    (try rw [E11] at T5); (try rw [E8] at T5); (try rw [E12] at T5)
    have K := k_qshr (V := v) (a := x 0) (b := x 1) (n := x 2) (k := x 3) (u := x 4) (w := x 5) (h := x 6) (p := x 7) (x := x 8) (y := x 9) T0 T1 T2 T3 T4 T5 C0 C1 C2 C3
    refine l_outH rfl (And.intro h.1 ?_)
    have O0 : y_ev x (0, [(4, 1), (5, (-1))]) = x 4 - x 5 := by show ((0) : Int) + ((1) * x 4 + ((-1) * x 5 + 0)) = _; omega
    have O1 : y_ev x (0, [(4, (-1)), (5, 1)]) = x 5 - x 4 := by show ((0) : Int) + ((-1) * x 4 + ((1) * x 5 + 0)) = _; omega
    show (0 ≤ y_ev x (0, [(4, 1), (5, (-1))]) ∧ 0 ≤ y_ev x (0, [(4, (-1)), (5, 1)]) ∧ True) ∧ (True)
    (try rw [O0]); (try rw [O1])
    exact K
def lm_1040 : zLem := (([((-2147483648), 2147483647), ((-2147483648), 2147483647), ((-2147483648), 2147483647), ((-2147483648), 2147483647), ((-2147483648), 2147483647), ((-2147483648), 2147483647), ((-2147483648), 2147483647), ((-2147483648), 2147483647)], [], [], [], [], [], [(252, [(0, [(1, 1)]), (0, [(2, 1)]), (0, [(3, 1)]), (0, [(4, 1)]), (0, [(5, 1)]), (0, [(6, 1)]), (0, [(7, 1)]), ((-2), []), (0, [(0, 1)])])]), [([((-2147483648), 2147483647), ((-2147483648), 2147483647), ((-2147483648), 2147483647), ((-2147483648), 2147483647), ((-2147483648), 2147483647), ((-2147483648), 2147483647), ((-2147483648), 2147483647), ((-2147483648), 2147483647)], [], [], [], [], [], [(238, [(26, []), (0, [(1, 1)]), (0, [(2, 1)]), (0, [(3, 1)]), (0, [(4, 1)]), (0, [(5, 1)]), (0, [(6, 1)]), (0, [(7, 1)]), (999, []), (1, []), (999, [])])])])
theorem lk_1040 : l_core lm_1040 := by
  first
  | skip
    intro v x h
    have K := k_min0 (V := v) (m := x 0) (q := x 1) (b := x 2) (s := x 3) (o := x 4) (a1 := x 5) (a2 := x 6) (a3 := x 7) (l_c9 (fun w0 w1 w2 w3 w4 w5 w6 w7 w8 : Int => q_mgn v w0 w1 w2 w3 w4 w5 w6 w7 w8) (l_e1 x 1) (l_e1 x 2) (l_e1 x 3) (l_e1 x 4) (l_e1 x 5) (l_e1 x 6) (l_e1 x 7) (l_e0 x (-2)) (l_e1 x 0) (h.2.2.2.1))
    refine l_outH rfl (And.intro h.1 ?_)
    exact l_o10 (fun w0 w1 w2 w3 w4 w5 w6 w7 w8 w9 : Int => (True) ∧ (q_qry v w0 w1 w2 w3 w4 w5 w6 w7 w8 w9 w8 ∧ True)) (l_e0 x (26)) (l_e1 x 1) (l_e1 x 2) (l_e1 x 3) (l_e1 x 4) (l_e1 x 5) (l_e1 x 6) (l_e1 x 7) (l_e0 x (999)) (l_e0 x (1)) K
  | skip
    intro v x h
    have E0 : y_ev x (0, [(1, 1)]) = x 1 := (l_e1 _ _)
    have E1 : y_ev x (0, [(2, 1)]) = x 2 := (l_e1 _ _)
    have E2 : y_ev x (0, [(3, 1)]) = x 3 := (l_e1 _ _)
    have E3 : y_ev x (0, [(4, 1)]) = x 4 := (l_e1 _ _)
    have E4 : y_ev x (0, [(5, 1)]) = x 5 := (l_e1 _ _)
    have E5 : y_ev x (0, [(6, 1)]) = x 6 := (l_e1 _ _)
    have E6 : y_ev x (0, [(7, 1)]) = x 7 := (l_e1 _ _)
    have E7 : y_ev x ((-2), []) = (-2) := (l_e0 _ _)
    have E8 : y_ev x (0, [(0, 1)]) = x 0 := (l_e1 _ _)
    have T0 : q_mgn v (y_ev x (0, [(1, 1)])) (y_ev x (0, [(2, 1)])) (y_ev x (0, [(3, 1)])) (y_ev x (0, [(4, 1)])) (y_ev x (0, [(5, 1)])) (y_ev x (0, [(6, 1)])) (y_ev x (0, [(7, 1)])) (y_ev x ((-2), [])) (y_ev x (0, [(0, 1)])) := h.2.2.2.1
    (try rw [E0] at T0); (try rw [E1] at T0); (try rw [E2] at T0); (try rw [E3] at T0); (try rw [E4] at T0); (try rw [E5] at T0); (try rw [E6] at T0); (try rw [E7] at T0); (try rw [E8] at T0)
    have K := k_min0 (V := v) (m := x 0) (q := x 1) (b := x 2) (s := x 3) (o := x 4) (a1 := x 5) (a2 := x 6) (a3 := x 7) T0
    refine l_outH rfl (And.intro h.1 ?_)
    have O0 : y_ev x (26, []) = 26 := l_e0 _ _
    have O1 : y_ev x (0, [(1, 1)]) = x 1 := l_e1 _ _
    have O2 : y_ev x (0, [(2, 1)]) = x 2 := l_e1 _ _
    have O3 : y_ev x (0, [(3, 1)]) = x 3 := l_e1 _ _
    have O4 : y_ev x (0, [(4, 1)]) = x 4 := l_e1 _ _
    have O5 : y_ev x (0, [(5, 1)]) = x 5 := l_e1 _ _
    have O6 : y_ev x (0, [(6, 1)]) = x 6 := l_e1 _ _
    have O7 : y_ev x (0, [(7, 1)]) = x 7 := l_e1 _ _
    have O8 : y_ev x (999, []) = 999 := l_e0 _ _
    have O9 : y_ev x (1, []) = 1 := l_e0 _ _
    show (True) ∧ (q_qry v (y_ev x (26, [])) (y_ev x (0, [(1, 1)])) (y_ev x (0, [(2, 1)])) (y_ev x (0, [(3, 1)])) (y_ev x (0, [(4, 1)])) (y_ev x (0, [(5, 1)])) (y_ev x (0, [(6, 1)])) (y_ev x (0, [(7, 1)])) (y_ev x (999, [])) (y_ev x (1, [])) (y_ev x (999, [])) ∧ True)
    (try rw [O0]); (try rw [O1]); (try rw [O2]); (try rw [O3]); (try rw [O4]); (try rw [O5]); (try rw [O6]); (try rw [O7]); (try rw [O8]); (try rw [O9])
    exact K
def lm_1041p : zS := ((lm_416pi_0 (lm_416pi_1 [])), [(25, false)], [(0, [(1, 1)]), ((-1), [(1, (-1)), (3, 1)]), (0, [(0, (-1)), (2, 1)])], [], [(0, 0, 0, [(0, 1)]), (0, 0, 0, [(1, 1)])], [(0, (true, 0, 0, [(1, 1)]), 0, 0, 0, [(2, 1)])], [(252, [(0, [(4, 1)]), (0, [(5, 1)]), (0, [(6, 1)]), (0, [(7, 1)]), (0, [(8, 1)]), (0, [(9, 1)]), (0, [(10, 1)]), ((-2), []), (0, [(3, 1)])]), (238, [(26, []), (0, [(4, 1)]), (0, [(5, 1)]), (0, [(6, 1)]), (0, [(7, 1)]), (0, [(8, 1)]), (0, [(9, 1)]), (0, [(10, 1)]), (999, []), (1, [(1, 1)]), (0, [(0, 1)])])])
def lm_1041 : zLem := (lm_1041p, [([((-2147483648), 2147483647), ((-2147483648), 2147483647), ((-2147483648), 2147483647), ((-2147483648), 2147483647), ((-2147483648), 2147483647), ((-2147483648), 2147483647), ((-2147483648), 2147483647), ((-2147483648), 2147483647), ((-2147483648), 2147483647), ((-2147483648), 2147483647), ((-2147483648), 2147483647)], [(25, false)], [], [], [], [], [(238, [(26, []), (0, [(4, 1)]), (0, [(5, 1)]), (0, [(6, 1)]), (0, [(7, 1)]), (0, [(8, 1)]), (0, [(9, 1)]), (0, [(10, 1)]), (999, []), (2, [(1, 1)]), (0, [(0, 1)])])])])
theorem lk_1041 : l_core lm_1041 := by
  first
  | skip
    intro v x h
    have G0 := h.2.2.1
    have K := k_minA (V := v) (z := x 0) (i := x 1) (u := x 2) (m := x 3) (q := x 4) (b := x 5) (s := x 6) (o := x 7) (a1 := x 8) (a2 := x 9) (a3 := x 10) (l_c9 (fun w0 w1 w2 w3 w4 w5 w6 w7 w8 : Int => q_mgn v w0 w1 w2 w3 w4 w5 w6 w7 w8) (l_e1 x 4) (l_e1 x 5) (l_e1 x 6) (l_e1 x 7) (l_e1 x 8) (l_e1 x 9) (l_e1 x 10) (l_e0 x (-2)) (l_e1 x 3) (h.2.2.2.1)) (l_c11 (fun w0 w1 w2 w3 w4 w5 w6 w7 w8 w9 w10 : Int => q_qry v w0 w1 w2 w3 w4 w5 w6 w7 w8 w9 w10) (l_e0 x (26)) (l_e1 x 4) (l_e1 x 5) (l_e1 x 6) (l_e1 x 7) (l_e1 x 8) (l_e1 x 9) (l_e1 x 10) (l_e0 x (999)) (l_q3 1 x 1) (l_e1 x 0) (h.2.2.2.2.1)) (l_cc (l_e1 x 1) (h.2.1.1)) (l_cc (l_q6 1 x 1 3) (h.2.1.2.1)) (l_cc (l_q4 x 0 2) (h.2.1.2.2.1)) (l_ff (f := v 25) (L := j_len 25) (l_e1 x 1) (l_e1 x 2) (G0.1.1))
    refine l_outH rfl (And.intro h.1 ?_)
    exact l_o11 (fun w0 w1 w2 w3 w4 w5 w6 w7 w8 w9 w10 : Int => (True) ∧ (q_qry v w0 w1 w2 w3 w4 w5 w6 w7 w8 w9 w10 ∧ True)) (l_e0 x (26)) (l_e1 x 4) (l_e1 x 5) (l_e1 x 6) (l_e1 x 7) (l_e1 x 8) (l_e1 x 9) (l_e1 x 10) (l_e0 x (999)) (l_q3 2 x 1) (l_e1 x 0) K
  | skip
    intro v x h
    have G0 := h.2.2.1
    have C0 : (0 : Int) ≤ x 1 := l_cc (a := y_ev x (0, [(1, 1)])) (l_e1 _ _) (h.2.1.1)
    have C1 : (0 : Int) ≤ x 3 - x 1 - 1 := l_cc (a := y_ev x ((-1), [(1, (-1)), (3, 1)])) (by show ((-1) : Int) + ((-1) * x 1 + ((1) * x 3 + 0)) = x 3 - x 1 - 1; omega) (h.2.1.2.1)
    have C2 : (0 : Int) ≤ x 2 - x 0 := l_cc (a := y_ev x (0, [(0, (-1)), (2, 1)])) (by show ((0) : Int) + ((-1) * x 0 + ((1) * x 2 + 0)) = x 2 - x 0; omega) (h.2.1.2.2.1)
    have F0 : (0 : Int) ≤ x 1 ∧ (x 1 : Int) < j_len 25 ∧ v 25 (x 1) = x 2 := l_ff (f := v 25) (L := j_len 25) (a := y_ev x (0, [(1, 1)])) (b := y_ev x (0, [(2, 1)])) (l_e1 _ _) (l_e1 _ _) (G0.1.1)
    have E0 : y_ev x (0, [(4, 1)]) = x 4 := (l_e1 _ _)
    have E1 : y_ev x (0, [(5, 1)]) = x 5 := (l_e1 _ _)
    have E2 : y_ev x (0, [(6, 1)]) = x 6 := (l_e1 _ _)
    have E3 : y_ev x (0, [(7, 1)]) = x 7 := (l_e1 _ _)
    have E4 : y_ev x (0, [(8, 1)]) = x 8 := (l_e1 _ _)
    have E5 : y_ev x (0, [(9, 1)]) = x 9 := (l_e1 _ _)
    have E6 : y_ev x (0, [(10, 1)]) = x 10 := (l_e1 _ _)
    have E7 : y_ev x ((-2), []) = (-2) := (l_e0 _ _)
    have E8 : y_ev x (0, [(3, 1)]) = x 3 := (l_e1 _ _)
    have E9 : y_ev x (26, []) = 26 := (l_e0 _ _)
    have E10 : y_ev x (999, []) = 999 := (l_e0 _ _)
    have E11 : y_ev x (1, [(1, 1)]) = x 1 + 1 := (by show ((1) : Int) + ((1) * x 1 + 0) = x 1 + 1; omega)
    have E12 : y_ev x (0, [(0, 1)]) = x 0 := (l_e1 _ _)
    have T0 : q_mgn v (y_ev x (0, [(4, 1)])) (y_ev x (0, [(5, 1)])) (y_ev x (0, [(6, 1)])) (y_ev x (0, [(7, 1)])) (y_ev x (0, [(8, 1)])) (y_ev x (0, [(9, 1)])) (y_ev x (0, [(10, 1)])) (y_ev x ((-2), [])) (y_ev x (0, [(3, 1)])) := h.2.2.2.1
    (try rw [E0] at T0); (try rw [E1] at T0); (try rw [E2] at T0); (try rw [E3] at T0); (try rw [E4] at T0); (try rw [E5] at T0); (try rw [E6] at T0); (try rw [E7] at T0); (try rw [E8] at T0)
    have T1 : q_qry v (y_ev x (26, [])) (y_ev x (0, [(4, 1)])) (y_ev x (0, [(5, 1)])) (y_ev x (0, [(6, 1)])) (y_ev x (0, [(7, 1)])) (y_ev x (0, [(8, 1)])) (y_ev x (0, [(9, 1)])) (y_ev x (0, [(10, 1)])) (y_ev x (999, [])) (y_ev x (1, [(1, 1)])) (y_ev x (0, [(0, 1)])) := h.2.2.2.2.1
    (try rw [E9] at T1); (try rw [E0] at T1); (try rw [E1] at T1); (try rw [E2] at T1); (try rw [E3] at T1); (try rw [E4] at T1); (try rw [E5] at T1); (try rw [E6] at T1); (try rw [E10] at T1); (try rw [E11] at T1); (try rw [E12] at T1)
    have K := k_minA (V := v) (z := x 0) (i := x 1) (u := x 2) (m := x 3) (q := x 4) (b := x 5) (s := x 6) (o := x 7) (a1 := x 8) (a2 := x 9) (a3 := x 10) T0 T1 C0 C1 C2 F0
    refine l_outH rfl (And.intro h.1 ?_)
    have O0 : y_ev x (26, []) = 26 := l_e0 _ _
    have O1 : y_ev x (0, [(4, 1)]) = x 4 := l_e1 _ _
    have O2 : y_ev x (0, [(5, 1)]) = x 5 := l_e1 _ _
    have O3 : y_ev x (0, [(6, 1)]) = x 6 := l_e1 _ _
    have O4 : y_ev x (0, [(7, 1)]) = x 7 := l_e1 _ _
    have O5 : y_ev x (0, [(8, 1)]) = x 8 := l_e1 _ _
    have O6 : y_ev x (0, [(9, 1)]) = x 9 := l_e1 _ _
    have O7 : y_ev x (0, [(10, 1)]) = x 10 := l_e1 _ _
    have O8 : y_ev x (999, []) = 999 := l_e0 _ _
    have O9 : y_ev x (2, [(1, 1)]) = x 1 + 2 := by show ((2) : Int) + ((1) * x 1 + 0) = _; omega
    have O10 : y_ev x (0, [(0, 1)]) = x 0 := l_e1 _ _
    show (True) ∧ (q_qry v (y_ev x (26, [])) (y_ev x (0, [(4, 1)])) (y_ev x (0, [(5, 1)])) (y_ev x (0, [(6, 1)])) (y_ev x (0, [(7, 1)])) (y_ev x (0, [(8, 1)])) (y_ev x (0, [(9, 1)])) (y_ev x (0, [(10, 1)])) (y_ev x (999, [])) (y_ev x (2, [(1, 1)])) (y_ev x (0, [(0, 1)])) ∧ True)
    (try rw [O0]); (try rw [O1]); (try rw [O2]); (try rw [O3]); (try rw [O4]); (try rw [O5]); (try rw [O6]); (try rw [O7]); (try rw [O8]); (try rw [O9]); (try rw [O10])
    exact K
def lm_1042p : zS := ((lm_416pi_0 (lm_416pi_1 [])), [(25, false)], [(0, [(1, 1)]), ((-1), [(1, (-1)), (3, 1)]), ((-1), [(0, 1), (2, (-1))])], [], [(0, 0, 0, [(0, 1)]), (0, 0, 0, [(1, 1)])], [(0, (true, 0, 0, [(1, 1)]), 0, 0, 0, [(2, 1)])], [(252, [(0, [(4, 1)]), (0, [(5, 1)]), (0, [(6, 1)]), (0, [(7, 1)]), (0, [(8, 1)]), (0, [(9, 1)]), (0, [(10, 1)]), ((-2), []), (0, [(3, 1)])]), (238, [(26, []), (0, [(4, 1)]), (0, [(5, 1)]), (0, [(6, 1)]), (0, [(7, 1)]), (0, [(8, 1)]), (0, [(9, 1)]), (0, [(10, 1)]), (999, []), (1, [(1, 1)]), (0, [(0, 1)])])])
def lm_1042 : zLem := (lm_1042p, [([((-2147483648), 2147483647), ((-2147483648), 2147483647), ((-2147483648), 2147483647), ((-2147483648), 2147483647), ((-2147483648), 2147483647), ((-2147483648), 2147483647), ((-2147483648), 2147483647), ((-2147483648), 2147483647), ((-2147483648), 2147483647), ((-2147483648), 2147483647), ((-2147483648), 2147483647)], [(25, false)], [], [], [], [], [(238, [(26, []), (0, [(4, 1)]), (0, [(5, 1)]), (0, [(6, 1)]), (0, [(7, 1)]), (0, [(8, 1)]), (0, [(9, 1)]), (0, [(10, 1)]), (999, []), (2, [(1, 1)]), (0, [(2, 1)])])])])
theorem lk_1042 : l_core lm_1042 := by
  first
  | skip
    intro v x h
    have G0 := h.2.2.1
    have K := k_minB (V := v) (z := x 0) (i := x 1) (u := x 2) (m := x 3) (q := x 4) (b := x 5) (s := x 6) (o := x 7) (a1 := x 8) (a2 := x 9) (a3 := x 10) (l_c9 (fun w0 w1 w2 w3 w4 w5 w6 w7 w8 : Int => q_mgn v w0 w1 w2 w3 w4 w5 w6 w7 w8) (l_e1 x 4) (l_e1 x 5) (l_e1 x 6) (l_e1 x 7) (l_e1 x 8) (l_e1 x 9) (l_e1 x 10) (l_e0 x (-2)) (l_e1 x 3) (h.2.2.2.1)) (l_c11 (fun w0 w1 w2 w3 w4 w5 w6 w7 w8 w9 w10 : Int => q_qry v w0 w1 w2 w3 w4 w5 w6 w7 w8 w9 w10) (l_e0 x (26)) (l_e1 x 4) (l_e1 x 5) (l_e1 x 6) (l_e1 x 7) (l_e1 x 8) (l_e1 x 9) (l_e1 x 10) (l_e0 x (999)) (l_q3 1 x 1) (l_e1 x 0) (h.2.2.2.2.1)) (l_cc (l_e1 x 1) (h.2.1.1)) (l_cc (l_q6 1 x 1 3) (h.2.1.2.1)) (l_cc (l_q8 1 x 0 2) (h.2.1.2.2.1)) (l_ff (f := v 25) (L := j_len 25) (l_e1 x 1) (l_e1 x 2) (G0.1.1))
    refine l_outH rfl (And.intro h.1 ?_)
    exact l_o11 (fun w0 w1 w2 w3 w4 w5 w6 w7 w8 w9 w10 : Int => (True) ∧ (q_qry v w0 w1 w2 w3 w4 w5 w6 w7 w8 w9 w10 ∧ True)) (l_e0 x (26)) (l_e1 x 4) (l_e1 x 5) (l_e1 x 6) (l_e1 x 7) (l_e1 x 8) (l_e1 x 9) (l_e1 x 10) (l_e0 x (999)) (l_q3 2 x 1) (l_e1 x 2) K
  | skip
    intro v x h
    have G0 := h.2.2.1
    have C0 : (0 : Int) ≤ x 1 := l_cc (a := y_ev x (0, [(1, 1)])) (l_e1 _ _) (h.2.1.1)
    have C1 : (0 : Int) ≤ x 3 - x 1 - 1 := l_cc (a := y_ev x ((-1), [(1, (-1)), (3, 1)])) (by show ((-1) : Int) + ((-1) * x 1 + ((1) * x 3 + 0)) = x 3 - x 1 - 1; omega) (h.2.1.2.1)
    have C2 : (0 : Int) ≤ x 0 - x 2 - 1 := l_cc (a := y_ev x ((-1), [(0, 1), (2, (-1))])) (by show ((-1) : Int) + ((1) * x 0 + ((-1) * x 2 + 0)) = x 0 - x 2 - 1; omega) (h.2.1.2.2.1)
    have F0 : (0 : Int) ≤ x 1 ∧ (x 1 : Int) < j_len 25 ∧ v 25 (x 1) = x 2 := l_ff (f := v 25) (L := j_len 25) (a := y_ev x (0, [(1, 1)])) (b := y_ev x (0, [(2, 1)])) (l_e1 _ _) (l_e1 _ _) (G0.1.1)
    have E0 : y_ev x (0, [(4, 1)]) = x 4 := (l_e1 _ _)
    have E1 : y_ev x (0, [(5, 1)]) = x 5 := (l_e1 _ _)
    have E2 : y_ev x (0, [(6, 1)]) = x 6 := (l_e1 _ _)
    have E3 : y_ev x (0, [(7, 1)]) = x 7 := (l_e1 _ _)
    have E4 : y_ev x (0, [(8, 1)]) = x 8 := (l_e1 _ _)
    have E5 : y_ev x (0, [(9, 1)]) = x 9 := (l_e1 _ _)
    have E6 : y_ev x (0, [(10, 1)]) = x 10 := (l_e1 _ _)
    have E7 : y_ev x ((-2), []) = (-2) := (l_e0 _ _)
    have E8 : y_ev x (0, [(3, 1)]) = x 3 := (l_e1 _ _)
    have E9 : y_ev x (26, []) = 26 := (l_e0 _ _)
    have E10 : y_ev x (999, []) = 999 := (l_e0 _ _)
    have E11 : y_ev x (1, [(1, 1)]) = x 1 + 1 := (by show ((1) : Int) + ((1) * x 1 + 0) = x 1 + 1; omega)
    have E12 : y_ev x (0, [(0, 1)]) = x 0 := (l_e1 _ _)
    have T0 : q_mgn v (y_ev x (0, [(4, 1)])) (y_ev x (0, [(5, 1)])) (y_ev x (0, [(6, 1)])) (y_ev x (0, [(7, 1)])) (y_ev x (0, [(8, 1)])) (y_ev x (0, [(9, 1)])) (y_ev x (0, [(10, 1)])) (y_ev x ((-2), [])) (y_ev x (0, [(3, 1)])) := h.2.2.2.1
    (try rw [E0] at T0); (try rw [E1] at T0); (try rw [E2] at T0); (try rw [E3] at T0); (try rw [E4] at T0); (try rw [E5] at T0); (try rw [E6] at T0); (try rw [E7] at T0); (try rw [E8] at T0)
    have T1 : q_qry v (y_ev x (26, [])) (y_ev x (0, [(4, 1)])) (y_ev x (0, [(5, 1)])) (y_ev x (0, [(6, 1)])) (y_ev x (0, [(7, 1)])) (y_ev x (0, [(8, 1)])) (y_ev x (0, [(9, 1)])) (y_ev x (0, [(10, 1)])) (y_ev x (999, [])) (y_ev x (1, [(1, 1)])) (y_ev x (0, [(0, 1)])) := h.2.2.2.2.1
    (try rw [E9] at T1); (try rw [E0] at T1); (try rw [E1] at T1); (try rw [E2] at T1); (try rw [E3] at T1); (try rw [E4] at T1); (try rw [E5] at T1); (try rw [E6] at T1); (try rw [E10] at T1); (try rw [E11] at T1); (try rw [E12] at T1)
    have K := k_minB (V := v) (z := x 0) (i := x 1) (u := x 2) (m := x 3) (q := x 4) (b := x 5) (s := x 6) (o := x 7) (a1 := x 8) (a2 := x 9) (a3 := x 10) T0 T1 C0 C1 C2 F0
    refine l_outH rfl (And.intro h.1 ?_)
    have O0 : y_ev x (26, []) = 26 := l_e0 _ _
    have O1 : y_ev x (0, [(4, 1)]) = x 4 := l_e1 _ _
    have O2 : y_ev x (0, [(5, 1)]) = x 5 := l_e1 _ _
    have O3 : y_ev x (0, [(6, 1)]) = x 6 := l_e1 _ _
    have O4 : y_ev x (0, [(7, 1)]) = x 7 := l_e1 _ _
    have O5 : y_ev x (0, [(8, 1)]) = x 8 := l_e1 _ _
    have O6 : y_ev x (0, [(9, 1)]) = x 9 := l_e1 _ _
    have O7 : y_ev x (0, [(10, 1)]) = x 10 := l_e1 _ _
    have O8 : y_ev x (999, []) = 999 := l_e0 _ _
    have O9 : y_ev x (2, [(1, 1)]) = x 1 + 2 := by show ((2) : Int) + ((1) * x 1 + 0) = _; omega
    have O10 : y_ev x (0, [(2, 1)]) = x 2 := l_e1 _ _
    show (True) ∧ (q_qry v (y_ev x (26, [])) (y_ev x (0, [(4, 1)])) (y_ev x (0, [(5, 1)])) (y_ev x (0, [(6, 1)])) (y_ev x (0, [(7, 1)])) (y_ev x (0, [(8, 1)])) (y_ev x (0, [(9, 1)])) (y_ev x (0, [(10, 1)])) (y_ev x (999, [])) (y_ev x (2, [(1, 1)])) (y_ev x (0, [(2, 1)])) ∧ True)
    (try rw [O0]); (try rw [O1]); (try rw [O2]); (try rw [O3]); (try rw [O4]); (try rw [O5]); (try rw [O6]); (try rw [O7]); (try rw [O8]); (try rw [O9]); (try rw [O10])
    exact K
def lm_1043p : zS := ((lm_473pi_0 (lm_473pi_1 [])), [], [(0, [(1, 1), (2, (-1))]), (0, [(1, (-1)), (2, 1)]), ((-1), [(0, (-1))])], [], [(0, 0, 0, [(0, 1)]), (0, 0, 0, [(1, 1)])], [], [(252, [(0, [(3, 1)]), (0, [(4, 1)]), (0, [(5, 1)]), (0, [(6, 1)]), (0, [(7, 1)]), (0, [(8, 1)]), (0, [(9, 1)]), ((-2), []), (0, [(2, 1)])]), (238, [(26, []), (0, [(3, 1)]), (0, [(4, 1)]), (0, [(5, 1)]), (0, [(6, 1)]), (0, [(7, 1)]), (0, [(8, 1)]), (0, [(9, 1)]), (999, []), (1, [(1, 1)]), (0, [(0, 1)])])])
def lm_1043 : zLem := (lm_1043p, [([((-2147483648), 2147483647), ((-2147483648), 2147483647), ((-2147483648), 2147483647), ((-2147483648), 2147483647), ((-2147483648), 2147483647), ((-2147483648), 2147483647), ((-2147483648), 2147483647), ((-2147483648), 2147483647), ((-2147483648), 2147483647), ((-2147483648), 2147483647)], [], [], [], [], [], [(238, [(27, []), (0, [(3, 1)]), (0, [(4, 1)]), (0, [(5, 1)]), (0, [(6, 1)]), (0, [(7, 1)]), (0, [(8, 1)]), (0, [(9, 1)]), (0, []), (0, []), ((-2), [])])])])
theorem lk_1043 : l_core lm_1043 := by
  first
  | skip
    intro v x h
    have K := k_mosN (V := v) (z := x 0) (i := x 1) (m := x 2) (q := x 3) (b := x 4) (s := x 5) (o := x 6) (a1 := x 7) (a2 := x 8) (a3 := x 9) (l_c9 (fun w0 w1 w2 w3 w4 w5 w6 w7 w8 : Int => q_mgn v w0 w1 w2 w3 w4 w5 w6 w7 w8) (l_e1 x 3) (l_e1 x 4) (l_e1 x 5) (l_e1 x 6) (l_e1 x 7) (l_e1 x 8) (l_e1 x 9) (l_e0 x (-2)) (l_e1 x 2) (h.2.2.2.1)) (l_c11 (fun w0 w1 w2 w3 w4 w5 w6 w7 w8 w9 w10 : Int => q_qry v w0 w1 w2 w3 w4 w5 w6 w7 w8 w9 w10) (l_e0 x (26)) (l_e1 x 3) (l_e1 x 4) (l_e1 x 5) (l_e1 x 6) (l_e1 x 7) (l_e1 x 8) (l_e1 x 9) (l_e0 x (999)) (l_q3 1 x 1) (l_e1 x 0) (h.2.2.2.2.1)) (l_cc (l_q5 x 1 2) (h.2.1.1)) (l_cc (l_q4 x 1 2) (h.2.1.2.1)) (l_cc (l_q11 1 x 0) (h.2.1.2.2.1))
    refine l_outH rfl (And.intro h.1 ?_)
    exact l_o10 (fun w0 w1 w2 w3 w4 w5 w6 w7 w8 w9 : Int => (True) ∧ (q_qry v w0 w1 w2 w3 w4 w5 w6 w7 w8 w8 w9 ∧ True)) (l_e0 x (27)) (l_e1 x 3) (l_e1 x 4) (l_e1 x 5) (l_e1 x 6) (l_e1 x 7) (l_e1 x 8) (l_e1 x 9) (l_e0 x (0)) (l_e0 x (-2)) K
  | skip
    intro v x h
    have C0 : (0 : Int) ≤ x 1 - x 2 := l_cc (a := y_ev x (0, [(1, 1), (2, (-1))])) (by show ((0) : Int) + ((1) * x 1 + ((-1) * x 2 + 0)) = x 1 - x 2; omega) (h.2.1.1)
    have C1 : (0 : Int) ≤ x 2 - x 1 := l_cc (a := y_ev x (0, [(1, (-1)), (2, 1)])) (by show ((0) : Int) + ((-1) * x 1 + ((1) * x 2 + 0)) = x 2 - x 1; omega) (h.2.1.2.1)
    have C2 : (0 : Int) ≤ -x 0 - 1 := l_cc (a := y_ev x ((-1), [(0, (-1))])) (by show ((-1) : Int) + ((-1) * x 0 + 0) = -x 0 - 1; omega) (h.2.1.2.2.1)
    have E0 : y_ev x (0, [(3, 1)]) = x 3 := (l_e1 _ _)
    have E1 : y_ev x (0, [(4, 1)]) = x 4 := (l_e1 _ _)
    have E2 : y_ev x (0, [(5, 1)]) = x 5 := (l_e1 _ _)
    have E3 : y_ev x (0, [(6, 1)]) = x 6 := (l_e1 _ _)
    have E4 : y_ev x (0, [(7, 1)]) = x 7 := (l_e1 _ _)
    have E5 : y_ev x (0, [(8, 1)]) = x 8 := (l_e1 _ _)
    have E6 : y_ev x (0, [(9, 1)]) = x 9 := (l_e1 _ _)
    have E7 : y_ev x ((-2), []) = (-2) := (l_e0 _ _)
    have E8 : y_ev x (0, [(2, 1)]) = x 2 := (l_e1 _ _)
    have E9 : y_ev x (26, []) = 26 := (l_e0 _ _)
    have E10 : y_ev x (999, []) = 999 := (l_e0 _ _)
    have E11 : y_ev x (1, [(1, 1)]) = x 1 + 1 := (by show ((1) : Int) + ((1) * x 1 + 0) = x 1 + 1; omega)
    have E12 : y_ev x (0, [(0, 1)]) = x 0 := (l_e1 _ _)
    have T0 : q_mgn v (y_ev x (0, [(3, 1)])) (y_ev x (0, [(4, 1)])) (y_ev x (0, [(5, 1)])) (y_ev x (0, [(6, 1)])) (y_ev x (0, [(7, 1)])) (y_ev x (0, [(8, 1)])) (y_ev x (0, [(9, 1)])) (y_ev x ((-2), [])) (y_ev x (0, [(2, 1)])) := h.2.2.2.1
    (try rw [E0] at T0); (try rw [E1] at T0); (try rw [E2] at T0); (try rw [E3] at T0); (try rw [E4] at T0); (try rw [E5] at T0); (try rw [E6] at T0); (try rw [E7] at T0); (try rw [E8] at T0)
    have T1 : q_qry v (y_ev x (26, [])) (y_ev x (0, [(3, 1)])) (y_ev x (0, [(4, 1)])) (y_ev x (0, [(5, 1)])) (y_ev x (0, [(6, 1)])) (y_ev x (0, [(7, 1)])) (y_ev x (0, [(8, 1)])) (y_ev x (0, [(9, 1)])) (y_ev x (999, [])) (y_ev x (1, [(1, 1)])) (y_ev x (0, [(0, 1)])) := h.2.2.2.2.1
    (try rw [E9] at T1); (try rw [E0] at T1); (try rw [E1] at T1); (try rw [E2] at T1); (try rw [E3] at T1); (try rw [E4] at T1); (try rw [E5] at T1); (try rw [E6] at T1); (try rw [E10] at T1); (try rw [E11] at T1); (try rw [E12] at T1)
    have K := k_mosN (V := v) (z := x 0) (i := x 1) (m := x 2) (q := x 3) (b := x 4) (s := x 5) (o := x 6) (a1 := x 7) (a2 := x 8) (a3 := x 9) T0 T1 C0 C1 C2
    refine l_outH rfl (And.intro h.1 ?_)
    have O0 : y_ev x (27, []) = 27 := l_e0 _ _
    have O1 : y_ev x (0, [(3, 1)]) = x 3 := l_e1 _ _
    have O2 : y_ev x (0, [(4, 1)]) = x 4 := l_e1 _ _
    have O3 : y_ev x (0, [(5, 1)]) = x 5 := l_e1 _ _
    have O4 : y_ev x (0, [(6, 1)]) = x 6 := l_e1 _ _
    have O5 : y_ev x (0, [(7, 1)]) = x 7 := l_e1 _ _
    have O6 : y_ev x (0, [(8, 1)]) = x 8 := l_e1 _ _
    have O7 : y_ev x (0, [(9, 1)]) = x 9 := l_e1 _ _
    have O8 : y_ev x (0, []) = 0 := l_e0 _ _
    have O9 : y_ev x ((-2), []) = (-2) := l_e0 _ _
    show (True) ∧ (q_qry v (y_ev x (27, [])) (y_ev x (0, [(3, 1)])) (y_ev x (0, [(4, 1)])) (y_ev x (0, [(5, 1)])) (y_ev x (0, [(6, 1)])) (y_ev x (0, [(7, 1)])) (y_ev x (0, [(8, 1)])) (y_ev x (0, [(9, 1)])) (y_ev x (0, [])) (y_ev x (0, [])) (y_ev x ((-2), [])) ∧ True)
    (try rw [O0]); (try rw [O1]); (try rw [O2]); (try rw [O3]); (try rw [O4]); (try rw [O5]); (try rw [O6]); (try rw [O7]); (try rw [O8]); (try rw [O9])
    exact K
def lm_1044p : zS := ((lm_473pi_0 (lm_473pi_1 [])), [], [(0, [(1, 1), (2, (-1))]), (0, [(1, (-1)), (2, 1)]), (0, [(0, 1)])], [], [(0, 0, 0, [(0, 1)]), (0, 0, 0, [(1, 1)])], [], [(252, [(0, [(3, 1)]), (0, [(4, 1)]), (0, [(5, 1)]), (0, [(6, 1)]), (0, [(7, 1)]), (0, [(8, 1)]), (0, [(9, 1)]), ((-2), []), (0, [(2, 1)])]), (238, [(26, []), (0, [(3, 1)]), (0, [(4, 1)]), (0, [(5, 1)]), (0, [(6, 1)]), (0, [(7, 1)]), (0, [(8, 1)]), (0, [(9, 1)]), (999, []), (1, [(1, 1)]), (0, [(0, 1)])])])
def lm_1044 : zLem := (lm_1044p, [([((-2147483648), 2147483647), ((-2147483648), 2147483647), ((-2147483648), 2147483647), ((-2147483648), 2147483647), ((-2147483648), 2147483647), ((-2147483648), 2147483647), ((-2147483648), 2147483647), ((-2147483648), 2147483647), ((-2147483648), 2147483647), ((-2147483648), 2147483647)], [], [], [], [], [], [(238, [(27, []), (0, [(3, 1)]), (0, [(4, 1)]), (0, [(5, 1)]), (0, [(6, 1)]), (0, [(7, 1)]), (0, [(8, 1)]), (0, [(9, 1)]), (0, []), (0, []), (0, [(0, 1)])])])])
theorem lk_1044 : l_core lm_1044 := by
  first
  | skip
    intro v x h
    have K := k_mosY (V := v) (z := x 0) (i := x 1) (m := x 2) (q := x 3) (b := x 4) (s := x 5) (o := x 6) (a1 := x 7) (a2 := x 8) (a3 := x 9) (l_c9 (fun w0 w1 w2 w3 w4 w5 w6 w7 w8 : Int => q_mgn v w0 w1 w2 w3 w4 w5 w6 w7 w8) (l_e1 x 3) (l_e1 x 4) (l_e1 x 5) (l_e1 x 6) (l_e1 x 7) (l_e1 x 8) (l_e1 x 9) (l_e0 x (-2)) (l_e1 x 2) (h.2.2.2.1)) (l_c11 (fun w0 w1 w2 w3 w4 w5 w6 w7 w8 w9 w10 : Int => q_qry v w0 w1 w2 w3 w4 w5 w6 w7 w8 w9 w10) (l_e0 x (26)) (l_e1 x 3) (l_e1 x 4) (l_e1 x 5) (l_e1 x 6) (l_e1 x 7) (l_e1 x 8) (l_e1 x 9) (l_e0 x (999)) (l_q3 1 x 1) (l_e1 x 0) (h.2.2.2.2.1)) (l_cc (l_q5 x 1 2) (h.2.1.1)) (l_cc (l_q4 x 1 2) (h.2.1.2.1)) (l_cc (l_e1 x 0) (h.2.1.2.2.1))
    refine l_outH rfl (And.intro h.1 ?_)
    exact l_o10 (fun w0 w1 w2 w3 w4 w5 w6 w7 w8 w9 : Int => (True) ∧ (q_qry v w0 w1 w2 w3 w4 w5 w6 w7 w8 w8 w9 ∧ True)) (l_e0 x (27)) (l_e1 x 3) (l_e1 x 4) (l_e1 x 5) (l_e1 x 6) (l_e1 x 7) (l_e1 x 8) (l_e1 x 9) (l_e0 x (0)) (l_e1 x 0) K
  | skip
    intro v x h
    have C0 : (0 : Int) ≤ x 1 - x 2 := l_cc (a := y_ev x (0, [(1, 1), (2, (-1))])) (by show ((0) : Int) + ((1) * x 1 + ((-1) * x 2 + 0)) = x 1 - x 2; omega) (h.2.1.1)
    have C1 : (0 : Int) ≤ x 2 - x 1 := l_cc (a := y_ev x (0, [(1, (-1)), (2, 1)])) (by show ((0) : Int) + ((-1) * x 1 + ((1) * x 2 + 0)) = x 2 - x 1; omega) (h.2.1.2.1)
    have C2 : (0 : Int) ≤ x 0 := l_cc (a := y_ev x (0, [(0, 1)])) (l_e1 _ _) (h.2.1.2.2.1)
    have E0 : y_ev x (0, [(3, 1)]) = x 3 := (l_e1 _ _)
    have E1 : y_ev x (0, [(4, 1)]) = x 4 := (l_e1 _ _)
    have E2 : y_ev x (0, [(5, 1)]) = x 5 := (l_e1 _ _)
    have E3 : y_ev x (0, [(6, 1)]) = x 6 := (l_e1 _ _)
    have E4 : y_ev x (0, [(7, 1)]) = x 7 := (l_e1 _ _)
    have E5 : y_ev x (0, [(8, 1)]) = x 8 := (l_e1 _ _)
    have E6 : y_ev x (0, [(9, 1)]) = x 9 := (l_e1 _ _)
    have E7 : y_ev x ((-2), []) = (-2) := (l_e0 _ _)
    have E8 : y_ev x (0, [(2, 1)]) = x 2 := (l_e1 _ _)
    have E9 : y_ev x (26, []) = 26 := (l_e0 _ _)
    have E10 : y_ev x (999, []) = 999 := (l_e0 _ _)
    have E11 : y_ev x (1, [(1, 1)]) = x 1 + 1 := (by show ((1) : Int) + ((1) * x 1 + 0) = x 1 + 1; omega)
    have E12 : y_ev x (0, [(0, 1)]) = x 0 := (l_e1 _ _)
    have T0 : q_mgn v (y_ev x (0, [(3, 1)])) (y_ev x (0, [(4, 1)])) (y_ev x (0, [(5, 1)])) (y_ev x (0, [(6, 1)])) (y_ev x (0, [(7, 1)])) (y_ev x (0, [(8, 1)])) (y_ev x (0, [(9, 1)])) (y_ev x ((-2), [])) (y_ev x (0, [(2, 1)])) := h.2.2.2.1
    (try rw [E0] at T0); (try rw [E1] at T0); (try rw [E2] at T0); (try rw [E3] at T0); (try rw [E4] at T0); (try rw [E5] at T0); (try rw [E6] at T0); (try rw [E7] at T0); (try rw [E8] at T0)
    have T1 : q_qry v (y_ev x (26, [])) (y_ev x (0, [(3, 1)])) (y_ev x (0, [(4, 1)])) (y_ev x (0, [(5, 1)])) (y_ev x (0, [(6, 1)])) (y_ev x (0, [(7, 1)])) (y_ev x (0, [(8, 1)])) (y_ev x (0, [(9, 1)])) (y_ev x (999, [])) (y_ev x (1, [(1, 1)])) (y_ev x (0, [(0, 1)])) := h.2.2.2.2.1
    (try rw [E9] at T1); (try rw [E0] at T1); (try rw [E1] at T1); (try rw [E2] at T1); (try rw [E3] at T1); (try rw [E4] at T1); (try rw [E5] at T1); (try rw [E6] at T1); (try rw [E10] at T1); (try rw [E11] at T1); (try rw [E12] at T1)
    have K := k_mosY (V := v) (z := x 0) (i := x 1) (m := x 2) (q := x 3) (b := x 4) (s := x 5) (o := x 6) (a1 := x 7) (a2 := x 8) (a3 := x 9) T0 T1 C0 C1 C2
    refine l_outH rfl (And.intro h.1 ?_)
    have O0 : y_ev x (27, []) = 27 := l_e0 _ _
    have O1 : y_ev x (0, [(3, 1)]) = x 3 := l_e1 _ _
    have O2 : y_ev x (0, [(4, 1)]) = x 4 := l_e1 _ _
    have O3 : y_ev x (0, [(5, 1)]) = x 5 := l_e1 _ _
    have O4 : y_ev x (0, [(6, 1)]) = x 6 := l_e1 _ _
    have O5 : y_ev x (0, [(7, 1)]) = x 7 := l_e1 _ _
    have O6 : y_ev x (0, [(8, 1)]) = x 8 := l_e1 _ _
    have O7 : y_ev x (0, [(9, 1)]) = x 9 := l_e1 _ _
    have O8 : y_ev x (0, []) = 0 := l_e0 _ _
    have O9 : y_ev x (0, [(0, 1)]) = x 0 := l_e1 _ _
    show (True) ∧ (q_qry v (y_ev x (27, [])) (y_ev x (0, [(3, 1)])) (y_ev x (0, [(4, 1)])) (y_ev x (0, [(5, 1)])) (y_ev x (0, [(6, 1)])) (y_ev x (0, [(7, 1)])) (y_ev x (0, [(8, 1)])) (y_ev x (0, [(9, 1)])) (y_ev x (0, [])) (y_ev x (0, [])) (y_ev x (0, [(0, 1)])) ∧ True)
    (try rw [O0]); (try rw [O1]); (try rw [O2]); (try rw [O3]); (try rw [O4]); (try rw [O5]); (try rw [O6]); (try rw [O7]); (try rw [O8]); (try rw [O9])
    exact K
def lm_1045 : zLem := (([((-2147483648), 2147483647), ((-2147483648), 2147483647), ((-2147483648), 2147483647), ((-2147483648), 2147483647), ((-2147483648), 2147483647), ((-2147483648), 2147483647), ((-2147483648), 2147483647), ((-2147483648), 2147483647), ((-2147483648), 2147483647), ((-2147483648), 2147483647)], [], [(0, [(2, 1)]), (9999, [(0, (-1))])], [], [(0, 0, 0, [(2, 1)])], [], [(252, [(0, [(3, 1)]), (0, [(4, 1)]), (0, [(5, 1)]), (0, [(6, 1)]), (0, [(7, 1)]), (0, [(8, 1)]), (0, [(9, 1)]), ((-2), []), (0, [(1, 1)])]), (254, [(0, [(0, 1)]), (0, [(1, 1)]), (0, [(2, 1)])])]), [([((-2147483648), 2147483647), ((-2147483648), 2147483647), ((-2147483648), 2147483647), ((-2147483648), 2147483647), ((-2147483648), 2147483647), ((-2147483648), 2147483647), ((-2147483648), 2147483647), ((-2147483648), 2147483647), ((-2147483648), 2147483647), ((-2147483648), 2147483647)], [], [], [], [], [], [(260, [(3, []), (0, [(3, 1)]), (0, [(4, 1)]), (0, [(5, 1)]), (0, [(6, 1)]), (0, [(7, 1)]), (0, [(8, 1)]), (0, [(9, 1)]), (0, [(0, 1)]), (0, []), (1, [(2, 1)])])])])
theorem lk_1045 : l_core lm_1045 := by
  first
  | skip
    intro v x h
    have K := k_brk1 (V := v) (w := x 0) (m := x 1) (i := x 2) (q := x 3) (b := x 4) (s := x 5) (o := x 6) (a1 := x 7) (a2 := x 8) (a3 := x 9) (l_c9 (fun w0 w1 w2 w3 w4 w5 w6 w7 w8 : Int => q_mgn v w0 w1 w2 w3 w4 w5 w6 w7 w8) (l_e1 x 3) (l_e1 x 4) (l_e1 x 5) (l_e1 x 6) (l_e1 x 7) (l_e1 x 8) (l_e1 x 9) (l_e0 x (-2)) (l_e1 x 1) (h.2.2.2.1)) (l_c3 (fun w0 w1 w2 : Int => (0 ≤ w2 ∧ w2 < w1 ∧ v 25 w2 < w0 ∧ ∀ t : Int, 0 ≤ t → t < w2 → w0 ≤ v 25 t) ∨ (w2 = -1 ∧ ∀ t : Int, 0 ≤ t → t < w1 → w0 ≤ v 25 t)) (l_e1 x 0) (l_e1 x 1) (l_e1 x 2) (h.2.2.2.2.1)) (l_cc (l_e1 x 2) (h.2.1.1)) (l_cc (l_q1 9999 x 0) (h.2.1.2.1))
    refine l_outH rfl (And.intro h.1 ?_)
    exact l_o11 (fun w0 w1 w2 w3 w4 w5 w6 w7 w8 w9 w10 : Int => (True) ∧ (q_qry v w0 w1 w2 w3 w4 w5 w6 w7 w8 w9 w10 ∧ True)) (l_e0 x (3)) (l_e1 x 3) (l_e1 x 4) (l_e1 x 5) (l_e1 x 6) (l_e1 x 7) (l_e1 x 8) (l_e1 x 9) (l_e1 x 0) (l_e0 x (0)) (l_q3 1 x 2) K
  | skip
    intro v x h
    have C0 : (0 : Int) ≤ x 2 := l_cc (a := y_ev x (0, [(2, 1)])) (l_e1 _ _) (h.2.1.1)
    have C1 : (0 : Int) ≤ 9999 - x 0 := l_cc (a := y_ev x (9999, [(0, (-1))])) (by show ((9999) : Int) + ((-1) * x 0 + 0) = 9999 - x 0; omega) (h.2.1.2.1)
    have E0 : y_ev x (0, [(3, 1)]) = x 3 := (l_e1 _ _)
    have E1 : y_ev x (0, [(4, 1)]) = x 4 := (l_e1 _ _)
    have E2 : y_ev x (0, [(5, 1)]) = x 5 := (l_e1 _ _)
    have E3 : y_ev x (0, [(6, 1)]) = x 6 := (l_e1 _ _)
    have E4 : y_ev x (0, [(7, 1)]) = x 7 := (l_e1 _ _)
    have E5 : y_ev x (0, [(8, 1)]) = x 8 := (l_e1 _ _)
    have E6 : y_ev x (0, [(9, 1)]) = x 9 := (l_e1 _ _)
    have E7 : y_ev x ((-2), []) = (-2) := (l_e0 _ _)
    have E8 : y_ev x (0, [(1, 1)]) = x 1 := (l_e1 _ _)
    have E9 : y_ev x (0, [(0, 1)]) = x 0 := (l_e1 _ _)
    have E10 : y_ev x (0, [(2, 1)]) = x 2 := (l_e1 _ _)
    have T0 : q_mgn v (y_ev x (0, [(3, 1)])) (y_ev x (0, [(4, 1)])) (y_ev x (0, [(5, 1)])) (y_ev x (0, [(6, 1)])) (y_ev x (0, [(7, 1)])) (y_ev x (0, [(8, 1)])) (y_ev x (0, [(9, 1)])) (y_ev x ((-2), [])) (y_ev x (0, [(1, 1)])) := h.2.2.2.1
    (try rw [E0] at T0); (try rw [E1] at T0); (try rw [E2] at T0); (try rw [E3] at T0); (try rw [E4] at T0); (try rw [E5] at T0); (try rw [E6] at T0); (try rw [E7] at T0); (try rw [E8] at T0)
    have T1 : (0 ≤ (y_ev x (0, [(2, 1)])) ∧ (y_ev x (0, [(2, 1)])) < (y_ev x (0, [(1, 1)])) ∧ v 25 (y_ev x (0, [(2, 1)])) < (y_ev x (0, [(0, 1)])) ∧ ∀ t : Int, 0 ≤ t → t < (y_ev x (0, [(2, 1)])) → (y_ev x (0, [(0, 1)])) ≤ v 25 t) ∨ ((y_ev x (0, [(2, 1)])) = -1 ∧ ∀ t : Int, 0 ≤ t → t < (y_ev x (0, [(1, 1)])) → (y_ev x (0, [(0, 1)])) ≤ v 25 t) := h.2.2.2.2.1
    (try rw [E9] at T1); (try rw [E8] at T1); (try rw [E10] at T1)
    have K := k_brk1 (V := v) (w := x 0) (m := x 1) (i := x 2) (q := x 3) (b := x 4) (s := x 5) (o := x 6) (a1 := x 7) (a2 := x 8) (a3 := x 9) T0 T1 C0 C1
    refine l_outH rfl (And.intro h.1 ?_)
    have O0 : y_ev x (3, []) = 3 := l_e0 _ _
    have O1 : y_ev x (0, [(3, 1)]) = x 3 := l_e1 _ _
    have O2 : y_ev x (0, [(4, 1)]) = x 4 := l_e1 _ _
    have O3 : y_ev x (0, [(5, 1)]) = x 5 := l_e1 _ _
    have O4 : y_ev x (0, [(6, 1)]) = x 6 := l_e1 _ _
    have O5 : y_ev x (0, [(7, 1)]) = x 7 := l_e1 _ _
    have O6 : y_ev x (0, [(8, 1)]) = x 8 := l_e1 _ _
    have O7 : y_ev x (0, [(9, 1)]) = x 9 := l_e1 _ _
    have O8 : y_ev x (0, [(0, 1)]) = x 0 := l_e1 _ _
    have O9 : y_ev x (0, []) = 0 := l_e0 _ _
    have O10 : y_ev x (1, [(2, 1)]) = x 2 + 1 := by show ((1) : Int) + ((1) * x 2 + 0) = _; omega
    show (True) ∧ (q_qry v (y_ev x (3, [])) (y_ev x (0, [(3, 1)])) (y_ev x (0, [(4, 1)])) (y_ev x (0, [(5, 1)])) (y_ev x (0, [(6, 1)])) (y_ev x (0, [(7, 1)])) (y_ev x (0, [(8, 1)])) (y_ev x (0, [(9, 1)])) (y_ev x (0, [(0, 1)])) (y_ev x (0, [])) (y_ev x (1, [(2, 1)])) ∧ True)
    (try rw [O0]); (try rw [O1]); (try rw [O2]); (try rw [O3]); (try rw [O4]); (try rw [O5]); (try rw [O6]); (try rw [O7]); (try rw [O8]); (try rw [O9]); (try rw [O10])
    exact K
def lm_1046 : zLem := (([((-2147483648), 2147483647), ((-2147483648), 2147483647), ((-2147483648), 2147483647), ((-2147483648), 2147483647), ((-2147483648), 2147483647), ((-2147483648), 2147483647), ((-2147483648), 2147483647), ((-2147483648), 2147483647), ((-2147483648), 2147483647)], [], [(9999, [(0, (-1))])], [], [], [], [(252, [(0, [(2, 1)]), (0, [(3, 1)]), (0, [(4, 1)]), (0, [(5, 1)]), (0, [(6, 1)]), (0, [(7, 1)]), (0, [(8, 1)]), ((-2), []), (0, [(1, 1)])]), (254, [(0, [(0, 1)]), (0, [(1, 1)]), ((-1), [])])]), [([((-2147483648), 2147483647), ((-2147483648), 2147483647), ((-2147483648), 2147483647), ((-2147483648), 2147483647), ((-2147483648), 2147483647), ((-2147483648), 2147483647), ((-2147483648), 2147483647), ((-2147483648), 2147483647), ((-2147483648), 2147483647)], [], [], [], [], [], [(260, [(3, []), (0, [(2, 1)]), (0, [(3, 1)]), (0, [(4, 1)]), (0, [(5, 1)]), (0, [(6, 1)]), (0, [(7, 1)]), (0, [(8, 1)]), (0, [(0, 1)]), (0, []), ((-1), [])])])])
theorem lk_1046 : l_core lm_1046 := by
  first
  | skip
    intro v x h
    have K := k_brk0 (V := v) (w := x 0) (m := x 1) (q := x 2) (b := x 3) (s := x 4) (o := x 5) (a1 := x 6) (a2 := x 7) (a3 := x 8) (l_c9 (fun w0 w1 w2 w3 w4 w5 w6 w7 w8 : Int => q_mgn v w0 w1 w2 w3 w4 w5 w6 w7 w8) (l_e1 x 2) (l_e1 x 3) (l_e1 x 4) (l_e1 x 5) (l_e1 x 6) (l_e1 x 7) (l_e1 x 8) (l_e0 x (-2)) (l_e1 x 1) (h.2.2.2.1)) (l_c3 (fun w0 w1 w2 : Int => (0 ≤ w2 ∧ w2 < w1 ∧ v 25 w2 < w0 ∧ ∀ t : Int, 0 ≤ t → t < w2 → w0 ≤ v 25 t) ∨ (w2 = -1 ∧ ∀ t : Int, 0 ≤ t → t < w1 → w0 ≤ v 25 t)) (l_e1 x 0) (l_e1 x 1) (l_e0 x (-1)) (h.2.2.2.2.1)) (l_cc (l_q1 9999 x 0) (h.2.1.1))
    refine l_outH rfl (And.intro h.1 ?_)
    exact l_o11 (fun w0 w1 w2 w3 w4 w5 w6 w7 w8 w9 w10 : Int => (True) ∧ (q_qry v w0 w1 w2 w3 w4 w5 w6 w7 w8 w9 w10 ∧ True)) (l_e0 x (3)) (l_e1 x 2) (l_e1 x 3) (l_e1 x 4) (l_e1 x 5) (l_e1 x 6) (l_e1 x 7) (l_e1 x 8) (l_e1 x 0) (l_e0 x (0)) (l_e0 x (-1)) K
  | skip
    intro v x h
    have C0 : (0 : Int) ≤ 9999 - x 0 := l_cc (a := y_ev x (9999, [(0, (-1))])) (by show ((9999) : Int) + ((-1) * x 0 + 0) = 9999 - x 0; omega) (h.2.1.1)
    have E0 : y_ev x (0, [(2, 1)]) = x 2 := (l_e1 _ _)
    have E1 : y_ev x (0, [(3, 1)]) = x 3 := (l_e1 _ _)
    have E2 : y_ev x (0, [(4, 1)]) = x 4 := (l_e1 _ _)
    have E3 : y_ev x (0, [(5, 1)]) = x 5 := (l_e1 _ _)
    have E4 : y_ev x (0, [(6, 1)]) = x 6 := (l_e1 _ _)
    have E5 : y_ev x (0, [(7, 1)]) = x 7 := (l_e1 _ _)
    have E6 : y_ev x (0, [(8, 1)]) = x 8 := (l_e1 _ _)
    have E7 : y_ev x ((-2), []) = (-2) := (l_e0 _ _)
    have E8 : y_ev x (0, [(1, 1)]) = x 1 := (l_e1 _ _)
    have E9 : y_ev x (0, [(0, 1)]) = x 0 := (l_e1 _ _)
    have E10 : y_ev x ((-1), []) = (-1) := (l_e0 _ _)
    have T0 : q_mgn v (y_ev x (0, [(2, 1)])) (y_ev x (0, [(3, 1)])) (y_ev x (0, [(4, 1)])) (y_ev x (0, [(5, 1)])) (y_ev x (0, [(6, 1)])) (y_ev x (0, [(7, 1)])) (y_ev x (0, [(8, 1)])) (y_ev x ((-2), [])) (y_ev x (0, [(1, 1)])) := h.2.2.2.1
    (try rw [E0] at T0); (try rw [E1] at T0); (try rw [E2] at T0); (try rw [E3] at T0); (try rw [E4] at T0); (try rw [E5] at T0); (try rw [E6] at T0); (try rw [E7] at T0); (try rw [E8] at T0)
    have T1 : (0 ≤ (y_ev x ((-1), [])) ∧ (y_ev x ((-1), [])) < (y_ev x (0, [(1, 1)])) ∧ v 25 (y_ev x ((-1), [])) < (y_ev x (0, [(0, 1)])) ∧ ∀ t : Int, 0 ≤ t → t < (y_ev x ((-1), [])) → (y_ev x (0, [(0, 1)])) ≤ v 25 t) ∨ ((y_ev x ((-1), [])) = -1 ∧ ∀ t : Int, 0 ≤ t → t < (y_ev x (0, [(1, 1)])) → (y_ev x (0, [(0, 1)])) ≤ v 25 t) := h.2.2.2.2.1
    (try rw [E9] at T1); (try rw [E8] at T1); (try rw [E10] at T1)
    have K := k_brk0 (V := v) (w := x 0) (m := x 1) (q := x 2) (b := x 3) (s := x 4) (o := x 5) (a1 := x 6) (a2 := x 7) (a3 := x 8) T0 T1 C0
    refine l_outH rfl (And.intro h.1 ?_)
    have O0 : y_ev x (3, []) = 3 := l_e0 _ _
    have O1 : y_ev x (0, [(2, 1)]) = x 2 := l_e1 _ _
    have O2 : y_ev x (0, [(3, 1)]) = x 3 := l_e1 _ _
    have O3 : y_ev x (0, [(4, 1)]) = x 4 := l_e1 _ _
    have O4 : y_ev x (0, [(5, 1)]) = x 5 := l_e1 _ _
    have O5 : y_ev x (0, [(6, 1)]) = x 6 := l_e1 _ _
    have O6 : y_ev x (0, [(7, 1)]) = x 7 := l_e1 _ _
    have O7 : y_ev x (0, [(8, 1)]) = x 8 := l_e1 _ _
    have O8 : y_ev x (0, [(0, 1)]) = x 0 := l_e1 _ _
    have O9 : y_ev x (0, []) = 0 := l_e0 _ _
    have O10 : y_ev x ((-1), []) = (-1) := l_e0 _ _
    show (True) ∧ (q_qry v (y_ev x (3, [])) (y_ev x (0, [(2, 1)])) (y_ev x (0, [(3, 1)])) (y_ev x (0, [(4, 1)])) (y_ev x (0, [(5, 1)])) (y_ev x (0, [(6, 1)])) (y_ev x (0, [(7, 1)])) (y_ev x (0, [(8, 1)])) (y_ev x (0, [(0, 1)])) (y_ev x (0, [])) (y_ev x ((-1), [])) ∧ True)
    (try rw [O0]); (try rw [O1]); (try rw [O2]); (try rw [O3]); (try rw [O4]); (try rw [O5]); (try rw [O6]); (try rw [O7]); (try rw [O8]); (try rw [O9]); (try rw [O10])
    exact K
def lm_1047 : zLem := (([((-2147483648), 2147483647), ((-2147483648), 2147483647), ((-2147483648), 2147483647), ((-2147483648), 2147483647), ((-2147483648), 2147483647), ((-2147483648), 2147483647), ((-2147483648), 2147483647), ((-2147483648), 2147483647)], [], [], [], [], [], [(237, [(0, [(0, 1)]), (0, [(1, 1)]), (0, [(2, 1)]), (0, [(3, 1)]), (0, [(4, 1)]), (0, [(5, 1)]), (0, [(6, 1)]), (0, [(7, 1)])])]), [([((-2147483648), 2147483647), ((-2147483648), 2147483647), ((-2147483648), 2147483647), ((-2147483648), 2147483647), ((-2147483648), 2147483647), ((-2147483648), 2147483647), ((-2147483648), 2147483647), ((-2147483648), 2147483647)], [], [], [], [], [], [(238, [(26, []), (0, [(1, 1)]), (0, [(2, 1)]), (0, [(3, 1)]), (0, [(4, 1)]), (0, [(5, 1)]), (0, [(6, 1)]), (0, [(7, 1)]), (9999, []), (0, []), (9999, [])])])])
theorem lk_1047 : l_core lm_1047 := by
  first
  | skip
    intro v x h
    have K := k_mim0 (V := v) (H := x 0) (q := x 1) (b := x 2) (s := x 3) (o := x 4) (a1 := x 5) (a2 := x 6) (a3 := x 7) (l_c8 (fun w0 w1 w2 w3 w4 w5 w6 w7 : Int => q_rwo v w0 w1 w2 w3 w4 w5 w6 w7) (l_e1 x 0) (l_e1 x 1) (l_e1 x 2) (l_e1 x 3) (l_e1 x 4) (l_e1 x 5) (l_e1 x 6) (l_e1 x 7) (h.2.2.2.1))
    refine l_outH rfl (And.intro h.1 ?_)
    exact l_o10 (fun w0 w1 w2 w3 w4 w5 w6 w7 w8 w9 : Int => (True) ∧ (q_qry v w0 w1 w2 w3 w4 w5 w6 w7 w8 w9 w8 ∧ True)) (l_e0 x (26)) (l_e1 x 1) (l_e1 x 2) (l_e1 x 3) (l_e1 x 4) (l_e1 x 5) (l_e1 x 6) (l_e1 x 7) (l_e0 x (9999)) (l_e0 x (0)) K
  | skip
    intro v x h
    have E0 : y_ev x (0, [(0, 1)]) = x 0 := (l_e1 _ _)
    have E1 : y_ev x (0, [(1, 1)]) = x 1 := (l_e1 _ _)
    have E2 : y_ev x (0, [(2, 1)]) = x 2 := (l_e1 _ _)
    have E3 : y_ev x (0, [(3, 1)]) = x 3 := (l_e1 _ _)
    have E4 : y_ev x (0, [(4, 1)]) = x 4 := (l_e1 _ _)
    have E5 : y_ev x (0, [(5, 1)]) = x 5 := (l_e1 _ _)
    have E6 : y_ev x (0, [(6, 1)]) = x 6 := (l_e1 _ _)
    have E7 : y_ev x (0, [(7, 1)]) = x 7 := (l_e1 _ _)
    have T0 : q_rwo v (y_ev x (0, [(0, 1)])) (y_ev x (0, [(1, 1)])) (y_ev x (0, [(2, 1)])) (y_ev x (0, [(3, 1)])) (y_ev x (0, [(4, 1)])) (y_ev x (0, [(5, 1)])) (y_ev x (0, [(6, 1)])) (y_ev x (0, [(7, 1)])) := h.2.2.2.1
    (try rw [E0] at T0); (try rw [E1] at T0); (try rw [E2] at T0); (try rw [E3] at T0); (try rw [E4] at T0); (try rw [E5] at T0); (try rw [E6] at T0); (try rw [E7] at T0)
    have K := k_mim0 (V := v) (H := x 0) (q := x 1) (b := x 2) (s := x 3) (o := x 4) (a1 := x 5) (a2 := x 6) (a3 := x 7) T0
    refine l_outH rfl (And.intro h.1 ?_)
    have O0 : y_ev x (26, []) = 26 := l_e0 _ _
    have O1 : y_ev x (0, [(1, 1)]) = x 1 := l_e1 _ _
    have O2 : y_ev x (0, [(2, 1)]) = x 2 := l_e1 _ _
    have O3 : y_ev x (0, [(3, 1)]) = x 3 := l_e1 _ _
    have O4 : y_ev x (0, [(4, 1)]) = x 4 := l_e1 _ _
    have O5 : y_ev x (0, [(5, 1)]) = x 5 := l_e1 _ _
    have O6 : y_ev x (0, [(6, 1)]) = x 6 := l_e1 _ _
    have O7 : y_ev x (0, [(7, 1)]) = x 7 := l_e1 _ _
    have O8 : y_ev x (9999, []) = 9999 := l_e0 _ _
    have O9 : y_ev x (0, []) = 0 := l_e0 _ _
    show (True) ∧ (q_qry v (y_ev x (26, [])) (y_ev x (0, [(1, 1)])) (y_ev x (0, [(2, 1)])) (y_ev x (0, [(3, 1)])) (y_ev x (0, [(4, 1)])) (y_ev x (0, [(5, 1)])) (y_ev x (0, [(6, 1)])) (y_ev x (0, [(7, 1)])) (y_ev x (9999, [])) (y_ev x (0, [])) (y_ev x (9999, [])) ∧ True)
    (try rw [O0]); (try rw [O1]); (try rw [O2]); (try rw [O3]); (try rw [O4]); (try rw [O5]); (try rw [O6]); (try rw [O7]); (try rw [O8]); (try rw [O9])
    exact K
def lm_1048p : zS := ((lm_473pi_0 (lm_473pi_1 [])), [], [(0, [(1, 1)]), (0, [(0, (-1)), (2, 1)])], [], [(0, 0, 0, [(0, 1)]), (0, 0, 0, [(1, 1)])], [], [(238, [(2, []), (0, [(3, 1)]), (0, [(4, 1)]), (0, [(5, 1)]), (0, [(6, 1)]), (0, [(7, 1)]), (0, [(8, 1)]), (0, [(9, 1)]), (0, [(1, 1)]), (0, []), (0, [(2, 1)])]), (238, [(26, []), (0, [(3, 1)]), (0, [(4, 1)]), (0, [(5, 1)]), (0, [(6, 1)]), (0, [(7, 1)]), (0, [(8, 1)]), (0, [(9, 1)]), (9999, []), (0, [(1, 1)]), (0, [(0, 1)])])])
def lm_1048 : zLem := (lm_1048p, [([((-2147483648), 2147483647), ((-2147483648), 2147483647), ((-2147483648), 2147483647), ((-2147483648), 2147483647), ((-2147483648), 2147483647), ((-2147483648), 2147483647), ((-2147483648), 2147483647), ((-2147483648), 2147483647), ((-2147483648), 2147483647), ((-2147483648), 2147483647)], [], [], [], [], [], [(238, [(26, []), (0, [(3, 1)]), (0, [(4, 1)]), (0, [(5, 1)]), (0, [(6, 1)]), (0, [(7, 1)]), (0, [(8, 1)]), (0, [(9, 1)]), (9999, []), (1, [(1, 1)]), (0, [(0, 1)])])])])
theorem lk_1048 : l_core lm_1048 := by
  first
  | skip
    intro v x h
    have K := k_mimA (V := v) (z := x 0) (k := x 1) (u := x 2) (q := x 3) (b := x 4) (s := x 5) (o := x 6) (a1 := x 7) (a2 := x 8) (a3 := x 9) (l_c11 (fun w0 w1 w2 w3 w4 w5 w6 w7 w8 w9 w10 : Int => q_qry v w0 w1 w2 w3 w4 w5 w6 w7 w8 w9 w10) (l_e0 x (2)) (l_e1 x 3) (l_e1 x 4) (l_e1 x 5) (l_e1 x 6) (l_e1 x 7) (l_e1 x 8) (l_e1 x 9) (l_e1 x 1) (l_e0 x (0)) (l_e1 x 2) (h.2.2.2.1)) (l_c11 (fun w0 w1 w2 w3 w4 w5 w6 w7 w8 w9 w10 : Int => q_qry v w0 w1 w2 w3 w4 w5 w6 w7 w8 w9 w10) (l_e0 x (26)) (l_e1 x 3) (l_e1 x 4) (l_e1 x 5) (l_e1 x 6) (l_e1 x 7) (l_e1 x 8) (l_e1 x 9) (l_e0 x (9999)) (l_e1 x 1) (l_e1 x 0) (h.2.2.2.2.1)) (l_cc (l_e1 x 1) (h.2.1.1)) (l_cc (l_q4 x 0 2) (h.2.1.2.1))
    refine l_outH rfl (And.intro h.1 ?_)
    exact l_o11 (fun w0 w1 w2 w3 w4 w5 w6 w7 w8 w9 w10 : Int => (True) ∧ (q_qry v w0 w1 w2 w3 w4 w5 w6 w7 w8 w9 w10 ∧ True)) (l_e0 x (26)) (l_e1 x 3) (l_e1 x 4) (l_e1 x 5) (l_e1 x 6) (l_e1 x 7) (l_e1 x 8) (l_e1 x 9) (l_e0 x (9999)) (l_q3 1 x 1) (l_e1 x 0) K
  | skip
    intro v x h
    have C0 : (0 : Int) ≤ x 1 := l_cc (a := y_ev x (0, [(1, 1)])) (l_e1 _ _) (h.2.1.1)
    have C1 : (0 : Int) ≤ x 2 - x 0 := l_cc (a := y_ev x (0, [(0, (-1)), (2, 1)])) (by show ((0) : Int) + ((-1) * x 0 + ((1) * x 2 + 0)) = x 2 - x 0; omega) (h.2.1.2.1)
    have E0 : y_ev x (2, []) = 2 := (l_e0 _ _)
    have E1 : y_ev x (0, [(3, 1)]) = x 3 := (l_e1 _ _)
    have E2 : y_ev x (0, [(4, 1)]) = x 4 := (l_e1 _ _)
    have E3 : y_ev x (0, [(5, 1)]) = x 5 := (l_e1 _ _)
    have E4 : y_ev x (0, [(6, 1)]) = x 6 := (l_e1 _ _)
    have E5 : y_ev x (0, [(7, 1)]) = x 7 := (l_e1 _ _)
    have E6 : y_ev x (0, [(8, 1)]) = x 8 := (l_e1 _ _)
    have E7 : y_ev x (0, [(9, 1)]) = x 9 := (l_e1 _ _)
    have E8 : y_ev x (0, [(1, 1)]) = x 1 := (l_e1 _ _)
    have E9 : y_ev x (0, []) = 0 := (l_e0 _ _)
    have E10 : y_ev x (0, [(2, 1)]) = x 2 := (l_e1 _ _)
    have E11 : y_ev x (26, []) = 26 := (l_e0 _ _)
    have E12 : y_ev x (9999, []) = 9999 := (l_e0 _ _)
    have E13 : y_ev x (0, [(0, 1)]) = x 0 := (l_e1 _ _)
    have T0 : q_qry v (y_ev x (2, [])) (y_ev x (0, [(3, 1)])) (y_ev x (0, [(4, 1)])) (y_ev x (0, [(5, 1)])) (y_ev x (0, [(6, 1)])) (y_ev x (0, [(7, 1)])) (y_ev x (0, [(8, 1)])) (y_ev x (0, [(9, 1)])) (y_ev x (0, [(1, 1)])) (y_ev x (0, [])) (y_ev x (0, [(2, 1)])) := h.2.2.2.1
    (try rw [E0] at T0); (try rw [E1] at T0); (try rw [E2] at T0); (try rw [E3] at T0); (try rw [E4] at T0); (try rw [E5] at T0); (try rw [E6] at T0); (try rw [E7] at T0); (try rw [E8] at T0); (try rw [E9] at T0); (try rw [E10] at T0)
    have T1 : q_qry v (y_ev x (26, [])) (y_ev x (0, [(3, 1)])) (y_ev x (0, [(4, 1)])) (y_ev x (0, [(5, 1)])) (y_ev x (0, [(6, 1)])) (y_ev x (0, [(7, 1)])) (y_ev x (0, [(8, 1)])) (y_ev x (0, [(9, 1)])) (y_ev x (9999, [])) (y_ev x (0, [(1, 1)])) (y_ev x (0, [(0, 1)])) := h.2.2.2.2.1
    (try rw [E11] at T1); (try rw [E1] at T1); (try rw [E2] at T1); (try rw [E3] at T1); (try rw [E4] at T1); (try rw [E5] at T1); (try rw [E6] at T1); (try rw [E7] at T1); (try rw [E12] at T1); (try rw [E8] at T1); (try rw [E13] at T1)
    have K := k_mimA (V := v) (z := x 0) (k := x 1) (u := x 2) (q := x 3) (b := x 4) (s := x 5) (o := x 6) (a1 := x 7) (a2 := x 8) (a3 := x 9) T0 T1 C0 C1
    refine l_outH rfl (And.intro h.1 ?_)
    have O0 : y_ev x (26, []) = 26 := l_e0 _ _
    have O1 : y_ev x (0, [(3, 1)]) = x 3 := l_e1 _ _
    have O2 : y_ev x (0, [(4, 1)]) = x 4 := l_e1 _ _
    have O3 : y_ev x (0, [(5, 1)]) = x 5 := l_e1 _ _
    have O4 : y_ev x (0, [(6, 1)]) = x 6 := l_e1 _ _
    have O5 : y_ev x (0, [(7, 1)]) = x 7 := l_e1 _ _
    have O6 : y_ev x (0, [(8, 1)]) = x 8 := l_e1 _ _
    have O7 : y_ev x (0, [(9, 1)]) = x 9 := l_e1 _ _
    have O8 : y_ev x (9999, []) = 9999 := l_e0 _ _
    have O9 : y_ev x (1, [(1, 1)]) = x 1 + 1 := by show ((1) : Int) + ((1) * x 1 + 0) = _; omega
    have O10 : y_ev x (0, [(0, 1)]) = x 0 := l_e1 _ _
    show (True) ∧ (q_qry v (y_ev x (26, [])) (y_ev x (0, [(3, 1)])) (y_ev x (0, [(4, 1)])) (y_ev x (0, [(5, 1)])) (y_ev x (0, [(6, 1)])) (y_ev x (0, [(7, 1)])) (y_ev x (0, [(8, 1)])) (y_ev x (0, [(9, 1)])) (y_ev x (9999, [])) (y_ev x (1, [(1, 1)])) (y_ev x (0, [(0, 1)])) ∧ True)
    (try rw [O0]); (try rw [O1]); (try rw [O2]); (try rw [O3]); (try rw [O4]); (try rw [O5]); (try rw [O6]); (try rw [O7]); (try rw [O8]); (try rw [O9]); (try rw [O10])
    exact K
def lm_1049pg_0 (t : List zTg) : List zTg := (260, [(2, []), (0, [(4, 1)]), (0, [(5, 1)]), (0, [(6, 1)]), (0, [(7, 1)]), (0, [(8, 1)]), (0, [(9, 1)]), (0, [(10, 1)]), (0, [(1, 1)]), (0, []), (0, [(2, 1)])]) :: (238, [(2, []), (0, [(4, 1)]), (0, [(5, 1)]), (0, [(6, 1)]), (0, [(7, 1)]), (0, [(8, 1)]), (0, [(9, 1)]), (0, [(10, 1)]), (0, [(1, 1)]), (0, []), (0, [(3, 1)])]) :: (238, [(26, []), (0, [(4, 1)]), (0, [(5, 1)]), (0, [(6, 1)]), (0, [(7, 1)]), (0, [(8, 1)]), (0, [(9, 1)]), (0, [(10, 1)]), (9999, []), (0, [(1, 1)]), (0, [(0, 1)])]) :: t
def lm_1049p : zS := ((lm_416pi_0 (lm_416pi_1 [])), [], [(0, [(1, 1)]), ((-1), [(0, 1), (2, (-1))])], [], [(0, 0, 0, [(0, 1)]), (0, 0, 0, [(1, 1)]), (0, 0, 0, [(3, 1)])], [], (lm_1049pg_0 []))
def lm_1049 : zLem := (lm_1049p, [([((-2147483648), 2147483647), ((-2147483648), 2147483647), ((-2147483648), 2147483647), ((-2147483648), 2147483647), ((-2147483648), 2147483647), ((-2147483648), 2147483647), ((-2147483648), 2147483647), ((-2147483648), 2147483647), ((-2147483648), 2147483647), ((-2147483648), 2147483647), ((-2147483648), 2147483647)], [], [], [], [], [], [(238, [(26, []), (0, [(4, 1)]), (0, [(5, 1)]), (0, [(6, 1)]), (0, [(7, 1)]), (0, [(8, 1)]), (0, [(9, 1)]), (0, [(10, 1)]), (9999, []), (1, [(1, 1)]), (0, [(3, 1)])])])])
theorem lk_1049 : l_core lm_1049 := by
  first
  | skip
    intro v x h
    have K := k_mimB (V := v) (z := x 0) (k := x 1) (u := x 2) (w := x 3) (q := x 4) (b := x 5) (s := x 6) (o := x 7) (a1 := x 8) (a2 := x 9) (a3 := x 10) (l_c11 (fun w0 w1 w2 w3 w4 w5 w6 w7 w8 w9 w10 : Int => q_qry v w0 w1 w2 w3 w4 w5 w6 w7 w8 w9 w10) (l_e0 x (2)) (l_e1 x 4) (l_e1 x 5) (l_e1 x 6) (l_e1 x 7) (l_e1 x 8) (l_e1 x 9) (l_e1 x 10) (l_e1 x 1) (l_e0 x (0)) (l_e1 x 2) (h.2.2.2.1)) (l_c11 (fun w0 w1 w2 w3 w4 w5 w6 w7 w8 w9 w10 : Int => q_qry v w0 w1 w2 w3 w4 w5 w6 w7 w8 w9 w10) (l_e0 x (2)) (l_e1 x 4) (l_e1 x 5) (l_e1 x 6) (l_e1 x 7) (l_e1 x 8) (l_e1 x 9) (l_e1 x 10) (l_e1 x 1) (l_e0 x (0)) (l_e1 x 3) (h.2.2.2.2.1)) (l_c11 (fun w0 w1 w2 w3 w4 w5 w6 w7 w8 w9 w10 : Int => q_qry v w0 w1 w2 w3 w4 w5 w6 w7 w8 w9 w10) (l_e0 x (26)) (l_e1 x 4) (l_e1 x 5) (l_e1 x 6) (l_e1 x 7) (l_e1 x 8) (l_e1 x 9) (l_e1 x 10) (l_e0 x (9999)) (l_e1 x 1) (l_e1 x 0) (h.2.2.2.2.2.1)) (l_cc (l_e1 x 1) (h.2.1.1)) (l_cc (l_q8 1 x 0 2) (h.2.1.2.1))
    refine l_outH rfl (And.intro h.1 ?_)
    exact l_o11 (fun w0 w1 w2 w3 w4 w5 w6 w7 w8 w9 w10 : Int => (True) ∧ (q_qry v w0 w1 w2 w3 w4 w5 w6 w7 w8 w9 w10 ∧ True)) (l_e0 x (26)) (l_e1 x 4) (l_e1 x 5) (l_e1 x 6) (l_e1 x 7) (l_e1 x 8) (l_e1 x 9) (l_e1 x 10) (l_e0 x (9999)) (l_q3 1 x 1) (l_e1 x 3) K
  | skip
    intro v x h
    have C0 : (0 : Int) ≤ x 1 := l_cc (a := y_ev x (0, [(1, 1)])) (l_e1 _ _) (h.2.1.1)
    have C1 : (0 : Int) ≤ x 0 - x 2 - 1 := l_cc (a := y_ev x ((-1), [(0, 1), (2, (-1))])) (by show ((-1) : Int) + ((1) * x 0 + ((-1) * x 2 + 0)) = x 0 - x 2 - 1; omega) (h.2.1.2.1)
    have E0 : y_ev x (2, []) = 2 := (l_e0 _ _)
    have E1 : y_ev x (0, [(4, 1)]) = x 4 := (l_e1 _ _)
    have E2 : y_ev x (0, [(5, 1)]) = x 5 := (l_e1 _ _)
    have E3 : y_ev x (0, [(6, 1)]) = x 6 := (l_e1 _ _)
    have E4 : y_ev x (0, [(7, 1)]) = x 7 := (l_e1 _ _)
    have E5 : y_ev x (0, [(8, 1)]) = x 8 := (l_e1 _ _)
    have E6 : y_ev x (0, [(9, 1)]) = x 9 := (l_e1 _ _)
    have E7 : y_ev x (0, [(10, 1)]) = x 10 := (l_e1 _ _)
    have E8 : y_ev x (0, [(1, 1)]) = x 1 := (l_e1 _ _)
    have E9 : y_ev x (0, []) = 0 := (l_e0 _ _)
    have E10 : y_ev x (0, [(2, 1)]) = x 2 := (l_e1 _ _)
    have E11 : y_ev x (0, [(3, 1)]) = x 3 := (l_e1 _ _)
    have E12 : y_ev x (26, []) = 26 := (l_e0 _ _)
    have E13 : y_ev x (9999, []) = 9999 := (l_e0 _ _)
    have E14 : y_ev x (0, [(0, 1)]) = x 0 := (l_e1 _ _)
    have T0 : q_qry v (y_ev x (2, [])) (y_ev x (0, [(4, 1)])) (y_ev x (0, [(5, 1)])) (y_ev x (0, [(6, 1)])) (y_ev x (0, [(7, 1)])) (y_ev x (0, [(8, 1)])) (y_ev x (0, [(9, 1)])) (y_ev x (0, [(10, 1)])) (y_ev x (0, [(1, 1)])) (y_ev x (0, [])) (y_ev x (0, [(2, 1)])) := h.2.2.2.1
    (try rw [E0] at T0); (try rw [E1] at T0); (try rw [E2] at T0); (try rw [E3] at T0); (try rw [E4] at T0); (try rw [E5] at T0); (try rw [E6] at T0); (try rw [E7] at T0); (try rw [E8] at T0); (try rw [E9] at T0); (try rw [E10] at T0)
    have T1 : q_qry v (y_ev x (2, [])) (y_ev x (0, [(4, 1)])) (y_ev x (0, [(5, 1)])) (y_ev x (0, [(6, 1)])) (y_ev x (0, [(7, 1)])) (y_ev x (0, [(8, 1)])) (y_ev x (0, [(9, 1)])) (y_ev x (0, [(10, 1)])) (y_ev x (0, [(1, 1)])) (y_ev x (0, [])) (y_ev x (0, [(3, 1)])) := h.2.2.2.2.1
    (try rw [E0] at T1); (try rw [E1] at T1); (try rw [E2] at T1); (try rw [E3] at T1); (try rw [E4] at T1); (try rw [E5] at T1); (try rw [E6] at T1); (try rw [E7] at T1); (try rw [E8] at T1); (try rw [E9] at T1); (try rw [E11] at T1)
    have T2 : q_qry v (y_ev x (26, [])) (y_ev x (0, [(4, 1)])) (y_ev x (0, [(5, 1)])) (y_ev x (0, [(6, 1)])) (y_ev x (0, [(7, 1)])) (y_ev x (0, [(8, 1)])) (y_ev x (0, [(9, 1)])) (y_ev x (0, [(10, 1)])) (y_ev x (9999, [])) (y_ev x (0, [(1, 1)])) (y_ev x (0, [(0, 1)])) := h.2.2.2.2.2.1
    (try rw [E12] at T2); (try rw [E1] at T2); (try rw [E2] at T2); (try rw [E3] at T2); (try rw [E4] at T2); (try rw [E5] at T2); (try rw [E6] at T2); (try rw [E7] at T2); (try rw [E13] at T2); (try rw [E8] at T2); (try rw [E14] at T2)
    have K := k_mimB (V := v) (z := x 0) (k := x 1) (u := x 2) (w := x 3) (q := x 4) (b := x 5) (s := x 6) (o := x 7) (a1 := x 8) (a2 := x 9) (a3 := x 10) T0 T1 T2 C0 C1
    refine l_outH rfl (And.intro h.1 ?_)
    have O0 : y_ev x (26, []) = 26 := l_e0 _ _
    have O1 : y_ev x (0, [(4, 1)]) = x 4 := l_e1 _ _
    have O2 : y_ev x (0, [(5, 1)]) = x 5 := l_e1 _ _
    have O3 : y_ev x (0, [(6, 1)]) = x 6 := l_e1 _ _
    have O4 : y_ev x (0, [(7, 1)]) = x 7 := l_e1 _ _
    have O5 : y_ev x (0, [(8, 1)]) = x 8 := l_e1 _ _
    have O6 : y_ev x (0, [(9, 1)]) = x 9 := l_e1 _ _
    have O7 : y_ev x (0, [(10, 1)]) = x 10 := l_e1 _ _
    have O8 : y_ev x (9999, []) = 9999 := l_e0 _ _
    have O9 : y_ev x (1, [(1, 1)]) = x 1 + 1 := by show ((1) : Int) + ((1) * x 1 + 0) = _; omega
    have O10 : y_ev x (0, [(3, 1)]) = x 3 := l_e1 _ _
    show (True) ∧ (q_qry v (y_ev x (26, [])) (y_ev x (0, [(4, 1)])) (y_ev x (0, [(5, 1)])) (y_ev x (0, [(6, 1)])) (y_ev x (0, [(7, 1)])) (y_ev x (0, [(8, 1)])) (y_ev x (0, [(9, 1)])) (y_ev x (0, [(10, 1)])) (y_ev x (9999, [])) (y_ev x (1, [(1, 1)])) (y_ev x (0, [(3, 1)])) ∧ True)
    (try rw [O0]); (try rw [O1]); (try rw [O2]); (try rw [O3]); (try rw [O4]); (try rw [O5]); (try rw [O6]); (try rw [O7]); (try rw [O8]); (try rw [O9]); (try rw [O10])
    exact K
def lm_1050p : zS := ((lm_416pi_0 (lm_416pi_1 [])), [(78, false)], [((-1), [(0, (-1))]), (0, [(1, 1)]), (0, [(1, (-2)), (10, 1)]), (0, [(1, 2), (10, (-1))])], [], [(0, 0, 0, [(0, 1)])], [(0, (true, 0, 24, []), 0, 0, 0, [(1, 1)])], [(237, [(0, [(2, 1)]), (0, [(3, 1)]), (0, [(4, 1)]), (0, [(5, 1)]), (0, [(6, 1)]), (0, [(7, 1)]), (0, [(8, 1)]), (0, [(9, 1)])]), (238, [(26, []), (0, [(3, 1)]), (0, [(4, 1)]), (0, [(5, 1)]), (0, [(6, 1)]), (0, [(7, 1)]), (0, [(8, 1)]), (0, [(9, 1)]), (9999, []), (0, [(10, 1)]), (0, [(0, 1)])])])
def lm_1050 : zLem := (lm_1050p, [([((-2147483648), 2147483647), ((-2147483648), 2147483647), ((-2147483648), 2147483647), ((-2147483648), 2147483647), ((-2147483648), 2147483647), ((-2147483648), 2147483647), ((-2147483648), 2147483647), ((-2147483648), 2147483647), ((-2147483648), 2147483647), ((-2147483648), 2147483647), ((-2147483648), 2147483647)], [(78, false)], [], [], [], [], [(238, [(27, []), (0, [(3, 1)]), (0, [(4, 1)]), (0, [(5, 1)]), (0, [(6, 1)]), (0, [(7, 1)]), (0, [(8, 1)]), (0, [(9, 1)]), (0, []), (0, []), ((-2), [])])])])
theorem lk_1050 : l_core lm_1050 := by
  first
  | skip
    intro v x h
    have G0 := h.2.2.1
    have K := k_mmoN (V := v) (z := x 0) (p := x 1) (H := x 2) (q := x 3) (b := x 4) (s := x 5) (o := x 6) (a1 := x 7) (a2 := x 8) (a3 := x 9) (n := x 10) (l_c8 (fun w0 w1 w2 w3 w4 w5 w6 w7 : Int => q_rwo v w0 w1 w2 w3 w4 w5 w6 w7) (l_e1 x 2) (l_e1 x 3) (l_e1 x 4) (l_e1 x 5) (l_e1 x 6) (l_e1 x 7) (l_e1 x 8) (l_e1 x 9) (h.2.2.2.1)) (l_c11 (fun w0 w1 w2 w3 w4 w5 w6 w7 w8 w9 w10 : Int => q_qry v w0 w1 w2 w3 w4 w5 w6 w7 w8 w9 w10) (l_e0 x (26)) (l_e1 x 3) (l_e1 x 4) (l_e1 x 5) (l_e1 x 6) (l_e1 x 7) (l_e1 x 8) (l_e1 x 9) (l_e0 x (9999)) (l_e1 x 10) (l_e1 x 0) (h.2.2.2.2.1)) (l_cc (l_q11 1 x 0) (h.2.1.1)) (l_cc (l_e1 x 1) (h.2.1.2.1)) (l_cc (show y_ev x (0, [(1, (-2)), (10, 1)]) = x 10 - 2 * x 1 by show ((0) : Int) + ((-2) * x 1 + ((1) * x 10 + 0)) = _; omega) (h.2.1.2.2.1)) (l_cc (show y_ev x (0, [(1, 2), (10, (-1))]) = 2 * x 1 - x 10 by show ((0) : Int) + ((2) * x 1 + ((-1) * x 10 + 0)) = _; omega) (h.2.1.2.2.2.1)) (l_ff (f := v 78) (L := j_len 78) (l_e0 x (24)) (l_e1 x 1) (G0.1.1))
    refine l_outH rfl (And.intro h.1 ?_)
    exact l_o10 (fun w0 w1 w2 w3 w4 w5 w6 w7 w8 w9 : Int => (True) ∧ (q_qry v w0 w1 w2 w3 w4 w5 w6 w7 w8 w8 w9 ∧ True)) (l_e0 x (27)) (l_e1 x 3) (l_e1 x 4) (l_e1 x 5) (l_e1 x 6) (l_e1 x 7) (l_e1 x 8) (l_e1 x 9) (l_e0 x (0)) (l_e0 x (-2)) K
  | skip
    intro v x h
    have G0 := h.2.2.1
    have C0 : (0 : Int) ≤ -x 0 - 1 := l_cc (a := y_ev x ((-1), [(0, (-1))])) (by show ((-1) : Int) + ((-1) * x 0 + 0) = -x 0 - 1; omega) (h.2.1.1)
    have C1 : (0 : Int) ≤ x 1 := l_cc (a := y_ev x (0, [(1, 1)])) (l_e1 _ _) (h.2.1.2.1)
    have C2 : (0 : Int) ≤ x 10 - 2 * x 1 := l_cc (a := y_ev x (0, [(1, (-2)), (10, 1)])) (by show ((0) : Int) + ((-2) * x 1 + ((1) * x 10 + 0)) = x 10 - 2 * x 1; omega) (h.2.1.2.2.1)
    have C3 : (0 : Int) ≤ 2 * x 1 - x 10 := l_cc (a := y_ev x (0, [(1, 2), (10, (-1))])) (by show ((0) : Int) + ((2) * x 1 + ((-1) * x 10 + 0)) = 2 * x 1 - x 10; omega) (h.2.1.2.2.2.1)
    have F0 : (0 : Int) ≤ 24 ∧ (24 : Int) < j_len 78 ∧ v 78 (24) = x 1 := l_ff (f := v 78) (L := j_len 78) (a := y_ev x (24, [])) (b := y_ev x (0, [(1, 1)])) (l_e0 _ _) (l_e1 _ _) (G0.1.1)
    have E0 : y_ev x (0, [(2, 1)]) = x 2 := (l_e1 _ _)
    have E1 : y_ev x (0, [(3, 1)]) = x 3 := (l_e1 _ _)
    have E2 : y_ev x (0, [(4, 1)]) = x 4 := (l_e1 _ _)
    have E3 : y_ev x (0, [(5, 1)]) = x 5 := (l_e1 _ _)
    have E4 : y_ev x (0, [(6, 1)]) = x 6 := (l_e1 _ _)
    have E5 : y_ev x (0, [(7, 1)]) = x 7 := (l_e1 _ _)
    have E6 : y_ev x (0, [(8, 1)]) = x 8 := (l_e1 _ _)
    have E7 : y_ev x (0, [(9, 1)]) = x 9 := (l_e1 _ _)
    have E8 : y_ev x (26, []) = 26 := (l_e0 _ _)
    have E9 : y_ev x (9999, []) = 9999 := (l_e0 _ _)
    have E10 : y_ev x (0, [(10, 1)]) = x 10 := (l_e1 _ _)
    have E11 : y_ev x (0, [(0, 1)]) = x 0 := (l_e1 _ _)
    have T0 : q_rwo v (y_ev x (0, [(2, 1)])) (y_ev x (0, [(3, 1)])) (y_ev x (0, [(4, 1)])) (y_ev x (0, [(5, 1)])) (y_ev x (0, [(6, 1)])) (y_ev x (0, [(7, 1)])) (y_ev x (0, [(8, 1)])) (y_ev x (0, [(9, 1)])) := h.2.2.2.1
    (try rw [E0] at T0); (try rw [E1] at T0); (try rw [E2] at T0); (try rw [E3] at T0); (try rw [E4] at T0); (try rw [E5] at T0); (try rw [E6] at T0); (try rw [E7] at T0)
    have T1 : q_qry v (y_ev x (26, [])) (y_ev x (0, [(3, 1)])) (y_ev x (0, [(4, 1)])) (y_ev x (0, [(5, 1)])) (y_ev x (0, [(6, 1)])) (y_ev x (0, [(7, 1)])) (y_ev x (0, [(8, 1)])) (y_ev x (0, [(9, 1)])) (y_ev x (9999, [])) (y_ev x (0, [(10, 1)])) (y_ev x (0, [(0, 1)])) := h.2.2.2.2.1
    (try rw [E8] at T1); (try rw [E1] at T1); (try rw [E2] at T1); (try rw [E3] at T1); (try rw [E4] at T1); (try rw [E5] at T1); (try rw [E6] at T1); (try rw [E7] at T1); (try rw [E9] at T1); (try rw [E10] at T1); (try rw [E11] at T1)
    have K := k_mmoN (V := v) (z := x 0) (p := x 1) (H := x 2) (q := x 3) (b := x 4) (s := x 5) (o := x 6) (a1 := x 7) (a2 := x 8) (a3 := x 9) (n := x 10) T0 T1 C0 C1 C2 C3 F0
    refine l_outH rfl (And.intro h.1 ?_)
    have O0 : y_ev x (27, []) = 27 := l_e0 _ _
    have O1 : y_ev x (0, [(3, 1)]) = x 3 := l_e1 _ _
    have O2 : y_ev x (0, [(4, 1)]) = x 4 := l_e1 _ _
    have O3 : y_ev x (0, [(5, 1)]) = x 5 := l_e1 _ _
    have O4 : y_ev x (0, [(6, 1)]) = x 6 := l_e1 _ _
    have O5 : y_ev x (0, [(7, 1)]) = x 7 := l_e1 _ _
    have O6 : y_ev x (0, [(8, 1)]) = x 8 := l_e1 _ _
    have O7 : y_ev x (0, [(9, 1)]) = x 9 := l_e1 _ _
    have O8 : y_ev x (0, []) = 0 := l_e0 _ _
    have O9 : y_ev x ((-2), []) = (-2) := l_e0 _ _
    show (True) ∧ (q_qry v (y_ev x (27, [])) (y_ev x (0, [(3, 1)])) (y_ev x (0, [(4, 1)])) (y_ev x (0, [(5, 1)])) (y_ev x (0, [(6, 1)])) (y_ev x (0, [(7, 1)])) (y_ev x (0, [(8, 1)])) (y_ev x (0, [(9, 1)])) (y_ev x (0, [])) (y_ev x (0, [])) (y_ev x ((-2), [])) ∧ True)
    (try rw [O0]); (try rw [O1]); (try rw [O2]); (try rw [O3]); (try rw [O4]); (try rw [O5]); (try rw [O6]); (try rw [O7]); (try rw [O8]); (try rw [O9])
    exact K
def lm_1051p : zS := ((lm_416pi_0 (lm_416pi_1 [])), [(78, false)], [(0, [(0, 1)]), (999, [(0, (-1))]), (0, [(1, 1)]), (0, [(1, (-2)), (10, 1)]), (0, [(1, 2), (10, (-1))])], [], [(0, 0, 0, [(0, 1)])], [(0, (true, 0, 24, []), 0, 0, 0, [(1, 1)])], [(237, [(0, [(2, 1)]), (0, [(3, 1)]), (0, [(4, 1)]), (0, [(5, 1)]), (0, [(6, 1)]), (0, [(7, 1)]), (0, [(8, 1)]), (0, [(9, 1)])]), (238, [(26, []), (0, [(3, 1)]), (0, [(4, 1)]), (0, [(5, 1)]), (0, [(6, 1)]), (0, [(7, 1)]), (0, [(8, 1)]), (0, [(9, 1)]), (9999, []), (0, [(10, 1)]), (0, [(0, 1)])])])
def lm_1051 : zLem := (lm_1051p, [([((-2147483648), 2147483647), ((-2147483648), 2147483647), ((-2147483648), 2147483647), ((-2147483648), 2147483647), ((-2147483648), 2147483647), ((-2147483648), 2147483647), ((-2147483648), 2147483647), ((-2147483648), 2147483647), ((-2147483648), 2147483647), ((-2147483648), 2147483647), ((-2147483648), 2147483647)], [(78, false)], [], [], [], [], [(238, [(27, []), (0, [(3, 1)]), (0, [(4, 1)]), (0, [(5, 1)]), (0, [(6, 1)]), (0, [(7, 1)]), (0, [(8, 1)]), (0, [(9, 1)]), (0, []), (0, []), (0, [(0, 1)])])])])
theorem lk_1051 : l_core lm_1051 := by
  first
  | skip
    intro v x h
    have G0 := h.2.2.1
    have K := k_mmoY (V := v) (z := x 0) (p := x 1) (H := x 2) (q := x 3) (b := x 4) (s := x 5) (o := x 6) (a1 := x 7) (a2 := x 8) (a3 := x 9) (n := x 10) (l_c8 (fun w0 w1 w2 w3 w4 w5 w6 w7 : Int => q_rwo v w0 w1 w2 w3 w4 w5 w6 w7) (l_e1 x 2) (l_e1 x 3) (l_e1 x 4) (l_e1 x 5) (l_e1 x 6) (l_e1 x 7) (l_e1 x 8) (l_e1 x 9) (h.2.2.2.1)) (l_c11 (fun w0 w1 w2 w3 w4 w5 w6 w7 w8 w9 w10 : Int => q_qry v w0 w1 w2 w3 w4 w5 w6 w7 w8 w9 w10) (l_e0 x (26)) (l_e1 x 3) (l_e1 x 4) (l_e1 x 5) (l_e1 x 6) (l_e1 x 7) (l_e1 x 8) (l_e1 x 9) (l_e0 x (9999)) (l_e1 x 10) (l_e1 x 0) (h.2.2.2.2.1)) (l_cc (l_e1 x 0) (h.2.1.1)) (l_cc (l_q1 999 x 0) (h.2.1.2.1)) (l_cc (l_e1 x 1) (h.2.1.2.2.1)) (l_cc (show y_ev x (0, [(1, (-2)), (10, 1)]) = x 10 - 2 * x 1 by show ((0) : Int) + ((-2) * x 1 + ((1) * x 10 + 0)) = _; omega) (h.2.1.2.2.2.1)) (l_cc (show y_ev x (0, [(1, 2), (10, (-1))]) = 2 * x 1 - x 10 by show ((0) : Int) + ((2) * x 1 + ((-1) * x 10 + 0)) = _; omega) (h.2.1.2.2.2.2.1)) (l_ff (f := v 78) (L := j_len 78) (l_e0 x (24)) (l_e1 x 1) (G0.1.1))
    refine l_outH rfl (And.intro h.1 ?_)
    exact l_o10 (fun w0 w1 w2 w3 w4 w5 w6 w7 w8 w9 : Int => (True) ∧ (q_qry v w0 w1 w2 w3 w4 w5 w6 w7 w8 w8 w9 ∧ True)) (l_e0 x (27)) (l_e1 x 3) (l_e1 x 4) (l_e1 x 5) (l_e1 x 6) (l_e1 x 7) (l_e1 x 8) (l_e1 x 9) (l_e0 x (0)) (l_e1 x 0) K
  | skip
    intro v x h
    have G0 := h.2.2.1
    have C0 : (0 : Int) ≤ x 0 := l_cc (a := y_ev x (0, [(0, 1)])) (l_e1 _ _) (h.2.1.1)
    have C1 : (0 : Int) ≤ 999 - x 0 := l_cc (a := y_ev x (999, [(0, (-1))])) (by show ((999) : Int) + ((-1) * x 0 + 0) = 999 - x 0; omega) (h.2.1.2.1)
    have C2 : (0 : Int) ≤ x 1 := l_cc (a := y_ev x (0, [(1, 1)])) (l_e1 _ _) (h.2.1.2.2.1)
    have C3 : (0 : Int) ≤ x 10 - 2 * x 1 := l_cc (a := y_ev x (0, [(1, (-2)), (10, 1)])) (by show ((0) : Int) + ((-2) * x 1 + ((1) * x 10 + 0)) = x 10 - 2 * x 1; omega) (h.2.1.2.2.2.1)
    have C4 : (0 : Int) ≤ 2 * x 1 - x 10 := l_cc (a := y_ev x (0, [(1, 2), (10, (-1))])) (by show ((0) : Int) + ((2) * x 1 + ((-1) * x 10 + 0)) = 2 * x 1 - x 10; omega) (h.2.1.2.2.2.2.1)
    have F0 : (0 : Int) ≤ 24 ∧ (24 : Int) < j_len 78 ∧ v 78 (24) = x 1 := l_ff (f := v 78) (L := j_len 78) (a := y_ev x (24, [])) (b := y_ev x (0, [(1, 1)])) (l_e0 _ _) (l_e1 _ _) (G0.1.1)
    have E0 : y_ev x (0, [(2, 1)]) = x 2 := (l_e1 _ _)
    have E1 : y_ev x (0, [(3, 1)]) = x 3 := (l_e1 _ _)
    have E2 : y_ev x (0, [(4, 1)]) = x 4 := (l_e1 _ _)
    have E3 : y_ev x (0, [(5, 1)]) = x 5 := (l_e1 _ _)
    have E4 : y_ev x (0, [(6, 1)]) = x 6 := (l_e1 _ _)
    have E5 : y_ev x (0, [(7, 1)]) = x 7 := (l_e1 _ _)
    have E6 : y_ev x (0, [(8, 1)]) = x 8 := (l_e1 _ _)
    have E7 : y_ev x (0, [(9, 1)]) = x 9 := (l_e1 _ _)
    have E8 : y_ev x (26, []) = 26 := (l_e0 _ _)
    have E9 : y_ev x (9999, []) = 9999 := (l_e0 _ _)
    have E10 : y_ev x (0, [(10, 1)]) = x 10 := (l_e1 _ _)
    have E11 : y_ev x (0, [(0, 1)]) = x 0 := (l_e1 _ _)
    have T0 : q_rwo v (y_ev x (0, [(2, 1)])) (y_ev x (0, [(3, 1)])) (y_ev x (0, [(4, 1)])) (y_ev x (0, [(5, 1)])) (y_ev x (0, [(6, 1)])) (y_ev x (0, [(7, 1)])) (y_ev x (0, [(8, 1)])) (y_ev x (0, [(9, 1)])) := h.2.2.2.1
    (try rw [E0] at T0); (try rw [E1] at T0); (try rw [E2] at T0); (try rw [E3] at T0); (try rw [E4] at T0); (try rw [E5] at T0); (try rw [E6] at T0); (try rw [E7] at T0)
    have T1 : q_qry v (y_ev x (26, [])) (y_ev x (0, [(3, 1)])) (y_ev x (0, [(4, 1)])) (y_ev x (0, [(5, 1)])) (y_ev x (0, [(6, 1)])) (y_ev x (0, [(7, 1)])) (y_ev x (0, [(8, 1)])) (y_ev x (0, [(9, 1)])) (y_ev x (9999, [])) (y_ev x (0, [(10, 1)])) (y_ev x (0, [(0, 1)])) := h.2.2.2.2.1
    (try rw [E8] at T1); (try rw [E1] at T1); (try rw [E2] at T1); (try rw [E3] at T1); (try rw [E4] at T1); (try rw [E5] at T1); (try rw [E6] at T1); (try rw [E7] at T1); (try rw [E9] at T1); (try rw [E10] at T1); (try rw [E11] at T1)
    have K := k_mmoY (V := v) (z := x 0) (p := x 1) (H := x 2) (q := x 3) (b := x 4) (s := x 5) (o := x 6) (a1 := x 7) (a2 := x 8) (a3 := x 9) (n := x 10) T0 T1 C0 C1 C2 C3 C4 F0
    refine l_outH rfl (And.intro h.1 ?_)
    have O0 : y_ev x (27, []) = 27 := l_e0 _ _
    have O1 : y_ev x (0, [(3, 1)]) = x 3 := l_e1 _ _
    have O2 : y_ev x (0, [(4, 1)]) = x 4 := l_e1 _ _
    have O3 : y_ev x (0, [(5, 1)]) = x 5 := l_e1 _ _
    have O4 : y_ev x (0, [(6, 1)]) = x 6 := l_e1 _ _
    have O5 : y_ev x (0, [(7, 1)]) = x 7 := l_e1 _ _
    have O6 : y_ev x (0, [(8, 1)]) = x 8 := l_e1 _ _
    have O7 : y_ev x (0, [(9, 1)]) = x 9 := l_e1 _ _
    have O8 : y_ev x (0, []) = 0 := l_e0 _ _
    have O9 : y_ev x (0, [(0, 1)]) = x 0 := l_e1 _ _
    show (True) ∧ (q_qry v (y_ev x (27, [])) (y_ev x (0, [(3, 1)])) (y_ev x (0, [(4, 1)])) (y_ev x (0, [(5, 1)])) (y_ev x (0, [(6, 1)])) (y_ev x (0, [(7, 1)])) (y_ev x (0, [(8, 1)])) (y_ev x (0, [(9, 1)])) (y_ev x (0, [])) (y_ev x (0, [])) (y_ev x (0, [(0, 1)])) ∧ True)
    (try rw [O0]); (try rw [O1]); (try rw [O2]); (try rw [O3]); (try rw [O4]); (try rw [O5]); (try rw [O6]); (try rw [O7]); (try rw [O8]); (try rw [O9])
    exact K
def lm_1052p : zS := ((lm_416pi_0 (lm_416pi_1 [])), [(78, false)], [((-1000), [(0, 1)]), (0, [(1, 1)]), (0, [(1, (-2)), (10, 1)]), (0, [(1, 2), (10, (-1))])], [], [(0, 0, 0, [(0, 1)])], [(0, (true, 0, 24, []), 0, 0, 0, [(1, 1)])], [(237, [(0, [(2, 1)]), (0, [(3, 1)]), (0, [(4, 1)]), (0, [(5, 1)]), (0, [(6, 1)]), (0, [(7, 1)]), (0, [(8, 1)]), (0, [(9, 1)])]), (238, [(26, []), (0, [(3, 1)]), (0, [(4, 1)]), (0, [(5, 1)]), (0, [(6, 1)]), (0, [(7, 1)]), (0, [(8, 1)]), (0, [(9, 1)]), (9999, []), (0, [(10, 1)]), (0, [(0, 1)])])])
def lm_1052 : zLem := (lm_1052p, [([((-2147483648), 2147483647), ((-2147483648), 2147483647), ((-2147483648), 2147483647), ((-2147483648), 2147483647), ((-2147483648), 2147483647), ((-2147483648), 2147483647), ((-2147483648), 2147483647), ((-2147483648), 2147483647), ((-2147483648), 2147483647), ((-2147483648), 2147483647), ((-2147483648), 2147483647)], [(78, false)], [], [], [], [], [(238, [(27, []), (0, [(3, 1)]), (0, [(4, 1)]), (0, [(5, 1)]), (0, [(6, 1)]), (0, [(7, 1)]), (0, [(8, 1)]), (0, [(9, 1)]), (0, []), (0, []), (999, [])])])])
theorem lk_1052 : l_core lm_1052 := by
  first
  | skip
    intro v x h
    have G0 := h.2.2.1
    have K := k_mmo9 (V := v) (z := x 0) (p := x 1) (H := x 2) (q := x 3) (b := x 4) (s := x 5) (o := x 6) (a1 := x 7) (a2 := x 8) (a3 := x 9) (n := x 10) (l_c8 (fun w0 w1 w2 w3 w4 w5 w6 w7 : Int => q_rwo v w0 w1 w2 w3 w4 w5 w6 w7) (l_e1 x 2) (l_e1 x 3) (l_e1 x 4) (l_e1 x 5) (l_e1 x 6) (l_e1 x 7) (l_e1 x 8) (l_e1 x 9) (h.2.2.2.1)) (l_c11 (fun w0 w1 w2 w3 w4 w5 w6 w7 w8 w9 w10 : Int => q_qry v w0 w1 w2 w3 w4 w5 w6 w7 w8 w9 w10) (l_e0 x (26)) (l_e1 x 3) (l_e1 x 4) (l_e1 x 5) (l_e1 x 6) (l_e1 x 7) (l_e1 x 8) (l_e1 x 9) (l_e0 x (9999)) (l_e1 x 10) (l_e1 x 0) (h.2.2.2.2.1)) (l_cc (l_q2 1000 x 0) (h.2.1.1)) (l_cc (l_e1 x 1) (h.2.1.2.1)) (l_cc (show y_ev x (0, [(1, (-2)), (10, 1)]) = x 10 - 2 * x 1 by show ((0) : Int) + ((-2) * x 1 + ((1) * x 10 + 0)) = _; omega) (h.2.1.2.2.1)) (l_cc (show y_ev x (0, [(1, 2), (10, (-1))]) = 2 * x 1 - x 10 by show ((0) : Int) + ((2) * x 1 + ((-1) * x 10 + 0)) = _; omega) (h.2.1.2.2.2.1)) (l_ff (f := v 78) (L := j_len 78) (l_e0 x (24)) (l_e1 x 1) (G0.1.1))
    refine l_outH rfl (And.intro h.1 ?_)
    exact l_o10 (fun w0 w1 w2 w3 w4 w5 w6 w7 w8 w9 : Int => (True) ∧ (q_qry v w0 w1 w2 w3 w4 w5 w6 w7 w8 w8 w9 ∧ True)) (l_e0 x (27)) (l_e1 x 3) (l_e1 x 4) (l_e1 x 5) (l_e1 x 6) (l_e1 x 7) (l_e1 x 8) (l_e1 x 9) (l_e0 x (0)) (l_e0 x (999)) K
  | skip
    intro v x h
    have G0 := h.2.2.1
    have C0 : (0 : Int) ≤ x 0 - 1000 := l_cc (a := y_ev x ((-1000), [(0, 1)])) (by show ((-1000) : Int) + ((1) * x 0 + 0) = x 0 - 1000; omega) (h.2.1.1)
    have C1 : (0 : Int) ≤ x 1 := l_cc (a := y_ev x (0, [(1, 1)])) (l_e1 _ _) (h.2.1.2.1)
    have C2 : (0 : Int) ≤ x 10 - 2 * x 1 := l_cc (a := y_ev x (0, [(1, (-2)), (10, 1)])) (by show ((0) : Int) + ((-2) * x 1 + ((1) * x 10 + 0)) = x 10 - 2 * x 1; omega) (h.2.1.2.2.1)
    have C3 : (0 : Int) ≤ 2 * x 1 - x 10 := l_cc (a := y_ev x (0, [(1, 2), (10, (-1))])) (by show ((0) : Int) + ((2) * x 1 + ((-1) * x 10 + 0)) = 2 * x 1 - x 10; omega) (h.2.1.2.2.2.1)
    have F0 : (0 : Int) ≤ 24 ∧ (24 : Int) < j_len 78 ∧ v 78 (24) = x 1 := l_ff (f := v 78) (L := j_len 78) (a := y_ev x (24, [])) (b := y_ev x (0, [(1, 1)])) (l_e0 _ _) (l_e1 _ _) (G0.1.1)
    have E0 : y_ev x (0, [(2, 1)]) = x 2 := (l_e1 _ _)
    have E1 : y_ev x (0, [(3, 1)]) = x 3 := (l_e1 _ _)
    have E2 : y_ev x (0, [(4, 1)]) = x 4 := (l_e1 _ _)
    have E3 : y_ev x (0, [(5, 1)]) = x 5 := (l_e1 _ _)
    have E4 : y_ev x (0, [(6, 1)]) = x 6 := (l_e1 _ _)
    have E5 : y_ev x (0, [(7, 1)]) = x 7 := (l_e1 _ _)
    have E6 : y_ev x (0, [(8, 1)]) = x 8 := (l_e1 _ _)
    have E7 : y_ev x (0, [(9, 1)]) = x 9 := (l_e1 _ _)
    have E8 : y_ev x (26, []) = 26 := (l_e0 _ _)
    have E9 : y_ev x (9999, []) = 9999 := (l_e0 _ _)
    have E10 : y_ev x (0, [(10, 1)]) = x 10 := (l_e1 _ _)
    have E11 : y_ev x (0, [(0, 1)]) = x 0 := (l_e1 _ _)
    have T0 : q_rwo v (y_ev x (0, [(2, 1)])) (y_ev x (0, [(3, 1)])) (y_ev x (0, [(4, 1)])) (y_ev x (0, [(5, 1)])) (y_ev x (0, [(6, 1)])) (y_ev x (0, [(7, 1)])) (y_ev x (0, [(8, 1)])) (y_ev x (0, [(9, 1)])) := h.2.2.2.1
    (try rw [E0] at T0); (try rw [E1] at T0); (try rw [E2] at T0); (try rw [E3] at T0); (try rw [E4] at T0); (try rw [E5] at T0); (try rw [E6] at T0); (try rw [E7] at T0)
    have T1 : q_qry v (y_ev x (26, [])) (y_ev x (0, [(3, 1)])) (y_ev x (0, [(4, 1)])) (y_ev x (0, [(5, 1)])) (y_ev x (0, [(6, 1)])) (y_ev x (0, [(7, 1)])) (y_ev x (0, [(8, 1)])) (y_ev x (0, [(9, 1)])) (y_ev x (9999, [])) (y_ev x (0, [(10, 1)])) (y_ev x (0, [(0, 1)])) := h.2.2.2.2.1
    (try rw [E8] at T1); (try rw [E1] at T1); (try rw [E2] at T1); (try rw [E3] at T1); (try rw [E4] at T1); (try rw [E5] at T1); (try rw [E6] at T1); (try rw [E7] at T1); (try rw [E9] at T1); (try rw [E10] at T1); (try rw [E11] at T1)
    have K := k_mmo9 (V := v) (z := x 0) (p := x 1) (H := x 2) (q := x 3) (b := x 4) (s := x 5) (o := x 6) (a1 := x 7) (a2 := x 8) (a3 := x 9) (n := x 10) T0 T1 C0 C1 C2 C3 F0
    refine l_outH rfl (And.intro h.1 ?_)
    have O0 : y_ev x (27, []) = 27 := l_e0 _ _
    have O1 : y_ev x (0, [(3, 1)]) = x 3 := l_e1 _ _
    have O2 : y_ev x (0, [(4, 1)]) = x 4 := l_e1 _ _
    have O3 : y_ev x (0, [(5, 1)]) = x 5 := l_e1 _ _
    have O4 : y_ev x (0, [(6, 1)]) = x 6 := l_e1 _ _
    have O5 : y_ev x (0, [(7, 1)]) = x 7 := l_e1 _ _
    have O6 : y_ev x (0, [(8, 1)]) = x 8 := l_e1 _ _
    have O7 : y_ev x (0, [(9, 1)]) = x 9 := l_e1 _ _
    have O8 : y_ev x (0, []) = 0 := l_e0 _ _
    have O9 : y_ev x (999, []) = 999 := l_e0 _ _
    show (True) ∧ (q_qry v (y_ev x (27, [])) (y_ev x (0, [(3, 1)])) (y_ev x (0, [(4, 1)])) (y_ev x (0, [(5, 1)])) (y_ev x (0, [(6, 1)])) (y_ev x (0, [(7, 1)])) (y_ev x (0, [(8, 1)])) (y_ev x (0, [(9, 1)])) (y_ev x (0, [])) (y_ev x (0, [])) (y_ev x (999, [])) ∧ True)
    (try rw [O0]); (try rw [O1]); (try rw [O2]); (try rw [O3]); (try rw [O4]); (try rw [O5]); (try rw [O6]); (try rw [O7]); (try rw [O8]); (try rw [O9])
    exact K
def lm_1053 : zLem := (([((-2147483648), 2147483647), ((-2147483648), 2147483647)], [], [(0, [(0, 1)]), (100, [(0, (-1))])], [], [(0, 0, 0, [(1, 1)])], [], [(108, [(0, [(0, 1)]), (2, []), (0, [(1, 1)])])]), [([((-2147483648), 2147483647), ((-2147483648), 2147483647)], [], [(0, [(1, 1)]), (1, [(1, (-1))])], [], [], [], [])])
theorem lk_1053 : l_core lm_1053 := by
  first
  | skip
    intro v x h
    have K := k_rem2 (V := v) (n := x 0) (v := x 1) (l_c3 (fun w0 w1 w2 : Int => (mOP 108 (Int32.ofInt w0) (Int32.ofInt w1)).toInt = w2) (l_e1 x 0) (l_e0 x (2)) (l_e1 x 1) (h.2.2.2.1)) (l_cc (l_e1 x 0) (h.2.1.1)) (l_cc (l_q1 100 x 0) (h.2.1.2.1))
    refine l_outH rfl (And.intro h.1 ?_)
    exact l_o2 (fun w0 w1 : Int => (0 ≤ w0 ∧ 0 ≤ w1 ∧ True) ∧ (True)) (l_e1 x 1) (l_q1 1 x 1) K
  | skip
    intro v x h
    have C0 : (0 : Int) ≤ x 0 := l_cc (a := y_ev x (0, [(0, 1)])) (l_e1 _ _) (h.2.1.1)
    have C1 : (0 : Int) ≤ 100 - x 0 := l_cc (a := y_ev x (100, [(0, (-1))])) (by show ((100) : Int) + ((-1) * x 0 + 0) = 100 - x 0; omega) (h.2.1.2.1)
    have E0 : y_ev x (0, [(0, 1)]) = x 0 := (l_e1 _ _)
    have E1 : y_ev x (2, []) = 2 := (l_e0 _ _)
    have E2 : y_ev x (0, [(1, 1)]) = x 1 := (l_e1 _ _)
    have T0 : (mOP 108 (Int32.ofInt (y_ev x (0, [(0, 1)]))) (Int32.ofInt (y_ev x (2, [])))).toInt = (y_ev x (0, [(1, 1)])) := h.2.2.2.1
    (try rw [E0] at T0); (try rw [E1] at T0); (try rw [E2] at T0)
    have K := k_rem2 (V := v) (n := x 0) (v := x 1) T0 C0 C1
    refine l_outH rfl (And.intro h.1 ?_)
    have O0 : y_ev x (0, [(1, 1)]) = x 1 := l_e1 _ _
    have O1 : y_ev x (1, [(1, (-1))]) = 1 - x 1 := by show ((1) : Int) + ((-1) * x 1 + 0) = _; omega
    show (0 ≤ y_ev x (0, [(1, 1)]) ∧ 0 ≤ y_ev x (1, [(1, (-1))]) ∧ True) ∧ (True)
    (try rw [O0]); (try rw [O1])
    exact K
def lm_1054 : zLem := (([((-2147483648), 2147483647), ((-2147483648), 2147483647), ((-2147483648), 2147483647), ((-2147483648), 2147483647), ((-2147483648), 2147483647), ((-2147483648), 2147483647), ((-2147483648), 2147483647), ((-2147483648), 2147483647), ((-2147483648), 2147483647)], [], [], [], [(0, 0, 0, [(1, 1)])], [], [(260, [(27, []), (0, [(2, 1)]), (0, [(3, 1)]), (0, [(4, 1)]), (0, [(5, 1)]), (0, [(6, 1)]), (0, [(7, 1)]), (0, [(8, 1)]), (0, []), (0, []), (0, [(0, 1)])]), (238, [(27, []), (0, [(2, 1)]), (0, [(3, 1)]), (0, [(4, 1)]), (0, [(5, 1)]), (0, [(6, 1)]), (0, [(7, 1)]), (0, [(8, 1)]), (0, []), (0, []), (0, [(1, 1)])])]), [([((-2147483648), 2147483647), ((-2147483648), 2147483647), ((-2147483648), 2147483647), ((-2147483648), 2147483647), ((-2147483648), 2147483647), ((-2147483648), 2147483647), ((-2147483648), 2147483647), ((-2147483648), 2147483647), ((-2147483648), 2147483647)], [], [(0, [(0, 1), (1, (-1))]), (0, [(0, (-1)), (1, 1)])], [], [], [], [])])
theorem lk_1054 : l_core lm_1054 := by
  first
  | skip
    intro v x h
    have K := k_mse (V := v) (u := x 0) (w := x 1) (q := x 2) (b := x 3) (s := x 4) (o := x 5) (a1 := x 6) (a2 := x 7) (a3 := x 8) (l_c10 (fun w0 w1 w2 w3 w4 w5 w6 w7 w8 w9 : Int => q_qry v w0 w1 w2 w3 w4 w5 w6 w7 w8 w8 w9) (l_e0 x (27)) (l_e1 x 2) (l_e1 x 3) (l_e1 x 4) (l_e1 x 5) (l_e1 x 6) (l_e1 x 7) (l_e1 x 8) (l_e0 x (0)) (l_e1 x 0) (h.2.2.2.1)) (l_c10 (fun w0 w1 w2 w3 w4 w5 w6 w7 w8 w9 : Int => q_qry v w0 w1 w2 w3 w4 w5 w6 w7 w8 w8 w9) (l_e0 x (27)) (l_e1 x 2) (l_e1 x 3) (l_e1 x 4) (l_e1 x 5) (l_e1 x 6) (l_e1 x 7) (l_e1 x 8) (l_e0 x (0)) (l_e1 x 1) (h.2.2.2.2.1))
    refine l_outH rfl (And.intro h.1 ?_)
    exact l_o2 (fun w0 w1 : Int => (0 ≤ w0 ∧ 0 ≤ w1 ∧ True) ∧ (True)) (l_q5 x 0 1) (l_q4 x 0 1) K
  | skip
    intro v x h
    have E0 : y_ev x (27, []) = 27 := (l_e0 _ _)
    have E1 : y_ev x (0, [(2, 1)]) = x 2 := (l_e1 _ _)
    have E2 : y_ev x (0, [(3, 1)]) = x 3 := (l_e1 _ _)
    have E3 : y_ev x (0, [(4, 1)]) = x 4 := (l_e1 _ _)
    have E4 : y_ev x (0, [(5, 1)]) = x 5 := (l_e1 _ _)
    have E5 : y_ev x (0, [(6, 1)]) = x 6 := (l_e1 _ _)
    have E6 : y_ev x (0, [(7, 1)]) = x 7 := (l_e1 _ _)
    have E7 : y_ev x (0, [(8, 1)]) = x 8 := (l_e1 _ _)
    have E8 : y_ev x (0, []) = 0 := (l_e0 _ _)
    have E9 : y_ev x (0, [(0, 1)]) = x 0 := (l_e1 _ _)
    have E10 : y_ev x (0, [(1, 1)]) = x 1 := (l_e1 _ _)
    have T0 : q_qry v (y_ev x (27, [])) (y_ev x (0, [(2, 1)])) (y_ev x (0, [(3, 1)])) (y_ev x (0, [(4, 1)])) (y_ev x (0, [(5, 1)])) (y_ev x (0, [(6, 1)])) (y_ev x (0, [(7, 1)])) (y_ev x (0, [(8, 1)])) (y_ev x (0, [])) (y_ev x (0, [])) (y_ev x (0, [(0, 1)])) := h.2.2.2.1
    (try rw [E0] at T0); (try rw [E1] at T0); (try rw [E2] at T0); (try rw [E3] at T0); (try rw [E4] at T0); (try rw [E5] at T0); (try rw [E6] at T0); (try rw [E7] at T0); (try rw [E8] at T0); (try rw [E9] at T0)
    have T1 : q_qry v (y_ev x (27, [])) (y_ev x (0, [(2, 1)])) (y_ev x (0, [(3, 1)])) (y_ev x (0, [(4, 1)])) (y_ev x (0, [(5, 1)])) (y_ev x (0, [(6, 1)])) (y_ev x (0, [(7, 1)])) (y_ev x (0, [(8, 1)])) (y_ev x (0, [])) (y_ev x (0, [])) (y_ev x (0, [(1, 1)])) := h.2.2.2.2.1
    (try rw [E0] at T1); (try rw [E1] at T1); (try rw [E2] at T1); (try rw [E3] at T1); (try rw [E4] at T1); (try rw [E5] at T1); (try rw [E6] at T1); (try rw [E7] at T1); (try rw [E8] at T1); (try rw [E10] at T1)
    have K := k_mse (V := v) (u := x 0) (w := x 1) (q := x 2) (b := x 3) (s := x 4) (o := x 5) (a1 := x 6) (a2 := x 7) (a3 := x 8) T0 T1
    refine l_outH rfl (And.intro h.1 ?_)
    have O0 : y_ev x (0, [(0, 1), (1, (-1))]) = x 0 - x 1 := by show ((0) : Int) + ((1) * x 0 + ((-1) * x 1 + 0)) = _; omega
    have O1 : y_ev x (0, [(0, (-1)), (1, 1)]) = x 1 - x 0 := by show ((0) : Int) + ((-1) * x 0 + ((1) * x 1 + 0)) = _; omega
    show (0 ≤ y_ev x (0, [(0, 1), (1, (-1))]) ∧ 0 ≤ y_ev x (0, [(0, (-1)), (1, 1)]) ∧ True) ∧ (True)
    (try rw [O0]); (try rw [O1])
    exact K
def lm_1055 : zLem := (([((-2147483648), 2147483647), ((-2147483648), 2147483647), ((-2147483648), 2147483647)], [], [], [], [], [], [(260, [(27, []), (0, [(0, 1)]), (0, []), (0, []), (0, []), (0, []), (0, []), (0, []), (0, []), (0, []), (0, [(1, 1)])]), (238, [(27, []), (0, [(0, 1)]), (0, []), (0, []), (0, []), (0, []), (0, []), (0, []), (0, []), (0, []), (0, [(2, 1)])])]), [([((-2147483648), 2147483647), ((-2147483648), 2147483647), ((-2147483648), 2147483647)], [], [(0, [(1, 1), (2, (-1))]), (0, [(1, (-1)), (2, 1)])], [], [], [], [])])
theorem lk_1055 : l_core lm_1055 := by
  first
  | skip
    intro v x h
    have K := k_qeM (V := v) (q := x 0) (u := x 1) (w := x 2) (l_c4 (fun w0 w1 w2 w3 : Int => q_qry v w0 w1 w2 w2 w2 w2 w2 w2 w2 w2 w3) (l_e0 x (27)) (l_e1 x 0) (l_e0 x (0)) (l_e1 x 1) (h.2.2.2.1)) (l_c4 (fun w0 w1 w2 w3 : Int => q_qry v w0 w1 w2 w2 w2 w2 w2 w2 w2 w2 w3) (l_e0 x (27)) (l_e1 x 0) (l_e0 x (0)) (l_e1 x 2) (h.2.2.2.2.1))
    refine l_outH rfl (And.intro h.1 ?_)
    exact l_o2 (fun w0 w1 : Int => (0 ≤ w0 ∧ 0 ≤ w1 ∧ True) ∧ (True)) (l_q5 x 1 2) (l_q4 x 1 2) K
  | skip
    intro v x h
    have E0 : y_ev x (27, []) = 27 := (l_e0 _ _)
    have E1 : y_ev x (0, [(0, 1)]) = x 0 := (l_e1 _ _)
    have E2 : y_ev x (0, []) = 0 := (l_e0 _ _)
    have E3 : y_ev x (0, [(1, 1)]) = x 1 := (l_e1 _ _)
    have E4 : y_ev x (0, [(2, 1)]) = x 2 := (l_e1 _ _)
    have T0 : q_qry v (y_ev x (27, [])) (y_ev x (0, [(0, 1)])) (y_ev x (0, [])) (y_ev x (0, [])) (y_ev x (0, [])) (y_ev x (0, [])) (y_ev x (0, [])) (y_ev x (0, [])) (y_ev x (0, [])) (y_ev x (0, [])) (y_ev x (0, [(1, 1)])) := h.2.2.2.1
    (try rw [E0] at T0); (try rw [E1] at T0); (try rw [E2] at T0); (try rw [E3] at T0)
    have T1 : q_qry v (y_ev x (27, [])) (y_ev x (0, [(0, 1)])) (y_ev x (0, [])) (y_ev x (0, [])) (y_ev x (0, [])) (y_ev x (0, [])) (y_ev x (0, [])) (y_ev x (0, [])) (y_ev x (0, [])) (y_ev x (0, [])) (y_ev x (0, [(2, 1)])) := h.2.2.2.2.1
    (try rw [E0] at T1); (try rw [E1] at T1); (try rw [E2] at T1); (try rw [E4] at T1)
    have K := k_qeM (V := v) (q := x 0) (u := x 1) (w := x 2) T0 T1
    refine l_outH rfl (And.intro h.1 ?_)
    have O0 : y_ev x (0, [(1, 1), (2, (-1))]) = x 1 - x 2 := by show ((0) : Int) + ((1) * x 1 + ((-1) * x 2 + 0)) = _; omega
    have O1 : y_ev x (0, [(1, (-1)), (2, 1)]) = x 2 - x 1 := by show ((0) : Int) + ((-1) * x 1 + ((1) * x 2 + 0)) = _; omega
    show (0 ≤ y_ev x (0, [(1, 1), (2, (-1))]) ∧ 0 ≤ y_ev x (0, [(1, (-1)), (2, 1)]) ∧ True) ∧ (True)
    (try rw [O0]); (try rw [O1])
    exact K
def lm_1056 : zLem := (([((-2147483648), 2147483647), ((-2147483648), 2147483647), ((-2147483648), 2147483647), ((-2147483648), 2147483647)], [], [], [], [], [], [(260, [(3, []), (0, [(0, 1)]), (0, []), (0, []), (0, []), (0, []), (0, []), (0, []), (0, [(1, 1)]), (0, []), (0, [(2, 1)])]), (238, [(3, []), (0, [(0, 1)]), (0, []), (0, []), (0, []), (0, []), (0, []), (0, []), (0, [(1, 1)]), (0, []), (0, [(3, 1)])])]), [([((-2147483648), 2147483647), ((-2147483648), 2147483647), ((-2147483648), 2147483647), ((-2147483648), 2147483647)], [], [(0, [(2, 1), (3, (-1))]), (0, [(2, (-1)), (3, 1)])], [], [], [], [])])
theorem lk_1056 : l_core lm_1056 := by
  first
  | skip
    intro v x h
    have K := k_qeB0 (V := v) (q := x 0) (x := x 1) (u := x 2) (w := x 3) (l_c5 (fun w0 w1 w2 w3 w4 : Int => q_qry v w0 w1 w2 w2 w2 w2 w2 w2 w3 w2 w4) (l_e0 x (3)) (l_e1 x 0) (l_e0 x (0)) (l_e1 x 1) (l_e1 x 2) (h.2.2.2.1)) (l_c5 (fun w0 w1 w2 w3 w4 : Int => q_qry v w0 w1 w2 w2 w2 w2 w2 w2 w3 w2 w4) (l_e0 x (3)) (l_e1 x 0) (l_e0 x (0)) (l_e1 x 1) (l_e1 x 3) (h.2.2.2.2.1))
    refine l_outH rfl (And.intro h.1 ?_)
    exact l_o2 (fun w0 w1 : Int => (0 ≤ w0 ∧ 0 ≤ w1 ∧ True) ∧ (True)) (l_q5 x 2 3) (l_q4 x 2 3) K
  | skip
    intro v x h
    have E0 : y_ev x (3, []) = 3 := (l_e0 _ _)
    have E1 : y_ev x (0, [(0, 1)]) = x 0 := (l_e1 _ _)
    have E2 : y_ev x (0, []) = 0 := (l_e0 _ _)
    have E3 : y_ev x (0, [(1, 1)]) = x 1 := (l_e1 _ _)
    have E4 : y_ev x (0, [(2, 1)]) = x 2 := (l_e1 _ _)
    have E5 : y_ev x (0, [(3, 1)]) = x 3 := (l_e1 _ _)
    have T0 : q_qry v (y_ev x (3, [])) (y_ev x (0, [(0, 1)])) (y_ev x (0, [])) (y_ev x (0, [])) (y_ev x (0, [])) (y_ev x (0, [])) (y_ev x (0, [])) (y_ev x (0, [])) (y_ev x (0, [(1, 1)])) (y_ev x (0, [])) (y_ev x (0, [(2, 1)])) := h.2.2.2.1
    (try rw [E0] at T0); (try rw [E1] at T0); (try rw [E2] at T0); (try rw [E3] at T0); (try rw [E4] at T0)
    have T1 : q_qry v (y_ev x (3, [])) (y_ev x (0, [(0, 1)])) (y_ev x (0, [])) (y_ev x (0, [])) (y_ev x (0, [])) (y_ev x (0, [])) (y_ev x (0, [])) (y_ev x (0, [])) (y_ev x (0, [(1, 1)])) (y_ev x (0, [])) (y_ev x (0, [(3, 1)])) := h.2.2.2.2.1
    (try rw [E0] at T1); (try rw [E1] at T1); (try rw [E2] at T1); (try rw [E3] at T1); (try rw [E5] at T1)
    have K := k_qeB0 (V := v) (q := x 0) (x := x 1) (u := x 2) (w := x 3) T0 T1
    refine l_outH rfl (And.intro h.1 ?_)
    have O0 : y_ev x (0, [(2, 1), (3, (-1))]) = x 2 - x 3 := by show ((0) : Int) + ((1) * x 2 + ((-1) * x 3 + 0)) = _; omega
    have O1 : y_ev x (0, [(2, (-1)), (3, 1)]) = x 3 - x 2 := by show ((0) : Int) + ((-1) * x 2 + ((1) * x 3 + 0)) = _; omega
    show (0 ≤ y_ev x (0, [(2, 1), (3, (-1))]) ∧ 0 ≤ y_ev x (0, [(2, (-1)), (3, 1)]) ∧ True) ∧ (True)
    (try rw [O0]); (try rw [O1])
    exact K
end
