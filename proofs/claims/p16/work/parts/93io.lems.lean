/-! ===== the lemmas as data, by program ===== -/
set_option maxRecDepth 100000
def lm_1084 : zLem := (([((-2147483648), 2147483647), ((-2147483648), 2147483647), ((-2147483648), 2147483647), ((-2147483648), 2147483647)], [], [(0, [(1, 1)])], [], [], [], [(260, [(29, []), (0, []), (0, []), (0, []), (0, []), (0, []), (0, []), (0, []), (0, [(0, 1)]), (0, [(1, 1)]), (0, [(2, 1)])]), (238, [(18, []), (0, []), (0, []), (0, []), (0, []), (0, []), (0, []), (0, []), (0, [(1, 1)]), (0, []), (0, [(3, 1)])])]), [([((-2147483648), 2147483647), ((-2147483648), 2147483647), ((-2147483648), 2147483647), ((-2147483648), 2147483647)], [], [(0, [(2, 1), (3, (-1))]), (0, [(2, (-1)), (3, 1)])], [], [], [], [])])
theorem lk_1084 : l_core lm_1084 := by
  intro v x h
  have E0 : y_ev x (29, []) = 29 := by show ((29) : Int) + 0 = _; omega
  have E1 : y_ev x (0, []) = 0 := by show ((0) : Int) + 0 = _; omega
  have E2 : y_ev x (0, [(0, 1)]) = x 0 := by show ((0) : Int) + ((1) * x 0 + 0) = _; omega
  have E3 : y_ev x (0, [(1, 1)]) = x 1 := by show ((0) : Int) + ((1) * x 1 + 0) = _; omega
  have E4 : y_ev x (0, [(2, 1)]) = x 2 := by show ((0) : Int) + ((1) * x 2 + 0) = _; omega
  have E5 : y_ev x (18, []) = 18 := by show ((18) : Int) + 0 = _; omega
  have E6 : y_ev x (0, [(3, 1)]) = x 3 := by show ((0) : Int) + ((1) * x 3 + 0) = _; omega
  have T0 : q_qry v (y_ev x (29, [])) (y_ev x (0, [])) (y_ev x (0, [])) (y_ev x (0, [])) (y_ev x (0, [])) (y_ev x (0, [])) (y_ev x (0, [])) (y_ev x (0, [])) (y_ev x (0, [(0, 1)])) (y_ev x (0, [(1, 1)])) (y_ev x (0, [(2, 1)])) := h.2.2.2.1
  try rw [E0] at T0; try rw [E1] at T0; try rw [E2] at T0; try rw [E3] at T0; try rw [E4] at T0
  have T1 : q_qry v (y_ev x (18, [])) (y_ev x (0, [])) (y_ev x (0, [])) (y_ev x (0, [])) (y_ev x (0, [])) (y_ev x (0, [])) (y_ev x (0, [])) (y_ev x (0, [])) (y_ev x (0, [(1, 1)])) (y_ev x (0, [])) (y_ev x (0, [(3, 1)])) := h.2.2.2.2.1
  try rw [E5] at T1; try rw [E1] at T1; try rw [E3] at T1; try rw [E6] at T1
  have C0 : 0 ≤ y_ev x (0, [(1, 1)]) := h.2.1.1
  rw [E3] at C0
  have K := k_qeGS (V := v) (p := x 0) (bb := x 1) (l := x 2) (v := x 3) T0 T1 C0
  refine l_outH rfl (And.intro h.1 ?_)
  have O0 : y_ev x (0, [(2, 1), (3, (-1))]) = x 2 - x 3 := by show ((0) : Int) + ((1) * x 2 + ((-1) * x 3 + 0)) = _; omega
  have O1 : y_ev x (0, [(2, (-1)), (3, 1)]) = x 3 - x 2 := by show ((0) : Int) + ((-1) * x 2 + ((1) * x 3 + 0)) = _; omega
  show (0 ≤ y_ev x (0, [(2, 1), (3, (-1))]) ∧ 0 ≤ y_ev x (0, [(2, (-1)), (3, 1)]) ∧ True) ∧ (True)
  try rw [O0]; try rw [O1]
  exact K
