/-! ===== the lemmas as data, by program ===== -/
set_option maxRecDepth 100000
def lm_1017 : zLem := (([((-2147483648), 2147483647), ((-2147483648), 2147483647), ((-2147483648), 2147483647), ((-2147483648), 2147483647), ((-2147483648), 2147483647)], [(6, false), (7, false)], [(0, [(1, 1)]), (39, [(1, (-1))])], [], [], [(0, (false, 5, 0, []), 0, 0, 0, [(0, 1)]), (1, (false, 2, 0, []), 0, 0, 0, [(1, 1)]), (1, (false, 3, 0, []), 0, 0, 0, [])], [(235, [(0, [(0, 1)]), (0, [(2, 1)]), (0, [(3, 1)]), (0, [(4, 1)]), (0, []), (0, []), (0, []), (0, []), (0, []), (0, []), (0, [])])]), [([((-2147483648), 2147483647), ((-2147483648), 2147483647), ((-2147483648), 2147483647), ((-2147483648), 2147483647), ((-2147483648), 2147483647)], [(6, false), (7, false)], [], [], [], [], [(242, [(0, [(0, 1)]), (0, [(1, 1)]), (0, []), (0, [])])])])
theorem lk_1017 : l_core lm_1017 := by
  intro v x h
  have E0 : y_ev x (0, [(0, 1)]) = x 0 := by show ((0) : Int) + ((1) * x 0 + 0) = _; omega
  have E1 : y_ev x (0, [(2, 1)]) = x 2 := by show ((0) : Int) + ((1) * x 2 + 0) = _; omega
  have E2 : y_ev x (0, [(3, 1)]) = x 3 := by show ((0) : Int) + ((1) * x 3 + 0) = _; omega
  have E3 : y_ev x (0, [(4, 1)]) = x 4 := by show ((0) : Int) + ((1) * x 4 + 0) = _; omega
  have E4 : y_ev x (0, []) = 0 := by show ((0) : Int) + 0 = _; omega
  have E5 : y_ev x (0, [(1, 1)]) = x 1 := by show ((0) : Int) + ((1) * x 1 + 0) = _; omega
  have E6 : y_ev x (39, [(1, (-1))]) = 39 - x 1 := by show ((39) : Int) + ((-1) * x 1 + 0) = _; omega
  have T0 : q_sto v 0 (y_ev x (0, [(0, 1)])) (y_ev x (0, [(2, 1)])) (y_ev x (0, [(3, 1)])) (y_ev x (0, [(4, 1)])) (y_ev x (0, [])) (y_ev x (0, [])) (y_ev x (0, [])) (y_ev x (0, [])) (y_ev x (0, [])) (y_ev x (0, [])) (y_ev x (0, [])) := h.2.2.2.1
  try rw [E0] at T0; try rw [E1] at T0; try rw [E2] at T0; try rw [E3] at T0; try rw [E4] at T0
  have C0 : 0 ≤ y_ev x (0, [(1, 1)]) := h.2.1.1
  rw [E5] at C0
  have C1 : 0 ≤ y_ev x (39, [(1, (-1))]) := h.2.1.2.1
  rw [E6] at C1
  have K := k_his0 (V := v) (H := x 0) (o := x 1) (p := x 2) (y := x 3) (d := x 4) T0 C0 C1
  refine l_outH rfl (And.intro h.1 ?_)
  have O0 : y_ev x (0, [(0, 1)]) = x 0 := by show ((0) : Int) + ((1) * x 0 + 0) = _; omega
  have O1 : y_ev x (0, [(1, 1)]) = x 1 := by show ((0) : Int) + ((1) * x 1 + 0) = _; omega
  have O2 : y_ev x (0, []) = 0 := by show ((0) : Int) + 0 = _; omega
  show (True) ∧ (q_hx v (-1) (y_ev x (0, [(0, 1)])) (y_ev x (0, [(1, 1)])) (y_ev x (0, [])) (y_ev x (0, [])) ∧ True)
  try rw [O0]; try rw [O1]; try rw [O2]
  exact K
def lm_1018 : zLem := (([((-2147483648), 2147483647), ((-2147483648), 2147483647), ((-2147483648), 2147483647), ((-2147483648), 2147483647)], [(6, false)], [], [], [], [(0, (false, 5, 0, []), 0, 0, 0, [(0, 1)])], [(235, [(0, [(0, 1)]), (0, [(1, 1)]), (0, [(2, 1)]), (0, [(3, 1)]), (0, []), (0, []), (0, []), (0, []), (0, []), (0, []), (0, [])])]), [([((-2147483648), 2147483647), ((-2147483648), 2147483647), ((-2147483648), 2147483647), ((-2147483648), 2147483647)], [(6, false)], [], [], [], [], [(246, [(0, [(0, 1)]), (0, []), (0, []), (0, [])])])])
theorem lk_1018 : l_core lm_1018 := by
  intro v x h
  have E0 : y_ev x (0, [(0, 1)]) = x 0 := by show ((0) : Int) + ((1) * x 0 + 0) = _; omega
  have E1 : y_ev x (0, [(1, 1)]) = x 1 := by show ((0) : Int) + ((1) * x 1 + 0) = _; omega
  have E2 : y_ev x (0, [(2, 1)]) = x 2 := by show ((0) : Int) + ((1) * x 2 + 0) = _; omega
  have E3 : y_ev x (0, [(3, 1)]) = x 3 := by show ((0) : Int) + ((1) * x 3 + 0) = _; omega
  have E4 : y_ev x (0, []) = 0 := by show ((0) : Int) + 0 = _; omega
  have T0 : q_sto v 0 (y_ev x (0, [(0, 1)])) (y_ev x (0, [(1, 1)])) (y_ev x (0, [(2, 1)])) (y_ev x (0, [(3, 1)])) (y_ev x (0, [])) (y_ev x (0, [])) (y_ev x (0, [])) (y_ev x (0, [])) (y_ev x (0, [])) (y_ev x (0, [])) (y_ev x (0, [])) := h.2.2.2.1
  try rw [E0] at T0; try rw [E1] at T0; try rw [E2] at T0; try rw [E3] at T0; try rw [E4] at T0
  have K := k_slt0 (V := v) (H := x 0) (p := x 1) (y := x 2) (d := x 3) T0
  refine l_outH rfl (And.intro h.1 ?_)
  have O0 : y_ev x (0, [(0, 1)]) = x 0 := by show ((0) : Int) + ((1) * x 0 + 0) = _; omega
  have O1 : y_ev x (0, []) = 0 := by show ((0) : Int) + 0 = _; omega
  show (True) ∧ (q_sl v (-1) (y_ev x (0, [(0, 1)])) (y_ev x (0, [])) (y_ev x (0, [])) (y_ev x (0, [])) ∧ True)
  try rw [O0]; try rw [O1]
  exact K
