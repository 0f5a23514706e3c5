/-! ===== the lemmas as data, by program ===== -/
set_option maxRecDepth 100000
def lm_914 : zLem := (([((-2147483648), 2147483647), ((-2147483648), 2147483647), ((-2147483648), 2147483647), ((-2147483648), 2147483647), ((-2147483648), 2147483647)], [(3, false)], [], [], [], [(0, (false, 4, 0, []), 0, 0, 0, [(4, 1)])], [(235, [(0, [(0, 1)]), (0, [(1, 1)]), (0, [(2, 1)]), (0, [(3, 1)]), (0, []), (0, []), (0, []), (0, []), (0, []), (0, []), (0, [])])]), [([((-2147483648), 2147483647), ((-2147483648), 2147483647), ((-2147483648), 2147483647), ((-2147483648), 2147483647), ((-2147483648), 2147483647)], [(3, false)], [], [], [], [], [(235, [(0, [(0, 1)]), (0, [(1, 1)]), (0, [(2, 1)]), (0, [(3, 1)]), (0, [(4, 1)]), (0, []), (0, []), (0, []), (0, []), (0, []), (0, [])])])])
theorem lk_914 : l_core lm_914 := by
  intro v x h
  have E0 : y_ev x (0, [(0, 1)]) = x 0 := by show ((0) : Int) + ((1) * x 0 + 0) = _; omega
  have E1 : y_ev x (0, [(1, 1)]) = x 1 := by show ((0) : Int) + ((1) * x 1 + 0) = _; omega
  have E2 : y_ev x (0, [(2, 1)]) = x 2 := by show ((0) : Int) + ((1) * x 2 + 0) = _; omega
  have E3 : y_ev x (0, [(3, 1)]) = x 3 := by show ((0) : Int) + ((1) * x 3 + 0) = _; omega
  have E4 : y_ev x (0, []) = 0 := by show ((0) : Int) + 0 = _; omega
  have T0 : q_sto v 0 (y_ev x (0, [(0, 1)])) (y_ev x (0, [(1, 1)])) (y_ev x (0, [(2, 1)])) (y_ev x (0, [(3, 1)])) (y_ev x (0, [])) (y_ev x (0, [])) (y_ev x (0, [])) (y_ev x (0, [])) (y_ev x (0, [])) (y_ev x (0, [])) (y_ev x (0, [])) := h.2.2.2.1
  try rw [E0] at T0; try rw [E1] at T0; try rw [E2] at T0; try rw [E3] at T0; try rw [E4] at T0
  have K := k_stq (V := v) (H := x 0) (p := x 1) (y := x 2) (d := x 3) (q := x 4) T0
  refine l_outH rfl (And.intro h.1 ?_)
  have O0 : y_ev x (0, [(0, 1)]) = x 0 := by show ((0) : Int) + ((1) * x 0 + 0) = _; omega
  have O1 : y_ev x (0, [(1, 1)]) = x 1 := by show ((0) : Int) + ((1) * x 1 + 0) = _; omega
  have O2 : y_ev x (0, [(2, 1)]) = x 2 := by show ((0) : Int) + ((1) * x 2 + 0) = _; omega
  have O3 : y_ev x (0, [(3, 1)]) = x 3 := by show ((0) : Int) + ((1) * x 3 + 0) = _; omega
  have O4 : y_ev x (0, [(4, 1)]) = x 4 := by show ((0) : Int) + ((1) * x 4 + 0) = _; omega
  have O5 : y_ev x (0, []) = 0 := by show ((0) : Int) + 0 = _; omega
  show (True) ∧ (q_sto v 0 (y_ev x (0, [(0, 1)])) (y_ev x (0, [(1, 1)])) (y_ev x (0, [(2, 1)])) (y_ev x (0, [(3, 1)])) (y_ev x (0, [(4, 1)])) (y_ev x (0, [])) (y_ev x (0, [])) (y_ev x (0, [])) (y_ev x (0, [])) (y_ev x (0, [])) (y_ev x (0, [])) ∧ True)
  try rw [O0]; try rw [O1]; try rw [O2]; try rw [O3]; try rw [O4]; try rw [O5]
  exact K
def lm_915 : zLem := (([((-2147483648), 2147483647), ((-2147483648), 2147483647), ((-2147483648), 2147483647), ((-2147483648), 2147483647), ((-2147483648), 2147483647), ((-2147483648), 2147483647), ((-2147483648), 2147483647)], [(6, false)], [], [], [(0, 0, 0, [(5, 1)])], [(0, (false, 8, 0, []), 0, 0, 0, [(4, 1)])], [(110, [(0, [(3, 1)]), (0, [(5, 1)]), (0, [(4, 1)])]), (235, [(0, [(0, 1)]), (0, [(1, 1)]), (0, [(2, 1)]), (0, [(3, 1)]), (0, []), (0, []), (0, []), (0, []), (0, []), (0, []), (0, [])]), (238, [(3, []), (0, [(6, 1)]), (0, []), (0, []), (0, []), (0, []), (0, []), (0, []), (0, [(5, 1)]), (0, []), ((-1), [])])]), [([((-2147483648), 2147483647), ((-2147483648), 2147483647), ((-2147483648), 2147483647), ((-2147483648), 2147483647), ((-2147483648), 2147483647), ((-2147483648), 2147483647), ((-2147483648), 2147483647)], [(6, false)], [], [], [], [], [(235, [(0, [(0, 1)]), (0, [(1, 1)]), (0, [(2, 1)]), (0, [(4, 1)]), (0, []), (0, []), (0, []), (3, []), (0, [(5, 1)]), (0, []), (0, [])]), (260, [(3, []), (0, [(6, 1)]), (0, []), (0, []), (0, []), (0, []), (0, []), (0, []), (0, [(5, 1)]), (0, []), ((-1), [])])])])
theorem lk_915 : l_core lm_915 := by
  intro v x h
  have E0 : y_ev x (0, [(3, 1)]) = x 3 := by show ((0) : Int) + ((1) * x 3 + 0) = _; omega
  have E1 : y_ev x (0, [(5, 1)]) = x 5 := by show ((0) : Int) + ((1) * x 5 + 0) = _; omega
  have E2 : y_ev x (0, [(4, 1)]) = x 4 := by show ((0) : Int) + ((1) * x 4 + 0) = _; omega
  have E3 : y_ev x (0, [(0, 1)]) = x 0 := by show ((0) : Int) + ((1) * x 0 + 0) = _; omega
  have E4 : y_ev x (0, [(1, 1)]) = x 1 := by show ((0) : Int) + ((1) * x 1 + 0) = _; omega
  have E5 : y_ev x (0, [(2, 1)]) = x 2 := by show ((0) : Int) + ((1) * x 2 + 0) = _; omega
  have E6 : y_ev x (0, []) = 0 := by show ((0) : Int) + 0 = _; omega
  have E7 : y_ev x (3, []) = 3 := by show ((3) : Int) + 0 = _; omega
  have E8 : y_ev x (0, [(6, 1)]) = x 6 := by show ((0) : Int) + ((1) * x 6 + 0) = _; omega
  have E9 : y_ev x ((-1), []) = (-1) := by show ((-1) : Int) + 0 = _; omega
  have T0 : (mOP 110 (Int32.ofInt (y_ev x (0, [(3, 1)]))) (Int32.ofInt (y_ev x (0, [(5, 1)])))).toInt = (y_ev x (0, [(4, 1)])) := h.2.2.2.1
  try rw [E0] at T0; try rw [E1] at T0; try rw [E2] at T0
  have T1 : q_sto v 0 (y_ev x (0, [(0, 1)])) (y_ev x (0, [(1, 1)])) (y_ev x (0, [(2, 1)])) (y_ev x (0, [(3, 1)])) (y_ev x (0, [])) (y_ev x (0, [])) (y_ev x (0, [])) (y_ev x (0, [])) (y_ev x (0, [])) (y_ev x (0, [])) (y_ev x (0, [])) := h.2.2.2.2.1
  try rw [E3] at T1; try rw [E4] at T1; try rw [E5] at T1; try rw [E0] at T1; try rw [E6] at T1
  have T2 : q_qry v (y_ev x (3, [])) (y_ev x (0, [(6, 1)])) (y_ev x (0, [])) (y_ev x (0, [])) (y_ev x (0, [])) (y_ev x (0, [])) (y_ev x (0, [])) (y_ev x (0, [])) (y_ev x (0, [(5, 1)])) (y_ev x (0, [])) (y_ev x ((-1), [])) := h.2.2.2.2.2.1
  try rw [E7] at T2; try rw [E8] at T2; try rw [E6] at T2; try rw [E1] at T2; try rw [E9] at T2
  have K := k_drw (V := v) (H := x 0) (p := x 1) (y := x 2) (d := x 3) (d2 := x 4) (w := x 5) (q := x 6) T0 T1 T2
  refine l_outH rfl (And.intro h.1 ?_)
  have O0 : y_ev x (0, [(0, 1)]) = x 0 := by show ((0) : Int) + ((1) * x 0 + 0) = _; omega
  have O1 : y_ev x (0, [(1, 1)]) = x 1 := by show ((0) : Int) + ((1) * x 1 + 0) = _; omega
  have O2 : y_ev x (0, [(2, 1)]) = x 2 := by show ((0) : Int) + ((1) * x 2 + 0) = _; omega
  have O3 : y_ev x (0, [(4, 1)]) = x 4 := by show ((0) : Int) + ((1) * x 4 + 0) = _; omega
  have O4 : y_ev x (0, []) = 0 := by show ((0) : Int) + 0 = _; omega
  have O5 : y_ev x (3, []) = 3 := by show ((3) : Int) + 0 = _; omega
  have O6 : y_ev x (0, [(5, 1)]) = x 5 := by show ((0) : Int) + ((1) * x 5 + 0) = _; omega
  have O7 : y_ev x (0, [(6, 1)]) = x 6 := by show ((0) : Int) + ((1) * x 6 + 0) = _; omega
  have O8 : y_ev x ((-1), []) = (-1) := by show ((-1) : Int) + 0 = _; omega
  show (True) ∧ (q_sto v 0 (y_ev x (0, [(0, 1)])) (y_ev x (0, [(1, 1)])) (y_ev x (0, [(2, 1)])) (y_ev x (0, [(4, 1)])) (y_ev x (0, [])) (y_ev x (0, [])) (y_ev x (0, [])) (y_ev x (3, [])) (y_ev x (0, [(5, 1)])) (y_ev x (0, [])) (y_ev x (0, [])) ∧ q_qry v (y_ev x (3, [])) (y_ev x (0, [(6, 1)])) (y_ev x (0, [])) (y_ev x (0, [])) (y_ev x (0, [])) (y_ev x (0, [])) (y_ev x (0, [])) (y_ev x (0, [])) (y_ev x (0, [(5, 1)])) (y_ev x (0, [])) (y_ev x ((-1), [])) ∧ True)
  try rw [O0]; try rw [O1]; try rw [O2]; try rw [O3]; try rw [O4]; try rw [O5]; try rw [O6]; try rw [O7]; try rw [O8]
  exact K
def lm_916 : zLem := (([((-2147483648), 2147483647), ((-2147483648), 2147483647), ((-2147483648), 2147483647), ((-2147483648), 2147483647), ((-2147483648), 2147483647), ((-2147483648), 2147483647), ((-2147483648), 2147483647), ((-2147483648), 2147483647), ((-2147483648), 2147483647)], [], [(1, [(1, 1), (3, (-1))]), ((-1), [(1, (-1)), (3, 1)]), (0, [(1, 1)])], [], [(0, 0, 0, [(0, 1)]), (0, 0, 0, [(1, 1)]), (0, 0, 0, [(2, 1)])], [], [(107, [(0, [(3, 1)]), (2, []), (0, [(2, 1)])]), (238, [(3, []), (0, [(4, 1)]), (0, []), (0, []), (0, []), (0, []), (0, []), (0, []), (0, [(0, 1)]), (0, []), (0, [(3, 1)])]), (235, [(0, [(5, 1)]), (0, [(6, 1)]), (0, [(7, 1)]), (0, [(8, 1)]), (0, [(4, 1)]), (0, []), (0, []), (0, []), (0, []), (0, []), (0, [])])]), [([((-2147483648), 2147483647), ((-2147483648), 2147483647), ((-2147483648), 2147483647), ((-2147483648), 2147483647), ((-2147483648), 2147483647), ((-2147483648), 2147483647), ((-2147483648), 2147483647), ((-2147483648), 2147483647), ((-2147483648), 2147483647)], [], [(0, [(2, (-2)), (3, 1)]), (1, [(2, 2), (3, (-1))]), ((-1), [(2, (-1)), (6, 1)])], [], [], [], [(260, [(3, []), (0, [(4, 1)]), (0, []), (0, []), (0, []), (0, []), (0, []), (0, []), (0, [(0, 1)]), (0, []), (0, [(3, 1)])]), (260, [(22, []), (0, [(4, 1)]), (0, []), (0, []), (0, []), (0, []), (0, []), (0, []), (0, [(0, 1)]), (0, []), (0, [(2, 1)])])])])
theorem lk_916 : l_core lm_916 := by
  intro v x h
  have E0 : y_ev x (0, [(3, 1)]) = x 3 := by show ((0) : Int) + ((1) * x 3 + 0) = _; omega
  have E1 : y_ev x (2, []) = 2 := by show ((2) : Int) + 0 = _; omega
  have E2 : y_ev x (0, [(2, 1)]) = x 2 := by show ((0) : Int) + ((1) * x 2 + 0) = _; omega
  have E3 : y_ev x (3, []) = 3 := by show ((3) : Int) + 0 = _; omega
  have E4 : y_ev x (0, [(4, 1)]) = x 4 := by show ((0) : Int) + ((1) * x 4 + 0) = _; omega
  have E5 : y_ev x (0, []) = 0 := by show ((0) : Int) + 0 = _; omega
  have E6 : y_ev x (0, [(0, 1)]) = x 0 := by show ((0) : Int) + ((1) * x 0 + 0) = _; omega
  have E7 : y_ev x (0, [(5, 1)]) = x 5 := by show ((0) : Int) + ((1) * x 5 + 0) = _; omega
  have E8 : y_ev x (0, [(6, 1)]) = x 6 := by show ((0) : Int) + ((1) * x 6 + 0) = _; omega
  have E9 : y_ev x (0, [(7, 1)]) = x 7 := by show ((0) : Int) + ((1) * x 7 + 0) = _; omega
  have E10 : y_ev x (0, [(8, 1)]) = x 8 := by show ((0) : Int) + ((1) * x 8 + 0) = _; omega
  have E11 : y_ev x (1, [(1, 1), (3, (-1))]) = x 1 - x 3 + 1 := by show ((1) : Int) + ((1) * x 1 + ((-1) * x 3 + 0)) = _; omega
  have E12 : y_ev x ((-1), [(1, (-1)), (3, 1)]) = x 3 - x 1 - 1 := by show ((-1) : Int) + ((-1) * x 1 + ((1) * x 3 + 0)) = _; omega
  have E13 : y_ev x (0, [(1, 1)]) = x 1 := by show ((0) : Int) + ((1) * x 1 + 0) = _; omega
  have T0 : (mOP 107 (Int32.ofInt (y_ev x (0, [(3, 1)]))) (Int32.ofInt (y_ev x (2, [])))).toInt = (y_ev x (0, [(2, 1)])) := h.2.2.2.1
  try rw [E0] at T0; try rw [E1] at T0; try rw [E2] at T0
  have T1 : q_qry v (y_ev x (3, [])) (y_ev x (0, [(4, 1)])) (y_ev x (0, [])) (y_ev x (0, [])) (y_ev x (0, [])) (y_ev x (0, [])) (y_ev x (0, [])) (y_ev x (0, [])) (y_ev x (0, [(0, 1)])) (y_ev x (0, [])) (y_ev x (0, [(3, 1)])) := h.2.2.2.2.1
  try rw [E3] at T1; try rw [E4] at T1; try rw [E5] at T1; try rw [E6] at T1; try rw [E0] at T1
  have T2 : q_sto v 0 (y_ev x (0, [(5, 1)])) (y_ev x (0, [(6, 1)])) (y_ev x (0, [(7, 1)])) (y_ev x (0, [(8, 1)])) (y_ev x (0, [(4, 1)])) (y_ev x (0, [])) (y_ev x (0, [])) (y_ev x (0, [])) (y_ev x (0, [])) (y_ev x (0, [])) (y_ev x (0, [])) := h.2.2.2.2.2.1
  try rw [E7] at T2; try rw [E8] at T2; try rw [E9] at T2; try rw [E10] at T2; try rw [E4] at T2; try rw [E5] at T2
  have C0 : 0 ≤ y_ev x (1, [(1, 1), (3, (-1))]) := h.2.1.1
  rw [E11] at C0
  have C1 : 0 ≤ y_ev x ((-1), [(1, (-1)), (3, 1)]) := h.2.1.2.1
  rw [E12] at C1
  have C2 : 0 ≤ y_ev x (0, [(1, 1)]) := h.2.1.2.2.1
  rw [E13] at C2
  have K := k_bpl (V := v) (w := x 0) (i := x 1) (j := x 2) (k := x 3) (q := x 4) (H := x 5) (p := x 6) (y := x 7) (d := x 8) T0 T1 T2 C0 C1 C2
  refine l_outH rfl (And.intro h.1 ?_)
  have O0 : y_ev x (0, [(2, (-2)), (3, 1)]) = x 3 - 2 * x 2 := by show ((0) : Int) + ((-2) * x 2 + ((1) * x 3 + 0)) = _; omega
  have O1 : y_ev x (1, [(2, 2), (3, (-1))]) = 2 * x 2 - x 3 + 1 := by show ((1) : Int) + ((2) * x 2 + ((-1) * x 3 + 0)) = _; omega
  have O2 : y_ev x ((-1), [(2, (-1)), (6, 1)]) = x 6 - x 2 - 1 := by show ((-1) : Int) + ((-1) * x 2 + ((1) * x 6 + 0)) = _; omega
  have O3 : y_ev x (3, []) = 3 := by show ((3) : Int) + 0 = _; omega
  have O4 : y_ev x (0, [(4, 1)]) = x 4 := by show ((0) : Int) + ((1) * x 4 + 0) = _; omega
  have O5 : y_ev x (0, []) = 0 := by show ((0) : Int) + 0 = _; omega
  have O6 : y_ev x (0, [(0, 1)]) = x 0 := by show ((0) : Int) + ((1) * x 0 + 0) = _; omega
  have O7 : y_ev x (0, [(3, 1)]) = x 3 := by show ((0) : Int) + ((1) * x 3 + 0) = _; omega
  have O8 : y_ev x (22, []) = 22 := by show ((22) : Int) + 0 = _; omega
  have O9 : y_ev x (0, [(2, 1)]) = x 2 := by show ((0) : Int) + ((1) * x 2 + 0) = _; omega
  show (0 ≤ y_ev x (0, [(2, (-2)), (3, 1)]) ∧ 0 ≤ y_ev x (1, [(2, 2), (3, (-1))]) ∧ 0 ≤ y_ev x ((-1), [(2, (-1)), (6, 1)]) ∧ True) ∧ (q_qry v (y_ev x (3, [])) (y_ev x (0, [(4, 1)])) (y_ev x (0, [])) (y_ev x (0, [])) (y_ev x (0, [])) (y_ev x (0, [])) (y_ev x (0, [])) (y_ev x (0, [])) (y_ev x (0, [(0, 1)])) (y_ev x (0, [])) (y_ev x (0, [(3, 1)])) ∧ q_qry v (y_ev x (22, [])) (y_ev x (0, [(4, 1)])) (y_ev x (0, [])) (y_ev x (0, [])) (y_ev x (0, [])) (y_ev x (0, [])) (y_ev x (0, [])) (y_ev x (0, [])) (y_ev x (0, [(0, 1)])) (y_ev x (0, [])) (y_ev x (0, [(2, 1)])) ∧ True)
  try rw [O0]; try rw [O1]; try rw [O2]; try rw [O3]; try rw [O4]; try rw [O5]; try rw [O6]; try rw [O7]; try rw [O8]; try rw [O9]
  exact K
def lm_917 : zLem := (([((-2147483648), 2147483647), ((-2147483648), 2147483647), ((-2147483648), 2147483647), ((-2147483648), 2147483647), ((-2147483648), 2147483647)], [(6, false)], [(0, [(4, 1)]), (0, [(1, 1), (4, (-1))]), (6, [(1, (-1))])], [], [], [(0, (false, 6, 0, []), 0, 0, 0, [(4, 1)])], [(235, [(0, [(0, 1)]), (0, [(1, 1)]), (0, [(2, 1)]), (0, [(3, 1)]), (0, []), (0, []), (0, []), (0, []), (0, []), (0, []), (0, [])]), (261, [(4, [])])]), [([((-2147483648), 2147483647), ((-2147483648), 2147483647), ((-2147483648), 2147483647), ((-2147483648), 2147483647), ((-2147483648), 2147483647)], [(6, false)], [], [], [], [], [(235, [(0, [(0, 1)]), (0, [(4, 1)]), (0, [(2, 1)]), (0, [(3, 1)]), (0, []), (0, []), (0, []), (2, []), (0, [(4, 1)]), (0, []), (0, [])])])])
theorem lk_917 : l_core lm_917 := by
  intro v x h
  have E0 : y_ev x (0, [(0, 1)]) = x 0 := by show ((0) : Int) + ((1) * x 0 + 0) = _; omega
  have E1 : y_ev x (0, [(1, 1)]) = x 1 := by show ((0) : Int) + ((1) * x 1 + 0) = _; omega
  have E2 : y_ev x (0, [(2, 1)]) = x 2 := by show ((0) : Int) + ((1) * x 2 + 0) = _; omega
  have E3 : y_ev x (0, [(3, 1)]) = x 3 := by show ((0) : Int) + ((1) * x 3 + 0) = _; omega
  have E4 : y_ev x (0, []) = 0 := by show ((0) : Int) + 0 = _; omega
  have E5 : y_ev x (4, []) = 4 := by show ((4) : Int) + 0 = _; omega
  have E6 : y_ev x (0, [(4, 1)]) = x 4 := by show ((0) : Int) + ((1) * x 4 + 0) = _; omega
  have E7 : y_ev x (0, [(1, 1), (4, (-1))]) = x 1 - x 4 := by show ((0) : Int) + ((1) * x 1 + ((-1) * x 4 + 0)) = _; omega
  have E8 : y_ev x (6, [(1, (-1))]) = 6 - x 1 := by show ((6) : Int) + ((-1) * x 1 + 0) = _; omega
  have T0 : q_sto v 0 (y_ev x (0, [(0, 1)])) (y_ev x (0, [(1, 1)])) (y_ev x (0, [(2, 1)])) (y_ev x (0, [(3, 1)])) (y_ev x (0, [])) (y_ev x (0, [])) (y_ev x (0, [])) (y_ev x (0, [])) (y_ev x (0, [])) (y_ev x (0, [])) (y_ev x (0, [])) := h.2.2.2.1
  try rw [E0] at T0; try rw [E1] at T0; try rw [E2] at T0; try rw [E3] at T0; try rw [E4] at T0
  have T1 : True := h.2.2.2.2.1
  try rw [E5] at T1
  have C0 : 0 ≤ y_ev x (0, [(4, 1)]) := h.2.1.1
  rw [E6] at C0
  have C1 : 0 ≤ y_ev x (0, [(1, 1), (4, (-1))]) := h.2.1.2.1
  rw [E7] at C1
  have C2 : 0 ≤ y_ev x (6, [(1, (-1))]) := h.2.1.2.2.1
  rw [E8] at C2
  have K := k_uns2 (V := v) (H := x 0) (p := x 1) (y := x 2) (d := x 3) (z := x 4) T0 T1 C0 C1 C2
  refine l_outH rfl (And.intro h.1 ?_)
  have O0 : y_ev x (0, [(0, 1)]) = x 0 := by show ((0) : Int) + ((1) * x 0 + 0) = _; omega
  have O1 : y_ev x (0, [(4, 1)]) = x 4 := by show ((0) : Int) + ((1) * x 4 + 0) = _; omega
  have O2 : y_ev x (0, [(2, 1)]) = x 2 := by show ((0) : Int) + ((1) * x 2 + 0) = _; omega
  have O3 : y_ev x (0, [(3, 1)]) = x 3 := by show ((0) : Int) + ((1) * x 3 + 0) = _; omega
  have O4 : y_ev x (0, []) = 0 := by show ((0) : Int) + 0 = _; omega
  have O5 : y_ev x (2, []) = 2 := by show ((2) : Int) + 0 = _; omega
  show (True) ∧ (q_sto v 0 (y_ev x (0, [(0, 1)])) (y_ev x (0, [(4, 1)])) (y_ev x (0, [(2, 1)])) (y_ev x (0, [(3, 1)])) (y_ev x (0, [])) (y_ev x (0, [])) (y_ev x (0, [])) (y_ev x (2, [])) (y_ev x (0, [(4, 1)])) (y_ev x (0, [])) (y_ev x (0, [])) ∧ True)
  try rw [O0]; try rw [O1]; try rw [O2]; try rw [O3]; try rw [O4]; try rw [O5]
  exact K
def lm_918 : zLem := (([((-2147483648), 2147483647), ((-2147483648), 2147483647)], [], [(0, [(0, 1)]), (1000, [(0, (-1))])], [], [(0, 0, 0, [(1, 1)])], [], [(107, [(0, [(0, 1)]), (2, []), (0, [(1, 1)])])]), [([((-2147483648), 2147483647), ((-2147483648), 2147483647)], [], [(0, [(0, 1), (1, (-2))]), (1, [(0, (-1)), (1, 2)])], [], [], [], [])])
theorem lk_918 : l_core lm_918 := by
  intro v x h
  have E0 : y_ev x (0, [(0, 1)]) = x 0 := by show ((0) : Int) + ((1) * x 0 + 0) = _; omega
  have E1 : y_ev x (2, []) = 2 := by show ((2) : Int) + 0 = _; omega
  have E2 : y_ev x (0, [(1, 1)]) = x 1 := by show ((0) : Int) + ((1) * x 1 + 0) = _; omega
  have E3 : y_ev x (1000, [(0, (-1))]) = 1000 - x 0 := by show ((1000) : Int) + ((-1) * x 0 + 0) = _; omega
  have T0 : (mOP 107 (Int32.ofInt (y_ev x (0, [(0, 1)]))) (Int32.ofInt (y_ev x (2, [])))).toInt = (y_ev x (0, [(1, 1)])) := h.2.2.2.1
  try rw [E0] at T0; try rw [E1] at T0; try rw [E2] at T0
  have C0 : 0 ≤ y_ev x (0, [(0, 1)]) := h.2.1.1
  rw [E0] at C0
  have C1 : 0 ≤ y_ev x (1000, [(0, (-1))]) := h.2.1.2.1
  rw [E3] at C1
  have K := k_hf (V := v) (a := x 0) (u := x 1) T0 C0 C1
  refine l_outH rfl (And.intro h.1 ?_)
  have O0 : y_ev x (0, [(0, 1), (1, (-2))]) = x 0 - 2 * x 1 := by show ((0) : Int) + ((1) * x 0 + ((-2) * x 1 + 0)) = _; omega
  have O1 : y_ev x (1, [(0, (-1)), (1, 2)]) = 2 * x 1 - x 0 + 1 := by show ((1) : Int) + ((-1) * x 0 + ((2) * x 1 + 0)) = _; omega
  show (0 ≤ y_ev x (0, [(0, 1), (1, (-2))]) ∧ 0 ≤ y_ev x (1, [(0, (-1)), (1, 2)]) ∧ True) ∧ (True)
  try rw [O0]; try rw [O1]
  exact K
def lm_919 : zLem := (([((-2147483648), 2147483647), ((-2147483648), 2147483647)], [], [], [], [(0, 0, 0, [(1, 1)])], [], [(238, [(1, []), (0, []), (0, []), (0, []), (0, []), (0, []), (0, []), (0, []), (0, []), (0, [(0, 1)]), (0, [(1, 1)])])]), [([((-2147483648), 2147483647), ((-2147483648), 2147483647)], [], [], [], [], [], [(260, [(1, []), (0, []), (0, []), (0, []), (0, []), (0, []), (0, []), (0, []), (0, []), (0, [(0, 1)]), (0, [(1, 1)])])])])
theorem lk_919 : l_core lm_919 := by
  intro v x h
  have E0 : y_ev x (1, []) = 1 := by show ((1) : Int) + 0 = _; omega
  have E1 : y_ev x (0, []) = 0 := by show ((0) : Int) + 0 = _; omega
  have E2 : y_ev x (0, [(0, 1)]) = x 0 := by show ((0) : Int) + ((1) * x 0 + 0) = _; omega
  have E3 : y_ev x (0, [(1, 1)]) = x 1 := by show ((0) : Int) + ((1) * x 1 + 0) = _; omega
  have T0 : q_qry v (y_ev x (1, [])) (y_ev x (0, [])) (y_ev x (0, [])) (y_ev x (0, [])) (y_ev x (0, [])) (y_ev x (0, [])) (y_ev x (0, [])) (y_ev x (0, [])) (y_ev x (0, [])) (y_ev x (0, [(0, 1)])) (y_ev x (0, [(1, 1)])) := h.2.2.2.1
  try rw [E0] at T0; try rw [E1] at T0; try rw [E2] at T0; try rw [E3] at T0
  have K := k_qrc0 (V := v) (p := x 0) (u := x 1) T0
  refine l_outH rfl (And.intro h.1 ?_)
  have O0 : y_ev x (1, []) = 1 := by show ((1) : Int) + 0 = _; omega
  have O1 : y_ev x (0, []) = 0 := by show ((0) : Int) + 0 = _; omega
  have O2 : y_ev x (0, [(0, 1)]) = x 0 := by show ((0) : Int) + ((1) * x 0 + 0) = _; omega
  have O3 : y_ev x (0, [(1, 1)]) = x 1 := by show ((0) : Int) + ((1) * x 1 + 0) = _; omega
  show (True) ∧ (q_qry v (y_ev x (1, [])) (y_ev x (0, [])) (y_ev x (0, [])) (y_ev x (0, [])) (y_ev x (0, [])) (y_ev x (0, [])) (y_ev x (0, [])) (y_ev x (0, [])) (y_ev x (0, [])) (y_ev x (0, [(0, 1)])) (y_ev x (0, [(1, 1)])) ∧ True)
  try rw [O0]; try rw [O1]; try rw [O2]; try rw [O3]
  exact K
def lm_920 : zLem := (([], [], [], [], [], [], []), [([], [], [], [], [], [], [(261, [(3, [])])])])
theorem lk_920 : l_core lm_920 := by
  intro v x h
  have K := k_way1 (V := v) 
  refine l_outH rfl (And.intro h.1 ?_)
  have O0 : y_ev x (3, []) = 3 := by show ((3) : Int) + 0 = _; omega
  show (True) ∧ (True ∧ True)
  try rw [O0]
  exact K
def lm_921 : zLem := (([], [], [], [], [], [], []), [([], [], [], [], [], [], [(261, [(4, [])])])])
theorem lk_921 : l_core lm_921 := by
  intro v x h
  have K := k_way1 (V := v) 
  refine l_outH rfl (And.intro h.1 ?_)
  have O0 : y_ev x (4, []) = 4 := by show ((4) : Int) + 0 = _; omega
  show (True) ∧ (True ∧ True)
  try rw [O0]
  exact K
def lm_922 : zLem := (([], [], [], [], [], [], []), [([], [], [], [], [], [], [(261, [(5, [])])])])
theorem lk_922 : l_core lm_922 := by
  intro v x h
  have K := k_way1 (V := v) 
  refine l_outH rfl (And.intro h.1 ?_)
  have O0 : y_ev x (5, []) = 5 := by show ((5) : Int) + 0 = _; omega
  show (True) ∧ (True ∧ True)
  try rw [O0]
  exact K
def lm_923 : zLem := (([((-2147483648), 2147483647), ((-2147483648), 2147483647), ((-2147483648), 2147483647), ((-2147483648), 2147483647), ((-2147483648), 2147483647), ((-2147483648), 2147483647), ((-2147483648), 2147483647), ((-2147483648), 2147483647)], [(3, false), (2, false)], [], [], [], [(0, (false, 4, 0, []), 0, 0, 0, [(4, 1)]), (1, (false, 9, 0, []), 0, 0, 0, [(5, 1)]), (1, (false, 10, 0, []), 0, 0, 0, [(6, 1)])], [(261, [(0, [(7, 1)])]), (235, [(0, [(0, 1)]), (0, [(1, 1)]), (0, [(2, 1)]), (0, [(3, 1)]), (0, []), (0, []), (0, []), (0, []), (0, []), (0, []), (0, [])])]), [([((-2147483648), 2147483647), ((-2147483648), 2147483647), ((-2147483648), 2147483647), ((-2147483648), 2147483647), ((-2147483648), 2147483647), ((-2147483648), 2147483647), ((-2147483648), 2147483647), ((-2147483648), 2147483647)], [(3, false), (2, false)], [], [], [], [], [(235, [(0, [(0, 1)]), (0, [(1, 1)]), (0, [(2, 1)]), (0, [(3, 1)]), (0, [(4, 1)]), (0, [(5, 1)]), (0, [(6, 1)]), (4, []), (0, []), (0, []), (0, [(0, 1)])])])])
theorem lk_923 : l_core lm_923 := by
  intro v x h
  have E0 : y_ev x (0, [(7, 1)]) = x 7 := by show ((0) : Int) + ((1) * x 7 + 0) = _; omega
  have E1 : y_ev x (0, [(0, 1)]) = x 0 := by show ((0) : Int) + ((1) * x 0 + 0) = _; omega
  have E2 : y_ev x (0, [(1, 1)]) = x 1 := by show ((0) : Int) + ((1) * x 1 + 0) = _; omega
  have E3 : y_ev x (0, [(2, 1)]) = x 2 := by show ((0) : Int) + ((1) * x 2 + 0) = _; omega
  have E4 : y_ev x (0, [(3, 1)]) = x 3 := by show ((0) : Int) + ((1) * x 3 + 0) = _; omega
  have E5 : y_ev x (0, []) = 0 := by show ((0) : Int) + 0 = _; omega
  have T0 : True := h.2.2.2.1
  try rw [E0] at T0
  have T1 : q_sto v 0 (y_ev x (0, [(0, 1)])) (y_ev x (0, [(1, 1)])) (y_ev x (0, [(2, 1)])) (y_ev x (0, [(3, 1)])) (y_ev x (0, [])) (y_ev x (0, [])) (y_ev x (0, [])) (y_ev x (0, [])) (y_ev x (0, [])) (y_ev x (0, [])) (y_ev x (0, [])) := h.2.2.2.2.1
  try rw [E1] at T1; try rw [E2] at T1; try rw [E3] at T1; try rw [E4] at T1; try rw [E5] at T1
  have K := k_y0 (V := v) (H := x 0) (p := x 1) (y := x 2) (d := x 3) (q := x 4) (b := x 5) (s := x 6) T0 T1
  refine l_outH rfl (And.intro h.1 ?_)
  have O0 : y_ev x (0, [(0, 1)]) = x 0 := by show ((0) : Int) + ((1) * x 0 + 0) = _; omega
  have O1 : y_ev x (0, [(1, 1)]) = x 1 := by show ((0) : Int) + ((1) * x 1 + 0) = _; omega
  have O2 : y_ev x (0, [(2, 1)]) = x 2 := by show ((0) : Int) + ((1) * x 2 + 0) = _; omega
  have O3 : y_ev x (0, [(3, 1)]) = x 3 := by show ((0) : Int) + ((1) * x 3 + 0) = _; omega
  have O4 : y_ev x (0, [(4, 1)]) = x 4 := by show ((0) : Int) + ((1) * x 4 + 0) = _; omega
  have O5 : y_ev x (0, [(5, 1)]) = x 5 := by show ((0) : Int) + ((1) * x 5 + 0) = _; omega
  have O6 : y_ev x (0, [(6, 1)]) = x 6 := by show ((0) : Int) + ((1) * x 6 + 0) = _; omega
  have O7 : y_ev x (4, []) = 4 := by show ((4) : Int) + 0 = _; omega
  have O8 : y_ev x (0, []) = 0 := by show ((0) : Int) + 0 = _; omega
  show (True) ∧ (q_sto v 0 (y_ev x (0, [(0, 1)])) (y_ev x (0, [(1, 1)])) (y_ev x (0, [(2, 1)])) (y_ev x (0, [(3, 1)])) (y_ev x (0, [(4, 1)])) (y_ev x (0, [(5, 1)])) (y_ev x (0, [(6, 1)])) (y_ev x (4, [])) (y_ev x (0, [])) (y_ev x (0, [])) (y_ev x (0, [(0, 1)])) ∧ True)
  try rw [O0]; try rw [O1]; try rw [O2]; try rw [O3]; try rw [O4]; try rw [O5]; try rw [O6]; try rw [O7]; try rw [O8]
  exact K
def lm_924 : zLem := (([((-2147483648), 2147483647), ((-2147483648), 2147483647), ((-2147483648), 2147483647), ((-2147483648), 2147483647), ((-2147483648), 2147483647), ((-2147483648), 2147483647), ((-2147483648), 2147483647), ((-2147483648), 2147483647), ((-2147483648), 2147483647), ((-2147483648), 2147483647)], [(78, false)], [(0, [(0, 1)]), (32, [(0, (-1))])], [], [(0, 0, 0, [(0, 1)])], [(0, (true, 0, 0, [(0, 1)]), 0, 0, 0, [(1, 1)])], [(237, [(0, [(2, 1)]), (0, [(3, 1)]), (0, [(4, 1)]), (0, [(5, 1)]), (0, [(6, 1)]), (0, [(7, 1)]), (0, [(8, 1)]), (0, [(9, 1)])])]), [([((-2147483648), 2147483647), ((-2147483648), 2147483647), ((-2147483648), 2147483647), ((-2147483648), 2147483647), ((-2147483648), 2147483647), ((-2147483648), 2147483647), ((-2147483648), 2147483647), ((-2147483648), 2147483647), ((-2147483648), 2147483647), ((-2147483648), 2147483647)], [(78, false)], [], [], [], [], [(238, [(8, []), (0, [(3, 1)]), (0, [(4, 1)]), (0, [(5, 1)]), (0, [(6, 1)]), (0, [(7, 1)]), (0, [(8, 1)]), (0, [(9, 1)]), (0, [(0, 1)]), (0, []), (0, [(1, 1)])])])])
theorem lk_924 : l_core lm_924 := by
  intro v x h
  have E0 : y_ev x (0, [(2, 1)]) = x 2 := by show ((0) : Int) + ((1) * x 2 + 0) = _; omega
  have E1 : y_ev x (0, [(3, 1)]) = x 3 := by show ((0) : Int) + ((1) * x 3 + 0) = _; omega
  have E2 : y_ev x (0, [(4, 1)]) = x 4 := by show ((0) : Int) + ((1) * x 4 + 0) = _; omega
  have E3 : y_ev x (0, [(5, 1)]) = x 5 := by show ((0) : Int) + ((1) * x 5 + 0) = _; omega
  have E4 : y_ev x (0, [(6, 1)]) = x 6 := by show ((0) : Int) + ((1) * x 6 + 0) = _; omega
  have E5 : y_ev x (0, [(7, 1)]) = x 7 := by show ((0) : Int) + ((1) * x 7 + 0) = _; omega
  have E6 : y_ev x (0, [(8, 1)]) = x 8 := by show ((0) : Int) + ((1) * x 8 + 0) = _; omega
  have E7 : y_ev x (0, [(9, 1)]) = x 9 := by show ((0) : Int) + ((1) * x 9 + 0) = _; omega
  have E8 : y_ev x (0, [(0, 1)]) = x 0 := by show ((0) : Int) + ((1) * x 0 + 0) = _; omega
  have E9 : y_ev x (32, [(0, (-1))]) = 32 - x 0 := by show ((32) : Int) + ((-1) * x 0 + 0) = _; omega
  have E10 : y_ev x (0, [(1, 1)]) = x 1 := by show ((0) : Int) + ((1) * x 1 + 0) = _; omega
  have T0 : q_rwo v (y_ev x (0, [(2, 1)])) (y_ev x (0, [(3, 1)])) (y_ev x (0, [(4, 1)])) (y_ev x (0, [(5, 1)])) (y_ev x (0, [(6, 1)])) (y_ev x (0, [(7, 1)])) (y_ev x (0, [(8, 1)])) (y_ev x (0, [(9, 1)])) := h.2.2.2.1
  try rw [E0] at T0; try rw [E1] at T0; try rw [E2] at T0; try rw [E3] at T0; try rw [E4] at T0; try rw [E5] at T0; try rw [E6] at T0; try rw [E7] at T0
  have C0 : 0 ≤ y_ev x (0, [(0, 1)]) := h.2.1.1
  rw [E8] at C0
  have C1 : 0 ≤ y_ev x (32, [(0, (-1))]) := h.2.1.2.1
  rw [E9] at C1
  have F0 : 0 ≤ y_ev x (0, [(0, 1)]) ∧ y_ev x (0, [(0, 1)]) < j_len 78 ∧ v 78 (y_ev x (0, [(0, 1)])) = y_ev x (0, [(1, 1)]) := h.2.2.1.1.1
  try rw [E8] at F0; try rw [E10] at F0
  have K := k_rcel0 (V := v) (h := x 0) (u := x 1) (H := x 2) (q := x 3) (b := x 4) (s := x 5) (o := x 6) (a1 := x 7) (a2 := x 8) (a3 := x 9) T0 C0 C1 F0
  refine l_outH rfl (And.intro h.1 ?_)
  have O0 : y_ev x (8, []) = 8 := by show ((8) : Int) + 0 = _; omega
  have O1 : y_ev x (0, [(3, 1)]) = x 3 := by show ((0) : Int) + ((1) * x 3 + 0) = _; omega
  have O2 : y_ev x (0, [(4, 1)]) = x 4 := by show ((0) : Int) + ((1) * x 4 + 0) = _; omega
  have O3 : y_ev x (0, [(5, 1)]) = x 5 := by show ((0) : Int) + ((1) * x 5 + 0) = _; omega
  have O4 : y_ev x (0, [(6, 1)]) = x 6 := by show ((0) : Int) + ((1) * x 6 + 0) = _; omega
  have O5 : y_ev x (0, [(7, 1)]) = x 7 := by show ((0) : Int) + ((1) * x 7 + 0) = _; omega
  have O6 : y_ev x (0, [(8, 1)]) = x 8 := by show ((0) : Int) + ((1) * x 8 + 0) = _; omega
  have O7 : y_ev x (0, [(9, 1)]) = x 9 := by show ((0) : Int) + ((1) * x 9 + 0) = _; omega
  have O8 : y_ev x (0, [(0, 1)]) = x 0 := by show ((0) : Int) + ((1) * x 0 + 0) = _; omega
  have O9 : y_ev x (0, []) = 0 := by show ((0) : Int) + 0 = _; omega
  have O10 : y_ev x (0, [(1, 1)]) = x 1 := by show ((0) : Int) + ((1) * x 1 + 0) = _; omega
  show (True) ∧ (q_qry v (y_ev x (8, [])) (y_ev x (0, [(3, 1)])) (y_ev x (0, [(4, 1)])) (y_ev x (0, [(5, 1)])) (y_ev x (0, [(6, 1)])) (y_ev x (0, [(7, 1)])) (y_ev x (0, [(8, 1)])) (y_ev x (0, [(9, 1)])) (y_ev x (0, [(0, 1)])) (y_ev x (0, [])) (y_ev x (0, [(1, 1)])) ∧ True)
  try rw [O0]; try rw [O1]; try rw [O2]; try rw [O3]; try rw [O4]; try rw [O5]; try rw [O6]; try rw [O7]; try rw [O8]; try rw [O9]; try rw [O10]
  exact K
def lm_925 : zLem := (([((-2147483648), 2147483647), ((-2147483648), 2147483647), ((-2147483648), 2147483647), ((-2147483648), 2147483647), ((-2147483648), 2147483647), ((-2147483648), 2147483647), ((-2147483648), 2147483647), ((-2147483648), 2147483647), ((-2147483648), 2147483647), ((-2147483648), 2147483647)], [(78, false)], [(0, [(0, 1)]), (26, [(0, (-1))])], [], [(0, 0, 0, [(0, 1)])], [(0, (true, 0, 6, [(0, 1)]), 0, 0, 0, [(1, 1)])], [(237, [(0, [(2, 1)]), (0, [(3, 1)]), (0, [(4, 1)]), (0, [(5, 1)]), (0, [(6, 1)]), (0, [(7, 1)]), (0, [(8, 1)]), (0, [(9, 1)])])]), [([((-2147483648), 2147483647), ((-2147483648), 2147483647), ((-2147483648), 2147483647), ((-2147483648), 2147483647), ((-2147483648), 2147483647), ((-2147483648), 2147483647), ((-2147483648), 2147483647), ((-2147483648), 2147483647), ((-2147483648), 2147483647), ((-2147483648), 2147483647)], [(78, false)], [], [], [], [], [(238, [(8, []), (0, [(3, 1)]), (0, [(4, 1)]), (0, [(5, 1)]), (0, [(6, 1)]), (0, [(7, 1)]), (0, [(8, 1)]), (0, [(9, 1)]), (6, [(0, 1)]), (0, []), (0, [(1, 1)])])])])
theorem lk_925 : l_core lm_925 := by
  intro v x h
  have E0 : y_ev x (0, [(2, 1)]) = x 2 := by show ((0) : Int) + ((1) * x 2 + 0) = _; omega
  have E1 : y_ev x (0, [(3, 1)]) = x 3 := by show ((0) : Int) + ((1) * x 3 + 0) = _; omega
  have E2 : y_ev x (0, [(4, 1)]) = x 4 := by show ((0) : Int) + ((1) * x 4 + 0) = _; omega
  have E3 : y_ev x (0, [(5, 1)]) = x 5 := by show ((0) : Int) + ((1) * x 5 + 0) = _; omega
  have E4 : y_ev x (0, [(6, 1)]) = x 6 := by show ((0) : Int) + ((1) * x 6 + 0) = _; omega
  have E5 : y_ev x (0, [(7, 1)]) = x 7 := by show ((0) : Int) + ((1) * x 7 + 0) = _; omega
  have E6 : y_ev x (0, [(8, 1)]) = x 8 := by show ((0) : Int) + ((1) * x 8 + 0) = _; omega
  have E7 : y_ev x (0, [(9, 1)]) = x 9 := by show ((0) : Int) + ((1) * x 9 + 0) = _; omega
  have E8 : y_ev x (0, [(0, 1)]) = x 0 := by show ((0) : Int) + ((1) * x 0 + 0) = _; omega
  have E9 : y_ev x (26, [(0, (-1))]) = 26 - x 0 := by show ((26) : Int) + ((-1) * x 0 + 0) = _; omega
  have E10 : y_ev x (6, [(0, 1)]) = x 0 + 6 := by show ((6) : Int) + ((1) * x 0 + 0) = _; omega
  have E11 : y_ev x (0, [(1, 1)]) = x 1 := by show ((0) : Int) + ((1) * x 1 + 0) = _; omega
  have T0 : q_rwo v (y_ev x (0, [(2, 1)])) (y_ev x (0, [(3, 1)])) (y_ev x (0, [(4, 1)])) (y_ev x (0, [(5, 1)])) (y_ev x (0, [(6, 1)])) (y_ev x (0, [(7, 1)])) (y_ev x (0, [(8, 1)])) (y_ev x (0, [(9, 1)])) := h.2.2.2.1
  try rw [E0] at T0; try rw [E1] at T0; try rw [E2] at T0; try rw [E3] at T0; try rw [E4] at T0; try rw [E5] at T0; try rw [E6] at T0; try rw [E7] at T0
  have C0 : 0 ≤ y_ev x (0, [(0, 1)]) := h.2.1.1
  rw [E8] at C0
  have C1 : 0 ≤ y_ev x (26, [(0, (-1))]) := h.2.1.2.1
  rw [E9] at C1
  have F0 : 0 ≤ y_ev x (6, [(0, 1)]) ∧ y_ev x (6, [(0, 1)]) < j_len 78 ∧ v 78 (y_ev x (6, [(0, 1)])) = y_ev x (0, [(1, 1)]) := h.2.2.1.1.1
  try rw [E10] at F0; try rw [E11] at F0
  have K := k_rcel6 (V := v) (h := x 0) (u := x 1) (H := x 2) (q := x 3) (b := x 4) (s := x 5) (o := x 6) (a1 := x 7) (a2 := x 8) (a3 := x 9) T0 C0 C1 F0
  refine l_outH rfl (And.intro h.1 ?_)
  have O0 : y_ev x (8, []) = 8 := by show ((8) : Int) + 0 = _; omega
  have O1 : y_ev x (0, [(3, 1)]) = x 3 := by show ((0) : Int) + ((1) * x 3 + 0) = _; omega
  have O2 : y_ev x (0, [(4, 1)]) = x 4 := by show ((0) : Int) + ((1) * x 4 + 0) = _; omega
  have O3 : y_ev x (0, [(5, 1)]) = x 5 := by show ((0) : Int) + ((1) * x 5 + 0) = _; omega
  have O4 : y_ev x (0, [(6, 1)]) = x 6 := by show ((0) : Int) + ((1) * x 6 + 0) = _; omega
  have O5 : y_ev x (0, [(7, 1)]) = x 7 := by show ((0) : Int) + ((1) * x 7 + 0) = _; omega
  have O6 : y_ev x (0, [(8, 1)]) = x 8 := by show ((0) : Int) + ((1) * x 8 + 0) = _; omega
  have O7 : y_ev x (0, [(9, 1)]) = x 9 := by show ((0) : Int) + ((1) * x 9 + 0) = _; omega
  have O8 : y_ev x (6, [(0, 1)]) = x 0 + 6 := by show ((6) : Int) + ((1) * x 0 + 0) = _; omega
  have O9 : y_ev x (0, []) = 0 := by show ((0) : Int) + 0 = _; omega
  have O10 : y_ev x (0, [(1, 1)]) = x 1 := by show ((0) : Int) + ((1) * x 1 + 0) = _; omega
  show (True) ∧ (q_qry v (y_ev x (8, [])) (y_ev x (0, [(3, 1)])) (y_ev x (0, [(4, 1)])) (y_ev x (0, [(5, 1)])) (y_ev x (0, [(6, 1)])) (y_ev x (0, [(7, 1)])) (y_ev x (0, [(8, 1)])) (y_ev x (0, [(9, 1)])) (y_ev x (6, [(0, 1)])) (y_ev x (0, [])) (y_ev x (0, [(1, 1)])) ∧ True)
  try rw [O0]; try rw [O1]; try rw [O2]; try rw [O3]; try rw [O4]; try rw [O5]; try rw [O6]; try rw [O7]; try rw [O8]; try rw [O9]; try rw [O10]
  exact K
def lm_926 : zLem := (([((-2147483648), 2147483647), ((-2147483648), 2147483647), ((-2147483648), 2147483647), ((-2147483648), 2147483647), ((-2147483648), 2147483647), ((-2147483648), 2147483647), ((-2147483648), 2147483647), ((-2147483648), 2147483647), ((-2147483648), 2147483647), ((-2147483648), 2147483647)], [(78, false)], [(0, [(0, 1)]), (20, [(0, (-1))])], [], [(0, 0, 0, [(0, 1)])], [(0, (true, 0, 12, [(0, 1)]), 0, 0, 0, [(1, 1)])], [(237, [(0, [(2, 1)]), (0, [(3, 1)]), (0, [(4, 1)]), (0, [(5, 1)]), (0, [(6, 1)]), (0, [(7, 1)]), (0, [(8, 1)]), (0, [(9, 1)])])]), [([((-2147483648), 2147483647), ((-2147483648), 2147483647), ((-2147483648), 2147483647), ((-2147483648), 2147483647), ((-2147483648), 2147483647), ((-2147483648), 2147483647), ((-2147483648), 2147483647), ((-2147483648), 2147483647), ((-2147483648), 2147483647), ((-2147483648), 2147483647)], [(78, false)], [], [], [], [], [(238, [(8, []), (0, [(3, 1)]), (0, [(4, 1)]), (0, [(5, 1)]), (0, [(6, 1)]), (0, [(7, 1)]), (0, [(8, 1)]), (0, [(9, 1)]), (12, [(0, 1)]), (0, []), (0, [(1, 1)])])])])
theorem lk_926 : l_core lm_926 := by
  intro v x h
  have E0 : y_ev x (0, [(2, 1)]) = x 2 := by show ((0) : Int) + ((1) * x 2 + 0) = _; omega
  have E1 : y_ev x (0, [(3, 1)]) = x 3 := by show ((0) : Int) + ((1) * x 3 + 0) = _; omega
  have E2 : y_ev x (0, [(4, 1)]) = x 4 := by show ((0) : Int) + ((1) * x 4 + 0) = _; omega
  have E3 : y_ev x (0, [(5, 1)]) = x 5 := by show ((0) : Int) + ((1) * x 5 + 0) = _; omega
  have E4 : y_ev x (0, [(6, 1)]) = x 6 := by show ((0) : Int) + ((1) * x 6 + 0) = _; omega
  have E5 : y_ev x (0, [(7, 1)]) = x 7 := by show ((0) : Int) + ((1) * x 7 + 0) = _; omega
  have E6 : y_ev x (0, [(8, 1)]) = x 8 := by show ((0) : Int) + ((1) * x 8 + 0) = _; omega
  have E7 : y_ev x (0, [(9, 1)]) = x 9 := by show ((0) : Int) + ((1) * x 9 + 0) = _; omega
  have E8 : y_ev x (0, [(0, 1)]) = x 0 := by show ((0) : Int) + ((1) * x 0 + 0) = _; omega
  have E9 : y_ev x (20, [(0, (-1))]) = 20 - x 0 := by show ((20) : Int) + ((-1) * x 0 + 0) = _; omega
  have E10 : y_ev x (12, [(0, 1)]) = x 0 + 12 := by show ((12) : Int) + ((1) * x 0 + 0) = _; omega
  have E11 : y_ev x (0, [(1, 1)]) = x 1 := by show ((0) : Int) + ((1) * x 1 + 0) = _; omega
  have T0 : q_rwo v (y_ev x (0, [(2, 1)])) (y_ev x (0, [(3, 1)])) (y_ev x (0, [(4, 1)])) (y_ev x (0, [(5, 1)])) (y_ev x (0, [(6, 1)])) (y_ev x (0, [(7, 1)])) (y_ev x (0, [(8, 1)])) (y_ev x (0, [(9, 1)])) := h.2.2.2.1
  try rw [E0] at T0; try rw [E1] at T0; try rw [E2] at T0; try rw [E3] at T0; try rw [E4] at T0; try rw [E5] at T0; try rw [E6] at T0; try rw [E7] at T0
  have C0 : 0 ≤ y_ev x (0, [(0, 1)]) := h.2.1.1
  rw [E8] at C0
  have C1 : 0 ≤ y_ev x (20, [(0, (-1))]) := h.2.1.2.1
  rw [E9] at C1
  have F0 : 0 ≤ y_ev x (12, [(0, 1)]) ∧ y_ev x (12, [(0, 1)]) < j_len 78 ∧ v 78 (y_ev x (12, [(0, 1)])) = y_ev x (0, [(1, 1)]) := h.2.2.1.1.1
  try rw [E10] at F0; try rw [E11] at F0
  have K := k_rcel12 (V := v) (h := x 0) (u := x 1) (H := x 2) (q := x 3) (b := x 4) (s := x 5) (o := x 6) (a1 := x 7) (a2 := x 8) (a3 := x 9) T0 C0 C1 F0
  refine l_outH rfl (And.intro h.1 ?_)
  have O0 : y_ev x (8, []) = 8 := by show ((8) : Int) + 0 = _; omega
  have O1 : y_ev x (0, [(3, 1)]) = x 3 := by show ((0) : Int) + ((1) * x 3 + 0) = _; omega
  have O2 : y_ev x (0, [(4, 1)]) = x 4 := by show ((0) : Int) + ((1) * x 4 + 0) = _; omega
  have O3 : y_ev x (0, [(5, 1)]) = x 5 := by show ((0) : Int) + ((1) * x 5 + 0) = _; omega
  have O4 : y_ev x (0, [(6, 1)]) = x 6 := by show ((0) : Int) + ((1) * x 6 + 0) = _; omega
  have O5 : y_ev x (0, [(7, 1)]) = x 7 := by show ((0) : Int) + ((1) * x 7 + 0) = _; omega
  have O6 : y_ev x (0, [(8, 1)]) = x 8 := by show ((0) : Int) + ((1) * x 8 + 0) = _; omega
  have O7 : y_ev x (0, [(9, 1)]) = x 9 := by show ((0) : Int) + ((1) * x 9 + 0) = _; omega
  have O8 : y_ev x (12, [(0, 1)]) = x 0 + 12 := by show ((12) : Int) + ((1) * x 0 + 0) = _; omega
  have O9 : y_ev x (0, []) = 0 := by show ((0) : Int) + 0 = _; omega
  have O10 : y_ev x (0, [(1, 1)]) = x 1 := by show ((0) : Int) + ((1) * x 1 + 0) = _; omega
  show (True) ∧ (q_qry v (y_ev x (8, [])) (y_ev x (0, [(3, 1)])) (y_ev x (0, [(4, 1)])) (y_ev x (0, [(5, 1)])) (y_ev x (0, [(6, 1)])) (y_ev x (0, [(7, 1)])) (y_ev x (0, [(8, 1)])) (y_ev x (0, [(9, 1)])) (y_ev x (12, [(0, 1)])) (y_ev x (0, [])) (y_ev x (0, [(1, 1)])) ∧ True)
  try rw [O0]; try rw [O1]; try rw [O2]; try rw [O3]; try rw [O4]; try rw [O5]; try rw [O6]; try rw [O7]; try rw [O8]; try rw [O9]; try rw [O10]
  exact K
def lm_927 : zLem := (([((-2147483648), 2147483647), ((-2147483648), 2147483647), ((-2147483648), 2147483647), ((-2147483648), 2147483647), ((-2147483648), 2147483647), ((-2147483648), 2147483647), ((-2147483648), 2147483647), ((-2147483648), 2147483647), ((-2147483648), 2147483647), ((-2147483648), 2147483647)], [(78, false)], [(0, [(0, 1)]), (14, [(0, (-1))])], [], [(0, 0, 0, [(0, 1)])], [(0, (true, 0, 18, [(0, 1)]), 0, 0, 0, [(1, 1)])], [(237, [(0, [(2, 1)]), (0, [(3, 1)]), (0, [(4, 1)]), (0, [(5, 1)]), (0, [(6, 1)]), (0, [(7, 1)]), (0, [(8, 1)]), (0, [(9, 1)])])]), [([((-2147483648), 2147483647), ((-2147483648), 2147483647), ((-2147483648), 2147483647), ((-2147483648), 2147483647), ((-2147483648), 2147483647), ((-2147483648), 2147483647), ((-2147483648), 2147483647), ((-2147483648), 2147483647), ((-2147483648), 2147483647), ((-2147483648), 2147483647)], [(78, false)], [], [], [], [], [(238, [(8, []), (0, [(3, 1)]), (0, [(4, 1)]), (0, [(5, 1)]), (0, [(6, 1)]), (0, [(7, 1)]), (0, [(8, 1)]), (0, [(9, 1)]), (18, [(0, 1)]), (0, []), (0, [(1, 1)])])])])
theorem lk_927 : l_core lm_927 := by
  intro v x h
  have E0 : y_ev x (0, [(2, 1)]) = x 2 := by show ((0) : Int) + ((1) * x 2 + 0) = _; omega
  have E1 : y_ev x (0, [(3, 1)]) = x 3 := by show ((0) : Int) + ((1) * x 3 + 0) = _; omega
  have E2 : y_ev x (0, [(4, 1)]) = x 4 := by show ((0) : Int) + ((1) * x 4 + 0) = _; omega
  have E3 : y_ev x (0, [(5, 1)]) = x 5 := by show ((0) : Int) + ((1) * x 5 + 0) = _; omega
  have E4 : y_ev x (0, [(6, 1)]) = x 6 := by show ((0) : Int) + ((1) * x 6 + 0) = _; omega
  have E5 : y_ev x (0, [(7, 1)]) = x 7 := by show ((0) : Int) + ((1) * x 7 + 0) = _; omega
  have E6 : y_ev x (0, [(8, 1)]) = x 8 := by show ((0) : Int) + ((1) * x 8 + 0) = _; omega
  have E7 : y_ev x (0, [(9, 1)]) = x 9 := by show ((0) : Int) + ((1) * x 9 + 0) = _; omega
  have E8 : y_ev x (0, [(0, 1)]) = x 0 := by show ((0) : Int) + ((1) * x 0 + 0) = _; omega
  have E9 : y_ev x (14, [(0, (-1))]) = 14 - x 0 := by show ((14) : Int) + ((-1) * x 0 + 0) = _; omega
  have E10 : y_ev x (18, [(0, 1)]) = x 0 + 18 := by show ((18) : Int) + ((1) * x 0 + 0) = _; omega
  have E11 : y_ev x (0, [(1, 1)]) = x 1 := by show ((0) : Int) + ((1) * x 1 + 0) = _; omega
  have T0 : q_rwo v (y_ev x (0, [(2, 1)])) (y_ev x (0, [(3, 1)])) (y_ev x (0, [(4, 1)])) (y_ev x (0, [(5, 1)])) (y_ev x (0, [(6, 1)])) (y_ev x (0, [(7, 1)])) (y_ev x (0, [(8, 1)])) (y_ev x (0, [(9, 1)])) := h.2.2.2.1
  try rw [E0] at T0; try rw [E1] at T0; try rw [E2] at T0; try rw [E3] at T0; try rw [E4] at T0; try rw [E5] at T0; try rw [E6] at T0; try rw [E7] at T0
  have C0 : 0 ≤ y_ev x (0, [(0, 1)]) := h.2.1.1
  rw [E8] at C0
  have C1 : 0 ≤ y_ev x (14, [(0, (-1))]) := h.2.1.2.1
  rw [E9] at C1
  have F0 : 0 ≤ y_ev x (18, [(0, 1)]) ∧ y_ev x (18, [(0, 1)]) < j_len 78 ∧ v 78 (y_ev x (18, [(0, 1)])) = y_ev x (0, [(1, 1)]) := h.2.2.1.1.1
  try rw [E10] at F0; try rw [E11] at F0
  have K := k_rcel18 (V := v) (h := x 0) (u := x 1) (H := x 2) (q := x 3) (b := x 4) (s := x 5) (o := x 6) (a1 := x 7) (a2 := x 8) (a3 := x 9) T0 C0 C1 F0
  refine l_outH rfl (And.intro h.1 ?_)
  have O0 : y_ev x (8, []) = 8 := by show ((8) : Int) + 0 = _; omega
  have O1 : y_ev x (0, [(3, 1)]) = x 3 := by show ((0) : Int) + ((1) * x 3 + 0) = _; omega
  have O2 : y_ev x (0, [(4, 1)]) = x 4 := by show ((0) : Int) + ((1) * x 4 + 0) = _; omega
  have O3 : y_ev x (0, [(5, 1)]) = x 5 := by show ((0) : Int) + ((1) * x 5 + 0) = _; omega
  have O4 : y_ev x (0, [(6, 1)]) = x 6 := by show ((0) : Int) + ((1) * x 6 + 0) = _; omega
  have O5 : y_ev x (0, [(7, 1)]) = x 7 := by show ((0) : Int) + ((1) * x 7 + 0) = _; omega
  have O6 : y_ev x (0, [(8, 1)]) = x 8 := by show ((0) : Int) + ((1) * x 8 + 0) = _; omega
  have O7 : y_ev x (0, [(9, 1)]) = x 9 := by show ((0) : Int) + ((1) * x 9 + 0) = _; omega
  have O8 : y_ev x (18, [(0, 1)]) = x 0 + 18 := by show ((18) : Int) + ((1) * x 0 + 0) = _; omega
  have O9 : y_ev x (0, []) = 0 := by show ((0) : Int) + 0 = _; omega
  have O10 : y_ev x (0, [(1, 1)]) = x 1 := by show ((0) : Int) + ((1) * x 1 + 0) = _; omega
  show (True) ∧ (q_qry v (y_ev x (8, [])) (y_ev x (0, [(3, 1)])) (y_ev x (0, [(4, 1)])) (y_ev x (0, [(5, 1)])) (y_ev x (0, [(6, 1)])) (y_ev x (0, [(7, 1)])) (y_ev x (0, [(8, 1)])) (y_ev x (0, [(9, 1)])) (y_ev x (18, [(0, 1)])) (y_ev x (0, [])) (y_ev x (0, [(1, 1)])) ∧ True)
  try rw [O0]; try rw [O1]; try rw [O2]; try rw [O3]; try rw [O4]; try rw [O5]; try rw [O6]; try rw [O7]; try rw [O8]; try rw [O9]; try rw [O10]
  exact K
def lm_930 : zLem := (([((-2147483648), 2147483647), ((-2147483648), 2147483647), ((-2147483648), 2147483647), ((-2147483648), 2147483647), ((-2147483648), 2147483647), ((-2147483648), 2147483647), ((-2147483648), 2147483647), ((-2147483648), 2147483647), ((-2147483648), 2147483647)], [(78, false)], [], [], [], [(0, (true, 0, 24, []), 0, 0, 0, [(0, 1)])], [(237, [(0, [(1, 1)]), (0, [(2, 1)]), (0, [(3, 1)]), (0, [(4, 1)]), (0, [(5, 1)]), (0, [(6, 1)]), (0, [(7, 1)]), (0, [(8, 1)])])]), [([((-2147483648), 2147483647), ((-2147483648), 2147483647), ((-2147483648), 2147483647), ((-2147483648), 2147483647), ((-2147483648), 2147483647), ((-2147483648), 2147483647), ((-2147483648), 2147483647), ((-2147483648), 2147483647), ((-2147483648), 2147483647)], [(78, false)], [], [], [], [], [(238, [(8, []), (0, [(2, 1)]), (0, [(3, 1)]), (0, [(4, 1)]), (0, [(5, 1)]), (0, [(6, 1)]), (0, [(7, 1)]), (0, [(8, 1)]), (24, []), (0, []), (0, [(0, 1)])])])])
theorem lk_930 : l_core lm_930 := by
  intro v x h
  have E0 : y_ev x (0, [(1, 1)]) = x 1 := by show ((0) : Int) + ((1) * x 1 + 0) = _; omega
  have E1 : y_ev x (0, [(2, 1)]) = x 2 := by show ((0) : Int) + ((1) * x 2 + 0) = _; omega
  have E2 : y_ev x (0, [(3, 1)]) = x 3 := by show ((0) : Int) + ((1) * x 3 + 0) = _; omega
  have E3 : y_ev x (0, [(4, 1)]) = x 4 := by show ((0) : Int) + ((1) * x 4 + 0) = _; omega
  have E4 : y_ev x (0, [(5, 1)]) = x 5 := by show ((0) : Int) + ((1) * x 5 + 0) = _; omega
  have E5 : y_ev x (0, [(6, 1)]) = x 6 := by show ((0) : Int) + ((1) * x 6 + 0) = _; omega
  have E6 : y_ev x (0, [(7, 1)]) = x 7 := by show ((0) : Int) + ((1) * x 7 + 0) = _; omega
  have E7 : y_ev x (0, [(8, 1)]) = x 8 := by show ((0) : Int) + ((1) * x 8 + 0) = _; omega
  have E8 : y_ev x (24, []) = 24 := by show ((24) : Int) + 0 = _; omega
  have E9 : y_ev x (0, [(0, 1)]) = x 0 := by show ((0) : Int) + ((1) * x 0 + 0) = _; omega
  have T0 : q_rwo v (y_ev x (0, [(1, 1)])) (y_ev x (0, [(2, 1)])) (y_ev x (0, [(3, 1)])) (y_ev x (0, [(4, 1)])) (y_ev x (0, [(5, 1)])) (y_ev x (0, [(6, 1)])) (y_ev x (0, [(7, 1)])) (y_ev x (0, [(8, 1)])) := h.2.2.2.1
  try rw [E0] at T0; try rw [E1] at T0; try rw [E2] at T0; try rw [E3] at T0; try rw [E4] at T0; try rw [E5] at T0; try rw [E6] at T0; try rw [E7] at T0
  have F0 : 0 ≤ y_ev x (24, []) ∧ y_ev x (24, []) < j_len 78 ∧ v 78 (y_ev x (24, [])) = y_ev x (0, [(0, 1)]) := h.2.2.1.1.1
  try rw [E8] at F0; try rw [E9] at F0
  have K := k_rcelc24 (V := v) (u := x 0) (H := x 1) (q := x 2) (b := x 3) (s := x 4) (o := x 5) (a1 := x 6) (a2 := x 7) (a3 := x 8) T0 F0
  refine l_outH rfl (And.intro h.1 ?_)
  have O0 : y_ev x (8, []) = 8 := by show ((8) : Int) + 0 = _; omega
  have O1 : y_ev x (0, [(2, 1)]) = x 2 := by show ((0) : Int) + ((1) * x 2 + 0) = _; omega
  have O2 : y_ev x (0, [(3, 1)]) = x 3 := by show ((0) : Int) + ((1) * x 3 + 0) = _; omega
  have O3 : y_ev x (0, [(4, 1)]) = x 4 := by show ((0) : Int) + ((1) * x 4 + 0) = _; omega
  have O4 : y_ev x (0, [(5, 1)]) = x 5 := by show ((0) : Int) + ((1) * x 5 + 0) = _; omega
  have O5 : y_ev x (0, [(6, 1)]) = x 6 := by show ((0) : Int) + ((1) * x 6 + 0) = _; omega
  have O6 : y_ev x (0, [(7, 1)]) = x 7 := by show ((0) : Int) + ((1) * x 7 + 0) = _; omega
  have O7 : y_ev x (0, [(8, 1)]) = x 8 := by show ((0) : Int) + ((1) * x 8 + 0) = _; omega
  have O8 : y_ev x (24, []) = 24 := by show ((24) : Int) + 0 = _; omega
  have O9 : y_ev x (0, []) = 0 := by show ((0) : Int) + 0 = _; omega
  have O10 : y_ev x (0, [(0, 1)]) = x 0 := by show ((0) : Int) + ((1) * x 0 + 0) = _; omega
  show (True) ∧ (q_qry v (y_ev x (8, [])) (y_ev x (0, [(2, 1)])) (y_ev x (0, [(3, 1)])) (y_ev x (0, [(4, 1)])) (y_ev x (0, [(5, 1)])) (y_ev x (0, [(6, 1)])) (y_ev x (0, [(7, 1)])) (y_ev x (0, [(8, 1)])) (y_ev x (24, [])) (y_ev x (0, [])) (y_ev x (0, [(0, 1)])) ∧ True)
  try rw [O0]; try rw [O1]; try rw [O2]; try rw [O3]; try rw [O4]; try rw [O5]; try rw [O6]; try rw [O7]; try rw [O8]; try rw [O9]; try rw [O10]
  exact K
def lm_931 : zLem := (([((-2147483648), 2147483647), ((-2147483648), 2147483647), ((-2147483648), 2147483647), ((-2147483648), 2147483647), ((-2147483648), 2147483647), ((-2147483648), 2147483647), ((-2147483648), 2147483647), ((-2147483648), 2147483647), ((-2147483648), 2147483647)], [(78, false)], [], [], [], [(0, (true, 0, 31, []), 0, 0, 0, [(0, 1)])], [(237, [(0, [(1, 1)]), (0, [(2, 1)]), (0, [(3, 1)]), (0, [(4, 1)]), (0, [(5, 1)]), (0, [(6, 1)]), (0, [(7, 1)]), (0, [(8, 1)])])]), [([((-2147483648), 2147483647), ((-2147483648), 2147483647), ((-2147483648), 2147483647), ((-2147483648), 2147483647), ((-2147483648), 2147483647), ((-2147483648), 2147483647), ((-2147483648), 2147483647), ((-2147483648), 2147483647), ((-2147483648), 2147483647)], [(78, false)], [], [], [], [], [(238, [(8, []), (0, [(2, 1)]), (0, [(3, 1)]), (0, [(4, 1)]), (0, [(5, 1)]), (0, [(6, 1)]), (0, [(7, 1)]), (0, [(8, 1)]), (31, []), (0, []), (0, [(0, 1)])])])])
theorem lk_931 : l_core lm_931 := by
  intro v x h
  have E0 : y_ev x (0, [(1, 1)]) = x 1 := by show ((0) : Int) + ((1) * x 1 + 0) = _; omega
  have E1 : y_ev x (0, [(2, 1)]) = x 2 := by show ((0) : Int) + ((1) * x 2 + 0) = _; omega
  have E2 : y_ev x (0, [(3, 1)]) = x 3 := by show ((0) : Int) + ((1) * x 3 + 0) = _; omega
  have E3 : y_ev x (0, [(4, 1)]) = x 4 := by show ((0) : Int) + ((1) * x 4 + 0) = _; omega
  have E4 : y_ev x (0, [(5, 1)]) = x 5 := by show ((0) : Int) + ((1) * x 5 + 0) = _; omega
  have E5 : y_ev x (0, [(6, 1)]) = x 6 := by show ((0) : Int) + ((1) * x 6 + 0) = _; omega
  have E6 : y_ev x (0, [(7, 1)]) = x 7 := by show ((0) : Int) + ((1) * x 7 + 0) = _; omega
  have E7 : y_ev x (0, [(8, 1)]) = x 8 := by show ((0) : Int) + ((1) * x 8 + 0) = _; omega
  have E8 : y_ev x (31, []) = 31 := by show ((31) : Int) + 0 = _; omega
  have E9 : y_ev x (0, [(0, 1)]) = x 0 := by show ((0) : Int) + ((1) * x 0 + 0) = _; omega
  have T0 : q_rwo v (y_ev x (0, [(1, 1)])) (y_ev x (0, [(2, 1)])) (y_ev x (0, [(3, 1)])) (y_ev x (0, [(4, 1)])) (y_ev x (0, [(5, 1)])) (y_ev x (0, [(6, 1)])) (y_ev x (0, [(7, 1)])) (y_ev x (0, [(8, 1)])) := h.2.2.2.1
  try rw [E0] at T0; try rw [E1] at T0; try rw [E2] at T0; try rw [E3] at T0; try rw [E4] at T0; try rw [E5] at T0; try rw [E6] at T0; try rw [E7] at T0
  have F0 : 0 ≤ y_ev x (31, []) ∧ y_ev x (31, []) < j_len 78 ∧ v 78 (y_ev x (31, [])) = y_ev x (0, [(0, 1)]) := h.2.2.1.1.1
  try rw [E8] at F0; try rw [E9] at F0
  have K := k_rcelc31 (V := v) (u := x 0) (H := x 1) (q := x 2) (b := x 3) (s := x 4) (o := x 5) (a1 := x 6) (a2 := x 7) (a3 := x 8) T0 F0
  refine l_outH rfl (And.intro h.1 ?_)
  have O0 : y_ev x (8, []) = 8 := by show ((8) : Int) + 0 = _; omega
  have O1 : y_ev x (0, [(2, 1)]) = x 2 := by show ((0) : Int) + ((1) * x 2 + 0) = _; omega
  have O2 : y_ev x (0, [(3, 1)]) = x 3 := by show ((0) : Int) + ((1) * x 3 + 0) = _; omega
  have O3 : y_ev x (0, [(4, 1)]) = x 4 := by show ((0) : Int) + ((1) * x 4 + 0) = _; omega
  have O4 : y_ev x (0, [(5, 1)]) = x 5 := by show ((0) : Int) + ((1) * x 5 + 0) = _; omega
  have O5 : y_ev x (0, [(6, 1)]) = x 6 := by show ((0) : Int) + ((1) * x 6 + 0) = _; omega
  have O6 : y_ev x (0, [(7, 1)]) = x 7 := by show ((0) : Int) + ((1) * x 7 + 0) = _; omega
  have O7 : y_ev x (0, [(8, 1)]) = x 8 := by show ((0) : Int) + ((1) * x 8 + 0) = _; omega
  have O8 : y_ev x (31, []) = 31 := by show ((31) : Int) + 0 = _; omega
  have O9 : y_ev x (0, []) = 0 := by show ((0) : Int) + 0 = _; omega
  have O10 : y_ev x (0, [(0, 1)]) = x 0 := by show ((0) : Int) + ((1) * x 0 + 0) = _; omega
  show (True) ∧ (q_qry v (y_ev x (8, [])) (y_ev x (0, [(2, 1)])) (y_ev x (0, [(3, 1)])) (y_ev x (0, [(4, 1)])) (y_ev x (0, [(5, 1)])) (y_ev x (0, [(6, 1)])) (y_ev x (0, [(7, 1)])) (y_ev x (0, [(8, 1)])) (y_ev x (31, [])) (y_ev x (0, [])) (y_ev x (0, [(0, 1)])) ∧ True)
  try rw [O0]; try rw [O1]; try rw [O2]; try rw [O3]; try rw [O4]; try rw [O5]; try rw [O6]; try rw [O7]; try rw [O8]; try rw [O9]; try rw [O10]
  exact K
def lm_933 : zLem := (([((-2147483648), 2147483647), ((-2147483648), 2147483647), ((-2147483648), 2147483647), ((-2147483648), 2147483647), ((-2147483648), 2147483647)], [(12, false), (58, false)], [(0, [(0, 1)]), ((-1), [(0, (-1)), (4, 1)])], [], [(0, 0, 0, [(0, 1)])], [(0, (false, 18, 0, []), 0, 0, 0, [(2, 1)]), (1, (true, 0, 0, [(0, 1), (2, 6)]), 0, 0, 0, [(1, 1)])], [(200, [(0, [(2, 1)]), (0, [(3, 1)]), (1, []), (0, [(4, 1)])])]), [([((-2147483648), 2147483647), ((-2147483648), 2147483647), ((-2147483648), 2147483647), ((-2147483648), 2147483647), ((-2147483648), 2147483647)], [(12, false), (58, false)], [], [], [], [], [(262, [(0, [(0, 1)]), (0, [(1, 1)])])])])
theorem lk_933 : l_core lm_933 := by
  intro v x h
  have E0 : y_ev x (0, [(2, 1)]) = x 2 := by show ((0) : Int) + ((1) * x 2 + 0) = _; omega
  have E1 : y_ev x (0, [(3, 1)]) = x 3 := by show ((0) : Int) + ((1) * x 3 + 0) = _; omega
  have E2 : y_ev x (1, []) = 1 := by show ((1) : Int) + 0 = _; omega
  have E3 : y_ev x (0, [(4, 1)]) = x 4 := by show ((0) : Int) + ((1) * x 4 + 0) = _; omega
  have E4 : y_ev x (0, [(0, 1)]) = x 0 := by show ((0) : Int) + ((1) * x 0 + 0) = _; omega
  have E5 : y_ev x ((-1), [(0, (-1)), (4, 1)]) = x 4 - x 0 - 1 := by show ((-1) : Int) + ((-1) * x 0 + ((1) * x 4 + 0)) = _; omega
  have E6 : y_ev x (0, [(0, 1), (2, 6)]) = x 0 + 6 * x 2 := by show ((0) : Int) + ((1) * x 0 + ((6) * x 2 + 0)) = _; omega
  have E7 : y_ev x (0, [(1, 1)]) = x 1 := by show ((0) : Int) + ((1) * x 1 + 0) = _; omega
  have T0 : (y_ev x (1, [])) = 1 → 0 ≤ (y_ev x (0, [(2, 1)])) ∧ 0 ≤ (y_ev x (0, [(3, 1)])) ∧ (y_ev x (0, [(2, 1)])) + (y_ev x (0, [(3, 1)])) = 1 ∧ (y_ev x (0, [(4, 1)])) ≤ 6 ∧ ∀ i_ : Int, 0 ≤ i_ → i_ < (y_ev x (0, [(4, 1)])) → v 19 i_ = v 57 (6 * (y_ev x (0, [(2, 1)])) + i_) ∧ v 20 i_ = v 58 (6 * (y_ev x (0, [(2, 1)])) + i_) := h.2.2.2.1
  try rw [E0] at T0; try rw [E1] at T0; try rw [E2] at T0; try rw [E3] at T0
  have C0 : 0 ≤ y_ev x (0, [(0, 1)]) := h.2.1.1
  rw [E4] at C0
  have C1 : 0 ≤ y_ev x ((-1), [(0, (-1)), (4, 1)]) := h.2.1.2.1
  rw [E5] at C1
  have F0 : 0 ≤ y_ev x (0, [(0, 1), (2, 6)]) ∧ y_ev x (0, [(0, 1), (2, 6)]) < j_len 58 ∧ v 58 (y_ev x (0, [(0, 1), (2, 6)])) = y_ev x (0, [(1, 1)]) := h.2.2.1.2.1.1
  try rw [E6] at F0; try rw [E7] at F0
  have K := k_mfs (V := v) (h := x 0) (u := x 1) (l := x 2) (x := x 3) (H := x 4) T0 C0 C1 F0
  refine l_outH rfl (And.intro h.1 ?_)
  have O0 : y_ev x (0, [(0, 1)]) = x 0 := by show ((0) : Int) + ((1) * x 0 + 0) = _; omega
  have O1 : y_ev x (0, [(1, 1)]) = x 1 := by show ((0) : Int) + ((1) * x 1 + 0) = _; omega
  show (True) ∧ ((v 20 (y_ev x (0, [(0, 1)])) = (y_ev x (0, [(1, 1)]))) ∧ True)
  try rw [O0]; try rw [O1]
  exact K
def lm_934 : zLem := (([((-2147483648), 2147483647), ((-2147483648), 2147483647), ((-2147483648), 2147483647), ((-2147483648), 2147483647), ((-2147483648), 2147483647), ((-2147483648), 2147483647), ((-2147483648), 2147483647), ((-2147483648), 2147483647), ((-2147483648), 2147483647), ((-2147483648), 2147483647), ((-2147483648), 2147483647)], [], [(0, [(0, 1)]), ((-1), [(0, (-1)), (10, 1)]), (6, [(10, (-1))]), ((-1), [(1, 1)])], [], [(0, 0, 0, [(0, 1)])], [], [(238, [(8, []), (0, [(3, 1)]), (0, [(4, 1)]), (0, [(5, 1)]), (0, [(6, 1)]), (0, [(7, 1)]), (0, [(8, 1)]), (0, [(9, 1)]), (6, [(0, 1)]), (0, []), (0, [(1, 1)])]), (238, [(8, []), (0, [(3, 1)]), (0, [(4, 1)]), (0, [(5, 1)]), (0, [(6, 1)]), (0, [(7, 1)]), (0, [(8, 1)]), (0, [(9, 1)]), (12, [(0, 1)]), (0, []), (0, [(2, 1)])]), (237, [(0, [(10, 1)]), (0, [(3, 1)]), (0, [(4, 1)]), (0, [(5, 1)]), (0, [(6, 1)]), (0, [(7, 1)]), (0, [(8, 1)]), (0, [(9, 1)])])]), [([((-2147483648), 2147483647), ((-2147483648), 2147483647), ((-2147483648), 2147483647), ((-2147483648), 2147483647), ((-2147483648), 2147483647), ((-2147483648), 2147483647), ((-2147483648), 2147483647), ((-2147483648), 2147483647), ((-2147483648), 2147483647), ((-2147483648), 2147483647), ((-2147483648), 2147483647)], [], [], [], [], [], [(238, [(7, []), (0, [(3, 1)]), (0, [(4, 1)]), (0, [(5, 1)]), (0, [(6, 1)]), (0, [(7, 1)]), (0, [(8, 1)]), (0, [(9, 1)]), (0, [(0, 1)]), (0, []), (0, [(2, 1)])])])])
theorem lk_934 : l_core lm_934 := by
  intro v x h
  have E0 : y_ev x (8, []) = 8 := by show ((8) : Int) + 0 = _; omega
  have E1 : y_ev x (0, [(3, 1)]) = x 3 := by show ((0) : Int) + ((1) * x 3 + 0) = _; omega
  have E2 : y_ev x (0, [(4, 1)]) = x 4 := by show ((0) : Int) + ((1) * x 4 + 0) = _; omega
  have E3 : y_ev x (0, [(5, 1)]) = x 5 := by show ((0) : Int) + ((1) * x 5 + 0) = _; omega
  have E4 : y_ev x (0, [(6, 1)]) = x 6 := by show ((0) : Int) + ((1) * x 6 + 0) = _; omega
  have E5 : y_ev x (0, [(7, 1)]) = x 7 := by show ((0) : Int) + ((1) * x 7 + 0) = _; omega
  have E6 : y_ev x (0, [(8, 1)]) = x 8 := by show ((0) : Int) + ((1) * x 8 + 0) = _; omega
  have E7 : y_ev x (0, [(9, 1)]) = x 9 := by show ((0) : Int) + ((1) * x 9 + 0) = _; omega
  have E8 : y_ev x (6, [(0, 1)]) = x 0 + 6 := by show ((6) : Int) + ((1) * x 0 + 0) = _; omega
  have E9 : y_ev x (0, []) = 0 := by show ((0) : Int) + 0 = _; omega
  have E10 : y_ev x (0, [(1, 1)]) = x 1 := by show ((0) : Int) + ((1) * x 1 + 0) = _; omega
  have E11 : y_ev x (12, [(0, 1)]) = x 0 + 12 := by show ((12) : Int) + ((1) * x 0 + 0) = _; omega
  have E12 : y_ev x (0, [(2, 1)]) = x 2 := by show ((0) : Int) + ((1) * x 2 + 0) = _; omega
  have E13 : y_ev x (0, [(10, 1)]) = x 10 := by show ((0) : Int) + ((1) * x 10 + 0) = _; omega
  have E14 : y_ev x (0, [(0, 1)]) = x 0 := by show ((0) : Int) + ((1) * x 0 + 0) = _; omega
  have E15 : y_ev x ((-1), [(0, (-1)), (10, 1)]) = x 10 - x 0 - 1 := by show ((-1) : Int) + ((-1) * x 0 + ((1) * x 10 + 0)) = _; omega
  have E16 : y_ev x (6, [(10, (-1))]) = 6 - x 10 := by show ((6) : Int) + ((-1) * x 10 + 0) = _; omega
  have E17 : y_ev x ((-1), [(1, 1)]) = x 1 - 1 := by show ((-1) : Int) + ((1) * x 1 + 0) = _; omega
  have T0 : q_qry v (y_ev x (8, [])) (y_ev x (0, [(3, 1)])) (y_ev x (0, [(4, 1)])) (y_ev x (0, [(5, 1)])) (y_ev x (0, [(6, 1)])) (y_ev x (0, [(7, 1)])) (y_ev x (0, [(8, 1)])) (y_ev x (0, [(9, 1)])) (y_ev x (6, [(0, 1)])) (y_ev x (0, [])) (y_ev x (0, [(1, 1)])) := h.2.2.2.1
  try rw [E0] at T0; try rw [E1] at T0; try rw [E2] at T0; try rw [E3] at T0; try rw [E4] at T0; try rw [E5] at T0; try rw [E6] at T0; try rw [E7] at T0; try rw [E8] at T0; try rw [E9] at T0; try rw [E10] at T0
  have T1 : q_qry v (y_ev x (8, [])) (y_ev x (0, [(3, 1)])) (y_ev x (0, [(4, 1)])) (y_ev x (0, [(5, 1)])) (y_ev x (0, [(6, 1)])) (y_ev x (0, [(7, 1)])) (y_ev x (0, [(8, 1)])) (y_ev x (0, [(9, 1)])) (y_ev x (12, [(0, 1)])) (y_ev x (0, [])) (y_ev x (0, [(2, 1)])) := h.2.2.2.2.1
  try rw [E0] at T1; try rw [E1] at T1; try rw [E2] at T1; try rw [E3] at T1; try rw [E4] at T1; try rw [E5] at T1; try rw [E6] at T1; try rw [E7] at T1; try rw [E11] at T1; try rw [E9] at T1; try rw [E12] at T1
  have T2 : q_rwo v (y_ev x (0, [(10, 1)])) (y_ev x (0, [(3, 1)])) (y_ev x (0, [(4, 1)])) (y_ev x (0, [(5, 1)])) (y_ev x (0, [(6, 1)])) (y_ev x (0, [(7, 1)])) (y_ev x (0, [(8, 1)])) (y_ev x (0, [(9, 1)])) := h.2.2.2.2.2.1
  try rw [E13] at T2; try rw [E1] at T2; try rw [E2] at T2; try rw [E3] at T2; try rw [E4] at T2; try rw [E5] at T2; try rw [E6] at T2; try rw [E7] at T2
  have C0 : 0 ≤ y_ev x (0, [(0, 1)]) := h.2.1.1
  rw [E14] at C0
  have C1 : 0 ≤ y_ev x ((-1), [(0, (-1)), (10, 1)]) := h.2.1.2.1
  rw [E15] at C1
  have C2 : 0 ≤ y_ev x (6, [(10, (-1))]) := h.2.1.2.2.1
  rw [E16] at C2
  have C3 : 0 ≤ y_ev x ((-1), [(1, 1)]) := h.2.1.2.2.2.1
  rw [E17] at C3
  have K := k_mstgY (V := v) (h := x 0) (x := x 1) (u := x 2) (q := x 3) (b := x 4) (s := x 5) (o := x 6) (a1 := x 7) (a2 := x 8) (a3 := x 9) (H := x 10) T0 T1 T2 C0 C1 C2 C3
  refine l_outH rfl (And.intro h.1 ?_)
  have O0 : y_ev x (7, []) = 7 := by show ((7) : Int) + 0 = _; omega
  have O1 : y_ev x (0, [(3, 1)]) = x 3 := by show ((0) : Int) + ((1) * x 3 + 0) = _; omega
  have O2 : y_ev x (0, [(4, 1)]) = x 4 := by show ((0) : Int) + ((1) * x 4 + 0) = _; omega
  have O3 : y_ev x (0, [(5, 1)]) = x 5 := by show ((0) : Int) + ((1) * x 5 + 0) = _; omega
  have O4 : y_ev x (0, [(6, 1)]) = x 6 := by show ((0) : Int) + ((1) * x 6 + 0) = _; omega
  have O5 : y_ev x (0, [(7, 1)]) = x 7 := by show ((0) : Int) + ((1) * x 7 + 0) = _; omega
  have O6 : y_ev x (0, [(8, 1)]) = x 8 := by show ((0) : Int) + ((1) * x 8 + 0) = _; omega
  have O7 : y_ev x (0, [(9, 1)]) = x 9 := by show ((0) : Int) + ((1) * x 9 + 0) = _; omega
  have O8 : y_ev x (0, [(0, 1)]) = x 0 := by show ((0) : Int) + ((1) * x 0 + 0) = _; omega
  have O9 : y_ev x (0, []) = 0 := by show ((0) : Int) + 0 = _; omega
  have O10 : y_ev x (0, [(2, 1)]) = x 2 := by show ((0) : Int) + ((1) * x 2 + 0) = _; omega
  show (True) ∧ (q_qry v (y_ev x (7, [])) (y_ev x (0, [(3, 1)])) (y_ev x (0, [(4, 1)])) (y_ev x (0, [(5, 1)])) (y_ev x (0, [(6, 1)])) (y_ev x (0, [(7, 1)])) (y_ev x (0, [(8, 1)])) (y_ev x (0, [(9, 1)])) (y_ev x (0, [(0, 1)])) (y_ev x (0, [])) (y_ev x (0, [(2, 1)])) ∧ True)
  try rw [O0]; try rw [O1]; try rw [O2]; try rw [O3]; try rw [O4]; try rw [O5]; try rw [O6]; try rw [O7]; try rw [O8]; try rw [O9]; try rw [O10]
  exact K
def lm_935 : zLem := (([((-2147483648), 2147483647), ((-2147483648), 2147483647), ((-2147483648), 2147483647), ((-2147483648), 2147483647), ((-2147483648), 2147483647), ((-2147483648), 2147483647), ((-2147483648), 2147483647), ((-2147483648), 2147483647), ((-2147483648), 2147483647), ((-2147483648), 2147483647)], [], [(0, [(0, 1)]), ((-1), [(0, (-1)), (9, 1)]), (6, [(9, (-1))])], [], [(0, 0, 0, [(0, 1)])], [], [(238, [(8, []), (0, [(2, 1)]), (0, [(3, 1)]), (0, [(4, 1)]), (0, [(5, 1)]), (0, [(6, 1)]), (0, [(7, 1)]), (0, [(8, 1)]), (6, [(0, 1)]), (0, []), (0, [])]), (262, [(0, [(0, 1)]), (0, [(1, 1)])]), (237, [(0, [(9, 1)]), (0, [(2, 1)]), (0, [(3, 1)]), (0, [(4, 1)]), (0, [(5, 1)]), (0, [(6, 1)]), (0, [(7, 1)]), (0, [(8, 1)])])]), [([((-2147483648), 2147483647), ((-2147483648), 2147483647), ((-2147483648), 2147483647), ((-2147483648), 2147483647), ((-2147483648), 2147483647), ((-2147483648), 2147483647), ((-2147483648), 2147483647), ((-2147483648), 2147483647), ((-2147483648), 2147483647), ((-2147483648), 2147483647)], [], [], [], [], [], [(238, [(7, []), (0, [(2, 1)]), (0, [(3, 1)]), (0, [(4, 1)]), (0, [(5, 1)]), (0, [(6, 1)]), (0, [(7, 1)]), (0, [(8, 1)]), (0, [(0, 1)]), (0, []), (0, [(1, 1)])])])])
theorem lk_935 : l_core lm_935 := by
  intro v x h
  have E0 : y_ev x (8, []) = 8 := by show ((8) : Int) + 0 = _; omega
  have E1 : y_ev x (0, [(2, 1)]) = x 2 := by show ((0) : Int) + ((1) * x 2 + 0) = _; omega
  have E2 : y_ev x (0, [(3, 1)]) = x 3 := by show ((0) : Int) + ((1) * x 3 + 0) = _; omega
  have E3 : y_ev x (0, [(4, 1)]) = x 4 := by show ((0) : Int) + ((1) * x 4 + 0) = _; omega
  have E4 : y_ev x (0, [(5, 1)]) = x 5 := by show ((0) : Int) + ((1) * x 5 + 0) = _; omega
  have E5 : y_ev x (0, [(6, 1)]) = x 6 := by show ((0) : Int) + ((1) * x 6 + 0) = _; omega
  have E6 : y_ev x (0, [(7, 1)]) = x 7 := by show ((0) : Int) + ((1) * x 7 + 0) = _; omega
  have E7 : y_ev x (0, [(8, 1)]) = x 8 := by show ((0) : Int) + ((1) * x 8 + 0) = _; omega
  have E8 : y_ev x (6, [(0, 1)]) = x 0 + 6 := by show ((6) : Int) + ((1) * x 0 + 0) = _; omega
  have E9 : y_ev x (0, []) = 0 := by show ((0) : Int) + 0 = _; omega
  have E10 : y_ev x (0, [(0, 1)]) = x 0 := by show ((0) : Int) + ((1) * x 0 + 0) = _; omega
  have E11 : y_ev x (0, [(1, 1)]) = x 1 := by show ((0) : Int) + ((1) * x 1 + 0) = _; omega
  have E12 : y_ev x (0, [(9, 1)]) = x 9 := by show ((0) : Int) + ((1) * x 9 + 0) = _; omega
  have E13 : y_ev x ((-1), [(0, (-1)), (9, 1)]) = x 9 - x 0 - 1 := by show ((-1) : Int) + ((-1) * x 0 + ((1) * x 9 + 0)) = _; omega
  have E14 : y_ev x (6, [(9, (-1))]) = 6 - x 9 := by show ((6) : Int) + ((-1) * x 9 + 0) = _; omega
  have T0 : q_qry v (y_ev x (8, [])) (y_ev x (0, [(2, 1)])) (y_ev x (0, [(3, 1)])) (y_ev x (0, [(4, 1)])) (y_ev x (0, [(5, 1)])) (y_ev x (0, [(6, 1)])) (y_ev x (0, [(7, 1)])) (y_ev x (0, [(8, 1)])) (y_ev x (6, [(0, 1)])) (y_ev x (0, [])) (y_ev x (0, [])) := h.2.2.2.1
  try rw [E0] at T0; try rw [E1] at T0; try rw [E2] at T0; try rw [E3] at T0; try rw [E4] at T0; try rw [E5] at T0; try rw [E6] at T0; try rw [E7] at T0; try rw [E8] at T0; try rw [E9] at T0
  have T1 : v 20 (y_ev x (0, [(0, 1)])) = (y_ev x (0, [(1, 1)])) := h.2.2.2.2.1
  try rw [E10] at T1; try rw [E11] at T1
  have T2 : q_rwo v (y_ev x (0, [(9, 1)])) (y_ev x (0, [(2, 1)])) (y_ev x (0, [(3, 1)])) (y_ev x (0, [(4, 1)])) (y_ev x (0, [(5, 1)])) (y_ev x (0, [(6, 1)])) (y_ev x (0, [(7, 1)])) (y_ev x (0, [(8, 1)])) := h.2.2.2.2.2.1
  try rw [E12] at T2; try rw [E1] at T2; try rw [E2] at T2; try rw [E3] at T2; try rw [E4] at T2; try rw [E5] at T2; try rw [E6] at T2; try rw [E7] at T2
  have C0 : 0 ≤ y_ev x (0, [(0, 1)]) := h.2.1.1
  rw [E10] at C0
  have C1 : 0 ≤ y_ev x ((-1), [(0, (-1)), (9, 1)]) := h.2.1.2.1
  rw [E13] at C1
  have C2 : 0 ≤ y_ev x (6, [(9, (-1))]) := h.2.1.2.2.1
  rw [E14] at C2
  have K := k_mstgN (V := v) (h := x 0) (u := x 1) (q := x 2) (b := x 3) (s := x 4) (o := x 5) (a1 := x 6) (a2 := x 7) (a3 := x 8) (H := x 9) T0 T1 T2 C0 C1 C2
  refine l_outH rfl (And.intro h.1 ?_)
  have O0 : y_ev x (7, []) = 7 := by show ((7) : Int) + 0 = _; omega
  have O1 : y_ev x (0, [(2, 1)]) = x 2 := by show ((0) : Int) + ((1) * x 2 + 0) = _; omega
  have O2 : y_ev x (0, [(3, 1)]) = x 3 := by show ((0) : Int) + ((1) * x 3 + 0) = _; omega
  have O3 : y_ev x (0, [(4, 1)]) = x 4 := by show ((0) : Int) + ((1) * x 4 + 0) = _; omega
  have O4 : y_ev x (0, [(5, 1)]) = x 5 := by show ((0) : Int) + ((1) * x 5 + 0) = _; omega
  have O5 : y_ev x (0, [(6, 1)]) = x 6 := by show ((0) : Int) + ((1) * x 6 + 0) = _; omega
  have O6 : y_ev x (0, [(7, 1)]) = x 7 := by show ((0) : Int) + ((1) * x 7 + 0) = _; omega
  have O7 : y_ev x (0, [(8, 1)]) = x 8 := by show ((0) : Int) + ((1) * x 8 + 0) = _; omega
  have O8 : y_ev x (0, [(0, 1)]) = x 0 := by show ((0) : Int) + ((1) * x 0 + 0) = _; omega
  have O9 : y_ev x (0, []) = 0 := by show ((0) : Int) + 0 = _; omega
  have O10 : y_ev x (0, [(1, 1)]) = x 1 := by show ((0) : Int) + ((1) * x 1 + 0) = _; omega
  show (True) ∧ (q_qry v (y_ev x (7, [])) (y_ev x (0, [(2, 1)])) (y_ev x (0, [(3, 1)])) (y_ev x (0, [(4, 1)])) (y_ev x (0, [(5, 1)])) (y_ev x (0, [(6, 1)])) (y_ev x (0, [(7, 1)])) (y_ev x (0, [(8, 1)])) (y_ev x (0, [(0, 1)])) (y_ev x (0, [])) (y_ev x (0, [(1, 1)])) ∧ True)
  try rw [O0]; try rw [O1]; try rw [O2]; try rw [O3]; try rw [O4]; try rw [O5]; try rw [O6]; try rw [O7]; try rw [O8]; try rw [O9]; try rw [O10]
  exact K
def lm_936 : zLem := (([((-2147483648), 2147483647), ((-2147483648), 2147483647), ((-2147483648), 2147483647), ((-2147483648), 2147483647), ((-2147483648), 2147483647), ((-2147483648), 2147483647), ((-2147483648), 2147483647), ((-2147483648), 2147483647), ((-2147483648), 2147483647)], [], [(0, [(0, 1)]), (5, [(0, (-1))])], [], [(0, 0, 0, [(0, 1)])], [], [(238, [(8, []), (0, [(1, 1)]), (0, [(2, 1)]), (0, [(3, 1)]), (0, [(4, 1)]), (0, [(5, 1)]), (0, [(6, 1)]), (0, [(7, 1)]), (6, [(0, 1)]), (0, []), (0, [])]), (237, [(0, [(8, 1)]), (0, [(1, 1)]), (0, [(2, 1)]), (0, [(3, 1)]), (0, [(4, 1)]), (0, [(5, 1)]), (0, [(6, 1)]), (0, [(7, 1)])])]), [([((-2147483648), 2147483647), ((-2147483648), 2147483647), ((-2147483648), 2147483647), ((-2147483648), 2147483647), ((-2147483648), 2147483647), ((-2147483648), 2147483647), ((-2147483648), 2147483647), ((-2147483648), 2147483647), ((-2147483648), 2147483647)], [], [], [], [], [], [(238, [(16, []), (0, [(1, 1)]), (0, [(2, 1)]), (0, [(3, 1)]), (0, [(4, 1)]), (0, [(5, 1)]), (0, [(6, 1)]), (0, [(7, 1)]), (0, [(0, 1)]), (0, []), (0, [])])])])
theorem lk_936 : l_core lm_936 := by
  intro v x h
  have E0 : y_ev x (8, []) = 8 := by show ((8) : Int) + 0 = _; omega
  have E1 : y_ev x (0, [(1, 1)]) = x 1 := by show ((0) : Int) + ((1) * x 1 + 0) = _; omega
  have E2 : y_ev x (0, [(2, 1)]) = x 2 := by show ((0) : Int) + ((1) * x 2 + 0) = _; omega
  have E3 : y_ev x (0, [(3, 1)]) = x 3 := by show ((0) : Int) + ((1) * x 3 + 0) = _; omega
  have E4 : y_ev x (0, [(4, 1)]) = x 4 := by show ((0) : Int) + ((1) * x 4 + 0) = _; omega
  have E5 : y_ev x (0, [(5, 1)]) = x 5 := by show ((0) : Int) + ((1) * x 5 + 0) = _; omega
  have E6 : y_ev x (0, [(6, 1)]) = x 6 := by show ((0) : Int) + ((1) * x 6 + 0) = _; omega
  have E7 : y_ev x (0, [(7, 1)]) = x 7 := by show ((0) : Int) + ((1) * x 7 + 0) = _; omega
  have E8 : y_ev x (6, [(0, 1)]) = x 0 + 6 := by show ((6) : Int) + ((1) * x 0 + 0) = _; omega
  have E9 : y_ev x (0, []) = 0 := by show ((0) : Int) + 0 = _; omega
  have E10 : y_ev x (0, [(8, 1)]) = x 8 := by show ((0) : Int) + ((1) * x 8 + 0) = _; omega
  have E11 : y_ev x (0, [(0, 1)]) = x 0 := by show ((0) : Int) + ((1) * x 0 + 0) = _; omega
  have E12 : y_ev x (5, [(0, (-1))]) = 5 - x 0 := by show ((5) : Int) + ((-1) * x 0 + 0) = _; omega
  have T0 : q_qry v (y_ev x (8, [])) (y_ev x (0, [(1, 1)])) (y_ev x (0, [(2, 1)])) (y_ev x (0, [(3, 1)])) (y_ev x (0, [(4, 1)])) (y_ev x (0, [(5, 1)])) (y_ev x (0, [(6, 1)])) (y_ev x (0, [(7, 1)])) (y_ev x (6, [(0, 1)])) (y_ev x (0, [])) (y_ev x (0, [])) := h.2.2.2.1
  try rw [E0] at T0; try rw [E1] at T0; try rw [E2] at T0; try rw [E3] at T0; try rw [E4] at T0; try rw [E5] at T0; try rw [E6] at T0; try rw [E7] at T0; try rw [E8] at T0; try rw [E9] at T0
  have T1 : q_rwo v (y_ev x (0, [(8, 1)])) (y_ev x (0, [(1, 1)])) (y_ev x (0, [(2, 1)])) (y_ev x (0, [(3, 1)])) (y_ev x (0, [(4, 1)])) (y_ev x (0, [(5, 1)])) (y_ev x (0, [(6, 1)])) (y_ev x (0, [(7, 1)])) := h.2.2.2.2.1
  try rw [E10] at T1; try rw [E1] at T1; try rw [E2] at T1; try rw [E3] at T1; try rw [E4] at T1; try rw [E5] at T1; try rw [E6] at T1; try rw [E7] at T1
  have C0 : 0 ≤ y_ev x (0, [(0, 1)]) := h.2.1.1
  rw [E11] at C0
  have C1 : 0 ≤ y_ev x (5, [(0, (-1))]) := h.2.1.2.1
  rw [E12] at C1
  have K := k_p0M (V := v) (h := x 0) (q := x 1) (b := x 2) (s := x 3) (o := x 4) (a1 := x 5) (a2 := x 6) (a3 := x 7) (H := x 8) T0 T1 C0 C1
  refine l_outH rfl (And.intro h.1 ?_)
  have O0 : y_ev x (16, []) = 16 := by show ((16) : Int) + 0 = _; omega
  have O1 : y_ev x (0, [(1, 1)]) = x 1 := by show ((0) : Int) + ((1) * x 1 + 0) = _; omega
  have O2 : y_ev x (0, [(2, 1)]) = x 2 := by show ((0) : Int) + ((1) * x 2 + 0) = _; omega
  have O3 : y_ev x (0, [(3, 1)]) = x 3 := by show ((0) : Int) + ((1) * x 3 + 0) = _; omega
  have O4 : y_ev x (0, [(4, 1)]) = x 4 := by show ((0) : Int) + ((1) * x 4 + 0) = _; omega
  have O5 : y_ev x (0, [(5, 1)]) = x 5 := by show ((0) : Int) + ((1) * x 5 + 0) = _; omega
  have O6 : y_ev x (0, [(6, 1)]) = x 6 := by show ((0) : Int) + ((1) * x 6 + 0) = _; omega
  have O7 : y_ev x (0, [(7, 1)]) = x 7 := by show ((0) : Int) + ((1) * x 7 + 0) = _; omega
  have O8 : y_ev x (0, [(0, 1)]) = x 0 := by show ((0) : Int) + ((1) * x 0 + 0) = _; omega
  have O9 : y_ev x (0, []) = 0 := by show ((0) : Int) + 0 = _; omega
  show (True) ∧ (q_qry v (y_ev x (16, [])) (y_ev x (0, [(1, 1)])) (y_ev x (0, [(2, 1)])) (y_ev x (0, [(3, 1)])) (y_ev x (0, [(4, 1)])) (y_ev x (0, [(5, 1)])) (y_ev x (0, [(6, 1)])) (y_ev x (0, [(7, 1)])) (y_ev x (0, [(0, 1)])) (y_ev x (0, [])) (y_ev x (0, [])) ∧ True)
  try rw [O0]; try rw [O1]; try rw [O2]; try rw [O3]; try rw [O4]; try rw [O5]; try rw [O6]; try rw [O7]; try rw [O8]; try rw [O9]
  exact K
def lm_937 : zLem := (([((-2147483648), 2147483647), ((-2147483648), 2147483647), ((-2147483648), 2147483647), ((-2147483648), 2147483647), ((-2147483648), 2147483647), ((-2147483648), 2147483647), ((-2147483648), 2147483647), ((-2147483648), 2147483647), ((-2147483648), 2147483647), ((-2147483648), 2147483647)], [], [(0, [(0, 1)]), (5, [(0, (-1))]), ((-1), [(1, 1)])], [], [(0, 0, 0, [(0, 1)])], [], [(238, [(8, []), (0, [(2, 1)]), (0, [(3, 1)]), (0, [(4, 1)]), (0, [(5, 1)]), (0, [(6, 1)]), (0, [(7, 1)]), (0, [(8, 1)]), (6, [(0, 1)]), (0, []), (0, [(1, 1)])]), (238, [(6, []), (0, [(2, 1)]), (0, [(3, 1)]), (0, [(4, 1)]), (0, [(5, 1)]), (0, [(6, 1)]), (0, [(7, 1)]), (0, [(8, 1)]), (0, [(0, 1)]), (0, []), ((-1), [])]), (237, [(0, [(9, 1)]), (0, [(2, 1)]), (0, [(3, 1)]), (0, [(4, 1)]), (0, [(5, 1)]), (0, [(6, 1)]), (0, [(7, 1)]), (0, [(8, 1)])])]), [([((-2147483648), 2147483647), ((-2147483648), 2147483647), ((-2147483648), 2147483647), ((-2147483648), 2147483647), ((-2147483648), 2147483647), ((-2147483648), 2147483647), ((-2147483648), 2147483647), ((-2147483648), 2147483647), ((-2147483648), 2147483647), ((-2147483648), 2147483647)], [], [((-1), [])], [], [], [], [])])
theorem lk_937 : l_core lm_937 := by
  intro v x h
  have E0 : y_ev x (8, []) = 8 := by show ((8) : Int) + 0 = _; omega
  have E1 : y_ev x (0, [(2, 1)]) = x 2 := by show ((0) : Int) + ((1) * x 2 + 0) = _; omega
  have E2 : y_ev x (0, [(3, 1)]) = x 3 := by show ((0) : Int) + ((1) * x 3 + 0) = _; omega
  have E3 : y_ev x (0, [(4, 1)]) = x 4 := by show ((0) : Int) + ((1) * x 4 + 0) = _; omega
  have E4 : y_ev x (0, [(5, 1)]) = x 5 := by show ((0) : Int) + ((1) * x 5 + 0) = _; omega
  have E5 : y_ev x (0, [(6, 1)]) = x 6 := by show ((0) : Int) + ((1) * x 6 + 0) = _; omega
  have E6 : y_ev x (0, [(7, 1)]) = x 7 := by show ((0) : Int) + ((1) * x 7 + 0) = _; omega
  have E7 : y_ev x (0, [(8, 1)]) = x 8 := by show ((0) : Int) + ((1) * x 8 + 0) = _; omega
  have E8 : y_ev x (6, [(0, 1)]) = x 0 + 6 := by show ((6) : Int) + ((1) * x 0 + 0) = _; omega
  have E9 : y_ev x (0, []) = 0 := by show ((0) : Int) + 0 = _; omega
  have E10 : y_ev x (0, [(1, 1)]) = x 1 := by show ((0) : Int) + ((1) * x 1 + 0) = _; omega
  have E11 : y_ev x (6, []) = 6 := by show ((6) : Int) + 0 = _; omega
  have E12 : y_ev x (0, [(0, 1)]) = x 0 := by show ((0) : Int) + ((1) * x 0 + 0) = _; omega
  have E13 : y_ev x ((-1), []) = (-1) := by show ((-1) : Int) + 0 = _; omega
  have E14 : y_ev x (0, [(9, 1)]) = x 9 := by show ((0) : Int) + ((1) * x 9 + 0) = _; omega
  have E15 : y_ev x (5, [(0, (-1))]) = 5 - x 0 := by show ((5) : Int) + ((-1) * x 0 + 0) = _; omega
  have E16 : y_ev x ((-1), [(1, 1)]) = x 1 - 1 := by show ((-1) : Int) + ((1) * x 1 + 0) = _; omega
  have T0 : q_qry v (y_ev x (8, [])) (y_ev x (0, [(2, 1)])) (y_ev x (0, [(3, 1)])) (y_ev x (0, [(4, 1)])) (y_ev x (0, [(5, 1)])) (y_ev x (0, [(6, 1)])) (y_ev x (0, [(7, 1)])) (y_ev x (0, [(8, 1)])) (y_ev x (6, [(0, 1)])) (y_ev x (0, [])) (y_ev x (0, [(1, 1)])) := h.2.2.2.1
  try rw [E0] at T0; try rw [E1] at T0; try rw [E2] at T0; try rw [E3] at T0; try rw [E4] at T0; try rw [E5] at T0; try rw [E6] at T0; try rw [E7] at T0; try rw [E8] at T0; try rw [E9] at T0; try rw [E10] at T0
  have T1 : q_qry v (y_ev x (6, [])) (y_ev x (0, [(2, 1)])) (y_ev x (0, [(3, 1)])) (y_ev x (0, [(4, 1)])) (y_ev x (0, [(5, 1)])) (y_ev x (0, [(6, 1)])) (y_ev x (0, [(7, 1)])) (y_ev x (0, [(8, 1)])) (y_ev x (0, [(0, 1)])) (y_ev x (0, [])) (y_ev x ((-1), [])) := h.2.2.2.2.1
  try rw [E11] at T1; try rw [E1] at T1; try rw [E2] at T1; try rw [E3] at T1; try rw [E4] at T1; try rw [E5] at T1; try rw [E6] at T1; try rw [E7] at T1; try rw [E12] at T1; try rw [E9] at T1; try rw [E13] at T1
  have T2 : q_rwo v (y_ev x (0, [(9, 1)])) (y_ev x (0, [(2, 1)])) (y_ev x (0, [(3, 1)])) (y_ev x (0, [(4, 1)])) (y_ev x (0, [(5, 1)])) (y_ev x (0, [(6, 1)])) (y_ev x (0, [(7, 1)])) (y_ev x (0, [(8, 1)])) := h.2.2.2.2.2.1
  try rw [E14] at T2; try rw [E1] at T2; try rw [E2] at T2; try rw [E3] at T2; try rw [E4] at T2; try rw [E5] at T2; try rw [E6] at T2; try rw [E7] at T2
  have C0 : 0 ≤ y_ev x (0, [(0, 1)]) := h.2.1.1
  rw [E12] at C0
  have C1 : 0 ≤ y_ev x (5, [(0, (-1))]) := h.2.1.2.1
  rw [E15] at C1
  have C2 : 0 ≤ y_ev x ((-1), [(1, 1)]) := h.2.1.2.2.1
  rw [E16] at C2
  have K := k_plx (V := v) (h := x 0) (x := x 1) (q := x 2) (b := x 3) (s := x 4) (o := x 5) (a1 := x 6) (a2 := x 7) (a3 := x 8) (H := x 9) T0 T1 T2 C0 C1 C2
  refine l_outH rfl (And.intro h.1 ?_)
  have O0 : y_ev x ((-1), []) = (-1) := by show ((-1) : Int) + 0 = _; omega
  show (0 ≤ y_ev x ((-1), []) ∧ True) ∧ (True)
  try rw [O0]
  exact K
def lm_938 : zLem := (([((-2147483648), 2147483647), ((-2147483648), 2147483647), ((-2147483648), 2147483647), ((-2147483648), 2147483647), ((-2147483648), 2147483647), ((-2147483648), 2147483647), ((-2147483648), 2147483647), ((-2147483648), 2147483647), ((-2147483648), 2147483647)], [], [], [], [(0, 0, 0, [(0, 1)])], [], [(237, [(0, [(1, 1)]), (0, [(2, 1)]), (0, [(3, 1)]), (0, [(4, 1)]), (0, [(5, 1)]), (0, [(6, 1)]), (0, [(7, 1)]), (0, [(8, 1)])])]), [([((-2147483648), 2147483647), ((-2147483648), 2147483647), ((-2147483648), 2147483647), ((-2147483648), 2147483647), ((-2147483648), 2147483647), ((-2147483648), 2147483647), ((-2147483648), 2147483647), ((-2147483648), 2147483647), ((-2147483648), 2147483647)], [], [], [], [], [], [(238, [(12, []), (0, [(2, 1)]), (0, [(3, 1)]), (0, [(4, 1)]), (0, [(5, 1)]), (0, [(6, 1)]), (0, [(7, 1)]), (0, [(8, 1)]), (0, [(0, 1)]), (0, []), (1, [])])])])
theorem lk_938 : l_core lm_938 := by
  intro v x h
  have E0 : y_ev x (0, [(1, 1)]) = x 1 := by show ((0) : Int) + ((1) * x 1 + 0) = _; omega
  have E1 : y_ev x (0, [(2, 1)]) = x 2 := by show ((0) : Int) + ((1) * x 2 + 0) = _; omega
  have E2 : y_ev x (0, [(3, 1)]) = x 3 := by show ((0) : Int) + ((1) * x 3 + 0) = _; omega
  have E3 : y_ev x (0, [(4, 1)]) = x 4 := by show ((0) : Int) + ((1) * x 4 + 0) = _; omega
  have E4 : y_ev x (0, [(5, 1)]) = x 5 := by show ((0) : Int) + ((1) * x 5 + 0) = _; omega
  have E5 : y_ev x (0, [(6, 1)]) = x 6 := by show ((0) : Int) + ((1) * x 6 + 0) = _; omega
  have E6 : y_ev x (0, [(7, 1)]) = x 7 := by show ((0) : Int) + ((1) * x 7 + 0) = _; omega
  have E7 : y_ev x (0, [(8, 1)]) = x 8 := by show ((0) : Int) + ((1) * x 8 + 0) = _; omega
  have T0 : q_rwo v (y_ev x (0, [(1, 1)])) (y_ev x (0, [(2, 1)])) (y_ev x (0, [(3, 1)])) (y_ev x (0, [(4, 1)])) (y_ev x (0, [(5, 1)])) (y_ev x (0, [(6, 1)])) (y_ev x (0, [(7, 1)])) (y_ev x (0, [(8, 1)])) := h.2.2.2.1
  try rw [E0] at T0; try rw [E1] at T0; try rw [E2] at T0; try rw [E3] at T0; try rw [E4] at T0; try rw [E5] at T0; try rw [E6] at T0; try rw [E7] at T0
  have K := k_rpl0 (V := v) (h := x 0) (H := x 1) (q := x 2) (b := x 3) (s := x 4) (o := x 5) (a1 := x 6) (a2 := x 7) (a3 := x 8) T0
  refine l_outH rfl (And.intro h.1 ?_)
  have O0 : y_ev x (12, []) = 12 := by show ((12) : Int) + 0 = _; omega
  have O1 : y_ev x (0, [(2, 1)]) = x 2 := by show ((0) : Int) + ((1) * x 2 + 0) = _; omega
  have O2 : y_ev x (0, [(3, 1)]) = x 3 := by show ((0) : Int) + ((1) * x 3 + 0) = _; omega
  have O3 : y_ev x (0, [(4, 1)]) = x 4 := by show ((0) : Int) + ((1) * x 4 + 0) = _; omega
  have O4 : y_ev x (0, [(5, 1)]) = x 5 := by show ((0) : Int) + ((1) * x 5 + 0) = _; omega
  have O5 : y_ev x (0, [(6, 1)]) = x 6 := by show ((0) : Int) + ((1) * x 6 + 0) = _; omega
  have O6 : y_ev x (0, [(7, 1)]) = x 7 := by show ((0) : Int) + ((1) * x 7 + 0) = _; omega
  have O7 : y_ev x (0, [(8, 1)]) = x 8 := by show ((0) : Int) + ((1) * x 8 + 0) = _; omega
  have O8 : y_ev x (0, [(0, 1)]) = x 0 := by show ((0) : Int) + ((1) * x 0 + 0) = _; omega
  have O9 : y_ev x (0, []) = 0 := by show ((0) : Int) + 0 = _; omega
  have O10 : y_ev x (1, []) = 1 := by show ((1) : Int) + 0 = _; omega
  show (True) ∧ (q_qry v (y_ev x (12, [])) (y_ev x (0, [(2, 1)])) (y_ev x (0, [(3, 1)])) (y_ev x (0, [(4, 1)])) (y_ev x (0, [(5, 1)])) (y_ev x (0, [(6, 1)])) (y_ev x (0, [(7, 1)])) (y_ev x (0, [(8, 1)])) (y_ev x (0, [(0, 1)])) (y_ev x (0, [])) (y_ev x (1, [])) ∧ True)
  try rw [O0]; try rw [O1]; try rw [O2]; try rw [O3]; try rw [O4]; try rw [O5]; try rw [O6]; try rw [O7]; try rw [O8]; try rw [O9]; try rw [O10]
  exact K
def lm_939 : zLem := (([((-2147483648), 2147483647), ((-2147483648), 2147483647), ((-2147483648), 2147483647), ((-2147483648), 2147483647), ((-2147483648), 2147483647), ((-2147483648), 2147483647), ((-2147483648), 2147483647), ((-2147483648), 2147483647), ((-2147483648), 2147483647), ((-2147483648), 2147483647), ((-2147483648), 2147483647), ((-2147483648), 2147483647)], [(78, false)], [(0, [(1, 1)]), ((-1), [(1, (-1)), (3, 1)]), (5, [(1, (-1))]), ((-1), [(0, 1), (2, (-1))])], [], [(0, 0, 0, [(0, 1)]), (0, 0, 0, [(1, 1)])], [(0, (true, 0, 25, [(1, 1)]), 0, 0, 0, [(2, 1)]), (0, (true, 0, 24, []), 0, 0, 0, [(3, 1)])], [(237, [(0, [(4, 1)]), (0, [(5, 1)]), (0, [(6, 1)]), (0, [(7, 1)]), (0, [(8, 1)]), (0, [(9, 1)]), (0, [(10, 1)]), (0, [(11, 1)])]), (238, [(12, []), (0, [(5, 1)]), (0, [(6, 1)]), (0, [(7, 1)]), (0, [(8, 1)]), (0, [(9, 1)]), (0, [(10, 1)]), (0, [(11, 1)]), (0, [(0, 1)]), (0, [(1, 1)]), (1, [])])]), [([((-2147483648), 2147483647), ((-2147483648), 2147483647), ((-2147483648), 2147483647), ((-2147483648), 2147483647), ((-2147483648), 2147483647), ((-2147483648), 2147483647), ((-2147483648), 2147483647), ((-2147483648), 2147483647), ((-2147483648), 2147483647), ((-2147483648), 2147483647), ((-2147483648), 2147483647), ((-2147483648), 2147483647)], [(78, false)], [], [], [], [], [(238, [(12, []), (0, [(5, 1)]), (0, [(6, 1)]), (0, [(7, 1)]), (0, [(8, 1)]), (0, [(9, 1)]), (0, [(10, 1)]), (0, [(11, 1)]), (0, [(0, 1)]), (1, [(1, 1)]), (1, [])])])])
theorem lk_939 : l_core lm_939 := by
  intro v x h
  have E0 : y_ev x (0, [(4, 1)]) = x 4 := by show ((0) : Int) + ((1) * x 4 + 0) = _; omega
  have E1 : y_ev x (0, [(5, 1)]) = x 5 := by show ((0) : Int) + ((1) * x 5 + 0) = _; omega
  have E2 : y_ev x (0, [(6, 1)]) = x 6 := by show ((0) : Int) + ((1) * x 6 + 0) = _; omega
  have E3 : y_ev x (0, [(7, 1)]) = x 7 := by show ((0) : Int) + ((1) * x 7 + 0) = _; omega
  have E4 : y_ev x (0, [(8, 1)]) = x 8 := by show ((0) : Int) + ((1) * x 8 + 0) = _; omega
  have E5 : y_ev x (0, [(9, 1)]) = x 9 := by show ((0) : Int) + ((1) * x 9 + 0) = _; omega
  have E6 : y_ev x (0, [(10, 1)]) = x 10 := by show ((0) : Int) + ((1) * x 10 + 0) = _; omega
  have E7 : y_ev x (0, [(11, 1)]) = x 11 := by show ((0) : Int) + ((1) * x 11 + 0) = _; omega
  have E8 : y_ev x (12, []) = 12 := by show ((12) : Int) + 0 = _; omega
  have E9 : y_ev x (0, [(0, 1)]) = x 0 := by show ((0) : Int) + ((1) * x 0 + 0) = _; omega
  have E10 : y_ev x (0, [(1, 1)]) = x 1 := by show ((0) : Int) + ((1) * x 1 + 0) = _; omega
  have E11 : y_ev x (1, []) = 1 := by show ((1) : Int) + 0 = _; omega
  have E12 : y_ev x ((-1), [(1, (-1)), (3, 1)]) = x 3 - x 1 - 1 := by show ((-1) : Int) + ((-1) * x 1 + ((1) * x 3 + 0)) = _; omega
  have E13 : y_ev x (5, [(1, (-1))]) = 5 - x 1 := by show ((5) : Int) + ((-1) * x 1 + 0) = _; omega
  have E14 : y_ev x ((-1), [(0, 1), (2, (-1))]) = x 0 - x 2 - 1 := by show ((-1) : Int) + ((1) * x 0 + ((-1) * x 2 + 0)) = _; omega
  have E15 : y_ev x (25, [(1, 1)]) = x 1 + 25 := by show ((25) : Int) + ((1) * x 1 + 0) = _; omega
  have E16 : y_ev x (0, [(2, 1)]) = x 2 := by show ((0) : Int) + ((1) * x 2 + 0) = _; omega
  have E17 : y_ev x (24, []) = 24 := by show ((24) : Int) + 0 = _; omega
  have E18 : y_ev x (0, [(3, 1)]) = x 3 := by show ((0) : Int) + ((1) * x 3 + 0) = _; omega
  have T0 : q_rwo v (y_ev x (0, [(4, 1)])) (y_ev x (0, [(5, 1)])) (y_ev x (0, [(6, 1)])) (y_ev x (0, [(7, 1)])) (y_ev x (0, [(8, 1)])) (y_ev x (0, [(9, 1)])) (y_ev x (0, [(10, 1)])) (y_ev x (0, [(11, 1)])) := h.2.2.2.1
  try rw [E0] at T0; try rw [E1] at T0; try rw [E2] at T0; try rw [E3] at T0; try rw [E4] at T0; try rw [E5] at T0; try rw [E6] at T0; try rw [E7] at T0
  have T1 : q_qry v (y_ev x (12, [])) (y_ev x (0, [(5, 1)])) (y_ev x (0, [(6, 1)])) (y_ev x (0, [(7, 1)])) (y_ev x (0, [(8, 1)])) (y_ev x (0, [(9, 1)])) (y_ev x (0, [(10, 1)])) (y_ev x (0, [(11, 1)])) (y_ev x (0, [(0, 1)])) (y_ev x (0, [(1, 1)])) (y_ev x (1, [])) := h.2.2.2.2.1
  try rw [E8] at T1; try rw [E1] at T1; try rw [E2] at T1; try rw [E3] at T1; try rw [E4] at T1; try rw [E5] at T1; try rw [E6] at T1; try rw [E7] at T1; try rw [E9] at T1; try rw [E10] at T1; try rw [E11] at T1
  have C0 : 0 ≤ y_ev x (0, [(1, 1)]) := h.2.1.1
  rw [E10] at C0
  have C1 : 0 ≤ y_ev x ((-1), [(1, (-1)), (3, 1)]) := h.2.1.2.1
  rw [E12] at C1
  have C2 : 0 ≤ y_ev x (5, [(1, (-1))]) := h.2.1.2.2.1
  rw [E13] at C2
  have C3 : 0 ≤ y_ev x ((-1), [(0, 1), (2, (-1))]) := h.2.1.2.2.2.1
  rw [E14] at C3
  have F0 : 0 ≤ y_ev x (25, [(1, 1)]) ∧ y_ev x (25, [(1, 1)]) < j_len 78 ∧ v 78 (y_ev x (25, [(1, 1)])) = y_ev x (0, [(2, 1)]) := h.2.2.1.1.1
  try rw [E15] at F0; try rw [E16] at F0
  have F1 : 0 ≤ y_ev x (24, []) ∧ y_ev x (24, []) < j_len 78 ∧ v 78 (y_ev x (24, [])) = y_ev x (0, [(3, 1)]) := h.2.2.1.2.1.1
  try rw [E17] at F1; try rw [E18] at F1
  have K := k_rplSa (V := v) (h := x 0) (i := x 1) (w := x 2) (p := x 3) (H := x 4) (q := x 5) (b := x 6) (s := x 7) (o := x 8) (a1 := x 9) (a2 := x 10) (a3 := x 11) T0 T1 C0 C1 C2 C3 F0 F1
  refine l_outH rfl (And.intro h.1 ?_)
  have O0 : y_ev x (12, []) = 12 := by show ((12) : Int) + 0 = _; omega
  have O1 : y_ev x (0, [(5, 1)]) = x 5 := by show ((0) : Int) + ((1) * x 5 + 0) = _; omega
  have O2 : y_ev x (0, [(6, 1)]) = x 6 := by show ((0) : Int) + ((1) * x 6 + 0) = _; omega
  have O3 : y_ev x (0, [(7, 1)]) = x 7 := by show ((0) : Int) + ((1) * x 7 + 0) = _; omega
  have O4 : y_ev x (0, [(8, 1)]) = x 8 := by show ((0) : Int) + ((1) * x 8 + 0) = _; omega
  have O5 : y_ev x (0, [(9, 1)]) = x 9 := by show ((0) : Int) + ((1) * x 9 + 0) = _; omega
  have O6 : y_ev x (0, [(10, 1)]) = x 10 := by show ((0) : Int) + ((1) * x 10 + 0) = _; omega
  have O7 : y_ev x (0, [(11, 1)]) = x 11 := by show ((0) : Int) + ((1) * x 11 + 0) = _; omega
  have O8 : y_ev x (0, [(0, 1)]) = x 0 := by show ((0) : Int) + ((1) * x 0 + 0) = _; omega
  have O9 : y_ev x (1, [(1, 1)]) = x 1 + 1 := by show ((1) : Int) + ((1) * x 1 + 0) = _; omega
  have O10 : y_ev x (1, []) = 1 := by show ((1) : Int) + 0 = _; omega
  show (True) ∧ (q_qry v (y_ev x (12, [])) (y_ev x (0, [(5, 1)])) (y_ev x (0, [(6, 1)])) (y_ev x (0, [(7, 1)])) (y_ev x (0, [(8, 1)])) (y_ev x (0, [(9, 1)])) (y_ev x (0, [(10, 1)])) (y_ev x (0, [(11, 1)])) (y_ev x (0, [(0, 1)])) (y_ev x (1, [(1, 1)])) (y_ev x (1, [])) ∧ True)
  try rw [O0]; try rw [O1]; try rw [O2]; try rw [O3]; try rw [O4]; try rw [O5]; try rw [O6]; try rw [O7]; try rw [O8]; try rw [O9]; try rw [O10]
  exact K
def lm_940 : zLem := (([((-2147483648), 2147483647), ((-2147483648), 2147483647), ((-2147483648), 2147483647), ((-2147483648), 2147483647), ((-2147483648), 2147483647), ((-2147483648), 2147483647), ((-2147483648), 2147483647), ((-2147483648), 2147483647), ((-2147483648), 2147483647), ((-2147483648), 2147483647), ((-2147483648), 2147483647), ((-2147483648), 2147483647)], [(78, false)], [(0, [(1, 1)]), ((-1), [(1, (-1)), (3, 1)]), (5, [(1, (-1))]), ((-1), [(0, (-1)), (2, 1)])], [], [(0, 0, 0, [(0, 1)]), (0, 0, 0, [(1, 1)])], [(0, (true, 0, 25, [(1, 1)]), 0, 0, 0, [(2, 1)]), (0, (true, 0, 24, []), 0, 0, 0, [(3, 1)])], [(237, [(0, [(4, 1)]), (0, [(5, 1)]), (0, [(6, 1)]), (0, [(7, 1)]), (0, [(8, 1)]), (0, [(9, 1)]), (0, [(10, 1)]), (0, [(11, 1)])]), (238, [(12, []), (0, [(5, 1)]), (0, [(6, 1)]), (0, [(7, 1)]), (0, [(8, 1)]), (0, [(9, 1)]), (0, [(10, 1)]), (0, [(11, 1)]), (0, [(0, 1)]), (0, [(1, 1)]), (1, [])])]), [([((-2147483648), 2147483647), ((-2147483648), 2147483647), ((-2147483648), 2147483647), ((-2147483648), 2147483647), ((-2147483648), 2147483647), ((-2147483648), 2147483647), ((-2147483648), 2147483647), ((-2147483648), 2147483647), ((-2147483648), 2147483647), ((-2147483648), 2147483647), ((-2147483648), 2147483647), ((-2147483648), 2147483647)], [(78, false)], [], [], [], [], [(238, [(12, []), (0, [(5, 1)]), (0, [(6, 1)]), (0, [(7, 1)]), (0, [(8, 1)]), (0, [(9, 1)]), (0, [(10, 1)]), (0, [(11, 1)]), (0, [(0, 1)]), (1, [(1, 1)]), (1, [])])])])
theorem lk_940 : l_core lm_940 := by
  intro v x h
  have E0 : y_ev x (0, [(4, 1)]) = x 4 := by show ((0) : Int) + ((1) * x 4 + 0) = _; omega
  have E1 : y_ev x (0, [(5, 1)]) = x 5 := by show ((0) : Int) + ((1) * x 5 + 0) = _; omega
  have E2 : y_ev x (0, [(6, 1)]) = x 6 := by show ((0) : Int) + ((1) * x 6 + 0) = _; omega
  have E3 : y_ev x (0, [(7, 1)]) = x 7 := by show ((0) : Int) + ((1) * x 7 + 0) = _; omega
  have E4 : y_ev x (0, [(8, 1)]) = x 8 := by show ((0) : Int) + ((1) * x 8 + 0) = _; omega
  have E5 : y_ev x (0, [(9, 1)]) = x 9 := by show ((0) : Int) + ((1) * x 9 + 0) = _; omega
  have E6 : y_ev x (0, [(10, 1)]) = x 10 := by show ((0) : Int) + ((1) * x 10 + 0) = _; omega
  have E7 : y_ev x (0, [(11, 1)]) = x 11 := by show ((0) : Int) + ((1) * x 11 + 0) = _; omega
  have E8 : y_ev x (12, []) = 12 := by show ((12) : Int) + 0 = _; omega
  have E9 : y_ev x (0, [(0, 1)]) = x 0 := by show ((0) : Int) + ((1) * x 0 + 0) = _; omega
  have E10 : y_ev x (0, [(1, 1)]) = x 1 := by show ((0) : Int) + ((1) * x 1 + 0) = _; omega
  have E11 : y_ev x (1, []) = 1 := by show ((1) : Int) + 0 = _; omega
  have E12 : y_ev x ((-1), [(1, (-1)), (3, 1)]) = x 3 - x 1 - 1 := by show ((-1) : Int) + ((-1) * x 1 + ((1) * x 3 + 0)) = _; omega
  have E13 : y_ev x (5, [(1, (-1))]) = 5 - x 1 := by show ((5) : Int) + ((-1) * x 1 + 0) = _; omega
  have E14 : y_ev x ((-1), [(0, (-1)), (2, 1)]) = x 2 - x 0 - 1 := by show ((-1) : Int) + ((-1) * x 0 + ((1) * x 2 + 0)) = _; omega
  have E15 : y_ev x (25, [(1, 1)]) = x 1 + 25 := by show ((25) : Int) + ((1) * x 1 + 0) = _; omega
  have E16 : y_ev x (0, [(2, 1)]) = x 2 := by show ((0) : Int) + ((1) * x 2 + 0) = _; omega
  have E17 : y_ev x (24, []) = 24 := by show ((24) : Int) + 0 = _; omega
  have E18 : y_ev x (0, [(3, 1)]) = x 3 := by show ((0) : Int) + ((1) * x 3 + 0) = _; omega
  have T0 : q_rwo v (y_ev x (0, [(4, 1)])) (y_ev x (0, [(5, 1)])) (y_ev x (0, [(6, 1)])) (y_ev x (0, [(7, 1)])) (y_ev x (0, [(8, 1)])) (y_ev x (0, [(9, 1)])) (y_ev x (0, [(10, 1)])) (y_ev x (0, [(11, 1)])) := h.2.2.2.1
  try rw [E0] at T0; try rw [E1] at T0; try rw [E2] at T0; try rw [E3] at T0; try rw [E4] at T0; try rw [E5] at T0; try rw [E6] at T0; try rw [E7] at T0
  have T1 : q_qry v (y_ev x (12, [])) (y_ev x (0, [(5, 1)])) (y_ev x (0, [(6, 1)])) (y_ev x (0, [(7, 1)])) (y_ev x (0, [(8, 1)])) (y_ev x (0, [(9, 1)])) (y_ev x (0, [(10, 1)])) (y_ev x (0, [(11, 1)])) (y_ev x (0, [(0, 1)])) (y_ev x (0, [(1, 1)])) (y_ev x (1, [])) := h.2.2.2.2.1
  try rw [E8] at T1; try rw [E1] at T1; try rw [E2] at T1; try rw [E3] at T1; try rw [E4] at T1; try rw [E5] at T1; try rw [E6] at T1; try rw [E7] at T1; try rw [E9] at T1; try rw [E10] at T1; try rw [E11] at T1
  have C0 : 0 ≤ y_ev x (0, [(1, 1)]) := h.2.1.1
  rw [E10] at C0
  have C1 : 0 ≤ y_ev x ((-1), [(1, (-1)), (3, 1)]) := h.2.1.2.1
  rw [E12] at C1
  have C2 : 0 ≤ y_ev x (5, [(1, (-1))]) := h.2.1.2.2.1
  rw [E13] at C2
  have C3 : 0 ≤ y_ev x ((-1), [(0, (-1)), (2, 1)]) := h.2.1.2.2.2.1
  rw [E14] at C3
  have F0 : 0 ≤ y_ev x (25, [(1, 1)]) ∧ y_ev x (25, [(1, 1)]) < j_len 78 ∧ v 78 (y_ev x (25, [(1, 1)])) = y_ev x (0, [(2, 1)]) := h.2.2.1.1.1
  try rw [E15] at F0; try rw [E16] at F0
  have F1 : 0 ≤ y_ev x (24, []) ∧ y_ev x (24, []) < j_len 78 ∧ v 78 (y_ev x (24, [])) = y_ev x (0, [(3, 1)]) := h.2.2.1.2.1.1
  try rw [E17] at F1; try rw [E18] at F1
  have K := k_rplSb (V := v) (h := x 0) (i := x 1) (w := x 2) (p := x 3) (H := x 4) (q := x 5) (b := x 6) (s := x 7) (o := x 8) (a1 := x 9) (a2 := x 10) (a3 := x 11) T0 T1 C0 C1 C2 C3 F0 F1
  refine l_outH rfl (And.intro h.1 ?_)
  have O0 : y_ev x (12, []) = 12 := by show ((12) : Int) + 0 = _; omega
  have O1 : y_ev x (0, [(5, 1)]) = x 5 := by show ((0) : Int) + ((1) * x 5 + 0) = _; omega
  have O2 : y_ev x (0, [(6, 1)]) = x 6 := by show ((0) : Int) + ((1) * x 6 + 0) = _; omega
  have O3 : y_ev x (0, [(7, 1)]) = x 7 := by show ((0) : Int) + ((1) * x 7 + 0) = _; omega
  have O4 : y_ev x (0, [(8, 1)]) = x 8 := by show ((0) : Int) + ((1) * x 8 + 0) = _; omega
  have O5 : y_ev x (0, [(9, 1)]) = x 9 := by show ((0) : Int) + ((1) * x 9 + 0) = _; omega
  have O6 : y_ev x (0, [(10, 1)]) = x 10 := by show ((0) : Int) + ((1) * x 10 + 0) = _; omega
  have O7 : y_ev x (0, [(11, 1)]) = x 11 := by show ((0) : Int) + ((1) * x 11 + 0) = _; omega
  have O8 : y_ev x (0, [(0, 1)]) = x 0 := by show ((0) : Int) + ((1) * x 0 + 0) = _; omega
  have O9 : y_ev x (1, [(1, 1)]) = x 1 + 1 := by show ((1) : Int) + ((1) * x 1 + 0) = _; omega
  have O10 : y_ev x (1, []) = 1 := by show ((1) : Int) + 0 = _; omega
  show (True) ∧ (q_qry v (y_ev x (12, [])) (y_ev x (0, [(5, 1)])) (y_ev x (0, [(6, 1)])) (y_ev x (0, [(7, 1)])) (y_ev x (0, [(8, 1)])) (y_ev x (0, [(9, 1)])) (y_ev x (0, [(10, 1)])) (y_ev x (0, [(11, 1)])) (y_ev x (0, [(0, 1)])) (y_ev x (1, [(1, 1)])) (y_ev x (1, [])) ∧ True)
  try rw [O0]; try rw [O1]; try rw [O2]; try rw [O3]; try rw [O4]; try rw [O5]; try rw [O6]; try rw [O7]; try rw [O8]; try rw [O9]; try rw [O10]
  exact K
def lm_941 : zLem := (([((-2147483648), 2147483647), ((-2147483648), 2147483647), ((-2147483648), 2147483647), ((-2147483648), 2147483647), ((-2147483648), 2147483647), ((-2147483648), 2147483647), ((-2147483648), 2147483647), ((-2147483648), 2147483647), ((-2147483648), 2147483647), ((-2147483648), 2147483647), ((-2147483648), 2147483647), ((-2147483648), 2147483647)], [(78, false)], [(0, [(1, 1)]), ((-1), [(1, (-1)), (3, 1)]), (5, [(1, (-1))]), (0, [(0, (-1)), (2, 1)]), (0, [(0, 1), (2, (-1))])], [], [(0, 0, 0, [(0, 1)]), (0, 0, 0, [(1, 1)])], [(0, (true, 0, 25, [(1, 1)]), 0, 0, 0, [(2, 1)]), (0, (true, 0, 24, []), 0, 0, 0, [(3, 1)])], [(237, [(0, [(4, 1)]), (0, [(5, 1)]), (0, [(6, 1)]), (0, [(7, 1)]), (0, [(8, 1)]), (0, [(9, 1)]), (0, [(10, 1)]), (0, [(11, 1)])]), (238, [(12, []), (0, [(5, 1)]), (0, [(6, 1)]), (0, [(7, 1)]), (0, [(8, 1)]), (0, [(9, 1)]), (0, [(10, 1)]), (0, [(11, 1)]), (0, [(0, 1)]), (0, [(1, 1)]), (1, [])])]), [([((-2147483648), 2147483647), ((-2147483648), 2147483647), ((-2147483648), 2147483647), ((-2147483648), 2147483647), ((-2147483648), 2147483647), ((-2147483648), 2147483647), ((-2147483648), 2147483647), ((-2147483648), 2147483647), ((-2147483648), 2147483647), ((-2147483648), 2147483647), ((-2147483648), 2147483647), ((-2147483648), 2147483647)], [(78, false)], [], [], [], [], [(238, [(6, []), (0, [(5, 1)]), (0, [(6, 1)]), (0, [(7, 1)]), (0, [(8, 1)]), (0, [(9, 1)]), (0, [(10, 1)]), (0, [(11, 1)]), (0, [(0, 1)]), (0, []), (0, [(1, 1)])])])])
theorem lk_941 : l_core lm_941 := by
  intro v x h
  have E0 : y_ev x (0, [(4, 1)]) = x 4 := by show ((0) : Int) + ((1) * x 4 + 0) = _; omega
  have E1 : y_ev x (0, [(5, 1)]) = x 5 := by show ((0) : Int) + ((1) * x 5 + 0) = _; omega
  have E2 : y_ev x (0, [(6, 1)]) = x 6 := by show ((0) : Int) + ((1) * x 6 + 0) = _; omega
  have E3 : y_ev x (0, [(7, 1)]) = x 7 := by show ((0) : Int) + ((1) * x 7 + 0) = _; omega
  have E4 : y_ev x (0, [(8, 1)]) = x 8 := by show ((0) : Int) + ((1) * x 8 + 0) = _; omega
  have E5 : y_ev x (0, [(9, 1)]) = x 9 := by show ((0) : Int) + ((1) * x 9 + 0) = _; omega
  have E6 : y_ev x (0, [(10, 1)]) = x 10 := by show ((0) : Int) + ((1) * x 10 + 0) = _; omega
  have E7 : y_ev x (0, [(11, 1)]) = x 11 := by show ((0) : Int) + ((1) * x 11 + 0) = _; omega
  have E8 : y_ev x (12, []) = 12 := by show ((12) : Int) + 0 = _; omega
  have E9 : y_ev x (0, [(0, 1)]) = x 0 := by show ((0) : Int) + ((1) * x 0 + 0) = _; omega
  have E10 : y_ev x (0, [(1, 1)]) = x 1 := by show ((0) : Int) + ((1) * x 1 + 0) = _; omega
  have E11 : y_ev x (1, []) = 1 := by show ((1) : Int) + 0 = _; omega
  have E12 : y_ev x ((-1), [(1, (-1)), (3, 1)]) = x 3 - x 1 - 1 := by show ((-1) : Int) + ((-1) * x 1 + ((1) * x 3 + 0)) = _; omega
  have E13 : y_ev x (5, [(1, (-1))]) = 5 - x 1 := by show ((5) : Int) + ((-1) * x 1 + 0) = _; omega
  have E14 : y_ev x (0, [(0, (-1)), (2, 1)]) = x 2 - x 0 := by show ((0) : Int) + ((-1) * x 0 + ((1) * x 2 + 0)) = _; omega
  have E15 : y_ev x (0, [(0, 1), (2, (-1))]) = x 0 - x 2 := by show ((0) : Int) + ((1) * x 0 + ((-1) * x 2 + 0)) = _; omega
  have E16 : y_ev x (25, [(1, 1)]) = x 1 + 25 := by show ((25) : Int) + ((1) * x 1 + 0) = _; omega
  have E17 : y_ev x (0, [(2, 1)]) = x 2 := by show ((0) : Int) + ((1) * x 2 + 0) = _; omega
  have E18 : y_ev x (24, []) = 24 := by show ((24) : Int) + 0 = _; omega
  have E19 : y_ev x (0, [(3, 1)]) = x 3 := by show ((0) : Int) + ((1) * x 3 + 0) = _; omega
  have T0 : q_rwo v (y_ev x (0, [(4, 1)])) (y_ev x (0, [(5, 1)])) (y_ev x (0, [(6, 1)])) (y_ev x (0, [(7, 1)])) (y_ev x (0, [(8, 1)])) (y_ev x (0, [(9, 1)])) (y_ev x (0, [(10, 1)])) (y_ev x (0, [(11, 1)])) := h.2.2.2.1
  try rw [E0] at T0; try rw [E1] at T0; try rw [E2] at T0; try rw [E3] at T0; try rw [E4] at T0; try rw [E5] at T0; try rw [E6] at T0; try rw [E7] at T0
  have T1 : q_qry v (y_ev x (12, [])) (y_ev x (0, [(5, 1)])) (y_ev x (0, [(6, 1)])) (y_ev x (0, [(7, 1)])) (y_ev x (0, [(8, 1)])) (y_ev x (0, [(9, 1)])) (y_ev x (0, [(10, 1)])) (y_ev x (0, [(11, 1)])) (y_ev x (0, [(0, 1)])) (y_ev x (0, [(1, 1)])) (y_ev x (1, [])) := h.2.2.2.2.1
  try rw [E8] at T1; try rw [E1] at T1; try rw [E2] at T1; try rw [E3] at T1; try rw [E4] at T1; try rw [E5] at T1; try rw [E6] at T1; try rw [E7] at T1; try rw [E9] at T1; try rw [E10] at T1; try rw [E11] at T1
  have C0 : 0 ≤ y_ev x (0, [(1, 1)]) := h.2.1.1
  rw [E10] at C0
  have C1 : 0 ≤ y_ev x ((-1), [(1, (-1)), (3, 1)]) := h.2.1.2.1
  rw [E12] at C1
  have C2 : 0 ≤ y_ev x (5, [(1, (-1))]) := h.2.1.2.2.1
  rw [E13] at C2
  have C3 : 0 ≤ y_ev x (0, [(0, (-1)), (2, 1)]) := h.2.1.2.2.2.1
  rw [E14] at C3
  have C4 : 0 ≤ y_ev x (0, [(0, 1), (2, (-1))]) := h.2.1.2.2.2.2.1
  rw [E15] at C4
  have F0 : 0 ≤ y_ev x (25, [(1, 1)]) ∧ y_ev x (25, [(1, 1)]) < j_len 78 ∧ v 78 (y_ev x (25, [(1, 1)])) = y_ev x (0, [(2, 1)]) := h.2.2.1.1.1
  try rw [E16] at F0; try rw [E17] at F0
  have F1 : 0 ≤ y_ev x (24, []) ∧ y_ev x (24, []) < j_len 78 ∧ v 78 (y_ev x (24, [])) = y_ev x (0, [(3, 1)]) := h.2.2.1.2.1.1
  try rw [E18] at F1; try rw [E19] at F1
  have K := k_rplY (V := v) (h := x 0) (i := x 1) (w := x 2) (p := x 3) (H := x 4) (q := x 5) (b := x 6) (s := x 7) (o := x 8) (a1 := x 9) (a2 := x 10) (a3 := x 11) T0 T1 C0 C1 C2 C3 C4 F0 F1
  refine l_outH rfl (And.intro h.1 ?_)
  have O0 : y_ev x (6, []) = 6 := by show ((6) : Int) + 0 = _; omega
  have O1 : y_ev x (0, [(5, 1)]) = x 5 := by show ((0) : Int) + ((1) * x 5 + 0) = _; omega
  have O2 : y_ev x (0, [(6, 1)]) = x 6 := by show ((0) : Int) + ((1) * x 6 + 0) = _; omega
  have O3 : y_ev x (0, [(7, 1)]) = x 7 := by show ((0) : Int) + ((1) * x 7 + 0) = _; omega
  have O4 : y_ev x (0, [(8, 1)]) = x 8 := by show ((0) : Int) + ((1) * x 8 + 0) = _; omega
  have O5 : y_ev x (0, [(9, 1)]) = x 9 := by show ((0) : Int) + ((1) * x 9 + 0) = _; omega
  have O6 : y_ev x (0, [(10, 1)]) = x 10 := by show ((0) : Int) + ((1) * x 10 + 0) = _; omega
  have O7 : y_ev x (0, [(11, 1)]) = x 11 := by show ((0) : Int) + ((1) * x 11 + 0) = _; omega
  have O8 : y_ev x (0, [(0, 1)]) = x 0 := by show ((0) : Int) + ((1) * x 0 + 0) = _; omega
  have O9 : y_ev x (0, []) = 0 := by show ((0) : Int) + 0 = _; omega
  have O10 : y_ev x (0, [(1, 1)]) = x 1 := by show ((0) : Int) + ((1) * x 1 + 0) = _; omega
  show (True) ∧ (q_qry v (y_ev x (6, [])) (y_ev x (0, [(5, 1)])) (y_ev x (0, [(6, 1)])) (y_ev x (0, [(7, 1)])) (y_ev x (0, [(8, 1)])) (y_ev x (0, [(9, 1)])) (y_ev x (0, [(10, 1)])) (y_ev x (0, [(11, 1)])) (y_ev x (0, [(0, 1)])) (y_ev x (0, [])) (y_ev x (0, [(1, 1)])) ∧ True)
  try rw [O0]; try rw [O1]; try rw [O2]; try rw [O3]; try rw [O4]; try rw [O5]; try rw [O6]; try rw [O7]; try rw [O8]; try rw [O9]; try rw [O10]
  exact K
def lm_942 : zLem := (([((-2147483648), 2147483647), ((-2147483648), 2147483647), ((-2147483648), 2147483647), ((-2147483648), 2147483647), ((-2147483648), 2147483647), ((-2147483648), 2147483647), ((-2147483648), 2147483647), ((-2147483648), 2147483647), ((-2147483648), 2147483647), ((-2147483648), 2147483647), ((-2147483648), 2147483647)], [(78, false)], [(0, [(1, 1), (2, (-1))]), (0, [(2, 1)]), (6, [(2, (-1))])], [], [(0, 0, 0, [(0, 1)]), (0, 0, 0, [(1, 1)])], [(0, (true, 0, 24, []), 0, 0, 0, [(2, 1)])], [(237, [(0, [(3, 1)]), (0, [(4, 1)]), (0, [(5, 1)]), (0, [(6, 1)]), (0, [(7, 1)]), (0, [(8, 1)]), (0, [(9, 1)]), (0, [(10, 1)])]), (238, [(12, []), (0, [(4, 1)]), (0, [(5, 1)]), (0, [(6, 1)]), (0, [(7, 1)]), (0, [(8, 1)]), (0, [(9, 1)]), (0, [(10, 1)]), (0, [(0, 1)]), (0, [(1, 1)]), (1, [])])]), [([((-2147483648), 2147483647), ((-2147483648), 2147483647), ((-2147483648), 2147483647), ((-2147483648), 2147483647), ((-2147483648), 2147483647), ((-2147483648), 2147483647), ((-2147483648), 2147483647), ((-2147483648), 2147483647), ((-2147483648), 2147483647), ((-2147483648), 2147483647), ((-2147483648), 2147483647)], [(78, false)], [], [], [], [], [(238, [(6, []), (0, [(4, 1)]), (0, [(5, 1)]), (0, [(6, 1)]), (0, [(7, 1)]), (0, [(8, 1)]), (0, [(9, 1)]), (0, [(10, 1)]), (0, [(0, 1)]), (0, []), ((-1), [])])])])
theorem lk_942 : l_core lm_942 := by
  intro v x h
  have E0 : y_ev x (0, [(3, 1)]) = x 3 := by show ((0) : Int) + ((1) * x 3 + 0) = _; omega
  have E1 : y_ev x (0, [(4, 1)]) = x 4 := by show ((0) : Int) + ((1) * x 4 + 0) = _; omega
  have E2 : y_ev x (0, [(5, 1)]) = x 5 := by show ((0) : Int) + ((1) * x 5 + 0) = _; omega
  have E3 : y_ev x (0, [(6, 1)]) = x 6 := by show ((0) : Int) + ((1) * x 6 + 0) = _; omega
  have E4 : y_ev x (0, [(7, 1)]) = x 7 := by show ((0) : Int) + ((1) * x 7 + 0) = _; omega
  have E5 : y_ev x (0, [(8, 1)]) = x 8 := by show ((0) : Int) + ((1) * x 8 + 0) = _; omega
  have E6 : y_ev x (0, [(9, 1)]) = x 9 := by show ((0) : Int) + ((1) * x 9 + 0) = _; omega
  have E7 : y_ev x (0, [(10, 1)]) = x 10 := by show ((0) : Int) + ((1) * x 10 + 0) = _; omega
  have E8 : y_ev x (12, []) = 12 := by show ((12) : Int) + 0 = _; omega
  have E9 : y_ev x (0, [(0, 1)]) = x 0 := by show ((0) : Int) + ((1) * x 0 + 0) = _; omega
  have E10 : y_ev x (0, [(1, 1)]) = x 1 := by show ((0) : Int) + ((1) * x 1 + 0) = _; omega
  have E11 : y_ev x (1, []) = 1 := by show ((1) : Int) + 0 = _; omega
  have E12 : y_ev x (0, [(1, 1), (2, (-1))]) = x 1 - x 2 := by show ((0) : Int) + ((1) * x 1 + ((-1) * x 2 + 0)) = _; omega
  have E13 : y_ev x (0, [(2, 1)]) = x 2 := by show ((0) : Int) + ((1) * x 2 + 0) = _; omega
  have E14 : y_ev x (6, [(2, (-1))]) = 6 - x 2 := by show ((6) : Int) + ((-1) * x 2 + 0) = _; omega
  have E15 : y_ev x (24, []) = 24 := by show ((24) : Int) + 0 = _; omega
  have T0 : q_rwo v (y_ev x (0, [(3, 1)])) (y_ev x (0, [(4, 1)])) (y_ev x (0, [(5, 1)])) (y_ev x (0, [(6, 1)])) (y_ev x (0, [(7, 1)])) (y_ev x (0, [(8, 1)])) (y_ev x (0, [(9, 1)])) (y_ev x (0, [(10, 1)])) := h.2.2.2.1
  try rw [E0] at T0; try rw [E1] at T0; try rw [E2] at T0; try rw [E3] at T0; try rw [E4] at T0; try rw [E5] at T0; try rw [E6] at T0; try rw [E7] at T0
  have T1 : q_qry v (y_ev x (12, [])) (y_ev x (0, [(4, 1)])) (y_ev x (0, [(5, 1)])) (y_ev x (0, [(6, 1)])) (y_ev x (0, [(7, 1)])) (y_ev x (0, [(8, 1)])) (y_ev x (0, [(9, 1)])) (y_ev x (0, [(10, 1)])) (y_ev x (0, [(0, 1)])) (y_ev x (0, [(1, 1)])) (y_ev x (1, [])) := h.2.2.2.2.1
  try rw [E8] at T1; try rw [E1] at T1; try rw [E2] at T1; try rw [E3] at T1; try rw [E4] at T1; try rw [E5] at T1; try rw [E6] at T1; try rw [E7] at T1; try rw [E9] at T1; try rw [E10] at T1; try rw [E11] at T1
  have C0 : 0 ≤ y_ev x (0, [(1, 1), (2, (-1))]) := h.2.1.1
  rw [E12] at C0
  have C1 : 0 ≤ y_ev x (0, [(2, 1)]) := h.2.1.2.1
  rw [E13] at C1
  have C2 : 0 ≤ y_ev x (6, [(2, (-1))]) := h.2.1.2.2.1
  rw [E14] at C2
  have F0 : 0 ≤ y_ev x (24, []) ∧ y_ev x (24, []) < j_len 78 ∧ v 78 (y_ev x (24, [])) = y_ev x (0, [(2, 1)]) := h.2.2.1.1.1
  try rw [E15] at F0; try rw [E13] at F0
  have K := k_rplN (V := v) (h := x 0) (i := x 1) (p := x 2) (H := x 3) (q := x 4) (b := x 5) (s := x 6) (o := x 7) (a1 := x 8) (a2 := x 9) (a3 := x 10) T0 T1 C0 C1 C2 F0
  refine l_outH rfl (And.intro h.1 ?_)
  have O0 : y_ev x (6, []) = 6 := by show ((6) : Int) + 0 = _; omega
  have O1 : y_ev x (0, [(4, 1)]) = x 4 := by show ((0) : Int) + ((1) * x 4 + 0) = _; omega
  have O2 : y_ev x (0, [(5, 1)]) = x 5 := by show ((0) : Int) + ((1) * x 5 + 0) = _; omega
  have O3 : y_ev x (0, [(6, 1)]) = x 6 := by show ((0) : Int) + ((1) * x 6 + 0) = _; omega
  have O4 : y_ev x (0, [(7, 1)]) = x 7 := by show ((0) : Int) + ((1) * x 7 + 0) = _; omega
  have O5 : y_ev x (0, [(8, 1)]) = x 8 := by show ((0) : Int) + ((1) * x 8 + 0) = _; omega
  have O6 : y_ev x (0, [(9, 1)]) = x 9 := by show ((0) : Int) + ((1) * x 9 + 0) = _; omega
  have O7 : y_ev x (0, [(10, 1)]) = x 10 := by show ((0) : Int) + ((1) * x 10 + 0) = _; omega
  have O8 : y_ev x (0, [(0, 1)]) = x 0 := by show ((0) : Int) + ((1) * x 0 + 0) = _; omega
  have O9 : y_ev x (0, []) = 0 := by show ((0) : Int) + 0 = _; omega
  have O10 : y_ev x ((-1), []) = (-1) := by show ((-1) : Int) + 0 = _; omega
  show (True) ∧ (q_qry v (y_ev x (6, [])) (y_ev x (0, [(4, 1)])) (y_ev x (0, [(5, 1)])) (y_ev x (0, [(6, 1)])) (y_ev x (0, [(7, 1)])) (y_ev x (0, [(8, 1)])) (y_ev x (0, [(9, 1)])) (y_ev x (0, [(10, 1)])) (y_ev x (0, [(0, 1)])) (y_ev x (0, [])) (y_ev x ((-1), [])) ∧ True)
  try rw [O0]; try rw [O1]; try rw [O2]; try rw [O3]; try rw [O4]; try rw [O5]; try rw [O6]; try rw [O7]; try rw [O8]; try rw [O9]; try rw [O10]
  exact K
def lm_943 : zLem := (([((-2147483648), 2147483647), ((-2147483648), 2147483647), ((-2147483648), 2147483647), ((-2147483648), 2147483647), ((-2147483648), 2147483647)], [], [(0, [(0, 1)]), (5, [(0, (-1))]), (0, [(1, 1)]), (5, [(1, (-1))])], [], [(0, 0, 0, [(0, 1)]), (0, 0, 0, [(1, 1)])], [], [(82, [(0, [(2, 1)]), (0, [(3, 1)]), (1, [])]), (84, [(0, [(0, 6), (1, 1), (2, 36)]), (0, [(4, 1)])])]), [([((-2147483648), 2147483647), ((-2147483648), 2147483647), ((-2147483648), 2147483647), ((-2147483648), 2147483647), ((-2147483648), 2147483647)], [], [], [], [], [], [(83, [(0, [(0, 6), (1, 1)]), (0, [(4, 1)])])])])
theorem lk_943 : l_core lm_943 := by
  intro v x h
  have E0 : y_ev x (0, [(2, 1)]) = x 2 := by show ((0) : Int) + ((1) * x 2 + 0) = _; omega
  have E1 : y_ev x (0, [(3, 1)]) = x 3 := by show ((0) : Int) + ((1) * x 3 + 0) = _; omega
  have E2 : y_ev x (1, []) = 1 := by show ((1) : Int) + 0 = _; omega
  have E3 : y_ev x (0, [(0, 6), (1, 1), (2, 36)]) = 6 * x 0 + x 1 + 36 * x 2 := by show ((0) : Int) + ((6) * x 0 + ((1) * x 1 + ((36) * x 2 + 0))) = _; omega
  have E4 : y_ev x (0, [(4, 1)]) = x 4 := by show ((0) : Int) + ((1) * x 4 + 0) = _; omega
  have E5 : y_ev x (0, [(0, 1)]) = x 0 := by show ((0) : Int) + ((1) * x 0 + 0) = _; omega
  have E6 : y_ev x (5, [(0, (-1))]) = 5 - x 0 := by show ((5) : Int) + ((-1) * x 0 + 0) = _; omega
  have E7 : y_ev x (0, [(1, 1)]) = x 1 := by show ((0) : Int) + ((1) * x 1 + 0) = _; omega
  have E8 : y_ev x (5, [(1, (-1))]) = 5 - x 1 := by show ((5) : Int) + ((-1) * x 1 + 0) = _; omega
  have T0 : (y_ev x (1, [])) = 1 → 0 ≤ (y_ev x (0, [(2, 1)])) ∧ 0 ≤ (y_ev x (0, [(3, 1)])) ∧ (y_ev x (0, [(2, 1)])) + (y_ev x (0, [(3, 1)])) = 1 ∧ q_66 fun a b => v 18 (6 * a + b) = v 60 (36 * (y_ev x (0, [(2, 1)])) + (6 * a + b)) := h.2.2.2.1
  try rw [E0] at T0; try rw [E1] at T0; try rw [E2] at T0
  have T1 : v 60 (y_ev x (0, [(0, 6), (1, 1), (2, 36)])) = (y_ev x (0, [(4, 1)])) := h.2.2.2.2.1
  try rw [E3] at T1; try rw [E4] at T1
  have C0 : 0 ≤ y_ev x (0, [(0, 1)]) := h.2.1.1
  rw [E5] at C0
  have C1 : 0 ≤ y_ev x (5, [(0, (-1))]) := h.2.1.2.1
  rw [E6] at C1
  have C2 : 0 ≤ y_ev x (0, [(1, 1)]) := h.2.1.2.2.1
  rw [E7] at C2
  have C3 : 0 ≤ y_ev x (5, [(1, (-1))]) := h.2.1.2.2.2.1
  rw [E8] at C3
  have K := k_mclv (V := v) (h := x 0) (g := x 1) (l := x 2) (x := x 3) (u := x 4) T0 T1 C0 C1 C2 C3
  refine l_outH rfl (And.intro h.1 ?_)
  have O0 : y_ev x (0, [(0, 6), (1, 1)]) = 6 * x 0 + x 1 := by show ((0) : Int) + ((6) * x 0 + ((1) * x 1 + 0)) = _; omega
  have O1 : y_ev x (0, [(4, 1)]) = x 4 := by show ((0) : Int) + ((1) * x 4 + 0) = _; omega
  show (True) ∧ ((v 18 (y_ev x (0, [(0, 6), (1, 1)])) = (y_ev x (0, [(4, 1)]))) ∧ True)
  try rw [O0]; try rw [O1]
  exact K
def lm_944 : zLem := (([((-2147483648), 2147483647), ((-2147483648), 2147483647), ((-2147483648), 2147483647), ((-2147483648), 2147483647), ((-2147483648), 2147483647), ((-2147483648), 2147483647), ((-2147483648), 2147483647), ((-2147483648), 2147483647), ((-2147483648), 2147483647), ((-2147483648), 2147483647), ((-2147483648), 2147483647), ((-2147483648), 2147483647)], [(78, false)], [(0, [(0, 1)]), ((-1), [(0, (-1)), (3, 1)]), (5, [(0, (-1))])], [], [(0, 0, 0, [(0, 1)])], [(0, (true, 0, 25, [(0, 1)]), 0, 0, 0, [(1, 1)]), (0, (true, 0, 24, []), 0, 0, 0, [(3, 1)]), (0, (true, 0, 6, [(1, 1)]), 0, 0, 0, [(2, 1)])], [(237, [(0, [(4, 1)]), (0, [(5, 1)]), (0, [(6, 1)]), (0, [(7, 1)]), (0, [(8, 1)]), (0, [(9, 1)]), (0, [(10, 1)]), (0, [(11, 1)])])]), [([((-2147483648), 2147483647), ((-2147483648), 2147483647), ((-2147483648), 2147483647), ((-2147483648), 2147483647), ((-2147483648), 2147483647), ((-2147483648), 2147483647), ((-2147483648), 2147483647), ((-2147483648), 2147483647), ((-2147483648), 2147483647), ((-2147483648), 2147483647), ((-2147483648), 2147483647), ((-2147483648), 2147483647)], [(78, false)], [((-1), [(2, 1)]), (99, [(2, (-1))])], [], [], [], [(238, [(19, []), (0, [(5, 1)]), (0, [(6, 1)]), (0, [(7, 1)]), (0, [(8, 1)]), (0, [(9, 1)]), (0, [(10, 1)]), (0, [(11, 1)]), (0, [(0, 1)]), (0, []), (0, [(2, 1)])])])])
theorem lk_944 : l_core lm_944 := by
  intro v x h
  have E0 : y_ev x (0, [(4, 1)]) = x 4 := by show ((0) : Int) + ((1) * x 4 + 0) = _; omega
  have E1 : y_ev x (0, [(5, 1)]) = x 5 := by show ((0) : Int) + ((1) * x 5 + 0) = _; omega
  have E2 : y_ev x (0, [(6, 1)]) = x 6 := by show ((0) : Int) + ((1) * x 6 + 0) = _; omega
  have E3 : y_ev x (0, [(7, 1)]) = x 7 := by show ((0) : Int) + ((1) * x 7 + 0) = _; omega
  have E4 : y_ev x (0, [(8, 1)]) = x 8 := by show ((0) : Int) + ((1) * x 8 + 0) = _; omega
  have E5 : y_ev x (0, [(9, 1)]) = x 9 := by show ((0) : Int) + ((1) * x 9 + 0) = _; omega
  have E6 : y_ev x (0, [(10, 1)]) = x 10 := by show ((0) : Int) + ((1) * x 10 + 0) = _; omega
  have E7 : y_ev x (0, [(11, 1)]) = x 11 := by show ((0) : Int) + ((1) * x 11 + 0) = _; omega
  have E8 : y_ev x (0, [(0, 1)]) = x 0 := by show ((0) : Int) + ((1) * x 0 + 0) = _; omega
  have E9 : y_ev x ((-1), [(0, (-1)), (3, 1)]) = x 3 - x 0 - 1 := by show ((-1) : Int) + ((-1) * x 0 + ((1) * x 3 + 0)) = _; omega
  have E10 : y_ev x (5, [(0, (-1))]) = 5 - x 0 := by show ((5) : Int) + ((-1) * x 0 + 0) = _; omega
  have E11 : y_ev x (25, [(0, 1)]) = x 0 + 25 := by show ((25) : Int) + ((1) * x 0 + 0) = _; omega
  have E12 : y_ev x (0, [(1, 1)]) = x 1 := by show ((0) : Int) + ((1) * x 1 + 0) = _; omega
  have E13 : y_ev x (24, []) = 24 := by show ((24) : Int) + 0 = _; omega
  have E14 : y_ev x (0, [(3, 1)]) = x 3 := by show ((0) : Int) + ((1) * x 3 + 0) = _; omega
  have E15 : y_ev x (6, [(1, 1)]) = x 1 + 6 := by show ((6) : Int) + ((1) * x 1 + 0) = _; omega
  have E16 : y_ev x (0, [(2, 1)]) = x 2 := by show ((0) : Int) + ((1) * x 2 + 0) = _; omega
  have T0 : q_rwo v (y_ev x (0, [(4, 1)])) (y_ev x (0, [(5, 1)])) (y_ev x (0, [(6, 1)])) (y_ev x (0, [(7, 1)])) (y_ev x (0, [(8, 1)])) (y_ev x (0, [(9, 1)])) (y_ev x (0, [(10, 1)])) (y_ev x (0, [(11, 1)])) := h.2.2.2.1
  try rw [E0] at T0; try rw [E1] at T0; try rw [E2] at T0; try rw [E3] at T0; try rw [E4] at T0; try rw [E5] at T0; try rw [E6] at T0; try rw [E7] at T0
  have C0 : 0 ≤ y_ev x (0, [(0, 1)]) := h.2.1.1
  rw [E8] at C0
  have C1 : 0 ≤ y_ev x ((-1), [(0, (-1)), (3, 1)]) := h.2.1.2.1
  rw [E9] at C1
  have C2 : 0 ≤ y_ev x (5, [(0, (-1))]) := h.2.1.2.2.1
  rw [E10] at C2
  have F0 : 0 ≤ y_ev x (25, [(0, 1)]) ∧ y_ev x (25, [(0, 1)]) < j_len 78 ∧ v 78 (y_ev x (25, [(0, 1)])) = y_ev x (0, [(1, 1)]) := h.2.2.1.1.1
  try rw [E11] at F0; try rw [E12] at F0
  have F1 : 0 ≤ y_ev x (24, []) ∧ y_ev x (24, []) < j_len 78 ∧ v 78 (y_ev x (24, [])) = y_ev x (0, [(3, 1)]) := h.2.2.1.2.1.1
  try rw [E13] at F1; try rw [E14] at F1
  have F2 : 0 ≤ y_ev x (6, [(1, 1)]) ∧ y_ev x (6, [(1, 1)]) < j_len 78 ∧ v 78 (y_ev x (6, [(1, 1)])) = y_ev x (0, [(2, 1)]) := h.2.2.1.2.2.1.1
  try rw [E15] at F2; try rw [E16] at F2
  have K := k_mlep (V := v) (k := x 0) (w := x 1) (x := x 2) (p := x 3) (H := x 4) (q := x 5) (b := x 6) (s := x 7) (o := x 8) (a1 := x 9) (a2 := x 10) (a3 := x 11) T0 C0 C1 C2 F0 F1 F2
  refine l_outH rfl (And.intro h.1 ?_)
  have O0 : y_ev x ((-1), [(2, 1)]) = x 2 - 1 := by show ((-1) : Int) + ((1) * x 2 + 0) = _; omega
  have O1 : y_ev x (99, [(2, (-1))]) = 99 - x 2 := by show ((99) : Int) + ((-1) * x 2 + 0) = _; omega
  have O2 : y_ev x (19, []) = 19 := by show ((19) : Int) + 0 = _; omega
  have O3 : y_ev x (0, [(5, 1)]) = x 5 := by show ((0) : Int) + ((1) * x 5 + 0) = _; omega
  have O4 : y_ev x (0, [(6, 1)]) = x 6 := by show ((0) : Int) + ((1) * x 6 + 0) = _; omega
  have O5 : y_ev x (0, [(7, 1)]) = x 7 := by show ((0) : Int) + ((1) * x 7 + 0) = _; omega
  have O6 : y_ev x (0, [(8, 1)]) = x 8 := by show ((0) : Int) + ((1) * x 8 + 0) = _; omega
  have O7 : y_ev x (0, [(9, 1)]) = x 9 := by show ((0) : Int) + ((1) * x 9 + 0) = _; omega
  have O8 : y_ev x (0, [(10, 1)]) = x 10 := by show ((0) : Int) + ((1) * x 10 + 0) = _; omega
  have O9 : y_ev x (0, [(11, 1)]) = x 11 := by show ((0) : Int) + ((1) * x 11 + 0) = _; omega
  have O10 : y_ev x (0, [(0, 1)]) = x 0 := by show ((0) : Int) + ((1) * x 0 + 0) = _; omega
  have O11 : y_ev x (0, []) = 0 := by show ((0) : Int) + 0 = _; omega
  have O12 : y_ev x (0, [(2, 1)]) = x 2 := by show ((0) : Int) + ((1) * x 2 + 0) = _; omega
  show (0 ≤ y_ev x ((-1), [(2, 1)]) ∧ 0 ≤ y_ev x (99, [(2, (-1))]) ∧ True) ∧ (q_qry v (y_ev x (19, [])) (y_ev x (0, [(5, 1)])) (y_ev x (0, [(6, 1)])) (y_ev x (0, [(7, 1)])) (y_ev x (0, [(8, 1)])) (y_ev x (0, [(9, 1)])) (y_ev x (0, [(10, 1)])) (y_ev x (0, [(11, 1)])) (y_ev x (0, [(0, 1)])) (y_ev x (0, [])) (y_ev x (0, [(2, 1)])) ∧ True)
  try rw [O0]; try rw [O1]; try rw [O2]; try rw [O3]; try rw [O4]; try rw [O5]; try rw [O6]; try rw [O7]; try rw [O8]; try rw [O9]; try rw [O10]; try rw [O11]; try rw [O12]
  exact K
def lm_945 : zLem := (([((-2147483648), 2147483647), ((-2147483648), 2147483647), ((-2147483648), 2147483647), ((-2147483648), 2147483647), ((-2147483648), 2147483647), ((-2147483648), 2147483647), ((-2147483648), 2147483647), ((-2147483648), 2147483647), ((-2147483648), 2147483647), ((-2147483648), 2147483647), ((-2147483648), 2147483647), ((-2147483648), 2147483647)], [(78, false)], [(0, [(0, 1)]), ((-1), [(0, (-1)), (3, 1)]), (5, [(0, (-1))])], [], [(0, 0, 0, [(0, 1)])], [(0, (true, 0, 25, [(0, 1)]), 0, 0, 0, [(1, 1)]), (0, (true, 0, 24, []), 0, 0, 0, [(3, 1)]), (0, (true, 0, 12, [(1, 1)]), 0, 0, 0, [(2, 1)])], [(237, [(0, [(4, 1)]), (0, [(5, 1)]), (0, [(6, 1)]), (0, [(7, 1)]), (0, [(8, 1)]), (0, [(9, 1)]), (0, [(10, 1)]), (0, [(11, 1)])])]), [([((-2147483648), 2147483647), ((-2147483648), 2147483647), ((-2147483648), 2147483647), ((-2147483648), 2147483647), ((-2147483648), 2147483647), ((-2147483648), 2147483647), ((-2147483648), 2147483647), ((-2147483648), 2147483647), ((-2147483648), 2147483647), ((-2147483648), 2147483647), ((-2147483648), 2147483647), ((-2147483648), 2147483647)], [(78, false)], [(0, [(2, 1)]), (99, [(2, (-1))])], [], [], [], [(238, [(18, []), (0, [(5, 1)]), (0, [(6, 1)]), (0, [(7, 1)]), (0, [(8, 1)]), (0, [(9, 1)]), (0, [(10, 1)]), (0, [(11, 1)]), (0, [(0, 1)]), (0, []), (0, [(2, 1)])])])])
theorem lk_945 : l_core lm_945 := by
  intro v x h
  have E0 : y_ev x (0, [(4, 1)]) = x 4 := by show ((0) : Int) + ((1) * x 4 + 0) = _; omega
  have E1 : y_ev x (0, [(5, 1)]) = x 5 := by show ((0) : Int) + ((1) * x 5 + 0) = _; omega
  have E2 : y_ev x (0, [(6, 1)]) = x 6 := by show ((0) : Int) + ((1) * x 6 + 0) = _; omega
  have E3 : y_ev x (0, [(7, 1)]) = x 7 := by show ((0) : Int) + ((1) * x 7 + 0) = _; omega
  have E4 : y_ev x (0, [(8, 1)]) = x 8 := by show ((0) : Int) + ((1) * x 8 + 0) = _; omega
  have E5 : y_ev x (0, [(9, 1)]) = x 9 := by show ((0) : Int) + ((1) * x 9 + 0) = _; omega
  have E6 : y_ev x (0, [(10, 1)]) = x 10 := by show ((0) : Int) + ((1) * x 10 + 0) = _; omega
  have E7 : y_ev x (0, [(11, 1)]) = x 11 := by show ((0) : Int) + ((1) * x 11 + 0) = _; omega
  have E8 : y_ev x (0, [(0, 1)]) = x 0 := by show ((0) : Int) + ((1) * x 0 + 0) = _; omega
  have E9 : y_ev x ((-1), [(0, (-1)), (3, 1)]) = x 3 - x 0 - 1 := by show ((-1) : Int) + ((-1) * x 0 + ((1) * x 3 + 0)) = _; omega
  have E10 : y_ev x (5, [(0, (-1))]) = 5 - x 0 := by show ((5) : Int) + ((-1) * x 0 + 0) = _; omega
  have E11 : y_ev x (25, [(0, 1)]) = x 0 + 25 := by show ((25) : Int) + ((1) * x 0 + 0) = _; omega
  have E12 : y_ev x (0, [(1, 1)]) = x 1 := by show ((0) : Int) + ((1) * x 1 + 0) = _; omega
  have E13 : y_ev x (24, []) = 24 := by show ((24) : Int) + 0 = _; omega
  have E14 : y_ev x (0, [(3, 1)]) = x 3 := by show ((0) : Int) + ((1) * x 3 + 0) = _; omega
  have E15 : y_ev x (12, [(1, 1)]) = x 1 + 12 := by show ((12) : Int) + ((1) * x 1 + 0) = _; omega
  have E16 : y_ev x (0, [(2, 1)]) = x 2 := by show ((0) : Int) + ((1) * x 2 + 0) = _; omega
  have T0 : q_rwo v (y_ev x (0, [(4, 1)])) (y_ev x (0, [(5, 1)])) (y_ev x (0, [(6, 1)])) (y_ev x (0, [(7, 1)])) (y_ev x (0, [(8, 1)])) (y_ev x (0, [(9, 1)])) (y_ev x (0, [(10, 1)])) (y_ev x (0, [(11, 1)])) := h.2.2.2.1
  try rw [E0] at T0; try rw [E1] at T0; try rw [E2] at T0; try rw [E3] at T0; try rw [E4] at T0; try rw [E5] at T0; try rw [E6] at T0; try rw [E7] at T0
  have C0 : 0 ≤ y_ev x (0, [(0, 1)]) := h.2.1.1
  rw [E8] at C0
  have C1 : 0 ≤ y_ev x ((-1), [(0, (-1)), (3, 1)]) := h.2.1.2.1
  rw [E9] at C1
  have C2 : 0 ≤ y_ev x (5, [(0, (-1))]) := h.2.1.2.2.1
  rw [E10] at C2
  have F0 : 0 ≤ y_ev x (25, [(0, 1)]) ∧ y_ev x (25, [(0, 1)]) < j_len 78 ∧ v 78 (y_ev x (25, [(0, 1)])) = y_ev x (0, [(1, 1)]) := h.2.2.1.1.1
  try rw [E11] at F0; try rw [E12] at F0
  have F1 : 0 ≤ y_ev x (24, []) ∧ y_ev x (24, []) < j_len 78 ∧ v 78 (y_ev x (24, [])) = y_ev x (0, [(3, 1)]) := h.2.2.1.2.1.1
  try rw [E13] at F1; try rw [E14] at F1
  have F2 : 0 ≤ y_ev x (12, [(1, 1)]) ∧ y_ev x (12, [(1, 1)]) < j_len 78 ∧ v 78 (y_ev x (12, [(1, 1)])) = y_ev x (0, [(2, 1)]) := h.2.2.1.2.2.1.1
  try rw [E15] at F2; try rw [E16] at F2
  have K := k_mstp (V := v) (k := x 0) (w := x 1) (x := x 2) (p := x 3) (H := x 4) (q := x 5) (b := x 6) (s := x 7) (o := x 8) (a1 := x 9) (a2 := x 10) (a3 := x 11) T0 C0 C1 C2 F0 F1 F2
  refine l_outH rfl (And.intro h.1 ?_)
  have O0 : y_ev x (0, [(2, 1)]) = x 2 := by show ((0) : Int) + ((1) * x 2 + 0) = _; omega
  have O1 : y_ev x (99, [(2, (-1))]) = 99 - x 2 := by show ((99) : Int) + ((-1) * x 2 + 0) = _; omega
  have O2 : y_ev x (18, []) = 18 := by show ((18) : Int) + 0 = _; omega
  have O3 : y_ev x (0, [(5, 1)]) = x 5 := by show ((0) : Int) + ((1) * x 5 + 0) = _; omega
  have O4 : y_ev x (0, [(6, 1)]) = x 6 := by show ((0) : Int) + ((1) * x 6 + 0) = _; omega
  have O5 : y_ev x (0, [(7, 1)]) = x 7 := by show ((0) : Int) + ((1) * x 7 + 0) = _; omega
  have O6 : y_ev x (0, [(8, 1)]) = x 8 := by show ((0) : Int) + ((1) * x 8 + 0) = _; omega
  have O7 : y_ev x (0, [(9, 1)]) = x 9 := by show ((0) : Int) + ((1) * x 9 + 0) = _; omega
  have O8 : y_ev x (0, [(10, 1)]) = x 10 := by show ((0) : Int) + ((1) * x 10 + 0) = _; omega
  have O9 : y_ev x (0, [(11, 1)]) = x 11 := by show ((0) : Int) + ((1) * x 11 + 0) = _; omega
  have O10 : y_ev x (0, [(0, 1)]) = x 0 := by show ((0) : Int) + ((1) * x 0 + 0) = _; omega
  have O11 : y_ev x (0, []) = 0 := by show ((0) : Int) + 0 = _; omega
  show (0 ≤ y_ev x (0, [(2, 1)]) ∧ 0 ≤ y_ev x (99, [(2, (-1))]) ∧ True) ∧ (q_qry v (y_ev x (18, [])) (y_ev x (0, [(5, 1)])) (y_ev x (0, [(6, 1)])) (y_ev x (0, [(7, 1)])) (y_ev x (0, [(8, 1)])) (y_ev x (0, [(9, 1)])) (y_ev x (0, [(10, 1)])) (y_ev x (0, [(11, 1)])) (y_ev x (0, [(0, 1)])) (y_ev x (0, [])) (y_ev x (0, [(2, 1)])) ∧ True)
  try rw [O0]; try rw [O1]; try rw [O2]; try rw [O3]; try rw [O4]; try rw [O5]; try rw [O6]; try rw [O7]; try rw [O8]; try rw [O9]; try rw [O10]; try rw [O11]
  exact K
def lm_947 : zLem := (([((-2147483648), 2147483647), ((-2147483648), 2147483647), ((-2147483648), 2147483647), ((-2147483648), 2147483647), ((-2147483648), 2147483647), ((-2147483648), 2147483647), ((-2147483648), 2147483647), ((-2147483648), 2147483647), ((-2147483648), 2147483647)], [], [(0, [(0, 1)])], [], [(0, 0, 0, [(0, 1)])], [], [(237, [(0, [(1, 1)]), (0, [(2, 1)]), (0, [(3, 1)]), (0, [(4, 1)]), (0, [(5, 1)]), (0, [(6, 1)]), (0, [(7, 1)]), (0, [(8, 1)])])]), [([((-2147483648), 2147483647), ((-2147483648), 2147483647), ((-2147483648), 2147483647), ((-2147483648), 2147483647), ((-2147483648), 2147483647), ((-2147483648), 2147483647), ((-2147483648), 2147483647), ((-2147483648), 2147483647), ((-2147483648), 2147483647)], [], [], [], [], [], [(238, [(1, []), (0, [(2, 1)]), (0, [(3, 1)]), (0, [(4, 1)]), (0, [(5, 1)]), (0, [(6, 1)]), (0, [(7, 1)]), (0, [(8, 1)]), (1, [(0, 1)]), (1, [(0, 1)]), (0, [])])])])
theorem lk_947 : l_core lm_947 := by
  intro v x h
  have E0 : y_ev x (0, [(1, 1)]) = x 1 := by show ((0) : Int) + ((1) * x 1 + 0) = _; omega
  have E1 : y_ev x (0, [(2, 1)]) = x 2 := by show ((0) : Int) + ((1) * x 2 + 0) = _; omega
  have E2 : y_ev x (0, [(3, 1)]) = x 3 := by show ((0) : Int) + ((1) * x 3 + 0) = _; omega
  have E3 : y_ev x (0, [(4, 1)]) = x 4 := by show ((0) : Int) + ((1) * x 4 + 0) = _; omega
  have E4 : y_ev x (0, [(5, 1)]) = x 5 := by show ((0) : Int) + ((1) * x 5 + 0) = _; omega
  have E5 : y_ev x (0, [(6, 1)]) = x 6 := by show ((0) : Int) + ((1) * x 6 + 0) = _; omega
  have E6 : y_ev x (0, [(7, 1)]) = x 7 := by show ((0) : Int) + ((1) * x 7 + 0) = _; omega
  have E7 : y_ev x (0, [(8, 1)]) = x 8 := by show ((0) : Int) + ((1) * x 8 + 0) = _; omega
  have E8 : y_ev x (0, [(0, 1)]) = x 0 := by show ((0) : Int) + ((1) * x 0 + 0) = _; omega
  have T0 : q_rwo v (y_ev x (0, [(1, 1)])) (y_ev x (0, [(2, 1)])) (y_ev x (0, [(3, 1)])) (y_ev x (0, [(4, 1)])) (y_ev x (0, [(5, 1)])) (y_ev x (0, [(6, 1)])) (y_ev x (0, [(7, 1)])) (y_ev x (0, [(8, 1)])) := h.2.2.2.1
  try rw [E0] at T0; try rw [E1] at T0; try rw [E2] at T0; try rw [E3] at T0; try rw [E4] at T0; try rw [E5] at T0; try rw [E6] at T0; try rw [E7] at T0
  have C0 : 0 ≤ y_ev x (0, [(0, 1)]) := h.2.1.1
  rw [E8] at C0
  have K := k_msum1 (V := v) (a := x 0) (H := x 1) (q := x 2) (b := x 3) (s := x 4) (o := x 5) (a1 := x 6) (a2 := x 7) (a3 := x 8) T0 C0
  refine l_outH rfl (And.intro h.1 ?_)
  have O0 : y_ev x (1, []) = 1 := by show ((1) : Int) + 0 = _; omega
  have O1 : y_ev x (0, [(2, 1)]) = x 2 := by show ((0) : Int) + ((1) * x 2 + 0) = _; omega
  have O2 : y_ev x (0, [(3, 1)]) = x 3 := by show ((0) : Int) + ((1) * x 3 + 0) = _; omega
  have O3 : y_ev x (0, [(4, 1)]) = x 4 := by show ((0) : Int) + ((1) * x 4 + 0) = _; omega
  have O4 : y_ev x (0, [(5, 1)]) = x 5 := by show ((0) : Int) + ((1) * x 5 + 0) = _; omega
  have O5 : y_ev x (0, [(6, 1)]) = x 6 := by show ((0) : Int) + ((1) * x 6 + 0) = _; omega
  have O6 : y_ev x (0, [(7, 1)]) = x 7 := by show ((0) : Int) + ((1) * x 7 + 0) = _; omega
  have O7 : y_ev x (0, [(8, 1)]) = x 8 := by show ((0) : Int) + ((1) * x 8 + 0) = _; omega
  have O8 : y_ev x (1, [(0, 1)]) = x 0 + 1 := by show ((1) : Int) + ((1) * x 0 + 0) = _; omega
  have O9 : y_ev x (0, []) = 0 := by show ((0) : Int) + 0 = _; omega
  show (True) ∧ (q_qry v (y_ev x (1, [])) (y_ev x (0, [(2, 1)])) (y_ev x (0, [(3, 1)])) (y_ev x (0, [(4, 1)])) (y_ev x (0, [(5, 1)])) (y_ev x (0, [(6, 1)])) (y_ev x (0, [(7, 1)])) (y_ev x (0, [(8, 1)])) (y_ev x (1, [(0, 1)])) (y_ev x (1, [(0, 1)])) (y_ev x (0, [])) ∧ True)
  try rw [O0]; try rw [O1]; try rw [O2]; try rw [O3]; try rw [O4]; try rw [O5]; try rw [O6]; try rw [O7]; try rw [O8]; try rw [O9]
  exact K
def lm_948 : zLem := (([((-2147483648), 2147483647), ((-2147483648), 2147483647), ((-2147483648), 2147483647)], [], [(0, [(0, 1)]), (1000, [(0, (-1))])], [], [(0, 0, 0, [(0, 1)])], [], [(107, [(0, [(0, 1)]), (2, []), (0, [(1, 1)])]), (108, [(0, [(0, 1)]), (2, []), (0, [(2, 1)])])]), [([((-2147483648), 2147483647), ((-2147483648), 2147483647), ((-2147483648), 2147483647)], [], [(0, [(0, 1), (1, (-2)), (2, (-1))]), (0, [(0, (-1)), (1, 2), (2, 1)]), (0, [(2, 1)]), (1, [(2, (-1))]), (0, [(1, 1)])], [], [], [], [])])
theorem lk_948 : l_core lm_948 := by
  intro v x h
  have E0 : y_ev x (0, [(0, 1)]) = x 0 := by show ((0) : Int) + ((1) * x 0 + 0) = _; omega
  have E1 : y_ev x (2, []) = 2 := by show ((2) : Int) + 0 = _; omega
  have E2 : y_ev x (0, [(1, 1)]) = x 1 := by show ((0) : Int) + ((1) * x 1 + 0) = _; omega
  have E3 : y_ev x (0, [(2, 1)]) = x 2 := by show ((0) : Int) + ((1) * x 2 + 0) = _; omega
  have E4 : y_ev x (1000, [(0, (-1))]) = 1000 - x 0 := by show ((1000) : Int) + ((-1) * x 0 + 0) = _; omega
  have T0 : (mOP 107 (Int32.ofInt (y_ev x (0, [(0, 1)]))) (Int32.ofInt (y_ev x (2, [])))).toInt = (y_ev x (0, [(1, 1)])) := h.2.2.2.1
  try rw [E0] at T0; try rw [E1] at T0; try rw [E2] at T0
  have T1 : (mOP 108 (Int32.ofInt (y_ev x (0, [(0, 1)]))) (Int32.ofInt (y_ev x (2, [])))).toInt = (y_ev x (0, [(2, 1)])) := h.2.2.2.2.1
  try rw [E0] at T1; try rw [E1] at T1; try rw [E3] at T1
  have C0 : 0 ≤ y_ev x (0, [(0, 1)]) := h.2.1.1
  rw [E0] at C0
  have C1 : 0 ≤ y_ev x (1000, [(0, (-1))]) := h.2.1.2.1
  rw [E4] at C1
  have K := k_dm2 (V := v) (k := x 0) (i := x 1) (r := x 2) T0 T1 C0 C1
  refine l_outH rfl (And.intro h.1 ?_)
  have O0 : y_ev x (0, [(0, 1), (1, (-2)), (2, (-1))]) = x 0 - 2 * x 1 - x 2 := by show ((0) : Int) + ((1) * x 0 + ((-2) * x 1 + ((-1) * x 2 + 0))) = _; omega
  have O1 : y_ev x (0, [(0, (-1)), (1, 2), (2, 1)]) = 2 * x 1 + x 2 - x 0 := by show ((0) : Int) + ((-1) * x 0 + ((2) * x 1 + ((1) * x 2 + 0))) = _; omega
  have O2 : y_ev x (0, [(2, 1)]) = x 2 := by show ((0) : Int) + ((1) * x 2 + 0) = _; omega
  have O3 : y_ev x (1, [(2, (-1))]) = 1 - x 2 := by show ((1) : Int) + ((-1) * x 2 + 0) = _; omega
  have O4 : y_ev x (0, [(1, 1)]) = x 1 := by show ((0) : Int) + ((1) * x 1 + 0) = _; omega
  show (0 ≤ y_ev x (0, [(0, 1), (1, (-2)), (2, (-1))]) ∧ 0 ≤ y_ev x (0, [(0, (-1)), (1, 2), (2, 1)]) ∧ 0 ≤ y_ev x (0, [(2, 1)]) ∧ 0 ≤ y_ev x (1, [(2, (-1))]) ∧ 0 ≤ y_ev x (0, [(1, 1)]) ∧ True) ∧ (True)
  try rw [O0]; try rw [O1]; try rw [O2]; try rw [O3]; try rw [O4]
  exact K
def lm_949 : zLem := (([((-2147483648), 2147483647), ((-2147483648), 2147483647), ((-2147483648), 2147483647), ((-2147483648), 2147483647), ((-2147483648), 2147483647), ((-2147483648), 2147483647), ((-2147483648), 2147483647), ((-2147483648), 2147483647), ((-2147483648), 2147483647), ((-2147483648), 2147483647), ((-2147483648), 2147483647), ((-2147483648), 2147483647), ((-2147483648), 2147483647), ((-2147483648), 2147483647)], [(78, false)], [(0, [(0, 1)]), ((-1), [(0, (-1)), (1, 1)]), (6, [(1, (-1))]), (0, [(2, 1), (3, (-1)), (4, 1)]), (0, [(2, (-1)), (3, 1), (4, (-1))]), ((-1), [(0, (-2)), (5, 1)]), (1, [(0, 2), (5, (-1))])], [], [(0, 0, 0, [(0, 1)]), (0, 0, 0, [(4, 1)]), (0, 0, 0, [(5, 1)])], [(0, (true, 0, 24, []), 0, 0, 0, [(1, 1)])], [(238, [(18, []), (0, [(6, 1)]), (0, [(7, 1)]), (0, [(8, 1)]), (0, [(9, 1)]), (0, [(10, 1)]), (0, [(11, 1)]), (0, [(12, 1)]), (0, [(0, 1)]), (0, []), (0, [(3, 1)])]), (238, [(1, []), (0, [(6, 1)]), (0, [(7, 1)]), (0, [(8, 1)]), (0, [(9, 1)]), (0, [(10, 1)]), (0, [(11, 1)]), (0, [(12, 1)]), (1, [(0, 1)]), (0, [(1, 1)]), (0, [(2, 1)])]), (237, [(0, [(13, 1)]), (0, [(6, 1)]), (0, [(7, 1)]), (0, [(8, 1)]), (0, [(9, 1)]), (0, [(10, 1)]), (0, [(11, 1)]), (0, [(12, 1)])])]), [([((-2147483648), 2147483647), ((-2147483648), 2147483647), ((-2147483648), 2147483647), ((-2147483648), 2147483647), ((-2147483648), 2147483647), ((-2147483648), 2147483647), ((-2147483648), 2147483647), ((-2147483648), 2147483647), ((-2147483648), 2147483647), ((-2147483648), 2147483647), ((-2147483648), 2147483647), ((-2147483648), 2147483647), ((-2147483648), 2147483647), ((-2147483648), 2147483647)], [(78, false)], [], [], [], [], [(238, [(2, []), (0, [(6, 1)]), (0, [(7, 1)]), (0, [(8, 1)]), (0, [(9, 1)]), (0, [(10, 1)]), (0, [(11, 1)]), (0, [(12, 1)]), (0, [(5, 1)]), (0, []), (0, [(4, 1)])])])])
theorem lk_949 : l_core lm_949 := by
  intro v x h
  have E0 : y_ev x (18, []) = 18 := by show ((18) : Int) + 0 = _; omega
  have E1 : y_ev x (0, [(6, 1)]) = x 6 := by show ((0) : Int) + ((1) * x 6 + 0) = _; omega
  have E2 : y_ev x (0, [(7, 1)]) = x 7 := by show ((0) : Int) + ((1) * x 7 + 0) = _; omega
  have E3 : y_ev x (0, [(8, 1)]) = x 8 := by show ((0) : Int) + ((1) * x 8 + 0) = _; omega
  have E4 : y_ev x (0, [(9, 1)]) = x 9 := by show ((0) : Int) + ((1) * x 9 + 0) = _; omega
  have E5 : y_ev x (0, [(10, 1)]) = x 10 := by show ((0) : Int) + ((1) * x 10 + 0) = _; omega
  have E6 : y_ev x (0, [(11, 1)]) = x 11 := by show ((0) : Int) + ((1) * x 11 + 0) = _; omega
  have E7 : y_ev x (0, [(12, 1)]) = x 12 := by show ((0) : Int) + ((1) * x 12 + 0) = _; omega
  have E8 : y_ev x (0, [(0, 1)]) = x 0 := by show ((0) : Int) + ((1) * x 0 + 0) = _; omega
  have E9 : y_ev x (0, []) = 0 := by show ((0) : Int) + 0 = _; omega
  have E10 : y_ev x (0, [(3, 1)]) = x 3 := by show ((0) : Int) + ((1) * x 3 + 0) = _; omega
  have E11 : y_ev x (1, []) = 1 := by show ((1) : Int) + 0 = _; omega
  have E12 : y_ev x (1, [(0, 1)]) = x 0 + 1 := by show ((1) : Int) + ((1) * x 0 + 0) = _; omega
  have E13 : y_ev x (0, [(1, 1)]) = x 1 := by show ((0) : Int) + ((1) * x 1 + 0) = _; omega
  have E14 : y_ev x (0, [(2, 1)]) = x 2 := by show ((0) : Int) + ((1) * x 2 + 0) = _; omega
  have E15 : y_ev x (0, [(13, 1)]) = x 13 := by show ((0) : Int) + ((1) * x 13 + 0) = _; omega
  have E16 : y_ev x ((-1), [(0, (-1)), (1, 1)]) = x 1 - x 0 - 1 := by show ((-1) : Int) + ((-1) * x 0 + ((1) * x 1 + 0)) = _; omega
  have E17 : y_ev x (6, [(1, (-1))]) = 6 - x 1 := by show ((6) : Int) + ((-1) * x 1 + 0) = _; omega
  have E18 : y_ev x (0, [(2, 1), (3, (-1)), (4, 1)]) = x 2 + x 4 - x 3 := by show ((0) : Int) + ((1) * x 2 + ((-1) * x 3 + ((1) * x 4 + 0))) = _; omega
  have E19 : y_ev x (0, [(2, (-1)), (3, 1), (4, (-1))]) = x 3 - x 2 - x 4 := by show ((0) : Int) + ((-1) * x 2 + ((1) * x 3 + ((-1) * x 4 + 0))) = _; omega
  have E20 : y_ev x ((-1), [(0, (-2)), (5, 1)]) = x 5 - 2 * x 0 - 1 := by show ((-1) : Int) + ((-2) * x 0 + ((1) * x 5 + 0)) = _; omega
  have E21 : y_ev x (1, [(0, 2), (5, (-1))]) = 2 * x 0 - x 5 + 1 := by show ((1) : Int) + ((2) * x 0 + ((-1) * x 5 + 0)) = _; omega
  have E22 : y_ev x (24, []) = 24 := by show ((24) : Int) + 0 = _; omega
  have T0 : q_qry v (y_ev x (18, [])) (y_ev x (0, [(6, 1)])) (y_ev x (0, [(7, 1)])) (y_ev x (0, [(8, 1)])) (y_ev x (0, [(9, 1)])) (y_ev x (0, [(10, 1)])) (y_ev x (0, [(11, 1)])) (y_ev x (0, [(12, 1)])) (y_ev x (0, [(0, 1)])) (y_ev x (0, [])) (y_ev x (0, [(3, 1)])) := h.2.2.2.1
  try rw [E0] at T0; try rw [E1] at T0; try rw [E2] at T0; try rw [E3] at T0; try rw [E4] at T0; try rw [E5] at T0; try rw [E6] at T0; try rw [E7] at T0; try rw [E8] at T0; try rw [E9] at T0; try rw [E10] at T0
  have T1 : q_qry v (y_ev x (1, [])) (y_ev x (0, [(6, 1)])) (y_ev x (0, [(7, 1)])) (y_ev x (0, [(8, 1)])) (y_ev x (0, [(9, 1)])) (y_ev x (0, [(10, 1)])) (y_ev x (0, [(11, 1)])) (y_ev x (0, [(12, 1)])) (y_ev x (1, [(0, 1)])) (y_ev x (0, [(1, 1)])) (y_ev x (0, [(2, 1)])) := h.2.2.2.2.1
  try rw [E11] at T1; try rw [E1] at T1; try rw [E2] at T1; try rw [E3] at T1; try rw [E4] at T1; try rw [E5] at T1; try rw [E6] at T1; try rw [E7] at T1; try rw [E12] at T1; try rw [E13] at T1; try rw [E14] at T1
  have T2 : q_rwo v (y_ev x (0, [(13, 1)])) (y_ev x (0, [(6, 1)])) (y_ev x (0, [(7, 1)])) (y_ev x (0, [(8, 1)])) (y_ev x (0, [(9, 1)])) (y_ev x (0, [(10, 1)])) (y_ev x (0, [(11, 1)])) (y_ev x (0, [(12, 1)])) := h.2.2.2.2.2.1
  try rw [E15] at T2; try rw [E1] at T2; try rw [E2] at T2; try rw [E3] at T2; try rw [E4] at T2; try rw [E5] at T2; try rw [E6] at T2; try rw [E7] at T2
  have C0 : 0 ≤ y_ev x (0, [(0, 1)]) := h.2.1.1
  rw [E8] at C0
  have C1 : 0 ≤ y_ev x ((-1), [(0, (-1)), (1, 1)]) := h.2.1.2.1
  rw [E16] at C1
  have C2 : 0 ≤ y_ev x (6, [(1, (-1))]) := h.2.1.2.2.1
  rw [E17] at C2
  have C3 : 0 ≤ y_ev x (0, [(2, 1), (3, (-1)), (4, 1)]) := h.2.1.2.2.2.1
  rw [E18] at C3
  have C4 : 0 ≤ y_ev x (0, [(2, (-1)), (3, 1), (4, (-1))]) := h.2.1.2.2.2.2.1
  rw [E19] at C4
  have C5 : 0 ≤ y_ev x ((-1), [(0, (-2)), (5, 1)]) := h.2.1.2.2.2.2.2.1
  rw [E20] at C5
  have C6 : 0 ≤ y_ev x (1, [(0, 2), (5, (-1))]) := h.2.1.2.2.2.2.2.2.1
  rw [E21] at C6
  have F0 : 0 ≤ y_ev x (24, []) ∧ y_ev x (24, []) < j_len 78 ∧ v 78 (y_ev x (24, [])) = y_ev x (0, [(1, 1)]) := h.2.2.1.1.1
  try rw [E22] at F0; try rw [E13] at F0
  have K := k_mspP (V := v) (i := x 0) (p := x 1) (z := x 2) (w := x 3) (u := x 4) (k := x 5) (q := x 6) (b := x 7) (s := x 8) (o := x 9) (a1 := x 10) (a2 := x 11) (a3 := x 12) (H := x 13) T0 T1 T2 C0 C1 C2 C3 C4 C5 C6 F0
  refine l_outH rfl (And.intro h.1 ?_)
  have O0 : y_ev x (2, []) = 2 := by show ((2) : Int) + 0 = _; omega
  have O1 : y_ev x (0, [(6, 1)]) = x 6 := by show ((0) : Int) + ((1) * x 6 + 0) = _; omega
  have O2 : y_ev x (0, [(7, 1)]) = x 7 := by show ((0) : Int) + ((1) * x 7 + 0) = _; omega
  have O3 : y_ev x (0, [(8, 1)]) = x 8 := by show ((0) : Int) + ((1) * x 8 + 0) = _; omega
  have O4 : y_ev x (0, [(9, 1)]) = x 9 := by show ((0) : Int) + ((1) * x 9 + 0) = _; omega
  have O5 : y_ev x (0, [(10, 1)]) = x 10 := by show ((0) : Int) + ((1) * x 10 + 0) = _; omega
  have O6 : y_ev x (0, [(11, 1)]) = x 11 := by show ((0) : Int) + ((1) * x 11 + 0) = _; omega
  have O7 : y_ev x (0, [(12, 1)]) = x 12 := by show ((0) : Int) + ((1) * x 12 + 0) = _; omega
  have O8 : y_ev x (0, [(5, 1)]) = x 5 := by show ((0) : Int) + ((1) * x 5 + 0) = _; omega
  have O9 : y_ev x (0, []) = 0 := by show ((0) : Int) + 0 = _; omega
  have O10 : y_ev x (0, [(4, 1)]) = x 4 := by show ((0) : Int) + ((1) * x 4 + 0) = _; omega
  show (True) ∧ (q_qry v (y_ev x (2, [])) (y_ev x (0, [(6, 1)])) (y_ev x (0, [(7, 1)])) (y_ev x (0, [(8, 1)])) (y_ev x (0, [(9, 1)])) (y_ev x (0, [(10, 1)])) (y_ev x (0, [(11, 1)])) (y_ev x (0, [(12, 1)])) (y_ev x (0, [(5, 1)])) (y_ev x (0, [])) (y_ev x (0, [(4, 1)])) ∧ True)
  try rw [O0]; try rw [O1]; try rw [O2]; try rw [O3]; try rw [O4]; try rw [O5]; try rw [O6]; try rw [O7]; try rw [O8]; try rw [O9]; try rw [O10]
  exact K
def lm_950 : zLem := (([((-2147483648), 2147483647), ((-2147483648), 2147483647), ((-2147483648), 2147483647), ((-2147483648), 2147483647), ((-2147483648), 2147483647), ((-2147483648), 2147483647), ((-2147483648), 2147483647), ((-2147483648), 2147483647), ((-2147483648), 2147483647), ((-2147483648), 2147483647), ((-2147483648), 2147483647), ((-2147483648), 2147483647), ((-2147483648), 2147483647), ((-2147483648), 2147483647), ((-2147483648), 2147483647)], [(78, false)], [((-1), [(0, 1)]), ((-1), [(0, (-1)), (1, 1)]), (6, [(1, (-1))]), (0, [(2, 1), (3, (-1)), (4, 1), (6, 1)]), (0, [(2, (-1)), (3, 1), (4, (-1)), (6, (-1))]), (0, [(0, (-2)), (5, 1)]), (0, [(0, 2), (5, (-1))])], [], [(0, 0, 0, [(0, 1)]), (0, 0, 0, [(4, 1)]), (0, 0, 0, [(5, 1)])], [(0, (true, 0, 24, []), 0, 0, 0, [(1, 1)])], [(238, [(17, []), (0, [(7, 1)]), (0, [(8, 1)]), (0, [(9, 1)]), (0, [(10, 1)]), (0, [(11, 1)]), (0, [(12, 1)]), (0, [(13, 1)]), (0, [(0, 1)]), (0, []), (0, [(3, 1)])]), (238, [(1, []), (0, [(7, 1)]), (0, [(8, 1)]), (0, [(9, 1)]), (0, [(10, 1)]), (0, [(11, 1)]), (0, [(12, 1)]), (0, [(13, 1)]), (1, [(0, 1)]), (0, [(1, 1)]), (0, [(2, 1)])]), (238, [(19, []), (0, [(7, 1)]), (0, [(8, 1)]), (0, [(9, 1)]), (0, [(10, 1)]), (0, [(11, 1)]), (0, [(12, 1)]), (0, [(13, 1)]), (0, [(0, 1)]), (0, []), (0, [(6, 1)])]), (237, [(0, [(14, 1)]), (0, [(7, 1)]), (0, [(8, 1)]), (0, [(9, 1)]), (0, [(10, 1)]), (0, [(11, 1)]), (0, [(12, 1)]), (0, [(13, 1)])])]), [([((-2147483648), 2147483647), ((-2147483648), 2147483647), ((-2147483648), 2147483647), ((-2147483648), 2147483647), ((-2147483648), 2147483647), ((-2147483648), 2147483647), ((-2147483648), 2147483647), ((-2147483648), 2147483647), ((-2147483648), 2147483647), ((-2147483648), 2147483647), ((-2147483648), 2147483647), ((-2147483648), 2147483647), ((-2147483648), 2147483647), ((-2147483648), 2147483647), ((-2147483648), 2147483647)], [(78, false)], [], [], [], [], [(238, [(2, []), (0, [(7, 1)]), (0, [(8, 1)]), (0, [(9, 1)]), (0, [(10, 1)]), (0, [(11, 1)]), (0, [(12, 1)]), (0, [(13, 1)]), (0, [(5, 1)]), (0, []), (0, [(4, 1)])])])])
theorem lk_950 : l_core lm_950 := by
  intro v x h
  have E0 : y_ev x (17, []) = 17 := by show ((17) : Int) + 0 = _; omega
  have E1 : y_ev x (0, [(7, 1)]) = x 7 := by show ((0) : Int) + ((1) * x 7 + 0) = _; omega
  have E2 : y_ev x (0, [(8, 1)]) = x 8 := by show ((0) : Int) + ((1) * x 8 + 0) = _; omega
  have E3 : y_ev x (0, [(9, 1)]) = x 9 := by show ((0) : Int) + ((1) * x 9 + 0) = _; omega
  have E4 : y_ev x (0, [(10, 1)]) = x 10 := by show ((0) : Int) + ((1) * x 10 + 0) = _; omega
  have E5 : y_ev x (0, [(11, 1)]) = x 11 := by show ((0) : Int) + ((1) * x 11 + 0) = _; omega
  have E6 : y_ev x (0, [(12, 1)]) = x 12 := by show ((0) : Int) + ((1) * x 12 + 0) = _; omega
  have E7 : y_ev x (0, [(13, 1)]) = x 13 := by show ((0) : Int) + ((1) * x 13 + 0) = _; omega
  have E8 : y_ev x (0, [(0, 1)]) = x 0 := by show ((0) : Int) + ((1) * x 0 + 0) = _; omega
  have E9 : y_ev x (0, []) = 0 := by show ((0) : Int) + 0 = _; omega
  have E10 : y_ev x (0, [(3, 1)]) = x 3 := by show ((0) : Int) + ((1) * x 3 + 0) = _; omega
  have E11 : y_ev x (1, []) = 1 := by show ((1) : Int) + 0 = _; omega
  have E12 : y_ev x (1, [(0, 1)]) = x 0 + 1 := by show ((1) : Int) + ((1) * x 0 + 0) = _; omega
  have E13 : y_ev x (0, [(1, 1)]) = x 1 := by show ((0) : Int) + ((1) * x 1 + 0) = _; omega
  have E14 : y_ev x (0, [(2, 1)]) = x 2 := by show ((0) : Int) + ((1) * x 2 + 0) = _; omega
  have E15 : y_ev x (19, []) = 19 := by show ((19) : Int) + 0 = _; omega
  have E16 : y_ev x (0, [(6, 1)]) = x 6 := by show ((0) : Int) + ((1) * x 6 + 0) = _; omega
  have E17 : y_ev x (0, [(14, 1)]) = x 14 := by show ((0) : Int) + ((1) * x 14 + 0) = _; omega
  have E18 : y_ev x ((-1), [(0, 1)]) = x 0 - 1 := by show ((-1) : Int) + ((1) * x 0 + 0) = _; omega
  have E19 : y_ev x ((-1), [(0, (-1)), (1, 1)]) = x 1 - x 0 - 1 := by show ((-1) : Int) + ((-1) * x 0 + ((1) * x 1 + 0)) = _; omega
  have E20 : y_ev x (6, [(1, (-1))]) = 6 - x 1 := by show ((6) : Int) + ((-1) * x 1 + 0) = _; omega
  have E21 : y_ev x (0, [(2, 1), (3, (-1)), (4, 1), (6, 1)]) = x 2 + x 4 + x 6 - x 3 := by show ((0) : Int) + ((1) * x 2 + ((-1) * x 3 + ((1) * x 4 + ((1) * x 6 + 0)))) = _; omega
  have E22 : y_ev x (0, [(2, (-1)), (3, 1), (4, (-1)), (6, (-1))]) = x 3 - x 2 - x 4 - x 6 := by show ((0) : Int) + ((-1) * x 2 + ((1) * x 3 + ((-1) * x 4 + ((-1) * x 6 + 0)))) = _; omega
  have E23 : y_ev x (0, [(0, (-2)), (5, 1)]) = x 5 - 2 * x 0 := by show ((0) : Int) + ((-2) * x 0 + ((1) * x 5 + 0)) = _; omega
  have E24 : y_ev x (0, [(0, 2), (5, (-1))]) = 2 * x 0 - x 5 := by show ((0) : Int) + ((2) * x 0 + ((-1) * x 5 + 0)) = _; omega
  have E25 : y_ev x (24, []) = 24 := by show ((24) : Int) + 0 = _; omega
  have T0 : q_qry v (y_ev x (17, [])) (y_ev x (0, [(7, 1)])) (y_ev x (0, [(8, 1)])) (y_ev x (0, [(9, 1)])) (y_ev x (0, [(10, 1)])) (y_ev x (0, [(11, 1)])) (y_ev x (0, [(12, 1)])) (y_ev x (0, [(13, 1)])) (y_ev x (0, [(0, 1)])) (y_ev x (0, [])) (y_ev x (0, [(3, 1)])) := h.2.2.2.1
  try rw [E0] at T0; try rw [E1] at T0; try rw [E2] at T0; try rw [E3] at T0; try rw [E4] at T0; try rw [E5] at T0; try rw [E6] at T0; try rw [E7] at T0; try rw [E8] at T0; try rw [E9] at T0; try rw [E10] at T0
  have T1 : q_qry v (y_ev x (1, [])) (y_ev x (0, [(7, 1)])) (y_ev x (0, [(8, 1)])) (y_ev x (0, [(9, 1)])) (y_ev x (0, [(10, 1)])) (y_ev x (0, [(11, 1)])) (y_ev x (0, [(12, 1)])) (y_ev x (0, [(13, 1)])) (y_ev x (1, [(0, 1)])) (y_ev x (0, [(1, 1)])) (y_ev x (0, [(2, 1)])) := h.2.2.2.2.1
  try rw [E11] at T1; try rw [E1] at T1; try rw [E2] at T1; try rw [E3] at T1; try rw [E4] at T1; try rw [E5] at T1; try rw [E6] at T1; try rw [E7] at T1; try rw [E12] at T1; try rw [E13] at T1; try rw [E14] at T1
  have T2 : q_qry v (y_ev x (19, [])) (y_ev x (0, [(7, 1)])) (y_ev x (0, [(8, 1)])) (y_ev x (0, [(9, 1)])) (y_ev x (0, [(10, 1)])) (y_ev x (0, [(11, 1)])) (y_ev x (0, [(12, 1)])) (y_ev x (0, [(13, 1)])) (y_ev x (0, [(0, 1)])) (y_ev x (0, [])) (y_ev x (0, [(6, 1)])) := h.2.2.2.2.2.1
  try rw [E15] at T2; try rw [E1] at T2; try rw [E2] at T2; try rw [E3] at T2; try rw [E4] at T2; try rw [E5] at T2; try rw [E6] at T2; try rw [E7] at T2; try rw [E8] at T2; try rw [E9] at T2; try rw [E16] at T2
  have T3 : q_rwo v (y_ev x (0, [(14, 1)])) (y_ev x (0, [(7, 1)])) (y_ev x (0, [(8, 1)])) (y_ev x (0, [(9, 1)])) (y_ev x (0, [(10, 1)])) (y_ev x (0, [(11, 1)])) (y_ev x (0, [(12, 1)])) (y_ev x (0, [(13, 1)])) := h.2.2.2.2.2.2.1
  try rw [E17] at T3; try rw [E1] at T3; try rw [E2] at T3; try rw [E3] at T3; try rw [E4] at T3; try rw [E5] at T3; try rw [E6] at T3; try rw [E7] at T3
  have C0 : 0 ≤ y_ev x ((-1), [(0, 1)]) := h.2.1.1
  rw [E18] at C0
  have C1 : 0 ≤ y_ev x ((-1), [(0, (-1)), (1, 1)]) := h.2.1.2.1
  rw [E19] at C1
  have C2 : 0 ≤ y_ev x (6, [(1, (-1))]) := h.2.1.2.2.1
  rw [E20] at C2
  have C3 : 0 ≤ y_ev x (0, [(2, 1), (3, (-1)), (4, 1), (6, 1)]) := h.2.1.2.2.2.1
  rw [E21] at C3
  have C4 : 0 ≤ y_ev x (0, [(2, (-1)), (3, 1), (4, (-1)), (6, (-1))]) := h.2.1.2.2.2.2.1
  rw [E22] at C4
  have C5 : 0 ≤ y_ev x (0, [(0, (-2)), (5, 1)]) := h.2.1.2.2.2.2.2.1
  rw [E23] at C5
  have C6 : 0 ≤ y_ev x (0, [(0, 2), (5, (-1))]) := h.2.1.2.2.2.2.2.2.1
  rw [E24] at C6
  have F0 : 0 ≤ y_ev x (24, []) ∧ y_ev x (24, []) < j_len 78 ∧ v 78 (y_ev x (24, [])) = y_ev x (0, [(1, 1)]) := h.2.2.1.1.1
  try rw [E25] at F0; try rw [E13] at F0
  have K := k_mspJ (V := v) (i := x 0) (p := x 1) (z := x 2) (w := x 3) (u := x 4) (k := x 5) (l := x 6) (q := x 7) (b := x 8) (s := x 9) (o := x 10) (a1 := x 11) (a2 := x 12) (a3 := x 13) (H := x 14) T0 T1 T2 T3 C0 C1 C2 C3 C4 C5 C6 F0
  refine l_outH rfl (And.intro h.1 ?_)
  have O0 : y_ev x (2, []) = 2 := by show ((2) : Int) + 0 = _; omega
  have O1 : y_ev x (0, [(7, 1)]) = x 7 := by show ((0) : Int) + ((1) * x 7 + 0) = _; omega
  have O2 : y_ev x (0, [(8, 1)]) = x 8 := by show ((0) : Int) + ((1) * x 8 + 0) = _; omega
  have O3 : y_ev x (0, [(9, 1)]) = x 9 := by show ((0) : Int) + ((1) * x 9 + 0) = _; omega
  have O4 : y_ev x (0, [(10, 1)]) = x 10 := by show ((0) : Int) + ((1) * x 10 + 0) = _; omega
  have O5 : y_ev x (0, [(11, 1)]) = x 11 := by show ((0) : Int) + ((1) * x 11 + 0) = _; omega
  have O6 : y_ev x (0, [(12, 1)]) = x 12 := by show ((0) : Int) + ((1) * x 12 + 0) = _; omega
  have O7 : y_ev x (0, [(13, 1)]) = x 13 := by show ((0) : Int) + ((1) * x 13 + 0) = _; omega
  have O8 : y_ev x (0, [(5, 1)]) = x 5 := by show ((0) : Int) + ((1) * x 5 + 0) = _; omega
  have O9 : y_ev x (0, []) = 0 := by show ((0) : Int) + 0 = _; omega
  have O10 : y_ev x (0, [(4, 1)]) = x 4 := by show ((0) : Int) + ((1) * x 4 + 0) = _; omega
  show (True) ∧ (q_qry v (y_ev x (2, [])) (y_ev x (0, [(7, 1)])) (y_ev x (0, [(8, 1)])) (y_ev x (0, [(9, 1)])) (y_ev x (0, [(10, 1)])) (y_ev x (0, [(11, 1)])) (y_ev x (0, [(12, 1)])) (y_ev x (0, [(13, 1)])) (y_ev x (0, [(5, 1)])) (y_ev x (0, [])) (y_ev x (0, [(4, 1)])) ∧ True)
  try rw [O0]; try rw [O1]; try rw [O2]; try rw [O3]; try rw [O4]; try rw [O5]; try rw [O6]; try rw [O7]; try rw [O8]; try rw [O9]; try rw [O10]
  exact K
def lm_951 : zLem := (([((-2147483648), 2147483647), ((-2147483648), 2147483647), ((-2147483648), 2147483647), ((-2147483648), 2147483647), ((-2147483648), 2147483647), ((-2147483648), 2147483647), ((-2147483648), 2147483647), ((-2147483648), 2147483647), ((-2147483648), 2147483647), ((-2147483648), 2147483647)], [], [(0, [(0, 1)]), (0, [(0, (-1))]), ((-9999), [(1, 1)]), (9999, [(1, (-1))])], [], [(0, 0, 0, [(0, 1)]), (0, 0, 0, [(1, 1)])], [], [(237, [(0, [(2, 1)]), (0, [(3, 1)]), (0, [(4, 1)]), (0, [(5, 1)]), (0, [(6, 1)]), (0, [(7, 1)]), (0, [(8, 1)]), (0, [(9, 1)])])]), [([((-2147483648), 2147483647), ((-2147483648), 2147483647), ((-2147483648), 2147483647), ((-2147483648), 2147483647), ((-2147483648), 2147483647), ((-2147483648), 2147483647), ((-2147483648), 2147483647), ((-2147483648), 2147483647), ((-2147483648), 2147483647), ((-2147483648), 2147483647)], [], [], [], [], [], [(238, [(2, []), (0, [(3, 1)]), (0, [(4, 1)]), (0, [(5, 1)]), (0, [(6, 1)]), (0, [(7, 1)]), (0, [(8, 1)]), (0, [(9, 1)]), (0, [(0, 1)]), (0, []), (0, [(1, 1)])])])])
theorem lk_951 : l_core lm_951 := by
  intro v x h
  have E0 : y_ev x (0, [(2, 1)]) = x 2 := by show ((0) : Int) + ((1) * x 2 + 0) = _; omega
  have E1 : y_ev x (0, [(3, 1)]) = x 3 := by show ((0) : Int) + ((1) * x 3 + 0) = _; omega
  have E2 : y_ev x (0, [(4, 1)]) = x 4 := by show ((0) : Int) + ((1) * x 4 + 0) = _; omega
  have E3 : y_ev x (0, [(5, 1)]) = x 5 := by show ((0) : Int) + ((1) * x 5 + 0) = _; omega
  have E4 : y_ev x (0, [(6, 1)]) = x 6 := by show ((0) : Int) + ((1) * x 6 + 0) = _; omega
  have E5 : y_ev x (0, [(7, 1)]) = x 7 := by show ((0) : Int) + ((1) * x 7 + 0) = _; omega
  have E6 : y_ev x (0, [(8, 1)]) = x 8 := by show ((0) : Int) + ((1) * x 8 + 0) = _; omega
  have E7 : y_ev x (0, [(9, 1)]) = x 9 := by show ((0) : Int) + ((1) * x 9 + 0) = _; omega
  have E8 : y_ev x (0, [(0, 1)]) = x 0 := by show ((0) : Int) + ((1) * x 0 + 0) = _; omega
  have E9 : y_ev x (0, [(0, (-1))]) = -x 0 := by show ((0) : Int) + ((-1) * x 0 + 0) = _; omega
  have E10 : y_ev x ((-9999), [(1, 1)]) = x 1 - 9999 := by show ((-9999) : Int) + ((1) * x 1 + 0) = _; omega
  have E11 : y_ev x (9999, [(1, (-1))]) = 9999 - x 1 := by show ((9999) : Int) + ((-1) * x 1 + 0) = _; omega
  have T0 : q_rwo v (y_ev x (0, [(2, 1)])) (y_ev x (0, [(3, 1)])) (y_ev x (0, [(4, 1)])) (y_ev x (0, [(5, 1)])) (y_ev x (0, [(6, 1)])) (y_ev x (0, [(7, 1)])) (y_ev x (0, [(8, 1)])) (y_ev x (0, [(9, 1)])) := h.2.2.2.1
  try rw [E0] at T0; try rw [E1] at T0; try rw [E2] at T0; try rw [E3] at T0; try rw [E4] at T0; try rw [E5] at T0; try rw [E6] at T0; try rw [E7] at T0
  have C0 : 0 ≤ y_ev x (0, [(0, 1)]) := h.2.1.1
  rw [E8] at C0
  have C1 : 0 ≤ y_ev x (0, [(0, (-1))]) := h.2.1.2.1
  rw [E9] at C1
  have C2 : 0 ≤ y_ev x ((-9999), [(1, 1)]) := h.2.1.2.2.1
  rw [E10] at C2
  have C3 : 0 ≤ y_ev x (9999, [(1, (-1))]) := h.2.1.2.2.2.1
  rw [E11] at C3
  have K := k_msp0 (V := v) (k := x 0) (u := x 1) (H := x 2) (q := x 3) (b := x 4) (s := x 5) (o := x 6) (a1 := x 7) (a2 := x 8) (a3 := x 9) T0 C0 C1 C2 C3
  refine l_outH rfl (And.intro h.1 ?_)
  have O0 : y_ev x (2, []) = 2 := by show ((2) : Int) + 0 = _; omega
  have O1 : y_ev x (0, [(3, 1)]) = x 3 := by show ((0) : Int) + ((1) * x 3 + 0) = _; omega
  have O2 : y_ev x (0, [(4, 1)]) = x 4 := by show ((0) : Int) + ((1) * x 4 + 0) = _; omega
  have O3 : y_ev x (0, [(5, 1)]) = x 5 := by show ((0) : Int) + ((1) * x 5 + 0) = _; omega
  have O4 : y_ev x (0, [(6, 1)]) = x 6 := by show ((0) : Int) + ((1) * x 6 + 0) = _; omega
  have O5 : y_ev x (0, [(7, 1)]) = x 7 := by show ((0) : Int) + ((1) * x 7 + 0) = _; omega
  have O6 : y_ev x (0, [(8, 1)]) = x 8 := by show ((0) : Int) + ((1) * x 8 + 0) = _; omega
  have O7 : y_ev x (0, [(9, 1)]) = x 9 := by show ((0) : Int) + ((1) * x 9 + 0) = _; omega
  have O8 : y_ev x (0, [(0, 1)]) = x 0 := by show ((0) : Int) + ((1) * x 0 + 0) = _; omega
  have O9 : y_ev x (0, []) = 0 := by show ((0) : Int) + 0 = _; omega
  have O10 : y_ev x (0, [(1, 1)]) = x 1 := by show ((0) : Int) + ((1) * x 1 + 0) = _; omega
  show (True) ∧ (q_qry v (y_ev x (2, [])) (y_ev x (0, [(3, 1)])) (y_ev x (0, [(4, 1)])) (y_ev x (0, [(5, 1)])) (y_ev x (0, [(6, 1)])) (y_ev x (0, [(7, 1)])) (y_ev x (0, [(8, 1)])) (y_ev x (0, [(9, 1)])) (y_ev x (0, [(0, 1)])) (y_ev x (0, [])) (y_ev x (0, [(1, 1)])) ∧ True)
  try rw [O0]; try rw [O1]; try rw [O2]; try rw [O3]; try rw [O4]; try rw [O5]; try rw [O6]; try rw [O7]; try rw [O8]; try rw [O9]; try rw [O10]
  exact K
def lm_952 : zLem := (([((-2147483648), 2147483647), ((-2147483648), 2147483647), ((-2147483648), 2147483647), ((-2147483648), 2147483647), ((-2147483648), 2147483647), ((-2147483648), 2147483647), ((-2147483648), 2147483647), ((-2147483648), 2147483647), ((-2147483648), 2147483647), ((-2147483648), 2147483647), ((-2147483648), 2147483647), ((-2147483648), 2147483647), ((-2147483648), 2147483647)], [(78, false)], [((-1), [(0, 1)]), ((-1), [(0, (-1)), (4, 1)]), (5, [(0, (-1))])], [], [(0, 0, 0, [(0, 1)]), (0, 0, 0, [(2, 1)]), (0, 0, 0, [(3, 1)])], [(0, (true, 0, 24, [(0, 1)]), 0, 0, 0, [(1, 1)]), (0, (true, 0, 25, [(0, 1)]), 0, 0, 0, [(2, 1)]), (0, (true, 0, 24, []), 0, 0, 0, [(4, 1)])], [(238, [(5, []), (0, [(5, 1)]), (0, [(6, 1)]), (0, [(7, 1)]), (0, [(8, 1)]), (0, [(9, 1)]), (0, [(10, 1)]), (0, [(11, 1)]), (0, [(1, 1)]), (0, [(2, 1)]), (0, [(3, 1)])]), (237, [(0, [(12, 1)]), (0, [(5, 1)]), (0, [(6, 1)]), (0, [(7, 1)]), (0, [(8, 1)]), (0, [(9, 1)]), (0, [(10, 1)]), (0, [(11, 1)])])]), [([((-2147483648), 2147483647), ((-2147483648), 2147483647), ((-2147483648), 2147483647), ((-2147483648), 2147483647), ((-2147483648), 2147483647), ((-2147483648), 2147483647), ((-2147483648), 2147483647), ((-2147483648), 2147483647), ((-2147483648), 2147483647), ((-2147483648), 2147483647), ((-2147483648), 2147483647), ((-2147483648), 2147483647), ((-2147483648), 2147483647)], [(78, false)], [], [], [], [], [(238, [(17, []), (0, [(5, 1)]), (0, [(6, 1)]), (0, [(7, 1)]), (0, [(8, 1)]), (0, [(9, 1)]), (0, [(10, 1)]), (0, [(11, 1)]), (0, [(0, 1)]), (0, []), (0, [(3, 1)])])])])
theorem lk_952 : l_core lm_952 := by
  intro v x h
  have E0 : y_ev x (5, []) = 5 := by show ((5) : Int) + 0 = _; omega
  have E1 : y_ev x (0, [(5, 1)]) = x 5 := by show ((0) : Int) + ((1) * x 5 + 0) = _; omega
  have E2 : y_ev x (0, [(6, 1)]) = x 6 := by show ((0) : Int) + ((1) * x 6 + 0) = _; omega
  have E3 : y_ev x (0, [(7, 1)]) = x 7 := by show ((0) : Int) + ((1) * x 7 + 0) = _; omega
  have E4 : y_ev x (0, [(8, 1)]) = x 8 := by show ((0) : Int) + ((1) * x 8 + 0) = _; omega
  have E5 : y_ev x (0, [(9, 1)]) = x 9 := by show ((0) : Int) + ((1) * x 9 + 0) = _; omega
  have E6 : y_ev x (0, [(10, 1)]) = x 10 := by show ((0) : Int) + ((1) * x 10 + 0) = _; omega
  have E7 : y_ev x (0, [(11, 1)]) = x 11 := by show ((0) : Int) + ((1) * x 11 + 0) = _; omega
  have E8 : y_ev x (0, [(1, 1)]) = x 1 := by show ((0) : Int) + ((1) * x 1 + 0) = _; omega
  have E9 : y_ev x (0, [(2, 1)]) = x 2 := by show ((0) : Int) + ((1) * x 2 + 0) = _; omega
  have E10 : y_ev x (0, [(3, 1)]) = x 3 := by show ((0) : Int) + ((1) * x 3 + 0) = _; omega
  have E11 : y_ev x (0, [(12, 1)]) = x 12 := by show ((0) : Int) + ((1) * x 12 + 0) = _; omega
  have E12 : y_ev x ((-1), [(0, 1)]) = x 0 - 1 := by show ((-1) : Int) + ((1) * x 0 + 0) = _; omega
  have E13 : y_ev x ((-1), [(0, (-1)), (4, 1)]) = x 4 - x 0 - 1 := by show ((-1) : Int) + ((-1) * x 0 + ((1) * x 4 + 0)) = _; omega
  have E14 : y_ev x (5, [(0, (-1))]) = 5 - x 0 := by show ((5) : Int) + ((-1) * x 0 + 0) = _; omega
  have E15 : y_ev x (24, [(0, 1)]) = x 0 + 24 := by show ((24) : Int) + ((1) * x 0 + 0) = _; omega
  have E16 : y_ev x (25, [(0, 1)]) = x 0 + 25 := by show ((25) : Int) + ((1) * x 0 + 0) = _; omega
  have E17 : y_ev x (24, []) = 24 := by show ((24) : Int) + 0 = _; omega
  have E18 : y_ev x (0, [(4, 1)]) = x 4 := by show ((0) : Int) + ((1) * x 4 + 0) = _; omega
  have T0 : q_qry v (y_ev x (5, [])) (y_ev x (0, [(5, 1)])) (y_ev x (0, [(6, 1)])) (y_ev x (0, [(7, 1)])) (y_ev x (0, [(8, 1)])) (y_ev x (0, [(9, 1)])) (y_ev x (0, [(10, 1)])) (y_ev x (0, [(11, 1)])) (y_ev x (0, [(1, 1)])) (y_ev x (0, [(2, 1)])) (y_ev x (0, [(3, 1)])) := h.2.2.2.1
  try rw [E0] at T0; try rw [E1] at T0; try rw [E2] at T0; try rw [E3] at T0; try rw [E4] at T0; try rw [E5] at T0; try rw [E6] at T0; try rw [E7] at T0; try rw [E8] at T0; try rw [E9] at T0; try rw [E10] at T0
  have T1 : q_rwo v (y_ev x (0, [(12, 1)])) (y_ev x (0, [(5, 1)])) (y_ev x (0, [(6, 1)])) (y_ev x (0, [(7, 1)])) (y_ev x (0, [(8, 1)])) (y_ev x (0, [(9, 1)])) (y_ev x (0, [(10, 1)])) (y_ev x (0, [(11, 1)])) := h.2.2.2.2.1
  try rw [E11] at T1; try rw [E1] at T1; try rw [E2] at T1; try rw [E3] at T1; try rw [E4] at T1; try rw [E5] at T1; try rw [E6] at T1; try rw [E7] at T1
  have C0 : 0 ≤ y_ev x ((-1), [(0, 1)]) := h.2.1.1
  rw [E12] at C0
  have C1 : 0 ≤ y_ev x ((-1), [(0, (-1)), (4, 1)]) := h.2.1.2.1
  rw [E13] at C1
  have C2 : 0 ≤ y_ev x (5, [(0, (-1))]) := h.2.1.2.2.1
  rw [E14] at C2
  have F0 : 0 ≤ y_ev x (24, [(0, 1)]) ∧ y_ev x (24, [(0, 1)]) < j_len 78 ∧ v 78 (y_ev x (24, [(0, 1)])) = y_ev x (0, [(1, 1)]) := h.2.2.1.1.1
  try rw [E15] at F0; try rw [E8] at F0
  have F1 : 0 ≤ y_ev x (25, [(0, 1)]) ∧ y_ev x (25, [(0, 1)]) < j_len 78 ∧ v 78 (y_ev x (25, [(0, 1)])) = y_ev x (0, [(2, 1)]) := h.2.2.1.2.1.1
  try rw [E16] at F1; try rw [E9] at F1
  have F2 : 0 ≤ y_ev x (24, []) ∧ y_ev x (24, []) < j_len 78 ∧ v 78 (y_ev x (24, [])) = y_ev x (0, [(4, 1)]) := h.2.2.1.2.2.1.1
  try rw [E17] at F2; try rw [E18] at F2
  have K := k_mjab (V := v) (i := x 0) (a := x 1) (g := x 2) (u := x 3) (p := x 4) (q := x 5) (b := x 6) (s := x 7) (o := x 8) (a1 := x 9) (a2 := x 10) (a3 := x 11) (H := x 12) T0 T1 C0 C1 C2 F0 F1 F2
  refine l_outH rfl (And.intro h.1 ?_)
  have O0 : y_ev x (17, []) = 17 := by show ((17) : Int) + 0 = _; omega
  have O1 : y_ev x (0, [(5, 1)]) = x 5 := by show ((0) : Int) + ((1) * x 5 + 0) = _; omega
  have O2 : y_ev x (0, [(6, 1)]) = x 6 := by show ((0) : Int) + ((1) * x 6 + 0) = _; omega
  have O3 : y_ev x (0, [(7, 1)]) = x 7 := by show ((0) : Int) + ((1) * x 7 + 0) = _; omega
  have O4 : y_ev x (0, [(8, 1)]) = x 8 := by show ((0) : Int) + ((1) * x 8 + 0) = _; omega
  have O5 : y_ev x (0, [(9, 1)]) = x 9 := by show ((0) : Int) + ((1) * x 9 + 0) = _; omega
  have O6 : y_ev x (0, [(10, 1)]) = x 10 := by show ((0) : Int) + ((1) * x 10 + 0) = _; omega
  have O7 : y_ev x (0, [(11, 1)]) = x 11 := by show ((0) : Int) + ((1) * x 11 + 0) = _; omega
  have O8 : y_ev x (0, [(0, 1)]) = x 0 := by show ((0) : Int) + ((1) * x 0 + 0) = _; omega
  have O9 : y_ev x (0, []) = 0 := by show ((0) : Int) + 0 = _; omega
  have O10 : y_ev x (0, [(3, 1)]) = x 3 := by show ((0) : Int) + ((1) * x 3 + 0) = _; omega
  show (True) ∧ (q_qry v (y_ev x (17, [])) (y_ev x (0, [(5, 1)])) (y_ev x (0, [(6, 1)])) (y_ev x (0, [(7, 1)])) (y_ev x (0, [(8, 1)])) (y_ev x (0, [(9, 1)])) (y_ev x (0, [(10, 1)])) (y_ev x (0, [(11, 1)])) (y_ev x (0, [(0, 1)])) (y_ev x (0, [])) (y_ev x (0, [(3, 1)])) ∧ True)
  try rw [O0]; try rw [O1]; try rw [O2]; try rw [O3]; try rw [O4]; try rw [O5]; try rw [O6]; try rw [O7]; try rw [O8]; try rw [O9]; try rw [O10]
  exact K
def lm_953 : zLem := (([((-2147483648), 2147483647), ((-2147483648), 2147483647), ((-2147483648), 2147483647), ((-2147483648), 2147483647), ((-2147483648), 2147483647), ((-2147483648), 2147483647), ((-2147483648), 2147483647), ((-2147483648), 2147483647), ((-2147483648), 2147483647), ((-2147483648), 2147483647), ((-2147483648), 2147483647)], [(78, false)], [(0, [(0, 1)]), ((-1), [(0, (-1)), (2, 1)]), (5, [(0, (-1))])], [], [(0, 0, 0, [(0, 1)])], [(0, (true, 0, 25, [(0, 1)]), 0, 0, 0, [(1, 1)]), (0, (true, 0, 24, []), 0, 0, 0, [(2, 1)])], [(237, [(0, [(3, 1)]), (0, [(4, 1)]), (0, [(5, 1)]), (0, [(6, 1)]), (0, [(7, 1)]), (0, [(8, 1)]), (0, [(9, 1)]), (0, [(10, 1)])])]), [([((-2147483648), 2147483647), ((-2147483648), 2147483647), ((-2147483648), 2147483647), ((-2147483648), 2147483647), ((-2147483648), 2147483647), ((-2147483648), 2147483647), ((-2147483648), 2147483647), ((-2147483648), 2147483647), ((-2147483648), 2147483647), ((-2147483648), 2147483647), ((-2147483648), 2147483647)], [(78, false)], [(0, [(1, 1)]), ((-1), [(1, (-1)), (3, 1)])], [], [], [], [])])
theorem lk_953 : l_core lm_953 := by
  intro v x h
  have E0 : y_ev x (0, [(3, 1)]) = x 3 := by show ((0) : Int) + ((1) * x 3 + 0) = _; omega
  have E1 : y_ev x (0, [(4, 1)]) = x 4 := by show ((0) : Int) + ((1) * x 4 + 0) = _; omega
  have E2 : y_ev x (0, [(5, 1)]) = x 5 := by show ((0) : Int) + ((1) * x 5 + 0) = _; omega
  have E3 : y_ev x (0, [(6, 1)]) = x 6 := by show ((0) : Int) + ((1) * x 6 + 0) = _; omega
  have E4 : y_ev x (0, [(7, 1)]) = x 7 := by show ((0) : Int) + ((1) * x 7 + 0) = _; omega
  have E5 : y_ev x (0, [(8, 1)]) = x 8 := by show ((0) : Int) + ((1) * x 8 + 0) = _; omega
  have E6 : y_ev x (0, [(9, 1)]) = x 9 := by show ((0) : Int) + ((1) * x 9 + 0) = _; omega
  have E7 : y_ev x (0, [(10, 1)]) = x 10 := by show ((0) : Int) + ((1) * x 10 + 0) = _; omega
  have E8 : y_ev x (0, [(0, 1)]) = x 0 := by show ((0) : Int) + ((1) * x 0 + 0) = _; omega
  have E9 : y_ev x ((-1), [(0, (-1)), (2, 1)]) = x 2 - x 0 - 1 := by show ((-1) : Int) + ((-1) * x 0 + ((1) * x 2 + 0)) = _; omega
  have E10 : y_ev x (5, [(0, (-1))]) = 5 - x 0 := by show ((5) : Int) + ((-1) * x 0 + 0) = _; omega
  have E11 : y_ev x (25, [(0, 1)]) = x 0 + 25 := by show ((25) : Int) + ((1) * x 0 + 0) = _; omega
  have E12 : y_ev x (0, [(1, 1)]) = x 1 := by show ((0) : Int) + ((1) * x 1 + 0) = _; omega
  have E13 : y_ev x (24, []) = 24 := by show ((24) : Int) + 0 = _; omega
  have E14 : y_ev x (0, [(2, 1)]) = x 2 := by show ((0) : Int) + ((1) * x 2 + 0) = _; omega
  have T0 : q_rwo v (y_ev x (0, [(3, 1)])) (y_ev x (0, [(4, 1)])) (y_ev x (0, [(5, 1)])) (y_ev x (0, [(6, 1)])) (y_ev x (0, [(7, 1)])) (y_ev x (0, [(8, 1)])) (y_ev x (0, [(9, 1)])) (y_ev x (0, [(10, 1)])) := h.2.2.2.1
  try rw [E0] at T0; try rw [E1] at T0; try rw [E2] at T0; try rw [E3] at T0; try rw [E4] at T0; try rw [E5] at T0; try rw [E6] at T0; try rw [E7] at T0
  have C0 : 0 ≤ y_ev x (0, [(0, 1)]) := h.2.1.1
  rw [E8] at C0
  have C1 : 0 ≤ y_ev x ((-1), [(0, (-1)), (2, 1)]) := h.2.1.2.1
  rw [E9] at C1
  have C2 : 0 ≤ y_ev x (5, [(0, (-1))]) := h.2.1.2.2.1
  rw [E10] at C2
  have F0 : 0 ≤ y_ev x (25, [(0, 1)]) ∧ y_ev x (25, [(0, 1)]) < j_len 78 ∧ v 78 (y_ev x (25, [(0, 1)])) = y_ev x (0, [(1, 1)]) := h.2.2.1.1.1
  try rw [E11] at F0; try rw [E12] at F0
  have F1 : 0 ≤ y_ev x (24, []) ∧ y_ev x (24, []) < j_len 78 ∧ v 78 (y_ev x (24, [])) = y_ev x (0, [(2, 1)]) := h.2.2.1.2.1.1
  try rw [E13] at F1; try rw [E14] at F1
  have K := k_mwho (V := v) (i := x 0) (w := x 1) (p := x 2) (H := x 3) (q := x 4) (b := x 5) (s := x 6) (o := x 7) (a1 := x 8) (a2 := x 9) (a3 := x 10) T0 C0 C1 C2 F0 F1
  refine l_outH rfl (And.intro h.1 ?_)
  have O0 : y_ev x (0, [(1, 1)]) = x 1 := by show ((0) : Int) + ((1) * x 1 + 0) = _; omega
  have O1 : y_ev x ((-1), [(1, (-1)), (3, 1)]) = x 3 - x 1 - 1 := by show ((-1) : Int) + ((-1) * x 1 + ((1) * x 3 + 0)) = _; omega
  show (0 ≤ y_ev x (0, [(1, 1)]) ∧ 0 ≤ y_ev x ((-1), [(1, (-1)), (3, 1)]) ∧ True) ∧ (True)
  try rw [O0]; try rw [O1]
  exact K
def lm_954 : zLem := (([((-2147483648), 2147483647), ((-2147483648), 2147483647), ((-2147483648), 2147483647), ((-2147483648), 2147483647), ((-2147483648), 2147483647), ((-2147483648), 2147483647), ((-2147483648), 2147483647), ((-2147483648), 2147483647), ((-2147483648), 2147483647), ((-2147483648), 2147483647), ((-2147483648), 2147483647)], [(78, false)], [((-1), [(0, 1)]), (0, [(0, (-1)), (2, 1)]), (6, [(0, (-1))])], [], [(0, 0, 0, [(0, 1)])], [(0, (true, 0, 24, [(0, 1)]), 0, 0, 0, [(1, 1)]), (0, (true, 0, 24, []), 0, 0, 0, [(2, 1)])], [(237, [(0, [(3, 1)]), (0, [(4, 1)]), (0, [(5, 1)]), (0, [(6, 1)]), (0, [(7, 1)]), (0, [(8, 1)]), (0, [(9, 1)]), (0, [(10, 1)])])]), [([((-2147483648), 2147483647), ((-2147483648), 2147483647), ((-2147483648), 2147483647), ((-2147483648), 2147483647), ((-2147483648), 2147483647), ((-2147483648), 2147483647), ((-2147483648), 2147483647), ((-2147483648), 2147483647), ((-2147483648), 2147483647), ((-2147483648), 2147483647), ((-2147483648), 2147483647)], [(78, false)], [(0, [(1, 1)]), ((-1), [(1, (-1)), (3, 1)])], [], [], [], [])])
theorem lk_954 : l_core lm_954 := by
  intro v x h
  have E0 : y_ev x (0, [(3, 1)]) = x 3 := by show ((0) : Int) + ((1) * x 3 + 0) = _; omega
  have E1 : y_ev x (0, [(4, 1)]) = x 4 := by show ((0) : Int) + ((1) * x 4 + 0) = _; omega
  have E2 : y_ev x (0, [(5, 1)]) = x 5 := by show ((0) : Int) + ((1) * x 5 + 0) = _; omega
  have E3 : y_ev x (0, [(6, 1)]) = x 6 := by show ((0) : Int) + ((1) * x 6 + 0) = _; omega
  have E4 : y_ev x (0, [(7, 1)]) = x 7 := by show ((0) : Int) + ((1) * x 7 + 0) = _; omega
  have E5 : y_ev x (0, [(8, 1)]) = x 8 := by show ((0) : Int) + ((1) * x 8 + 0) = _; omega
  have E6 : y_ev x (0, [(9, 1)]) = x 9 := by show ((0) : Int) + ((1) * x 9 + 0) = _; omega
  have E7 : y_ev x (0, [(10, 1)]) = x 10 := by show ((0) : Int) + ((1) * x 10 + 0) = _; omega
  have E8 : y_ev x ((-1), [(0, 1)]) = x 0 - 1 := by show ((-1) : Int) + ((1) * x 0 + 0) = _; omega
  have E9 : y_ev x (0, [(0, (-1)), (2, 1)]) = x 2 - x 0 := by show ((0) : Int) + ((-1) * x 0 + ((1) * x 2 + 0)) = _; omega
  have E10 : y_ev x (6, [(0, (-1))]) = 6 - x 0 := by show ((6) : Int) + ((-1) * x 0 + 0) = _; omega
  have E11 : y_ev x (24, [(0, 1)]) = x 0 + 24 := by show ((24) : Int) + ((1) * x 0 + 0) = _; omega
  have E12 : y_ev x (0, [(1, 1)]) = x 1 := by show ((0) : Int) + ((1) * x 1 + 0) = _; omega
  have E13 : y_ev x (24, []) = 24 := by show ((24) : Int) + 0 = _; omega
  have E14 : y_ev x (0, [(2, 1)]) = x 2 := by show ((0) : Int) + ((1) * x 2 + 0) = _; omega
  have T0 : q_rwo v (y_ev x (0, [(3, 1)])) (y_ev x (0, [(4, 1)])) (y_ev x (0, [(5, 1)])) (y_ev x (0, [(6, 1)])) (y_ev x (0, [(7, 1)])) (y_ev x (0, [(8, 1)])) (y_ev x (0, [(9, 1)])) (y_ev x (0, [(10, 1)])) := h.2.2.2.1
  try rw [E0] at T0; try rw [E1] at T0; try rw [E2] at T0; try rw [E3] at T0; try rw [E4] at T0; try rw [E5] at T0; try rw [E6] at T0; try rw [E7] at T0
  have C0 : 0 ≤ y_ev x ((-1), [(0, 1)]) := h.2.1.1
  rw [E8] at C0
  have C1 : 0 ≤ y_ev x (0, [(0, (-1)), (2, 1)]) := h.2.1.2.1
  rw [E9] at C1
  have C2 : 0 ≤ y_ev x (6, [(0, (-1))]) := h.2.1.2.2.1
  rw [E10] at C2
  have F0 : 0 ≤ y_ev x (24, [(0, 1)]) ∧ y_ev x (24, [(0, 1)]) < j_len 78 ∧ v 78 (y_ev x (24, [(0, 1)])) = y_ev x (0, [(1, 1)]) := h.2.2.1.1.1
  try rw [E11] at F0; try rw [E12] at F0
  have F1 : 0 ≤ y_ev x (24, []) ∧ y_ev x (24, []) < j_len 78 ∧ v 78 (y_ev x (24, [])) = y_ev x (0, [(2, 1)]) := h.2.2.1.2.1.1
  try rw [E13] at F1; try rw [E14] at F1
  have K := k_mwhX (V := v) (i := x 0) (w := x 1) (p := x 2) (H := x 3) (q := x 4) (b := x 5) (s := x 6) (o := x 7) (a1 := x 8) (a2 := x 9) (a3 := x 10) T0 C0 C1 C2 F0 F1
  refine l_outH rfl (And.intro h.1 ?_)
  have O0 : y_ev x (0, [(1, 1)]) = x 1 := by show ((0) : Int) + ((1) * x 1 + 0) = _; omega
  have O1 : y_ev x ((-1), [(1, (-1)), (3, 1)]) = x 3 - x 1 - 1 := by show ((-1) : Int) + ((-1) * x 1 + ((1) * x 3 + 0)) = _; omega
  show (0 ≤ y_ev x (0, [(1, 1)]) ∧ 0 ≤ y_ev x ((-1), [(1, (-1)), (3, 1)]) ∧ True) ∧ (True)
  try rw [O0]; try rw [O1]
  exact K
def lm_955 : zLem := (([((-2147483648), 2147483647), ((-2147483648), 2147483647), ((-2147483648), 2147483647)], [(78, false)], [((-1), [(1, (-1)), (2, 2)]), (0, [(0, (-2)), (1, 1)])], [], [(0, 0, 0, [(0, 1)]), (0, 0, 0, [(1, 1)])], [(0, (true, 0, 24, []), 0, 0, 0, [(2, 1)])], []), [([((-2147483648), 2147483647), ((-2147483648), 2147483647), ((-2147483648), 2147483647)], [(78, false)], [((-1), [(0, (-1)), (2, 1)])], [], [], [], [])])
theorem lk_955 : l_core lm_955 := by
  intro v x h
  have E0 : y_ev x ((-1), [(1, (-1)), (2, 2)]) = 2 * x 2 - x 1 - 1 := by show ((-1) : Int) + ((-1) * x 1 + ((2) * x 2 + 0)) = _; omega
  have E1 : y_ev x (0, [(0, (-2)), (1, 1)]) = x 1 - 2 * x 0 := by show ((0) : Int) + ((-2) * x 0 + ((1) * x 1 + 0)) = _; omega
  have E2 : y_ev x (24, []) = 24 := by show ((24) : Int) + 0 = _; omega
  have E3 : y_ev x (0, [(2, 1)]) = x 2 := by show ((0) : Int) + ((1) * x 2 + 0) = _; omega
  have C0 : 0 ≤ y_ev x ((-1), [(1, (-1)), (2, 2)]) := h.2.1.1
  rw [E0] at C0
  have C1 : 0 ≤ y_ev x (0, [(0, (-2)), (1, 1)]) := h.2.1.2.1
  rw [E1] at C1
  have F0 : 0 ≤ y_ev x (24, []) ∧ y_ev x (24, []) < j_len 78 ∧ v 78 (y_ev x (24, [])) = y_ev x (0, [(2, 1)]) := h.2.2.1.1.1
  try rw [E2] at F0; try rw [E3] at F0
  have K := k_hfp (V := v) (i := x 0) (k := x 1) (p := x 2) C0 C1 F0
  refine l_outH rfl (And.intro h.1 ?_)
  have O0 : y_ev x ((-1), [(0, (-1)), (2, 1)]) = x 2 - x 0 - 1 := by show ((-1) : Int) + ((-1) * x 0 + ((1) * x 2 + 0)) = _; omega
  show (0 ≤ y_ev x ((-1), [(0, (-1)), (2, 1)]) ∧ True) ∧ (True)
  try rw [O0]
  exact K
def lm_956 : zLem := (([((-2147483648), 2147483647), ((-2147483648), 2147483647), ((-2147483648), 2147483647), ((-2147483648), 2147483647), ((-2147483648), 2147483647), ((-2147483648), 2147483647), ((-2147483648), 2147483647), ((-2147483648), 2147483647), ((-2147483648), 2147483647)], [], [], [], [(0, 0, 0, [(0, 1)])], [], [(237, [(0, [(1, 1)]), (0, [(2, 1)]), (0, [(3, 1)]), (0, [(4, 1)]), (0, [(5, 1)]), (0, [(6, 1)]), (0, [(7, 1)]), (0, [(8, 1)])])]), [([((-2147483648), 2147483647), ((-2147483648), 2147483647), ((-2147483648), 2147483647), ((-2147483648), 2147483647), ((-2147483648), 2147483647), ((-2147483648), 2147483647), ((-2147483648), 2147483647), ((-2147483648), 2147483647), ((-2147483648), 2147483647)], [], [], [], [], [], [(238, [(24, []), (0, [(2, 1)]), (0, [(3, 1)]), (0, [(4, 1)]), (0, [(5, 1)]), (0, [(6, 1)]), (0, [(7, 1)]), (0, [(8, 1)]), (0, [(0, 1)]), (0, []), (1, [])])])])
theorem lk_956 : l_core lm_956 := by
  intro v x h
  have E0 : y_ev x (0, [(1, 1)]) = x 1 := by show ((0) : Int) + ((1) * x 1 + 0) = _; omega
  have E1 : y_ev x (0, [(2, 1)]) = x 2 := by show ((0) : Int) + ((1) * x 2 + 0) = _; omega
  have E2 : y_ev x (0, [(3, 1)]) = x 3 := by show ((0) : Int) + ((1) * x 3 + 0) = _; omega
  have E3 : y_ev x (0, [(4, 1)]) = x 4 := by show ((0) : Int) + ((1) * x 4 + 0) = _; omega
  have E4 : y_ev x (0, [(5, 1)]) = x 5 := by show ((0) : Int) + ((1) * x 5 + 0) = _; omega
  have E5 : y_ev x (0, [(6, 1)]) = x 6 := by show ((0) : Int) + ((1) * x 6 + 0) = _; omega
  have E6 : y_ev x (0, [(7, 1)]) = x 7 := by show ((0) : Int) + ((1) * x 7 + 0) = _; omega
  have E7 : y_ev x (0, [(8, 1)]) = x 8 := by show ((0) : Int) + ((1) * x 8 + 0) = _; omega
  have T0 : q_rwo v (y_ev x (0, [(1, 1)])) (y_ev x (0, [(2, 1)])) (y_ev x (0, [(3, 1)])) (y_ev x (0, [(4, 1)])) (y_ev x (0, [(5, 1)])) (y_ev x (0, [(6, 1)])) (y_ev x (0, [(7, 1)])) (y_ev x (0, [(8, 1)])) := h.2.2.2.1
  try rw [E0] at T0; try rw [E1] at T0; try rw [E2] at T0; try rw [E3] at T0; try rw [E4] at T0; try rw [E5] at T0; try rw [E6] at T0; try rw [E7] at T0
  have K := k_nbr0 (V := v) (w := x 0) (H := x 1) (q := x 2) (b := x 3) (s := x 4) (o := x 5) (a1 := x 6) (a2 := x 7) (a3 := x 8) T0
  refine l_outH rfl (And.intro h.1 ?_)
  have O0 : y_ev x (24, []) = 24 := by show ((24) : Int) + 0 = _; omega
  have O1 : y_ev x (0, [(2, 1)]) = x 2 := by show ((0) : Int) + ((1) * x 2 + 0) = _; omega
  have O2 : y_ev x (0, [(3, 1)]) = x 3 := by show ((0) : Int) + ((1) * x 3 + 0) = _; omega
  have O3 : y_ev x (0, [(4, 1)]) = x 4 := by show ((0) : Int) + ((1) * x 4 + 0) = _; omega
  have O4 : y_ev x (0, [(5, 1)]) = x 5 := by show ((0) : Int) + ((1) * x 5 + 0) = _; omega
  have O5 : y_ev x (0, [(6, 1)]) = x 6 := by show ((0) : Int) + ((1) * x 6 + 0) = _; omega
  have O6 : y_ev x (0, [(7, 1)]) = x 7 := by show ((0) : Int) + ((1) * x 7 + 0) = _; omega
  have O7 : y_ev x (0, [(8, 1)]) = x 8 := by show ((0) : Int) + ((1) * x 8 + 0) = _; omega
  have O8 : y_ev x (0, [(0, 1)]) = x 0 := by show ((0) : Int) + ((1) * x 0 + 0) = _; omega
  have O9 : y_ev x (0, []) = 0 := by show ((0) : Int) + 0 = _; omega
  have O10 : y_ev x (1, []) = 1 := by show ((1) : Int) + 0 = _; omega
  show (True) ∧ (q_qry v (y_ev x (24, [])) (y_ev x (0, [(2, 1)])) (y_ev x (0, [(3, 1)])) (y_ev x (0, [(4, 1)])) (y_ev x (0, [(5, 1)])) (y_ev x (0, [(6, 1)])) (y_ev x (0, [(7, 1)])) (y_ev x (0, [(8, 1)])) (y_ev x (0, [(0, 1)])) (y_ev x (0, [])) (y_ev x (1, [])) ∧ True)
  try rw [O0]; try rw [O1]; try rw [O2]; try rw [O3]; try rw [O4]; try rw [O5]; try rw [O6]; try rw [O7]; try rw [O8]; try rw [O9]; try rw [O10]
  exact K
def lm_957 : zLem := (([((-2147483648), 2147483647), ((-2147483648), 2147483647), ((-2147483648), 2147483647), ((-2147483648), 2147483647), ((-2147483648), 2147483647), ((-2147483648), 2147483647), ((-2147483648), 2147483647), ((-2147483648), 2147483647), ((-2147483648), 2147483647), ((-2147483648), 2147483647)], [], [(0, [(1, 1)]), (0, [(0, (-1)), (2, 1)])], [], [(0, 0, 0, [(0, 1)]), (0, 0, 0, [(1, 1)])], [], [(238, [(24, []), (0, [(3, 1)]), (0, [(4, 1)]), (0, [(5, 1)]), (0, [(6, 1)]), (0, [(7, 1)]), (0, [(8, 1)]), (0, [(9, 1)]), (0, [(0, 1)]), (0, [(1, 1)]), (1, [])]), (238, [(2, []), (0, [(3, 1)]), (0, [(4, 1)]), (0, [(5, 1)]), (0, [(6, 1)]), (0, [(7, 1)]), (0, [(8, 1)]), (0, [(9, 1)]), (0, [(1, 1)]), (0, []), (0, [(2, 1)])])]), [([((-2147483648), 2147483647), ((-2147483648), 2147483647), ((-2147483648), 2147483647), ((-2147483648), 2147483647), ((-2147483648), 2147483647), ((-2147483648), 2147483647), ((-2147483648), 2147483647), ((-2147483648), 2147483647), ((-2147483648), 2147483647), ((-2147483648), 2147483647)], [], [], [], [], [], [(238, [(24, []), (0, [(3, 1)]), (0, [(4, 1)]), (0, [(5, 1)]), (0, [(6, 1)]), (0, [(7, 1)]), (0, [(8, 1)]), (0, [(9, 1)]), (0, [(0, 1)]), (1, [(1, 1)]), (1, [])])])])
theorem lk_957 : l_core lm_957 := by
  intro v x h
  have E0 : y_ev x (24, []) = 24 := by show ((24) : Int) + 0 = _; omega
  have E1 : y_ev x (0, [(3, 1)]) = x 3 := by show ((0) : Int) + ((1) * x 3 + 0) = _; omega
  have E2 : y_ev x (0, [(4, 1)]) = x 4 := by show ((0) : Int) + ((1) * x 4 + 0) = _; omega
  have E3 : y_ev x (0, [(5, 1)]) = x 5 := by show ((0) : Int) + ((1) * x 5 + 0) = _; omega
  have E4 : y_ev x (0, [(6, 1)]) = x 6 := by show ((0) : Int) + ((1) * x 6 + 0) = _; omega
  have E5 : y_ev x (0, [(7, 1)]) = x 7 := by show ((0) : Int) + ((1) * x 7 + 0) = _; omega
  have E6 : y_ev x (0, [(8, 1)]) = x 8 := by show ((0) : Int) + ((1) * x 8 + 0) = _; omega
  have E7 : y_ev x (0, [(9, 1)]) = x 9 := by show ((0) : Int) + ((1) * x 9 + 0) = _; omega
  have E8 : y_ev x (0, [(0, 1)]) = x 0 := by show ((0) : Int) + ((1) * x 0 + 0) = _; omega
  have E9 : y_ev x (0, [(1, 1)]) = x 1 := by show ((0) : Int) + ((1) * x 1 + 0) = _; omega
  have E10 : y_ev x (1, []) = 1 := by show ((1) : Int) + 0 = _; omega
  have E11 : y_ev x (2, []) = 2 := by show ((2) : Int) + 0 = _; omega
  have E12 : y_ev x (0, []) = 0 := by show ((0) : Int) + 0 = _; omega
  have E13 : y_ev x (0, [(2, 1)]) = x 2 := by show ((0) : Int) + ((1) * x 2 + 0) = _; omega
  have E14 : y_ev x (0, [(0, (-1)), (2, 1)]) = x 2 - x 0 := by show ((0) : Int) + ((-1) * x 0 + ((1) * x 2 + 0)) = _; omega
  have T0 : q_qry v (y_ev x (24, [])) (y_ev x (0, [(3, 1)])) (y_ev x (0, [(4, 1)])) (y_ev x (0, [(5, 1)])) (y_ev x (0, [(6, 1)])) (y_ev x (0, [(7, 1)])) (y_ev x (0, [(8, 1)])) (y_ev x (0, [(9, 1)])) (y_ev x (0, [(0, 1)])) (y_ev x (0, [(1, 1)])) (y_ev x (1, [])) := h.2.2.2.1
  try rw [E0] at T0; try rw [E1] at T0; try rw [E2] at T0; try rw [E3] at T0; try rw [E4] at T0; try rw [E5] at T0; try rw [E6] at T0; try rw [E7] at T0; try rw [E8] at T0; try rw [E9] at T0; try rw [E10] at T0
  have T1 : q_qry v (y_ev x (2, [])) (y_ev x (0, [(3, 1)])) (y_ev x (0, [(4, 1)])) (y_ev x (0, [(5, 1)])) (y_ev x (0, [(6, 1)])) (y_ev x (0, [(7, 1)])) (y_ev x (0, [(8, 1)])) (y_ev x (0, [(9, 1)])) (y_ev x (0, [(1, 1)])) (y_ev x (0, [])) (y_ev x (0, [(2, 1)])) := h.2.2.2.2.1
  try rw [E11] at T1; try rw [E1] at T1; try rw [E2] at T1; try rw [E3] at T1; try rw [E4] at T1; try rw [E5] at T1; try rw [E6] at T1; try rw [E7] at T1; try rw [E9] at T1; try rw [E12] at T1; try rw [E13] at T1
  have C0 : 0 ≤ y_ev x (0, [(1, 1)]) := h.2.1.1
  rw [E9] at C0
  have C1 : 0 ≤ y_ev x (0, [(0, (-1)), (2, 1)]) := h.2.1.2.1
  rw [E14] at C1
  have K := k_nbrS (V := v) (w := x 0) (k := x 1) (u := x 2) (q := x 3) (b := x 4) (s := x 5) (o := x 6) (a1 := x 7) (a2 := x 8) (a3 := x 9) T0 T1 C0 C1
  refine l_outH rfl (And.intro h.1 ?_)
  have O0 : y_ev x (24, []) = 24 := by show ((24) : Int) + 0 = _; omega
  have O1 : y_ev x (0, [(3, 1)]) = x 3 := by show ((0) : Int) + ((1) * x 3 + 0) = _; omega
  have O2 : y_ev x (0, [(4, 1)]) = x 4 := by show ((0) : Int) + ((1) * x 4 + 0) = _; omega
  have O3 : y_ev x (0, [(5, 1)]) = x 5 := by show ((0) : Int) + ((1) * x 5 + 0) = _; omega
  have O4 : y_ev x (0, [(6, 1)]) = x 6 := by show ((0) : Int) + ((1) * x 6 + 0) = _; omega
  have O5 : y_ev x (0, [(7, 1)]) = x 7 := by show ((0) : Int) + ((1) * x 7 + 0) = _; omega
  have O6 : y_ev x (0, [(8, 1)]) = x 8 := by show ((0) : Int) + ((1) * x 8 + 0) = _; omega
  have O7 : y_ev x (0, [(9, 1)]) = x 9 := by show ((0) : Int) + ((1) * x 9 + 0) = _; omega
  have O8 : y_ev x (0, [(0, 1)]) = x 0 := by show ((0) : Int) + ((1) * x 0 + 0) = _; omega
  have O9 : y_ev x (1, [(1, 1)]) = x 1 + 1 := by show ((1) : Int) + ((1) * x 1 + 0) = _; omega
  have O10 : y_ev x (1, []) = 1 := by show ((1) : Int) + 0 = _; omega
  show (True) ∧ (q_qry v (y_ev x (24, [])) (y_ev x (0, [(3, 1)])) (y_ev x (0, [(4, 1)])) (y_ev x (0, [(5, 1)])) (y_ev x (0, [(6, 1)])) (y_ev x (0, [(7, 1)])) (y_ev x (0, [(8, 1)])) (y_ev x (0, [(9, 1)])) (y_ev x (0, [(0, 1)])) (y_ev x (1, [(1, 1)])) (y_ev x (1, [])) ∧ True)
  try rw [O0]; try rw [O1]; try rw [O2]; try rw [O3]; try rw [O4]; try rw [O5]; try rw [O6]; try rw [O7]; try rw [O8]; try rw [O9]; try rw [O10]
  exact K
def lm_958 : zLem := (([((-2147483648), 2147483647), ((-2147483648), 2147483647), ((-2147483648), 2147483647), ((-2147483648), 2147483647), ((-2147483648), 2147483647), ((-2147483648), 2147483647), ((-2147483648), 2147483647), ((-2147483648), 2147483647), ((-2147483648), 2147483647), ((-2147483648), 2147483647), ((-2147483648), 2147483647), ((-2147483648), 2147483647)], [(78, false)], [(0, [(1, 1)]), ((-1), [(0, 1), (2, (-1))]), ((-1), [(1, (-1)), (3, 2)])], [], [(0, 0, 0, [(0, 1)]), (0, 0, 0, [(1, 1)])], [(0, (true, 0, 24, []), 0, 0, 0, [(3, 1)])], [(238, [(24, []), (0, [(4, 1)]), (0, [(5, 1)]), (0, [(6, 1)]), (0, [(7, 1)]), (0, [(8, 1)]), (0, [(9, 1)]), (0, [(10, 1)]), (0, [(0, 1)]), (0, [(1, 1)]), (1, [])]), (238, [(2, []), (0, [(4, 1)]), (0, [(5, 1)]), (0, [(6, 1)]), (0, [(7, 1)]), (0, [(8, 1)]), (0, [(9, 1)]), (0, [(10, 1)]), (0, [(1, 1)]), (0, []), (0, [(2, 1)])]), (237, [(0, [(11, 1)]), (0, [(4, 1)]), (0, [(5, 1)]), (0, [(6, 1)]), (0, [(7, 1)]), (0, [(8, 1)]), (0, [(9, 1)]), (0, [(10, 1)])])]), [([((-2147483648), 2147483647), ((-2147483648), 2147483647), ((-2147483648), 2147483647), ((-2147483648), 2147483647), ((-2147483648), 2147483647), ((-2147483648), 2147483647), ((-2147483648), 2147483647), ((-2147483648), 2147483647), ((-2147483648), 2147483647), ((-2147483648), 2147483647), ((-2147483648), 2147483647), ((-2147483648), 2147483647)], [(78, false)], [], [], [], [], [(238, [(3, []), (0, [(4, 1)]), (0, [(5, 1)]), (0, [(6, 1)]), (0, [(7, 1)]), (0, [(8, 1)]), (0, [(9, 1)]), (0, [(10, 1)]), (0, [(0, 1)]), (0, []), (0, [(1, 1)])])])])
theorem lk_958 : l_core lm_958 := by
  intro v x h
  have E0 : y_ev x (24, []) = 24 := by show ((24) : Int) + 0 = _; omega
  have E1 : y_ev x (0, [(4, 1)]) = x 4 := by show ((0) : Int) + ((1) * x 4 + 0) = _; omega
  have E2 : y_ev x (0, [(5, 1)]) = x 5 := by show ((0) : Int) + ((1) * x 5 + 0) = _; omega
  have E3 : y_ev x (0, [(6, 1)]) = x 6 := by show ((0) : Int) + ((1) * x 6 + 0) = _; omega
  have E4 : y_ev x (0, [(7, 1)]) = x 7 := by show ((0) : Int) + ((1) * x 7 + 0) = _; omega
  have E5 : y_ev x (0, [(8, 1)]) = x 8 := by show ((0) : Int) + ((1) * x 8 + 0) = _; omega
  have E6 : y_ev x (0, [(9, 1)]) = x 9 := by show ((0) : Int) + ((1) * x 9 + 0) = _; omega
  have E7 : y_ev x (0, [(10, 1)]) = x 10 := by show ((0) : Int) + ((1) * x 10 + 0) = _; omega
  have E8 : y_ev x (0, [(0, 1)]) = x 0 := by show ((0) : Int) + ((1) * x 0 + 0) = _; omega
  have E9 : y_ev x (0, [(1, 1)]) = x 1 := by show ((0) : Int) + ((1) * x 1 + 0) = _; omega
  have E10 : y_ev x (1, []) = 1 := by show ((1) : Int) + 0 = _; omega
  have E11 : y_ev x (2, []) = 2 := by show ((2) : Int) + 0 = _; omega
  have E12 : y_ev x (0, []) = 0 := by show ((0) : Int) + 0 = _; omega
  have E13 : y_ev x (0, [(2, 1)]) = x 2 := by show ((0) : Int) + ((1) * x 2 + 0) = _; omega
  have E14 : y_ev x (0, [(11, 1)]) = x 11 := by show ((0) : Int) + ((1) * x 11 + 0) = _; omega
  have E15 : y_ev x ((-1), [(0, 1), (2, (-1))]) = x 0 - x 2 - 1 := by show ((-1) : Int) + ((1) * x 0 + ((-1) * x 2 + 0)) = _; omega
  have E16 : y_ev x ((-1), [(1, (-1)), (3, 2)]) = 2 * x 3 - x 1 - 1 := by show ((-1) : Int) + ((-1) * x 1 + ((2) * x 3 + 0)) = _; omega
  have E17 : y_ev x (0, [(3, 1)]) = x 3 := by show ((0) : Int) + ((1) * x 3 + 0) = _; omega
  have T0 : q_qry v (y_ev x (24, [])) (y_ev x (0, [(4, 1)])) (y_ev x (0, [(5, 1)])) (y_ev x (0, [(6, 1)])) (y_ev x (0, [(7, 1)])) (y_ev x (0, [(8, 1)])) (y_ev x (0, [(9, 1)])) (y_ev x (0, [(10, 1)])) (y_ev x (0, [(0, 1)])) (y_ev x (0, [(1, 1)])) (y_ev x (1, [])) := h.2.2.2.1
  try rw [E0] at T0; try rw [E1] at T0; try rw [E2] at T0; try rw [E3] at T0; try rw [E4] at T0; try rw [E5] at T0; try rw [E6] at T0; try rw [E7] at T0; try rw [E8] at T0; try rw [E9] at T0; try rw [E10] at T0
  have T1 : q_qry v (y_ev x (2, [])) (y_ev x (0, [(4, 1)])) (y_ev x (0, [(5, 1)])) (y_ev x (0, [(6, 1)])) (y_ev x (0, [(7, 1)])) (y_ev x (0, [(8, 1)])) (y_ev x (0, [(9, 1)])) (y_ev x (0, [(10, 1)])) (y_ev x (0, [(1, 1)])) (y_ev x (0, [])) (y_ev x (0, [(2, 1)])) := h.2.2.2.2.1
  try rw [E11] at T1; try rw [E1] at T1; try rw [E2] at T1; try rw [E3] at T1; try rw [E4] at T1; try rw [E5] at T1; try rw [E6] at T1; try rw [E7] at T1; try rw [E9] at T1; try rw [E12] at T1; try rw [E13] at T1
  have T2 : q_rwo v (y_ev x (0, [(11, 1)])) (y_ev x (0, [(4, 1)])) (y_ev x (0, [(5, 1)])) (y_ev x (0, [(6, 1)])) (y_ev x (0, [(7, 1)])) (y_ev x (0, [(8, 1)])) (y_ev x (0, [(9, 1)])) (y_ev x (0, [(10, 1)])) := h.2.2.2.2.2.1
  try rw [E14] at T2; try rw [E1] at T2; try rw [E2] at T2; try rw [E3] at T2; try rw [E4] at T2; try rw [E5] at T2; try rw [E6] at T2; try rw [E7] at T2
  have C0 : 0 ≤ y_ev x (0, [(1, 1)]) := h.2.1.1
  rw [E9] at C0
  have C1 : 0 ≤ y_ev x ((-1), [(0, 1), (2, (-1))]) := h.2.1.2.1
  rw [E15] at C1
  have C2 : 0 ≤ y_ev x ((-1), [(1, (-1)), (3, 2)]) := h.2.1.2.2.1
  rw [E16] at C2
  have F0 : 0 ≤ y_ev x (24, []) ∧ y_ev x (24, []) < j_len 78 ∧ v 78 (y_ev x (24, [])) = y_ev x (0, [(3, 1)]) := h.2.2.1.1.1
  try rw [E0] at F0; try rw [E17] at F0
  have K := k_nbrY (V := v) (w := x 0) (k := x 1) (u := x 2) (p := x 3) (q := x 4) (b := x 5) (s := x 6) (o := x 7) (a1 := x 8) (a2 := x 9) (a3 := x 10) (H := x 11) T0 T1 T2 C0 C1 C2 F0
  refine l_outH rfl (And.intro h.1 ?_)
  have O0 : y_ev x (3, []) = 3 := by show ((3) : Int) + 0 = _; omega
  have O1 : y_ev x (0, [(4, 1)]) = x 4 := by show ((0) : Int) + ((1) * x 4 + 0) = _; omega
  have O2 : y_ev x (0, [(5, 1)]) = x 5 := by show ((0) : Int) + ((1) * x 5 + 0) = _; omega
  have O3 : y_ev x (0, [(6, 1)]) = x 6 := by show ((0) : Int) + ((1) * x 6 + 0) = _; omega
  have O4 : y_ev x (0, [(7, 1)]) = x 7 := by show ((0) : Int) + ((1) * x 7 + 0) = _; omega
  have O5 : y_ev x (0, [(8, 1)]) = x 8 := by show ((0) : Int) + ((1) * x 8 + 0) = _; omega
  have O6 : y_ev x (0, [(9, 1)]) = x 9 := by show ((0) : Int) + ((1) * x 9 + 0) = _; omega
  have O7 : y_ev x (0, [(10, 1)]) = x 10 := by show ((0) : Int) + ((1) * x 10 + 0) = _; omega
  have O8 : y_ev x (0, [(0, 1)]) = x 0 := by show ((0) : Int) + ((1) * x 0 + 0) = _; omega
  have O9 : y_ev x (0, []) = 0 := by show ((0) : Int) + 0 = _; omega
  have O10 : y_ev x (0, [(1, 1)]) = x 1 := by show ((0) : Int) + ((1) * x 1 + 0) = _; omega
  show (True) ∧ (q_qry v (y_ev x (3, [])) (y_ev x (0, [(4, 1)])) (y_ev x (0, [(5, 1)])) (y_ev x (0, [(6, 1)])) (y_ev x (0, [(7, 1)])) (y_ev x (0, [(8, 1)])) (y_ev x (0, [(9, 1)])) (y_ev x (0, [(10, 1)])) (y_ev x (0, [(0, 1)])) (y_ev x (0, [])) (y_ev x (0, [(1, 1)])) ∧ True)
  try rw [O0]; try rw [O1]; try rw [O2]; try rw [O3]; try rw [O4]; try rw [O5]; try rw [O6]; try rw [O7]; try rw [O8]; try rw [O9]; try rw [O10]
  exact K
def lm_959 : zLem := (([((-2147483648), 2147483647), ((-2147483648), 2147483647), ((-2147483648), 2147483647), ((-2147483648), 2147483647), ((-2147483648), 2147483647), ((-2147483648), 2147483647), ((-2147483648), 2147483647), ((-2147483648), 2147483647), ((-2147483648), 2147483647), ((-2147483648), 2147483647), ((-2147483648), 2147483647)], [(78, false)], [(0, [(1, 1), (2, (-2))])], [], [(0, 0, 0, [(0, 1)]), (0, 0, 0, [(1, 1)])], [(0, (true, 0, 24, []), 0, 0, 0, [(2, 1)])], [(238, [(24, []), (0, [(3, 1)]), (0, [(4, 1)]), (0, [(5, 1)]), (0, [(6, 1)]), (0, [(7, 1)]), (0, [(8, 1)]), (0, [(9, 1)]), (0, [(0, 1)]), (0, [(1, 1)]), (1, [])]), (237, [(0, [(10, 1)]), (0, [(3, 1)]), (0, [(4, 1)]), (0, [(5, 1)]), (0, [(6, 1)]), (0, [(7, 1)]), (0, [(8, 1)]), (0, [(9, 1)])])]), [([((-2147483648), 2147483647), ((-2147483648), 2147483647), ((-2147483648), 2147483647), ((-2147483648), 2147483647), ((-2147483648), 2147483647), ((-2147483648), 2147483647), ((-2147483648), 2147483647), ((-2147483648), 2147483647), ((-2147483648), 2147483647), ((-2147483648), 2147483647), ((-2147483648), 2147483647)], [(78, false)], [], [], [], [], [(238, [(3, []), (0, [(3, 1)]), (0, [(4, 1)]), (0, [(5, 1)]), (0, [(6, 1)]), (0, [(7, 1)]), (0, [(8, 1)]), (0, [(9, 1)]), (0, [(0, 1)]), (0, []), ((-1), [])])])])
theorem lk_959 : l_core lm_959 := by
  intro v x h
  have E0 : y_ev x (24, []) = 24 := by show ((24) : Int) + 0 = _; omega
  have E1 : y_ev x (0, [(3, 1)]) = x 3 := by show ((0) : Int) + ((1) * x 3 + 0) = _; omega
  have E2 : y_ev x (0, [(4, 1)]) = x 4 := by show ((0) : Int) + ((1) * x 4 + 0) = _; omega
  have E3 : y_ev x (0, [(5, 1)]) = x 5 := by show ((0) : Int) + ((1) * x 5 + 0) = _; omega
  have E4 : y_ev x (0, [(6, 1)]) = x 6 := by show ((0) : Int) + ((1) * x 6 + 0) = _; omega
  have E5 : y_ev x (0, [(7, 1)]) = x 7 := by show ((0) : Int) + ((1) * x 7 + 0) = _; omega
  have E6 : y_ev x (0, [(8, 1)]) = x 8 := by show ((0) : Int) + ((1) * x 8 + 0) = _; omega
  have E7 : y_ev x (0, [(9, 1)]) = x 9 := by show ((0) : Int) + ((1) * x 9 + 0) = _; omega
  have E8 : y_ev x (0, [(0, 1)]) = x 0 := by show ((0) : Int) + ((1) * x 0 + 0) = _; omega
  have E9 : y_ev x (0, [(1, 1)]) = x 1 := by show ((0) : Int) + ((1) * x 1 + 0) = _; omega
  have E10 : y_ev x (1, []) = 1 := by show ((1) : Int) + 0 = _; omega
  have E11 : y_ev x (0, [(10, 1)]) = x 10 := by show ((0) : Int) + ((1) * x 10 + 0) = _; omega
  have E12 : y_ev x (0, [(1, 1), (2, (-2))]) = x 1 - 2 * x 2 := by show ((0) : Int) + ((1) * x 1 + ((-2) * x 2 + 0)) = _; omega
  have E13 : y_ev x (0, [(2, 1)]) = x 2 := by show ((0) : Int) + ((1) * x 2 + 0) = _; omega
  have T0 : q_qry v (y_ev x (24, [])) (y_ev x (0, [(3, 1)])) (y_ev x (0, [(4, 1)])) (y_ev x (0, [(5, 1)])) (y_ev x (0, [(6, 1)])) (y_ev x (0, [(7, 1)])) (y_ev x (0, [(8, 1)])) (y_ev x (0, [(9, 1)])) (y_ev x (0, [(0, 1)])) (y_ev x (0, [(1, 1)])) (y_ev x (1, [])) := h.2.2.2.1
  try rw [E0] at T0; try rw [E1] at T0; try rw [E2] at T0; try rw [E3] at T0; try rw [E4] at T0; try rw [E5] at T0; try rw [E6] at T0; try rw [E7] at T0; try rw [E8] at T0; try rw [E9] at T0; try rw [E10] at T0
  have T1 : q_rwo v (y_ev x (0, [(10, 1)])) (y_ev x (0, [(3, 1)])) (y_ev x (0, [(4, 1)])) (y_ev x (0, [(5, 1)])) (y_ev x (0, [(6, 1)])) (y_ev x (0, [(7, 1)])) (y_ev x (0, [(8, 1)])) (y_ev x (0, [(9, 1)])) := h.2.2.2.2.1
  try rw [E11] at T1; try rw [E1] at T1; try rw [E2] at T1; try rw [E3] at T1; try rw [E4] at T1; try rw [E5] at T1; try rw [E6] at T1; try rw [E7] at T1
  have C0 : 0 ≤ y_ev x (0, [(1, 1), (2, (-2))]) := h.2.1.1
  rw [E12] at C0
  have F0 : 0 ≤ y_ev x (24, []) ∧ y_ev x (24, []) < j_len 78 ∧ v 78 (y_ev x (24, [])) = y_ev x (0, [(2, 1)]) := h.2.2.1.1.1
  try rw [E0] at F0; try rw [E13] at F0
  have K := k_nbrN (V := v) (w := x 0) (k := x 1) (p := x 2) (q := x 3) (b := x 4) (s := x 5) (o := x 6) (a1 := x 7) (a2 := x 8) (a3 := x 9) (H := x 10) T0 T1 C0 F0
  refine l_outH rfl (And.intro h.1 ?_)
  have O0 : y_ev x (3, []) = 3 := by show ((3) : Int) + 0 = _; omega
  have O1 : y_ev x (0, [(3, 1)]) = x 3 := by show ((0) : Int) + ((1) * x 3 + 0) = _; omega
  have O2 : y_ev x (0, [(4, 1)]) = x 4 := by show ((0) : Int) + ((1) * x 4 + 0) = _; omega
  have O3 : y_ev x (0, [(5, 1)]) = x 5 := by show ((0) : Int) + ((1) * x 5 + 0) = _; omega
  have O4 : y_ev x (0, [(6, 1)]) = x 6 := by show ((0) : Int) + ((1) * x 6 + 0) = _; omega
  have O5 : y_ev x (0, [(7, 1)]) = x 7 := by show ((0) : Int) + ((1) * x 7 + 0) = _; omega
  have O6 : y_ev x (0, [(8, 1)]) = x 8 := by show ((0) : Int) + ((1) * x 8 + 0) = _; omega
  have O7 : y_ev x (0, [(9, 1)]) = x 9 := by show ((0) : Int) + ((1) * x 9 + 0) = _; omega
  have O8 : y_ev x (0, [(0, 1)]) = x 0 := by show ((0) : Int) + ((1) * x 0 + 0) = _; omega
  have O9 : y_ev x (0, []) = 0 := by show ((0) : Int) + 0 = _; omega
  have O10 : y_ev x ((-1), []) = (-1) := by show ((-1) : Int) + 0 = _; omega
  show (True) ∧ (q_qry v (y_ev x (3, [])) (y_ev x (0, [(3, 1)])) (y_ev x (0, [(4, 1)])) (y_ev x (0, [(5, 1)])) (y_ev x (0, [(6, 1)])) (y_ev x (0, [(7, 1)])) (y_ev x (0, [(8, 1)])) (y_ev x (0, [(9, 1)])) (y_ev x (0, [(0, 1)])) (y_ev x (0, [])) (y_ev x ((-1), [])) ∧ True)
  try rw [O0]; try rw [O1]; try rw [O2]; try rw [O3]; try rw [O4]; try rw [O5]; try rw [O6]; try rw [O7]; try rw [O8]; try rw [O9]; try rw [O10]
  exact K
def lm_960 : zLem := (([((-2147483648), 2147483647), ((-2147483648), 2147483647), ((-2147483648), 2147483647), ((-2147483648), 2147483647), ((-2147483648), 2147483647), ((-2147483648), 2147483647), ((-2147483648), 2147483647), ((-2147483648), 2147483647), ((-2147483648), 2147483647), ((-2147483648), 2147483647), ((-2147483648), 2147483647), ((-2147483648), 2147483647), ((-2147483648), 2147483647), ((-2147483648), 2147483647), ((-2147483648), 2147483647)], [(78, false)], [], [], [], [(0, (true, 0, 24, []), 0, 0, 0, [(0, 1)]), (0, (true, 0, 6, []), 0, 0, 0, [(1, 1)]), (0, (true, 0, 7, []), 0, 0, 0, [(2, 1)]), (0, (true, 0, 8, []), 0, 0, 0, [(3, 1)]), (0, (true, 0, 9, []), 0, 0, 0, [(4, 1)]), (0, (true, 0, 10, []), 0, 0, 0, [(5, 1)]), (0, (true, 0, 11, []), 0, 0, 0, [(6, 1)])], [(237, [(0, [(7, 1)]), (0, [(8, 1)]), (0, [(9, 1)]), (0, [(10, 1)]), (0, [(11, 1)]), (0, [(12, 1)]), (0, [(13, 1)]), (0, [(14, 1)])])]), [([((-2147483648), 2147483647), ((-2147483648), 2147483647), ((-2147483648), 2147483647), ((-2147483648), 2147483647), ((-2147483648), 2147483647), ((-2147483648), 2147483647), ((-2147483648), 2147483647), ((-2147483648), 2147483647), ((-2147483648), 2147483647), ((-2147483648), 2147483647), ((-2147483648), 2147483647), ((-2147483648), 2147483647), ((-2147483648), 2147483647), ((-2147483648), 2147483647), ((-2147483648), 2147483647)], [(78, false)], [], [], [], [], [(238, [(1, []), (0, [(8, 1)]), (0, [(9, 1)]), (0, [(10, 1)]), (0, [(11, 1)]), (0, [(12, 1)]), (0, [(13, 1)]), (0, [(14, 1)]), (0, []), (0, [(0, 1)]), (0, [(1, 1), (2, 1), (3, 1), (4, 1), (5, 1), (6, 1)])])])])
theorem lk_960 : l_core lm_960 := by
  intro v x h
  have E0 : y_ev x (0, [(7, 1)]) = x 7 := by show ((0) : Int) + ((1) * x 7 + 0) = _; omega
  have E1 : y_ev x (0, [(8, 1)]) = x 8 := by show ((0) : Int) + ((1) * x 8 + 0) = _; omega
  have E2 : y_ev x (0, [(9, 1)]) = x 9 := by show ((0) : Int) + ((1) * x 9 + 0) = _; omega
  have E3 : y_ev x (0, [(10, 1)]) = x 10 := by show ((0) : Int) + ((1) * x 10 + 0) = _; omega
  have E4 : y_ev x (0, [(11, 1)]) = x 11 := by show ((0) : Int) + ((1) * x 11 + 0) = _; omega
  have E5 : y_ev x (0, [(12, 1)]) = x 12 := by show ((0) : Int) + ((1) * x 12 + 0) = _; omega
  have E6 : y_ev x (0, [(13, 1)]) = x 13 := by show ((0) : Int) + ((1) * x 13 + 0) = _; omega
  have E7 : y_ev x (0, [(14, 1)]) = x 14 := by show ((0) : Int) + ((1) * x 14 + 0) = _; omega
  have E8 : y_ev x (24, []) = 24 := by show ((24) : Int) + 0 = _; omega
  have E9 : y_ev x (0, [(0, 1)]) = x 0 := by show ((0) : Int) + ((1) * x 0 + 0) = _; omega
  have E10 : y_ev x (6, []) = 6 := by show ((6) : Int) + 0 = _; omega
  have E11 : y_ev x (0, [(1, 1)]) = x 1 := by show ((0) : Int) + ((1) * x 1 + 0) = _; omega
  have E12 : y_ev x (7, []) = 7 := by show ((7) : Int) + 0 = _; omega
  have E13 : y_ev x (0, [(2, 1)]) = x 2 := by show ((0) : Int) + ((1) * x 2 + 0) = _; omega
  have E14 : y_ev x (8, []) = 8 := by show ((8) : Int) + 0 = _; omega
  have E15 : y_ev x (0, [(3, 1)]) = x 3 := by show ((0) : Int) + ((1) * x 3 + 0) = _; omega
  have E16 : y_ev x (9, []) = 9 := by show ((9) : Int) + 0 = _; omega
  have E17 : y_ev x (0, [(4, 1)]) = x 4 := by show ((0) : Int) + ((1) * x 4 + 0) = _; omega
  have E18 : y_ev x (10, []) = 10 := by show ((10) : Int) + 0 = _; omega
  have E19 : y_ev x (0, [(5, 1)]) = x 5 := by show ((0) : Int) + ((1) * x 5 + 0) = _; omega
  have E20 : y_ev x (11, []) = 11 := by show ((11) : Int) + 0 = _; omega
  have E21 : y_ev x (0, [(6, 1)]) = x 6 := by show ((0) : Int) + ((1) * x 6 + 0) = _; omega
  have T0 : q_rwo v (y_ev x (0, [(7, 1)])) (y_ev x (0, [(8, 1)])) (y_ev x (0, [(9, 1)])) (y_ev x (0, [(10, 1)])) (y_ev x (0, [(11, 1)])) (y_ev x (0, [(12, 1)])) (y_ev x (0, [(13, 1)])) (y_ev x (0, [(14, 1)])) := h.2.2.2.1
  try rw [E0] at T0; try rw [E1] at T0; try rw [E2] at T0; try rw [E3] at T0; try rw [E4] at T0; try rw [E5] at T0; try rw [E6] at T0; try rw [E7] at T0
  have F0 : 0 ≤ y_ev x (24, []) ∧ y_ev x (24, []) < j_len 78 ∧ v 78 (y_ev x (24, [])) = y_ev x (0, [(0, 1)]) := h.2.2.1.1.1
  try rw [E8] at F0; try rw [E9] at F0
  have F1 : 0 ≤ y_ev x (6, []) ∧ y_ev x (6, []) < j_len 78 ∧ v 78 (y_ev x (6, [])) = y_ev x (0, [(1, 1)]) := h.2.2.1.2.1.1
  try rw [E10] at F1; try rw [E11] at F1
  have F2 : 0 ≤ y_ev x (7, []) ∧ y_ev x (7, []) < j_len 78 ∧ v 78 (y_ev x (7, [])) = y_ev x (0, [(2, 1)]) := h.2.2.1.2.2.1.1
  try rw [E12] at F2; try rw [E13] at F2
  have F3 : 0 ≤ y_ev x (8, []) ∧ y_ev x (8, []) < j_len 78 ∧ v 78 (y_ev x (8, [])) = y_ev x (0, [(3, 1)]) := h.2.2.1.2.2.2.1.1
  try rw [E14] at F3; try rw [E15] at F3
  have F4 : 0 ≤ y_ev x (9, []) ∧ y_ev x (9, []) < j_len 78 ∧ v 78 (y_ev x (9, [])) = y_ev x (0, [(4, 1)]) := h.2.2.1.2.2.2.2.1.1
  try rw [E16] at F4; try rw [E17] at F4
  have F5 : 0 ≤ y_ev x (10, []) ∧ y_ev x (10, []) < j_len 78 ∧ v 78 (y_ev x (10, [])) = y_ev x (0, [(5, 1)]) := h.2.2.1.2.2.2.2.2.1.1
  try rw [E18] at F5; try rw [E19] at F5
  have F6 : 0 ≤ y_ev x (11, []) ∧ y_ev x (11, []) < j_len 78 ∧ v 78 (y_ev x (11, [])) = y_ev x (0, [(6, 1)]) := h.2.2.1.2.2.2.2.2.2.1.1
  try rw [E20] at F6; try rw [E21] at F6
  have K := k_rlen (V := v) (p := x 0) (w0 := x 1) (w1 := x 2) (w2 := x 3) (w3 := x 4) (w4 := x 5) (w5 := x 6) (H := x 7) (q := x 8) (b := x 9) (s := x 10) (o := x 11) (a1 := x 12) (a2 := x 13) (a3 := x 14) T0 F0 F1 F2 F3 F4 F5 F6
  refine l_outH rfl (And.intro h.1 ?_)
  have O0 : y_ev x (1, []) = 1 := by show ((1) : Int) + 0 = _; omega
  have O1 : y_ev x (0, [(8, 1)]) = x 8 := by show ((0) : Int) + ((1) * x 8 + 0) = _; omega
  have O2 : y_ev x (0, [(9, 1)]) = x 9 := by show ((0) : Int) + ((1) * x 9 + 0) = _; omega
  have O3 : y_ev x (0, [(10, 1)]) = x 10 := by show ((0) : Int) + ((1) * x 10 + 0) = _; omega
  have O4 : y_ev x (0, [(11, 1)]) = x 11 := by show ((0) : Int) + ((1) * x 11 + 0) = _; omega
  have O5 : y_ev x (0, [(12, 1)]) = x 12 := by show ((0) : Int) + ((1) * x 12 + 0) = _; omega
  have O6 : y_ev x (0, [(13, 1)]) = x 13 := by show ((0) : Int) + ((1) * x 13 + 0) = _; omega
  have O7 : y_ev x (0, [(14, 1)]) = x 14 := by show ((0) : Int) + ((1) * x 14 + 0) = _; omega
  have O8 : y_ev x (0, []) = 0 := by show ((0) : Int) + 0 = _; omega
  have O9 : y_ev x (0, [(0, 1)]) = x 0 := by show ((0) : Int) + ((1) * x 0 + 0) = _; omega
  have O10 : y_ev x (0, [(1, 1), (2, 1), (3, 1), (4, 1), (5, 1), (6, 1)]) = x 1 + x 2 + x 3 + x 4 + x 5 + x 6 := by show ((0) : Int) + ((1) * x 1 + ((1) * x 2 + ((1) * x 3 + ((1) * x 4 + ((1) * x 5 + ((1) * x 6 + 0)))))) = _; omega
  show (True) ∧ (q_qry v (y_ev x (1, [])) (y_ev x (0, [(8, 1)])) (y_ev x (0, [(9, 1)])) (y_ev x (0, [(10, 1)])) (y_ev x (0, [(11, 1)])) (y_ev x (0, [(12, 1)])) (y_ev x (0, [(13, 1)])) (y_ev x (0, [(14, 1)])) (y_ev x (0, [])) (y_ev x (0, [(0, 1)])) (y_ev x (0, [(1, 1), (2, 1), (3, 1), (4, 1), (5, 1), (6, 1)])) ∧ True)
  try rw [O0]; try rw [O1]; try rw [O2]; try rw [O3]; try rw [O4]; try rw [O5]; try rw [O6]; try rw [O7]; try rw [O8]; try rw [O9]; try rw [O10]
  exact K
def lm_961 : zLem := (([((-2147483648), 2147483647), ((-2147483648), 2147483647), ((-2147483648), 2147483647), ((-2147483648), 2147483647), ((-2147483648), 2147483647), ((-2147483648), 2147483647), ((-2147483648), 2147483647), ((-2147483648), 2147483647), ((-2147483648), 2147483647), ((-2147483648), 2147483647)], [], [(6, [(1, (-1))])], [], [(0, 0, 0, [(0, 1)])], [], [(238, [(1, []), (0, [(2, 1)]), (0, [(3, 1)]), (0, [(4, 1)]), (0, [(5, 1)]), (0, [(6, 1)]), (0, [(7, 1)]), (0, [(8, 1)]), (0, []), (0, [(1, 1)]), (0, [(0, 1)])]), (237, [(0, [(9, 1)]), (0, [(2, 1)]), (0, [(3, 1)]), (0, [(4, 1)]), (0, [(5, 1)]), (0, [(6, 1)]), (0, [(7, 1)]), (0, [(8, 1)])])]), [([((-2147483648), 2147483647), ((-2147483648), 2147483647), ((-2147483648), 2147483647), ((-2147483648), 2147483647), ((-2147483648), 2147483647), ((-2147483648), 2147483647), ((-2147483648), 2147483647), ((-2147483648), 2147483647), ((-2147483648), 2147483647), ((-2147483648), 2147483647)], [], [(0, [(0, 1)]), (594, [(0, (-1))])], [], [], [], [])])
theorem lk_961 : l_core lm_961 := by
  intro v x h
  have E0 : y_ev x (1, []) = 1 := by show ((1) : Int) + 0 = _; omega
  have E1 : y_ev x (0, [(2, 1)]) = x 2 := by show ((0) : Int) + ((1) * x 2 + 0) = _; omega
  have E2 : y_ev x (0, [(3, 1)]) = x 3 := by show ((0) : Int) + ((1) * x 3 + 0) = _; omega
  have E3 : y_ev x (0, [(4, 1)]) = x 4 := by show ((0) : Int) + ((1) * x 4 + 0) = _; omega
  have E4 : y_ev x (0, [(5, 1)]) = x 5 := by show ((0) : Int) + ((1) * x 5 + 0) = _; omega
  have E5 : y_ev x (0, [(6, 1)]) = x 6 := by show ((0) : Int) + ((1) * x 6 + 0) = _; omega
  have E6 : y_ev x (0, [(7, 1)]) = x 7 := by show ((0) : Int) + ((1) * x 7 + 0) = _; omega
  have E7 : y_ev x (0, [(8, 1)]) = x 8 := by show ((0) : Int) + ((1) * x 8 + 0) = _; omega
  have E8 : y_ev x (0, []) = 0 := by show ((0) : Int) + 0 = _; omega
  have E9 : y_ev x (0, [(1, 1)]) = x 1 := by show ((0) : Int) + ((1) * x 1 + 0) = _; omega
  have E10 : y_ev x (0, [(0, 1)]) = x 0 := by show ((0) : Int) + ((1) * x 0 + 0) = _; omega
  have E11 : y_ev x (0, [(9, 1)]) = x 9 := by show ((0) : Int) + ((1) * x 9 + 0) = _; omega
  have E12 : y_ev x (6, [(1, (-1))]) = 6 - x 1 := by show ((6) : Int) + ((-1) * x 1 + 0) = _; omega
  have T0 : q_qry v (y_ev x (1, [])) (y_ev x (0, [(2, 1)])) (y_ev x (0, [(3, 1)])) (y_ev x (0, [(4, 1)])) (y_ev x (0, [(5, 1)])) (y_ev x (0, [(6, 1)])) (y_ev x (0, [(7, 1)])) (y_ev x (0, [(8, 1)])) (y_ev x (0, [])) (y_ev x (0, [(1, 1)])) (y_ev x (0, [(0, 1)])) := h.2.2.2.1
  try rw [E0] at T0; try rw [E1] at T0; try rw [E2] at T0; try rw [E3] at T0; try rw [E4] at T0; try rw [E5] at T0; try rw [E6] at T0; try rw [E7] at T0; try rw [E8] at T0; try rw [E9] at T0; try rw [E10] at T0
  have T1 : q_rwo v (y_ev x (0, [(9, 1)])) (y_ev x (0, [(2, 1)])) (y_ev x (0, [(3, 1)])) (y_ev x (0, [(4, 1)])) (y_ev x (0, [(5, 1)])) (y_ev x (0, [(6, 1)])) (y_ev x (0, [(7, 1)])) (y_ev x (0, [(8, 1)])) := h.2.2.2.2.1
  try rw [E11] at T1; try rw [E1] at T1; try rw [E2] at T1; try rw [E3] at T1; try rw [E4] at T1; try rw [E5] at T1; try rw [E6] at T1; try rw [E7] at T1
  have C0 : 0 ≤ y_ev x (6, [(1, (-1))]) := h.2.1.1
  rw [E12] at C0
  have K := k_rlenR (V := v) (u := x 0) (p := x 1) (q := x 2) (b := x 3) (s := x 4) (o := x 5) (a1 := x 6) (a2 := x 7) (a3 := x 8) (H := x 9) T0 T1 C0
  refine l_outH rfl (And.intro h.1 ?_)
  have O0 : y_ev x (0, [(0, 1)]) = x 0 := by show ((0) : Int) + ((1) * x 0 + 0) = _; omega
  have O1 : y_ev x (594, [(0, (-1))]) = 594 - x 0 := by show ((594) : Int) + ((-1) * x 0 + 0) = _; omega
  show (0 ≤ y_ev x (0, [(0, 1)]) ∧ 0 ≤ y_ev x (594, [(0, (-1))]) ∧ True) ∧ (True)
  try rw [O0]; try rw [O1]
  exact K
def lm_962 : zLem := (([((-2147483648), 2147483647), ((-2147483648), 2147483647)], [(78, false)], [], [], [], [(0, (true, 0, 24, []), 0, 0, 0, [(0, 1)])], [(237, [(0, [(1, 1)]), (0, []), (0, []), (0, []), (0, []), (0, []), (0, []), (0, [])])]), [([((-2147483648), 2147483647), ((-2147483648), 2147483647)], [(78, false)], [], [], [], [], [(237, [(0, [(1, 1)]), (0, []), (0, []), (0, []), (2, []), (0, [(0, 1)]), (0, []), (0, [])])])])
theorem lk_962 : l_core lm_962 := by
  intro v x h
  have E0 : y_ev x (0, [(1, 1)]) = x 1 := by show ((0) : Int) + ((1) * x 1 + 0) = _; omega
  have E1 : y_ev x (0, []) = 0 := by show ((0) : Int) + 0 = _; omega
  have E2 : y_ev x (24, []) = 24 := by show ((24) : Int) + 0 = _; omega
  have E3 : y_ev x (0, [(0, 1)]) = x 0 := by show ((0) : Int) + ((1) * x 0 + 0) = _; omega
  have T0 : q_rwo v (y_ev x (0, [(1, 1)])) (y_ev x (0, [])) (y_ev x (0, [])) (y_ev x (0, [])) (y_ev x (0, [])) (y_ev x (0, [])) (y_ev x (0, [])) (y_ev x (0, [])) := h.2.2.2.1
  try rw [E0] at T0; try rw [E1] at T0
  have F0 : 0 ≤ y_ev x (24, []) ∧ y_ev x (24, []) < j_len 78 ∧ v 78 (y_ev x (24, [])) = y_ev x (0, [(0, 1)]) := h.2.2.1.1.1
  try rw [E2] at F0; try rw [E3] at F0
  have K := k_los0 (V := v) (p := x 0) (H := x 1) T0 F0
  refine l_outH rfl (And.intro h.1 ?_)
  have O0 : y_ev x (0, [(1, 1)]) = x 1 := by show ((0) : Int) + ((1) * x 1 + 0) = _; omega
  have O1 : y_ev x (0, []) = 0 := by show ((0) : Int) + 0 = _; omega
  have O2 : y_ev x (2, []) = 2 := by show ((2) : Int) + 0 = _; omega
  have O3 : y_ev x (0, [(0, 1)]) = x 0 := by show ((0) : Int) + ((1) * x 0 + 0) = _; omega
  show (True) ∧ (q_rwo v (y_ev x (0, [(1, 1)])) (y_ev x (0, [])) (y_ev x (0, [])) (y_ev x (0, [])) (y_ev x (2, [])) (y_ev x (0, [(0, 1)])) (y_ev x (0, [])) (y_ev x (0, [])) ∧ True)
  try rw [O0]; try rw [O1]; try rw [O2]; try rw [O3]
  exact K
def lm_963 : zLem := (([((-2147483648), 2147483647), ((-2147483648), 2147483647), ((-2147483648), 2147483647)], [(78, false)], [((-1), [(0, 1)]), (6, [(0, (-1))])], [], [], [(0, (true, 0, 24, []), 0, 0, 0, [(0, 1)]), (0, (true, 0, 24, [(0, 1)]), 0, 0, 0, [(1, 1)])], [(237, [(0, [(2, 1)]), (0, []), (0, []), (0, []), (2, []), (0, [(0, 1)]), (0, []), (0, [])])]), [([((-2147483648), 2147483647), ((-2147483648), 2147483647), ((-2147483648), 2147483647)], [(78, false)], [(0, [(1, 1)]), ((-1), [(1, (-1)), (2, 1)])], [], [], [], [(264, [(0, [(2, 1)]), (0, [(0, 1)]), (24, []), (24, [(0, 1)]), (6, [(1, 1)]), (12, [(1, 1)])])])])
theorem lk_963 : l_core lm_963 := by
  intro v x h
  have E0 : y_ev x (0, [(2, 1)]) = x 2 := by show ((0) : Int) + ((1) * x 2 + 0) = _; omega
  have E1 : y_ev x (0, []) = 0 := by show ((0) : Int) + 0 = _; omega
  have E2 : y_ev x (2, []) = 2 := by show ((2) : Int) + 0 = _; omega
  have E3 : y_ev x (0, [(0, 1)]) = x 0 := by show ((0) : Int) + ((1) * x 0 + 0) = _; omega
  have E4 : y_ev x ((-1), [(0, 1)]) = x 0 - 1 := by show ((-1) : Int) + ((1) * x 0 + 0) = _; omega
  have E5 : y_ev x (6, [(0, (-1))]) = 6 - x 0 := by show ((6) : Int) + ((-1) * x 0 + 0) = _; omega
  have E6 : y_ev x (24, []) = 24 := by show ((24) : Int) + 0 = _; omega
  have E7 : y_ev x (24, [(0, 1)]) = x 0 + 24 := by show ((24) : Int) + ((1) * x 0 + 0) = _; omega
  have E8 : y_ev x (0, [(1, 1)]) = x 1 := by show ((0) : Int) + ((1) * x 1 + 0) = _; omega
  have T0 : q_rwo v (y_ev x (0, [(2, 1)])) (y_ev x (0, [])) (y_ev x (0, [])) (y_ev x (0, [])) (y_ev x (2, [])) (y_ev x (0, [(0, 1)])) (y_ev x (0, [])) (y_ev x (0, [])) := h.2.2.2.1
  try rw [E0] at T0; try rw [E1] at T0; try rw [E2] at T0; try rw [E3] at T0
  have C0 : 0 ≤ y_ev x ((-1), [(0, 1)]) := h.2.1.1
  rw [E4] at C0
  have C1 : 0 ≤ y_ev x (6, [(0, (-1))]) := h.2.1.2.1
  rw [E5] at C1
  have F0 : 0 ≤ y_ev x (24, []) ∧ y_ev x (24, []) < j_len 78 ∧ v 78 (y_ev x (24, [])) = y_ev x (0, [(0, 1)]) := h.2.2.1.1.1
  try rw [E6] at F0; try rw [E3] at F0
  have F1 : 0 ≤ y_ev x (24, [(0, 1)]) ∧ y_ev x (24, [(0, 1)]) < j_len 78 ∧ v 78 (y_ev x (24, [(0, 1)])) = y_ev x (0, [(1, 1)]) := h.2.2.1.2.1.1
  try rw [E7] at F1; try rw [E8] at F1
  have K := k_losX (V := v) (p := x 0) (h := x 1) (H := x 2) T0 C0 C1 F0 F1
  refine l_outH rfl (And.intro h.1 ?_)
  have O0 : y_ev x (0, [(1, 1)]) = x 1 := by show ((0) : Int) + ((1) * x 1 + 0) = _; omega
  have O1 : y_ev x ((-1), [(1, (-1)), (2, 1)]) = x 2 - x 1 - 1 := by show ((-1) : Int) + ((-1) * x 1 + ((1) * x 2 + 0)) = _; omega
  have O2 : y_ev x (0, [(2, 1)]) = x 2 := by show ((0) : Int) + ((1) * x 2 + 0) = _; omega
  have O3 : y_ev x (0, [(0, 1)]) = x 0 := by show ((0) : Int) + ((1) * x 0 + 0) = _; omega
  have O4 : y_ev x (24, []) = 24 := by show ((24) : Int) + 0 = _; omega
  have O5 : y_ev x (24, [(0, 1)]) = x 0 + 24 := by show ((24) : Int) + ((1) * x 0 + 0) = _; omega
  have O6 : y_ev x (6, [(1, 1)]) = x 1 + 6 := by show ((6) : Int) + ((1) * x 1 + 0) = _; omega
  have O7 : y_ev x (12, [(1, 1)]) = x 1 + 12 := by show ((12) : Int) + ((1) * x 1 + 0) = _; omega
  show (0 ≤ y_ev x (0, [(1, 1)]) ∧ 0 ≤ y_ev x ((-1), [(1, (-1)), (2, 1)]) ∧ True) ∧ (q_rlx v (y_ev x (0, [(2, 1)])) (y_ev x (0, [(0, 1)])) (y_ev x (24, [])) (y_ev x (24, [(0, 1)])) (y_ev x (6, [(1, 1)])) (y_ev x (12, [(1, 1)])) ∧ True)
  try rw [O0]; try rw [O1]; try rw [O2]; try rw [O3]; try rw [O4]; try rw [O5]; try rw [O6]; try rw [O7]
  exact K
def lm_964 : zLem := (([((-2147483648), 2147483647), ((-2147483648), 2147483647), ((-2147483648), 2147483647)], [(78, false)], [((-1), [(0, 1)]), (6, [(0, (-1))])], [], [(0, 0, 0, [(1, 1)])], [(0, (true, 0, 24, []), 0, 0, (-1), [(0, 1)]), (0, (true, 0, 24, [(0, 1)]), 0, 0, 0, []), (0, (true, 0, 6, [(1, 1)]), 0, 0, 0, []), (0, (true, 0, 12, [(1, 1)]), 0, 0, 0, [])], [(264, [(0, [(2, 1)]), (0, [(0, 1)]), (24, []), (24, [(0, 1)]), (6, [(1, 1)]), (12, [(1, 1)])])]), [([((-2147483648), 2147483647), ((-2147483648), 2147483647), ((-2147483648), 2147483647)], [(78, false)], [], [], [], [], [(237, [(0, [(2, 1)]), (0, []), (0, []), (0, []), (2, []), ((-1), [(0, 1)]), (0, []), (0, [])])])])
theorem lk_964 : l_core lm_964 := by
  intro v x h
  have E0 : y_ev x (0, [(2, 1)]) = x 2 := by show ((0) : Int) + ((1) * x 2 + 0) = _; omega
  have E1 : y_ev x (0, [(0, 1)]) = x 0 := by show ((0) : Int) + ((1) * x 0 + 0) = _; omega
  have E2 : y_ev x (24, []) = 24 := by show ((24) : Int) + 0 = _; omega
  have E3 : y_ev x (24, [(0, 1)]) = x 0 + 24 := by show ((24) : Int) + ((1) * x 0 + 0) = _; omega
  have E4 : y_ev x (6, [(1, 1)]) = x 1 + 6 := by show ((6) : Int) + ((1) * x 1 + 0) = _; omega
  have E5 : y_ev x (12, [(1, 1)]) = x 1 + 12 := by show ((12) : Int) + ((1) * x 1 + 0) = _; omega
  have E6 : y_ev x ((-1), [(0, 1)]) = x 0 - 1 := by show ((-1) : Int) + ((1) * x 0 + 0) = _; omega
  have E7 : y_ev x (6, [(0, (-1))]) = 6 - x 0 := by show ((6) : Int) + ((-1) * x 0 + 0) = _; omega
  have E8 : y_ev x (0, []) = 0 := by show ((0) : Int) + 0 = _; omega
  have T0 : q_rlx v (y_ev x (0, [(2, 1)])) (y_ev x (0, [(0, 1)])) (y_ev x (24, [])) (y_ev x (24, [(0, 1)])) (y_ev x (6, [(1, 1)])) (y_ev x (12, [(1, 1)])) := h.2.2.2.1
  try rw [E0] at T0; try rw [E1] at T0; try rw [E2] at T0; try rw [E3] at T0; try rw [E4] at T0; try rw [E5] at T0
  have C0 : 0 ≤ y_ev x ((-1), [(0, 1)]) := h.2.1.1
  rw [E6] at C0
  have C1 : 0 ≤ y_ev x (6, [(0, (-1))]) := h.2.1.2.1
  rw [E7] at C1
  have F0 : 0 ≤ y_ev x (24, []) ∧ y_ev x (24, []) < j_len 78 ∧ v 78 (y_ev x (24, [])) = y_ev x ((-1), [(0, 1)]) := h.2.2.1.1.1
  try rw [E2] at F0; try rw [E6] at F0
  have F1 : 0 ≤ y_ev x (24, [(0, 1)]) ∧ y_ev x (24, [(0, 1)]) < j_len 78 ∧ v 78 (y_ev x (24, [(0, 1)])) = y_ev x (0, []) := h.2.2.1.2.1.1
  try rw [E3] at F1; try rw [E8] at F1
  have F2 : 0 ≤ y_ev x (6, [(1, 1)]) ∧ y_ev x (6, [(1, 1)]) < j_len 78 ∧ v 78 (y_ev x (6, [(1, 1)])) = y_ev x (0, []) := h.2.2.1.2.2.1.1
  try rw [E4] at F2; try rw [E8] at F2
  have F3 : 0 ≤ y_ev x (12, [(1, 1)]) ∧ y_ev x (12, [(1, 1)]) < j_len 78 ∧ v 78 (y_ev x (12, [(1, 1)])) = y_ev x (0, []) := h.2.2.1.2.2.2.1.1
  try rw [E5] at F3; try rw [E8] at F3
  have K := k_losE (V := v) (p := x 0) (h := x 1) (H := x 2) T0 C0 C1 F0 F1 F2 F3
  refine l_outH rfl (And.intro h.1 ?_)
  have O0 : y_ev x (0, [(2, 1)]) = x 2 := by show ((0) : Int) + ((1) * x 2 + 0) = _; omega
  have O1 : y_ev x (0, []) = 0 := by show ((0) : Int) + 0 = _; omega
  have O2 : y_ev x (2, []) = 2 := by show ((2) : Int) + 0 = _; omega
  have O3 : y_ev x ((-1), [(0, 1)]) = x 0 - 1 := by show ((-1) : Int) + ((1) * x 0 + 0) = _; omega
  show (True) ∧ (q_rwo v (y_ev x (0, [(2, 1)])) (y_ev x (0, [])) (y_ev x (0, [])) (y_ev x (0, [])) (y_ev x (2, [])) (y_ev x ((-1), [(0, 1)])) (y_ev x (0, [])) (y_ev x (0, [])) ∧ True)
  try rw [O0]; try rw [O1]; try rw [O2]; try rw [O3]
  exact K
def lm_965 : zLem := (([((-2147483648), 2147483647), ((-2147483648), 2147483647), ((-2147483648), 2147483647), ((-2147483648), 2147483647), ((-2147483648), 2147483647), ((-2147483648), 2147483647)], [(12, false)], [], [], [(0, 0, 0, [(1, 1)]), (0, 0, 0, [(5, 1)])], [(0, (false, 49, 0, []), 0, 0, 0, [(0, 1)])], [(256, [(0, [(0, 1)]), (219, []), (0, [(2, 1)])]), (256, [(0, [(2, 1)]), (0, [(1, 1)]), (0, [(3, 1)])]), (106, [(0, [(3, 1)]), (1, []), (0, [(4, 1)])]), (108, [(0, [(4, 1)]), (100, []), (0, [(5, 1)])])]), [([((-2147483648), 2147483647), ((-2147483648), 2147483647), ((-2147483648), 2147483647), ((-2147483648), 2147483647), ((-2147483648), 2147483647), ((-2147483648), 2147483647)], [(12, false)], [(0, [(5, 1)]), (99, [(5, (-1))])], [], [], [], [(255, [(0, [(0, 1)]), (0, [(1, 1)]), (0, [(5, 1)])])])])
theorem lk_965 : l_core lm_965 := by
  intro v x h
  have E0 : y_ev x (0, [(0, 1)]) = x 0 := by show ((0) : Int) + ((1) * x 0 + 0) = _; omega
  have E1 : y_ev x (219, []) = 219 := by show ((219) : Int) + 0 = _; omega
  have E2 : y_ev x (0, [(2, 1)]) = x 2 := by show ((0) : Int) + ((1) * x 2 + 0) = _; omega
  have E3 : y_ev x (0, [(1, 1)]) = x 1 := by show ((0) : Int) + ((1) * x 1 + 0) = _; omega
  have E4 : y_ev x (0, [(3, 1)]) = x 3 := by show ((0) : Int) + ((1) * x 3 + 0) = _; omega
  have E5 : y_ev x (1, []) = 1 := by show ((1) : Int) + 0 = _; omega
  have E6 : y_ev x (0, [(4, 1)]) = x 4 := by show ((0) : Int) + ((1) * x 4 + 0) = _; omega
  have E7 : y_ev x (100, []) = 100 := by show ((100) : Int) + 0 = _; omega
  have E8 : y_ev x (0, [(5, 1)]) = x 5 := by show ((0) : Int) + ((1) * x 5 + 0) = _; omega
  have T0 : (y_ev x (0, [(2, 1)])) = g_mx (y_ev x (0, [(0, 1)])) (y_ev x (219, [])) := h.2.2.2.1
  try rw [E0] at T0; try rw [E1] at T0; try rw [E2] at T0
  have T1 : (y_ev x (0, [(3, 1)])) = g_mx (y_ev x (0, [(2, 1)])) (y_ev x (0, [(1, 1)])) := h.2.2.2.2.1
  try rw [E2] at T1; try rw [E3] at T1; try rw [E4] at T1
  have T2 : (mOP 106 (Int32.ofInt (y_ev x (0, [(3, 1)]))) (Int32.ofInt (y_ev x (1, [])))).toInt = (y_ev x (0, [(4, 1)])) := h.2.2.2.2.2.1
  try rw [E4] at T2; try rw [E5] at T2; try rw [E6] at T2
  have T3 : (mOP 108 (Int32.ofInt (y_ev x (0, [(4, 1)]))) (Int32.ofInt (y_ev x (100, [])))).toInt = (y_ev x (0, [(5, 1)])) := h.2.2.2.2.2.2.1
  try rw [E6] at T3; try rw [E7] at T3; try rw [E8] at T3
  have K := k_lot (V := v) (z := x 0) (w := x 1) (a := x 2) (c := x 3) (e := x 4) (r := x 5) T0 T1 T2 T3
  refine l_outH rfl (And.intro h.1 ?_)
  have O0 : y_ev x (0, [(5, 1)]) = x 5 := by show ((0) : Int) + ((1) * x 5 + 0) = _; omega
  have O1 : y_ev x (99, [(5, (-1))]) = 99 - x 5 := by show ((99) : Int) + ((-1) * x 5 + 0) = _; omega
  have O2 : y_ev x (0, [(0, 1)]) = x 0 := by show ((0) : Int) + ((1) * x 0 + 0) = _; omega
  have O3 : y_ev x (0, [(1, 1)]) = x 1 := by show ((0) : Int) + ((1) * x 1 + 0) = _; omega
  show (0 ≤ y_ev x (0, [(5, 1)]) ∧ 0 ≤ y_ev x (99, [(5, (-1))]) ∧ True) ∧ (((y_ev x (0, [(5, 1)])) = g_lot (y_ev x (0, [(0, 1)])) (y_ev x (0, [(1, 1)]))) ∧ True)
  try rw [O0]; try rw [O1]; try rw [O2]; try rw [O3]
  exact K
def lm_966 : zLem := (([((-2147483648), 2147483647), ((-2147483648), 2147483647), ((-2147483648), 2147483647), ((-2147483648), 2147483647), ((-2147483648), 2147483647), ((-2147483648), 2147483647), ((-2147483648), 2147483647), ((-2147483648), 2147483647)], [], [], [], [(0, 0, 0, [(0, 1)])], [], [(237, [(0, [(1, 1)]), (0, [(2, 1)]), (0, []), (0, [(3, 1)]), (0, [(4, 1)]), (0, [(5, 1)]), (0, [(6, 1)]), (0, [(7, 1)])])]), [([((-2147483648), 2147483647), ((-2147483648), 2147483647), ((-2147483648), 2147483647), ((-2147483648), 2147483647), ((-2147483648), 2147483647), ((-2147483648), 2147483647), ((-2147483648), 2147483647), ((-2147483648), 2147483647)], [], [], [], [], [], [(238, [(25, []), (0, [(2, 1)]), (0, []), (0, [(3, 1)]), (0, [(4, 1)]), (0, [(5, 1)]), (0, [(6, 1)]), (0, [(7, 1)]), (0, [(0, 1)]), (0, []), (0, [])])])])
theorem lk_966 : l_core lm_966 := by
  intro v x h
  have E0 : y_ev x (0, [(1, 1)]) = x 1 := by show ((0) : Int) + ((1) * x 1 + 0) = _; omega
  have E1 : y_ev x (0, [(2, 1)]) = x 2 := by show ((0) : Int) + ((1) * x 2 + 0) = _; omega
  have E2 : y_ev x (0, []) = 0 := by show ((0) : Int) + 0 = _; omega
  have E3 : y_ev x (0, [(3, 1)]) = x 3 := by show ((0) : Int) + ((1) * x 3 + 0) = _; omega
  have E4 : y_ev x (0, [(4, 1)]) = x 4 := by show ((0) : Int) + ((1) * x 4 + 0) = _; omega
  have E5 : y_ev x (0, [(5, 1)]) = x 5 := by show ((0) : Int) + ((1) * x 5 + 0) = _; omega
  have E6 : y_ev x (0, [(6, 1)]) = x 6 := by show ((0) : Int) + ((1) * x 6 + 0) = _; omega
  have E7 : y_ev x (0, [(7, 1)]) = x 7 := by show ((0) : Int) + ((1) * x 7 + 0) = _; omega
  have T0 : q_rwo v (y_ev x (0, [(1, 1)])) (y_ev x (0, [(2, 1)])) (y_ev x (0, [])) (y_ev x (0, [(3, 1)])) (y_ev x (0, [(4, 1)])) (y_ev x (0, [(5, 1)])) (y_ev x (0, [(6, 1)])) (y_ev x (0, [(7, 1)])) := h.2.2.2.1
  try rw [E0] at T0; try rw [E1] at T0; try rw [E2] at T0; try rw [E3] at T0; try rw [E4] at T0; try rw [E5] at T0; try rw [E6] at T0; try rw [E7] at T0
  have K := k_blis (V := v) (h := x 0) (H := x 1) (q := x 2) (s := x 3) (o := x 4) (a1 := x 5) (a2 := x 6) (a3 := x 7) T0
  refine l_outH rfl (And.intro h.1 ?_)
  have O0 : y_ev x (25, []) = 25 := by show ((25) : Int) + 0 = _; omega
  have O1 : y_ev x (0, [(2, 1)]) = x 2 := by show ((0) : Int) + ((1) * x 2 + 0) = _; omega
  have O2 : y_ev x (0, []) = 0 := by show ((0) : Int) + 0 = _; omega
  have O3 : y_ev x (0, [(3, 1)]) = x 3 := by show ((0) : Int) + ((1) * x 3 + 0) = _; omega
  have O4 : y_ev x (0, [(4, 1)]) = x 4 := by show ((0) : Int) + ((1) * x 4 + 0) = _; omega
  have O5 : y_ev x (0, [(5, 1)]) = x 5 := by show ((0) : Int) + ((1) * x 5 + 0) = _; omega
  have O6 : y_ev x (0, [(6, 1)]) = x 6 := by show ((0) : Int) + ((1) * x 6 + 0) = _; omega
  have O7 : y_ev x (0, [(7, 1)]) = x 7 := by show ((0) : Int) + ((1) * x 7 + 0) = _; omega
  have O8 : y_ev x (0, [(0, 1)]) = x 0 := by show ((0) : Int) + ((1) * x 0 + 0) = _; omega
  show (True) ∧ (q_qry v (y_ev x (25, [])) (y_ev x (0, [(2, 1)])) (y_ev x (0, [])) (y_ev x (0, [(3, 1)])) (y_ev x (0, [(4, 1)])) (y_ev x (0, [(5, 1)])) (y_ev x (0, [(6, 1)])) (y_ev x (0, [(7, 1)])) (y_ev x (0, [(0, 1)])) (y_ev x (0, [])) (y_ev x (0, [])) ∧ True)
  try rw [O0]; try rw [O1]; try rw [O2]; try rw [O3]; try rw [O4]; try rw [O5]; try rw [O6]; try rw [O7]; try rw [O8]
  exact K
def lm_967 : zLem := (([((-2147483648), 2147483647), ((-2147483648), 2147483647), ((-2147483648), 2147483647), ((-2147483648), 2147483647), ((-2147483648), 2147483647), ((-2147483648), 2147483647), ((-2147483648), 2147483647), ((-2147483648), 2147483647)], [], [], [], [], [], [(237, [(0, [(0, 1)]), (0, [(1, 1)]), (0, [(2, 1)]), (0, [(3, 1)]), (0, [(4, 1)]), (0, [(5, 1)]), (0, [(6, 1)]), (0, [(7, 1)])])]), [([((-2147483648), 2147483647), ((-2147483648), 2147483647), ((-2147483648), 2147483647), ((-2147483648), 2147483647), ((-2147483648), 2147483647), ((-2147483648), 2147483647), ((-2147483648), 2147483647), ((-2147483648), 2147483647)], [], [], [], [], [], [(266, [(0, [(1, 1)]), (0, [(2, 1)]), (0, [(3, 1)]), (0, [(4, 1)]), (0, [(5, 1)]), (0, [(6, 1)]), (0, [(7, 1)]), (0, [])])])])
theorem lk_967 : l_core lm_967 := by
  intro v x h
  have E0 : y_ev x (0, [(0, 1)]) = x 0 := by show ((0) : Int) + ((1) * x 0 + 0) = _; omega
  have E1 : y_ev x (0, [(1, 1)]) = x 1 := by show ((0) : Int) + ((1) * x 1 + 0) = _; omega
  have E2 : y_ev x (0, [(2, 1)]) = x 2 := by show ((0) : Int) + ((1) * x 2 + 0) = _; omega
  have E3 : y_ev x (0, [(3, 1)]) = x 3 := by show ((0) : Int) + ((1) * x 3 + 0) = _; omega
  have E4 : y_ev x (0, [(4, 1)]) = x 4 := by show ((0) : Int) + ((1) * x 4 + 0) = _; omega
  have E5 : y_ev x (0, [(5, 1)]) = x 5 := by show ((0) : Int) + ((1) * x 5 + 0) = _; omega
  have E6 : y_ev x (0, [(6, 1)]) = x 6 := by show ((0) : Int) + ((1) * x 6 + 0) = _; omega
  have E7 : y_ev x (0, [(7, 1)]) = x 7 := by show ((0) : Int) + ((1) * x 7 + 0) = _; omega
  have T0 : q_rwo v (y_ev x (0, [(0, 1)])) (y_ev x (0, [(1, 1)])) (y_ev x (0, [(2, 1)])) (y_ev x (0, [(3, 1)])) (y_ev x (0, [(4, 1)])) (y_ev x (0, [(5, 1)])) (y_ev x (0, [(6, 1)])) (y_ev x (0, [(7, 1)])) := h.2.2.2.1
  try rw [E0] at T0; try rw [E1] at T0; try rw [E2] at T0; try rw [E3] at T0; try rw [E4] at T0; try rw [E5] at T0; try rw [E6] at T0; try rw [E7] at T0
  have K := k_grn0 (V := v) (H := x 0) (q := x 1) (b := x 2) (s := x 3) (o := x 4) (a1 := x 5) (a2 := x 6) (a3 := x 7) T0
  refine l_outH rfl (And.intro h.1 ?_)
  have O0 : y_ev x (0, [(1, 1)]) = x 1 := by show ((0) : Int) + ((1) * x 1 + 0) = _; omega
  have O1 : y_ev x (0, [(2, 1)]) = x 2 := by show ((0) : Int) + ((1) * x 2 + 0) = _; omega
  have O2 : y_ev x (0, [(3, 1)]) = x 3 := by show ((0) : Int) + ((1) * x 3 + 0) = _; omega
  have O3 : y_ev x (0, [(4, 1)]) = x 4 := by show ((0) : Int) + ((1) * x 4 + 0) = _; omega
  have O4 : y_ev x (0, [(5, 1)]) = x 5 := by show ((0) : Int) + ((1) * x 5 + 0) = _; omega
  have O5 : y_ev x (0, [(6, 1)]) = x 6 := by show ((0) : Int) + ((1) * x 6 + 0) = _; omega
  have O6 : y_ev x (0, [(7, 1)]) = x 7 := by show ((0) : Int) + ((1) * x 7 + 0) = _; omega
  have O7 : y_ev x (0, []) = 0 := by show ((0) : Int) + 0 = _; omega
  show (True) ∧ (q_grn v (y_ev x (0, [(1, 1)])) (y_ev x (0, [(2, 1)])) (y_ev x (0, [(3, 1)])) (y_ev x (0, [(4, 1)])) (y_ev x (0, [(5, 1)])) (y_ev x (0, [(6, 1)])) (y_ev x (0, [(7, 1)])) (y_ev x (0, [])) ∧ True)
  try rw [O0]; try rw [O1]; try rw [O2]; try rw [O3]; try rw [O4]; try rw [O5]; try rw [O6]; try rw [O7]
  exact K
def lm_968 : zLem := (([((-2147483648), 2147483647), ((-2147483648), 2147483647), ((-2147483648), 2147483647), ((-2147483648), 2147483647), ((-2147483648), 2147483647), ((-2147483648), 2147483647), ((-2147483648), 2147483647), ((-2147483648), 2147483647), ((-2147483648), 2147483647), ((-2147483648), 2147483647)], [(79, false), (80, false)], [(0, [(0, 1)]), (5, [(0, (-1))])], [], [(0, 0, 0, [(0, 1)])], [(0, (true, 0, 0, [(0, 1)]), 0, 0, 0, [(1, 1)]), (1, (true, 0, 0, [(0, 1)]), 0, 0, 0, [(2, 1)])], [(266, [(0, [(3, 1)]), (0, [(4, 1)]), (0, [(5, 1)]), (0, [(6, 1)]), (0, [(7, 1)]), (0, [(8, 1)]), (0, [(9, 1)]), (0, [(0, 1)])]), (238, [(4, []), (0, [(3, 1)]), (0, [(4, 1)]), (0, [(5, 1)]), (0, [(6, 1)]), (0, [(7, 1)]), (0, [(8, 1)]), (0, [(9, 1)]), (0, []), (0, [(0, 1)]), (0, [(1, 1)])]), (238, [(4, []), (0, [(3, 1)]), (0, [(4, 1)]), (0, [(5, 1)]), (0, [(6, 1)]), (0, [(7, 1)]), (0, [(8, 1)]), (0, [(9, 1)]), (1, []), (0, [(0, 1)]), (0, [(2, 1)])])]), [([((-2147483648), 2147483647), ((-2147483648), 2147483647), ((-2147483648), 2147483647), ((-2147483648), 2147483647), ((-2147483648), 2147483647), ((-2147483648), 2147483647), ((-2147483648), 2147483647), ((-2147483648), 2147483647), ((-2147483648), 2147483647), ((-2147483648), 2147483647)], [(79, false), (80, false)], [], [], [], [], [(266, [(0, [(3, 1)]), (0, [(4, 1)]), (0, [(5, 1)]), (0, [(6, 1)]), (0, [(7, 1)]), (0, [(8, 1)]), (0, [(9, 1)]), (1, [(0, 1)])])])])
theorem lk_968 : l_core lm_968 := by
  intro v x h
  have E0 : y_ev x (0, [(3, 1)]) = x 3 := by show ((0) : Int) + ((1) * x 3 + 0) = _; omega
  have E1 : y_ev x (0, [(4, 1)]) = x 4 := by show ((0) : Int) + ((1) * x 4 + 0) = _; omega
  have E2 : y_ev x (0, [(5, 1)]) = x 5 := by show ((0) : Int) + ((1) * x 5 + 0) = _; omega
  have E3 : y_ev x (0, [(6, 1)]) = x 6 := by show ((0) : Int) + ((1) * x 6 + 0) = _; omega
  have E4 : y_ev x (0, [(7, 1)]) = x 7 := by show ((0) : Int) + ((1) * x 7 + 0) = _; omega
  have E5 : y_ev x (0, [(8, 1)]) = x 8 := by show ((0) : Int) + ((1) * x 8 + 0) = _; omega
  have E6 : y_ev x (0, [(9, 1)]) = x 9 := by show ((0) : Int) + ((1) * x 9 + 0) = _; omega
  have E7 : y_ev x (0, [(0, 1)]) = x 0 := by show ((0) : Int) + ((1) * x 0 + 0) = _; omega
  have E8 : y_ev x (4, []) = 4 := by show ((4) : Int) + 0 = _; omega
  have E9 : y_ev x (0, []) = 0 := by show ((0) : Int) + 0 = _; omega
  have E10 : y_ev x (0, [(1, 1)]) = x 1 := by show ((0) : Int) + ((1) * x 1 + 0) = _; omega
  have E11 : y_ev x (1, []) = 1 := by show ((1) : Int) + 0 = _; omega
  have E12 : y_ev x (0, [(2, 1)]) = x 2 := by show ((0) : Int) + ((1) * x 2 + 0) = _; omega
  have E13 : y_ev x (5, [(0, (-1))]) = 5 - x 0 := by show ((5) : Int) + ((-1) * x 0 + 0) = _; omega
  have T0 : q_grn v (y_ev x (0, [(3, 1)])) (y_ev x (0, [(4, 1)])) (y_ev x (0, [(5, 1)])) (y_ev x (0, [(6, 1)])) (y_ev x (0, [(7, 1)])) (y_ev x (0, [(8, 1)])) (y_ev x (0, [(9, 1)])) (y_ev x (0, [(0, 1)])) := h.2.2.2.1
  try rw [E0] at T0; try rw [E1] at T0; try rw [E2] at T0; try rw [E3] at T0; try rw [E4] at T0; try rw [E5] at T0; try rw [E6] at T0; try rw [E7] at T0
  have T1 : q_qry v (y_ev x (4, [])) (y_ev x (0, [(3, 1)])) (y_ev x (0, [(4, 1)])) (y_ev x (0, [(5, 1)])) (y_ev x (0, [(6, 1)])) (y_ev x (0, [(7, 1)])) (y_ev x (0, [(8, 1)])) (y_ev x (0, [(9, 1)])) (y_ev x (0, [])) (y_ev x (0, [(0, 1)])) (y_ev x (0, [(1, 1)])) := h.2.2.2.2.1
  try rw [E8] at T1; try rw [E0] at T1; try rw [E1] at T1; try rw [E2] at T1; try rw [E3] at T1; try rw [E4] at T1; try rw [E5] at T1; try rw [E6] at T1; try rw [E9] at T1; try rw [E7] at T1; try rw [E10] at T1
  have T2 : q_qry v (y_ev x (4, [])) (y_ev x (0, [(3, 1)])) (y_ev x (0, [(4, 1)])) (y_ev x (0, [(5, 1)])) (y_ev x (0, [(6, 1)])) (y_ev x (0, [(7, 1)])) (y_ev x (0, [(8, 1)])) (y_ev x (0, [(9, 1)])) (y_ev x (1, [])) (y_ev x (0, [(0, 1)])) (y_ev x (0, [(2, 1)])) := h.2.2.2.2.2.1
  try rw [E8] at T2; try rw [E0] at T2; try rw [E1] at T2; try rw [E2] at T2; try rw [E3] at T2; try rw [E4] at T2; try rw [E5] at T2; try rw [E6] at T2; try rw [E11] at T2; try rw [E7] at T2; try rw [E12] at T2
  have C0 : 0 ≤ y_ev x (0, [(0, 1)]) := h.2.1.1
  rw [E7] at C0
  have C1 : 0 ≤ y_ev x (5, [(0, (-1))]) := h.2.1.2.1
  rw [E13] at C1
  have F0 : 0 ≤ y_ev x (0, [(0, 1)]) ∧ y_ev x (0, [(0, 1)]) < j_len 79 ∧ v 79 (y_ev x (0, [(0, 1)])) = y_ev x (0, [(1, 1)]) := h.2.2.1.1.1
  try rw [E7] at F0; try rw [E10] at F0
  have F1 : 0 ≤ y_ev x (0, [(0, 1)]) ∧ y_ev x (0, [(0, 1)]) < j_len 80 ∧ v 80 (y_ev x (0, [(0, 1)])) = y_ev x (0, [(2, 1)]) := h.2.2.1.2.1.1
  try rw [E7] at F1; try rw [E12] at F1
  have K := k_grnS (V := v) (i := x 0) (g := x 1) (w := x 2) (q := x 3) (b := x 4) (s := x 5) (o := x 6) (a1 := x 7) (a2 := x 8) (a3 := x 9) T0 T1 T2 C0 C1 F0 F1
  refine l_outH rfl (And.intro h.1 ?_)
  have O0 : y_ev x (0, [(3, 1)]) = x 3 := by show ((0) : Int) + ((1) * x 3 + 0) = _; omega
  have O1 : y_ev x (0, [(4, 1)]) = x 4 := by show ((0) : Int) + ((1) * x 4 + 0) = _; omega
  have O2 : y_ev x (0, [(5, 1)]) = x 5 := by show ((0) : Int) + ((1) * x 5 + 0) = _; omega
  have O3 : y_ev x (0, [(6, 1)]) = x 6 := by show ((0) : Int) + ((1) * x 6 + 0) = _; omega
  have O4 : y_ev x (0, [(7, 1)]) = x 7 := by show ((0) : Int) + ((1) * x 7 + 0) = _; omega
  have O5 : y_ev x (0, [(8, 1)]) = x 8 := by show ((0) : Int) + ((1) * x 8 + 0) = _; omega
  have O6 : y_ev x (0, [(9, 1)]) = x 9 := by show ((0) : Int) + ((1) * x 9 + 0) = _; omega
  have O7 : y_ev x (1, [(0, 1)]) = x 0 + 1 := by show ((1) : Int) + ((1) * x 0 + 0) = _; omega
  show (True) ∧ (q_grn v (y_ev x (0, [(3, 1)])) (y_ev x (0, [(4, 1)])) (y_ev x (0, [(5, 1)])) (y_ev x (0, [(6, 1)])) (y_ev x (0, [(7, 1)])) (y_ev x (0, [(8, 1)])) (y_ev x (0, [(9, 1)])) (y_ev x (1, [(0, 1)])) ∧ True)
  try rw [O0]; try rw [O1]; try rw [O2]; try rw [O3]; try rw [O4]; try rw [O5]; try rw [O6]; try rw [O7]
  exact K
def lm_969 : zLem := (([((-2147483648), 2147483647), ((-2147483648), 2147483647), ((-2147483648), 2147483647), ((-2147483648), 2147483647), ((-2147483648), 2147483647), ((-2147483648), 2147483647), ((-2147483648), 2147483647), ((-2147483648), 2147483647)], [(79, false), (80, false)], [(0, [(0, 1)]), ((-1), [(0, (-1)), (4, 1)]), (6, [(4, (-1))])], [], [(0, 0, 0, [(0, 1)])], [(0, (true, 0, 0, [(0, 1)]), 0, 0, 0, [(1, 1)]), (1, (true, 0, 0, [(0, 1)]), 0, 0, 0, [(2, 1)])], [(237, [(0, [(4, 1)]), (0, [(5, 1)]), (0, [(6, 1)]), (0, [(7, 1)]), (4, []), (0, [(3, 1)]), (0, [(0, 1)]), (0, [(4, 1)])]), (266, [(0, [(5, 1)]), (0, [(6, 1)]), (0, [(7, 1)]), (4, []), (0, [(3, 1)]), (0, []), (0, [(4, 1)]), (0, [(4, 1)])])]), [([((-2147483648), 2147483647), ((-2147483648), 2147483647), ((-2147483648), 2147483647), ((-2147483648), 2147483647), ((-2147483648), 2147483647), ((-2147483648), 2147483647), ((-2147483648), 2147483647), ((-2147483648), 2147483647)], [(79, false), (80, false)], [(0, [(1, 1)]), (99, [(1, (-1))]), (0, [(2, 1)]), (99, [(2, (-1))])], [], [], [], [(238, [(4, []), (0, [(5, 1)]), (0, [(6, 1)]), (0, [(7, 1)]), (4, []), (0, [(3, 1)]), (0, [(0, 1)]), (0, [(4, 1)]), (0, []), (0, [(0, 1)]), (0, [(1, 1)])]), (238, [(4, []), (0, [(5, 1)]), (0, [(6, 1)]), (0, [(7, 1)]), (4, []), (0, [(3, 1)]), (0, [(0, 1)]), (0, [(4, 1)]), (1, []), (0, [(0, 1)]), (0, [(2, 1)])])])])
theorem lk_969 : l_core lm_969 := by
  intro v x h
  have E0 : y_ev x (0, [(4, 1)]) = x 4 := by show ((0) : Int) + ((1) * x 4 + 0) = _; omega
  have E1 : y_ev x (0, [(5, 1)]) = x 5 := by show ((0) : Int) + ((1) * x 5 + 0) = _; omega
  have E2 : y_ev x (0, [(6, 1)]) = x 6 := by show ((0) : Int) + ((1) * x 6 + 0) = _; omega
  have E3 : y_ev x (0, [(7, 1)]) = x 7 := by show ((0) : Int) + ((1) * x 7 + 0) = _; omega
  have E4 : y_ev x (4, []) = 4 := by show ((4) : Int) + 0 = _; omega
  have E5 : y_ev x (0, [(3, 1)]) = x 3 := by show ((0) : Int) + ((1) * x 3 + 0) = _; omega
  have E6 : y_ev x (0, [(0, 1)]) = x 0 := by show ((0) : Int) + ((1) * x 0 + 0) = _; omega
  have E7 : y_ev x (0, []) = 0 := by show ((0) : Int) + 0 = _; omega
  have E8 : y_ev x ((-1), [(0, (-1)), (4, 1)]) = x 4 - x 0 - 1 := by show ((-1) : Int) + ((-1) * x 0 + ((1) * x 4 + 0)) = _; omega
  have E9 : y_ev x (6, [(4, (-1))]) = 6 - x 4 := by show ((6) : Int) + ((-1) * x 4 + 0) = _; omega
  have E10 : y_ev x (0, [(1, 1)]) = x 1 := by show ((0) : Int) + ((1) * x 1 + 0) = _; omega
  have E11 : y_ev x (0, [(2, 1)]) = x 2 := by show ((0) : Int) + ((1) * x 2 + 0) = _; omega
  have T0 : q_rwo v (y_ev x (0, [(4, 1)])) (y_ev x (0, [(5, 1)])) (y_ev x (0, [(6, 1)])) (y_ev x (0, [(7, 1)])) (y_ev x (4, [])) (y_ev x (0, [(3, 1)])) (y_ev x (0, [(0, 1)])) (y_ev x (0, [(4, 1)])) := h.2.2.2.1
  try rw [E0] at T0; try rw [E1] at T0; try rw [E2] at T0; try rw [E3] at T0; try rw [E4] at T0; try rw [E5] at T0; try rw [E6] at T0
  have T1 : q_grn v (y_ev x (0, [(5, 1)])) (y_ev x (0, [(6, 1)])) (y_ev x (0, [(7, 1)])) (y_ev x (4, [])) (y_ev x (0, [(3, 1)])) (y_ev x (0, [])) (y_ev x (0, [(4, 1)])) (y_ev x (0, [(4, 1)])) := h.2.2.2.2.1
  try rw [E1] at T1; try rw [E2] at T1; try rw [E3] at T1; try rw [E4] at T1; try rw [E5] at T1; try rw [E7] at T1; try rw [E0] at T1
  have C0 : 0 ≤ y_ev x (0, [(0, 1)]) := h.2.1.1
  rw [E6] at C0
  have C1 : 0 ≤ y_ev x ((-1), [(0, (-1)), (4, 1)]) := h.2.1.2.1
  rw [E8] at C1
  have C2 : 0 ≤ y_ev x (6, [(4, (-1))]) := h.2.1.2.2.1
  rw [E9] at C2
  have F0 : 0 ≤ y_ev x (0, [(0, 1)]) ∧ y_ev x (0, [(0, 1)]) < j_len 79 ∧ v 79 (y_ev x (0, [(0, 1)])) = y_ev x (0, [(1, 1)]) := h.2.2.1.1.1
  try rw [E6] at F0; try rw [E10] at F0
  have F1 : 0 ≤ y_ev x (0, [(0, 1)]) ∧ y_ev x (0, [(0, 1)]) < j_len 80 ∧ v 80 (y_ev x (0, [(0, 1)])) = y_ev x (0, [(2, 1)]) := h.2.2.1.2.1.1
  try rw [E6] at F1; try rw [E11] at F1
  have K := k_grnG (V := v) (i := x 0) (g := x 1) (w := x 2) (n := x 3) (H := x 4) (q := x 5) (b := x 6) (s := x 7) T0 T1 C0 C1 C2 F0 F1
  refine l_outH rfl (And.intro h.1 ?_)
  have O0 : y_ev x (0, [(1, 1)]) = x 1 := by show ((0) : Int) + ((1) * x 1 + 0) = _; omega
  have O1 : y_ev x (99, [(1, (-1))]) = 99 - x 1 := by show ((99) : Int) + ((-1) * x 1 + 0) = _; omega
  have O2 : y_ev x (0, [(2, 1)]) = x 2 := by show ((0) : Int) + ((1) * x 2 + 0) = _; omega
  have O3 : y_ev x (99, [(2, (-1))]) = 99 - x 2 := by show ((99) : Int) + ((-1) * x 2 + 0) = _; omega
  have O4 : y_ev x (4, []) = 4 := by show ((4) : Int) + 0 = _; omega
  have O5 : y_ev x (0, [(5, 1)]) = x 5 := by show ((0) : Int) + ((1) * x 5 + 0) = _; omega
  have O6 : y_ev x (0, [(6, 1)]) = x 6 := by show ((0) : Int) + ((1) * x 6 + 0) = _; omega
  have O7 : y_ev x (0, [(7, 1)]) = x 7 := by show ((0) : Int) + ((1) * x 7 + 0) = _; omega
  have O8 : y_ev x (0, [(3, 1)]) = x 3 := by show ((0) : Int) + ((1) * x 3 + 0) = _; omega
  have O9 : y_ev x (0, [(0, 1)]) = x 0 := by show ((0) : Int) + ((1) * x 0 + 0) = _; omega
  have O10 : y_ev x (0, [(4, 1)]) = x 4 := by show ((0) : Int) + ((1) * x 4 + 0) = _; omega
  have O11 : y_ev x (0, []) = 0 := by show ((0) : Int) + 0 = _; omega
  have O12 : y_ev x (1, []) = 1 := by show ((1) : Int) + 0 = _; omega
  show (0 ≤ y_ev x (0, [(1, 1)]) ∧ 0 ≤ y_ev x (99, [(1, (-1))]) ∧ 0 ≤ y_ev x (0, [(2, 1)]) ∧ 0 ≤ y_ev x (99, [(2, (-1))]) ∧ True) ∧ (q_qry v (y_ev x (4, [])) (y_ev x (0, [(5, 1)])) (y_ev x (0, [(6, 1)])) (y_ev x (0, [(7, 1)])) (y_ev x (4, [])) (y_ev x (0, [(3, 1)])) (y_ev x (0, [(0, 1)])) (y_ev x (0, [(4, 1)])) (y_ev x (0, [])) (y_ev x (0, [(0, 1)])) (y_ev x (0, [(1, 1)])) ∧ q_qry v (y_ev x (4, [])) (y_ev x (0, [(5, 1)])) (y_ev x (0, [(6, 1)])) (y_ev x (0, [(7, 1)])) (y_ev x (4, [])) (y_ev x (0, [(3, 1)])) (y_ev x (0, [(0, 1)])) (y_ev x (0, [(4, 1)])) (y_ev x (1, [])) (y_ev x (0, [(0, 1)])) (y_ev x (0, [(2, 1)])) ∧ True)
  try rw [O0]; try rw [O1]; try rw [O2]; try rw [O3]; try rw [O4]; try rw [O5]; try rw [O6]; try rw [O7]; try rw [O8]; try rw [O9]; try rw [O10]; try rw [O11]; try rw [O12]
  exact K
def lm_970 : zLem := (([((-2147483648), 2147483647), ((-2147483648), 2147483647), ((-2147483648), 2147483647), ((-2147483648), 2147483647), ((-2147483648), 2147483647), ((-2147483648), 2147483647), ((-2147483648), 2147483647), ((-2147483648), 2147483647), ((-2147483648), 2147483647)], [], [(0, [(0, 1)]), (5, [(0, (-1))])], [], [(0, 0, 0, [(0, 1)])], [], [(237, [(0, [(1, 1)]), (0, [(2, 1)]), (0, [(3, 1)]), (0, [(4, 1)]), (0, [(5, 1)]), (0, [(6, 1)]), (0, [(7, 1)]), (0, [(8, 1)])])]), [([((-2147483648), 2147483647), ((-2147483648), 2147483647), ((-2147483648), 2147483647), ((-2147483648), 2147483647), ((-2147483648), 2147483647), ((-2147483648), 2147483647), ((-2147483648), 2147483647), ((-2147483648), 2147483647), ((-2147483648), 2147483647)], [], [], [], [], [], [(265, [(0, [(1, 1)]), (0, [(2, 1)]), (0, [(3, 1)]), (0, [(4, 1)]), (0, [(5, 1)]), (0, [(6, 1)]), (0, [(7, 1)]), (0, [(8, 1)]), (0, [(0, 1)]), (12, [(0, 1)])])])])
theorem lk_970 : l_core lm_970 := by
  intro v x h
  have E0 : y_ev x (0, [(1, 1)]) = x 1 := by show ((0) : Int) + ((1) * x 1 + 0) = _; omega
  have E1 : y_ev x (0, [(2, 1)]) = x 2 := by show ((0) : Int) + ((1) * x 2 + 0) = _; omega
  have E2 : y_ev x (0, [(3, 1)]) = x 3 := by show ((0) : Int) + ((1) * x 3 + 0) = _; omega
  have E3 : y_ev x (0, [(4, 1)]) = x 4 := by show ((0) : Int) + ((1) * x 4 + 0) = _; omega
  have E4 : y_ev x (0, [(5, 1)]) = x 5 := by show ((0) : Int) + ((1) * x 5 + 0) = _; omega
  have E5 : y_ev x (0, [(6, 1)]) = x 6 := by show ((0) : Int) + ((1) * x 6 + 0) = _; omega
  have E6 : y_ev x (0, [(7, 1)]) = x 7 := by show ((0) : Int) + ((1) * x 7 + 0) = _; omega
  have E7 : y_ev x (0, [(8, 1)]) = x 8 := by show ((0) : Int) + ((1) * x 8 + 0) = _; omega
  have E8 : y_ev x (0, [(0, 1)]) = x 0 := by show ((0) : Int) + ((1) * x 0 + 0) = _; omega
  have E9 : y_ev x (5, [(0, (-1))]) = 5 - x 0 := by show ((5) : Int) + ((-1) * x 0 + 0) = _; omega
  have T0 : q_rwo v (y_ev x (0, [(1, 1)])) (y_ev x (0, [(2, 1)])) (y_ev x (0, [(3, 1)])) (y_ev x (0, [(4, 1)])) (y_ev x (0, [(5, 1)])) (y_ev x (0, [(6, 1)])) (y_ev x (0, [(7, 1)])) (y_ev x (0, [(8, 1)])) := h.2.2.2.1
  try rw [E0] at T0; try rw [E1] at T0; try rw [E2] at T0; try rw [E3] at T0; try rw [E4] at T0; try rw [E5] at T0; try rw [E6] at T0; try rw [E7] at T0
  have C0 : 0 ≤ y_ev x (0, [(0, 1)]) := h.2.1.1
  rw [E8] at C0
  have C1 : 0 ≤ y_ev x (5, [(0, (-1))]) := h.2.1.2.1
  rw [E9] at C1
  have K := k_ryx (V := v) (e := x 0) (H := x 1) (q := x 2) (b := x 3) (s := x 4) (o := x 5) (a1 := x 6) (a2 := x 7) (a3 := x 8) T0 C0 C1
  refine l_outH rfl (And.intro h.1 ?_)
  have O0 : y_ev x (0, [(1, 1)]) = x 1 := by show ((0) : Int) + ((1) * x 1 + 0) = _; omega
  have O1 : y_ev x (0, [(2, 1)]) = x 2 := by show ((0) : Int) + ((1) * x 2 + 0) = _; omega
  have O2 : y_ev x (0, [(3, 1)]) = x 3 := by show ((0) : Int) + ((1) * x 3 + 0) = _; omega
  have O3 : y_ev x (0, [(4, 1)]) = x 4 := by show ((0) : Int) + ((1) * x 4 + 0) = _; omega
  have O4 : y_ev x (0, [(5, 1)]) = x 5 := by show ((0) : Int) + ((1) * x 5 + 0) = _; omega
  have O5 : y_ev x (0, [(6, 1)]) = x 6 := by show ((0) : Int) + ((1) * x 6 + 0) = _; omega
  have O6 : y_ev x (0, [(7, 1)]) = x 7 := by show ((0) : Int) + ((1) * x 7 + 0) = _; omega
  have O7 : y_ev x (0, [(8, 1)]) = x 8 := by show ((0) : Int) + ((1) * x 8 + 0) = _; omega
  have O8 : y_ev x (0, [(0, 1)]) = x 0 := by show ((0) : Int) + ((1) * x 0 + 0) = _; omega
  have O9 : y_ev x (12, [(0, 1)]) = x 0 + 12 := by show ((12) : Int) + ((1) * x 0 + 0) = _; omega
  show (True) ∧ (q_ryx v (y_ev x (0, [(1, 1)])) (y_ev x (0, [(2, 1)])) (y_ev x (0, [(3, 1)])) (y_ev x (0, [(4, 1)])) (y_ev x (0, [(5, 1)])) (y_ev x (0, [(6, 1)])) (y_ev x (0, [(7, 1)])) (y_ev x (0, [(8, 1)])) (y_ev x (0, [(0, 1)])) (y_ev x (12, [(0, 1)])) ∧ True)
  try rw [O0]; try rw [O1]; try rw [O2]; try rw [O3]; try rw [O4]; try rw [O5]; try rw [O6]; try rw [O7]; try rw [O8]; try rw [O9]
  exact K
def lm_971 : zLem := (([((-2147483648), 2147483647), ((-2147483648), 2147483647), ((-2147483648), 2147483647), ((-2147483648), 2147483647), ((-2147483648), 2147483647), ((-2147483648), 2147483647), ((-2147483648), 2147483647), ((-2147483648), 2147483647)], [], [], [], [], [], [(237, [(0, [(0, 1)]), (0, [(1, 1)]), (0, [(2, 1)]), (0, [(3, 1)]), (0, [(4, 1)]), (0, [(5, 1)]), (0, [(6, 1)]), (0, [(7, 1)])])]), [([((-2147483648), 2147483647), ((-2147483648), 2147483647), ((-2147483648), 2147483647), ((-2147483648), 2147483647), ((-2147483648), 2147483647), ((-2147483648), 2147483647), ((-2147483648), 2147483647), ((-2147483648), 2147483647)], [], [], [], [], [], [(265, [(0, [(0, 1)]), (0, [(1, 1)]), (0, [(2, 1)]), (0, [(3, 1)]), (0, [(4, 1)]), (0, [(5, 1)]), (0, [(6, 1)]), (0, [(7, 1)]), (31, []), (31, [])])])])
theorem lk_971 : l_core lm_971 := by
  intro v x h
  have E0 : y_ev x (0, [(0, 1)]) = x 0 := by show ((0) : Int) + ((1) * x 0 + 0) = _; omega
  have E1 : y_ev x (0, [(1, 1)]) = x 1 := by show ((0) : Int) + ((1) * x 1 + 0) = _; omega
  have E2 : y_ev x (0, [(2, 1)]) = x 2 := by show ((0) : Int) + ((1) * x 2 + 0) = _; omega
  have E3 : y_ev x (0, [(3, 1)]) = x 3 := by show ((0) : Int) + ((1) * x 3 + 0) = _; omega
  have E4 : y_ev x (0, [(4, 1)]) = x 4 := by show ((0) : Int) + ((1) * x 4 + 0) = _; omega
  have E5 : y_ev x (0, [(5, 1)]) = x 5 := by show ((0) : Int) + ((1) * x 5 + 0) = _; omega
  have E6 : y_ev x (0, [(6, 1)]) = x 6 := by show ((0) : Int) + ((1) * x 6 + 0) = _; omega
  have E7 : y_ev x (0, [(7, 1)]) = x 7 := by show ((0) : Int) + ((1) * x 7 + 0) = _; omega
  have T0 : q_rwo v (y_ev x (0, [(0, 1)])) (y_ev x (0, [(1, 1)])) (y_ev x (0, [(2, 1)])) (y_ev x (0, [(3, 1)])) (y_ev x (0, [(4, 1)])) (y_ev x (0, [(5, 1)])) (y_ev x (0, [(6, 1)])) (y_ev x (0, [(7, 1)])) := h.2.2.2.1
  try rw [E0] at T0; try rw [E1] at T0; try rw [E2] at T0; try rw [E3] at T0; try rw [E4] at T0; try rw [E5] at T0; try rw [E6] at T0; try rw [E7] at T0
  have K := k_ryx31 (V := v) (H := x 0) (q := x 1) (b := x 2) (s := x 3) (o := x 4) (a1 := x 5) (a2 := x 6) (a3 := x 7) T0
  refine l_outH rfl (And.intro h.1 ?_)
  have O0 : y_ev x (0, [(0, 1)]) = x 0 := by show ((0) : Int) + ((1) * x 0 + 0) = _; omega
  have O1 : y_ev x (0, [(1, 1)]) = x 1 := by show ((0) : Int) + ((1) * x 1 + 0) = _; omega
  have O2 : y_ev x (0, [(2, 1)]) = x 2 := by show ((0) : Int) + ((1) * x 2 + 0) = _; omega
  have O3 : y_ev x (0, [(3, 1)]) = x 3 := by show ((0) : Int) + ((1) * x 3 + 0) = _; omega
  have O4 : y_ev x (0, [(4, 1)]) = x 4 := by show ((0) : Int) + ((1) * x 4 + 0) = _; omega
  have O5 : y_ev x (0, [(5, 1)]) = x 5 := by show ((0) : Int) + ((1) * x 5 + 0) = _; omega
  have O6 : y_ev x (0, [(6, 1)]) = x 6 := by show ((0) : Int) + ((1) * x 6 + 0) = _; omega
  have O7 : y_ev x (0, [(7, 1)]) = x 7 := by show ((0) : Int) + ((1) * x 7 + 0) = _; omega
  have O8 : y_ev x (31, []) = 31 := by show ((31) : Int) + 0 = _; omega
  show (True) ∧ (q_ryx v (y_ev x (0, [(0, 1)])) (y_ev x (0, [(1, 1)])) (y_ev x (0, [(2, 1)])) (y_ev x (0, [(3, 1)])) (y_ev x (0, [(4, 1)])) (y_ev x (0, [(5, 1)])) (y_ev x (0, [(6, 1)])) (y_ev x (0, [(7, 1)])) (y_ev x (31, [])) (y_ev x (31, [])) ∧ True)
  try rw [O0]; try rw [O1]; try rw [O2]; try rw [O3]; try rw [O4]; try rw [O5]; try rw [O6]; try rw [O7]; try rw [O8]
  exact K
def lm_972 : zLem := (([((-2147483648), 2147483647), ((-2147483648), 2147483647), ((-2147483648), 2147483647), ((-2147483648), 2147483647), ((-2147483648), 2147483647), ((-2147483648), 2147483647), ((-2147483648), 2147483647), ((-2147483648), 2147483647), ((-2147483648), 2147483647), ((-2147483648), 2147483647)], [(78, false)], [(0, [(0, 1)]), ((-1), [(0, (-1)), (2, 1)]), (6, [(2, (-1))])], [], [(0, 0, 0, [(0, 1)])], [(0, (true, 0, 0, [(0, 1)]), 0, 0, 0, [(1, 1)])], [(237, [(0, [(2, 1)]), (0, [(3, 1)]), (0, [(4, 1)]), (0, [(5, 1)]), (0, [(6, 1)]), (0, [(7, 1)]), (0, [(8, 1)]), (0, [(9, 1)])])]), [([((-2147483648), 2147483647), ((-2147483648), 2147483647), ((-2147483648), 2147483647), ((-2147483648), 2147483647), ((-2147483648), 2147483647), ((-2147483648), 2147483647), ((-2147483648), 2147483647), ((-2147483648), 2147483647), ((-2147483648), 2147483647), ((-2147483648), 2147483647)], [(78, false)], [(0, [(1, 1)]), (99, [(1, (-1))])], [], [], [], [(238, [(8, []), (0, [(3, 1)]), (0, [(4, 1)]), (0, [(5, 1)]), (0, [(6, 1)]), (0, [(7, 1)]), (0, [(8, 1)]), (0, [(9, 1)]), (0, [(0, 1)]), (0, []), (0, [(1, 1)])])])])
theorem lk_972 : l_core lm_972 := by
  intro v x h
  have E0 : y_ev x (0, [(2, 1)]) = x 2 := by show ((0) : Int) + ((1) * x 2 + 0) = _; omega
  have E1 : y_ev x (0, [(3, 1)]) = x 3 := by show ((0) : Int) + ((1) * x 3 + 0) = _; omega
  have E2 : y_ev x (0, [(4, 1)]) = x 4 := by show ((0) : Int) + ((1) * x 4 + 0) = _; omega
  have E3 : y_ev x (0, [(5, 1)]) = x 5 := by show ((0) : Int) + ((1) * x 5 + 0) = _; omega
  have E4 : y_ev x (0, [(6, 1)]) = x 6 := by show ((0) : Int) + ((1) * x 6 + 0) = _; omega
  have E5 : y_ev x (0, [(7, 1)]) = x 7 := by show ((0) : Int) + ((1) * x 7 + 0) = _; omega
  have E6 : y_ev x (0, [(8, 1)]) = x 8 := by show ((0) : Int) + ((1) * x 8 + 0) = _; omega
  have E7 : y_ev x (0, [(9, 1)]) = x 9 := by show ((0) : Int) + ((1) * x 9 + 0) = _; omega
  have E8 : y_ev x (0, [(0, 1)]) = x 0 := by show ((0) : Int) + ((1) * x 0 + 0) = _; omega
  have E9 : y_ev x ((-1), [(0, (-1)), (2, 1)]) = x 2 - x 0 - 1 := by show ((-1) : Int) + ((-1) * x 0 + ((1) * x 2 + 0)) = _; omega
  have E10 : y_ev x (6, [(2, (-1))]) = 6 - x 2 := by show ((6) : Int) + ((-1) * x 2 + 0) = _; omega
  have E11 : y_ev x (0, [(1, 1)]) = x 1 := by show ((0) : Int) + ((1) * x 1 + 0) = _; omega
  have T0 : q_rwo v (y_ev x (0, [(2, 1)])) (y_ev x (0, [(3, 1)])) (y_ev x (0, [(4, 1)])) (y_ev x (0, [(5, 1)])) (y_ev x (0, [(6, 1)])) (y_ev x (0, [(7, 1)])) (y_ev x (0, [(8, 1)])) (y_ev x (0, [(9, 1)])) := h.2.2.2.1
  try rw [E0] at T0; try rw [E1] at T0; try rw [E2] at T0; try rw [E3] at T0; try rw [E4] at T0; try rw [E5] at T0; try rw [E6] at T0; try rw [E7] at T0
  have C0 : 0 ≤ y_ev x (0, [(0, 1)]) := h.2.1.1
  rw [E8] at C0
  have C1 : 0 ≤ y_ev x ((-1), [(0, (-1)), (2, 1)]) := h.2.1.2.1
  rw [E9] at C1
  have C2 : 0 ≤ y_ev x (6, [(2, (-1))]) := h.2.1.2.2.1
  rw [E10] at C2
  have F0 : 0 ≤ y_ev x (0, [(0, 1)]) ∧ y_ev x (0, [(0, 1)]) < j_len 78 ∧ v 78 (y_ev x (0, [(0, 1)])) = y_ev x (0, [(1, 1)]) := h.2.2.1.1.1
  try rw [E8] at F0; try rw [E11] at F0
  have K := k_rcelb (V := v) (h := x 0) (u := x 1) (H := x 2) (q := x 3) (b := x 4) (s := x 5) (o := x 6) (a1 := x 7) (a2 := x 8) (a3 := x 9) T0 C0 C1 C2 F0
  refine l_outH rfl (And.intro h.1 ?_)
  have O0 : y_ev x (0, [(1, 1)]) = x 1 := by show ((0) : Int) + ((1) * x 1 + 0) = _; omega
  have O1 : y_ev x (99, [(1, (-1))]) = 99 - x 1 := by show ((99) : Int) + ((-1) * x 1 + 0) = _; omega
  have O2 : y_ev x (8, []) = 8 := by show ((8) : Int) + 0 = _; omega
  have O3 : y_ev x (0, [(3, 1)]) = x 3 := by show ((0) : Int) + ((1) * x 3 + 0) = _; omega
  have O4 : y_ev x (0, [(4, 1)]) = x 4 := by show ((0) : Int) + ((1) * x 4 + 0) = _; omega
  have O5 : y_ev x (0, [(5, 1)]) = x 5 := by show ((0) : Int) + ((1) * x 5 + 0) = _; omega
  have O6 : y_ev x (0, [(6, 1)]) = x 6 := by show ((0) : Int) + ((1) * x 6 + 0) = _; omega
  have O7 : y_ev x (0, [(7, 1)]) = x 7 := by show ((0) : Int) + ((1) * x 7 + 0) = _; omega
  have O8 : y_ev x (0, [(8, 1)]) = x 8 := by show ((0) : Int) + ((1) * x 8 + 0) = _; omega
  have O9 : y_ev x (0, [(9, 1)]) = x 9 := by show ((0) : Int) + ((1) * x 9 + 0) = _; omega
  have O10 : y_ev x (0, [(0, 1)]) = x 0 := by show ((0) : Int) + ((1) * x 0 + 0) = _; omega
  have O11 : y_ev x (0, []) = 0 := by show ((0) : Int) + 0 = _; omega
  show (0 ≤ y_ev x (0, [(1, 1)]) ∧ 0 ≤ y_ev x (99, [(1, (-1))]) ∧ True) ∧ (q_qry v (y_ev x (8, [])) (y_ev x (0, [(3, 1)])) (y_ev x (0, [(4, 1)])) (y_ev x (0, [(5, 1)])) (y_ev x (0, [(6, 1)])) (y_ev x (0, [(7, 1)])) (y_ev x (0, [(8, 1)])) (y_ev x (0, [(9, 1)])) (y_ev x (0, [(0, 1)])) (y_ev x (0, [])) (y_ev x (0, [(1, 1)])) ∧ True)
  try rw [O0]; try rw [O1]; try rw [O2]; try rw [O3]; try rw [O4]; try rw [O5]; try rw [O6]; try rw [O7]; try rw [O8]; try rw [O9]; try rw [O10]; try rw [O11]
  exact K
def lm_973 : zLem := (([((-2147483648), 2147483647), ((-2147483648), 2147483647), ((-2147483648), 2147483647), ((-2147483648), 2147483647), ((-2147483648), 2147483647), ((-2147483648), 2147483647), ((-2147483648), 2147483647), ((-2147483648), 2147483647), ((-2147483648), 2147483647), ((-2147483648), 2147483647)], [(78, false)], [(0, [(0, 1)]), ((-1), [(0, (-1)), (2, 1)]), (6, [(2, (-1))])], [], [(0, 0, 0, [(0, 1)])], [(0, (true, 0, 12, [(0, 1)]), 0, 0, 0, [(1, 1)])], [(237, [(0, [(2, 1)]), (0, [(3, 1)]), (0, [(4, 1)]), (0, [(5, 1)]), (0, [(6, 1)]), (0, [(7, 1)]), (0, [(8, 1)]), (0, [(9, 1)])])]), [([((-2147483648), 2147483647), ((-2147483648), 2147483647), ((-2147483648), 2147483647), ((-2147483648), 2147483647), ((-2147483648), 2147483647), ((-2147483648), 2147483647), ((-2147483648), 2147483647), ((-2147483648), 2147483647), ((-2147483648), 2147483647), ((-2147483648), 2147483647)], [(78, false)], [(0, [(1, 1)]), (99, [(1, (-1))])], [], [], [], [(238, [(8, []), (0, [(3, 1)]), (0, [(4, 1)]), (0, [(5, 1)]), (0, [(6, 1)]), (0, [(7, 1)]), (0, [(8, 1)]), (0, [(9, 1)]), (12, [(0, 1)]), (0, []), (0, [(1, 1)])])])])
theorem lk_973 : l_core lm_973 := by
  intro v x h
  have E0 : y_ev x (0, [(2, 1)]) = x 2 := by show ((0) : Int) + ((1) * x 2 + 0) = _; omega
  have E1 : y_ev x (0, [(3, 1)]) = x 3 := by show ((0) : Int) + ((1) * x 3 + 0) = _; omega
  have E2 : y_ev x (0, [(4, 1)]) = x 4 := by show ((0) : Int) + ((1) * x 4 + 0) = _; omega
  have E3 : y_ev x (0, [(5, 1)]) = x 5 := by show ((0) : Int) + ((1) * x 5 + 0) = _; omega
  have E4 : y_ev x (0, [(6, 1)]) = x 6 := by show ((0) : Int) + ((1) * x 6 + 0) = _; omega
  have E5 : y_ev x (0, [(7, 1)]) = x 7 := by show ((0) : Int) + ((1) * x 7 + 0) = _; omega
  have E6 : y_ev x (0, [(8, 1)]) = x 8 := by show ((0) : Int) + ((1) * x 8 + 0) = _; omega
  have E7 : y_ev x (0, [(9, 1)]) = x 9 := by show ((0) : Int) + ((1) * x 9 + 0) = _; omega
  have E8 : y_ev x (0, [(0, 1)]) = x 0 := by show ((0) : Int) + ((1) * x 0 + 0) = _; omega
  have E9 : y_ev x ((-1), [(0, (-1)), (2, 1)]) = x 2 - x 0 - 1 := by show ((-1) : Int) + ((-1) * x 0 + ((1) * x 2 + 0)) = _; omega
  have E10 : y_ev x (6, [(2, (-1))]) = 6 - x 2 := by show ((6) : Int) + ((-1) * x 2 + 0) = _; omega
  have E11 : y_ev x (12, [(0, 1)]) = x 0 + 12 := by show ((12) : Int) + ((1) * x 0 + 0) = _; omega
  have E12 : y_ev x (0, [(1, 1)]) = x 1 := by show ((0) : Int) + ((1) * x 1 + 0) = _; omega
  have T0 : q_rwo v (y_ev x (0, [(2, 1)])) (y_ev x (0, [(3, 1)])) (y_ev x (0, [(4, 1)])) (y_ev x (0, [(5, 1)])) (y_ev x (0, [(6, 1)])) (y_ev x (0, [(7, 1)])) (y_ev x (0, [(8, 1)])) (y_ev x (0, [(9, 1)])) := h.2.2.2.1
  try rw [E0] at T0; try rw [E1] at T0; try rw [E2] at T0; try rw [E3] at T0; try rw [E4] at T0; try rw [E5] at T0; try rw [E6] at T0; try rw [E7] at T0
  have C0 : 0 ≤ y_ev x (0, [(0, 1)]) := h.2.1.1
  rw [E8] at C0
  have C1 : 0 ≤ y_ev x ((-1), [(0, (-1)), (2, 1)]) := h.2.1.2.1
  rw [E9] at C1
  have C2 : 0 ≤ y_ev x (6, [(2, (-1))]) := h.2.1.2.2.1
  rw [E10] at C2
  have F0 : 0 ≤ y_ev x (12, [(0, 1)]) ∧ y_ev x (12, [(0, 1)]) < j_len 78 ∧ v 78 (y_ev x (12, [(0, 1)])) = y_ev x (0, [(1, 1)]) := h.2.2.1.1.1
  try rw [E11] at F0; try rw [E12] at F0
  have K := k_rcel12b (V := v) (h := x 0) (u := x 1) (H := x 2) (q := x 3) (b := x 4) (s := x 5) (o := x 6) (a1 := x 7) (a2 := x 8) (a3 := x 9) T0 C0 C1 C2 F0
  refine l_outH rfl (And.intro h.1 ?_)
  have O0 : y_ev x (0, [(1, 1)]) = x 1 := by show ((0) : Int) + ((1) * x 1 + 0) = _; omega
  have O1 : y_ev x (99, [(1, (-1))]) = 99 - x 1 := by show ((99) : Int) + ((-1) * x 1 + 0) = _; omega
  have O2 : y_ev x (8, []) = 8 := by show ((8) : Int) + 0 = _; omega
  have O3 : y_ev x (0, [(3, 1)]) = x 3 := by show ((0) : Int) + ((1) * x 3 + 0) = _; omega
  have O4 : y_ev x (0, [(4, 1)]) = x 4 := by show ((0) : Int) + ((1) * x 4 + 0) = _; omega
  have O5 : y_ev x (0, [(5, 1)]) = x 5 := by show ((0) : Int) + ((1) * x 5 + 0) = _; omega
  have O6 : y_ev x (0, [(6, 1)]) = x 6 := by show ((0) : Int) + ((1) * x 6 + 0) = _; omega
  have O7 : y_ev x (0, [(7, 1)]) = x 7 := by show ((0) : Int) + ((1) * x 7 + 0) = _; omega
  have O8 : y_ev x (0, [(8, 1)]) = x 8 := by show ((0) : Int) + ((1) * x 8 + 0) = _; omega
  have O9 : y_ev x (0, [(9, 1)]) = x 9 := by show ((0) : Int) + ((1) * x 9 + 0) = _; omega
  have O10 : y_ev x (12, [(0, 1)]) = x 0 + 12 := by show ((12) : Int) + ((1) * x 0 + 0) = _; omega
  have O11 : y_ev x (0, []) = 0 := by show ((0) : Int) + 0 = _; omega
  show (0 ≤ y_ev x (0, [(1, 1)]) ∧ 0 ≤ y_ev x (99, [(1, (-1))]) ∧ True) ∧ (q_qry v (y_ev x (8, [])) (y_ev x (0, [(3, 1)])) (y_ev x (0, [(4, 1)])) (y_ev x (0, [(5, 1)])) (y_ev x (0, [(6, 1)])) (y_ev x (0, [(7, 1)])) (y_ev x (0, [(8, 1)])) (y_ev x (0, [(9, 1)])) (y_ev x (12, [(0, 1)])) (y_ev x (0, [])) (y_ev x (0, [(1, 1)])) ∧ True)
  try rw [O0]; try rw [O1]; try rw [O2]; try rw [O3]; try rw [O4]; try rw [O5]; try rw [O6]; try rw [O7]; try rw [O8]; try rw [O9]; try rw [O10]; try rw [O11]
  exact K
def lm_974 : zLem := (([((-2147483648), 2147483647), ((-2147483648), 2147483647), ((-2147483648), 2147483647), ((-2147483648), 2147483647), ((-2147483648), 2147483647), ((-2147483648), 2147483647), ((-2147483648), 2147483647), ((-2147483648), 2147483647), ((-2147483648), 2147483647), ((-2147483648), 2147483647), ((-2147483648), 2147483647), ((-2147483648), 2147483647), ((-2147483648), 2147483647)], [], [(0, [(0, 1)]), ((-1), [(0, (-1)), (12, 1)]), (6, [(12, (-1))]), ((-1), [(1, 1)]), (0, [(2, 1), (3, (-1))]), (0, [(2, (-1)), (3, 1), (4, 1)]), (0, [(2, 1), (3, (-1)), (4, (-1))])], [], [(0, 0, 0, [(0, 1)]), (0, 0, 0, [(4, 1)])], [], [(238, [(8, []), (0, [(5, 1)]), (0, [(6, 1)]), (0, [(7, 1)]), (0, [(8, 1)]), (0, [(9, 1)]), (0, [(10, 1)]), (0, [(11, 1)]), (6, [(0, 1)]), (0, []), (0, [(1, 1)])]), (238, [(8, []), (0, [(5, 1)]), (0, [(6, 1)]), (0, [(7, 1)]), (0, [(8, 1)]), (0, [(9, 1)]), (0, [(10, 1)]), (0, [(11, 1)]), (12, [(0, 1)]), (0, []), (0, [(2, 1)])]), (238, [(4, []), (0, [(5, 1)]), (0, [(6, 1)]), (0, [(7, 1)]), (0, [(8, 1)]), (0, [(9, 1)]), (0, [(10, 1)]), (0, [(11, 1)]), (1, []), (0, [(0, 1)]), (0, [(3, 1)])]), (265, [(0, [(12, 1)]), (0, [(5, 1)]), (0, [(6, 1)]), (0, [(7, 1)]), (0, [(8, 1)]), (0, [(9, 1)]), (0, [(10, 1)]), (0, [(11, 1)]), (0, [(0, 1)]), (12, [(0, 1)])])]), [([((-2147483648), 2147483647), ((-2147483648), 2147483647), ((-2147483648), 2147483647), ((-2147483648), 2147483647), ((-2147483648), 2147483647), ((-2147483648), 2147483647), ((-2147483648), 2147483647), ((-2147483648), 2147483647), ((-2147483648), 2147483647), ((-2147483648), 2147483647), ((-2147483648), 2147483647), ((-2147483648), 2147483647), ((-2147483648), 2147483647)], [], [], [], [], [], [(238, [(21, []), (0, [(5, 1)]), (0, [(6, 1)]), (0, [(7, 1)]), (0, [(8, 1)]), (0, [(9, 1)]), (0, [(10, 1)]), (0, [(11, 1)]), (0, [(0, 1)]), (0, []), (0, [(4, 1)])])])])
theorem lk_974 : l_core lm_974 := by
  intro v x h
  have E0 : y_ev x (8, []) = 8 := by show ((8) : Int) + 0 = _; omega
  have E1 : y_ev x (0, [(5, 1)]) = x 5 := by show ((0) : Int) + ((1) * x 5 + 0) = _; omega
  have E2 : y_ev x (0, [(6, 1)]) = x 6 := by show ((0) : Int) + ((1) * x 6 + 0) = _; omega
  have E3 : y_ev x (0, [(7, 1)]) = x 7 := by show ((0) : Int) + ((1) * x 7 + 0) = _; omega
  have E4 : y_ev x (0, [(8, 1)]) = x 8 := by show ((0) : Int) + ((1) * x 8 + 0) = _; omega
  have E5 : y_ev x (0, [(9, 1)]) = x 9 := by show ((0) : Int) + ((1) * x 9 + 0) = _; omega
  have E6 : y_ev x (0, [(10, 1)]) = x 10 := by show ((0) : Int) + ((1) * x 10 + 0) = _; omega
  have E7 : y_ev x (0, [(11, 1)]) = x 11 := by show ((0) : Int) + ((1) * x 11 + 0) = _; omega
  have E8 : y_ev x (6, [(0, 1)]) = x 0 + 6 := by show ((6) : Int) + ((1) * x 0 + 0) = _; omega
  have E9 : y_ev x (0, []) = 0 := by show ((0) : Int) + 0 = _; omega
  have E10 : y_ev x (0, [(1, 1)]) = x 1 := by show ((0) : Int) + ((1) * x 1 + 0) = _; omega
  have E11 : y_ev x (12, [(0, 1)]) = x 0 + 12 := by show ((12) : Int) + ((1) * x 0 + 0) = _; omega
  have E12 : y_ev x (0, [(2, 1)]) = x 2 := by show ((0) : Int) + ((1) * x 2 + 0) = _; omega
  have E13 : y_ev x (4, []) = 4 := by show ((4) : Int) + 0 = _; omega
  have E14 : y_ev x (1, []) = 1 := by show ((1) : Int) + 0 = _; omega
  have E15 : y_ev x (0, [(0, 1)]) = x 0 := by show ((0) : Int) + ((1) * x 0 + 0) = _; omega
  have E16 : y_ev x (0, [(3, 1)]) = x 3 := by show ((0) : Int) + ((1) * x 3 + 0) = _; omega
  have E17 : y_ev x (0, [(12, 1)]) = x 12 := by show ((0) : Int) + ((1) * x 12 + 0) = _; omega
  have E18 : y_ev x ((-1), [(0, (-1)), (12, 1)]) = x 12 - x 0 - 1 := by show ((-1) : Int) + ((-1) * x 0 + ((1) * x 12 + 0)) = _; omega
  have E19 : y_ev x (6, [(12, (-1))]) = 6 - x 12 := by show ((6) : Int) + ((-1) * x 12 + 0) = _; omega
  have E20 : y_ev x ((-1), [(1, 1)]) = x 1 - 1 := by show ((-1) : Int) + ((1) * x 1 + 0) = _; omega
  have E21 : y_ev x (0, [(2, 1), (3, (-1))]) = x 2 - x 3 := by show ((0) : Int) + ((1) * x 2 + ((-1) * x 3 + 0)) = _; omega
  have E22 : y_ev x (0, [(2, (-1)), (3, 1), (4, 1)]) = x 3 + x 4 - x 2 := by show ((0) : Int) + ((-1) * x 2 + ((1) * x 3 + ((1) * x 4 + 0))) = _; omega
  have E23 : y_ev x (0, [(2, 1), (3, (-1)), (4, (-1))]) = x 2 - x 3 - x 4 := by show ((0) : Int) + ((1) * x 2 + ((-1) * x 3 + ((-1) * x 4 + 0))) = _; omega
  have T0 : q_qry v (y_ev x (8, [])) (y_ev x (0, [(5, 1)])) (y_ev x (0, [(6, 1)])) (y_ev x (0, [(7, 1)])) (y_ev x (0, [(8, 1)])) (y_ev x (0, [(9, 1)])) (y_ev x (0, [(10, 1)])) (y_ev x (0, [(11, 1)])) (y_ev x (6, [(0, 1)])) (y_ev x (0, [])) (y_ev x (0, [(1, 1)])) := h.2.2.2.1
  try rw [E0] at T0; try rw [E1] at T0; try rw [E2] at T0; try rw [E3] at T0; try rw [E4] at T0; try rw [E5] at T0; try rw [E6] at T0; try rw [E7] at T0; try rw [E8] at T0; try rw [E9] at T0; try rw [E10] at T0
  have T1 : q_qry v (y_ev x (8, [])) (y_ev x (0, [(5, 1)])) (y_ev x (0, [(6, 1)])) (y_ev x (0, [(7, 1)])) (y_ev x (0, [(8, 1)])) (y_ev x (0, [(9, 1)])) (y_ev x (0, [(10, 1)])) (y_ev x (0, [(11, 1)])) (y_ev x (12, [(0, 1)])) (y_ev x (0, [])) (y_ev x (0, [(2, 1)])) := h.2.2.2.2.1
  try rw [E0] at T1; try rw [E1] at T1; try rw [E2] at T1; try rw [E3] at T1; try rw [E4] at T1; try rw [E5] at T1; try rw [E6] at T1; try rw [E7] at T1; try rw [E11] at T1; try rw [E9] at T1; try rw [E12] at T1
  have T2 : q_qry v (y_ev x (4, [])) (y_ev x (0, [(5, 1)])) (y_ev x (0, [(6, 1)])) (y_ev x (0, [(7, 1)])) (y_ev x (0, [(8, 1)])) (y_ev x (0, [(9, 1)])) (y_ev x (0, [(10, 1)])) (y_ev x (0, [(11, 1)])) (y_ev x (1, [])) (y_ev x (0, [(0, 1)])) (y_ev x (0, [(3, 1)])) := h.2.2.2.2.2.1
  try rw [E13] at T2; try rw [E1] at T2; try rw [E2] at T2; try rw [E3] at T2; try rw [E4] at T2; try rw [E5] at T2; try rw [E6] at T2; try rw [E7] at T2; try rw [E14] at T2; try rw [E15] at T2; try rw [E16] at T2
  have T3 : q_ryx v (y_ev x (0, [(12, 1)])) (y_ev x (0, [(5, 1)])) (y_ev x (0, [(6, 1)])) (y_ev x (0, [(7, 1)])) (y_ev x (0, [(8, 1)])) (y_ev x (0, [(9, 1)])) (y_ev x (0, [(10, 1)])) (y_ev x (0, [(11, 1)])) (y_ev x (0, [(0, 1)])) (y_ev x (12, [(0, 1)])) := h.2.2.2.2.2.2.1
  try rw [E17] at T3; try rw [E1] at T3; try rw [E2] at T3; try rw [E3] at T3; try rw [E4] at T3; try rw [E5] at T3; try rw [E6] at T3; try rw [E7] at T3; try rw [E15] at T3; try rw [E11] at T3
  have C0 : 0 ≤ y_ev x (0, [(0, 1)]) := h.2.1.1
  rw [E15] at C0
  have C1 : 0 ≤ y_ev x ((-1), [(0, (-1)), (12, 1)]) := h.2.1.2.1
  rw [E18] at C1
  have C2 : 0 ≤ y_ev x (6, [(12, (-1))]) := h.2.1.2.2.1
  rw [E19] at C2
  have C3 : 0 ≤ y_ev x ((-1), [(1, 1)]) := h.2.1.2.2.2.1
  rw [E20] at C3
  have C4 : 0 ≤ y_ev x (0, [(2, 1), (3, (-1))]) := h.2.1.2.2.2.2.1
  rw [E21] at C4
  have C5 : 0 ≤ y_ev x (0, [(2, (-1)), (3, 1), (4, 1)]) := h.2.1.2.2.2.2.2.1
  rw [E22] at C5
  have C6 : 0 ≤ y_ev x (0, [(2, 1), (3, (-1)), (4, (-1))]) := h.2.1.2.2.2.2.2.2.1
  rw [E23] at C6
  have K := k_mns1 (V := v) (h := x 0) (x := x 1) (z := x 2) (w := x 3) (v := x 4) (q := x 5) (b := x 6) (s := x 7) (o := x 8) (a1 := x 9) (a2 := x 10) (a3 := x 11) (H := x 12) T0 T1 T2 T3 C0 C1 C2 C3 C4 C5 C6
  refine l_outH rfl (And.intro h.1 ?_)
  have O0 : y_ev x (21, []) = 21 := by show ((21) : Int) + 0 = _; omega
  have O1 : y_ev x (0, [(5, 1)]) = x 5 := by show ((0) : Int) + ((1) * x 5 + 0) = _; omega
  have O2 : y_ev x (0, [(6, 1)]) = x 6 := by show ((0) : Int) + ((1) * x 6 + 0) = _; omega
  have O3 : y_ev x (0, [(7, 1)]) = x 7 := by show ((0) : Int) + ((1) * x 7 + 0) = _; omega
  have O4 : y_ev x (0, [(8, 1)]) = x 8 := by show ((0) : Int) + ((1) * x 8 + 0) = _; omega
  have O5 : y_ev x (0, [(9, 1)]) = x 9 := by show ((0) : Int) + ((1) * x 9 + 0) = _; omega
  have O6 : y_ev x (0, [(10, 1)]) = x 10 := by show ((0) : Int) + ((1) * x 10 + 0) = _; omega
  have O7 : y_ev x (0, [(11, 1)]) = x 11 := by show ((0) : Int) + ((1) * x 11 + 0) = _; omega
  have O8 : y_ev x (0, [(0, 1)]) = x 0 := by show ((0) : Int) + ((1) * x 0 + 0) = _; omega
  have O9 : y_ev x (0, []) = 0 := by show ((0) : Int) + 0 = _; omega
  have O10 : y_ev x (0, [(4, 1)]) = x 4 := by show ((0) : Int) + ((1) * x 4 + 0) = _; omega
  show (True) ∧ (q_qry v (y_ev x (21, [])) (y_ev x (0, [(5, 1)])) (y_ev x (0, [(6, 1)])) (y_ev x (0, [(7, 1)])) (y_ev x (0, [(8, 1)])) (y_ev x (0, [(9, 1)])) (y_ev x (0, [(10, 1)])) (y_ev x (0, [(11, 1)])) (y_ev x (0, [(0, 1)])) (y_ev x (0, [])) (y_ev x (0, [(4, 1)])) ∧ True)
  try rw [O0]; try rw [O1]; try rw [O2]; try rw [O3]; try rw [O4]; try rw [O5]; try rw [O6]; try rw [O7]; try rw [O8]; try rw [O9]; try rw [O10]
  exact K
def lm_975 : zLem := (([((-2147483648), 2147483647), ((-2147483648), 2147483647), ((-2147483648), 2147483647), ((-2147483648), 2147483647), ((-2147483648), 2147483647), ((-2147483648), 2147483647), ((-2147483648), 2147483647), ((-2147483648), 2147483647), ((-2147483648), 2147483647), ((-2147483648), 2147483647), ((-2147483648), 2147483647), ((-2147483648), 2147483647), ((-2147483648), 2147483647)], [], [(0, [(0, 1)]), ((-1), [(0, (-1)), (12, 1)]), (6, [(12, (-1))]), ((-1), [(1, 1)]), ((-1), [(2, (-1)), (3, 1)]), (0, [(4, 1)]), (0, [(4, (-1))])], [], [(0, 0, 0, [(0, 1)]), (0, 0, 0, [(4, 1)])], [], [(238, [(8, []), (0, [(5, 1)]), (0, [(6, 1)]), (0, [(7, 1)]), (0, [(8, 1)]), (0, [(9, 1)]), (0, [(10, 1)]), (0, [(11, 1)]), (6, [(0, 1)]), (0, []), (0, [(1, 1)])]), (238, [(8, []), (0, [(5, 1)]), (0, [(6, 1)]), (0, [(7, 1)]), (0, [(8, 1)]), (0, [(9, 1)]), (0, [(10, 1)]), (0, [(11, 1)]), (12, [(0, 1)]), (0, []), (0, [(2, 1)])]), (238, [(4, []), (0, [(5, 1)]), (0, [(6, 1)]), (0, [(7, 1)]), (0, [(8, 1)]), (0, [(9, 1)]), (0, [(10, 1)]), (0, [(11, 1)]), (1, []), (0, [(0, 1)]), (0, [(3, 1)])]), (265, [(0, [(12, 1)]), (0, [(5, 1)]), (0, [(6, 1)]), (0, [(7, 1)]), (0, [(8, 1)]), (0, [(9, 1)]), (0, [(10, 1)]), (0, [(11, 1)]), (0, [(0, 1)]), (12, [(0, 1)])])]), [([((-2147483648), 2147483647), ((-2147483648), 2147483647), ((-2147483648), 2147483647), ((-2147483648), 2147483647), ((-2147483648), 2147483647), ((-2147483648), 2147483647), ((-2147483648), 2147483647), ((-2147483648), 2147483647), ((-2147483648), 2147483647), ((-2147483648), 2147483647), ((-2147483648), 2147483647), ((-2147483648), 2147483647), ((-2147483648), 2147483647)], [], [], [], [], [], [(238, [(21, []), (0, [(5, 1)]), (0, [(6, 1)]), (0, [(7, 1)]), (0, [(8, 1)]), (0, [(9, 1)]), (0, [(10, 1)]), (0, [(11, 1)]), (0, [(0, 1)]), (0, []), (0, [(4, 1)])])])])
theorem lk_975 : l_core lm_975 := by
  intro v x h
  have E0 : y_ev x (8, []) = 8 := by show ((8) : Int) + 0 = _; omega
  have E1 : y_ev x (0, [(5, 1)]) = x 5 := by show ((0) : Int) + ((1) * x 5 + 0) = _; omega
  have E2 : y_ev x (0, [(6, 1)]) = x 6 := by show ((0) : Int) + ((1) * x 6 + 0) = _; omega
  have E3 : y_ev x (0, [(7, 1)]) = x 7 := by show ((0) : Int) + ((1) * x 7 + 0) = _; omega
  have E4 : y_ev x (0, [(8, 1)]) = x 8 := by show ((0) : Int) + ((1) * x 8 + 0) = _; omega
  have E5 : y_ev x (0, [(9, 1)]) = x 9 := by show ((0) : Int) + ((1) * x 9 + 0) = _; omega
  have E6 : y_ev x (0, [(10, 1)]) = x 10 := by show ((0) : Int) + ((1) * x 10 + 0) = _; omega
  have E7 : y_ev x (0, [(11, 1)]) = x 11 := by show ((0) : Int) + ((1) * x 11 + 0) = _; omega
  have E8 : y_ev x (6, [(0, 1)]) = x 0 + 6 := by show ((6) : Int) + ((1) * x 0 + 0) = _; omega
  have E9 : y_ev x (0, []) = 0 := by show ((0) : Int) + 0 = _; omega
  have E10 : y_ev x (0, [(1, 1)]) = x 1 := by show ((0) : Int) + ((1) * x 1 + 0) = _; omega
  have E11 : y_ev x (12, [(0, 1)]) = x 0 + 12 := by show ((12) : Int) + ((1) * x 0 + 0) = _; omega
  have E12 : y_ev x (0, [(2, 1)]) = x 2 := by show ((0) : Int) + ((1) * x 2 + 0) = _; omega
  have E13 : y_ev x (4, []) = 4 := by show ((4) : Int) + 0 = _; omega
  have E14 : y_ev x (1, []) = 1 := by show ((1) : Int) + 0 = _; omega
  have E15 : y_ev x (0, [(0, 1)]) = x 0 := by show ((0) : Int) + ((1) * x 0 + 0) = _; omega
  have E16 : y_ev x (0, [(3, 1)]) = x 3 := by show ((0) : Int) + ((1) * x 3 + 0) = _; omega
  have E17 : y_ev x (0, [(12, 1)]) = x 12 := by show ((0) : Int) + ((1) * x 12 + 0) = _; omega
  have E18 : y_ev x ((-1), [(0, (-1)), (12, 1)]) = x 12 - x 0 - 1 := by show ((-1) : Int) + ((-1) * x 0 + ((1) * x 12 + 0)) = _; omega
  have E19 : y_ev x (6, [(12, (-1))]) = 6 - x 12 := by show ((6) : Int) + ((-1) * x 12 + 0) = _; omega
  have E20 : y_ev x ((-1), [(1, 1)]) = x 1 - 1 := by show ((-1) : Int) + ((1) * x 1 + 0) = _; omega
  have E21 : y_ev x ((-1), [(2, (-1)), (3, 1)]) = x 3 - x 2 - 1 := by show ((-1) : Int) + ((-1) * x 2 + ((1) * x 3 + 0)) = _; omega
  have E22 : y_ev x (0, [(4, 1)]) = x 4 := by show ((0) : Int) + ((1) * x 4 + 0) = _; omega
  have E23 : y_ev x (0, [(4, (-1))]) = -x 4 := by show ((0) : Int) + ((-1) * x 4 + 0) = _; omega
  have T0 : q_qry v (y_ev x (8, [])) (y_ev x (0, [(5, 1)])) (y_ev x (0, [(6, 1)])) (y_ev x (0, [(7, 1)])) (y_ev x (0, [(8, 1)])) (y_ev x (0, [(9, 1)])) (y_ev x (0, [(10, 1)])) (y_ev x (0, [(11, 1)])) (y_ev x (6, [(0, 1)])) (y_ev x (0, [])) (y_ev x (0, [(1, 1)])) := h.2.2.2.1
  try rw [E0] at T0; try rw [E1] at T0; try rw [E2] at T0; try rw [E3] at T0; try rw [E4] at T0; try rw [E5] at T0; try rw [E6] at T0; try rw [E7] at T0; try rw [E8] at T0; try rw [E9] at T0; try rw [E10] at T0
  have T1 : q_qry v (y_ev x (8, [])) (y_ev x (0, [(5, 1)])) (y_ev x (0, [(6, 1)])) (y_ev x (0, [(7, 1)])) (y_ev x (0, [(8, 1)])) (y_ev x (0, [(9, 1)])) (y_ev x (0, [(10, 1)])) (y_ev x (0, [(11, 1)])) (y_ev x (12, [(0, 1)])) (y_ev x (0, [])) (y_ev x (0, [(2, 1)])) := h.2.2.2.2.1
  try rw [E0] at T1; try rw [E1] at T1; try rw [E2] at T1; try rw [E3] at T1; try rw [E4] at T1; try rw [E5] at T1; try rw [E6] at T1; try rw [E7] at T1; try rw [E11] at T1; try rw [E9] at T1; try rw [E12] at T1
  have T2 : q_qry v (y_ev x (4, [])) (y_ev x (0, [(5, 1)])) (y_ev x (0, [(6, 1)])) (y_ev x (0, [(7, 1)])) (y_ev x (0, [(8, 1)])) (y_ev x (0, [(9, 1)])) (y_ev x (0, [(10, 1)])) (y_ev x (0, [(11, 1)])) (y_ev x (1, [])) (y_ev x (0, [(0, 1)])) (y_ev x (0, [(3, 1)])) := h.2.2.2.2.2.1
  try rw [E13] at T2; try rw [E1] at T2; try rw [E2] at T2; try rw [E3] at T2; try rw [E4] at T2; try rw [E5] at T2; try rw [E6] at T2; try rw [E7] at T2; try rw [E14] at T2; try rw [E15] at T2; try rw [E16] at T2
  have T3 : q_ryx v (y_ev x (0, [(12, 1)])) (y_ev x (0, [(5, 1)])) (y_ev x (0, [(6, 1)])) (y_ev x (0, [(7, 1)])) (y_ev x (0, [(8, 1)])) (y_ev x (0, [(9, 1)])) (y_ev x (0, [(10, 1)])) (y_ev x (0, [(11, 1)])) (y_ev x (0, [(0, 1)])) (y_ev x (12, [(0, 1)])) := h.2.2.2.2.2.2.1
  try rw [E17] at T3; try rw [E1] at T3; try rw [E2] at T3; try rw [E3] at T3; try rw [E4] at T3; try rw [E5] at T3; try rw [E6] at T3; try rw [E7] at T3; try rw [E15] at T3; try rw [E11] at T3
  have C0 : 0 ≤ y_ev x (0, [(0, 1)]) := h.2.1.1
  rw [E15] at C0
  have C1 : 0 ≤ y_ev x ((-1), [(0, (-1)), (12, 1)]) := h.2.1.2.1
  rw [E18] at C1
  have C2 : 0 ≤ y_ev x (6, [(12, (-1))]) := h.2.1.2.2.1
  rw [E19] at C2
  have C3 : 0 ≤ y_ev x ((-1), [(1, 1)]) := h.2.1.2.2.2.1
  rw [E20] at C3
  have C4 : 0 ≤ y_ev x ((-1), [(2, (-1)), (3, 1)]) := h.2.1.2.2.2.2.1
  rw [E21] at C4
  have C5 : 0 ≤ y_ev x (0, [(4, 1)]) := h.2.1.2.2.2.2.2.1
  rw [E22] at C5
  have C6 : 0 ≤ y_ev x (0, [(4, (-1))]) := h.2.1.2.2.2.2.2.2.1
  rw [E23] at C6
  have K := k_mns0 (V := v) (h := x 0) (x := x 1) (z := x 2) (w := x 3) (v := x 4) (q := x 5) (b := x 6) (s := x 7) (o := x 8) (a1 := x 9) (a2 := x 10) (a3 := x 11) (H := x 12) T0 T1 T2 T3 C0 C1 C2 C3 C4 C5 C6
  refine l_outH rfl (And.intro h.1 ?_)
  have O0 : y_ev x (21, []) = 21 := by show ((21) : Int) + 0 = _; omega
  have O1 : y_ev x (0, [(5, 1)]) = x 5 := by show ((0) : Int) + ((1) * x 5 + 0) = _; omega
  have O2 : y_ev x (0, [(6, 1)]) = x 6 := by show ((0) : Int) + ((1) * x 6 + 0) = _; omega
  have O3 : y_ev x (0, [(7, 1)]) = x 7 := by show ((0) : Int) + ((1) * x 7 + 0) = _; omega
  have O4 : y_ev x (0, [(8, 1)]) = x 8 := by show ((0) : Int) + ((1) * x 8 + 0) = _; omega
  have O5 : y_ev x (0, [(9, 1)]) = x 9 := by show ((0) : Int) + ((1) * x 9 + 0) = _; omega
  have O6 : y_ev x (0, [(10, 1)]) = x 10 := by show ((0) : Int) + ((1) * x 10 + 0) = _; omega
  have O7 : y_ev x (0, [(11, 1)]) = x 11 := by show ((0) : Int) + ((1) * x 11 + 0) = _; omega
  have O8 : y_ev x (0, [(0, 1)]) = x 0 := by show ((0) : Int) + ((1) * x 0 + 0) = _; omega
  have O9 : y_ev x (0, []) = 0 := by show ((0) : Int) + 0 = _; omega
  have O10 : y_ev x (0, [(4, 1)]) = x 4 := by show ((0) : Int) + ((1) * x 4 + 0) = _; omega
  show (True) ∧ (q_qry v (y_ev x (21, [])) (y_ev x (0, [(5, 1)])) (y_ev x (0, [(6, 1)])) (y_ev x (0, [(7, 1)])) (y_ev x (0, [(8, 1)])) (y_ev x (0, [(9, 1)])) (y_ev x (0, [(10, 1)])) (y_ev x (0, [(11, 1)])) (y_ev x (0, [(0, 1)])) (y_ev x (0, [])) (y_ev x (0, [(4, 1)])) ∧ True)
  try rw [O0]; try rw [O1]; try rw [O2]; try rw [O3]; try rw [O4]; try rw [O5]; try rw [O6]; try rw [O7]; try rw [O8]; try rw [O9]; try rw [O10]
  exact K
def lm_976 : zLem := (([((-2147483648), 2147483647), ((-2147483648), 2147483647), ((-2147483648), 2147483647), ((-2147483648), 2147483647), ((-2147483648), 2147483647), ((-2147483648), 2147483647), ((-2147483648), 2147483647), ((-2147483648), 2147483647), ((-2147483648), 2147483647), ((-2147483648), 2147483647)], [], [(0, [(0, 1)]), ((-1), [(0, (-1)), (9, 1)]), (6, [(9, (-1))])], [], [(0, 0, 0, [(0, 1)])], [], [(238, [(8, []), (0, [(2, 1)]), (0, [(3, 1)]), (0, [(4, 1)]), (0, [(5, 1)]), (0, [(6, 1)]), (0, [(7, 1)]), (0, [(8, 1)]), (6, [(0, 1)]), (0, []), (0, [])]), (238, [(8, []), (0, [(2, 1)]), (0, [(3, 1)]), (0, [(4, 1)]), (0, [(5, 1)]), (0, [(6, 1)]), (0, [(7, 1)]), (0, [(8, 1)]), (12, [(0, 1)]), (0, []), (0, [(1, 1)])]), (265, [(0, [(9, 1)]), (0, [(2, 1)]), (0, [(3, 1)]), (0, [(4, 1)]), (0, [(5, 1)]), (0, [(6, 1)]), (0, [(7, 1)]), (0, [(8, 1)]), (0, [(0, 1)]), (12, [(0, 1)])])]), [([((-2147483648), 2147483647), ((-2147483648), 2147483647), ((-2147483648), 2147483647), ((-2147483648), 2147483647), ((-2147483648), 2147483647), ((-2147483648), 2147483647), ((-2147483648), 2147483647), ((-2147483648), 2147483647), ((-2147483648), 2147483647), ((-2147483648), 2147483647)], [], [(0, [(1, 1)]), (0, [(1, (-1))])], [], [], [], [(238, [(21, []), (0, [(2, 1)]), (0, [(3, 1)]), (0, [(4, 1)]), (0, [(5, 1)]), (0, [(6, 1)]), (0, [(7, 1)]), (0, [(8, 1)]), (0, [(0, 1)]), (0, []), (0, [])])])])
theorem lk_976 : l_core lm_976 := by
  intro v x h
  have E0 : y_ev x (8, []) = 8 := by show ((8) : Int) + 0 = _; omega
  have E1 : y_ev x (0, [(2, 1)]) = x 2 := by show ((0) : Int) + ((1) * x 2 + 0) = _; omega
  have E2 : y_ev x (0, [(3, 1)]) = x 3 := by show ((0) : Int) + ((1) * x 3 + 0) = _; omega
  have E3 : y_ev x (0, [(4, 1)]) = x 4 := by show ((0) : Int) + ((1) * x 4 + 0) = _; omega
  have E4 : y_ev x (0, [(5, 1)]) = x 5 := by show ((0) : Int) + ((1) * x 5 + 0) = _; omega
  have E5 : y_ev x (0, [(6, 1)]) = x 6 := by show ((0) : Int) + ((1) * x 6 + 0) = _; omega
  have E6 : y_ev x (0, [(7, 1)]) = x 7 := by show ((0) : Int) + ((1) * x 7 + 0) = _; omega
  have E7 : y_ev x (0, [(8, 1)]) = x 8 := by show ((0) : Int) + ((1) * x 8 + 0) = _; omega
  have E8 : y_ev x (6, [(0, 1)]) = x 0 + 6 := by show ((6) : Int) + ((1) * x 0 + 0) = _; omega
  have E9 : y_ev x (0, []) = 0 := by show ((0) : Int) + 0 = _; omega
  have E10 : y_ev x (12, [(0, 1)]) = x 0 + 12 := by show ((12) : Int) + ((1) * x 0 + 0) = _; omega
  have E11 : y_ev x (0, [(1, 1)]) = x 1 := by show ((0) : Int) + ((1) * x 1 + 0) = _; omega
  have E12 : y_ev x (0, [(9, 1)]) = x 9 := by show ((0) : Int) + ((1) * x 9 + 0) = _; omega
  have E13 : y_ev x (0, [(0, 1)]) = x 0 := by show ((0) : Int) + ((1) * x 0 + 0) = _; omega
  have E14 : y_ev x ((-1), [(0, (-1)), (9, 1)]) = x 9 - x 0 - 1 := by show ((-1) : Int) + ((-1) * x 0 + ((1) * x 9 + 0)) = _; omega
  have E15 : y_ev x (6, [(9, (-1))]) = 6 - x 9 := by show ((6) : Int) + ((-1) * x 9 + 0) = _; omega
  have T0 : q_qry v (y_ev x (8, [])) (y_ev x (0, [(2, 1)])) (y_ev x (0, [(3, 1)])) (y_ev x (0, [(4, 1)])) (y_ev x (0, [(5, 1)])) (y_ev x (0, [(6, 1)])) (y_ev x (0, [(7, 1)])) (y_ev x (0, [(8, 1)])) (y_ev x (6, [(0, 1)])) (y_ev x (0, [])) (y_ev x (0, [])) := h.2.2.2.1
  try rw [E0] at T0; try rw [E1] at T0; try rw [E2] at T0; try rw [E3] at T0; try rw [E4] at T0; try rw [E5] at T0; try rw [E6] at T0; try rw [E7] at T0; try rw [E8] at T0; try rw [E9] at T0
  have T1 : q_qry v (y_ev x (8, [])) (y_ev x (0, [(2, 1)])) (y_ev x (0, [(3, 1)])) (y_ev x (0, [(4, 1)])) (y_ev x (0, [(5, 1)])) (y_ev x (0, [(6, 1)])) (y_ev x (0, [(7, 1)])) (y_ev x (0, [(8, 1)])) (y_ev x (12, [(0, 1)])) (y_ev x (0, [])) (y_ev x (0, [(1, 1)])) := h.2.2.2.2.1
  try rw [E0] at T1; try rw [E1] at T1; try rw [E2] at T1; try rw [E3] at T1; try rw [E4] at T1; try rw [E5] at T1; try rw [E6] at T1; try rw [E7] at T1; try rw [E10] at T1; try rw [E9] at T1; try rw [E11] at T1
  have T2 : q_ryx v (y_ev x (0, [(9, 1)])) (y_ev x (0, [(2, 1)])) (y_ev x (0, [(3, 1)])) (y_ev x (0, [(4, 1)])) (y_ev x (0, [(5, 1)])) (y_ev x (0, [(6, 1)])) (y_ev x (0, [(7, 1)])) (y_ev x (0, [(8, 1)])) (y_ev x (0, [(0, 1)])) (y_ev x (12, [(0, 1)])) := h.2.2.2.2.2.1
  try rw [E12] at T2; try rw [E1] at T2; try rw [E2] at T2; try rw [E3] at T2; try rw [E4] at T2; try rw [E5] at T2; try rw [E6] at T2; try rw [E7] at T2; try rw [E13] at T2; try rw [E10] at T2
  have C0 : 0 ≤ y_ev x (0, [(0, 1)]) := h.2.1.1
  rw [E13] at C0
  have C1 : 0 ≤ y_ev x ((-1), [(0, (-1)), (9, 1)]) := h.2.1.2.1
  rw [E14] at C1
  have C2 : 0 ≤ y_ev x (6, [(9, (-1))]) := h.2.1.2.2.1
  rw [E15] at C2
  have K := k_mnsN (V := v) (h := x 0) (z := x 1) (q := x 2) (b := x 3) (s := x 4) (o := x 5) (a1 := x 6) (a2 := x 7) (a3 := x 8) (H := x 9) T0 T1 T2 C0 C1 C2
  refine l_outH rfl (And.intro h.1 ?_)
  have O0 : y_ev x (0, [(1, 1)]) = x 1 := by show ((0) : Int) + ((1) * x 1 + 0) = _; omega
  have O1 : y_ev x (0, [(1, (-1))]) = -x 1 := by show ((0) : Int) + ((-1) * x 1 + 0) = _; omega
  have O2 : y_ev x (21, []) = 21 := by show ((21) : Int) + 0 = _; omega
  have O3 : y_ev x (0, [(2, 1)]) = x 2 := by show ((0) : Int) + ((1) * x 2 + 0) = _; omega
  have O4 : y_ev x (0, [(3, 1)]) = x 3 := by show ((0) : Int) + ((1) * x 3 + 0) = _; omega
  have O5 : y_ev x (0, [(4, 1)]) = x 4 := by show ((0) : Int) + ((1) * x 4 + 0) = _; omega
  have O6 : y_ev x (0, [(5, 1)]) = x 5 := by show ((0) : Int) + ((1) * x 5 + 0) = _; omega
  have O7 : y_ev x (0, [(6, 1)]) = x 6 := by show ((0) : Int) + ((1) * x 6 + 0) = _; omega
  have O8 : y_ev x (0, [(7, 1)]) = x 7 := by show ((0) : Int) + ((1) * x 7 + 0) = _; omega
  have O9 : y_ev x (0, [(8, 1)]) = x 8 := by show ((0) : Int) + ((1) * x 8 + 0) = _; omega
  have O10 : y_ev x (0, [(0, 1)]) = x 0 := by show ((0) : Int) + ((1) * x 0 + 0) = _; omega
  have O11 : y_ev x (0, []) = 0 := by show ((0) : Int) + 0 = _; omega
  show (0 ≤ y_ev x (0, [(1, 1)]) ∧ 0 ≤ y_ev x (0, [(1, (-1))]) ∧ True) ∧ (q_qry v (y_ev x (21, [])) (y_ev x (0, [(2, 1)])) (y_ev x (0, [(3, 1)])) (y_ev x (0, [(4, 1)])) (y_ev x (0, [(5, 1)])) (y_ev x (0, [(6, 1)])) (y_ev x (0, [(7, 1)])) (y_ev x (0, [(8, 1)])) (y_ev x (0, [(0, 1)])) (y_ev x (0, [])) (y_ev x (0, [])) ∧ True)
  try rw [O0]; try rw [O1]; try rw [O2]; try rw [O3]; try rw [O4]; try rw [O5]; try rw [O6]; try rw [O7]; try rw [O8]; try rw [O9]; try rw [O10]; try rw [O11]
  exact K
def lm_977 : zLem := (([((-2147483648), 2147483647), ((-2147483648), 2147483647), ((-2147483648), 2147483647), ((-2147483648), 2147483647), ((-2147483648), 2147483647), ((-2147483648), 2147483647), ((-2147483648), 2147483647), ((-2147483648), 2147483647)], [(78, false)], [(0, [(0, 1)]), ((-1), [(0, (-1)), (4, 1)]), (6, [(4, (-1))])], [], [(0, 0, 0, [(0, 1)])], [(0, (true, 0, 0, [(0, 1)]), 0, 0, 0, [(1, 1)]), (0, (true, 0, 12, [(0, 1)]), 0, 0, 0, [(2, 1)])], [(265, [(0, [(4, 1)]), (0, [(5, 1)]), (0, [(6, 1)]), (0, [(7, 1)]), (4, []), (0, [(3, 1)]), (0, [(0, 1)]), (0, [(4, 1)]), (0, [(0, 1)]), (12, [(0, 1)])]), (238, [(20, []), (0, [(5, 1)]), (0, [(6, 1)]), (0, [(7, 1)]), (4, []), (0, [(3, 1)]), (0, [(0, 1)]), (0, [(4, 1)]), (0, [(0, 1)]), (0, []), (0, [(1, 1)])]), (238, [(21, []), (0, [(5, 1)]), (0, [(6, 1)]), (0, [(7, 1)]), (4, []), (0, [(3, 1)]), (0, [(0, 1)]), (0, [(4, 1)]), (0, [(0, 1)]), (0, []), (0, [(2, 1)])])]), [([((-2147483648), 2147483647), ((-2147483648), 2147483647), ((-2147483648), 2147483647), ((-2147483648), 2147483647), ((-2147483648), 2147483647), ((-2147483648), 2147483647), ((-2147483648), 2147483647), ((-2147483648), 2147483647)], [(78, false)], [], [], [], [], [(237, [(0, [(4, 1)]), (0, [(5, 1)]), (0, [(6, 1)]), (0, [(7, 1)]), (4, []), (0, [(3, 1)]), (1, [(0, 1)]), (0, [(4, 1)])])])])
theorem lk_977 : l_core lm_977 := by
  intro v x h
  have E0 : y_ev x (0, [(4, 1)]) = x 4 := by show ((0) : Int) + ((1) * x 4 + 0) = _; omega
  have E1 : y_ev x (0, [(5, 1)]) = x 5 := by show ((0) : Int) + ((1) * x 5 + 0) = _; omega
  have E2 : y_ev x (0, [(6, 1)]) = x 6 := by show ((0) : Int) + ((1) * x 6 + 0) = _; omega
  have E3 : y_ev x (0, [(7, 1)]) = x 7 := by show ((0) : Int) + ((1) * x 7 + 0) = _; omega
  have E4 : y_ev x (4, []) = 4 := by show ((4) : Int) + 0 = _; omega
  have E5 : y_ev x (0, [(3, 1)]) = x 3 := by show ((0) : Int) + ((1) * x 3 + 0) = _; omega
  have E6 : y_ev x (0, [(0, 1)]) = x 0 := by show ((0) : Int) + ((1) * x 0 + 0) = _; omega
  have E7 : y_ev x (12, [(0, 1)]) = x 0 + 12 := by show ((12) : Int) + ((1) * x 0 + 0) = _; omega
  have E8 : y_ev x (20, []) = 20 := by show ((20) : Int) + 0 = _; omega
  have E9 : y_ev x (0, []) = 0 := by show ((0) : Int) + 0 = _; omega
  have E10 : y_ev x (0, [(1, 1)]) = x 1 := by show ((0) : Int) + ((1) * x 1 + 0) = _; omega
  have E11 : y_ev x (21, []) = 21 := by show ((21) : Int) + 0 = _; omega
  have E12 : y_ev x (0, [(2, 1)]) = x 2 := by show ((0) : Int) + ((1) * x 2 + 0) = _; omega
  have E13 : y_ev x ((-1), [(0, (-1)), (4, 1)]) = x 4 - x 0 - 1 := by show ((-1) : Int) + ((-1) * x 0 + ((1) * x 4 + 0)) = _; omega
  have E14 : y_ev x (6, [(4, (-1))]) = 6 - x 4 := by show ((6) : Int) + ((-1) * x 4 + 0) = _; omega
  have T0 : q_ryx v (y_ev x (0, [(4, 1)])) (y_ev x (0, [(5, 1)])) (y_ev x (0, [(6, 1)])) (y_ev x (0, [(7, 1)])) (y_ev x (4, [])) (y_ev x (0, [(3, 1)])) (y_ev x (0, [(0, 1)])) (y_ev x (0, [(4, 1)])) (y_ev x (0, [(0, 1)])) (y_ev x (12, [(0, 1)])) := h.2.2.2.1
  try rw [E0] at T0; try rw [E1] at T0; try rw [E2] at T0; try rw [E3] at T0; try rw [E4] at T0; try rw [E5] at T0; try rw [E6] at T0; try rw [E7] at T0
  have T1 : q_qry v (y_ev x (20, [])) (y_ev x (0, [(5, 1)])) (y_ev x (0, [(6, 1)])) (y_ev x (0, [(7, 1)])) (y_ev x (4, [])) (y_ev x (0, [(3, 1)])) (y_ev x (0, [(0, 1)])) (y_ev x (0, [(4, 1)])) (y_ev x (0, [(0, 1)])) (y_ev x (0, [])) (y_ev x (0, [(1, 1)])) := h.2.2.2.2.1
  try rw [E8] at T1; try rw [E1] at T1; try rw [E2] at T1; try rw [E3] at T1; try rw [E4] at T1; try rw [E5] at T1; try rw [E6] at T1; try rw [E0] at T1; try rw [E9] at T1; try rw [E10] at T1
  have T2 : q_qry v (y_ev x (21, [])) (y_ev x (0, [(5, 1)])) (y_ev x (0, [(6, 1)])) (y_ev x (0, [(7, 1)])) (y_ev x (4, [])) (y_ev x (0, [(3, 1)])) (y_ev x (0, [(0, 1)])) (y_ev x (0, [(4, 1)])) (y_ev x (0, [(0, 1)])) (y_ev x (0, [])) (y_ev x (0, [(2, 1)])) := h.2.2.2.2.2.1
  try rw [E11] at T2; try rw [E1] at T2; try rw [E2] at T2; try rw [E3] at T2; try rw [E4] at T2; try rw [E5] at T2; try rw [E6] at T2; try rw [E0] at T2; try rw [E9] at T2; try rw [E12] at T2
  have C0 : 0 ≤ y_ev x (0, [(0, 1)]) := h.2.1.1
  rw [E6] at C0
  have C1 : 0 ≤ y_ev x ((-1), [(0, (-1)), (4, 1)]) := h.2.1.2.1
  rw [E13] at C1
  have C2 : 0 ≤ y_ev x (6, [(4, (-1))]) := h.2.1.2.2.1
  rw [E14] at C2
  have F0 : 0 ≤ y_ev x (0, [(0, 1)]) ∧ y_ev x (0, [(0, 1)]) < j_len 78 ∧ v 78 (y_ev x (0, [(0, 1)])) = y_ev x (0, [(1, 1)]) := h.2.2.1.1.1
  try rw [E6] at F0; try rw [E10] at F0
  have F1 : 0 ≤ y_ev x (12, [(0, 1)]) ∧ y_ev x (12, [(0, 1)]) < j_len 78 ∧ v 78 (y_ev x (12, [(0, 1)])) = y_ev x (0, [(2, 1)]) := h.2.2.1.2.1.1
  try rw [E7] at F1; try rw [E12] at F1
  have K := k_ymE (V := v) (h := x 0) (v := x 1) (w := x 2) (n := x 3) (H := x 4) (q := x 5) (b := x 6) (s := x 7) T0 T1 T2 C0 C1 C2 F0 F1
  refine l_outH rfl (And.intro h.1 ?_)
  have O0 : y_ev x (0, [(4, 1)]) = x 4 := by show ((0) : Int) + ((1) * x 4 + 0) = _; omega
  have O1 : y_ev x (0, [(5, 1)]) = x 5 := by show ((0) : Int) + ((1) * x 5 + 0) = _; omega
  have O2 : y_ev x (0, [(6, 1)]) = x 6 := by show ((0) : Int) + ((1) * x 6 + 0) = _; omega
  have O3 : y_ev x (0, [(7, 1)]) = x 7 := by show ((0) : Int) + ((1) * x 7 + 0) = _; omega
  have O4 : y_ev x (4, []) = 4 := by show ((4) : Int) + 0 = _; omega
  have O5 : y_ev x (0, [(3, 1)]) = x 3 := by show ((0) : Int) + ((1) * x 3 + 0) = _; omega
  have O6 : y_ev x (1, [(0, 1)]) = x 0 + 1 := by show ((1) : Int) + ((1) * x 0 + 0) = _; omega
  show (True) ∧ (q_rwo v (y_ev x (0, [(4, 1)])) (y_ev x (0, [(5, 1)])) (y_ev x (0, [(6, 1)])) (y_ev x (0, [(7, 1)])) (y_ev x (4, [])) (y_ev x (0, [(3, 1)])) (y_ev x (1, [(0, 1)])) (y_ev x (0, [(4, 1)])) ∧ True)
  try rw [O0]; try rw [O1]; try rw [O2]; try rw [O3]; try rw [O4]; try rw [O5]; try rw [O6]
  exact K
def lm_978 : zLem := (([((-2147483648), 2147483647), ((-2147483648), 2147483647), ((-2147483648), 2147483647), ((-2147483648), 2147483647), ((-2147483648), 2147483647), ((-2147483648), 2147483647), ((-2147483648), 2147483647)], [(78, false)], [(0, [(2, 1)]), (0, [(3, 1)])], [], [], [(0, (true, 0, 31, []), 0, 0, 0, [(1, 1)])], [(265, [(0, [(3, 1)]), (0, [(4, 1)]), (0, [(5, 1)]), (0, [(6, 1)]), (4, []), (0, [(2, 1)]), (0, [(3, 1)]), (0, [(3, 1)]), (31, []), (31, [])]), (110, [(0, [(0, 1)]), (1, []), (0, [(1, 1)])]), (238, [(8, []), (0, [(4, 1)]), (0, [(5, 1)]), (0, [(6, 1)]), (4, []), (0, [(2, 1)]), (0, [(3, 1)]), (0, [(3, 1)]), (31, []), (0, []), (0, [(0, 1)])])]), [([((-2147483648), 2147483647), ((-2147483648), 2147483647), ((-2147483648), 2147483647), ((-2147483648), 2147483647), ((-2147483648), 2147483647), ((-2147483648), 2147483647), ((-2147483648), 2147483647)], [(78, false)], [], [], [], [], [(237, [(0, [(3, 1)]), (0, [(4, 1)]), (0, [(5, 1)]), (0, [(6, 1)]), (4, []), (1, [(2, 1)]), (0, []), (0, [(3, 1)])])])])
theorem lk_978 : l_core lm_978 := by
  intro v x h
  have E0 : y_ev x (0, [(3, 1)]) = x 3 := by show ((0) : Int) + ((1) * x 3 + 0) = _; omega
  have E1 : y_ev x (0, [(4, 1)]) = x 4 := by show ((0) : Int) + ((1) * x 4 + 0) = _; omega
  have E2 : y_ev x (0, [(5, 1)]) = x 5 := by show ((0) : Int) + ((1) * x 5 + 0) = _; omega
  have E3 : y_ev x (0, [(6, 1)]) = x 6 := by show ((0) : Int) + ((1) * x 6 + 0) = _; omega
  have E4 : y_ev x (4, []) = 4 := by show ((4) : Int) + 0 = _; omega
  have E5 : y_ev x (0, [(2, 1)]) = x 2 := by show ((0) : Int) + ((1) * x 2 + 0) = _; omega
  have E6 : y_ev x (31, []) = 31 := by show ((31) : Int) + 0 = _; omega
  have E7 : y_ev x (0, [(0, 1)]) = x 0 := by show ((0) : Int) + ((1) * x 0 + 0) = _; omega
  have E8 : y_ev x (1, []) = 1 := by show ((1) : Int) + 0 = _; omega
  have E9 : y_ev x (0, [(1, 1)]) = x 1 := by show ((0) : Int) + ((1) * x 1 + 0) = _; omega
  have E10 : y_ev x (8, []) = 8 := by show ((8) : Int) + 0 = _; omega
  have E11 : y_ev x (0, []) = 0 := by show ((0) : Int) + 0 = _; omega
  have T0 : q_ryx v (y_ev x (0, [(3, 1)])) (y_ev x (0, [(4, 1)])) (y_ev x (0, [(5, 1)])) (y_ev x (0, [(6, 1)])) (y_ev x (4, [])) (y_ev x (0, [(2, 1)])) (y_ev x (0, [(3, 1)])) (y_ev x (0, [(3, 1)])) (y_ev x (31, [])) (y_ev x (31, [])) := h.2.2.2.1
  try rw [E0] at T0; try rw [E1] at T0; try rw [E2] at T0; try rw [E3] at T0; try rw [E4] at T0; try rw [E5] at T0; try rw [E6] at T0
  have T1 : (mOP 110 (Int32.ofInt (y_ev x (0, [(0, 1)]))) (Int32.ofInt (y_ev x (1, [])))).toInt = (y_ev x (0, [(1, 1)])) := h.2.2.2.2.1
  try rw [E7] at T1; try rw [E8] at T1; try rw [E9] at T1
  have T2 : q_qry v (y_ev x (8, [])) (y_ev x (0, [(4, 1)])) (y_ev x (0, [(5, 1)])) (y_ev x (0, [(6, 1)])) (y_ev x (4, [])) (y_ev x (0, [(2, 1)])) (y_ev x (0, [(3, 1)])) (y_ev x (0, [(3, 1)])) (y_ev x (31, [])) (y_ev x (0, [])) (y_ev x (0, [(0, 1)])) := h.2.2.2.2.2.1
  try rw [E10] at T2; try rw [E1] at T2; try rw [E2] at T2; try rw [E3] at T2; try rw [E4] at T2; try rw [E5] at T2; try rw [E0] at T2; try rw [E6] at T2; try rw [E11] at T2; try rw [E7] at T2
  have C0 : 0 ≤ y_ev x (0, [(2, 1)]) := h.2.1.1
  rw [E5] at C0
  have C1 : 0 ≤ y_ev x (0, [(3, 1)]) := h.2.1.2.1
  rw [E0] at C1
  have F0 : 0 ≤ y_ev x (31, []) ∧ y_ev x (31, []) < j_len 78 ∧ v 78 (y_ev x (31, [])) = y_ev x (0, [(1, 1)]) := h.2.2.1.1.1
  try rw [E6] at F0; try rw [E9] at F0
  have K := k_ymZ (V := v) (y := x 0) (y2 := x 1) (n := x 2) (H := x 3) (q := x 4) (b := x 5) (s := x 6) T0 T1 T2 C0 C1 F0
  refine l_outH rfl (And.intro h.1 ?_)
  have O0 : y_ev x (0, [(3, 1)]) = x 3 := by show ((0) : Int) + ((1) * x 3 + 0) = _; omega
  have O1 : y_ev x (0, [(4, 1)]) = x 4 := by show ((0) : Int) + ((1) * x 4 + 0) = _; omega
  have O2 : y_ev x (0, [(5, 1)]) = x 5 := by show ((0) : Int) + ((1) * x 5 + 0) = _; omega
  have O3 : y_ev x (0, [(6, 1)]) = x 6 := by show ((0) : Int) + ((1) * x 6 + 0) = _; omega
  have O4 : y_ev x (4, []) = 4 := by show ((4) : Int) + 0 = _; omega
  have O5 : y_ev x (1, [(2, 1)]) = x 2 + 1 := by show ((1) : Int) + ((1) * x 2 + 0) = _; omega
  have O6 : y_ev x (0, []) = 0 := by show ((0) : Int) + 0 = _; omega
  show (True) ∧ (q_rwo v (y_ev x (0, [(3, 1)])) (y_ev x (0, [(4, 1)])) (y_ev x (0, [(5, 1)])) (y_ev x (0, [(6, 1)])) (y_ev x (4, [])) (y_ev x (1, [(2, 1)])) (y_ev x (0, [])) (y_ev x (0, [(3, 1)])) ∧ True)
  try rw [O0]; try rw [O1]; try rw [O2]; try rw [O3]; try rw [O4]; try rw [O5]; try rw [O6]
  exact K
def lm_979 : zLem := (([((-2147483648), 2147483647), ((-2147483648), 2147483647)], [], [], [], [], [], [(260, [(8, []), (0, []), (0, []), (0, []), (0, []), (0, []), (0, []), (0, []), (24, []), (0, []), (0, [(0, 1)])]), (238, [(8, []), (0, []), (0, []), (0, []), (0, []), (0, []), (0, []), (0, []), (24, []), (0, []), (0, [(1, 1)])])]), [([((-2147483648), 2147483647), ((-2147483648), 2147483647)], [], [(0, [(0, 1), (1, (-1))]), (0, [(0, (-1)), (1, 1)])], [], [], [], [])])
theorem lk_979 : l_core lm_979 := by
  intro v x h
  have E0 : y_ev x (8, []) = 8 := by show ((8) : Int) + 0 = _; omega
  have E1 : y_ev x (0, []) = 0 := by show ((0) : Int) + 0 = _; omega
  have E2 : y_ev x (24, []) = 24 := by show ((24) : Int) + 0 = _; omega
  have E3 : y_ev x (0, [(0, 1)]) = x 0 := by show ((0) : Int) + ((1) * x 0 + 0) = _; omega
  have E4 : y_ev x (0, [(1, 1)]) = x 1 := by show ((0) : Int) + ((1) * x 1 + 0) = _; omega
  have T0 : q_qry v (y_ev x (8, [])) (y_ev x (0, [])) (y_ev x (0, [])) (y_ev x (0, [])) (y_ev x (0, [])) (y_ev x (0, [])) (y_ev x (0, [])) (y_ev x (0, [])) (y_ev x (24, [])) (y_ev x (0, [])) (y_ev x (0, [(0, 1)])) := h.2.2.2.1
  try rw [E0] at T0; try rw [E1] at T0; try rw [E2] at T0; try rw [E3] at T0
  have T1 : q_qry v (y_ev x (8, [])) (y_ev x (0, [])) (y_ev x (0, [])) (y_ev x (0, [])) (y_ev x (0, [])) (y_ev x (0, [])) (y_ev x (0, [])) (y_ev x (0, [])) (y_ev x (24, [])) (y_ev x (0, [])) (y_ev x (0, [(1, 1)])) := h.2.2.2.2.1
  try rw [E0] at T1; try rw [E1] at T1; try rw [E2] at T1; try rw [E4] at T1
  have K := k_qe24 (V := v) (u := x 0) (w := x 1) T0 T1
  refine l_outH rfl (And.intro h.1 ?_)
  have O0 : y_ev x (0, [(0, 1), (1, (-1))]) = x 0 - x 1 := by show ((0) : Int) + ((1) * x 0 + ((-1) * x 1 + 0)) = _; omega
  have O1 : y_ev x (0, [(0, (-1)), (1, 1)]) = x 1 - x 0 := by show ((0) : Int) + ((-1) * x 0 + ((1) * x 1 + 0)) = _; omega
  show (0 ≤ y_ev x (0, [(0, 1), (1, (-1))]) ∧ 0 ≤ y_ev x (0, [(0, (-1)), (1, 1)]) ∧ True) ∧ (True)
  try rw [O0]; try rw [O1]
  exact K
def lm_980 : zLem := (([((-2147483648), 2147483647), ((-2147483648), 2147483647), ((-2147483648), 2147483647)], [], [], [], [(0, 0, 0, [(0, 1)])], [], [(260, [(8, []), (0, []), (0, []), (0, []), (0, []), (0, []), (0, []), (0, []), (0, [(0, 1)]), (0, []), (0, [(1, 1)])]), (238, [(8, []), (0, []), (0, []), (0, []), (0, []), (0, []), (0, []), (0, []), (0, [(0, 1)]), (0, []), (0, [(2, 1)])])]), [([((-2147483648), 2147483647), ((-2147483648), 2147483647), ((-2147483648), 2147483647)], [], [(0, [(1, 1), (2, (-1))]), (0, [(1, (-1)), (2, 1)])], [], [], [], [])])
theorem lk_980 : l_core lm_980 := by
  intro v x h
  have E0 : y_ev x (8, []) = 8 := by show ((8) : Int) + 0 = _; omega
  have E1 : y_ev x (0, []) = 0 := by show ((0) : Int) + 0 = _; omega
  have E2 : y_ev x (0, [(0, 1)]) = x 0 := by show ((0) : Int) + ((1) * x 0 + 0) = _; omega
  have E3 : y_ev x (0, [(1, 1)]) = x 1 := by show ((0) : Int) + ((1) * x 1 + 0) = _; omega
  have E4 : y_ev x (0, [(2, 1)]) = x 2 := by show ((0) : Int) + ((1) * x 2 + 0) = _; omega
  have T0 : q_qry v (y_ev x (8, [])) (y_ev x (0, [])) (y_ev x (0, [])) (y_ev x (0, [])) (y_ev x (0, [])) (y_ev x (0, [])) (y_ev x (0, [])) (y_ev x (0, [])) (y_ev x (0, [(0, 1)])) (y_ev x (0, [])) (y_ev x (0, [(1, 1)])) := h.2.2.2.1
  try rw [E0] at T0; try rw [E1] at T0; try rw [E2] at T0; try rw [E3] at T0
  have T1 : q_qry v (y_ev x (8, [])) (y_ev x (0, [])) (y_ev x (0, [])) (y_ev x (0, [])) (y_ev x (0, [])) (y_ev x (0, [])) (y_ev x (0, [])) (y_ev x (0, [])) (y_ev x (0, [(0, 1)])) (y_ev x (0, [])) (y_ev x (0, [(2, 1)])) := h.2.2.2.2.1
  try rw [E0] at T1; try rw [E1] at T1; try rw [E2] at T1; try rw [E4] at T1
  have K := k_qeI (V := v) (i := x 0) (u := x 1) (w := x 2) T0 T1
  refine l_outH rfl (And.intro h.1 ?_)
  have O0 : y_ev x (0, [(1, 1), (2, (-1))]) = x 1 - x 2 := by show ((0) : Int) + ((1) * x 1 + ((-1) * x 2 + 0)) = _; omega
  have O1 : y_ev x (0, [(1, (-1)), (2, 1)]) = x 2 - x 1 := by show ((0) : Int) + ((-1) * x 1 + ((1) * x 2 + 0)) = _; omega
  show (0 ≤ y_ev x (0, [(1, 1), (2, (-1))]) ∧ 0 ≤ y_ev x (0, [(1, (-1)), (2, 1)]) ∧ True) ∧ (True)
  try rw [O0]; try rw [O1]
  exact K
def lm_981 : zLem := (([((-2147483648), 2147483647), ((-2147483648), 2147483647), ((-2147483648), 2147483647)], [], [], [], [], [], [(260, [(1, []), (0, []), (0, []), (0, []), (0, []), (0, []), (0, []), (0, []), (0, []), (0, [(0, 1)]), (0, [(1, 1)])]), (238, [(1, []), (0, []), (0, []), (0, []), (0, []), (0, []), (0, []), (0, []), (0, []), (0, [(0, 1)]), (0, [(2, 1)])])]), [([((-2147483648), 2147483647), ((-2147483648), 2147483647), ((-2147483648), 2147483647)], [], [(0, [(1, 1), (2, (-1))]), (0, [(1, (-1)), (2, 1)])], [], [], [], [])])
theorem lk_981 : l_core lm_981 := by
  intro v x h
  have E0 : y_ev x (1, []) = 1 := by show ((1) : Int) + 0 = _; omega
  have E1 : y_ev x (0, []) = 0 := by show ((0) : Int) + 0 = _; omega
  have E2 : y_ev x (0, [(0, 1)]) = x 0 := by show ((0) : Int) + ((1) * x 0 + 0) = _; omega
  have E3 : y_ev x (0, [(1, 1)]) = x 1 := by show ((0) : Int) + ((1) * x 1 + 0) = _; omega
  have E4 : y_ev x (0, [(2, 1)]) = x 2 := by show ((0) : Int) + ((1) * x 2 + 0) = _; omega
  have T0 : q_qry v (y_ev x (1, [])) (y_ev x (0, [])) (y_ev x (0, [])) (y_ev x (0, [])) (y_ev x (0, [])) (y_ev x (0, [])) (y_ev x (0, [])) (y_ev x (0, [])) (y_ev x (0, [])) (y_ev x (0, [(0, 1)])) (y_ev x (0, [(1, 1)])) := h.2.2.2.1
  try rw [E0] at T0; try rw [E1] at T0; try rw [E2] at T0; try rw [E3] at T0
  have T1 : q_qry v (y_ev x (1, [])) (y_ev x (0, [])) (y_ev x (0, [])) (y_ev x (0, [])) (y_ev x (0, [])) (y_ev x (0, [])) (y_ev x (0, [])) (y_ev x (0, [])) (y_ev x (0, [])) (y_ev x (0, [(0, 1)])) (y_ev x (0, [(2, 1)])) := h.2.2.2.2.1
  try rw [E0] at T1; try rw [E1] at T1; try rw [E2] at T1; try rw [E4] at T1
  have K := k_qeS (V := v) (p := x 0) (u := x 1) (w := x 2) T0 T1
  refine l_outH rfl (And.intro h.1 ?_)
  have O0 : y_ev x (0, [(1, 1), (2, (-1))]) = x 1 - x 2 := by show ((0) : Int) + ((1) * x 1 + ((-1) * x 2 + 0)) = _; omega
  have O1 : y_ev x (0, [(1, (-1)), (2, 1)]) = x 2 - x 1 := by show ((0) : Int) + ((-1) * x 1 + ((1) * x 2 + 0)) = _; omega
  show (0 ≤ y_ev x (0, [(1, 1), (2, (-1))]) ∧ 0 ≤ y_ev x (0, [(1, (-1)), (2, 1)]) ∧ True) ∧ (True)
  try rw [O0]; try rw [O1]
  exact K
def lm_982 : zLem := (([((-2147483648), 2147483647), ((-2147483648), 2147483647), ((-2147483648), 2147483647), ((-2147483648), 2147483647), ((-2147483648), 2147483647), ((-2147483648), 2147483647), ((-2147483648), 2147483647), ((-2147483648), 2147483647), ((-2147483648), 2147483647), ((-2147483648), 2147483647)], [], [], [], [(0, 0, 0, [(0, 1)])], [], [(260, [(3, []), (0, [(3, 1)]), (0, [(4, 1)]), (0, [(5, 1)]), (0, [(6, 1)]), (0, [(7, 1)]), (0, [(8, 1)]), (0, [(9, 1)]), (0, [(0, 1)]), (0, []), (0, [(1, 1)])]), (238, [(3, []), (0, [(3, 1)]), (0, [(4, 1)]), (0, [(5, 1)]), (0, [(6, 1)]), (0, [(7, 1)]), (0, [(8, 1)]), (0, [(9, 1)]), (0, [(0, 1)]), (0, []), (0, [(2, 1)])])]), [([((-2147483648), 2147483647), ((-2147483648), 2147483647), ((-2147483648), 2147483647), ((-2147483648), 2147483647), ((-2147483648), 2147483647), ((-2147483648), 2147483647), ((-2147483648), 2147483647), ((-2147483648), 2147483647), ((-2147483648), 2147483647), ((-2147483648), 2147483647)], [], [(0, [(1, 1), (2, (-1))]), (0, [(1, (-1)), (2, 1)])], [], [], [], [])])
theorem lk_982 : l_core lm_982 := by
  intro v x h
  have E0 : y_ev x (3, []) = 3 := by show ((3) : Int) + 0 = _; omega
  have E1 : y_ev x (0, [(3, 1)]) = x 3 := by show ((0) : Int) + ((1) * x 3 + 0) = _; omega
  have E2 : y_ev x (0, [(4, 1)]) = x 4 := by show ((0) : Int) + ((1) * x 4 + 0) = _; omega
  have E3 : y_ev x (0, [(5, 1)]) = x 5 := by show ((0) : Int) + ((1) * x 5 + 0) = _; omega
  have E4 : y_ev x (0, [(6, 1)]) = x 6 := by show ((0) : Int) + ((1) * x 6 + 0) = _; omega
  have E5 : y_ev x (0, [(7, 1)]) = x 7 := by show ((0) : Int) + ((1) * x 7 + 0) = _; omega
  have E6 : y_ev x (0, [(8, 1)]) = x 8 := by show ((0) : Int) + ((1) * x 8 + 0) = _; omega
  have E7 : y_ev x (0, [(9, 1)]) = x 9 := by show ((0) : Int) + ((1) * x 9 + 0) = _; omega
  have E8 : y_ev x (0, [(0, 1)]) = x 0 := by show ((0) : Int) + ((1) * x 0 + 0) = _; omega
  have E9 : y_ev x (0, []) = 0 := by show ((0) : Int) + 0 = _; omega
  have E10 : y_ev x (0, [(1, 1)]) = x 1 := by show ((0) : Int) + ((1) * x 1 + 0) = _; omega
  have E11 : y_ev x (0, [(2, 1)]) = x 2 := by show ((0) : Int) + ((1) * x 2 + 0) = _; omega
  have T0 : q_qry v (y_ev x (3, [])) (y_ev x (0, [(3, 1)])) (y_ev x (0, [(4, 1)])) (y_ev x (0, [(5, 1)])) (y_ev x (0, [(6, 1)])) (y_ev x (0, [(7, 1)])) (y_ev x (0, [(8, 1)])) (y_ev x (0, [(9, 1)])) (y_ev x (0, [(0, 1)])) (y_ev x (0, [])) (y_ev x (0, [(1, 1)])) := h.2.2.2.1
  try rw [E0] at T0; try rw [E1] at T0; try rw [E2] at T0; try rw [E3] at T0; try rw [E4] at T0; try rw [E5] at T0; try rw [E6] at T0; try rw [E7] at T0; try rw [E8] at T0; try rw [E9] at T0; try rw [E10] at T0
  have T1 : q_qry v (y_ev x (3, [])) (y_ev x (0, [(3, 1)])) (y_ev x (0, [(4, 1)])) (y_ev x (0, [(5, 1)])) (y_ev x (0, [(6, 1)])) (y_ev x (0, [(7, 1)])) (y_ev x (0, [(8, 1)])) (y_ev x (0, [(9, 1)])) (y_ev x (0, [(0, 1)])) (y_ev x (0, [])) (y_ev x (0, [(2, 1)])) := h.2.2.2.2.1
  try rw [E0] at T1; try rw [E1] at T1; try rw [E2] at T1; try rw [E3] at T1; try rw [E4] at T1; try rw [E5] at T1; try rw [E6] at T1; try rw [E7] at T1; try rw [E8] at T1; try rw [E9] at T1; try rw [E11] at T1
  have K := k_qeB (V := v) (x := x 0) (u := x 1) (w := x 2) (q := x 3) (b := x 4) (s := x 5) (o := x 6) (a1 := x 7) (a2 := x 8) (a3 := x 9) T0 T1
  refine l_outH rfl (And.intro h.1 ?_)
  have O0 : y_ev x (0, [(1, 1), (2, (-1))]) = x 1 - x 2 := by show ((0) : Int) + ((1) * x 1 + ((-1) * x 2 + 0)) = _; omega
  have O1 : y_ev x (0, [(1, (-1)), (2, 1)]) = x 2 - x 1 := by show ((0) : Int) + ((-1) * x 1 + ((1) * x 2 + 0)) = _; omega
  show (0 ≤ y_ev x (0, [(1, 1), (2, (-1))]) ∧ 0 ≤ y_ev x (0, [(1, (-1)), (2, 1)]) ∧ True) ∧ (True)
  try rw [O0]; try rw [O1]
  exact K
def lm_983 : zLem := (([((-2147483648), 2147483647), ((-2147483648), 2147483647), ((-2147483648), 2147483647), ((-2147483648), 2147483647), ((-2147483648), 2147483647), ((-2147483648), 2147483647), ((-2147483648), 2147483647), ((-2147483648), 2147483647), ((-2147483648), 2147483647), ((-2147483648), 2147483647)], [], [], [], [(0, 0, 0, [(0, 1)])], [], [(260, [(22, []), (0, [(3, 1)]), (0, [(4, 1)]), (0, [(5, 1)]), (0, [(6, 1)]), (0, [(7, 1)]), (0, [(8, 1)]), (0, [(9, 1)]), (0, [(0, 1)]), (0, []), (0, [(1, 1)])]), (238, [(22, []), (0, [(3, 1)]), (0, [(4, 1)]), (0, [(5, 1)]), (0, [(6, 1)]), (0, [(7, 1)]), (0, [(8, 1)]), (0, [(9, 1)]), (0, [(0, 1)]), (0, []), (0, [(2, 1)])])]), [([((-2147483648), 2147483647), ((-2147483648), 2147483647), ((-2147483648), 2147483647), ((-2147483648), 2147483647), ((-2147483648), 2147483647), ((-2147483648), 2147483647), ((-2147483648), 2147483647), ((-2147483648), 2147483647), ((-2147483648), 2147483647), ((-2147483648), 2147483647)], [], [(0, [(1, 1), (2, (-1))]), (0, [(1, (-1)), (2, 1)])], [], [], [], [])])
theorem lk_983 : l_core lm_983 := by
  intro v x h
  have E0 : y_ev x (22, []) = 22 := by show ((22) : Int) + 0 = _; omega
  have E1 : y_ev x (0, [(3, 1)]) = x 3 := by show ((0) : Int) + ((1) * x 3 + 0) = _; omega
  have E2 : y_ev x (0, [(4, 1)]) = x 4 := by show ((0) : Int) + ((1) * x 4 + 0) = _; omega
  have E3 : y_ev x (0, [(5, 1)]) = x 5 := by show ((0) : Int) + ((1) * x 5 + 0) = _; omega
  have E4 : y_ev x (0, [(6, 1)]) = x 6 := by show ((0) : Int) + ((1) * x 6 + 0) = _; omega
  have E5 : y_ev x (0, [(7, 1)]) = x 7 := by show ((0) : Int) + ((1) * x 7 + 0) = _; omega
  have E6 : y_ev x (0, [(8, 1)]) = x 8 := by show ((0) : Int) + ((1) * x 8 + 0) = _; omega
  have E7 : y_ev x (0, [(9, 1)]) = x 9 := by show ((0) : Int) + ((1) * x 9 + 0) = _; omega
  have E8 : y_ev x (0, [(0, 1)]) = x 0 := by show ((0) : Int) + ((1) * x 0 + 0) = _; omega
  have E9 : y_ev x (0, []) = 0 := by show ((0) : Int) + 0 = _; omega
  have E10 : y_ev x (0, [(1, 1)]) = x 1 := by show ((0) : Int) + ((1) * x 1 + 0) = _; omega
  have E11 : y_ev x (0, [(2, 1)]) = x 2 := by show ((0) : Int) + ((1) * x 2 + 0) = _; omega
  have T0 : q_qry v (y_ev x (22, [])) (y_ev x (0, [(3, 1)])) (y_ev x (0, [(4, 1)])) (y_ev x (0, [(5, 1)])) (y_ev x (0, [(6, 1)])) (y_ev x (0, [(7, 1)])) (y_ev x (0, [(8, 1)])) (y_ev x (0, [(9, 1)])) (y_ev x (0, [(0, 1)])) (y_ev x (0, [])) (y_ev x (0, [(1, 1)])) := h.2.2.2.1
  try rw [E0] at T0; try rw [E1] at T0; try rw [E2] at T0; try rw [E3] at T0; try rw [E4] at T0; try rw [E5] at T0; try rw [E6] at T0; try rw [E7] at T0; try rw [E8] at T0; try rw [E9] at T0; try rw [E10] at T0
  have T1 : q_qry v (y_ev x (22, [])) (y_ev x (0, [(3, 1)])) (y_ev x (0, [(4, 1)])) (y_ev x (0, [(5, 1)])) (y_ev x (0, [(6, 1)])) (y_ev x (0, [(7, 1)])) (y_ev x (0, [(8, 1)])) (y_ev x (0, [(9, 1)])) (y_ev x (0, [(0, 1)])) (y_ev x (0, [])) (y_ev x (0, [(2, 1)])) := h.2.2.2.2.1
  try rw [E0] at T1; try rw [E1] at T1; try rw [E2] at T1; try rw [E3] at T1; try rw [E4] at T1; try rw [E5] at T1; try rw [E6] at T1; try rw [E7] at T1; try rw [E8] at T1; try rw [E9] at T1; try rw [E11] at T1
  have K := k_qeP (V := v) (x := x 0) (u := x 1) (w := x 2) (q := x 3) (b := x 4) (s := x 5) (o := x 6) (a1 := x 7) (a2 := x 8) (a3 := x 9) T0 T1
  refine l_outH rfl (And.intro h.1 ?_)
  have O0 : y_ev x (0, [(1, 1), (2, (-1))]) = x 1 - x 2 := by show ((0) : Int) + ((1) * x 1 + ((-1) * x 2 + 0)) = _; omega
  have O1 : y_ev x (0, [(1, (-1)), (2, 1)]) = x 2 - x 1 := by show ((0) : Int) + ((-1) * x 1 + ((1) * x 2 + 0)) = _; omega
  show (0 ≤ y_ev x (0, [(1, 1), (2, (-1))]) ∧ 0 ≤ y_ev x (0, [(1, (-1)), (2, 1)]) ∧ True) ∧ (True)
  try rw [O0]; try rw [O1]
  exact K
def lm_984 : zLem := (([((-2147483648), 2147483647), ((-2147483648), 2147483647), ((-2147483648), 2147483647), ((-2147483648), 2147483647)], [], [], [], [], [], [(224, [(0, [(0, 1)]), (0, [(1, 1)]), (1, []), (0, [(2, 1)])]), (237, [(0, [(3, 1)]), (0, []), (0, []), (0, []), (0, []), (0, []), (0, []), (0, [])])]), [([((-2147483648), 2147483647), ((-2147483648), 2147483647), ((-2147483648), 2147483647), ((-2147483648), 2147483647)], [], [], [], [], [], [(237, [(0, [(3, 1)]), (0, [(2, 1)]), (0, []), (0, []), (0, []), (0, []), (0, []), (0, [])])])])
theorem lk_984 : l_core lm_984 := by
  intro v x h
  have E0 : y_ev x (0, [(0, 1)]) = x 0 := by show ((0) : Int) + ((1) * x 0 + 0) = _; omega
  have E1 : y_ev x (0, [(1, 1)]) = x 1 := by show ((0) : Int) + ((1) * x 1 + 0) = _; omega
  have E2 : y_ev x (1, []) = 1 := by show ((1) : Int) + 0 = _; omega
  have E3 : y_ev x (0, [(2, 1)]) = x 2 := by show ((0) : Int) + ((1) * x 2 + 0) = _; omega
  have E4 : y_ev x (0, [(3, 1)]) = x 3 := by show ((0) : Int) + ((1) * x 3 + 0) = _; omega
  have E5 : y_ev x (0, []) = 0 := by show ((0) : Int) + 0 = _; omega
  have T0 : (y_ev x (1, [])) = 1 → q_leq v (y_ev x (0, [(0, 1)])) (y_ev x (0, [(1, 1)])) (y_ev x (0, [(2, 1)])) := h.2.2.2.1
  try rw [E0] at T0; try rw [E1] at T0; try rw [E2] at T0; try rw [E3] at T0
  have T1 : q_rwo v (y_ev x (0, [(3, 1)])) (y_ev x (0, [])) (y_ev x (0, [])) (y_ev x (0, [])) (y_ev x (0, [])) (y_ev x (0, [])) (y_ev x (0, [])) (y_ev x (0, [])) := h.2.2.2.2.1
  try rw [E4] at T1; try rw [E5] at T1
  have K := k_rwq (V := v) (l := x 0) (x := x 1) (q := x 2) (H := x 3) T0 T1
  refine l_outH rfl (And.intro h.1 ?_)
  have O0 : y_ev x (0, [(3, 1)]) = x 3 := by show ((0) : Int) + ((1) * x 3 + 0) = _; omega
  have O1 : y_ev x (0, [(2, 1)]) = x 2 := by show ((0) : Int) + ((1) * x 2 + 0) = _; omega
  have O2 : y_ev x (0, []) = 0 := by show ((0) : Int) + 0 = _; omega
  show (True) ∧ (q_rwo v (y_ev x (0, [(3, 1)])) (y_ev x (0, [(2, 1)])) (y_ev x (0, [])) (y_ev x (0, [])) (y_ev x (0, [])) (y_ev x (0, [])) (y_ev x (0, [])) (y_ev x (0, [])) ∧ True)
  try rw [O0]; try rw [O1]; try rw [O2]
  exact K
def lm_985 : zLem := (([((-2147483648), 2147483647), ((-2147483648), 2147483647)], [], [], [], [(0, 0, 0, [(0, 1)])], [], [(260, [(9, []), (0, []), (0, []), (0, []), (0, []), (0, []), (0, []), (0, []), (0, [(0, 1)]), (0, [(1, 1)]), (1, [])])]), [([((-2147483648), 2147483647), ((-2147483648), 2147483647)], [], [(0, [(0, 1)]), ((-1), [(0, (-1)), (1, 1)])], [], [], [], [])])
theorem lk_985 : l_core lm_985 := by
  intro v x h
  have E0 : y_ev x (9, []) = 9 := by show ((9) : Int) + 0 = _; omega
  have E1 : y_ev x (0, []) = 0 := by show ((0) : Int) + 0 = _; omega
  have E2 : y_ev x (0, [(0, 1)]) = x 0 := by show ((0) : Int) + ((1) * x 0 + 0) = _; omega
  have E3 : y_ev x (0, [(1, 1)]) = x 1 := by show ((0) : Int) + ((1) * x 1 + 0) = _; omega
  have E4 : y_ev x (1, []) = 1 := by show ((1) : Int) + 0 = _; omega
  have T0 : q_qry v (y_ev x (9, [])) (y_ev x (0, [])) (y_ev x (0, [])) (y_ev x (0, [])) (y_ev x (0, [])) (y_ev x (0, [])) (y_ev x (0, [])) (y_ev x (0, [])) (y_ev x (0, [(0, 1)])) (y_ev x (0, [(1, 1)])) (y_ev x (1, [])) := h.2.2.2.1
  try rw [E0] at T0; try rw [E1] at T0; try rw [E2] at T0; try rw [E3] at T0; try rw [E4] at T0
  have K := k_mcx0 (V := v) (h := x 0) (H := x 1) T0
  refine l_outH rfl (And.intro h.1 ?_)
  have O0 : y_ev x (0, [(0, 1)]) = x 0 := by show ((0) : Int) + ((1) * x 0 + 0) = _; omega
  have O1 : y_ev x ((-1), [(0, (-1)), (1, 1)]) = x 1 - x 0 - 1 := by show ((-1) : Int) + ((-1) * x 0 + ((1) * x 1 + 0)) = _; omega
  show (0 ≤ y_ev x (0, [(0, 1)]) ∧ 0 ≤ y_ev x ((-1), [(0, (-1)), (1, 1)]) ∧ True) ∧ (True)
  try rw [O0]; try rw [O1]
  exact K
def lm_986 : zLem := (([((-2147483648), 2147483647), ((-2147483648), 2147483647), ((-2147483648), 2147483647)], [(78, false)], [((-1), [(2, 1)])], [], [(0, 0, 0, [(0, 1)])], [(0, (true, 0, 6, [(0, 1)]), 0, 0, 0, [(2, 1)])], [(260, [(9, []), (0, []), (0, []), (0, []), (0, []), (0, []), (0, []), (0, []), (0, [(0, 1)]), (0, [(1, 1)]), (1, [])]), (237, [(0, [(1, 1)]), (0, []), (0, []), (0, []), (0, []), (0, []), (0, []), (0, [])])]), [([((-2147483648), 2147483647), ((-2147483648), 2147483647), ((-2147483648), 2147483647)], [(78, false)], [((-1), [])], [], [], [], [])])
theorem lk_986 : l_core lm_986 := by
  intro v x h
  have E0 : y_ev x (9, []) = 9 := by show ((9) : Int) + 0 = _; omega
  have E1 : y_ev x (0, []) = 0 := by show ((0) : Int) + 0 = _; omega
  have E2 : y_ev x (0, [(0, 1)]) = x 0 := by show ((0) : Int) + ((1) * x 0 + 0) = _; omega
  have E3 : y_ev x (0, [(1, 1)]) = x 1 := by show ((0) : Int) + ((1) * x 1 + 0) = _; omega
  have E4 : y_ev x (1, []) = 1 := by show ((1) : Int) + 0 = _; omega
  have E5 : y_ev x ((-1), [(2, 1)]) = x 2 - 1 := by show ((-1) : Int) + ((1) * x 2 + 0) = _; omega
  have E6 : y_ev x (6, [(0, 1)]) = x 0 + 6 := by show ((6) : Int) + ((1) * x 0 + 0) = _; omega
  have E7 : y_ev x (0, [(2, 1)]) = x 2 := by show ((0) : Int) + ((1) * x 2 + 0) = _; omega
  have T0 : q_qry v (y_ev x (9, [])) (y_ev x (0, [])) (y_ev x (0, [])) (y_ev x (0, [])) (y_ev x (0, [])) (y_ev x (0, [])) (y_ev x (0, [])) (y_ev x (0, [])) (y_ev x (0, [(0, 1)])) (y_ev x (0, [(1, 1)])) (y_ev x (1, [])) := h.2.2.2.1
  try rw [E0] at T0; try rw [E1] at T0; try rw [E2] at T0; try rw [E3] at T0; try rw [E4] at T0
  have T1 : q_rwo v (y_ev x (0, [(1, 1)])) (y_ev x (0, [])) (y_ev x (0, [])) (y_ev x (0, [])) (y_ev x (0, [])) (y_ev x (0, [])) (y_ev x (0, [])) (y_ev x (0, [])) := h.2.2.2.2.1
  try rw [E3] at T1; try rw [E1] at T1
  have C0 : 0 ≤ y_ev x ((-1), [(2, 1)]) := h.2.1.1
  rw [E5] at C0
  have F0 : 0 ≤ y_ev x (6, [(0, 1)]) ∧ y_ev x (6, [(0, 1)]) < j_len 78 ∧ v 78 (y_ev x (6, [(0, 1)])) = y_ev x (0, [(2, 1)]) := h.2.2.1.1.1
  try rw [E6] at F0; try rw [E7] at F0
  have K := k_mcx1 (V := v) (h := x 0) (H := x 1) (x := x 2) T0 T1 C0 F0
  refine l_outH rfl (And.intro h.1 ?_)
  have O0 : y_ev x ((-1), []) = (-1) := by show ((-1) : Int) + 0 = _; omega
  show (0 ≤ y_ev x ((-1), []) ∧ True) ∧ (True)
  try rw [O0]
  exact K
def lm_987 : zLem := (([((-2147483648), 2147483647), ((-2147483648), 2147483647), ((-2147483648), 2147483647)], [(78, false)], [(0, [(2, (-1))])], [], [(0, 0, 0, [(0, 1)])], [(0, (true, 0, 0, [(0, 1)]), 0, 0, 0, [(2, 1)])], [(260, [(9, []), (0, []), (0, []), (0, []), (0, []), (0, []), (0, []), (0, []), (0, [(0, 1)]), (0, [(1, 1)]), (1, [])]), (237, [(0, [(1, 1)]), (0, []), (0, []), (0, []), (0, []), (0, []), (0, []), (0, [])])]), [([((-2147483648), 2147483647), ((-2147483648), 2147483647), ((-2147483648), 2147483647)], [(78, false)], [((-1), [])], [], [], [], [])])
theorem lk_987 : l_core lm_987 := by
  intro v x h
  have E0 : y_ev x (9, []) = 9 := by show ((9) : Int) + 0 = _; omega
  have E1 : y_ev x (0, []) = 0 := by show ((0) : Int) + 0 = _; omega
  have E2 : y_ev x (0, [(0, 1)]) = x 0 := by show ((0) : Int) + ((1) * x 0 + 0) = _; omega
  have E3 : y_ev x (0, [(1, 1)]) = x 1 := by show ((0) : Int) + ((1) * x 1 + 0) = _; omega
  have E4 : y_ev x (1, []) = 1 := by show ((1) : Int) + 0 = _; omega
  have E5 : y_ev x (0, [(2, (-1))]) = -x 2 := by show ((0) : Int) + ((-1) * x 2 + 0) = _; omega
  have E6 : y_ev x (0, [(2, 1)]) = x 2 := by show ((0) : Int) + ((1) * x 2 + 0) = _; omega
  have T0 : q_qry v (y_ev x (9, [])) (y_ev x (0, [])) (y_ev x (0, [])) (y_ev x (0, [])) (y_ev x (0, [])) (y_ev x (0, [])) (y_ev x (0, [])) (y_ev x (0, [])) (y_ev x (0, [(0, 1)])) (y_ev x (0, [(1, 1)])) (y_ev x (1, [])) := h.2.2.2.1
  try rw [E0] at T0; try rw [E1] at T0; try rw [E2] at T0; try rw [E3] at T0; try rw [E4] at T0
  have T1 : q_rwo v (y_ev x (0, [(1, 1)])) (y_ev x (0, [])) (y_ev x (0, [])) (y_ev x (0, [])) (y_ev x (0, [])) (y_ev x (0, [])) (y_ev x (0, [])) (y_ev x (0, [])) := h.2.2.2.2.1
  try rw [E3] at T1; try rw [E1] at T1
  have C0 : 0 ≤ y_ev x (0, [(2, (-1))]) := h.2.1.1
  rw [E5] at C0
  have F0 : 0 ≤ y_ev x (0, [(0, 1)]) ∧ y_ev x (0, [(0, 1)]) < j_len 78 ∧ v 78 (y_ev x (0, [(0, 1)])) = y_ev x (0, [(2, 1)]) := h.2.2.1.1.1
  try rw [E2] at F0; try rw [E6] at F0
  have K := k_mcx2 (V := v) (h := x 0) (H := x 1) (x := x 2) T0 T1 C0 F0
  refine l_outH rfl (And.intro h.1 ?_)
  have O0 : y_ev x ((-1), []) = (-1) := by show ((-1) : Int) + 0 = _; omega
  show (0 ≤ y_ev x ((-1), []) ∧ True) ∧ (True)
  try rw [O0]
  exact K
