/-! ===== the lemmas as data, by program ===== -/
set_option maxRecDepth 100000
def lm_988 : zLem := (([((-2147483648), 2147483647), ((-2147483648), 2147483647), ((-2147483648), 2147483647), ((-2147483648), 2147483647)], [(78, false)], [(0, [(0, 1)]), ((-1), [(0, (-1)), (1, 1)]), ((-1), [(2, 1)]), (0, [(3, (-1))])], [], [(0, 0, 0, [(0, 1)])], [(0, (true, 0, 0, [(0, 1)]), 0, 0, 0, [(2, 1)]), (0, (true, 0, 6, [(0, 1)]), 0, 0, 0, [(3, 1)])], [(260, [(9, []), (0, []), (0, []), (0, []), (0, []), (0, []), (0, []), (0, []), (0, [(0, 1)]), (0, [(1, 1)]), (0, [])]), (237, [(0, [(1, 1)]), (0, []), (0, []), (0, []), (0, []), (0, []), (0, []), (0, [])])]), [([((-2147483648), 2147483647), ((-2147483648), 2147483647), ((-2147483648), 2147483647), ((-2147483648), 2147483647)], [(78, false)], [((-1), [])], [], [], [], [])])
theorem lk_988 : l_core lm_988 := by
  intro v x h
  have E0 : y_ev x (9, []) = 9 := by show ((9) : Int) + 0 = _; omega
  have E1 : y_ev x (0, []) = 0 := by show ((0) : Int) + 0 = _; omega
  have E2 : y_ev x (0, [(0, 1)]) = x 0 := by show ((0) : Int) + ((1) * x 0 + 0) = _; omega
  have E3 : y_ev x (0, [(1, 1)]) = x 1 := by show ((0) : Int) + ((1) * x 1 + 0) = _; omega
  have E4 : y_ev x ((-1), [(0, (-1)), (1, 1)]) = x 1 - x 0 - 1 := by show ((-1) : Int) + ((-1) * x 0 + ((1) * x 1 + 0)) = _; omega
  have E5 : y_ev x ((-1), [(2, 1)]) = x 2 - 1 := by show ((-1) : Int) + ((1) * x 2 + 0) = _; omega
  have E6 : y_ev x (0, [(3, (-1))]) = -x 3 := by show ((0) : Int) + ((-1) * x 3 + 0) = _; omega
  have E7 : y_ev x (0, [(2, 1)]) = x 2 := by show ((0) : Int) + ((1) * x 2 + 0) = _; omega
  have E8 : y_ev x (6, [(0, 1)]) = x 0 + 6 := by show ((6) : Int) + ((1) * x 0 + 0) = _; omega
  have E9 : y_ev x (0, [(3, 1)]) = x 3 := by show ((0) : Int) + ((1) * x 3 + 0) = _; omega
  have T0 : q_qry v (y_ev x (9, [])) (y_ev x (0, [])) (y_ev x (0, [])) (y_ev x (0, [])) (y_ev x (0, [])) (y_ev x (0, [])) (y_ev x (0, [])) (y_ev x (0, [])) (y_ev x (0, [(0, 1)])) (y_ev x (0, [(1, 1)])) (y_ev x (0, [])) := h.2.2.2.1
  try rw [E0] at T0; try rw [E1] at T0; try rw [E2] at T0; try rw [E3] at T0
  have T1 : q_rwo v (y_ev x (0, [(1, 1)])) (y_ev x (0, [])) (y_ev x (0, [])) (y_ev x (0, [])) (y_ev x (0, [])) (y_ev x (0, [])) (y_ev x (0, [])) (y_ev x (0, [])) := h.2.2.2.2.1
  try rw [E3] at T1; try rw [E1] at T1
  have C0 : 0 ≤ y_ev x (0, [(0, 1)]) := h.2.1.1
  rw [E2] at C0
  have C1 : 0 ≤ y_ev x ((-1), [(0, (-1)), (1, 1)]) := h.2.1.2.1
  rw [E4] at C1
  have C2 : 0 ≤ y_ev x ((-1), [(2, 1)]) := h.2.1.2.2.1
  rw [E5] at C2
  have C3 : 0 ≤ y_ev x (0, [(3, (-1))]) := h.2.1.2.2.2.1
  rw [E6] at C3
  have F0 : 0 ≤ y_ev x (0, [(0, 1)]) ∧ y_ev x (0, [(0, 1)]) < j_len 78 ∧ v 78 (y_ev x (0, [(0, 1)])) = y_ev x (0, [(2, 1)]) := h.2.2.1.1.1
  try rw [E2] at F0; try rw [E7] at F0
  have F1 : 0 ≤ y_ev x (6, [(0, 1)]) ∧ y_ev x (6, [(0, 1)]) < j_len 78 ∧ v 78 (y_ev x (6, [(0, 1)])) = y_ev x (0, [(3, 1)]) := h.2.2.1.2.1.1
  try rw [E8] at F1; try rw [E9] at F1
  have K := k_mcy (V := v) (h := x 0) (H := x 1) (x := x 2) (z := x 3) T0 T1 C0 C1 C2 C3 F0 F1
  refine l_outH rfl (And.intro h.1 ?_)
  have O0 : y_ev x ((-1), []) = (-1) := by show ((-1) : Int) + 0 = _; omega
  show (0 ≤ y_ev x ((-1), []) ∧ True) ∧ (True)
  try rw [O0]
  exact K
def lm_989 : zLem := (([((-2147483648), 2147483647), ((-2147483648), 2147483647), ((-2147483648), 2147483647)], [(78, false)], [(0, [(0, 1)]), (5, [(0, (-1))])], [], [(0, 0, 0, [(0, 1)])], [(0, (true, 0, 24, []), 0, 0, 0, [(2, 1)])], [(237, [(0, [(1, 1)]), (0, []), (0, []), (0, []), (0, []), (0, []), (0, []), (0, [])])]), [([((-2147483648), 2147483647), ((-2147483648), 2147483647), ((-2147483648), 2147483647)], [(78, false)], [], [], [], [], [(263, [(0, [(1, 1)]), (0, [(0, 1)]), (6, [(0, 1)]), (12, [(0, 1)]), (18, [(0, 1)]), (24, []), (25, [(2, 1)])])])])
theorem lk_989 : l_core lm_989 := by
  intro v x h
  have E0 : y_ev x (0, [(1, 1)]) = x 1 := by show ((0) : Int) + ((1) * x 1 + 0) = _; omega
  have E1 : y_ev x (0, []) = 0 := by show ((0) : Int) + 0 = _; omega
  have E2 : y_ev x (0, [(0, 1)]) = x 0 := by show ((0) : Int) + ((1) * x 0 + 0) = _; omega
  have E3 : y_ev x (5, [(0, (-1))]) = 5 - x 0 := by show ((5) : Int) + ((-1) * x 0 + 0) = _; omega
  have E4 : y_ev x (24, []) = 24 := by show ((24) : Int) + 0 = _; omega
  have E5 : y_ev x (0, [(2, 1)]) = x 2 := by show ((0) : Int) + ((1) * x 2 + 0) = _; omega
  have T0 : q_rwo v (y_ev x (0, [(1, 1)])) (y_ev x (0, [])) (y_ev x (0, [])) (y_ev x (0, [])) (y_ev x (0, [])) (y_ev x (0, [])) (y_ev x (0, [])) (y_ev x (0, [])) := h.2.2.2.1
  try rw [E0] at T0; try rw [E1] at T0
  have C0 : 0 ≤ y_ev x (0, [(0, 1)]) := h.2.1.1
  rw [E2] at C0
  have C1 : 0 ≤ y_ev x (5, [(0, (-1))]) := h.2.1.2.1
  rw [E3] at C1
  have F0 : 0 ≤ y_ev x (24, []) ∧ y_ev x (24, []) < j_len 78 ∧ v 78 (y_ev x (24, [])) = y_ev x (0, [(2, 1)]) := h.2.2.1.1.1
  try rw [E4] at F0; try rw [E5] at F0
  have K := k_rnx (V := v) (h := x 0) (H := x 1) (p := x 2) T0 C0 C1 F0
  refine l_outH rfl (And.intro h.1 ?_)
  have O0 : y_ev x (0, [(1, 1)]) = x 1 := by show ((0) : Int) + ((1) * x 1 + 0) = _; omega
  have O1 : y_ev x (0, [(0, 1)]) = x 0 := by show ((0) : Int) + ((1) * x 0 + 0) = _; omega
  have O2 : y_ev x (6, [(0, 1)]) = x 0 + 6 := by show ((6) : Int) + ((1) * x 0 + 0) = _; omega
  have O3 : y_ev x (12, [(0, 1)]) = x 0 + 12 := by show ((12) : Int) + ((1) * x 0 + 0) = _; omega
  have O4 : y_ev x (18, [(0, 1)]) = x 0 + 18 := by show ((18) : Int) + ((1) * x 0 + 0) = _; omega
  have O5 : y_ev x (24, []) = 24 := by show ((24) : Int) + 0 = _; omega
  have O6 : y_ev x (25, [(2, 1)]) = x 2 + 25 := by show ((25) : Int) + ((1) * x 2 + 0) = _; omega
  show (True) ∧ (q_rnx v (y_ev x (0, [(1, 1)])) (y_ev x (0, [(0, 1)])) (y_ev x (6, [(0, 1)])) (y_ev x (12, [(0, 1)])) (y_ev x (18, [(0, 1)])) (y_ev x (24, [])) (y_ev x (25, [(2, 1)])) ∧ True)
  try rw [O0]; try rw [O1]; try rw [O2]; try rw [O3]; try rw [O4]; try rw [O5]; try rw [O6]
  exact K
def lm_990 : zLem := (([((-2147483648), 2147483647), ((-2147483648), 2147483647), ((-2147483648), 2147483647)], [(78, false)], [(0, [(0, 1)]), (32, [(0, (-1))])], [], [(0, 0, 0, [(0, 1)])], [(0, (true, 0, 0, [(0, 1)]), 0, 0, 0, [(1, 1)])], [(237, [(0, [(2, 1)]), (0, []), (0, []), (0, []), (0, []), (0, []), (0, []), (0, [])])]), [([((-2147483648), 2147483647), ((-2147483648), 2147483647), ((-2147483648), 2147483647)], [(78, false)], [], [], [], [], [(238, [(8, []), (0, []), (0, []), (0, []), (0, []), (0, []), (0, []), (0, []), (0, [(0, 1)]), (0, []), (0, [(1, 1)])])])])
theorem lk_990 : l_core lm_990 := by
  intro v x h
  have E0 : y_ev x (0, [(2, 1)]) = x 2 := by show ((0) : Int) + ((1) * x 2 + 0) = _; omega
  have E1 : y_ev x (0, []) = 0 := by show ((0) : Int) + 0 = _; omega
  have E2 : y_ev x (0, [(0, 1)]) = x 0 := by show ((0) : Int) + ((1) * x 0 + 0) = _; omega
  have E3 : y_ev x (32, [(0, (-1))]) = 32 - x 0 := by show ((32) : Int) + ((-1) * x 0 + 0) = _; omega
  have E4 : y_ev x (0, [(1, 1)]) = x 1 := by show ((0) : Int) + ((1) * x 1 + 0) = _; omega
  have T0 : q_rwo v (y_ev x (0, [(2, 1)])) (y_ev x (0, [])) (y_ev x (0, [])) (y_ev x (0, [])) (y_ev x (0, [])) (y_ev x (0, [])) (y_ev x (0, [])) (y_ev x (0, [])) := h.2.2.2.1
  try rw [E0] at T0; try rw [E1] at T0
  have C0 : 0 ≤ y_ev x (0, [(0, 1)]) := h.2.1.1
  rw [E2] at C0
  have C1 : 0 ≤ y_ev x (32, [(0, (-1))]) := h.2.1.2.1
  rw [E3] at C1
  have F0 : 0 ≤ y_ev x (0, [(0, 1)]) ∧ y_ev x (0, [(0, 1)]) < j_len 78 ∧ v 78 (y_ev x (0, [(0, 1)])) = y_ev x (0, [(1, 1)]) := h.2.2.1.1.1
  try rw [E2] at F0; try rw [E4] at F0
  have K := k_rcelz (V := v) (h := x 0) (u := x 1) (H := x 2) T0 C0 C1 F0
  refine l_outH rfl (And.intro h.1 ?_)
  have O0 : y_ev x (8, []) = 8 := by show ((8) : Int) + 0 = _; omega
  have O1 : y_ev x (0, []) = 0 := by show ((0) : Int) + 0 = _; omega
  have O2 : y_ev x (0, [(0, 1)]) = x 0 := by show ((0) : Int) + ((1) * x 0 + 0) = _; omega
  have O3 : y_ev x (0, [(1, 1)]) = x 1 := by show ((0) : Int) + ((1) * x 1 + 0) = _; omega
  show (True) ∧ (q_qry v (y_ev x (8, [])) (y_ev x (0, [])) (y_ev x (0, [])) (y_ev x (0, [])) (y_ev x (0, [])) (y_ev x (0, [])) (y_ev x (0, [])) (y_ev x (0, [])) (y_ev x (0, [(0, 1)])) (y_ev x (0, [])) (y_ev x (0, [(1, 1)])) ∧ True)
  try rw [O0]; try rw [O1]; try rw [O2]; try rw [O3]
  exact K
def lm_991 : zLem := (([((-2147483648), 2147483647), ((-2147483648), 2147483647), ((-2147483648), 2147483647)], [(78, false)], [(0, [(0, 1)]), (5, [(0, (-1))])], [], [(0, 0, 0, [(0, 1)])], [(0, (true, 0, 6, [(0, 1)]), 0, 0, 0, [(1, 1)])], [(237, [(0, [(2, 1)]), (0, []), (0, []), (0, []), (0, []), (0, []), (0, []), (0, [])])]), [([((-2147483648), 2147483647), ((-2147483648), 2147483647), ((-2147483648), 2147483647)], [(78, false)], [], [], [], [], [(238, [(8, []), (0, []), (0, []), (0, []), (0, []), (0, []), (0, []), (0, []), (6, [(0, 1)]), (0, []), (0, [(1, 1)])])])])
theorem lk_991 : l_core lm_991 := by
  intro v x h
  have E0 : y_ev x (0, [(2, 1)]) = x 2 := by show ((0) : Int) + ((1) * x 2 + 0) = _; omega
  have E1 : y_ev x (0, []) = 0 := by show ((0) : Int) + 0 = _; omega
  have E2 : y_ev x (0, [(0, 1)]) = x 0 := by show ((0) : Int) + ((1) * x 0 + 0) = _; omega
  have E3 : y_ev x (5, [(0, (-1))]) = 5 - x 0 := by show ((5) : Int) + ((-1) * x 0 + 0) = _; omega
  have E4 : y_ev x (6, [(0, 1)]) = x 0 + 6 := by show ((6) : Int) + ((1) * x 0 + 0) = _; omega
  have E5 : y_ev x (0, [(1, 1)]) = x 1 := by show ((0) : Int) + ((1) * x 1 + 0) = _; omega
  have T0 : q_rwo v (y_ev x (0, [(2, 1)])) (y_ev x (0, [])) (y_ev x (0, [])) (y_ev x (0, [])) (y_ev x (0, [])) (y_ev x (0, [])) (y_ev x (0, [])) (y_ev x (0, [])) := h.2.2.2.1
  try rw [E0] at T0; try rw [E1] at T0
  have C0 : 0 ≤ y_ev x (0, [(0, 1)]) := h.2.1.1
  rw [E2] at C0
  have C1 : 0 ≤ y_ev x (5, [(0, (-1))]) := h.2.1.2.1
  rw [E3] at C1
  have F0 : 0 ≤ y_ev x (6, [(0, 1)]) ∧ y_ev x (6, [(0, 1)]) < j_len 78 ∧ v 78 (y_ev x (6, [(0, 1)])) = y_ev x (0, [(1, 1)]) := h.2.2.1.1.1
  try rw [E4] at F0; try rw [E5] at F0
  have K := k_rcelz6 (V := v) (h := x 0) (u := x 1) (H := x 2) T0 C0 C1 F0
  refine l_outH rfl (And.intro h.1 ?_)
  have O0 : y_ev x (8, []) = 8 := by show ((8) : Int) + 0 = _; omega
  have O1 : y_ev x (0, []) = 0 := by show ((0) : Int) + 0 = _; omega
  have O2 : y_ev x (6, [(0, 1)]) = x 0 + 6 := by show ((6) : Int) + ((1) * x 0 + 0) = _; omega
  have O3 : y_ev x (0, [(1, 1)]) = x 1 := by show ((0) : Int) + ((1) * x 1 + 0) = _; omega
  show (True) ∧ (q_qry v (y_ev x (8, [])) (y_ev x (0, [])) (y_ev x (0, [])) (y_ev x (0, [])) (y_ev x (0, [])) (y_ev x (0, [])) (y_ev x (0, [])) (y_ev x (0, [])) (y_ev x (6, [(0, 1)])) (y_ev x (0, [])) (y_ev x (0, [(1, 1)])) ∧ True)
  try rw [O0]; try rw [O1]; try rw [O2]; try rw [O3]
  exact K
def lm_992 : zLem := (([((-2147483648), 2147483647), ((-2147483648), 2147483647), ((-2147483648), 2147483647)], [(78, false)], [(0, [(0, 1)]), (5, [(0, (-1))])], [], [(0, 0, 0, [(0, 1)])], [(0, (true, 0, 18, [(0, 1)]), 0, 0, 0, [(1, 1)])], [(237, [(0, [(2, 1)]), (0, []), (0, []), (0, []), (0, []), (0, []), (0, []), (0, [])])]), [([((-2147483648), 2147483647), ((-2147483648), 2147483647), ((-2147483648), 2147483647)], [(78, false)], [], [], [], [], [(238, [(8, []), (0, []), (0, []), (0, []), (0, []), (0, []), (0, []), (0, []), (18, [(0, 1)]), (0, []), (0, [(1, 1)])])])])
theorem lk_992 : l_core lm_992 := by
  intro v x h
  have E0 : y_ev x (0, [(2, 1)]) = x 2 := by show ((0) : Int) + ((1) * x 2 + 0) = _; omega
  have E1 : y_ev x (0, []) = 0 := by show ((0) : Int) + 0 = _; omega
  have E2 : y_ev x (0, [(0, 1)]) = x 0 := by show ((0) : Int) + ((1) * x 0 + 0) = _; omega
  have E3 : y_ev x (5, [(0, (-1))]) = 5 - x 0 := by show ((5) : Int) + ((-1) * x 0 + 0) = _; omega
  have E4 : y_ev x (18, [(0, 1)]) = x 0 + 18 := by show ((18) : Int) + ((1) * x 0 + 0) = _; omega
  have E5 : y_ev x (0, [(1, 1)]) = x 1 := by show ((0) : Int) + ((1) * x 1 + 0) = _; omega
  have T0 : q_rwo v (y_ev x (0, [(2, 1)])) (y_ev x (0, [])) (y_ev x (0, [])) (y_ev x (0, [])) (y_ev x (0, [])) (y_ev x (0, [])) (y_ev x (0, [])) (y_ev x (0, [])) := h.2.2.2.1
  try rw [E0] at T0; try rw [E1] at T0
  have C0 : 0 ≤ y_ev x (0, [(0, 1)]) := h.2.1.1
  rw [E2] at C0
  have C1 : 0 ≤ y_ev x (5, [(0, (-1))]) := h.2.1.2.1
  rw [E3] at C1
  have F0 : 0 ≤ y_ev x (18, [(0, 1)]) ∧ y_ev x (18, [(0, 1)]) < j_len 78 ∧ v 78 (y_ev x (18, [(0, 1)])) = y_ev x (0, [(1, 1)]) := h.2.2.1.1.1
  try rw [E4] at F0; try rw [E5] at F0
  have K := k_rcelz18 (V := v) (h := x 0) (u := x 1) (H := x 2) T0 C0 C1 F0
  refine l_outH rfl (And.intro h.1 ?_)
  have O0 : y_ev x (8, []) = 8 := by show ((8) : Int) + 0 = _; omega
  have O1 : y_ev x (0, []) = 0 := by show ((0) : Int) + 0 = _; omega
  have O2 : y_ev x (18, [(0, 1)]) = x 0 + 18 := by show ((18) : Int) + ((1) * x 0 + 0) = _; omega
  have O3 : y_ev x (0, [(1, 1)]) = x 1 := by show ((0) : Int) + ((1) * x 1 + 0) = _; omega
  show (True) ∧ (q_qry v (y_ev x (8, [])) (y_ev x (0, [])) (y_ev x (0, [])) (y_ev x (0, [])) (y_ev x (0, [])) (y_ev x (0, [])) (y_ev x (0, [])) (y_ev x (0, [])) (y_ev x (18, [(0, 1)])) (y_ev x (0, [])) (y_ev x (0, [(1, 1)])) ∧ True)
  try rw [O0]; try rw [O1]; try rw [O2]; try rw [O3]
  exact K
def lm_993 : zLem := (([((-2147483648), 2147483647), ((-2147483648), 2147483647)], [(78, false)], [], [], [], [(0, (true, 0, 24, []), 0, 0, 0, [(0, 1)])], [(237, [(0, [(1, 1)]), (0, []), (0, []), (0, []), (0, []), (0, []), (0, []), (0, [])])]), [([((-2147483648), 2147483647), ((-2147483648), 2147483647)], [(78, false)], [], [], [], [], [(238, [(8, []), (0, []), (0, []), (0, []), (0, []), (0, []), (0, []), (0, []), (24, []), (0, []), (0, [(0, 1)])])])])
theorem lk_993 : l_core lm_993 := by
  intro v x h
  have E0 : y_ev x (0, [(1, 1)]) = x 1 := by show ((0) : Int) + ((1) * x 1 + 0) = _; omega
  have E1 : y_ev x (0, []) = 0 := by show ((0) : Int) + 0 = _; omega
  have E2 : y_ev x (24, []) = 24 := by show ((24) : Int) + 0 = _; omega
  have E3 : y_ev x (0, [(0, 1)]) = x 0 := by show ((0) : Int) + ((1) * x 0 + 0) = _; omega
  have T0 : q_rwo v (y_ev x (0, [(1, 1)])) (y_ev x (0, [])) (y_ev x (0, [])) (y_ev x (0, [])) (y_ev x (0, [])) (y_ev x (0, [])) (y_ev x (0, [])) (y_ev x (0, [])) := h.2.2.2.1
  try rw [E0] at T0; try rw [E1] at T0
  have F0 : 0 ≤ y_ev x (24, []) ∧ y_ev x (24, []) < j_len 78 ∧ v 78 (y_ev x (24, [])) = y_ev x (0, [(0, 1)]) := h.2.2.1.1.1
  try rw [E2] at F0; try rw [E3] at F0
  have K := k_rcelz_24 (V := v) (u := x 0) (H := x 1) T0 F0
  refine l_outH rfl (And.intro h.1 ?_)
  have O0 : y_ev x (8, []) = 8 := by show ((8) : Int) + 0 = _; omega
  have O1 : y_ev x (0, []) = 0 := by show ((0) : Int) + 0 = _; omega
  have O2 : y_ev x (24, []) = 24 := by show ((24) : Int) + 0 = _; omega
  have O3 : y_ev x (0, [(0, 1)]) = x 0 := by show ((0) : Int) + ((1) * x 0 + 0) = _; omega
  show (True) ∧ (q_qry v (y_ev x (8, [])) (y_ev x (0, [])) (y_ev x (0, [])) (y_ev x (0, [])) (y_ev x (0, [])) (y_ev x (0, [])) (y_ev x (0, [])) (y_ev x (0, [])) (y_ev x (24, [])) (y_ev x (0, [])) (y_ev x (0, [(0, 1)])) ∧ True)
  try rw [O0]; try rw [O1]; try rw [O2]; try rw [O3]
  exact K
def lm_994 : zLem := (([((-2147483648), 2147483647), ((-2147483648), 2147483647)], [(78, false)], [], [], [], [(0, (true, 0, 32, []), 0, 0, 0, [(0, 1)])], [(237, [(0, [(1, 1)]), (0, []), (0, []), (0, []), (0, []), (0, []), (0, []), (0, [])])]), [([((-2147483648), 2147483647), ((-2147483648), 2147483647)], [(78, false)], [], [], [], [], [(238, [(8, []), (0, []), (0, []), (0, []), (0, []), (0, []), (0, []), (0, []), (32, []), (0, []), (0, [(0, 1)])])])])
theorem lk_994 : l_core lm_994 := by
  intro v x h
  have E0 : y_ev x (0, [(1, 1)]) = x 1 := by show ((0) : Int) + ((1) * x 1 + 0) = _; omega
  have E1 : y_ev x (0, []) = 0 := by show ((0) : Int) + 0 = _; omega
  have E2 : y_ev x (32, []) = 32 := by show ((32) : Int) + 0 = _; omega
  have E3 : y_ev x (0, [(0, 1)]) = x 0 := by show ((0) : Int) + ((1) * x 0 + 0) = _; omega
  have T0 : q_rwo v (y_ev x (0, [(1, 1)])) (y_ev x (0, [])) (y_ev x (0, [])) (y_ev x (0, [])) (y_ev x (0, [])) (y_ev x (0, [])) (y_ev x (0, [])) (y_ev x (0, [])) := h.2.2.2.1
  try rw [E0] at T0; try rw [E1] at T0
  have F0 : 0 ≤ y_ev x (32, []) ∧ y_ev x (32, []) < j_len 78 ∧ v 78 (y_ev x (32, [])) = y_ev x (0, [(0, 1)]) := h.2.2.1.1.1
  try rw [E2] at F0; try rw [E3] at F0
  have K := k_rcelz_32 (V := v) (u := x 0) (H := x 1) T0 F0
  refine l_outH rfl (And.intro h.1 ?_)
  have O0 : y_ev x (8, []) = 8 := by show ((8) : Int) + 0 = _; omega
  have O1 : y_ev x (0, []) = 0 := by show ((0) : Int) + 0 = _; omega
  have O2 : y_ev x (32, []) = 32 := by show ((32) : Int) + 0 = _; omega
  have O3 : y_ev x (0, [(0, 1)]) = x 0 := by show ((0) : Int) + ((1) * x 0 + 0) = _; omega
  show (True) ∧ (q_qry v (y_ev x (8, [])) (y_ev x (0, [])) (y_ev x (0, [])) (y_ev x (0, [])) (y_ev x (0, [])) (y_ev x (0, [])) (y_ev x (0, [])) (y_ev x (0, [])) (y_ev x (32, [])) (y_ev x (0, [])) (y_ev x (0, [(0, 1)])) ∧ True)
  try rw [O0]; try rw [O1]; try rw [O2]; try rw [O3]
  exact K
def lm_995 : zLem := (([((-2147483648), 2147483647), ((-2147483648), 2147483647), ((-2147483648), 2147483647), ((-2147483648), 2147483647), ((-2147483648), 2147483647), ((-2147483648), 2147483647), ((-2147483648), 2147483647)], [(78, false)], [(0, [(2, 1)]), (5, [(2, (-1))])], [], [(0, 0, 0, [(0, 1)])], [(0, (true, 0, 0, [(0, 1)]), 0, 0, 0, []), (0, (true, 0, 6, [(0, 1)]), 0, 0, 0, [(3, 1)]), (0, (true, 0, 12, [(0, 1)]), 0, 0, 0, [(4, 1)]), (0, (true, 0, 18, [(0, 1)]), 0, 0, 0, [(6, 1)]), (0, (true, 0, 24, []), 0, 0, 1, [(2, 1)]), (0, (true, 0, 25, [(2, 1)]), 0, 0, 0, [(0, 1)])], [(238, [(8, []), (0, []), (0, []), (0, []), (0, []), (0, []), (0, []), (0, []), (24, []), (0, []), (0, [(2, 1)])]), (263, [(0, [(1, 1)]), (0, [(0, 1)]), (6, [(0, 1)]), (12, [(0, 1)]), (18, [(0, 1)]), (24, []), (25, [(2, 1)])]), (238, [(8, []), (0, []), (0, []), (0, []), (0, []), (0, []), (0, []), (0, []), (0, [(0, 1)]), (0, []), (0, [(3, 1)])]), (238, [(8, []), (0, []), (0, []), (0, []), (0, []), (0, []), (0, []), (0, []), (18, [(0, 1)]), (0, []), (0, [(5, 1)])]), (262, [(0, [(0, 1)]), (0, [(4, 1)])]), (110, [(0, [(5, 1)]), (1, []), (0, [(6, 1)])]), (260, [(9, []), (0, []), (0, []), (0, []), (0, []), (0, []), (0, []), (0, []), (0, [(0, 1)]), (0, [(1, 1)]), (1, [])])]), [([((-2147483648), 2147483647), ((-2147483648), 2147483647), ((-2147483648), 2147483647), ((-2147483648), 2147483647), ((-2147483648), 2147483647), ((-2147483648), 2147483647), ((-2147483648), 2147483647)], [(78, false)], [], [], [], [], [(237, [(0, [(1, 1)]), (0, []), (0, []), (0, []), (1, []), (0, [(0, 1)]), (0, []), (0, [])])])])
theorem lk_995 : l_core lm_995 := by
  intro v x h
  have E0 : y_ev x (8, []) = 8 := by show ((8) : Int) + 0 = _; omega
  have E1 : y_ev x (0, []) = 0 := by show ((0) : Int) + 0 = _; omega
  have E2 : y_ev x (24, []) = 24 := by show ((24) : Int) + 0 = _; omega
  have E3 : y_ev x (0, [(2, 1)]) = x 2 := by show ((0) : Int) + ((1) * x 2 + 0) = _; omega
  have E4 : y_ev x (0, [(1, 1)]) = x 1 := by show ((0) : Int) + ((1) * x 1 + 0) = _; omega
  have E5 : y_ev x (0, [(0, 1)]) = x 0 := by show ((0) : Int) + ((1) * x 0 + 0) = _; omega
  have E6 : y_ev x (6, [(0, 1)]) = x 0 + 6 := by show ((6) : Int) + ((1) * x 0 + 0) = _; omega
  have E7 : y_ev x (12, [(0, 1)]) = x 0 + 12 := by show ((12) : Int) + ((1) * x 0 + 0) = _; omega
  have E8 : y_ev x (18, [(0, 1)]) = x 0 + 18 := by show ((18) : Int) + ((1) * x 0 + 0) = _; omega
  have E9 : y_ev x (25, [(2, 1)]) = x 2 + 25 := by show ((25) : Int) + ((1) * x 2 + 0) = _; omega
  have E10 : y_ev x (0, [(3, 1)]) = x 3 := by show ((0) : Int) + ((1) * x 3 + 0) = _; omega
  have E11 : y_ev x (0, [(5, 1)]) = x 5 := by show ((0) : Int) + ((1) * x 5 + 0) = _; omega
  have E12 : y_ev x (0, [(4, 1)]) = x 4 := by show ((0) : Int) + ((1) * x 4 + 0) = _; omega
  have E13 : y_ev x (1, []) = 1 := by show ((1) : Int) + 0 = _; omega
  have E14 : y_ev x (0, [(6, 1)]) = x 6 := by show ((0) : Int) + ((1) * x 6 + 0) = _; omega
  have E15 : y_ev x (9, []) = 9 := by show ((9) : Int) + 0 = _; omega
  have E16 : y_ev x (5, [(2, (-1))]) = 5 - x 2 := by show ((5) : Int) + ((-1) * x 2 + 0) = _; omega
  have E17 : y_ev x (1, [(2, 1)]) = x 2 + 1 := by show ((1) : Int) + ((1) * x 2 + 0) = _; omega
  have T0 : q_qry v (y_ev x (8, [])) (y_ev x (0, [])) (y_ev x (0, [])) (y_ev x (0, [])) (y_ev x (0, [])) (y_ev x (0, [])) (y_ev x (0, [])) (y_ev x (0, [])) (y_ev x (24, [])) (y_ev x (0, [])) (y_ev x (0, [(2, 1)])) := h.2.2.2.1
  try rw [E0] at T0; try rw [E1] at T0; try rw [E2] at T0; try rw [E3] at T0
  have T1 : q_rnx v (y_ev x (0, [(1, 1)])) (y_ev x (0, [(0, 1)])) (y_ev x (6, [(0, 1)])) (y_ev x (12, [(0, 1)])) (y_ev x (18, [(0, 1)])) (y_ev x (24, [])) (y_ev x (25, [(2, 1)])) := h.2.2.2.2.1
  try rw [E4] at T1; try rw [E5] at T1; try rw [E6] at T1; try rw [E7] at T1; try rw [E8] at T1; try rw [E2] at T1; try rw [E9] at T1
  have T2 : q_qry v (y_ev x (8, [])) (y_ev x (0, [])) (y_ev x (0, [])) (y_ev x (0, [])) (y_ev x (0, [])) (y_ev x (0, [])) (y_ev x (0, [])) (y_ev x (0, [])) (y_ev x (0, [(0, 1)])) (y_ev x (0, [])) (y_ev x (0, [(3, 1)])) := h.2.2.2.2.2.1
  try rw [E0] at T2; try rw [E1] at T2; try rw [E5] at T2; try rw [E10] at T2
  have T3 : q_qry v (y_ev x (8, [])) (y_ev x (0, [])) (y_ev x (0, [])) (y_ev x (0, [])) (y_ev x (0, [])) (y_ev x (0, [])) (y_ev x (0, [])) (y_ev x (0, [])) (y_ev x (18, [(0, 1)])) (y_ev x (0, [])) (y_ev x (0, [(5, 1)])) := h.2.2.2.2.2.2.1
  try rw [E0] at T3; try rw [E1] at T3; try rw [E8] at T3; try rw [E11] at T3
  have T4 : v 20 (y_ev x (0, [(0, 1)])) = (y_ev x (0, [(4, 1)])) := h.2.2.2.2.2.2.2.1
  try rw [E5] at T4; try rw [E12] at T4
  have T5 : (mOP 110 (Int32.ofInt (y_ev x (0, [(5, 1)]))) (Int32.ofInt (y_ev x (1, [])))).toInt = (y_ev x (0, [(6, 1)])) := h.2.2.2.2.2.2.2.2.1
  try rw [E11] at T5; try rw [E13] at T5; try rw [E14] at T5
  have T6 : q_qry v (y_ev x (9, [])) (y_ev x (0, [])) (y_ev x (0, [])) (y_ev x (0, [])) (y_ev x (0, [])) (y_ev x (0, [])) (y_ev x (0, [])) (y_ev x (0, [])) (y_ev x (0, [(0, 1)])) (y_ev x (0, [(1, 1)])) (y_ev x (1, [])) := h.2.2.2.2.2.2.2.2.2.1
  try rw [E15] at T6; try rw [E1] at T6; try rw [E5] at T6; try rw [E4] at T6; try rw [E13] at T6
  have C0 : 0 ≤ y_ev x (0, [(2, 1)]) := h.2.1.1
  rw [E3] at C0
  have C1 : 0 ≤ y_ev x (5, [(2, (-1))]) := h.2.1.2.1
  rw [E16] at C1
  have F0 : 0 ≤ y_ev x (0, [(0, 1)]) ∧ y_ev x (0, [(0, 1)]) < j_len 78 ∧ v 78 (y_ev x (0, [(0, 1)])) = y_ev x (0, []) := h.2.2.1.1.1
  try rw [E5] at F0; try rw [E1] at F0
  have F1 : 0 ≤ y_ev x (6, [(0, 1)]) ∧ y_ev x (6, [(0, 1)]) < j_len 78 ∧ v 78 (y_ev x (6, [(0, 1)])) = y_ev x (0, [(3, 1)]) := h.2.2.1.2.1.1
  try rw [E6] at F1; try rw [E10] at F1
  have F2 : 0 ≤ y_ev x (12, [(0, 1)]) ∧ y_ev x (12, [(0, 1)]) < j_len 78 ∧ v 78 (y_ev x (12, [(0, 1)])) = y_ev x (0, [(4, 1)]) := h.2.2.1.2.2.1.1
  try rw [E7] at F2; try rw [E12] at F2
  have F3 : 0 ≤ y_ev x (18, [(0, 1)]) ∧ y_ev x (18, [(0, 1)]) < j_len 78 ∧ v 78 (y_ev x (18, [(0, 1)])) = y_ev x (0, [(6, 1)]) := h.2.2.1.2.2.2.1.1
  try rw [E8] at F3; try rw [E14] at F3
  have F4 : 0 ≤ y_ev x (24, []) ∧ y_ev x (24, []) < j_len 78 ∧ v 78 (y_ev x (24, [])) = y_ev x (1, [(2, 1)]) := h.2.2.1.2.2.2.2.1.1
  try rw [E2] at F4; try rw [E17] at F4
  have F5 : 0 ≤ y_ev x (25, [(2, 1)]) ∧ y_ev x (25, [(2, 1)]) < j_len 78 ∧ v 78 (y_ev x (25, [(2, 1)])) = y_ev x (0, [(0, 1)]) := h.2.2.1.2.2.2.2.2.1.1
  try rw [E9] at F5; try rw [E5] at F5
  have K := k_mspl (V := v) (h := x 0) (H := x 1) (p := x 2) (x := x 3) (z := x 4) (g := x 5) (g2 := x 6) T0 T1 T2 T3 T4 T5 T6 C0 C1 F0 F1 F2 F3 F4 F5
  refine l_outH rfl (And.intro h.1 ?_)
  have O0 : y_ev x (0, [(1, 1)]) = x 1 := by show ((0) : Int) + ((1) * x 1 + 0) = _; omega
  have O1 : y_ev x (0, []) = 0 := by show ((0) : Int) + 0 = _; omega
  have O2 : y_ev x (1, []) = 1 := by show ((1) : Int) + 0 = _; omega
  have O3 : y_ev x (0, [(0, 1)]) = x 0 := by show ((0) : Int) + ((1) * x 0 + 0) = _; omega
  show (True) ∧ (q_rwo v (y_ev x (0, [(1, 1)])) (y_ev x (0, [])) (y_ev x (0, [])) (y_ev x (0, [])) (y_ev x (1, [])) (y_ev x (0, [(0, 1)])) (y_ev x (0, [])) (y_ev x (0, [])) ∧ True)
  try rw [O0]; try rw [O1]; try rw [O2]; try rw [O3]
  exact K
def lm_996 : zLem := (([((-2147483648), 2147483647), ((-2147483648), 2147483647), ((-2147483648), 2147483647), ((-2147483648), 2147483647)], [], [], [], [], [], [(260, [(1, []), (0, []), (0, []), (0, []), (1, []), (0, [(0, 1)]), (0, []), (0, []), (0, []), (0, [(1, 1)]), (0, [(2, 1)])]), (238, [(1, []), (0, []), (0, []), (0, []), (1, []), (0, [(0, 1)]), (0, []), (0, []), (0, []), (0, [(1, 1)]), (0, [(3, 1)])])]), [([((-2147483648), 2147483647), ((-2147483648), 2147483647), ((-2147483648), 2147483647), ((-2147483648), 2147483647)], [], [(0, [(2, 1), (3, (-1))]), (0, [(2, (-1)), (3, 1)])], [], [], [], [])])
theorem lk_996 : l_core lm_996 := by
  intro v x h
  have E0 : y_ev x (1, []) = 1 := by show ((1) : Int) + 0 = _; omega
  have E1 : y_ev x (0, []) = 0 := by show ((0) : Int) + 0 = _; omega
  have E2 : y_ev x (0, [(0, 1)]) = x 0 := by show ((0) : Int) + ((1) * x 0 + 0) = _; omega
  have E3 : y_ev x (0, [(1, 1)]) = x 1 := by show ((0) : Int) + ((1) * x 1 + 0) = _; omega
  have E4 : y_ev x (0, [(2, 1)]) = x 2 := by show ((0) : Int) + ((1) * x 2 + 0) = _; omega
  have E5 : y_ev x (0, [(3, 1)]) = x 3 := by show ((0) : Int) + ((1) * x 3 + 0) = _; omega
  have T0 : q_qry v (y_ev x (1, [])) (y_ev x (0, [])) (y_ev x (0, [])) (y_ev x (0, [])) (y_ev x (1, [])) (y_ev x (0, [(0, 1)])) (y_ev x (0, [])) (y_ev x (0, [])) (y_ev x (0, [])) (y_ev x (0, [(1, 1)])) (y_ev x (0, [(2, 1)])) := h.2.2.2.1
  try rw [E0] at T0; try rw [E1] at T0; try rw [E2] at T0; try rw [E3] at T0; try rw [E4] at T0
  have T1 : q_qry v (y_ev x (1, [])) (y_ev x (0, [])) (y_ev x (0, [])) (y_ev x (0, [])) (y_ev x (1, [])) (y_ev x (0, [(0, 1)])) (y_ev x (0, [])) (y_ev x (0, [])) (y_ev x (0, [])) (y_ev x (0, [(1, 1)])) (y_ev x (0, [(3, 1)])) := h.2.2.2.2.1
  try rw [E0] at T1; try rw [E1] at T1; try rw [E2] at T1; try rw [E3] at T1; try rw [E5] at T1
  have K := k_qeT (V := v) (h := x 0) (p := x 1) (u := x 2) (w := x 3) T0 T1
  refine l_outH rfl (And.intro h.1 ?_)
  have O0 : y_ev x (0, [(2, 1), (3, (-1))]) = x 2 - x 3 := by show ((0) : Int) + ((1) * x 2 + ((-1) * x 3 + 0)) = _; omega
  have O1 : y_ev x (0, [(2, (-1)), (3, 1)]) = x 3 - x 2 := by show ((0) : Int) + ((-1) * x 2 + ((1) * x 3 + 0)) = _; omega
  show (0 ≤ y_ev x (0, [(2, 1), (3, (-1))]) ∧ 0 ≤ y_ev x (0, [(2, (-1)), (3, 1)]) ∧ True) ∧ (True)
  try rw [O0]; try rw [O1]
  exact K
def lm_997 : zLem := (([((-2147483648), 2147483647), ((-2147483648), 2147483647), ((-2147483648), 2147483647), ((-2147483648), 2147483647), ((-2147483648), 2147483647)], [(78, false)], [], [], [], [(0, (true, 0, 24, []), 0, 0, 0, [(0, 1)])], [(237, [(0, [(1, 1)]), (0, []), (0, []), (0, []), (0, []), (0, []), (0, []), (0, [])]), (235, [(0, [(1, 1)]), (0, [(2, 1)]), (0, [(3, 1)]), (0, [(4, 1)]), (0, []), (0, []), (0, []), (0, []), (0, []), (0, []), (0, [])])]), [([((-2147483648), 2147483647), ((-2147483648), 2147483647), ((-2147483648), 2147483647), ((-2147483648), 2147483647), ((-2147483648), 2147483647)], [(78, false)], [(0, [(0, 1), (2, (-1))]), (0, [(0, (-1)), (2, 1)])], [], [], [], [])])
theorem lk_997 : l_core lm_997 := by
  intro v x h
  have E0 : y_ev x (0, [(1, 1)]) = x 1 := by show ((0) : Int) + ((1) * x 1 + 0) = _; omega
  have E1 : y_ev x (0, []) = 0 := by show ((0) : Int) + 0 = _; omega
  have E2 : y_ev x (0, [(2, 1)]) = x 2 := by show ((0) : Int) + ((1) * x 2 + 0) = _; omega
  have E3 : y_ev x (0, [(3, 1)]) = x 3 := by show ((0) : Int) + ((1) * x 3 + 0) = _; omega
  have E4 : y_ev x (0, [(4, 1)]) = x 4 := by show ((0) : Int) + ((1) * x 4 + 0) = _; omega
  have E5 : y_ev x (24, []) = 24 := by show ((24) : Int) + 0 = _; omega
  have E6 : y_ev x (0, [(0, 1)]) = x 0 := by show ((0) : Int) + ((1) * x 0 + 0) = _; omega
  have T0 : q_rwo v (y_ev x (0, [(1, 1)])) (y_ev x (0, [])) (y_ev x (0, [])) (y_ev x (0, [])) (y_ev x (0, [])) (y_ev x (0, [])) (y_ev x (0, [])) (y_ev x (0, [])) := h.2.2.2.1
  try rw [E0] at T0; try rw [E1] at T0
  have T1 : q_sto v 0 (y_ev x (0, [(1, 1)])) (y_ev x (0, [(2, 1)])) (y_ev x (0, [(3, 1)])) (y_ev x (0, [(4, 1)])) (y_ev x (0, [])) (y_ev x (0, [])) (y_ev x (0, [])) (y_ev x (0, [])) (y_ev x (0, [])) (y_ev x (0, [])) (y_ev x (0, [])) := h.2.2.2.2.1
  try rw [E0] at T1; try rw [E2] at T1; try rw [E3] at T1; try rw [E4] at T1; try rw [E1] at T1
  have F0 : 0 ≤ y_ev x (24, []) ∧ y_ev x (24, []) < j_len 78 ∧ v 78 (y_ev x (24, [])) = y_ev x (0, [(0, 1)]) := h.2.2.1.1.1
  try rw [E5] at F0; try rw [E6] at F0
  have K := k_rp0 (V := v) (x := x 0) (H := x 1) (p := x 2) (y := x 3) (d := x 4) T0 T1 F0
  refine l_outH rfl (And.intro h.1 ?_)
  have O0 : y_ev x (0, [(0, 1), (2, (-1))]) = x 0 - x 2 := by show ((0) : Int) + ((1) * x 0 + ((-1) * x 2 + 0)) = _; omega
  have O1 : y_ev x (0, [(0, (-1)), (2, 1)]) = x 2 - x 0 := by show ((0) : Int) + ((-1) * x 0 + ((1) * x 2 + 0)) = _; omega
  show (0 ≤ y_ev x (0, [(0, 1), (2, (-1))]) ∧ 0 ≤ y_ev x (0, [(0, (-1)), (2, 1)]) ∧ True) ∧ (True)
  try rw [O0]; try rw [O1]
  exact K
def lm_998 : zLem := (([((-2147483648), 2147483647), ((-2147483648), 2147483647), ((-2147483648), 2147483647), ((-2147483648), 2147483647)], [(12, false), (61, false)], [], [], [], [(0, (false, 18, 0, []), 0, 0, 0, [(0, 1)]), (1, (true, 0, 0, [(0, 1)]), 0, 0, 0, [(1, 1)])], [(88, [(0, [(0, 1)]), (0, [(2, 1)]), (0, [(3, 1)])])]), [([((-2147483648), 2147483647), ((-2147483648), 2147483647), ((-2147483648), 2147483647), ((-2147483648), 2147483647)], [(12, false), (61, false)], [(0, [(1, 1), (2, (-1))]), (0, [(1, (-1)), (2, 1)])], [], [], [], [])])
theorem lk_998 : l_core lm_998 := by
  intro v x h
  have E0 : y_ev x (0, [(0, 1)]) = x 0 := by show ((0) : Int) + ((1) * x 0 + 0) = _; omega
  have E1 : y_ev x (0, [(2, 1)]) = x 2 := by show ((0) : Int) + ((1) * x 2 + 0) = _; omega
  have E2 : y_ev x (0, [(3, 1)]) = x 3 := by show ((0) : Int) + ((1) * x 3 + 0) = _; omega
  have E3 : y_ev x (0, [(1, 1)]) = x 1 := by show ((0) : Int) + ((1) * x 1 + 0) = _; omega
  have T0 : 0 ≤ (y_ev x (0, [(0, 1)])) ∧ (y_ev x (0, [(0, 1)])) ≠ (y_ev x (0, [(3, 1)])) ∧ v 61 (y_ev x (0, [(0, 1)])) = (y_ev x (0, [(2, 1)])) := h.2.2.2.1
  try rw [E0] at T0; try rw [E1] at T0; try rw [E2] at T0
  have F0 : 0 ≤ y_ev x (0, [(0, 1)]) ∧ y_ev x (0, [(0, 1)]) < j_len 61 ∧ v 61 (y_ev x (0, [(0, 1)])) = y_ev x (0, [(1, 1)]) := h.2.2.1.2.1.1
  try rw [E0] at F0; try rw [E3] at F0
  have K := k_nwW (V := v) (l := x 0) (u := x 1) (w := x 2) (x := x 3) T0 F0
  refine l_outH rfl (And.intro h.1 ?_)
  have O0 : y_ev x (0, [(1, 1), (2, (-1))]) = x 1 - x 2 := by show ((0) : Int) + ((1) * x 1 + ((-1) * x 2 + 0)) = _; omega
  have O1 : y_ev x (0, [(1, (-1)), (2, 1)]) = x 2 - x 1 := by show ((0) : Int) + ((-1) * x 1 + ((1) * x 2 + 0)) = _; omega
  show (0 ≤ y_ev x (0, [(1, 1), (2, (-1))]) ∧ 0 ≤ y_ev x (0, [(1, (-1)), (2, 1)]) ∧ True) ∧ (True)
  try rw [O0]; try rw [O1]
  exact K
def lm_999 : zLem := (([((-2147483648), 2147483647), ((-2147483648), 2147483647), ((-2147483648), 2147483647), ((-2147483648), 2147483647), ((-2147483648), 2147483647), ((-2147483648), 2147483647), ((-2147483648), 2147483647), ((-2147483648), 2147483647), ((-2147483648), 2147483647), ((-2147483648), 2147483647)], [], [(0, [(2, 1)])], [], [(0, 0, 0, [(0, 1)]), (0, 0, 0, [(2, 1)]), (0, 0, 0, [(1, 1)])], [], [(107, [(0, [(2, 1)]), (2, []), (0, [(1, 1)])]), (238, [(3, []), (0, [(3, 1)]), (0, [(4, 1)]), (0, [(5, 1)]), (0, [(6, 1)]), (0, [(7, 1)]), (0, [(8, 1)]), (0, [(9, 1)]), (0, [(0, 1)]), (0, []), (0, [(2, 1)])])]), [([((-2147483648), 2147483647), ((-2147483648), 2147483647), ((-2147483648), 2147483647), ((-2147483648), 2147483647), ((-2147483648), 2147483647), ((-2147483648), 2147483647), ((-2147483648), 2147483647), ((-2147483648), 2147483647), ((-2147483648), 2147483647), ((-2147483648), 2147483647)], [], [(0, [(1, (-2)), (2, 1)]), (1, [(1, 2), (2, (-1))])], [], [], [], [(238, [(22, []), (0, [(3, 1)]), (0, [(4, 1)]), (0, [(5, 1)]), (0, [(6, 1)]), (0, [(7, 1)]), (0, [(8, 1)]), (0, [(9, 1)]), (0, [(0, 1)]), (0, []), (0, [(1, 1)])])])])
theorem lk_999 : l_core lm_999 := by
  intro v x h
  have E0 : y_ev x (0, [(2, 1)]) = x 2 := by show ((0) : Int) + ((1) * x 2 + 0) = _; omega
  have E1 : y_ev x (2, []) = 2 := by show ((2) : Int) + 0 = _; omega
  have E2 : y_ev x (0, [(1, 1)]) = x 1 := by show ((0) : Int) + ((1) * x 1 + 0) = _; omega
  have E3 : y_ev x (3, []) = 3 := by show ((3) : Int) + 0 = _; omega
  have E4 : y_ev x (0, [(3, 1)]) = x 3 := by show ((0) : Int) + ((1) * x 3 + 0) = _; omega
  have E5 : y_ev x (0, [(4, 1)]) = x 4 := by show ((0) : Int) + ((1) * x 4 + 0) = _; omega
  have E6 : y_ev x (0, [(5, 1)]) = x 5 := by show ((0) : Int) + ((1) * x 5 + 0) = _; omega
  have E7 : y_ev x (0, [(6, 1)]) = x 6 := by show ((0) : Int) + ((1) * x 6 + 0) = _; omega
  have E8 : y_ev x (0, [(7, 1)]) = x 7 := by show ((0) : Int) + ((1) * x 7 + 0) = _; omega
  have E9 : y_ev x (0, [(8, 1)]) = x 8 := by show ((0) : Int) + ((1) * x 8 + 0) = _; omega
  have E10 : y_ev x (0, [(9, 1)]) = x 9 := by show ((0) : Int) + ((1) * x 9 + 0) = _; omega
  have E11 : y_ev x (0, [(0, 1)]) = x 0 := by show ((0) : Int) + ((1) * x 0 + 0) = _; omega
  have E12 : y_ev x (0, []) = 0 := by show ((0) : Int) + 0 = _; omega
  have T0 : (mOP 107 (Int32.ofInt (y_ev x (0, [(2, 1)]))) (Int32.ofInt (y_ev x (2, [])))).toInt = (y_ev x (0, [(1, 1)])) := h.2.2.2.1
  try rw [E0] at T0; try rw [E1] at T0; try rw [E2] at T0
  have T1 : q_qry v (y_ev x (3, [])) (y_ev x (0, [(3, 1)])) (y_ev x (0, [(4, 1)])) (y_ev x (0, [(5, 1)])) (y_ev x (0, [(6, 1)])) (y_ev x (0, [(7, 1)])) (y_ev x (0, [(8, 1)])) (y_ev x (0, [(9, 1)])) (y_ev x (0, [(0, 1)])) (y_ev x (0, [])) (y_ev x (0, [(2, 1)])) := h.2.2.2.2.1
  try rw [E3] at T1; try rw [E4] at T1; try rw [E5] at T1; try rw [E6] at T1; try rw [E7] at T1; try rw [E8] at T1; try rw [E9] at T1; try rw [E10] at T1; try rw [E11] at T1; try rw [E12] at T1; try rw [E0] at T1
  have C0 : 0 ≤ y_ev x (0, [(2, 1)]) := h.2.1.1
  rw [E0] at C0
  have K := k_bplmB (V := v) (w := x 0) (j := x 1) (k := x 2) (q := x 3) (b := x 4) (s := x 5) (o := x 6) (a1 := x 7) (a2 := x 8) (a3 := x 9) T0 T1 C0
  refine l_outH rfl (And.intro h.1 ?_)
  have O0 : y_ev x (0, [(1, (-2)), (2, 1)]) = x 2 - 2 * x 1 := by show ((0) : Int) + ((-2) * x 1 + ((1) * x 2 + 0)) = _; omega
  have O1 : y_ev x (1, [(1, 2), (2, (-1))]) = 2 * x 1 - x 2 + 1 := by show ((1) : Int) + ((2) * x 1 + ((-1) * x 2 + 0)) = _; omega
  have O2 : y_ev x (22, []) = 22 := by show ((22) : Int) + 0 = _; omega
  have O3 : y_ev x (0, [(3, 1)]) = x 3 := by show ((0) : Int) + ((1) * x 3 + 0) = _; omega
  have O4 : y_ev x (0, [(4, 1)]) = x 4 := by show ((0) : Int) + ((1) * x 4 + 0) = _; omega
  have O5 : y_ev x (0, [(5, 1)]) = x 5 := by show ((0) : Int) + ((1) * x 5 + 0) = _; omega
  have O6 : y_ev x (0, [(6, 1)]) = x 6 := by show ((0) : Int) + ((1) * x 6 + 0) = _; omega
  have O7 : y_ev x (0, [(7, 1)]) = x 7 := by show ((0) : Int) + ((1) * x 7 + 0) = _; omega
  have O8 : y_ev x (0, [(8, 1)]) = x 8 := by show ((0) : Int) + ((1) * x 8 + 0) = _; omega
  have O9 : y_ev x (0, [(9, 1)]) = x 9 := by show ((0) : Int) + ((1) * x 9 + 0) = _; omega
  have O10 : y_ev x (0, [(0, 1)]) = x 0 := by show ((0) : Int) + ((1) * x 0 + 0) = _; omega
  have O11 : y_ev x (0, []) = 0 := by show ((0) : Int) + 0 = _; omega
  have O12 : y_ev x (0, [(1, 1)]) = x 1 := by show ((0) : Int) + ((1) * x 1 + 0) = _; omega
  show (0 ≤ y_ev x (0, [(1, (-2)), (2, 1)]) ∧ 0 ≤ y_ev x (1, [(1, 2), (2, (-1))]) ∧ True) ∧ (q_qry v (y_ev x (22, [])) (y_ev x (0, [(3, 1)])) (y_ev x (0, [(4, 1)])) (y_ev x (0, [(5, 1)])) (y_ev x (0, [(6, 1)])) (y_ev x (0, [(7, 1)])) (y_ev x (0, [(8, 1)])) (y_ev x (0, [(9, 1)])) (y_ev x (0, [(0, 1)])) (y_ev x (0, [])) (y_ev x (0, [(1, 1)])) ∧ True)
  try rw [O0]; try rw [O1]; try rw [O2]; try rw [O3]; try rw [O4]; try rw [O5]; try rw [O6]; try rw [O7]; try rw [O8]; try rw [O9]; try rw [O10]; try rw [O11]; try rw [O12]
  exact K
def lm_1000 : zLem := (([((-2147483648), 2147483647)], [], [], [], [], [], [(237, [(0, [(0, 1)]), (0, []), (0, []), (0, []), (0, []), (0, []), (0, []), (0, [])])]), [([((-2147483648), 2147483647)], [], [], [], [], [], [(263, [(0, [(0, 1)]), (32, []), (32, []), (32, []), (32, []), (32, []), (32, [])])])])
theorem lk_1000 : l_core lm_1000 := by
  intro v x h
  have E0 : y_ev x (0, [(0, 1)]) = x 0 := by show ((0) : Int) + ((1) * x 0 + 0) = _; omega
  have E1 : y_ev x (0, []) = 0 := by show ((0) : Int) + 0 = _; omega
  have T0 : q_rwo v (y_ev x (0, [(0, 1)])) (y_ev x (0, [])) (y_ev x (0, [])) (y_ev x (0, [])) (y_ev x (0, [])) (y_ev x (0, [])) (y_ev x (0, [])) (y_ev x (0, [])) := h.2.2.2.1
  try rw [E0] at T0; try rw [E1] at T0
  have K := k_rnx32 (V := v) (H := x 0) T0
  refine l_outH rfl (And.intro h.1 ?_)
  have O0 : y_ev x (0, [(0, 1)]) = x 0 := by show ((0) : Int) + ((1) * x 0 + 0) = _; omega
  have O1 : y_ev x (32, []) = 32 := by show ((32) : Int) + 0 = _; omega
  show (True) ∧ (q_rnx v (y_ev x (0, [(0, 1)])) (y_ev x (32, [])) (y_ev x (32, [])) (y_ev x (32, [])) (y_ev x (32, [])) (y_ev x (32, [])) (y_ev x (32, [])) ∧ True)
  try rw [O0]; try rw [O1]
  exact K
def lm_1001 : zLem := (([((-2147483648), 2147483647), ((-2147483648), 2147483647), ((-2147483648), 2147483647), ((-2147483648), 2147483647)], [(78, false)], [], [], [(0, 0, 0, [(0, 1)])], [(0, (true, 0, 32, []), 0, 0, 0, [(3, 1)])], [(263, [(0, [(1, 1)]), (32, []), (32, []), (32, []), (32, []), (32, []), (32, [])]), (238, [(8, []), (0, []), (0, []), (0, []), (0, []), (0, []), (0, []), (0, []), (32, []), (0, []), (0, [(2, 1)])]), (110, [(0, [(2, 1)]), (0, [(0, 1)]), (0, [(3, 1)])])]), [([((-2147483648), 2147483647), ((-2147483648), 2147483647), ((-2147483648), 2147483647), ((-2147483648), 2147483647)], [(78, false)], [], [], [], [], [(237, [(0, [(1, 1)]), (0, []), (0, []), (0, []), (3, []), (0, [(0, 1)]), (0, []), (0, [])])])])
theorem lk_1001 : l_core lm_1001 := by
  intro v x h
  have E0 : y_ev x (0, [(1, 1)]) = x 1 := by show ((0) : Int) + ((1) * x 1 + 0) = _; omega
  have E1 : y_ev x (32, []) = 32 := by show ((32) : Int) + 0 = _; omega
  have E2 : y_ev x (8, []) = 8 := by show ((8) : Int) + 0 = _; omega
  have E3 : y_ev x (0, []) = 0 := by show ((0) : Int) + 0 = _; omega
  have E4 : y_ev x (0, [(2, 1)]) = x 2 := by show ((0) : Int) + ((1) * x 2 + 0) = _; omega
  have E5 : y_ev x (0, [(0, 1)]) = x 0 := by show ((0) : Int) + ((1) * x 0 + 0) = _; omega
  have E6 : y_ev x (0, [(3, 1)]) = x 3 := by show ((0) : Int) + ((1) * x 3 + 0) = _; omega
  have T0 : q_rnx v (y_ev x (0, [(1, 1)])) (y_ev x (32, [])) (y_ev x (32, [])) (y_ev x (32, [])) (y_ev x (32, [])) (y_ev x (32, [])) (y_ev x (32, [])) := h.2.2.2.1
  try rw [E0] at T0; try rw [E1] at T0
  have T1 : q_qry v (y_ev x (8, [])) (y_ev x (0, [])) (y_ev x (0, [])) (y_ev x (0, [])) (y_ev x (0, [])) (y_ev x (0, [])) (y_ev x (0, [])) (y_ev x (0, [])) (y_ev x (32, [])) (y_ev x (0, [])) (y_ev x (0, [(2, 1)])) := h.2.2.2.2.1
  try rw [E2] at T1; try rw [E3] at T1; try rw [E1] at T1; try rw [E4] at T1
  have T2 : (mOP 110 (Int32.ofInt (y_ev x (0, [(2, 1)]))) (Int32.ofInt (y_ev x (0, [(0, 1)])))).toInt = (y_ev x (0, [(3, 1)])) := h.2.2.2.2.2.1
  try rw [E4] at T2; try rw [E5] at T2; try rw [E6] at T2
  have F0 : 0 ≤ y_ev x (32, []) ∧ y_ev x (32, []) < j_len 78 ∧ v 78 (y_ev x (32, [])) = y_ev x (0, [(3, 1)]) := h.2.2.1.1.1
  try rw [E1] at F0; try rw [E6] at F0
  have K := k_mdrw (V := v) (w := x 0) (H := x 1) (x := x 2) (v := x 3) T0 T1 T2 F0
  refine l_outH rfl (And.intro h.1 ?_)
  have O0 : y_ev x (0, [(1, 1)]) = x 1 := by show ((0) : Int) + ((1) * x 1 + 0) = _; omega
  have O1 : y_ev x (0, []) = 0 := by show ((0) : Int) + 0 = _; omega
  have O2 : y_ev x (3, []) = 3 := by show ((3) : Int) + 0 = _; omega
  have O3 : y_ev x (0, [(0, 1)]) = x 0 := by show ((0) : Int) + ((1) * x 0 + 0) = _; omega
  show (True) ∧ (q_rwo v (y_ev x (0, [(1, 1)])) (y_ev x (0, [])) (y_ev x (0, [])) (y_ev x (0, [])) (y_ev x (3, [])) (y_ev x (0, [(0, 1)])) (y_ev x (0, [])) (y_ev x (0, [])) ∧ True)
  try rw [O0]; try rw [O1]; try rw [O2]; try rw [O3]
  exact K
def lm_1002 : zLem := (([((-2147483648), 2147483647), ((-2147483648), 2147483647), ((-2147483648), 2147483647), ((-2147483648), 2147483647), ((-2147483648), 2147483647)], [(77, false)], [], [], [(0, 0, 0, [(0, 1)])], [(0, (true, 0, 24, []), 0, 0, 0, [(0, 1)])], [(235, [(0, [(1, 1)]), (0, [(2, 1)]), (0, [(3, 1)]), (0, [(4, 1)]), (0, []), (0, []), (0, []), (0, []), (0, []), (0, []), (0, [])])]), [([((-2147483648), 2147483647), ((-2147483648), 2147483647), ((-2147483648), 2147483647), ((-2147483648), 2147483647), ((-2147483648), 2147483647)], [(77, false)], [(0, [(0, 1), (2, (-1))]), (0, [(0, (-1)), (2, 1)])], [], [], [], [])])
theorem lk_1002 : l_core lm_1002 := by
  intro v x h
  have E0 : y_ev x (0, [(1, 1)]) = x 1 := by show ((0) : Int) + ((1) * x 1 + 0) = _; omega
  have E1 : y_ev x (0, [(2, 1)]) = x 2 := by show ((0) : Int) + ((1) * x 2 + 0) = _; omega
  have E2 : y_ev x (0, [(3, 1)]) = x 3 := by show ((0) : Int) + ((1) * x 3 + 0) = _; omega
  have E3 : y_ev x (0, [(4, 1)]) = x 4 := by show ((0) : Int) + ((1) * x 4 + 0) = _; omega
  have E4 : y_ev x (0, []) = 0 := by show ((0) : Int) + 0 = _; omega
  have E5 : y_ev x (24, []) = 24 := by show ((24) : Int) + 0 = _; omega
  have E6 : y_ev x (0, [(0, 1)]) = x 0 := by show ((0) : Int) + ((1) * x 0 + 0) = _; omega
  have T0 : q_sto v 0 (y_ev x (0, [(1, 1)])) (y_ev x (0, [(2, 1)])) (y_ev x (0, [(3, 1)])) (y_ev x (0, [(4, 1)])) (y_ev x (0, [])) (y_ev x (0, [])) (y_ev x (0, [])) (y_ev x (0, [])) (y_ev x (0, [])) (y_ev x (0, [])) (y_ev x (0, [])) := h.2.2.2.1
  try rw [E0] at T0; try rw [E1] at T0; try rw [E2] at T0; try rw [E3] at T0; try rw [E4] at T0
  have F0 : 0 ≤ y_ev x (24, []) ∧ y_ev x (24, []) < j_len 77 ∧ v 77 (y_ev x (24, [])) = y_ev x (0, [(0, 1)]) := h.2.2.1.1.1
  try rw [E5] at F0; try rw [E6] at F0
  have K := k_np24 (V := v) (x := x 0) (H := x 1) (p := x 2) (y := x 3) (d := x 4) T0 F0
  refine l_outH rfl (And.intro h.1 ?_)
  have O0 : y_ev x (0, [(0, 1), (2, (-1))]) = x 0 - x 2 := by show ((0) : Int) + ((1) * x 0 + ((-1) * x 2 + 0)) = _; omega
  have O1 : y_ev x (0, [(0, (-1)), (2, 1)]) = x 2 - x 0 := by show ((0) : Int) + ((-1) * x 0 + ((1) * x 2 + 0)) = _; omega
  show (0 ≤ y_ev x (0, [(0, 1), (2, (-1))]) ∧ 0 ≤ y_ev x (0, [(0, (-1)), (2, 1)]) ∧ True) ∧ (True)
  try rw [O0]; try rw [O1]
  exact K
def lm_1003 : zLem := (([((-2147483648), 2147483647), ((-2147483648), 2147483647), ((-2147483648), 2147483647), ((-2147483648), 2147483647), ((-2147483648), 2147483647)], [(77, false)], [], [], [(0, 0, 0, [(0, 1)])], [(0, (true, 0, 31, []), 0, 0, 0, [(0, 1)])], [(235, [(0, [(1, 1)]), (0, [(2, 1)]), (0, [(3, 1)]), (0, [(4, 1)]), (0, []), (0, []), (0, []), (0, []), (0, []), (0, []), (0, [])])]), [([((-2147483648), 2147483647), ((-2147483648), 2147483647), ((-2147483648), 2147483647), ((-2147483648), 2147483647), ((-2147483648), 2147483647)], [(77, false)], [(0, [(0, 1), (3, (-1))]), (0, [(0, (-1)), (3, 1)])], [], [], [], [])])
theorem lk_1003 : l_core lm_1003 := by
  intro v x h
  have E0 : y_ev x (0, [(1, 1)]) = x 1 := by show ((0) : Int) + ((1) * x 1 + 0) = _; omega
  have E1 : y_ev x (0, [(2, 1)]) = x 2 := by show ((0) : Int) + ((1) * x 2 + 0) = _; omega
  have E2 : y_ev x (0, [(3, 1)]) = x 3 := by show ((0) : Int) + ((1) * x 3 + 0) = _; omega
  have E3 : y_ev x (0, [(4, 1)]) = x 4 := by show ((0) : Int) + ((1) * x 4 + 0) = _; omega
  have E4 : y_ev x (0, []) = 0 := by show ((0) : Int) + 0 = _; omega
  have E5 : y_ev x (31, []) = 31 := by show ((31) : Int) + 0 = _; omega
  have E6 : y_ev x (0, [(0, 1)]) = x 0 := by show ((0) : Int) + ((1) * x 0 + 0) = _; omega
  have T0 : q_sto v 0 (y_ev x (0, [(1, 1)])) (y_ev x (0, [(2, 1)])) (y_ev x (0, [(3, 1)])) (y_ev x (0, [(4, 1)])) (y_ev x (0, [])) (y_ev x (0, [])) (y_ev x (0, [])) (y_ev x (0, [])) (y_ev x (0, [])) (y_ev x (0, [])) (y_ev x (0, [])) := h.2.2.2.1
  try rw [E0] at T0; try rw [E1] at T0; try rw [E2] at T0; try rw [E3] at T0; try rw [E4] at T0
  have F0 : 0 ≤ y_ev x (31, []) ∧ y_ev x (31, []) < j_len 77 ∧ v 77 (y_ev x (31, [])) = y_ev x (0, [(0, 1)]) := h.2.2.1.1.1
  try rw [E5] at F0; try rw [E6] at F0
  have K := k_np31 (V := v) (x := x 0) (H := x 1) (p := x 2) (y := x 3) (d := x 4) T0 F0
  refine l_outH rfl (And.intro h.1 ?_)
  have O0 : y_ev x (0, [(0, 1), (3, (-1))]) = x 0 - x 3 := by show ((0) : Int) + ((1) * x 0 + ((-1) * x 3 + 0)) = _; omega
  have O1 : y_ev x (0, [(0, (-1)), (3, 1)]) = x 3 - x 0 := by show ((0) : Int) + ((-1) * x 0 + ((1) * x 3 + 0)) = _; omega
  show (0 ≤ y_ev x (0, [(0, 1), (3, (-1))]) ∧ 0 ≤ y_ev x (0, [(0, (-1)), (3, 1)]) ∧ True) ∧ (True)
  try rw [O0]; try rw [O1]
  exact K
def lm_1004 : zLem := (([((-2147483648), 2147483647), ((-2147483648), 2147483647), ((-2147483648), 2147483647), ((-2147483648), 2147483647)], [(12, false), (63, false)], [], [], [], [(0, (false, 18, 0, []), 0, 0, 0, [(0, 1)]), (1, (true, 0, 0, [(0, 1)]), 0, 0, 0, [(1, 1)])], [(90, [(0, [(0, 1)]), (0, [(2, 1)]), (0, [(3, 1)])])]), [([((-2147483648), 2147483647), ((-2147483648), 2147483647), ((-2147483648), 2147483647), ((-2147483648), 2147483647)], [(12, false), (63, false)], [(0, [(1, 1), (2, (-1))]), (0, [(1, (-1)), (2, 1)])], [], [], [], [])])
theorem lk_1004 : l_core lm_1004 := by
  intro v x h
  have E0 : y_ev x (0, [(0, 1)]) = x 0 := by show ((0) : Int) + ((1) * x 0 + 0) = _; omega
  have E1 : y_ev x (0, [(2, 1)]) = x 2 := by show ((0) : Int) + ((1) * x 2 + 0) = _; omega
  have E2 : y_ev x (0, [(3, 1)]) = x 3 := by show ((0) : Int) + ((1) * x 3 + 0) = _; omega
  have E3 : y_ev x (0, [(1, 1)]) = x 1 := by show ((0) : Int) + ((1) * x 1 + 0) = _; omega
  have T0 : 0 ≤ (y_ev x (0, [(0, 1)])) ∧ (y_ev x (0, [(0, 1)])) ≠ (y_ev x (0, [(3, 1)])) ∧ v 63 (y_ev x (0, [(0, 1)])) = (y_ev x (0, [(2, 1)])) := h.2.2.2.1
  try rw [E0] at T0; try rw [E1] at T0; try rw [E2] at T0
  have F0 : 0 ≤ y_ev x (0, [(0, 1)]) ∧ y_ev x (0, [(0, 1)]) < j_len 63 ∧ v 63 (y_ev x (0, [(0, 1)])) = y_ev x (0, [(1, 1)]) := h.2.2.1.2.1.1
  try rw [E0] at F0; try rw [E3] at F0
  have K := k_nwB (V := v) (l := x 0) (u := x 1) (w := x 2) (x := x 3) T0 F0
  refine l_outH rfl (And.intro h.1 ?_)
  have O0 : y_ev x (0, [(1, 1), (2, (-1))]) = x 1 - x 2 := by show ((0) : Int) + ((1) * x 1 + ((-1) * x 2 + 0)) = _; omega
  have O1 : y_ev x (0, [(1, (-1)), (2, 1)]) = x 2 - x 1 := by show ((0) : Int) + ((-1) * x 1 + ((1) * x 2 + 0)) = _; omega
  show (0 ≤ y_ev x (0, [(1, 1), (2, (-1))]) ∧ 0 ≤ y_ev x (0, [(1, (-1)), (2, 1)]) ∧ True) ∧ (True)
  try rw [O0]; try rw [O1]
  exact K
def lm_1005 : zLem := (([((-2147483648), 2147483647), ((-2147483648), 2147483647), ((-2147483648), 2147483647), ((-2147483648), 2147483647)], [(12, false), (64, false)], [], [], [], [(0, (false, 49, 0, []), 0, 0, 0, [(1, 1)]), (0, (false, 18, 0, []), 0, 0, 0, [(0, 1)]), (1, (true, 0, 0, [(0, 1)]), 0, 0, 0, [(1, 1)])], [(91, [(0, [(0, 1)]), (0, [(2, 1)]), (0, [(3, 1)])])]), [([((-2147483648), 2147483647), ((-2147483648), 2147483647), ((-2147483648), 2147483647), ((-2147483648), 2147483647)], [(12, false), (64, false)], [(0, [(1, 1), (2, (-1))]), (0, [(1, (-1)), (2, 1)])], [], [], [], [])])
theorem lk_1005 : l_core lm_1005 := by
  intro v x h
  have E0 : y_ev x (0, [(0, 1)]) = x 0 := by show ((0) : Int) + ((1) * x 0 + 0) = _; omega
  have E1 : y_ev x (0, [(2, 1)]) = x 2 := by show ((0) : Int) + ((1) * x 2 + 0) = _; omega
  have E2 : y_ev x (0, [(3, 1)]) = x 3 := by show ((0) : Int) + ((1) * x 3 + 0) = _; omega
  have E3 : y_ev x (0, [(1, 1)]) = x 1 := by show ((0) : Int) + ((1) * x 1 + 0) = _; omega
  have T0 : 0 ≤ (y_ev x (0, [(0, 1)])) ∧ (y_ev x (0, [(0, 1)])) ≠ (y_ev x (0, [(3, 1)])) ∧ v 64 (y_ev x (0, [(0, 1)])) = (y_ev x (0, [(2, 1)])) := h.2.2.2.1
  try rw [E0] at T0; try rw [E1] at T0; try rw [E2] at T0
  have F0 : 0 ≤ y_ev x (0, [(0, 1)]) ∧ y_ev x (0, [(0, 1)]) < j_len 64 ∧ v 64 (y_ev x (0, [(0, 1)])) = y_ev x (0, [(1, 1)]) := h.2.2.1.2.2.1.1
  try rw [E0] at F0; try rw [E3] at F0
  have K := k_nwSd (V := v) (l := x 0) (u := x 1) (w := x 2) (x := x 3) T0 F0
  refine l_outH rfl (And.intro h.1 ?_)
  have O0 : y_ev x (0, [(1, 1), (2, (-1))]) = x 1 - x 2 := by show ((0) : Int) + ((1) * x 1 + ((-1) * x 2 + 0)) = _; omega
  have O1 : y_ev x (0, [(1, (-1)), (2, 1)]) = x 2 - x 1 := by show ((0) : Int) + ((-1) * x 1 + ((1) * x 2 + 0)) = _; omega
  show (0 ≤ y_ev x (0, [(1, 1), (2, (-1))]) ∧ 0 ≤ y_ev x (0, [(1, (-1)), (2, 1)]) ∧ True) ∧ (True)
  try rw [O0]; try rw [O1]
  exact K
def lm_1006 : zLem := (([((-2147483648), 2147483647), ((-2147483648), 2147483647), ((-2147483648), 2147483647), ((-2147483648), 2147483647), ((-2147483648), 2147483647), ((-2147483648), 2147483647)], [(12, false)], [], [], [], [(0, (false, 18, 0, []), 0, 0, 0, [(4, 1)])], [(237, [(0, [(0, 1)]), (0, []), (0, []), (0, []), (0, []), (0, []), (0, []), (0, [])]), (224, [(0, [(4, 1)]), (0, [(5, 1)]), (1, []), (0, [(1, 1)])]), (90, [(0, [(4, 1)]), (0, [(2, 1)]), (0, [(5, 1)])]), (91, [(0, [(4, 1)]), (0, [(3, 1)]), (0, [(5, 1)])])]), [([((-2147483648), 2147483647), ((-2147483648), 2147483647), ((-2147483648), 2147483647), ((-2147483648), 2147483647), ((-2147483648), 2147483647), ((-2147483648), 2147483647)], [(12, false)], [], [], [], [], [(237, [(0, [(0, 1)]), (0, [(1, 1)]), (0, [(2, 1)]), (0, [(3, 1)]), (4, []), (0, []), (0, []), (0, [(0, 1)])])])])
theorem lk_1006 : l_core lm_1006 := by
  intro v x h
  have E0 : y_ev x (0, [(0, 1)]) = x 0 := by show ((0) : Int) + ((1) * x 0 + 0) = _; omega
  have E1 : y_ev x (0, []) = 0 := by show ((0) : Int) + 0 = _; omega
  have E2 : y_ev x (0, [(4, 1)]) = x 4 := by show ((0) : Int) + ((1) * x 4 + 0) = _; omega
  have E3 : y_ev x (0, [(5, 1)]) = x 5 := by show ((0) : Int) + ((1) * x 5 + 0) = _; omega
  have E4 : y_ev x (1, []) = 1 := by show ((1) : Int) + 0 = _; omega
  have E5 : y_ev x (0, [(1, 1)]) = x 1 := by show ((0) : Int) + ((1) * x 1 + 0) = _; omega
  have E6 : y_ev x (0, [(2, 1)]) = x 2 := by show ((0) : Int) + ((1) * x 2 + 0) = _; omega
  have E7 : y_ev x (0, [(3, 1)]) = x 3 := by show ((0) : Int) + ((1) * x 3 + 0) = _; omega
  have T0 : q_rwo v (y_ev x (0, [(0, 1)])) (y_ev x (0, [])) (y_ev x (0, [])) (y_ev x (0, [])) (y_ev x (0, [])) (y_ev x (0, [])) (y_ev x (0, [])) (y_ev x (0, [])) := h.2.2.2.1
  try rw [E0] at T0; try rw [E1] at T0
  have T1 : (y_ev x (1, [])) = 1 → q_leq v (y_ev x (0, [(4, 1)])) (y_ev x (0, [(5, 1)])) (y_ev x (0, [(1, 1)])) := h.2.2.2.2.1
  try rw [E2] at T1; try rw [E3] at T1; try rw [E4] at T1; try rw [E5] at T1
  have T2 : 0 ≤ (y_ev x (0, [(4, 1)])) ∧ (y_ev x (0, [(4, 1)])) ≠ (y_ev x (0, [(5, 1)])) ∧ v 63 (y_ev x (0, [(4, 1)])) = (y_ev x (0, [(2, 1)])) := h.2.2.2.2.2.1
  try rw [E2] at T2; try rw [E6] at T2; try rw [E3] at T2
  have T3 : 0 ≤ (y_ev x (0, [(4, 1)])) ∧ (y_ev x (0, [(4, 1)])) ≠ (y_ev x (0, [(5, 1)])) ∧ v 64 (y_ev x (0, [(4, 1)])) = (y_ev x (0, [(3, 1)])) := h.2.2.2.2.2.2.1
  try rw [E2] at T3; try rw [E7] at T3; try rw [E3] at T3
  have K := k_y0m (V := v) (H := x 0) (q := x 1) (b := x 2) (s := x 3) (l := x 4) (x := x 5) T0 T1 T2 T3
  refine l_outH rfl (And.intro h.1 ?_)
  have O0 : y_ev x (0, [(0, 1)]) = x 0 := by show ((0) : Int) + ((1) * x 0 + 0) = _; omega
  have O1 : y_ev x (0, [(1, 1)]) = x 1 := by show ((0) : Int) + ((1) * x 1 + 0) = _; omega
  have O2 : y_ev x (0, [(2, 1)]) = x 2 := by show ((0) : Int) + ((1) * x 2 + 0) = _; omega
  have O3 : y_ev x (0, [(3, 1)]) = x 3 := by show ((0) : Int) + ((1) * x 3 + 0) = _; omega
  have O4 : y_ev x (4, []) = 4 := by show ((4) : Int) + 0 = _; omega
  have O5 : y_ev x (0, []) = 0 := by show ((0) : Int) + 0 = _; omega
  show (True) ∧ (q_rwo v (y_ev x (0, [(0, 1)])) (y_ev x (0, [(1, 1)])) (y_ev x (0, [(2, 1)])) (y_ev x (0, [(3, 1)])) (y_ev x (4, [])) (y_ev x (0, [])) (y_ev x (0, [])) (y_ev x (0, [(0, 1)])) ∧ True)
  try rw [O0]; try rw [O1]; try rw [O2]; try rw [O3]; try rw [O4]; try rw [O5]
  exact K
def lm_1007 : zLem := (([((-2147483648), 2147483647), ((-2147483648), 2147483647), ((-2147483648), 2147483647), ((-2147483648), 2147483647), ((-2147483648), 2147483647), ((-2147483648), 2147483647), ((-2147483648), 2147483647)], [], [(0, [(0, 1), (3, (-1))]), (0, [(0, (-1)), (3, 1)]), (0, [(1, 1), (4, (-1))]), (0, [(1, (-1)), (4, 1)]), (0, [(3, 1), (4, (-1))])], [], [(0, 0, 0, [(0, 1)]), (0, 0, 0, [(1, 1)])], [], [(260, [(1, []), (0, []), (0, []), (0, []), (0, []), (0, []), (0, []), (0, []), (0, []), (0, [(6, 1)]), (0, [(3, 1)])]), (88, [(0, [(2, 1)]), (0, [(4, 1)]), (0, [(5, 1)])])]), [([((-2147483648), 2147483647), ((-2147483648), 2147483647), ((-2147483648), 2147483647), ((-2147483648), 2147483647), ((-2147483648), 2147483647), ((-2147483648), 2147483647), ((-2147483648), 2147483647)], [], [(0, [(0, 1), (1, (-1))])], [], [], [], [])])
theorem lk_1007 : l_core lm_1007 := by
  intro v x h
  have E0 : y_ev x (1, []) = 1 := by show ((1) : Int) + 0 = _; omega
  have E1 : y_ev x (0, []) = 0 := by show ((0) : Int) + 0 = _; omega
  have E2 : y_ev x (0, [(6, 1)]) = x 6 := by show ((0) : Int) + ((1) * x 6 + 0) = _; omega
  have E3 : y_ev x (0, [(3, 1)]) = x 3 := by show ((0) : Int) + ((1) * x 3 + 0) = _; omega
  have E4 : y_ev x (0, [(2, 1)]) = x 2 := by show ((0) : Int) + ((1) * x 2 + 0) = _; omega
  have E5 : y_ev x (0, [(4, 1)]) = x 4 := by show ((0) : Int) + ((1) * x 4 + 0) = _; omega
  have E6 : y_ev x (0, [(5, 1)]) = x 5 := by show ((0) : Int) + ((1) * x 5 + 0) = _; omega
  have E7 : y_ev x (0, [(0, 1), (3, (-1))]) = x 0 - x 3 := by show ((0) : Int) + ((1) * x 0 + ((-1) * x 3 + 0)) = _; omega
  have E8 : y_ev x (0, [(0, (-1)), (3, 1)]) = x 3 - x 0 := by show ((0) : Int) + ((-1) * x 0 + ((1) * x 3 + 0)) = _; omega
  have E9 : y_ev x (0, [(1, 1), (4, (-1))]) = x 1 - x 4 := by show ((0) : Int) + ((1) * x 1 + ((-1) * x 4 + 0)) = _; omega
  have E10 : y_ev x (0, [(1, (-1)), (4, 1)]) = x 4 - x 1 := by show ((0) : Int) + ((-1) * x 1 + ((1) * x 4 + 0)) = _; omega
  have E11 : y_ev x (0, [(3, 1), (4, (-1))]) = x 3 - x 4 := by show ((0) : Int) + ((1) * x 3 + ((-1) * x 4 + 0)) = _; omega
  have T0 : q_qry v (y_ev x (1, [])) (y_ev x (0, [])) (y_ev x (0, [])) (y_ev x (0, [])) (y_ev x (0, [])) (y_ev x (0, [])) (y_ev x (0, [])) (y_ev x (0, [])) (y_ev x (0, [])) (y_ev x (0, [(6, 1)])) (y_ev x (0, [(3, 1)])) := h.2.2.2.1
  try rw [E0] at T0; try rw [E1] at T0; try rw [E2] at T0; try rw [E3] at T0
  have T1 : 0 ≤ (y_ev x (0, [(2, 1)])) ∧ (y_ev x (0, [(2, 1)])) ≠ (y_ev x (0, [(5, 1)])) ∧ v 61 (y_ev x (0, [(2, 1)])) = (y_ev x (0, [(4, 1)])) := h.2.2.2.2.1
  try rw [E4] at T1; try rw [E5] at T1; try rw [E6] at T1
  have C0 : 0 ≤ y_ev x (0, [(0, 1), (3, (-1))]) := h.2.1.1
  rw [E7] at C0
  have C1 : 0 ≤ y_ev x (0, [(0, (-1)), (3, 1)]) := h.2.1.2.1
  rw [E8] at C1
  have C2 : 0 ≤ y_ev x (0, [(1, 1), (4, (-1))]) := h.2.1.2.2.1
  rw [E9] at C2
  have C3 : 0 ≤ y_ev x (0, [(1, (-1)), (4, 1)]) := h.2.1.2.2.2.1
  rw [E10] at C3
  have C4 : 0 ≤ y_ev x (0, [(3, 1), (4, (-1))]) := h.2.1.2.2.2.2.1
  rw [E11] at C4
  have K := k_hokY (V := v) (u := x 0) (v := x 1) (l := x 2) (n := x 3) (w := x 4) (x := x 5) (p := x 6) T0 T1 C0 C1 C2 C3 C4
  refine l_outH rfl (And.intro h.1 ?_)
  have O0 : y_ev x (0, [(0, 1), (1, (-1))]) = x 0 - x 1 := by show ((0) : Int) + ((1) * x 0 + ((-1) * x 1 + 0)) = _; omega
  show (0 ≤ y_ev x (0, [(0, 1), (1, (-1))]) ∧ True) ∧ (True)
  try rw [O0]
  exact K
def lm_1008 : zLem := (([((-2147483648), 2147483647), ((-2147483648), 2147483647), ((-2147483648), 2147483647), ((-2147483648), 2147483647), ((-2147483648), 2147483647), ((-2147483648), 2147483647), ((-2147483648), 2147483647)], [], [(0, [(0, 1), (3, (-1))]), (0, [(0, (-1)), (3, 1)]), (0, [(1, 1), (4, (-1))]), (0, [(1, (-1)), (4, 1)]), ((-1), [(3, (-1)), (4, 1)])], [], [(0, 0, 0, [(0, 1)]), (0, 0, 0, [(1, 1)])], [], [(260, [(1, []), (0, []), (0, []), (0, []), (0, []), (0, []), (0, []), (0, []), (0, []), (0, [(6, 1)]), (0, [(3, 1)])]), (88, [(0, [(2, 1)]), (0, [(4, 1)]), (0, [(5, 1)])])]), [([((-2147483648), 2147483647), ((-2147483648), 2147483647), ((-2147483648), 2147483647), ((-2147483648), 2147483647), ((-2147483648), 2147483647), ((-2147483648), 2147483647), ((-2147483648), 2147483647)], [], [((-1), [(0, (-1)), (1, 1)])], [], [], [], [])])
theorem lk_1008 : l_core lm_1008 := by
  intro v x h
  have E0 : y_ev x (1, []) = 1 := by show ((1) : Int) + 0 = _; omega
  have E1 : y_ev x (0, []) = 0 := by show ((0) : Int) + 0 = _; omega
  have E2 : y_ev x (0, [(6, 1)]) = x 6 := by show ((0) : Int) + ((1) * x 6 + 0) = _; omega
  have E3 : y_ev x (0, [(3, 1)]) = x 3 := by show ((0) : Int) + ((1) * x 3 + 0) = _; omega
  have E4 : y_ev x (0, [(2, 1)]) = x 2 := by show ((0) : Int) + ((1) * x 2 + 0) = _; omega
  have E5 : y_ev x (0, [(4, 1)]) = x 4 := by show ((0) : Int) + ((1) * x 4 + 0) = _; omega
  have E6 : y_ev x (0, [(5, 1)]) = x 5 := by show ((0) : Int) + ((1) * x 5 + 0) = _; omega
  have E7 : y_ev x (0, [(0, 1), (3, (-1))]) = x 0 - x 3 := by show ((0) : Int) + ((1) * x 0 + ((-1) * x 3 + 0)) = _; omega
  have E8 : y_ev x (0, [(0, (-1)), (3, 1)]) = x 3 - x 0 := by show ((0) : Int) + ((-1) * x 0 + ((1) * x 3 + 0)) = _; omega
  have E9 : y_ev x (0, [(1, 1), (4, (-1))]) = x 1 - x 4 := by show ((0) : Int) + ((1) * x 1 + ((-1) * x 4 + 0)) = _; omega
  have E10 : y_ev x (0, [(1, (-1)), (4, 1)]) = x 4 - x 1 := by show ((0) : Int) + ((-1) * x 1 + ((1) * x 4 + 0)) = _; omega
  have E11 : y_ev x ((-1), [(3, (-1)), (4, 1)]) = x 4 - x 3 - 1 := by show ((-1) : Int) + ((-1) * x 3 + ((1) * x 4 + 0)) = _; omega
  have T0 : q_qry v (y_ev x (1, [])) (y_ev x (0, [])) (y_ev x (0, [])) (y_ev x (0, [])) (y_ev x (0, [])) (y_ev x (0, [])) (y_ev x (0, [])) (y_ev x (0, [])) (y_ev x (0, [])) (y_ev x (0, [(6, 1)])) (y_ev x (0, [(3, 1)])) := h.2.2.2.1
  try rw [E0] at T0; try rw [E1] at T0; try rw [E2] at T0; try rw [E3] at T0
  have T1 : 0 ≤ (y_ev x (0, [(2, 1)])) ∧ (y_ev x (0, [(2, 1)])) ≠ (y_ev x (0, [(5, 1)])) ∧ v 61 (y_ev x (0, [(2, 1)])) = (y_ev x (0, [(4, 1)])) := h.2.2.2.2.1
  try rw [E4] at T1; try rw [E5] at T1; try rw [E6] at T1
  have C0 : 0 ≤ y_ev x (0, [(0, 1), (3, (-1))]) := h.2.1.1
  rw [E7] at C0
  have C1 : 0 ≤ y_ev x (0, [(0, (-1)), (3, 1)]) := h.2.1.2.1
  rw [E8] at C1
  have C2 : 0 ≤ y_ev x (0, [(1, 1), (4, (-1))]) := h.2.1.2.2.1
  rw [E9] at C2
  have C3 : 0 ≤ y_ev x (0, [(1, (-1)), (4, 1)]) := h.2.1.2.2.2.1
  rw [E10] at C3
  have C4 : 0 ≤ y_ev x ((-1), [(3, (-1)), (4, 1)]) := h.2.1.2.2.2.2.1
  rw [E11] at C4
  have K := k_hokN (V := v) (u := x 0) (v := x 1) (l := x 2) (n := x 3) (w := x 4) (x := x 5) (p := x 6) T0 T1 C0 C1 C2 C3 C4
  refine l_outH rfl (And.intro h.1 ?_)
  have O0 : y_ev x ((-1), [(0, (-1)), (1, 1)]) = x 1 - x 0 - 1 := by show ((-1) : Int) + ((-1) * x 0 + ((1) * x 1 + 0)) = _; omega
  show (0 ≤ y_ev x ((-1), [(0, (-1)), (1, 1)]) ∧ True) ∧ (True)
  try rw [O0]
  exact K
def lm_1009 : zLem := (([((-2147483648), 2147483647)], [], [(0, [(0, (-1))]), (0, [(0, 1)])], [], [(0, 0, 0, [(0, 1)])], [], []), [([((-2147483648), 2147483647)], [], [], [], [], [], [(270, [(0, [(0, 1)])])])])
theorem lk_1009 : l_core lm_1009 := by
  intro v x h
  have E0 : y_ev x (0, [(0, (-1))]) = -x 0 := by show ((0) : Int) + ((-1) * x 0 + 0) = _; omega
  have E1 : y_ev x (0, [(0, 1)]) = x 0 := by show ((0) : Int) + ((1) * x 0 + 0) = _; omega
  have C0 : 0 ≤ y_ev x (0, [(0, (-1))]) := h.2.1.1
  rw [E0] at C0
  have C1 : 0 ≤ y_ev x (0, [(0, 1)]) := h.2.1.2.1
  rw [E1] at C1
  have K := k_flg0 (V := v) (i := x 0) C0 C1
  refine l_outH rfl (And.intro h.1 ?_)
  have O0 : y_ev x (0, [(0, 1)]) = x 0 := by show ((0) : Int) + ((1) * x 0 + 0) = _; omega
  show (True) ∧ ((∀ t : Int, 0 ≤ t → t < (y_ev x (0, [(0, 1)])) → v 28 t = 0) ∧ True)
  try rw [O0]
  exact K
def lm_1010 : zLem := (([((-2147483648), 2147483647)], [(28, false)], [(0, [(0, 1)])], [], [(0, 0, 0, [(0, 1)])], [(0, (true, 0, 0, [(0, 1)]), 0, 0, 0, [])], [(270, [(0, [(0, 1)])])]), [([((-2147483648), 2147483647)], [(28, false)], [], [], [], [], [(270, [(1, [(0, 1)])])])])
theorem lk_1010 : l_core lm_1010 := by
  intro v x h
  have E0 : y_ev x (0, [(0, 1)]) = x 0 := by show ((0) : Int) + ((1) * x 0 + 0) = _; omega
  have E1 : y_ev x (0, []) = 0 := by show ((0) : Int) + 0 = _; omega
  have T0 : ∀ t : Int, 0 ≤ t → t < (y_ev x (0, [(0, 1)])) → v 28 t = 0 := h.2.2.2.1
  try rw [E0] at T0
  have C0 : 0 ≤ y_ev x (0, [(0, 1)]) := h.2.1.1
  rw [E0] at C0
  have F0 : 0 ≤ y_ev x (0, [(0, 1)]) ∧ y_ev x (0, [(0, 1)]) < j_len 28 ∧ v 28 (y_ev x (0, [(0, 1)])) = y_ev x (0, []) := h.2.2.1.1.1
  try rw [E0] at F0; try rw [E1] at F0
  have K := k_flgS (V := v) (i := x 0) T0 C0 F0
  refine l_outH rfl (And.intro h.1 ?_)
  have O0 : y_ev x (1, [(0, 1)]) = x 0 + 1 := by show ((1) : Int) + ((1) * x 0 + 0) = _; omega
  show (True) ∧ ((∀ t : Int, 0 ≤ t → t < (y_ev x (1, [(0, 1)])) → v 28 t = 0) ∧ True)
  try rw [O0]
  exact K
def lm_1011 : zLem := (([((-2147483648), 2147483647), ((-2147483648), 2147483647), ((-2147483648), 2147483647), ((-2147483648), 2147483647), ((-2147483648), 2147483647), ((-2147483648), 2147483647)], [(27, false), (99, false)], [], [], [], [(0, (true, 0, 0, []), 0, 0, 0, [(0, 1)]), (0, (true, 0, 1, []), 0, 0, 0, [(1, 1)]), (0, (true, 0, 2, []), 0, 0, 0, [(2, 1)]), (0, (true, 0, 3, []), 0, 0, 0, [(3, 1)]), (0, (true, 0, 4, []), 0, 0, 0, [(4, 1)]), (0, (true, 0, 5, []), 0, 0, 0, [(5, 1)]), (1, (true, 0, 0, []), 0, 0, 0, [(0, 1)]), (1, (true, 0, 1, []), 0, 0, 0, [(1, 1)]), (1, (true, 0, 2, []), 0, 0, 0, [(2, 1)]), (1, (true, 0, 3, []), 0, 0, 0, [(3, 1)]), (1, (true, 0, 4, []), 0, 0, 0, [(4, 1)]), (1, (true, 0, 5, []), 0, 0, 0, [(5, 1)])], [(270, [(6, [])])]), [([((-2147483648), 2147483647), ((-2147483648), 2147483647), ((-2147483648), 2147483647), ((-2147483648), 2147483647), ((-2147483648), 2147483647), ((-2147483648), 2147483647)], [(27, false), (99, false)], [], [], [], [], [(271, [])])])
theorem lk_1011 : l_core lm_1011 := by
  intro v x h
  have E0 : y_ev x (6, []) = 6 := by show ((6) : Int) + 0 = _; omega
  have E1 : y_ev x (0, []) = 0 := by show ((0) : Int) + 0 = _; omega
  have E2 : y_ev x (0, [(0, 1)]) = x 0 := by show ((0) : Int) + ((1) * x 0 + 0) = _; omega
  have E3 : y_ev x (1, []) = 1 := by show ((1) : Int) + 0 = _; omega
  have E4 : y_ev x (0, [(1, 1)]) = x 1 := by show ((0) : Int) + ((1) * x 1 + 0) = _; omega
  have E5 : y_ev x (2, []) = 2 := by show ((2) : Int) + 0 = _; omega
  have E6 : y_ev x (0, [(2, 1)]) = x 2 := by show ((0) : Int) + ((1) * x 2 + 0) = _; omega
  have E7 : y_ev x (3, []) = 3 := by show ((3) : Int) + 0 = _; omega
  have E8 : y_ev x (0, [(3, 1)]) = x 3 := by show ((0) : Int) + ((1) * x 3 + 0) = _; omega
  have E9 : y_ev x (4, []) = 4 := by show ((4) : Int) + 0 = _; omega
  have E10 : y_ev x (0, [(4, 1)]) = x 4 := by show ((0) : Int) + ((1) * x 4 + 0) = _; omega
  have E11 : y_ev x (5, []) = 5 := by show ((5) : Int) + 0 = _; omega
  have E12 : y_ev x (0, [(5, 1)]) = x 5 := by show ((0) : Int) + ((1) * x 5 + 0) = _; omega
  have T0 : ∀ t : Int, 0 ≤ t → t < (y_ev x (6, [])) → v 28 t = 0 := h.2.2.2.1
  try rw [E0] at T0
  have F0 : 0 ≤ y_ev x (0, []) ∧ y_ev x (0, []) < j_len 27 ∧ v 27 (y_ev x (0, [])) = y_ev x (0, [(0, 1)]) := h.2.2.1.1.1
  try rw [E1] at F0; try rw [E2] at F0
  have F1 : 0 ≤ y_ev x (1, []) ∧ y_ev x (1, []) < j_len 27 ∧ v 27 (y_ev x (1, [])) = y_ev x (0, [(1, 1)]) := h.2.2.1.2.1.1
  try rw [E3] at F1; try rw [E4] at F1
  have F2 : 0 ≤ y_ev x (2, []) ∧ y_ev x (2, []) < j_len 27 ∧ v 27 (y_ev x (2, [])) = y_ev x (0, [(2, 1)]) := h.2.2.1.2.2.1.1
  try rw [E5] at F2; try rw [E6] at F2
  have F3 : 0 ≤ y_ev x (3, []) ∧ y_ev x (3, []) < j_len 27 ∧ v 27 (y_ev x (3, [])) = y_ev x (0, [(3, 1)]) := h.2.2.1.2.2.2.1.1
  try rw [E7] at F3; try rw [E8] at F3
  have F4 : 0 ≤ y_ev x (4, []) ∧ y_ev x (4, []) < j_len 27 ∧ v 27 (y_ev x (4, [])) = y_ev x (0, [(4, 1)]) := h.2.2.1.2.2.2.2.1.1
  try rw [E9] at F4; try rw [E10] at F4
  have F5 : 0 ≤ y_ev x (5, []) ∧ y_ev x (5, []) < j_len 27 ∧ v 27 (y_ev x (5, [])) = y_ev x (0, [(5, 1)]) := h.2.2.1.2.2.2.2.2.1.1
  try rw [E11] at F5; try rw [E12] at F5
  have F6 : 0 ≤ y_ev x (0, []) ∧ y_ev x (0, []) < j_len 99 ∧ v 99 (y_ev x (0, [])) = y_ev x (0, [(0, 1)]) := h.2.2.1.2.2.2.2.2.2.1.1
  try rw [E1] at F6; try rw [E2] at F6
  have F7 : 0 ≤ y_ev x (1, []) ∧ y_ev x (1, []) < j_len 99 ∧ v 99 (y_ev x (1, [])) = y_ev x (0, [(1, 1)]) := h.2.2.1.2.2.2.2.2.2.2.1.1
  try rw [E3] at F7; try rw [E4] at F7
  have F8 : 0 ≤ y_ev x (2, []) ∧ y_ev x (2, []) < j_len 99 ∧ v 99 (y_ev x (2, [])) = y_ev x (0, [(2, 1)]) := h.2.2.1.2.2.2.2.2.2.2.2.1.1
  try rw [E5] at F8; try rw [E6] at F8
  have F9 : 0 ≤ y_ev x (3, []) ∧ y_ev x (3, []) < j_len 99 ∧ v 99 (y_ev x (3, [])) = y_ev x (0, [(3, 1)]) := h.2.2.1.2.2.2.2.2.2.2.2.2.1.1
  try rw [E7] at F9; try rw [E8] at F9
  have F10 : 0 ≤ y_ev x (4, []) ∧ y_ev x (4, []) < j_len 99 ∧ v 99 (y_ev x (4, [])) = y_ev x (0, [(4, 1)]) := h.2.2.1.2.2.2.2.2.2.2.2.2.2.1.1
  try rw [E9] at F10; try rw [E10] at F10
  have F11 : 0 ≤ y_ev x (5, []) ∧ y_ev x (5, []) < j_len 99 ∧ v 99 (y_ev x (5, [])) = y_ev x (0, [(5, 1)]) := h.2.2.1.2.2.2.2.2.2.2.2.2.2.2.1.1
  try rw [E11] at F11; try rw [E12] at F11
  have K := k_bgs (V := v) (h0 := x 0) (h1 := x 1) (h2 := x 2) (h3 := x 3) (h4 := x 4) (h5 := x 5) T0 F0 F1 F2 F3 F4 F5 F6 F7 F8 F9 F10 F11
  refine l_outH rfl (And.intro h.1 ?_)
  show (True) ∧ ((∀ i : Int, 0 ≤ i → i < 6 → v 27 i = v 99 i ∧ v 28 i = 0) ∧ True)
  exact K
def lm_1012 : zLem := (([((-2147483648), 2147483647)], [(12, false), (78, false)], [(0, [(0, 1)]), (1, [(0, (-1))])], [], [], [(0, (false, 18, 0, []), 0, 0, 0, [(0, 1)]), (1, (true, 0, 0, []), 0, 0, 0, []), (1, (true, 0, 1, []), 0, 0, 0, []), (1, (true, 0, 2, []), 0, 0, 0, []), (1, (true, 0, 3, []), 0, 0, 0, []), (1, (true, 0, 4, []), 0, 0, 0, []), (1, (true, 0, 5, []), 0, 0, 0, []), (1, (true, 0, 6, []), 0, 0, 0, []), (1, (true, 0, 7, []), 0, 0, 0, []), (1, (true, 0, 8, []), 0, 0, 0, []), (1, (true, 0, 9, []), 0, 0, 0, []), (1, (true, 0, 10, []), 0, 0, 0, []), (1, (true, 0, 11, []), 0, 0, 0, []), (1, (true, 0, 12, []), 0, 0, 0, []), (1, (true, 0, 13, []), 0, 0, 0, []), (1, (true, 0, 14, []), 0, 0, 0, []), (1, (true, 0, 15, []), 0, 0, 0, []), (1, (true, 0, 16, []), 0, 0, 0, []), (1, (true, 0, 17, []), 0, 0, 0, []), (1, (true, 0, 18, []), 0, 0, 0, []), (1, (true, 0, 19, []), 0, 0, 0, []), (1, (true, 0, 20, []), 0, 0, 0, []), (1, (true, 0, 21, []), 0, 0, 0, []), (1, (true, 0, 22, []), 0, 0, 0, []), (1, (true, 0, 23, []), 0, 0, 0, []), (1, (true, 0, 24, []), 0, 0, 0, []), (1, (true, 0, 25, []), 0, 0, 0, []), (1, (true, 0, 26, []), 0, 0, 0, []), (1, (true, 0, 27, []), 0, 0, 0, []), (1, (true, 0, 28, []), 0, 0, 0, []), (1, (true, 0, 29, []), 0, 0, 0, []), (1, (true, 0, 30, []), 0, 0, 0, []), (1, (true, 0, 31, []), 0, 0, 0, []), (1, (true, 0, 32, []), 0, 0, 0, [])], []), [([((-2147483648), 2147483647)], [(12, false), (78, false)], [], [], [], [], [(273, [(0, [(0, 1)]), (0, [])])])])
theorem lk_1012 : l_core lm_1012 := by
  intro v x h
  have E0 : y_ev x (0, [(0, 1)]) = x 0 := by show ((0) : Int) + ((1) * x 0 + 0) = _; omega
  have E1 : y_ev x (1, [(0, (-1))]) = 1 - x 0 := by show ((1) : Int) + ((-1) * x 0 + 0) = _; omega
  have E2 : y_ev x (0, []) = 0 := by show ((0) : Int) + 0 = _; omega
  have E3 : y_ev x (1, []) = 1 := by show ((1) : Int) + 0 = _; omega
  have E4 : y_ev x (2, []) = 2 := by show ((2) : Int) + 0 = _; omega
  have E5 : y_ev x (3, []) = 3 := by show ((3) : Int) + 0 = _; omega
  have E6 : y_ev x (4, []) = 4 := by show ((4) : Int) + 0 = _; omega
  have E7 : y_ev x (5, []) = 5 := by show ((5) : Int) + 0 = _; omega
  have E8 : y_ev x (6, []) = 6 := by show ((6) : Int) + 0 = _; omega
  have E9 : y_ev x (7, []) = 7 := by show ((7) : Int) + 0 = _; omega
  have E10 : y_ev x (8, []) = 8 := by show ((8) : Int) + 0 = _; omega
  have E11 : y_ev x (9, []) = 9 := by show ((9) : Int) + 0 = _; omega
  have E12 : y_ev x (10, []) = 10 := by show ((10) : Int) + 0 = _; omega
  have E13 : y_ev x (11, []) = 11 := by show ((11) : Int) + 0 = _; omega
  have E14 : y_ev x (12, []) = 12 := by show ((12) : Int) + 0 = _; omega
  have E15 : y_ev x (13, []) = 13 := by show ((13) : Int) + 0 = _; omega
  have E16 : y_ev x (14, []) = 14 := by show ((14) : Int) + 0 = _; omega
  have E17 : y_ev x (15, []) = 15 := by show ((15) : Int) + 0 = _; omega
  have E18 : y_ev x (16, []) = 16 := by show ((16) : Int) + 0 = _; omega
  have E19 : y_ev x (17, []) = 17 := by show ((17) : Int) + 0 = _; omega
  have E20 : y_ev x (18, []) = 18 := by show ((18) : Int) + 0 = _; omega
  have E21 : y_ev x (19, []) = 19 := by show ((19) : Int) + 0 = _; omega
  have E22 : y_ev x (20, []) = 20 := by show ((20) : Int) + 0 = _; omega
  have E23 : y_ev x (21, []) = 21 := by show ((21) : Int) + 0 = _; omega
  have E24 : y_ev x (22, []) = 22 := by show ((22) : Int) + 0 = _; omega
  have E25 : y_ev x (23, []) = 23 := by show ((23) : Int) + 0 = _; omega
  have E26 : y_ev x (24, []) = 24 := by show ((24) : Int) + 0 = _; omega
  have E27 : y_ev x (25, []) = 25 := by show ((25) : Int) + 0 = _; omega
  have E28 : y_ev x (26, []) = 26 := by show ((26) : Int) + 0 = _; omega
  have E29 : y_ev x (27, []) = 27 := by show ((27) : Int) + 0 = _; omega
  have E30 : y_ev x (28, []) = 28 := by show ((28) : Int) + 0 = _; omega
  have E31 : y_ev x (29, []) = 29 := by show ((29) : Int) + 0 = _; omega
  have E32 : y_ev x (30, []) = 30 := by show ((30) : Int) + 0 = _; omega
  have E33 : y_ev x (31, []) = 31 := by show ((31) : Int) + 0 = _; omega
  have E34 : y_ev x (32, []) = 32 := by show ((32) : Int) + 0 = _; omega
  have C0 : 0 ≤ y_ev x (0, [(0, 1)]) := h.2.1.1
  rw [E0] at C0
  have C1 : 0 ≤ y_ev x (1, [(0, (-1))]) := h.2.1.2.1
  rw [E1] at C1
  have F0 : 0 ≤ y_ev x (0, []) ∧ y_ev x (0, []) < j_len 78 ∧ v 78 (y_ev x (0, [])) = y_ev x (0, []) := h.2.2.1.2.1.1
  try rw [E2] at F0
  have F1 : 0 ≤ y_ev x (1, []) ∧ y_ev x (1, []) < j_len 78 ∧ v 78 (y_ev x (1, [])) = y_ev x (0, []) := h.2.2.1.2.2.1.1
  try rw [E3] at F1; try rw [E2] at F1
  have F2 : 0 ≤ y_ev x (2, []) ∧ y_ev x (2, []) < j_len 78 ∧ v 78 (y_ev x (2, [])) = y_ev x (0, []) := h.2.2.1.2.2.2.1.1
  try rw [E4] at F2; try rw [E2] at F2
  have F3 : 0 ≤ y_ev x (3, []) ∧ y_ev x (3, []) < j_len 78 ∧ v 78 (y_ev x (3, [])) = y_ev x (0, []) := h.2.2.1.2.2.2.2.1.1
  try rw [E5] at F3; try rw [E2] at F3
  have F4 : 0 ≤ y_ev x (4, []) ∧ y_ev x (4, []) < j_len 78 ∧ v 78 (y_ev x (4, [])) = y_ev x (0, []) := h.2.2.1.2.2.2.2.2.1.1
  try rw [E6] at F4; try rw [E2] at F4
  have F5 : 0 ≤ y_ev x (5, []) ∧ y_ev x (5, []) < j_len 78 ∧ v 78 (y_ev x (5, [])) = y_ev x (0, []) := h.2.2.1.2.2.2.2.2.2.1.1
  try rw [E7] at F5; try rw [E2] at F5
  have F6 : 0 ≤ y_ev x (6, []) ∧ y_ev x (6, []) < j_len 78 ∧ v 78 (y_ev x (6, [])) = y_ev x (0, []) := h.2.2.1.2.2.2.2.2.2.2.1.1
  try rw [E8] at F6; try rw [E2] at F6
  have F7 : 0 ≤ y_ev x (7, []) ∧ y_ev x (7, []) < j_len 78 ∧ v 78 (y_ev x (7, [])) = y_ev x (0, []) := h.2.2.1.2.2.2.2.2.2.2.2.1.1
  try rw [E9] at F7; try rw [E2] at F7
  have F8 : 0 ≤ y_ev x (8, []) ∧ y_ev x (8, []) < j_len 78 ∧ v 78 (y_ev x (8, [])) = y_ev x (0, []) := h.2.2.1.2.2.2.2.2.2.2.2.2.1.1
  try rw [E10] at F8; try rw [E2] at F8
  have F9 : 0 ≤ y_ev x (9, []) ∧ y_ev x (9, []) < j_len 78 ∧ v 78 (y_ev x (9, [])) = y_ev x (0, []) := h.2.2.1.2.2.2.2.2.2.2.2.2.2.1.1
  try rw [E11] at F9; try rw [E2] at F9
  have F10 : 0 ≤ y_ev x (10, []) ∧ y_ev x (10, []) < j_len 78 ∧ v 78 (y_ev x (10, [])) = y_ev x (0, []) := h.2.2.1.2.2.2.2.2.2.2.2.2.2.2.1.1
  try rw [E12] at F10; try rw [E2] at F10
  have F11 : 0 ≤ y_ev x (11, []) ∧ y_ev x (11, []) < j_len 78 ∧ v 78 (y_ev x (11, [])) = y_ev x (0, []) := h.2.2.1.2.2.2.2.2.2.2.2.2.2.2.2.1.1
  try rw [E13] at F11; try rw [E2] at F11
  have F12 : 0 ≤ y_ev x (12, []) ∧ y_ev x (12, []) < j_len 78 ∧ v 78 (y_ev x (12, [])) = y_ev x (0, []) := h.2.2.1.2.2.2.2.2.2.2.2.2.2.2.2.2.1.1
  try rw [E14] at F12; try rw [E2] at F12
  have F13 : 0 ≤ y_ev x (13, []) ∧ y_ev x (13, []) < j_len 78 ∧ v 78 (y_ev x (13, [])) = y_ev x (0, []) := h.2.2.1.2.2.2.2.2.2.2.2.2.2.2.2.2.2.1.1
  try rw [E15] at F13; try rw [E2] at F13
  have F14 : 0 ≤ y_ev x (14, []) ∧ y_ev x (14, []) < j_len 78 ∧ v 78 (y_ev x (14, [])) = y_ev x (0, []) := h.2.2.1.2.2.2.2.2.2.2.2.2.2.2.2.2.2.2.1.1
  try rw [E16] at F14; try rw [E2] at F14
  have F15 : 0 ≤ y_ev x (15, []) ∧ y_ev x (15, []) < j_len 78 ∧ v 78 (y_ev x (15, [])) = y_ev x (0, []) := h.2.2.1.2.2.2.2.2.2.2.2.2.2.2.2.2.2.2.2.1.1
  try rw [E17] at F15; try rw [E2] at F15
  have F16 : 0 ≤ y_ev x (16, []) ∧ y_ev x (16, []) < j_len 78 ∧ v 78 (y_ev x (16, [])) = y_ev x (0, []) := h.2.2.1.2.2.2.2.2.2.2.2.2.2.2.2.2.2.2.2.2.1.1
  try rw [E18] at F16; try rw [E2] at F16
  have F17 : 0 ≤ y_ev x (17, []) ∧ y_ev x (17, []) < j_len 78 ∧ v 78 (y_ev x (17, [])) = y_ev x (0, []) := h.2.2.1.2.2.2.2.2.2.2.2.2.2.2.2.2.2.2.2.2.2.1.1
  try rw [E19] at F17; try rw [E2] at F17
  have F18 : 0 ≤ y_ev x (18, []) ∧ y_ev x (18, []) < j_len 78 ∧ v 78 (y_ev x (18, [])) = y_ev x (0, []) := h.2.2.1.2.2.2.2.2.2.2.2.2.2.2.2.2.2.2.2.2.2.2.1.1
  try rw [E20] at F18; try rw [E2] at F18
  have F19 : 0 ≤ y_ev x (19, []) ∧ y_ev x (19, []) < j_len 78 ∧ v 78 (y_ev x (19, [])) = y_ev x (0, []) := h.2.2.1.2.2.2.2.2.2.2.2.2.2.2.2.2.2.2.2.2.2.2.2.1.1
  try rw [E21] at F19; try rw [E2] at F19
  have F20 : 0 ≤ y_ev x (20, []) ∧ y_ev x (20, []) < j_len 78 ∧ v 78 (y_ev x (20, [])) = y_ev x (0, []) := h.2.2.1.2.2.2.2.2.2.2.2.2.2.2.2.2.2.2.2.2.2.2.2.2.1.1
  try rw [E22] at F20; try rw [E2] at F20
  have F21 : 0 ≤ y_ev x (21, []) ∧ y_ev x (21, []) < j_len 78 ∧ v 78 (y_ev x (21, [])) = y_ev x (0, []) := h.2.2.1.2.2.2.2.2.2.2.2.2.2.2.2.2.2.2.2.2.2.2.2.2.2.1.1
  try rw [E23] at F21; try rw [E2] at F21
  have F22 : 0 ≤ y_ev x (22, []) ∧ y_ev x (22, []) < j_len 78 ∧ v 78 (y_ev x (22, [])) = y_ev x (0, []) := h.2.2.1.2.2.2.2.2.2.2.2.2.2.2.2.2.2.2.2.2.2.2.2.2.2.2.1.1
  try rw [E24] at F22; try rw [E2] at F22
  have F23 : 0 ≤ y_ev x (23, []) ∧ y_ev x (23, []) < j_len 78 ∧ v 78 (y_ev x (23, [])) = y_ev x (0, []) := h.2.2.1.2.2.2.2.2.2.2.2.2.2.2.2.2.2.2.2.2.2.2.2.2.2.2.2.1.1
  try rw [E25] at F23; try rw [E2] at F23
  have F24 : 0 ≤ y_ev x (24, []) ∧ y_ev x (24, []) < j_len 78 ∧ v 78 (y_ev x (24, [])) = y_ev x (0, []) := h.2.2.1.2.2.2.2.2.2.2.2.2.2.2.2.2.2.2.2.2.2.2.2.2.2.2.2.2.1.1
  try rw [E26] at F24; try rw [E2] at F24
  have F25 : 0 ≤ y_ev x (25, []) ∧ y_ev x (25, []) < j_len 78 ∧ v 78 (y_ev x (25, [])) = y_ev x (0, []) := h.2.2.1.2.2.2.2.2.2.2.2.2.2.2.2.2.2.2.2.2.2.2.2.2.2.2.2.2.2.1.1
  try rw [E27] at F25; try rw [E2] at F25
  have F26 : 0 ≤ y_ev x (26, []) ∧ y_ev x (26, []) < j_len 78 ∧ v 78 (y_ev x (26, [])) = y_ev x (0, []) := h.2.2.1.2.2.2.2.2.2.2.2.2.2.2.2.2.2.2.2.2.2.2.2.2.2.2.2.2.2.2.1.1
  try rw [E28] at F26; try rw [E2] at F26
  have F27 : 0 ≤ y_ev x (27, []) ∧ y_ev x (27, []) < j_len 78 ∧ v 78 (y_ev x (27, [])) = y_ev x (0, []) := h.2.2.1.2.2.2.2.2.2.2.2.2.2.2.2.2.2.2.2.2.2.2.2.2.2.2.2.2.2.2.2.1.1
  try rw [E29] at F27; try rw [E2] at F27
  have F28 : 0 ≤ y_ev x (28, []) ∧ y_ev x (28, []) < j_len 78 ∧ v 78 (y_ev x (28, [])) = y_ev x (0, []) := h.2.2.1.2.2.2.2.2.2.2.2.2.2.2.2.2.2.2.2.2.2.2.2.2.2.2.2.2.2.2.2.2.1.1
  try rw [E30] at F28; try rw [E2] at F28
  have F29 : 0 ≤ y_ev x (29, []) ∧ y_ev x (29, []) < j_len 78 ∧ v 78 (y_ev x (29, [])) = y_ev x (0, []) := h.2.2.1.2.2.2.2.2.2.2.2.2.2.2.2.2.2.2.2.2.2.2.2.2.2.2.2.2.2.2.2.2.2.1.1
  try rw [E31] at F29; try rw [E2] at F29
  have F30 : 0 ≤ y_ev x (30, []) ∧ y_ev x (30, []) < j_len 78 ∧ v 78 (y_ev x (30, [])) = y_ev x (0, []) := h.2.2.1.2.2.2.2.2.2.2.2.2.2.2.2.2.2.2.2.2.2.2.2.2.2.2.2.2.2.2.2.2.2.2.1.1
  try rw [E32] at F30; try rw [E2] at F30
  have F31 : 0 ≤ y_ev x (31, []) ∧ y_ev x (31, []) < j_len 78 ∧ v 78 (y_ev x (31, [])) = y_ev x (0, []) := h.2.2.1.2.2.2.2.2.2.2.2.2.2.2.2.2.2.2.2.2.2.2.2.2.2.2.2.2.2.2.2.2.2.2.2.1.1
  try rw [E33] at F31; try rw [E2] at F31
  have F32 : 0 ≤ y_ev x (32, []) ∧ y_ev x (32, []) < j_len 78 ∧ v 78 (y_ev x (32, [])) = y_ev x (0, []) := h.2.2.1.2.2.2.2.2.2.2.2.2.2.2.2.2.2.2.2.2.2.2.2.2.2.2.2.2.2.2.2.2.2.2.2.2.1.1
  try rw [E34] at F32; try rw [E2] at F32
  have K := k_bgm0 (V := v) (l := x 0) C0 C1 F0 F1 F2 F3 F4 F5 F6 F7 F8 F9 F10 F11 F12 F13 F14 F15 F16 F17 F18 F19 F20 F21 F22 F23 F24 F25 F26 F27 F28 F29 F30 F31 F32
  refine l_outH rfl (And.intro h.1 ?_)
  have O0 : y_ev x (0, [(0, 1)]) = x 0 := by show ((0) : Int) + ((1) * x 0 + 0) = _; omega
  have O1 : y_ev x (0, []) = 0 := by show ((0) : Int) + 0 = _; omega
  show (True) ∧ (q_bgm v false (y_ev x (0, [(0, 1)])) (y_ev x (0, [])) ∧ True)
  try rw [O0]; try rw [O1]
  exact K
def lm_1013 : zLem := (([((-2147483648), 2147483647), ((-2147483648), 2147483647)], [], [], [], [(0, 0, 0, [(0, 1)])], [], [(273, [(0, [(1, 1)]), (0, [(0, 1)])])]), [([((-2147483648), 2147483647), ((-2147483648), 2147483647)], [], [], [], [], [], [(274, [(0, [(1, 1)]), (0, [(0, 1)])])])])
theorem lk_1013 : l_core lm_1013 := by
  intro v x h
  have E0 : y_ev x (0, [(1, 1)]) = x 1 := by show ((0) : Int) + ((1) * x 1 + 0) = _; omega
  have E1 : y_ev x (0, [(0, 1)]) = x 0 := by show ((0) : Int) + ((1) * x 0 + 0) = _; omega
  have T0 : q_bgm v false (y_ev x (0, [(1, 1)])) (y_ev x (0, [(0, 1)])) := h.2.2.2.1
  try rw [E0] at T0; try rw [E1] at T0
  have K := k_bgx (V := v) (h := x 0) (l := x 1) T0
  refine l_outH rfl (And.intro h.1 ?_)
  have O0 : y_ev x (0, [(1, 1)]) = x 1 := by show ((0) : Int) + ((1) * x 1 + 0) = _; omega
  have O1 : y_ev x (0, [(0, 1)]) = x 0 := by show ((0) : Int) + ((1) * x 0 + 0) = _; omega
  show (True) ∧ (q_bgm v true (y_ev x (0, [(1, 1)])) (y_ev x (0, [(0, 1)])) ∧ True)
  try rw [O0]; try rw [O1]
  exact K
def lm_1014 : zLem := (([((-2147483648), 2147483647), ((-2147483648), 2147483647), ((-2147483648), 2147483647)], [(78, false), (57, false)], [(0, [(0, 1)]), (5, [(0, (-1))])], [], [(0, 0, 0, [(0, 1)])], [(0, (true, 0, 0, [(0, 1)]), 0, 0, 0, [(2, 1)]), (1, (true, 0, 0, [(0, 1), (1, 6)]), 0, 0, 0, [(2, 1)])], [(274, [(0, [(1, 1)]), (0, [(0, 1)])])]), [([((-2147483648), 2147483647), ((-2147483648), 2147483647), ((-2147483648), 2147483647)], [(78, false), (57, false)], [], [], [], [], [(273, [(0, [(1, 1)]), (1, [(0, 1)])])])])
theorem lk_1014 : l_core lm_1014 := by
  intro v x h
  have E0 : y_ev x (0, [(1, 1)]) = x 1 := by show ((0) : Int) + ((1) * x 1 + 0) = _; omega
  have E1 : y_ev x (0, [(0, 1)]) = x 0 := by show ((0) : Int) + ((1) * x 0 + 0) = _; omega
  have E2 : y_ev x (5, [(0, (-1))]) = 5 - x 0 := by show ((5) : Int) + ((-1) * x 0 + 0) = _; omega
  have E3 : y_ev x (0, [(2, 1)]) = x 2 := by show ((0) : Int) + ((1) * x 2 + 0) = _; omega
  have E4 : y_ev x (0, [(0, 1), (1, 6)]) = x 0 + 6 * x 1 := by show ((0) : Int) + ((1) * x 0 + ((6) * x 1 + 0)) = _; omega
  have T0 : q_bgm v true (y_ev x (0, [(1, 1)])) (y_ev x (0, [(0, 1)])) := h.2.2.2.1
  try rw [E0] at T0; try rw [E1] at T0
  have C0 : 0 ≤ y_ev x (0, [(0, 1)]) := h.2.1.1
  rw [E1] at C0
  have C1 : 0 ≤ y_ev x (5, [(0, (-1))]) := h.2.1.2.1
  rw [E2] at C1
  have F0 : 0 ≤ y_ev x (0, [(0, 1)]) ∧ y_ev x (0, [(0, 1)]) < j_len 78 ∧ v 78 (y_ev x (0, [(0, 1)])) = y_ev x (0, [(2, 1)]) := h.2.2.1.1.1
  try rw [E1] at F0; try rw [E3] at F0
  have F1 : 0 ≤ y_ev x (0, [(0, 1), (1, 6)]) ∧ y_ev x (0, [(0, 1), (1, 6)]) < j_len 57 ∧ v 57 (y_ev x (0, [(0, 1), (1, 6)])) = y_ev x (0, [(2, 1)]) := h.2.2.1.2.1.1
  try rw [E4] at F1; try rw [E3] at F1
  have K := k_bgmS (V := v) (h := x 0) (l := x 1) (u := x 2) T0 C0 C1 F0 F1
  refine l_outH rfl (And.intro h.1 ?_)
  have O0 : y_ev x (0, [(1, 1)]) = x 1 := by show ((0) : Int) + ((1) * x 1 + 0) = _; omega
  have O1 : y_ev x (1, [(0, 1)]) = x 0 + 1 := by show ((1) : Int) + ((1) * x 0 + 0) = _; omega
  show (True) ∧ (q_bgm v false (y_ev x (0, [(1, 1)])) (y_ev x (1, [(0, 1)])) ∧ True)
  try rw [O0]; try rw [O1]
  exact K
def lm_1015 : zLem := (([((-2147483648), 2147483647), ((-2147483648), 2147483647)], [], [], [], [], [], [(273, [(0, [(0, 1)]), (0, [(1, 1)])]), (239, [])]), [([((-2147483648), 2147483647), ((-2147483648), 2147483647)], [], [], [], [], [], [(275, [(0, [(0, 1)]), (0, [(1, 1)])])])])
theorem lk_1015 : l_core lm_1015 := by
  intro v x h
  have E0 : y_ev x (0, [(0, 1)]) = x 0 := by show ((0) : Int) + ((1) * x 0 + 0) = _; omega
  have E1 : y_ev x (0, [(1, 1)]) = x 1 := by show ((0) : Int) + ((1) * x 1 + 0) = _; omega
  have T0 : q_bgm v false (y_ev x (0, [(0, 1)])) (y_ev x (0, [(1, 1)])) := h.2.2.2.1
  try rw [E0] at T0; try rw [E1] at T0
  have T1 : q_ner v := h.2.2.2.2.1
  have K := k_nbg (V := v) (l := x 0) (h := x 1) T0 T1
  refine l_outH rfl (And.intro h.1 ?_)
  have O0 : y_ev x (0, [(0, 1)]) = x 0 := by show ((0) : Int) + ((1) * x 0 + 0) = _; omega
  have O1 : y_ev x (0, [(1, 1)]) = x 1 := by show ((0) : Int) + ((1) * x 1 + 0) = _; omega
  show (True) ∧ (q_nbg v (y_ev x (0, [(0, 1)])) (y_ev x (0, [(1, 1)])) ∧ True)
  try rw [O0]; try rw [O1]
  exact K
def lm_1016 : zLem := (([((-2147483648), 2147483647), ((-2147483648), 2147483647), ((-2147483648), 2147483647), ((-2147483648), 2147483647), ((-2147483648), 2147483647)], [], [(0, [(1, 1)]), (1, [(1, (-1))])], [], [], [], [(272, []), (275, [(0, [(1, 1)]), (0, [(0, 1)])]), (200, [(0, [(1, 1)]), (0, [(4, 1)]), (1, []), (0, [(0, 1)])]), (94, [(0, [(2, 1)]), (0, [(0, 1)])]), (96, [(0, [(2, 1)]), (0, [(0, 1)]), (0, [(1, 1)])]), (47, [(0, [(2, 1)]), (0, []), (0, [(3, 1)])])]), [([((-2147483648), 2147483647), ((-2147483648), 2147483647), ((-2147483648), 2147483647), ((-2147483648), 2147483647), ((-2147483648), 2147483647)], [], [], [], [], [], [(235, [(0, [(0, 1)]), (0, []), (0, []), (0, []), (0, []), (0, []), (0, []), (0, []), (0, []), (0, []), (0, [])])])])
theorem lk_1016 : l_core lm_1016 := by
  intro v x h
  have E0 : y_ev x (0, [(1, 1)]) = x 1 := by show ((0) : Int) + ((1) * x 1 + 0) = _; omega
  have E1 : y_ev x (0, [(0, 1)]) = x 0 := by show ((0) : Int) + ((1) * x 0 + 0) = _; omega
  have E2 : y_ev x (0, [(4, 1)]) = x 4 := by show ((0) : Int) + ((1) * x 4 + 0) = _; omega
  have E3 : y_ev x (1, []) = 1 := by show ((1) : Int) + 0 = _; omega
  have E4 : y_ev x (0, [(2, 1)]) = x 2 := by show ((0) : Int) + ((1) * x 2 + 0) = _; omega
  have E5 : y_ev x (0, []) = 0 := by show ((0) : Int) + 0 = _; omega
  have E6 : y_ev x (0, [(3, 1)]) = x 3 := by show ((0) : Int) + ((1) * x 3 + 0) = _; omega
  have E7 : y_ev x (1, [(1, (-1))]) = 1 - x 1 := by show ((1) : Int) + ((-1) * x 1 + 0) = _; omega
  have T0 : ∀ i : Int, 0 ≤ i → i < 6 → v 27 i = v 19 i ∧ v 28 i = 0 := h.2.2.2.1
  have T1 : q_nbg v (y_ev x (0, [(1, 1)])) (y_ev x (0, [(0, 1)])) := h.2.2.2.2.1
  try rw [E0] at T1; try rw [E1] at T1
  have T2 : (y_ev x (1, [])) = 1 → 0 ≤ (y_ev x (0, [(1, 1)])) ∧ 0 ≤ (y_ev x (0, [(4, 1)])) ∧ (y_ev x (0, [(1, 1)])) + (y_ev x (0, [(4, 1)])) = 1 ∧ (y_ev x (0, [(0, 1)])) ≤ 6 ∧ ∀ i_ : Int, 0 ≤ i_ → i_ < (y_ev x (0, [(0, 1)])) → v 19 i_ = v 57 (6 * (y_ev x (0, [(1, 1)])) + i_) ∧ v 20 i_ = v 58 (6 * (y_ev x (0, [(1, 1)])) + i_) := h.2.2.2.2.2.1
  try rw [E0] at T2; try rw [E2] at T2; try rw [E3] at T2; try rw [E1] at T2
  have T3 : q_fhs (t_b v) (y_ev x (0, [(2, 1)])) (y_ev x (0, [(0, 1)])) (v 19) (v 20) := h.2.2.2.2.2.2.1
  try rw [E4] at T3; try rw [E1] at T3
  have T4 : 0 ≤ (y_ev x (0, [(1, 1)])) ∧ q_fhs (t_b v) (y_ev x (0, [(2, 1)])) (y_ev x (0, [(0, 1)])) (fun i_ => v 57 (6 * (y_ev x (0, [(1, 1)])) + i_)) (fun i_ => v 58 (6 * (y_ev x (0, [(1, 1)])) + i_)) := h.2.2.2.2.2.2.2.1
  try rw [E4] at T4; try rw [E1] at T4; try rw [E0] at T4
  have T5 : q_fin (t_b v) (y_ev x (0, [(2, 1)])) (y_ev x (0, [])) (y_ev x (0, [(3, 1)])) := h.2.2.2.2.2.2.2.2.1
  try rw [E4] at T5; try rw [E5] at T5; try rw [E6] at T5
  have C0 : 0 ≤ y_ev x (0, [(1, 1)]) := h.2.1.1
  rw [E0] at C0
  have C1 : 0 ≤ y_ev x (1, [(1, (-1))]) := h.2.1.2.1
  rw [E7] at C1
  have K := k_stb (V := v) (H := x 0) (l := x 1) (n := x 2) (q := x 3) (x := x 4) T0 T1 T2 T3 T4 T5 C0 C1
  refine l_outH rfl (And.intro h.1 ?_)
  have O0 : y_ev x (0, [(0, 1)]) = x 0 := by show ((0) : Int) + ((1) * x 0 + 0) = _; omega
  have O1 : y_ev x (0, []) = 0 := by show ((0) : Int) + 0 = _; omega
  show (True) ∧ (q_sto v 0 (y_ev x (0, [(0, 1)])) (y_ev x (0, [])) (y_ev x (0, [])) (y_ev x (0, [])) (y_ev x (0, [])) (y_ev x (0, [])) (y_ev x (0, [])) (y_ev x (0, [])) (y_ev x (0, [])) (y_ev x (0, [])) (y_ev x (0, [])) ∧ True)
  try rw [O0]; try rw [O1]
  exact K
def lm_1017 : zLem := (([((-2147483648), 2147483647), ((-2147483648), 2147483647), ((-2147483648), 2147483647), ((-2147483648), 2147483647), ((-2147483648), 2147483647)], [(6, false), (7, false)], [(0, [(1, 1)]), (39, [(1, (-1))])], [], [], [(0, (false, 5, 0, []), 0, 0, 0, [(0, 1)]), (1, (false, 2, 0, []), 0, 0, 0, [(1, 1)]), (1, (false, 3, 0, []), 0, 0, 0, [])], [(235, [(0, [(0, 1)]), (0, [(2, 1)]), (0, [(3, 1)]), (0, [(4, 1)]), (0, []), (0, []), (0, []), (0, []), (0, []), (0, []), (0, [])])]), [([((-2147483648), 2147483647), ((-2147483648), 2147483647), ((-2147483648), 2147483647), ((-2147483648), 2147483647), ((-2147483648), 2147483647)], [(6, false), (7, false)], [], [], [], [], [(242, [(0, [(0, 1)]), (0, [(1, 1)]), (0, []), (0, [])])])])
theorem lk_1017 : l_core lm_1017 := by
  intro v x h
  have E0 : y_ev x (0, [(0, 1)]) = x 0 := by show ((0) : Int) + ((1) * x 0 + 0) = _; omega
  have E1 : y_ev x (0, [(2, 1)]) = x 2 := by show ((0) : Int) + ((1) * x 2 + 0) = _; omega
  have E2 : y_ev x (0, [(3, 1)]) = x 3 := by show ((0) : Int) + ((1) * x 3 + 0) = _; omega
  have E3 : y_ev x (0, [(4, 1)]) = x 4 := by show ((0) : Int) + ((1) * x 4 + 0) = _; omega
  have E4 : y_ev x (0, []) = 0 := by show ((0) : Int) + 0 = _; omega
  have E5 : y_ev x (0, [(1, 1)]) = x 1 := by show ((0) : Int) + ((1) * x 1 + 0) = _; omega
  have E6 : y_ev x (39, [(1, (-1))]) = 39 - x 1 := by show ((39) : Int) + ((-1) * x 1 + 0) = _; omega
  have T0 : q_sto v 0 (y_ev x (0, [(0, 1)])) (y_ev x (0, [(2, 1)])) (y_ev x (0, [(3, 1)])) (y_ev x (0, [(4, 1)])) (y_ev x (0, [])) (y_ev x (0, [])) (y_ev x (0, [])) (y_ev x (0, [])) (y_ev x (0, [])) (y_ev x (0, [])) (y_ev x (0, [])) := h.2.2.2.1
  try rw [E0] at T0; try rw [E1] at T0; try rw [E2] at T0; try rw [E3] at T0; try rw [E4] at T0
  have C0 : 0 ≤ y_ev x (0, [(1, 1)]) := h.2.1.1
  rw [E5] at C0
  have C1 : 0 ≤ y_ev x (39, [(1, (-1))]) := h.2.1.2.1
  rw [E6] at C1
  have K := k_his0 (V := v) (H := x 0) (o := x 1) (p := x 2) (y := x 3) (d := x 4) T0 C0 C1
  refine l_outH rfl (And.intro h.1 ?_)
  have O0 : y_ev x (0, [(0, 1)]) = x 0 := by show ((0) : Int) + ((1) * x 0 + 0) = _; omega
  have O1 : y_ev x (0, [(1, 1)]) = x 1 := by show ((0) : Int) + ((1) * x 1 + 0) = _; omega
  have O2 : y_ev x (0, []) = 0 := by show ((0) : Int) + 0 = _; omega
  show (True) ∧ (q_hx v (-1) (y_ev x (0, [(0, 1)])) (y_ev x (0, [(1, 1)])) (y_ev x (0, [])) (y_ev x (0, [])) ∧ True)
  try rw [O0]; try rw [O1]; try rw [O2]
  exact K
def lm_1018 : zLem := (([((-2147483648), 2147483647), ((-2147483648), 2147483647), ((-2147483648), 2147483647), ((-2147483648), 2147483647)], [(6, false)], [], [], [], [(0, (false, 5, 0, []), 0, 0, 0, [(0, 1)])], [(235, [(0, [(0, 1)]), (0, [(1, 1)]), (0, [(2, 1)]), (0, [(3, 1)]), (0, []), (0, []), (0, []), (0, []), (0, []), (0, []), (0, [])])]), [([((-2147483648), 2147483647), ((-2147483648), 2147483647), ((-2147483648), 2147483647), ((-2147483648), 2147483647)], [(6, false)], [], [], [], [], [(246, [(0, [(0, 1)]), (0, []), (0, []), (0, [])])])])
theorem lk_1018 : l_core lm_1018 := by
  intro v x h
  have E0 : y_ev x (0, [(0, 1)]) = x 0 := by show ((0) : Int) + ((1) * x 0 + 0) = _; omega
  have E1 : y_ev x (0, [(1, 1)]) = x 1 := by show ((0) : Int) + ((1) * x 1 + 0) = _; omega
  have E2 : y_ev x (0, [(2, 1)]) = x 2 := by show ((0) : Int) + ((1) * x 2 + 0) = _; omega
  have E3 : y_ev x (0, [(3, 1)]) = x 3 := by show ((0) : Int) + ((1) * x 3 + 0) = _; omega
  have E4 : y_ev x (0, []) = 0 := by show ((0) : Int) + 0 = _; omega
  have T0 : q_sto v 0 (y_ev x (0, [(0, 1)])) (y_ev x (0, [(1, 1)])) (y_ev x (0, [(2, 1)])) (y_ev x (0, [(3, 1)])) (y_ev x (0, [])) (y_ev x (0, [])) (y_ev x (0, [])) (y_ev x (0, [])) (y_ev x (0, [])) (y_ev x (0, [])) (y_ev x (0, [])) := h.2.2.2.1
  try rw [E0] at T0; try rw [E1] at T0; try rw [E2] at T0; try rw [E3] at T0; try rw [E4] at T0
  have K := k_slt0 (V := v) (H := x 0) (p := x 1) (y := x 2) (d := x 3) T0
  refine l_outH rfl (And.intro h.1 ?_)
  have O0 : y_ev x (0, [(0, 1)]) = x 0 := by show ((0) : Int) + ((1) * x 0 + 0) = _; omega
  have O1 : y_ev x (0, []) = 0 := by show ((0) : Int) + 0 = _; omega
  show (True) ∧ (q_sl v (-1) (y_ev x (0, [(0, 1)])) (y_ev x (0, [])) (y_ev x (0, [])) (y_ev x (0, [])) ∧ True)
  try rw [O0]; try rw [O1]
  exact K
def lm_1019 : zLem := (([((-2147483648), 2147483647), ((-2147483648), 2147483647), ((-2147483648), 2147483647), ((-2147483648), 2147483647), ((-2147483648), 2147483647), ((-2147483648), 2147483647)], [(77, false)], [(0, [(0, 1)]), (5, [(0, (-1))])], [], [(0, 0, 0, [(0, 1)])], [(0, (true, 0, 25, [(0, 1)]), 0, 0, 0, [(1, 1)])], [(235, [(0, [(2, 1)]), (0, [(3, 1)]), (0, [(4, 1)]), (0, [(5, 1)]), (0, []), (0, []), (0, []), (0, []), (0, []), (0, []), (0, [])])]), [([((-2147483648), 2147483647), ((-2147483648), 2147483647), ((-2147483648), 2147483647), ((-2147483648), 2147483647), ((-2147483648), 2147483647), ((-2147483648), 2147483647)], [(77, false)], [], [], [], [], [(238, [(8, []), (0, []), (0, []), (0, []), (0, []), (0, []), (0, []), (0, []), (25, [(0, 1)]), (0, []), (0, [(1, 1)])])])])
theorem lk_1019 : l_core lm_1019 := by
  intro v x h
  have E0 : y_ev x (0, [(2, 1)]) = x 2 := by show ((0) : Int) + ((1) * x 2 + 0) = _; omega
  have E1 : y_ev x (0, [(3, 1)]) = x 3 := by show ((0) : Int) + ((1) * x 3 + 0) = _; omega
  have E2 : y_ev x (0, [(4, 1)]) = x 4 := by show ((0) : Int) + ((1) * x 4 + 0) = _; omega
  have E3 : y_ev x (0, [(5, 1)]) = x 5 := by show ((0) : Int) + ((1) * x 5 + 0) = _; omega
  have E4 : y_ev x (0, []) = 0 := by show ((0) : Int) + 0 = _; omega
  have E5 : y_ev x (0, [(0, 1)]) = x 0 := by show ((0) : Int) + ((1) * x 0 + 0) = _; omega
  have E6 : y_ev x (5, [(0, (-1))]) = 5 - x 0 := by show ((5) : Int) + ((-1) * x 0 + 0) = _; omega
  have E7 : y_ev x (25, [(0, 1)]) = x 0 + 25 := by show ((25) : Int) + ((1) * x 0 + 0) = _; omega
  have E8 : y_ev x (0, [(1, 1)]) = x 1 := by show ((0) : Int) + ((1) * x 1 + 0) = _; omega
  have T0 : q_sto v 0 (y_ev x (0, [(2, 1)])) (y_ev x (0, [(3, 1)])) (y_ev x (0, [(4, 1)])) (y_ev x (0, [(5, 1)])) (y_ev x (0, [])) (y_ev x (0, [])) (y_ev x (0, [])) (y_ev x (0, [])) (y_ev x (0, [])) (y_ev x (0, [])) (y_ev x (0, [])) := h.2.2.2.1
  try rw [E0] at T0; try rw [E1] at T0; try rw [E2] at T0; try rw [E3] at T0; try rw [E4] at T0
  have C0 : 0 ≤ y_ev x (0, [(0, 1)]) := h.2.1.1
  rw [E5] at C0
  have C1 : 0 ≤ y_ev x (5, [(0, (-1))]) := h.2.1.2.1
  rw [E6] at C1
  have F0 : 0 ≤ y_ev x (25, [(0, 1)]) ∧ y_ev x (25, [(0, 1)]) < j_len 77 ∧ v 77 (y_ev x (25, [(0, 1)])) = y_ev x (0, [(1, 1)]) := h.2.2.1.1.1
  try rw [E7] at F0; try rw [E8] at F0
  have K := k_ncel (V := v) (i := x 0) (u := x 1) (H := x 2) (p := x 3) (y := x 4) (d := x 5) T0 C0 C1 F0
  refine l_outH rfl (And.intro h.1 ?_)
  have O0 : y_ev x (8, []) = 8 := by show ((8) : Int) + 0 = _; omega
  have O1 : y_ev x (0, []) = 0 := by show ((0) : Int) + 0 = _; omega
  have O2 : y_ev x (25, [(0, 1)]) = x 0 + 25 := by show ((25) : Int) + ((1) * x 0 + 0) = _; omega
  have O3 : y_ev x (0, [(1, 1)]) = x 1 := by show ((0) : Int) + ((1) * x 1 + 0) = _; omega
  show (True) ∧ (q_qry v (y_ev x (8, [])) (y_ev x (0, [])) (y_ev x (0, [])) (y_ev x (0, [])) (y_ev x (0, [])) (y_ev x (0, [])) (y_ev x (0, [])) (y_ev x (0, [])) (y_ev x (25, [(0, 1)])) (y_ev x (0, [])) (y_ev x (0, [(1, 1)])) ∧ True)
  try rw [O0]; try rw [O1]; try rw [O2]; try rw [O3]
  exact K
def lm_1020 : zLem := (([((-2147483648), 2147483647), ((-2147483648), 2147483647), ((-2147483648), 2147483647)], [], [], [], [(0, 0, 0, [(0, 1)])], [], [(260, [(8, []), (0, []), (0, []), (0, []), (0, []), (0, []), (0, []), (0, []), (25, [(0, 1)]), (0, []), (0, [(1, 1)])]), (238, [(8, []), (0, []), (0, []), (0, []), (0, []), (0, []), (0, []), (0, []), (25, [(0, 1)]), (0, []), (0, [(2, 1)])])]), [([((-2147483648), 2147483647), ((-2147483648), 2147483647), ((-2147483648), 2147483647)], [], [(0, [(1, 1), (2, (-1))]), (0, [(1, (-1)), (2, 1)])], [], [], [], [])])
theorem lk_1020 : l_core lm_1020 := by
  intro v x h
  have E0 : y_ev x (8, []) = 8 := by show ((8) : Int) + 0 = _; omega
  have E1 : y_ev x (0, []) = 0 := by show ((0) : Int) + 0 = _; omega
  have E2 : y_ev x (25, [(0, 1)]) = x 0 + 25 := by show ((25) : Int) + ((1) * x 0 + 0) = _; omega
  have E3 : y_ev x (0, [(1, 1)]) = x 1 := by show ((0) : Int) + ((1) * x 1 + 0) = _; omega
  have E4 : y_ev x (0, [(2, 1)]) = x 2 := by show ((0) : Int) + ((1) * x 2 + 0) = _; omega
  have T0 : q_qry v (y_ev x (8, [])) (y_ev x (0, [])) (y_ev x (0, [])) (y_ev x (0, [])) (y_ev x (0, [])) (y_ev x (0, [])) (y_ev x (0, [])) (y_ev x (0, [])) (y_ev x (25, [(0, 1)])) (y_ev x (0, [])) (y_ev x (0, [(1, 1)])) := h.2.2.2.1
  try rw [E0] at T0; try rw [E1] at T0; try rw [E2] at T0; try rw [E3] at T0
  have T1 : q_qry v (y_ev x (8, [])) (y_ev x (0, [])) (y_ev x (0, [])) (y_ev x (0, [])) (y_ev x (0, [])) (y_ev x (0, [])) (y_ev x (0, [])) (y_ev x (0, [])) (y_ev x (25, [(0, 1)])) (y_ev x (0, [])) (y_ev x (0, [(2, 1)])) := h.2.2.2.2.1
  try rw [E0] at T1; try rw [E1] at T1; try rw [E2] at T1; try rw [E4] at T1
  have K := k_qeA (V := v) (i := x 0) (u := x 1) (w := x 2) T0 T1
  refine l_outH rfl (And.intro h.1 ?_)
  have O0 : y_ev x (0, [(1, 1), (2, (-1))]) = x 1 - x 2 := by show ((0) : Int) + ((1) * x 1 + ((-1) * x 2 + 0)) = _; omega
  have O1 : y_ev x (0, [(1, (-1)), (2, 1)]) = x 2 - x 1 := by show ((0) : Int) + ((-1) * x 1 + ((1) * x 2 + 0)) = _; omega
  show (0 ≤ y_ev x (0, [(1, 1), (2, (-1))]) ∧ 0 ≤ y_ev x (0, [(1, (-1)), (2, 1)]) ∧ True) ∧ (True)
  try rw [O0]; try rw [O1]
  exact K
def lm_1021 : zLem := (([((-2147483648), 2147483647), ((-2147483648), 2147483647), ((-2147483648), 2147483647), ((-2147483648), 2147483647), ((-2147483648), 2147483647), ((-2147483648), 2147483647)], [(77, false)], [(0, [(0, 1), (1, (-1))]), (0, [(1, 1), (2, (-1))]), ((-1), [(0, (-1)), (2, 1)])], [], [(0, 0, 0, [(0, 1)])], [(0, (true, 0, 24, []), 0, 0, 0, [(1, 1)])], [(235, [(0, [(3, 1)]), (0, [(2, 1)]), (0, [(4, 1)]), (0, [(5, 1)]), (0, []), (0, []), (0, []), (0, []), (0, []), (0, []), (0, [])])]), [([((-2147483648), 2147483647), ((-2147483648), 2147483647), ((-2147483648), 2147483647), ((-2147483648), 2147483647), ((-2147483648), 2147483647), ((-2147483648), 2147483647)], [(77, false)], [((-1), [])], [], [], [], [])])
theorem lk_1021 : l_core lm_1021 := by
  intro v x h
  have E0 : y_ev x (0, [(3, 1)]) = x 3 := by show ((0) : Int) + ((1) * x 3 + 0) = _; omega
  have E1 : y_ev x (0, [(2, 1)]) = x 2 := by show ((0) : Int) + ((1) * x 2 + 0) = _; omega
  have E2 : y_ev x (0, [(4, 1)]) = x 4 := by show ((0) : Int) + ((1) * x 4 + 0) = _; omega
  have E3 : y_ev x (0, [(5, 1)]) = x 5 := by show ((0) : Int) + ((1) * x 5 + 0) = _; omega
  have E4 : y_ev x (0, []) = 0 := by show ((0) : Int) + 0 = _; omega
  have E5 : y_ev x (0, [(0, 1), (1, (-1))]) = x 0 - x 1 := by show ((0) : Int) + ((1) * x 0 + ((-1) * x 1 + 0)) = _; omega
  have E6 : y_ev x (0, [(1, 1), (2, (-1))]) = x 1 - x 2 := by show ((0) : Int) + ((1) * x 1 + ((-1) * x 2 + 0)) = _; omega
  have E7 : y_ev x ((-1), [(0, (-1)), (2, 1)]) = x 2 - x 0 - 1 := by show ((-1) : Int) + ((-1) * x 0 + ((1) * x 2 + 0)) = _; omega
  have E8 : y_ev x (24, []) = 24 := by show ((24) : Int) + 0 = _; omega
  have E9 : y_ev x (0, [(1, 1)]) = x 1 := by show ((0) : Int) + ((1) * x 1 + 0) = _; omega
  have T0 : q_sto v 0 (y_ev x (0, [(3, 1)])) (y_ev x (0, [(2, 1)])) (y_ev x (0, [(4, 1)])) (y_ev x (0, [(5, 1)])) (y_ev x (0, [])) (y_ev x (0, [])) (y_ev x (0, [])) (y_ev x (0, [])) (y_ev x (0, [])) (y_ev x (0, [])) (y_ev x (0, [])) := h.2.2.2.1
  try rw [E0] at T0; try rw [E1] at T0; try rw [E2] at T0; try rw [E3] at T0; try rw [E4] at T0
  have C0 : 0 ≤ y_ev x (0, [(0, 1), (1, (-1))]) := h.2.1.1
  rw [E5] at C0
  have C1 : 0 ≤ y_ev x (0, [(1, 1), (2, (-1))]) := h.2.1.2.1
  rw [E6] at C1
  have C2 : 0 ≤ y_ev x ((-1), [(0, (-1)), (2, 1)]) := h.2.1.2.2.1
  rw [E7] at C2
  have F0 : 0 ≤ y_ev x (24, []) ∧ y_ev x (24, []) < j_len 77 ∧ v 77 (y_ev x (24, [])) = y_ev x (0, [(1, 1)]) := h.2.2.1.1.1
  try rw [E8] at F0; try rw [E9] at F0
  have K := k_atx (V := v) (i := x 0) (u := x 1) (p := x 2) (H := x 3) (y := x 4) (d := x 5) T0 C0 C1 C2 F0
  refine l_outH rfl (And.intro h.1 ?_)
  have O0 : y_ev x ((-1), []) = (-1) := by show ((-1) : Int) + 0 = _; omega
  show (0 ≤ y_ev x ((-1), []) ∧ True) ∧ (True)
  try rw [O0]
  exact K
def lm_1022 : zLem := (([((-2147483648), 2147483647), ((-2147483648), 2147483647), ((-2147483648), 2147483647), ((-2147483648), 2147483647), ((-2147483648), 2147483647), ((-2147483648), 2147483647)], [(77, false)], [((-1), [(0, (-1)), (1, 1)]), (0, [(1, (-1)), (2, 1)]), (0, [(0, 1), (2, (-1))])], [], [(0, 0, 0, [(0, 1)])], [(0, (true, 0, 24, []), 0, 0, 0, [(1, 1)])], [(235, [(0, [(3, 1)]), (0, [(2, 1)]), (0, [(4, 1)]), (0, [(5, 1)]), (0, []), (0, []), (0, []), (0, []), (0, []), (0, []), (0, [])])]), [([((-2147483648), 2147483647), ((-2147483648), 2147483647), ((-2147483648), 2147483647), ((-2147483648), 2147483647), ((-2147483648), 2147483647), ((-2147483648), 2147483647)], [(77, false)], [((-1), [])], [], [], [], [])])
theorem lk_1022 : l_core lm_1022 := by
  intro v x h
  have E0 : y_ev x (0, [(3, 1)]) = x 3 := by show ((0) : Int) + ((1) * x 3 + 0) = _; omega
  have E1 : y_ev x (0, [(2, 1)]) = x 2 := by show ((0) : Int) + ((1) * x 2 + 0) = _; omega
  have E2 : y_ev x (0, [(4, 1)]) = x 4 := by show ((0) : Int) + ((1) * x 4 + 0) = _; omega
  have E3 : y_ev x (0, [(5, 1)]) = x 5 := by show ((0) : Int) + ((1) * x 5 + 0) = _; omega
  have E4 : y_ev x (0, []) = 0 := by show ((0) : Int) + 0 = _; omega
  have E5 : y_ev x ((-1), [(0, (-1)), (1, 1)]) = x 1 - x 0 - 1 := by show ((-1) : Int) + ((-1) * x 0 + ((1) * x 1 + 0)) = _; omega
  have E6 : y_ev x (0, [(1, (-1)), (2, 1)]) = x 2 - x 1 := by show ((0) : Int) + ((-1) * x 1 + ((1) * x 2 + 0)) = _; omega
  have E7 : y_ev x (0, [(0, 1), (2, (-1))]) = x 0 - x 2 := by show ((0) : Int) + ((1) * x 0 + ((-1) * x 2 + 0)) = _; omega
  have E8 : y_ev x (24, []) = 24 := by show ((24) : Int) + 0 = _; omega
  have E9 : y_ev x (0, [(1, 1)]) = x 1 := by show ((0) : Int) + ((1) * x 1 + 0) = _; omega
  have T0 : q_sto v 0 (y_ev x (0, [(3, 1)])) (y_ev x (0, [(2, 1)])) (y_ev x (0, [(4, 1)])) (y_ev x (0, [(5, 1)])) (y_ev x (0, [])) (y_ev x (0, [])) (y_ev x (0, [])) (y_ev x (0, [])) (y_ev x (0, [])) (y_ev x (0, [])) (y_ev x (0, [])) := h.2.2.2.1
  try rw [E0] at T0; try rw [E1] at T0; try rw [E2] at T0; try rw [E3] at T0; try rw [E4] at T0
  have C0 : 0 ≤ y_ev x ((-1), [(0, (-1)), (1, 1)]) := h.2.1.1
  rw [E5] at C0
  have C1 : 0 ≤ y_ev x (0, [(1, (-1)), (2, 1)]) := h.2.1.2.1
  rw [E6] at C1
  have C2 : 0 ≤ y_ev x (0, [(0, 1), (2, (-1))]) := h.2.1.2.2.1
  rw [E7] at C2
  have F0 : 0 ≤ y_ev x (24, []) ∧ y_ev x (24, []) < j_len 77 ∧ v 77 (y_ev x (24, [])) = y_ev x (0, [(1, 1)]) := h.2.2.1.1.1
  try rw [E8] at F0; try rw [E9] at F0
  have K := k_aty (V := v) (i := x 0) (u := x 1) (p := x 2) (H := x 3) (y := x 4) (d := x 5) T0 C0 C1 C2 F0
  refine l_outH rfl (And.intro h.1 ?_)
  have O0 : y_ev x ((-1), []) = (-1) := by show ((-1) : Int) + 0 = _; omega
  show (0 ≤ y_ev x ((-1), []) ∧ True) ∧ (True)
  try rw [O0]
  exact K
def lm_1023 : zLem := (([((-2147483648), 2147483647), ((-2147483648), 2147483647), ((-2147483648), 2147483647), ((-2147483648), 2147483647)], [], [], [], [(0, 0, 0, [(0, 1)])], [], [(260, [(1, []), (0, []), (0, []), (0, []), (0, []), (0, []), (0, []), (0, []), (1, [(0, 1)]), (0, [(1, 1)]), (0, [(2, 1)])]), (238, [(1, []), (0, []), (0, []), (0, []), (0, []), (0, []), (0, []), (0, []), (1, [(0, 1)]), (0, [(1, 1)]), (0, [(3, 1)])])]), [([((-2147483648), 2147483647), ((-2147483648), 2147483647), ((-2147483648), 2147483647), ((-2147483648), 2147483647)], [], [(0, [(2, 1), (3, (-1))]), (0, [(2, (-1)), (3, 1)])], [], [], [], [])])
theorem lk_1023 : l_core lm_1023 := by
  intro v x h
  have E0 : y_ev x (1, []) = 1 := by show ((1) : Int) + 0 = _; omega
  have E1 : y_ev x (0, []) = 0 := by show ((0) : Int) + 0 = _; omega
  have E2 : y_ev x (1, [(0, 1)]) = x 0 + 1 := by show ((1) : Int) + ((1) * x 0 + 0) = _; omega
  have E3 : y_ev x (0, [(1, 1)]) = x 1 := by show ((0) : Int) + ((1) * x 1 + 0) = _; omega
  have E4 : y_ev x (0, [(2, 1)]) = x 2 := by show ((0) : Int) + ((1) * x 2 + 0) = _; omega
  have E5 : y_ev x (0, [(3, 1)]) = x 3 := by show ((0) : Int) + ((1) * x 3 + 0) = _; omega
  have T0 : q_qry v (y_ev x (1, [])) (y_ev x (0, [])) (y_ev x (0, [])) (y_ev x (0, [])) (y_ev x (0, [])) (y_ev x (0, [])) (y_ev x (0, [])) (y_ev x (0, [])) (y_ev x (1, [(0, 1)])) (y_ev x (0, [(1, 1)])) (y_ev x (0, [(2, 1)])) := h.2.2.2.1
  try rw [E0] at T0; try rw [E1] at T0; try rw [E2] at T0; try rw [E3] at T0; try rw [E4] at T0
  have T1 : q_qry v (y_ev x (1, [])) (y_ev x (0, [])) (y_ev x (0, [])) (y_ev x (0, [])) (y_ev x (0, [])) (y_ev x (0, [])) (y_ev x (0, [])) (y_ev x (0, [])) (y_ev x (1, [(0, 1)])) (y_ev x (0, [(1, 1)])) (y_ev x (0, [(3, 1)])) := h.2.2.2.2.1
  try rw [E0] at T1; try rw [E1] at T1; try rw [E2] at T1; try rw [E3] at T1; try rw [E5] at T1
  have K := k_qeW (V := v) (i := x 0) (p := x 1) (u := x 2) (w := x 3) T0 T1
  refine l_outH rfl (And.intro h.1 ?_)
  have O0 : y_ev x (0, [(2, 1), (3, (-1))]) = x 2 - x 3 := by show ((0) : Int) + ((1) * x 2 + ((-1) * x 3 + 0)) = _; omega
  have O1 : y_ev x (0, [(2, (-1)), (3, 1)]) = x 3 - x 2 := by show ((0) : Int) + ((-1) * x 2 + ((1) * x 3 + 0)) = _; omega
  show (0 ≤ y_ev x (0, [(2, 1), (3, (-1))]) ∧ 0 ≤ y_ev x (0, [(2, (-1)), (3, 1)]) ∧ True) ∧ (True)
  try rw [O0]; try rw [O1]
  exact K
def lm_1024 : zLem := (([((-2147483648), 2147483647), ((-2147483648), 2147483647), ((-2147483648), 2147483647), ((-2147483648), 2147483647), ((-2147483648), 2147483647), ((-2147483648), 2147483647)], [(78, false)], [(0, [(0, 1), (1, (-1))]), (0, [(1, 1), (2, (-1))]), ((-1), [(0, (-1)), (2, 1)])], [], [(0, 0, 0, [(0, 1)])], [(0, (true, 0, 24, []), 0, 0, 0, [(1, 1)])], [(235, [(0, [(3, 1)]), (0, [(2, 1)]), (0, [(4, 1)]), (0, [(5, 1)]), (0, []), (0, []), (0, []), (0, []), (0, []), (0, []), (0, [])])]), [([((-2147483648), 2147483647), ((-2147483648), 2147483647), ((-2147483648), 2147483647), ((-2147483648), 2147483647), ((-2147483648), 2147483647), ((-2147483648), 2147483647)], [(78, false)], [((-1), [])], [], [], [], [])])
theorem lk_1024 : l_core lm_1024 := by
  intro v x h
  have E0 : y_ev x (0, [(3, 1)]) = x 3 := by show ((0) : Int) + ((1) * x 3 + 0) = _; omega
  have E1 : y_ev x (0, [(2, 1)]) = x 2 := by show ((0) : Int) + ((1) * x 2 + 0) = _; omega
  have E2 : y_ev x (0, [(4, 1)]) = x 4 := by show ((0) : Int) + ((1) * x 4 + 0) = _; omega
  have E3 : y_ev x (0, [(5, 1)]) = x 5 := by show ((0) : Int) + ((1) * x 5 + 0) = _; omega
  have E4 : y_ev x (0, []) = 0 := by show ((0) : Int) + 0 = _; omega
  have E5 : y_ev x (0, [(0, 1), (1, (-1))]) = x 0 - x 1 := by show ((0) : Int) + ((1) * x 0 + ((-1) * x 1 + 0)) = _; omega
  have E6 : y_ev x (0, [(1, 1), (2, (-1))]) = x 1 - x 2 := by show ((0) : Int) + ((1) * x 1 + ((-1) * x 2 + 0)) = _; omega
  have E7 : y_ev x ((-1), [(0, (-1)), (2, 1)]) = x 2 - x 0 - 1 := by show ((-1) : Int) + ((-1) * x 0 + ((1) * x 2 + 0)) = _; omega
  have E8 : y_ev x (24, []) = 24 := by show ((24) : Int) + 0 = _; omega
  have E9 : y_ev x (0, [(1, 1)]) = x 1 := by show ((0) : Int) + ((1) * x 1 + 0) = _; omega
  have T0 : q_sto v 0 (y_ev x (0, [(3, 1)])) (y_ev x (0, [(2, 1)])) (y_ev x (0, [(4, 1)])) (y_ev x (0, [(5, 1)])) (y_ev x (0, [])) (y_ev x (0, [])) (y_ev x (0, [])) (y_ev x (0, [])) (y_ev x (0, [])) (y_ev x (0, [])) (y_ev x (0, [])) := h.2.2.2.1
  try rw [E0] at T0; try rw [E1] at T0; try rw [E2] at T0; try rw [E3] at T0; try rw [E4] at T0
  have C0 : 0 ≤ y_ev x (0, [(0, 1), (1, (-1))]) := h.2.1.1
  rw [E5] at C0
  have C1 : 0 ≤ y_ev x (0, [(1, 1), (2, (-1))]) := h.2.1.2.1
  rw [E6] at C1
  have C2 : 0 ≤ y_ev x ((-1), [(0, (-1)), (2, 1)]) := h.2.1.2.2.1
  rw [E7] at C2
  have F0 : 0 ≤ y_ev x (24, []) ∧ y_ev x (24, []) < j_len 78 ∧ v 78 (y_ev x (24, [])) = y_ev x (0, [(1, 1)]) := h.2.2.1.1.1
  try rw [E8] at F0; try rw [E9] at F0
  have K := k_bex (V := v) (i := x 0) (u := x 1) (p := x 2) (H := x 3) (y := x 4) (d := x 5) T0 C0 C1 C2 F0
  refine l_outH rfl (And.intro h.1 ?_)
  have O0 : y_ev x ((-1), []) = (-1) := by show ((-1) : Int) + 0 = _; omega
  show (0 ≤ y_ev x ((-1), []) ∧ True) ∧ (True)
  try rw [O0]
  exact K
def lm_1025 : zLem := (([((-2147483648), 2147483647), ((-2147483648), 2147483647), ((-2147483648), 2147483647), ((-2147483648), 2147483647), ((-2147483648), 2147483647), ((-2147483648), 2147483647)], [(78, false)], [((-1), [(0, (-1)), (1, 1)]), (0, [(1, (-1)), (2, 1)]), (0, [(0, 1), (2, (-1))])], [], [(0, 0, 0, [(0, 1)])], [(0, (true, 0, 24, []), 0, 0, 0, [(1, 1)])], [(235, [(0, [(3, 1)]), (0, [(2, 1)]), (0, [(4, 1)]), (0, [(5, 1)]), (0, []), (0, []), (0, []), (0, []), (0, []), (0, []), (0, [])])]), [([((-2147483648), 2147483647), ((-2147483648), 2147483647), ((-2147483648), 2147483647), ((-2147483648), 2147483647), ((-2147483648), 2147483647), ((-2147483648), 2147483647)], [(78, false)], [((-1), [])], [], [], [], [])])
theorem lk_1025 : l_core lm_1025 := by
  intro v x h
  have E0 : y_ev x (0, [(3, 1)]) = x 3 := by show ((0) : Int) + ((1) * x 3 + 0) = _; omega
  have E1 : y_ev x (0, [(2, 1)]) = x 2 := by show ((0) : Int) + ((1) * x 2 + 0) = _; omega
  have E2 : y_ev x (0, [(4, 1)]) = x 4 := by show ((0) : Int) + ((1) * x 4 + 0) = _; omega
  have E3 : y_ev x (0, [(5, 1)]) = x 5 := by show ((0) : Int) + ((1) * x 5 + 0) = _; omega
  have E4 : y_ev x (0, []) = 0 := by show ((0) : Int) + 0 = _; omega
  have E5 : y_ev x ((-1), [(0, (-1)), (1, 1)]) = x 1 - x 0 - 1 := by show ((-1) : Int) + ((-1) * x 0 + ((1) * x 1 + 0)) = _; omega
  have E6 : y_ev x (0, [(1, (-1)), (2, 1)]) = x 2 - x 1 := by show ((0) : Int) + ((-1) * x 1 + ((1) * x 2 + 0)) = _; omega
  have E7 : y_ev x (0, [(0, 1), (2, (-1))]) = x 0 - x 2 := by show ((0) : Int) + ((1) * x 0 + ((-1) * x 2 + 0)) = _; omega
  have E8 : y_ev x (24, []) = 24 := by show ((24) : Int) + 0 = _; omega
  have E9 : y_ev x (0, [(1, 1)]) = x 1 := by show ((0) : Int) + ((1) * x 1 + 0) = _; omega
  have T0 : q_sto v 0 (y_ev x (0, [(3, 1)])) (y_ev x (0, [(2, 1)])) (y_ev x (0, [(4, 1)])) (y_ev x (0, [(5, 1)])) (y_ev x (0, [])) (y_ev x (0, [])) (y_ev x (0, [])) (y_ev x (0, [])) (y_ev x (0, [])) (y_ev x (0, [])) (y_ev x (0, [])) := h.2.2.2.1
  try rw [E0] at T0; try rw [E1] at T0; try rw [E2] at T0; try rw [E3] at T0; try rw [E4] at T0
  have C0 : 0 ≤ y_ev x ((-1), [(0, (-1)), (1, 1)]) := h.2.1.1
  rw [E5] at C0
  have C1 : 0 ≤ y_ev x (0, [(1, (-1)), (2, 1)]) := h.2.1.2.1
  rw [E6] at C1
  have C2 : 0 ≤ y_ev x (0, [(0, 1), (2, (-1))]) := h.2.1.2.2.1
  rw [E7] at C2
  have F0 : 0 ≤ y_ev x (24, []) ∧ y_ev x (24, []) < j_len 78 ∧ v 78 (y_ev x (24, [])) = y_ev x (0, [(1, 1)]) := h.2.2.1.1.1
  try rw [E8] at F0; try rw [E9] at F0
  have K := k_bey (V := v) (i := x 0) (u := x 1) (p := x 2) (H := x 3) (y := x 4) (d := x 5) T0 C0 C1 C2 F0
  refine l_outH rfl (And.intro h.1 ?_)
  have O0 : y_ev x ((-1), []) = (-1) := by show ((-1) : Int) + 0 = _; omega
  show (0 ≤ y_ev x ((-1), []) ∧ True) ∧ (True)
  try rw [O0]
  exact K
def lm_1026 : zLem := (([((-2147483648), 2147483647), ((-2147483648), 2147483647), ((-2147483648), 2147483647), ((-2147483648), 2147483647), ((-2147483648), 2147483647)], [], [], [], [(0, 0, 0, [(4, 1)])], [], [(238, [(5, []), (0, [(0, 1)]), (0, []), (0, []), (0, []), (0, []), (0, []), (0, []), (0, [(1, 1)]), (0, [(2, 1)]), (0, [(4, 1)])]), (260, [(5, []), (0, [(0, 1)]), (0, []), (0, []), (0, []), (0, []), (0, []), (0, []), (0, [(1, 1)]), (0, [(2, 1)]), (0, [(3, 1)])])]), [([((-2147483648), 2147483647), ((-2147483648), 2147483647), ((-2147483648), 2147483647), ((-2147483648), 2147483647), ((-2147483648), 2147483647)], [], [(0, [(3, 1), (4, (-1))]), (0, [(3, (-1)), (4, 1)])], [], [], [], [])])
theorem lk_1026 : l_core lm_1026 := by
  intro v x h
  have E0 : y_ev x (5, []) = 5 := by show ((5) : Int) + 0 = _; omega
  have E1 : y_ev x (0, [(0, 1)]) = x 0 := by show ((0) : Int) + ((1) * x 0 + 0) = _; omega
  have E2 : y_ev x (0, []) = 0 := by show ((0) : Int) + 0 = _; omega
  have E3 : y_ev x (0, [(1, 1)]) = x 1 := by show ((0) : Int) + ((1) * x 1 + 0) = _; omega
  have E4 : y_ev x (0, [(2, 1)]) = x 2 := by show ((0) : Int) + ((1) * x 2 + 0) = _; omega
  have E5 : y_ev x (0, [(4, 1)]) = x 4 := by show ((0) : Int) + ((1) * x 4 + 0) = _; omega
  have E6 : y_ev x (0, [(3, 1)]) = x 3 := by show ((0) : Int) + ((1) * x 3 + 0) = _; omega
  have T0 : q_qry v (y_ev x (5, [])) (y_ev x (0, [(0, 1)])) (y_ev x (0, [])) (y_ev x (0, [])) (y_ev x (0, [])) (y_ev x (0, [])) (y_ev x (0, [])) (y_ev x (0, [])) (y_ev x (0, [(1, 1)])) (y_ev x (0, [(2, 1)])) (y_ev x (0, [(4, 1)])) := h.2.2.2.1
  try rw [E0] at T0; try rw [E1] at T0; try rw [E2] at T0; try rw [E3] at T0; try rw [E4] at T0; try rw [E5] at T0
  have T1 : q_qry v (y_ev x (5, [])) (y_ev x (0, [(0, 1)])) (y_ev x (0, [])) (y_ev x (0, [])) (y_ev x (0, [])) (y_ev x (0, [])) (y_ev x (0, [])) (y_ev x (0, [])) (y_ev x (0, [(1, 1)])) (y_ev x (0, [(2, 1)])) (y_ev x (0, [(3, 1)])) := h.2.2.2.2.1
  try rw [E0] at T1; try rw [E1] at T1; try rw [E2] at T1; try rw [E3] at T1; try rw [E4] at T1; try rw [E6] at T1
  have K := k_qeJ (V := v) (q := x 0) (i := x 1) (j := x 2) (u := x 3) (w := x 4) T0 T1
  refine l_outH rfl (And.intro h.1 ?_)
  have O0 : y_ev x (0, [(3, 1), (4, (-1))]) = x 3 - x 4 := by show ((0) : Int) + ((1) * x 3 + ((-1) * x 4 + 0)) = _; omega
  have O1 : y_ev x (0, [(3, (-1)), (4, 1)]) = x 4 - x 3 := by show ((0) : Int) + ((-1) * x 3 + ((1) * x 4 + 0)) = _; omega
  show (0 ≤ y_ev x (0, [(3, 1), (4, (-1))]) ∧ 0 ≤ y_ev x (0, [(3, (-1)), (4, 1)]) ∧ True) ∧ (True)
  try rw [O0]; try rw [O1]
  exact K
def lm_1027 : zLem := (([((-2147483648), 2147483647), ((-2147483648), 2147483647), ((-2147483648), 2147483647), ((-2147483648), 2147483647), ((-2147483648), 2147483647)], [], [(0, [(0, 1)]), ((-1), [(0, (-1)), (1, 1)]), (6, [(1, (-1))])], [], [(0, 0, 0, [(0, 1)])], [], [(235, [(0, [(1, 1)]), (0, [(2, 1)]), (0, [(3, 1)]), (0, [(4, 1)]), (0, []), (0, []), (0, []), (0, []), (0, []), (0, []), (0, [])]), (238, [(6, []), (0, []), (0, []), (0, []), (0, []), (0, []), (0, []), (0, []), (0, [(0, 1)]), (0, []), ((-1), [])])]), [([((-2147483648), 2147483647), ((-2147483648), 2147483647), ((-2147483648), 2147483647), ((-2147483648), 2147483647), ((-2147483648), 2147483647)], [], [], [], [], [], [(238, [(8, []), (0, []), (0, []), (0, []), (0, []), (0, []), (0, []), (0, []), (6, [(0, 1)]), (0, []), (0, [])])])])
theorem lk_1027 : l_core lm_1027 := by
  intro v x h
  have E0 : y_ev x (0, [(1, 1)]) = x 1 := by show ((0) : Int) + ((1) * x 1 + 0) = _; omega
  have E1 : y_ev x (0, [(2, 1)]) = x 2 := by show ((0) : Int) + ((1) * x 2 + 0) = _; omega
  have E2 : y_ev x (0, [(3, 1)]) = x 3 := by show ((0) : Int) + ((1) * x 3 + 0) = _; omega
  have E3 : y_ev x (0, [(4, 1)]) = x 4 := by show ((0) : Int) + ((1) * x 4 + 0) = _; omega
  have E4 : y_ev x (0, []) = 0 := by show ((0) : Int) + 0 = _; omega
  have E5 : y_ev x (6, []) = 6 := by show ((6) : Int) + 0 = _; omega
  have E6 : y_ev x (0, [(0, 1)]) = x 0 := by show ((0) : Int) + ((1) * x 0 + 0) = _; omega
  have E7 : y_ev x ((-1), []) = (-1) := by show ((-1) : Int) + 0 = _; omega
  have E8 : y_ev x ((-1), [(0, (-1)), (1, 1)]) = x 1 - x 0 - 1 := by show ((-1) : Int) + ((-1) * x 0 + ((1) * x 1 + 0)) = _; omega
  have E9 : y_ev x (6, [(1, (-1))]) = 6 - x 1 := by show ((6) : Int) + ((-1) * x 1 + 0) = _; omega
  have T0 : q_sto v 0 (y_ev x (0, [(1, 1)])) (y_ev x (0, [(2, 1)])) (y_ev x (0, [(3, 1)])) (y_ev x (0, [(4, 1)])) (y_ev x (0, [])) (y_ev x (0, [])) (y_ev x (0, [])) (y_ev x (0, [])) (y_ev x (0, [])) (y_ev x (0, [])) (y_ev x (0, [])) := h.2.2.2.1
  try rw [E0] at T0; try rw [E1] at T0; try rw [E2] at T0; try rw [E3] at T0; try rw [E4] at T0
  have T1 : q_qry v (y_ev x (6, [])) (y_ev x (0, [])) (y_ev x (0, [])) (y_ev x (0, [])) (y_ev x (0, [])) (y_ev x (0, [])) (y_ev x (0, [])) (y_ev x (0, [])) (y_ev x (0, [(0, 1)])) (y_ev x (0, [])) (y_ev x ((-1), [])) := h.2.2.2.2.1
  try rw [E5] at T1; try rw [E4] at T1; try rw [E6] at T1; try rw [E7] at T1
  have C0 : 0 ≤ y_ev x (0, [(0, 1)]) := h.2.1.1
  rw [E6] at C0
  have C1 : 0 ≤ y_ev x ((-1), [(0, (-1)), (1, 1)]) := h.2.1.2.1
  rw [E8] at C1
  have C2 : 0 ≤ y_ev x (6, [(1, (-1))]) := h.2.1.2.2.1
  rw [E9] at C2
  have K := k_celL0 (V := v) (h := x 0) (H := x 1) (p := x 2) (y := x 3) (d := x 4) T0 T1 C0 C1 C2
  refine l_outH rfl (And.intro h.1 ?_)
  have O0 : y_ev x (8, []) = 8 := by show ((8) : Int) + 0 = _; omega
  have O1 : y_ev x (0, []) = 0 := by show ((0) : Int) + 0 = _; omega
  have O2 : y_ev x (6, [(0, 1)]) = x 0 + 6 := by show ((6) : Int) + ((1) * x 0 + 0) = _; omega
  show (True) ∧ (q_qry v (y_ev x (8, [])) (y_ev x (0, [])) (y_ev x (0, [])) (y_ev x (0, [])) (y_ev x (0, [])) (y_ev x (0, [])) (y_ev x (0, [])) (y_ev x (0, [])) (y_ev x (6, [(0, 1)])) (y_ev x (0, [])) (y_ev x (0, [])) ∧ True)
  try rw [O0]; try rw [O1]; try rw [O2]
  exact K
def lm_1028 : zLem := (([((-2147483648), 2147483647), ((-2147483648), 2147483647), ((-2147483648), 2147483647), ((-2147483648), 2147483647), ((-2147483648), 2147483647)], [], [(0, [(0, 1)]), ((-1), [(0, (-1)), (1, 1)]), (6, [(1, (-1))])], [], [(0, 0, 0, [(0, 1)])], [], [(235, [(0, [(1, 1)]), (0, [(2, 1)]), (0, [(3, 1)]), (0, [(4, 1)]), (0, []), (0, []), (0, []), (0, []), (0, []), (0, []), (0, [])]), (238, [(6, []), (0, []), (0, []), (0, []), (0, []), (0, []), (0, []), (0, []), (0, [(0, 1)]), (0, []), ((-1), [])])]), [([((-2147483648), 2147483647), ((-2147483648), 2147483647), ((-2147483648), 2147483647), ((-2147483648), 2147483647), ((-2147483648), 2147483647)], [], [], [], [], [], [(238, [(8, []), (0, []), (0, []), (0, []), (0, []), (0, []), (0, []), (0, []), (12, [(0, 1)]), (0, []), (0, [])])])])
theorem lk_1028 : l_core lm_1028 := by
  intro v x h
  have E0 : y_ev x (0, [(1, 1)]) = x 1 := by show ((0) : Int) + ((1) * x 1 + 0) = _; omega
  have E1 : y_ev x (0, [(2, 1)]) = x 2 := by show ((0) : Int) + ((1) * x 2 + 0) = _; omega
  have E2 : y_ev x (0, [(3, 1)]) = x 3 := by show ((0) : Int) + ((1) * x 3 + 0) = _; omega
  have E3 : y_ev x (0, [(4, 1)]) = x 4 := by show ((0) : Int) + ((1) * x 4 + 0) = _; omega
  have E4 : y_ev x (0, []) = 0 := by show ((0) : Int) + 0 = _; omega
  have E5 : y_ev x (6, []) = 6 := by show ((6) : Int) + 0 = _; omega
  have E6 : y_ev x (0, [(0, 1)]) = x 0 := by show ((0) : Int) + ((1) * x 0 + 0) = _; omega
  have E7 : y_ev x ((-1), []) = (-1) := by show ((-1) : Int) + 0 = _; omega
  have E8 : y_ev x ((-1), [(0, (-1)), (1, 1)]) = x 1 - x 0 - 1 := by show ((-1) : Int) + ((-1) * x 0 + ((1) * x 1 + 0)) = _; omega
  have E9 : y_ev x (6, [(1, (-1))]) = 6 - x 1 := by show ((6) : Int) + ((-1) * x 1 + 0) = _; omega
  have T0 : q_sto v 0 (y_ev x (0, [(1, 1)])) (y_ev x (0, [(2, 1)])) (y_ev x (0, [(3, 1)])) (y_ev x (0, [(4, 1)])) (y_ev x (0, [])) (y_ev x (0, [])) (y_ev x (0, [])) (y_ev x (0, [])) (y_ev x (0, [])) (y_ev x (0, [])) (y_ev x (0, [])) := h.2.2.2.1
  try rw [E0] at T0; try rw [E1] at T0; try rw [E2] at T0; try rw [E3] at T0; try rw [E4] at T0
  have T1 : q_qry v (y_ev x (6, [])) (y_ev x (0, [])) (y_ev x (0, [])) (y_ev x (0, [])) (y_ev x (0, [])) (y_ev x (0, [])) (y_ev x (0, [])) (y_ev x (0, [])) (y_ev x (0, [(0, 1)])) (y_ev x (0, [])) (y_ev x ((-1), [])) := h.2.2.2.2.1
  try rw [E5] at T1; try rw [E4] at T1; try rw [E6] at T1; try rw [E7] at T1
  have C0 : 0 ≤ y_ev x (0, [(0, 1)]) := h.2.1.1
  rw [E6] at C0
  have C1 : 0 ≤ y_ev x ((-1), [(0, (-1)), (1, 1)]) := h.2.1.2.1
  rw [E8] at C1
  have C2 : 0 ≤ y_ev x (6, [(1, (-1))]) := h.2.1.2.2.1
  rw [E9] at C2
  have K := k_celS0 (V := v) (h := x 0) (H := x 1) (p := x 2) (y := x 3) (d := x 4) T0 T1 C0 C1 C2
  refine l_outH rfl (And.intro h.1 ?_)
  have O0 : y_ev x (8, []) = 8 := by show ((8) : Int) + 0 = _; omega
  have O1 : y_ev x (0, []) = 0 := by show ((0) : Int) + 0 = _; omega
  have O2 : y_ev x (12, [(0, 1)]) = x 0 + 12 := by show ((12) : Int) + ((1) * x 0 + 0) = _; omega
  show (True) ∧ (q_qry v (y_ev x (8, [])) (y_ev x (0, [])) (y_ev x (0, [])) (y_ev x (0, [])) (y_ev x (0, [])) (y_ev x (0, [])) (y_ev x (0, [])) (y_ev x (0, [])) (y_ev x (12, [(0, 1)])) (y_ev x (0, [])) (y_ev x (0, [])) ∧ True)
  try rw [O0]; try rw [O1]; try rw [O2]
  exact K
def lm_1029 : zLem := (([((-2147483648), 2147483647), ((-2147483648), 2147483647), ((-2147483648), 2147483647)], [], [], [], [], [], [(260, [(8, []), (0, []), (0, []), (0, []), (0, []), (0, []), (0, []), (0, []), (0, [(0, 1)]), (0, []), (0, [(1, 1)])]), (238, [(8, []), (0, []), (0, []), (0, []), (0, []), (0, []), (0, []), (0, []), (0, [(0, 1)]), (0, []), (0, [(2, 1)])])]), [([((-2147483648), 2147483647), ((-2147483648), 2147483647), ((-2147483648), 2147483647)], [], [(0, [(1, 1), (2, (-1))]), (0, [(1, (-1)), (2, 1)])], [], [], [], [])])
theorem lk_1029 : l_core lm_1029 := by
  intro v x h
  have E0 : y_ev x (8, []) = 8 := by show ((8) : Int) + 0 = _; omega
  have E1 : y_ev x (0, []) = 0 := by show ((0) : Int) + 0 = _; omega
  have E2 : y_ev x (0, [(0, 1)]) = x 0 := by show ((0) : Int) + ((1) * x 0 + 0) = _; omega
  have E3 : y_ev x (0, [(1, 1)]) = x 1 := by show ((0) : Int) + ((1) * x 1 + 0) = _; omega
  have E4 : y_ev x (0, [(2, 1)]) = x 2 := by show ((0) : Int) + ((1) * x 2 + 0) = _; omega
  have T0 : q_qry v (y_ev x (8, [])) (y_ev x (0, [])) (y_ev x (0, [])) (y_ev x (0, [])) (y_ev x (0, [])) (y_ev x (0, [])) (y_ev x (0, [])) (y_ev x (0, [])) (y_ev x (0, [(0, 1)])) (y_ev x (0, [])) (y_ev x (0, [(1, 1)])) := h.2.2.2.1
  try rw [E0] at T0; try rw [E1] at T0; try rw [E2] at T0; try rw [E3] at T0
  have T1 : q_qry v (y_ev x (8, [])) (y_ev x (0, [])) (y_ev x (0, [])) (y_ev x (0, [])) (y_ev x (0, [])) (y_ev x (0, [])) (y_ev x (0, [])) (y_ev x (0, [])) (y_ev x (0, [(0, 1)])) (y_ev x (0, [])) (y_ev x (0, [(2, 1)])) := h.2.2.2.2.1
  try rw [E0] at T1; try rw [E1] at T1; try rw [E2] at T1; try rw [E4] at T1
  have K := k_qeC (V := v) (h := x 0) (u := x 1) (w := x 2) T0 T1
  refine l_outH rfl (And.intro h.1 ?_)
  have O0 : y_ev x (0, [(1, 1), (2, (-1))]) = x 1 - x 2 := by show ((0) : Int) + ((1) * x 1 + ((-1) * x 2 + 0)) = _; omega
  have O1 : y_ev x (0, [(1, (-1)), (2, 1)]) = x 2 - x 1 := by show ((0) : Int) + ((-1) * x 1 + ((1) * x 2 + 0)) = _; omega
  show (0 ≤ y_ev x (0, [(1, 1), (2, (-1))]) ∧ 0 ≤ y_ev x (0, [(1, (-1)), (2, 1)]) ∧ True) ∧ (True)
  try rw [O0]; try rw [O1]
  exact K
def lm_1030 : zLem := (([((-2147483648), 2147483647), ((-2147483648), 2147483647), ((-2147483648), 2147483647)], [], [], [], [], [], [(260, [(6, []), (0, []), (0, []), (0, []), (0, []), (0, []), (0, []), (0, []), (0, [(0, 1)]), (0, []), (0, [(1, 1)])]), (238, [(6, []), (0, []), (0, []), (0, []), (0, []), (0, []), (0, []), (0, []), (0, [(0, 1)]), (0, []), (0, [(2, 1)])])]), [([((-2147483648), 2147483647), ((-2147483648), 2147483647), ((-2147483648), 2147483647)], [], [(0, [(1, 1), (2, (-1))]), (0, [(1, (-1)), (2, 1)])], [], [], [], [])])
theorem lk_1030 : l_core lm_1030 := by
  intro v x h
  have E0 : y_ev x (6, []) = 6 := by show ((6) : Int) + 0 = _; omega
  have E1 : y_ev x (0, []) = 0 := by show ((0) : Int) + 0 = _; omega
  have E2 : y_ev x (0, [(0, 1)]) = x 0 := by show ((0) : Int) + ((1) * x 0 + 0) = _; omega
  have E3 : y_ev x (0, [(1, 1)]) = x 1 := by show ((0) : Int) + ((1) * x 1 + 0) = _; omega
  have E4 : y_ev x (0, [(2, 1)]) = x 2 := by show ((0) : Int) + ((1) * x 2 + 0) = _; omega
  have T0 : q_qry v (y_ev x (6, [])) (y_ev x (0, [])) (y_ev x (0, [])) (y_ev x (0, [])) (y_ev x (0, [])) (y_ev x (0, [])) (y_ev x (0, [])) (y_ev x (0, [])) (y_ev x (0, [(0, 1)])) (y_ev x (0, [])) (y_ev x (0, [(1, 1)])) := h.2.2.2.1
  try rw [E0] at T0; try rw [E1] at T0; try rw [E2] at T0; try rw [E3] at T0
  have T1 : q_qry v (y_ev x (6, [])) (y_ev x (0, [])) (y_ev x (0, [])) (y_ev x (0, [])) (y_ev x (0, [])) (y_ev x (0, [])) (y_ev x (0, [])) (y_ev x (0, [])) (y_ev x (0, [(0, 1)])) (y_ev x (0, [])) (y_ev x (0, [(2, 1)])) := h.2.2.2.2.1
  try rw [E0] at T1; try rw [E1] at T1; try rw [E2] at T1; try rw [E4] at T1
  have K := k_qePl (V := v) (h := x 0) (u := x 1) (w := x 2) T0 T1
  refine l_outH rfl (And.intro h.1 ?_)
  have O0 : y_ev x (0, [(1, 1), (2, (-1))]) = x 1 - x 2 := by show ((0) : Int) + ((1) * x 1 + ((-1) * x 2 + 0)) = _; omega
  have O1 : y_ev x (0, [(1, (-1)), (2, 1)]) = x 2 - x 1 := by show ((0) : Int) + ((-1) * x 1 + ((1) * x 2 + 0)) = _; omega
  show (0 ≤ y_ev x (0, [(1, 1), (2, (-1))]) ∧ 0 ≤ y_ev x (0, [(1, (-1)), (2, 1)]) ∧ True) ∧ (True)
  try rw [O0]; try rw [O1]
  exact K
def lm_1031 : zLem := (([((-2147483648), 2147483647), ((-2147483648), 2147483647), ((-2147483648), 2147483647), ((-2147483648), 2147483647), ((-2147483648), 2147483647)], [], [], [], [], [], [(260, [(4, []), (0, [(0, 1)]), (0, []), (0, []), (0, []), (0, []), (0, []), (0, []), (0, [(1, 1)]), (0, [(2, 1)]), (0, [(3, 1)])]), (238, [(4, []), (0, [(0, 1)]), (0, []), (0, []), (0, []), (0, []), (0, []), (0, []), (0, [(1, 1)]), (0, [(2, 1)]), (0, [(4, 1)])])]), [([((-2147483648), 2147483647), ((-2147483648), 2147483647), ((-2147483648), 2147483647), ((-2147483648), 2147483647), ((-2147483648), 2147483647)], [], [(0, [(3, 1), (4, (-1))]), (0, [(3, (-1)), (4, 1)])], [], [], [], [])])
theorem lk_1031 : l_core lm_1031 := by
  intro v x h
  have E0 : y_ev x (4, []) = 4 := by show ((4) : Int) + 0 = _; omega
  have E1 : y_ev x (0, [(0, 1)]) = x 0 := by show ((0) : Int) + ((1) * x 0 + 0) = _; omega
  have E2 : y_ev x (0, []) = 0 := by show ((0) : Int) + 0 = _; omega
  have E3 : y_ev x (0, [(1, 1)]) = x 1 := by show ((0) : Int) + ((1) * x 1 + 0) = _; omega
  have E4 : y_ev x (0, [(2, 1)]) = x 2 := by show ((0) : Int) + ((1) * x 2 + 0) = _; omega
  have E5 : y_ev x (0, [(3, 1)]) = x 3 := by show ((0) : Int) + ((1) * x 3 + 0) = _; omega
  have E6 : y_ev x (0, [(4, 1)]) = x 4 := by show ((0) : Int) + ((1) * x 4 + 0) = _; omega
  have T0 : q_qry v (y_ev x (4, [])) (y_ev x (0, [(0, 1)])) (y_ev x (0, [])) (y_ev x (0, [])) (y_ev x (0, [])) (y_ev x (0, [])) (y_ev x (0, [])) (y_ev x (0, [])) (y_ev x (0, [(1, 1)])) (y_ev x (0, [(2, 1)])) (y_ev x (0, [(3, 1)])) := h.2.2.2.1
  try rw [E0] at T0; try rw [E1] at T0; try rw [E2] at T0; try rw [E3] at T0; try rw [E4] at T0; try rw [E5] at T0
  have T1 : q_qry v (y_ev x (4, [])) (y_ev x (0, [(0, 1)])) (y_ev x (0, [])) (y_ev x (0, [])) (y_ev x (0, [])) (y_ev x (0, [])) (y_ev x (0, [])) (y_ev x (0, [])) (y_ev x (0, [(1, 1)])) (y_ev x (0, [(2, 1)])) (y_ev x (0, [(4, 1)])) := h.2.2.2.2.1
  try rw [E0] at T1; try rw [E1] at T1; try rw [E2] at T1; try rw [E3] at T1; try rw [E4] at T1; try rw [E6] at T1
  have K := k_qeLw (V := v) (q := x 0) (k := x 1) (h := x 2) (u := x 3) (w := x 4) T0 T1
  refine l_outH rfl (And.intro h.1 ?_)
  have O0 : y_ev x (0, [(3, 1), (4, (-1))]) = x 3 - x 4 := by show ((0) : Int) + ((1) * x 3 + ((-1) * x 4 + 0)) = _; omega
  have O1 : y_ev x (0, [(3, (-1)), (4, 1)]) = x 4 - x 3 := by show ((0) : Int) + ((-1) * x 3 + ((1) * x 4 + 0)) = _; omega
  show (0 ≤ y_ev x (0, [(3, 1), (4, (-1))]) ∧ 0 ≤ y_ev x (0, [(3, (-1)), (4, 1)]) ∧ True) ∧ (True)
  try rw [O0]; try rw [O1]
  exact K
def lm_1032 : zLem := (([((-2147483648), 2147483647), ((-2147483648), 2147483647)], [(20, false)], [(0, [(0, 1)]), (5, [(0, (-1))])], [], [(0, 0, 0, [(0, 1)])], [(0, (true, 0, 0, [(0, 1)]), 0, 0, 0, [(1, 1)])], []), [([((-2147483648), 2147483647), ((-2147483648), 2147483647)], [(20, false)], [], [], [], [], [(262, [(0, [(0, 1)]), (0, [(1, 1)])])])])
theorem lk_1032 : l_core lm_1032 := by
  intro v x h
  have E0 : y_ev x (0, [(0, 1)]) = x 0 := by show ((0) : Int) + ((1) * x 0 + 0) = _; omega
  have E1 : y_ev x (5, [(0, (-1))]) = 5 - x 0 := by show ((5) : Int) + ((-1) * x 0 + 0) = _; omega
  have E2 : y_ev x (0, [(1, 1)]) = x 1 := by show ((0) : Int) + ((1) * x 1 + 0) = _; omega
  have C0 : 0 ≤ y_ev x (0, [(0, 1)]) := h.2.1.1
  rw [E0] at C0
  have C1 : 0 ≤ y_ev x (5, [(0, (-1))]) := h.2.1.2.1
  rw [E1] at C1
  have F0 : 0 ≤ y_ev x (0, [(0, 1)]) ∧ y_ev x (0, [(0, 1)]) < j_len 20 ∧ v 20 (y_ev x (0, [(0, 1)])) = y_ev x (0, [(1, 1)]) := h.2.2.1.1.1
  try rw [E0] at F0; try rw [E2] at F0
  have K := k_sfvC (V := v) (h := x 0) (u := x 1) C0 C1 F0
  refine l_outH rfl (And.intro h.1 ?_)
  have O0 : y_ev x (0, [(0, 1)]) = x 0 := by show ((0) : Int) + ((1) * x 0 + 0) = _; omega
  have O1 : y_ev x (0, [(1, 1)]) = x 1 := by show ((0) : Int) + ((1) * x 1 + 0) = _; omega
  show (True) ∧ ((v 20 (y_ev x (0, [(0, 1)])) = (y_ev x (0, [(1, 1)]))) ∧ True)
  try rw [O0]; try rw [O1]
  exact K
def lm_1033 : zLem := (([((-2147483648), 2147483647), ((-2147483648), 2147483647), ((-2147483648), 2147483647)], [], [], [], [(0, 0, 0, [(1, 1)]), (0, 0, 0, [(2, 1)])], [], [(262, [(0, [(0, 1)]), (0, [(1, 1)])]), (262, [(0, [(0, 1)]), (0, [(2, 1)])])]), [([((-2147483648), 2147483647), ((-2147483648), 2147483647), ((-2147483648), 2147483647)], [], [(0, [(1, 1), (2, (-1))]), (0, [(1, (-1)), (2, 1)])], [], [], [], [])])
theorem lk_1033 : l_core lm_1033 := by
  intro v x h
  have E0 : y_ev x (0, [(0, 1)]) = x 0 := by show ((0) : Int) + ((1) * x 0 + 0) = _; omega
  have E1 : y_ev x (0, [(1, 1)]) = x 1 := by show ((0) : Int) + ((1) * x 1 + 0) = _; omega
  have E2 : y_ev x (0, [(2, 1)]) = x 2 := by show ((0) : Int) + ((1) * x 2 + 0) = _; omega
  have T0 : v 20 (y_ev x (0, [(0, 1)])) = (y_ev x (0, [(1, 1)])) := h.2.2.2.1
  try rw [E0] at T0; try rw [E1] at T0
  have T1 : v 20 (y_ev x (0, [(0, 1)])) = (y_ev x (0, [(2, 1)])) := h.2.2.2.2.1
  try rw [E0] at T1; try rw [E2] at T1
  have K := k_sfe (V := v) (h := x 0) (u := x 1) (w := x 2) T0 T1
  refine l_outH rfl (And.intro h.1 ?_)
  have O0 : y_ev x (0, [(1, 1), (2, (-1))]) = x 1 - x 2 := by show ((0) : Int) + ((1) * x 1 + ((-1) * x 2 + 0)) = _; omega
  have O1 : y_ev x (0, [(1, (-1)), (2, 1)]) = x 2 - x 1 := by show ((0) : Int) + ((-1) * x 1 + ((1) * x 2 + 0)) = _; omega
  show (0 ≤ y_ev x (0, [(1, 1), (2, (-1))]) ∧ 0 ≤ y_ev x (0, [(1, (-1)), (2, 1)]) ∧ True) ∧ (True)
  try rw [O0]; try rw [O1]
  exact K
def lm_1034 : zLem := (([((-2147483648), 2147483647), ((-2147483648), 2147483647), ((-2147483648), 2147483647)], [(78, false)], [(0, [(0, 1)]), (5, [(0, (-1))])], [], [(0, 0, 0, [(0, 1)])], [(0, (true, 0, 12, [(0, 1)]), 0, 0, 0, [(1, 1)])], [(237, [(0, [(2, 1)]), (0, []), (0, []), (0, []), (0, []), (0, []), (0, []), (0, [])])]), [([((-2147483648), 2147483647), ((-2147483648), 2147483647), ((-2147483648), 2147483647)], [(78, false)], [], [], [], [], [(238, [(8, []), (0, []), (0, []), (0, []), (0, []), (0, []), (0, []), (0, []), (12, [(0, 1)]), (0, []), (0, [(1, 1)])])])])
theorem lk_1034 : l_core lm_1034 := by
  intro v x h
  have E0 : y_ev x (0, [(2, 1)]) = x 2 := by show ((0) : Int) + ((1) * x 2 + 0) = _; omega
  have E1 : y_ev x (0, []) = 0 := by show ((0) : Int) + 0 = _; omega
  have E2 : y_ev x (0, [(0, 1)]) = x 0 := by show ((0) : Int) + ((1) * x 0 + 0) = _; omega
  have E3 : y_ev x (5, [(0, (-1))]) = 5 - x 0 := by show ((5) : Int) + ((-1) * x 0 + 0) = _; omega
  have E4 : y_ev x (12, [(0, 1)]) = x 0 + 12 := by show ((12) : Int) + ((1) * x 0 + 0) = _; omega
  have E5 : y_ev x (0, [(1, 1)]) = x 1 := by show ((0) : Int) + ((1) * x 1 + 0) = _; omega
  have T0 : q_rwo v (y_ev x (0, [(2, 1)])) (y_ev x (0, [])) (y_ev x (0, [])) (y_ev x (0, [])) (y_ev x (0, [])) (y_ev x (0, [])) (y_ev x (0, [])) (y_ev x (0, [])) := h.2.2.2.1
  try rw [E0] at T0; try rw [E1] at T0
  have C0 : 0 ≤ y_ev x (0, [(0, 1)]) := h.2.1.1
  rw [E2] at C0
  have C1 : 0 ≤ y_ev x (5, [(0, (-1))]) := h.2.1.2.1
  rw [E3] at C1
  have F0 : 0 ≤ y_ev x (12, [(0, 1)]) ∧ y_ev x (12, [(0, 1)]) < j_len 78 ∧ v 78 (y_ev x (12, [(0, 1)])) = y_ev x (0, [(1, 1)]) := h.2.2.1.1.1
  try rw [E4] at F0; try rw [E5] at F0
  have K := k_rcelz12 (V := v) (h := x 0) (u := x 1) (H := x 2) T0 C0 C1 F0
  refine l_outH rfl (And.intro h.1 ?_)
  have O0 : y_ev x (8, []) = 8 := by show ((8) : Int) + 0 = _; omega
  have O1 : y_ev x (0, []) = 0 := by show ((0) : Int) + 0 = _; omega
  have O2 : y_ev x (12, [(0, 1)]) = x 0 + 12 := by show ((12) : Int) + ((1) * x 0 + 0) = _; omega
  have O3 : y_ev x (0, [(1, 1)]) = x 1 := by show ((0) : Int) + ((1) * x 1 + 0) = _; omega
  show (True) ∧ (q_qry v (y_ev x (8, [])) (y_ev x (0, [])) (y_ev x (0, [])) (y_ev x (0, [])) (y_ev x (0, [])) (y_ev x (0, [])) (y_ev x (0, [])) (y_ev x (0, [])) (y_ev x (12, [(0, 1)])) (y_ev x (0, [])) (y_ev x (0, [(1, 1)])) ∧ True)
  try rw [O0]; try rw [O1]; try rw [O2]; try rw [O3]
  exact K
def lm_1035 : zLem := (([((-2147483648), 2147483647), ((-2147483648), 2147483647), ((-2147483648), 2147483647)], [], [(0, [(0, 1)]), (5, [(0, (-1))]), (0, [(1, (-1))])], [], [(0, 0, 0, [(0, 1)])], [], [(237, [(0, [(2, 1)]), (0, []), (0, []), (0, []), (0, []), (0, []), (0, []), (0, [])]), (238, [(8, []), (0, []), (0, []), (0, []), (0, []), (0, []), (0, []), (0, []), (6, [(0, 1)]), (0, []), (0, [(1, 1)])])]), [([((-2147483648), 2147483647), ((-2147483648), 2147483647), ((-2147483648), 2147483647)], [], [], [], [], [], [(238, [(6, []), (0, []), (0, []), (0, []), (0, []), (0, []), (0, []), (0, []), (0, [(0, 1)]), (0, []), ((-1), [])])])])
theorem lk_1035 : l_core lm_1035 := by
  intro v x h
  have E0 : y_ev x (0, [(2, 1)]) = x 2 := by show ((0) : Int) + ((1) * x 2 + 0) = _; omega
  have E1 : y_ev x (0, []) = 0 := by show ((0) : Int) + 0 = _; omega
  have E2 : y_ev x (8, []) = 8 := by show ((8) : Int) + 0 = _; omega
  have E3 : y_ev x (6, [(0, 1)]) = x 0 + 6 := by show ((6) : Int) + ((1) * x 0 + 0) = _; omega
  have E4 : y_ev x (0, [(1, 1)]) = x 1 := by show ((0) : Int) + ((1) * x 1 + 0) = _; omega
  have E5 : y_ev x (0, [(0, 1)]) = x 0 := by show ((0) : Int) + ((1) * x 0 + 0) = _; omega
  have E6 : y_ev x (5, [(0, (-1))]) = 5 - x 0 := by show ((5) : Int) + ((-1) * x 0 + 0) = _; omega
  have E7 : y_ev x (0, [(1, (-1))]) = -x 1 := by show ((0) : Int) + ((-1) * x 1 + 0) = _; omega
  have T0 : q_rwo v (y_ev x (0, [(2, 1)])) (y_ev x (0, [])) (y_ev x (0, [])) (y_ev x (0, [])) (y_ev x (0, [])) (y_ev x (0, [])) (y_ev x (0, [])) (y_ev x (0, [])) := h.2.2.2.1
  try rw [E0] at T0; try rw [E1] at T0
  have T1 : q_qry v (y_ev x (8, [])) (y_ev x (0, [])) (y_ev x (0, [])) (y_ev x (0, [])) (y_ev x (0, [])) (y_ev x (0, [])) (y_ev x (0, [])) (y_ev x (0, [])) (y_ev x (6, [(0, 1)])) (y_ev x (0, [])) (y_ev x (0, [(1, 1)])) := h.2.2.2.2.1
  try rw [E2] at T1; try rw [E1] at T1; try rw [E3] at T1; try rw [E4] at T1
  have C0 : 0 ≤ y_ev x (0, [(0, 1)]) := h.2.1.1
  rw [E5] at C0
  have C1 : 0 ≤ y_ev x (5, [(0, (-1))]) := h.2.1.2.1
  rw [E6] at C1
  have C2 : 0 ≤ y_ev x (0, [(1, (-1))]) := h.2.1.2.2.1
  rw [E7] at C2
  have K := k_plcN (V := v) (h := x 0) (x := x 1) (H := x 2) T0 T1 C0 C1 C2
  refine l_outH rfl (And.intro h.1 ?_)
  have O0 : y_ev x (6, []) = 6 := by show ((6) : Int) + 0 = _; omega
  have O1 : y_ev x (0, []) = 0 := by show ((0) : Int) + 0 = _; omega
  have O2 : y_ev x (0, [(0, 1)]) = x 0 := by show ((0) : Int) + ((1) * x 0 + 0) = _; omega
  have O3 : y_ev x ((-1), []) = (-1) := by show ((-1) : Int) + 0 = _; omega
  show (True) ∧ (q_qry v (y_ev x (6, [])) (y_ev x (0, [])) (y_ev x (0, [])) (y_ev x (0, [])) (y_ev x (0, [])) (y_ev x (0, [])) (y_ev x (0, [])) (y_ev x (0, [])) (y_ev x (0, [(0, 1)])) (y_ev x (0, [])) (y_ev x ((-1), [])) ∧ True)
  try rw [O0]; try rw [O1]; try rw [O2]; try rw [O3]
  exact K
def lm_1036 : zLem := (([((-2147483648), 2147483647), ((-2147483648), 2147483647), ((-2147483648), 2147483647), ((-2147483648), 2147483647), ((-2147483648), 2147483647), ((-2147483648), 2147483647), ((-2147483648), 2147483647)], [], [(0, [(0, 1)]), (6, [(3, (-1))]), (0, [(1, (-1))])], [], [(0, 0, 0, [(0, 1)]), (0, 0, 0, [(1, 1)])], [], [(235, [(0, [(2, 1)]), (0, [(3, 1)]), (0, [(4, 1)]), (0, [(5, 1)]), (0, []), (0, []), (0, []), (0, []), (0, []), (0, []), (0, [])]), (238, [(6, []), (0, []), (0, []), (0, []), (0, []), (0, []), (0, []), (0, []), (0, [(6, 1)]), (0, []), (0, [(0, 1)])]), (238, [(1, []), (0, []), (0, []), (0, []), (0, []), (0, []), (0, []), (0, []), (0, []), (0, [(3, 1)]), (0, [(1, 1)])])]), [([((-2147483648), 2147483647), ((-2147483648), 2147483647), ((-2147483648), 2147483647), ((-2147483648), 2147483647), ((-2147483648), 2147483647), ((-2147483648), 2147483647), ((-2147483648), 2147483647)], [], [((-1), [])], [], [], [], [])])
theorem lk_1036 : l_core lm_1036 := by
  intro v x h
  have E0 : y_ev x (0, [(2, 1)]) = x 2 := by show ((0) : Int) + ((1) * x 2 + 0) = _; omega
  have E1 : y_ev x (0, [(3, 1)]) = x 3 := by show ((0) : Int) + ((1) * x 3 + 0) = _; omega
  have E2 : y_ev x (0, [(4, 1)]) = x 4 := by show ((0) : Int) + ((1) * x 4 + 0) = _; omega
  have E3 : y_ev x (0, [(5, 1)]) = x 5 := by show ((0) : Int) + ((1) * x 5 + 0) = _; omega
  have E4 : y_ev x (0, []) = 0 := by show ((0) : Int) + 0 = _; omega
  have E5 : y_ev x (6, []) = 6 := by show ((6) : Int) + 0 = _; omega
  have E6 : y_ev x (0, [(6, 1)]) = x 6 := by show ((0) : Int) + ((1) * x 6 + 0) = _; omega
  have E7 : y_ev x (0, [(0, 1)]) = x 0 := by show ((0) : Int) + ((1) * x 0 + 0) = _; omega
  have E8 : y_ev x (1, []) = 1 := by show ((1) : Int) + 0 = _; omega
  have E9 : y_ev x (0, [(1, 1)]) = x 1 := by show ((0) : Int) + ((1) * x 1 + 0) = _; omega
  have E10 : y_ev x (6, [(3, (-1))]) = 6 - x 3 := by show ((6) : Int) + ((-1) * x 3 + 0) = _; omega
  have E11 : y_ev x (0, [(1, (-1))]) = -x 1 := by show ((0) : Int) + ((-1) * x 1 + 0) = _; omega
  have T0 : q_sto v 0 (y_ev x (0, [(2, 1)])) (y_ev x (0, [(3, 1)])) (y_ev x (0, [(4, 1)])) (y_ev x (0, [(5, 1)])) (y_ev x (0, [])) (y_ev x (0, [])) (y_ev x (0, [])) (y_ev x (0, [])) (y_ev x (0, [])) (y_ev x (0, [])) (y_ev x (0, [])) := h.2.2.2.1
  try rw [E0] at T0; try rw [E1] at T0; try rw [E2] at T0; try rw [E3] at T0; try rw [E4] at T0
  have T1 : q_qry v (y_ev x (6, [])) (y_ev x (0, [])) (y_ev x (0, [])) (y_ev x (0, [])) (y_ev x (0, [])) (y_ev x (0, [])) (y_ev x (0, [])) (y_ev x (0, [])) (y_ev x (0, [(6, 1)])) (y_ev x (0, [])) (y_ev x (0, [(0, 1)])) := h.2.2.2.2.1
  try rw [E5] at T1; try rw [E4] at T1; try rw [E6] at T1; try rw [E7] at T1
  have T2 : q_qry v (y_ev x (1, [])) (y_ev x (0, [])) (y_ev x (0, [])) (y_ev x (0, [])) (y_ev x (0, [])) (y_ev x (0, [])) (y_ev x (0, [])) (y_ev x (0, [])) (y_ev x (0, [])) (y_ev x (0, [(3, 1)])) (y_ev x (0, [(1, 1)])) := h.2.2.2.2.2.1
  try rw [E8] at T2; try rw [E4] at T2; try rw [E1] at T2; try rw [E9] at T2
  have C0 : 0 ≤ y_ev x (0, [(0, 1)]) := h.2.1.1
  rw [E7] at C0
  have C1 : 0 ≤ y_ev x (6, [(3, (-1))]) := h.2.1.2.1
  rw [E10] at C1
  have C2 : 0 ≤ y_ev x (0, [(1, (-1))]) := h.2.1.2.2.1
  rw [E11] at C2
  have K := k_suml (V := v) (i := x 0) (n := x 1) (H := x 2) (p := x 3) (y := x 4) (d := x 5) (h := x 6) T0 T1 T2 C0 C1 C2
  refine l_outH rfl (And.intro h.1 ?_)
  have O0 : y_ev x ((-1), []) = (-1) := by show ((-1) : Int) + 0 = _; omega
  show (0 ≤ y_ev x ((-1), []) ∧ True) ∧ (True)
  try rw [O0]
  exact K
def lm_1037 : zLem := (([((-2147483648), 2147483647), ((-2147483648), 2147483647), ((-2147483648), 2147483647), ((-2147483648), 2147483647), ((-2147483648), 2147483647)], [(78, false)], [(0, [(0, 1)]), (5, [(0, (-1))]), ((-1), [(1, 1)])], [], [(0, 0, 0, [(0, 1)]), (0, 0, 0, [(3, 1)])], [(0, (true, 0, 24, []), 0, 0, 0, [(2, 1)])], [(237, [(0, [(4, 1)]), (0, []), (0, []), (0, []), (0, []), (0, []), (0, []), (0, [])]), (238, [(8, []), (0, []), (0, []), (0, []), (0, []), (0, []), (0, []), (0, []), (6, [(0, 1)]), (0, []), (0, [(1, 1)])]), (238, [(1, []), (0, []), (0, []), (0, []), (0, []), (0, []), (0, []), (0, []), (0, []), (0, [(2, 1)]), (0, [(3, 1)])])]), [([((-2147483648), 2147483647), ((-2147483648), 2147483647), ((-2147483648), 2147483647), ((-2147483648), 2147483647), ((-2147483648), 2147483647)], [(78, false)], [((-1), [(3, 1)])], [], [], [], [])])
theorem lk_1037 : l_core lm_1037 := by
  intro v x h
  have E0 : y_ev x (0, [(4, 1)]) = x 4 := by show ((0) : Int) + ((1) * x 4 + 0) = _; omega
  have E1 : y_ev x (0, []) = 0 := by show ((0) : Int) + 0 = _; omega
  have E2 : y_ev x (8, []) = 8 := by show ((8) : Int) + 0 = _; omega
  have E3 : y_ev x (6, [(0, 1)]) = x 0 + 6 := by show ((6) : Int) + ((1) * x 0 + 0) = _; omega
  have E4 : y_ev x (0, [(1, 1)]) = x 1 := by show ((0) : Int) + ((1) * x 1 + 0) = _; omega
  have E5 : y_ev x (1, []) = 1 := by show ((1) : Int) + 0 = _; omega
  have E6 : y_ev x (0, [(2, 1)]) = x 2 := by show ((0) : Int) + ((1) * x 2 + 0) = _; omega
  have E7 : y_ev x (0, [(3, 1)]) = x 3 := by show ((0) : Int) + ((1) * x 3 + 0) = _; omega
  have E8 : y_ev x (0, [(0, 1)]) = x 0 := by show ((0) : Int) + ((1) * x 0 + 0) = _; omega
  have E9 : y_ev x (5, [(0, (-1))]) = 5 - x 0 := by show ((5) : Int) + ((-1) * x 0 + 0) = _; omega
  have E10 : y_ev x ((-1), [(1, 1)]) = x 1 - 1 := by show ((-1) : Int) + ((1) * x 1 + 0) = _; omega
  have E11 : y_ev x (24, []) = 24 := by show ((24) : Int) + 0 = _; omega
  have T0 : q_rwo v (y_ev x (0, [(4, 1)])) (y_ev x (0, [])) (y_ev x (0, [])) (y_ev x (0, [])) (y_ev x (0, [])) (y_ev x (0, [])) (y_ev x (0, [])) (y_ev x (0, [])) := h.2.2.2.1
  try rw [E0] at T0; try rw [E1] at T0
  have T1 : q_qry v (y_ev x (8, [])) (y_ev x (0, [])) (y_ev x (0, [])) (y_ev x (0, [])) (y_ev x (0, [])) (y_ev x (0, [])) (y_ev x (0, [])) (y_ev x (0, [])) (y_ev x (6, [(0, 1)])) (y_ev x (0, [])) (y_ev x (0, [(1, 1)])) := h.2.2.2.2.1
  try rw [E2] at T1; try rw [E1] at T1; try rw [E3] at T1; try rw [E4] at T1
  have T2 : q_qry v (y_ev x (1, [])) (y_ev x (0, [])) (y_ev x (0, [])) (y_ev x (0, [])) (y_ev x (0, [])) (y_ev x (0, [])) (y_ev x (0, [])) (y_ev x (0, [])) (y_ev x (0, [])) (y_ev x (0, [(2, 1)])) (y_ev x (0, [(3, 1)])) := h.2.2.2.2.2.1
  try rw [E5] at T2; try rw [E1] at T2; try rw [E6] at T2; try rw [E7] at T2
  have C0 : 0 ≤ y_ev x (0, [(0, 1)]) := h.2.1.1
  rw [E8] at C0
  have C1 : 0 ≤ y_ev x (5, [(0, (-1))]) := h.2.1.2.1
  rw [E9] at C1
  have C2 : 0 ≤ y_ev x ((-1), [(1, 1)]) := h.2.1.2.2.1
  rw [E10] at C2
  have F0 : 0 ≤ y_ev x (24, []) ∧ y_ev x (24, []) < j_len 78 ∧ v 78 (y_ev x (24, [])) = y_ev x (0, [(2, 1)]) := h.2.2.1.1.1
  try rw [E11] at F0; try rw [E6] at F0
  have K := k_msuml (V := v) (h := x 0) (x := x 1) (p := x 2) (n := x 3) (H := x 4) T0 T1 T2 C0 C1 C2 F0
  refine l_outH rfl (And.intro h.1 ?_)
  have O0 : y_ev x ((-1), [(3, 1)]) = x 3 - 1 := by show ((-1) : Int) + ((1) * x 3 + 0) = _; omega
  show (0 ≤ y_ev x ((-1), [(3, 1)]) ∧ True) ∧ (True)
  try rw [O0]
  exact K
def lm_1038 : zLem := (([((-2147483648), 2147483647), ((-2147483648), 2147483647), ((-2147483648), 2147483647), ((-2147483648), 2147483647), ((-2147483648), 2147483647), ((-2147483648), 2147483647)], [], [(0, [(0, 1), (1, (-1))]), (0, [(0, (-1)), (1, 1)]), (0, [(2, 1), (3, (-1))]), (0, [(2, (-1)), (3, 1)])], [], [(0, 0, 0, [(4, 1)]), (0, 0, 0, [(5, 1)])], [], [(107, [(0, [(0, 1)]), (0, [(2, 1)]), (0, [(4, 1)])]), (107, [(0, [(1, 1)]), (0, [(3, 1)]), (0, [(5, 1)])])]), [([((-2147483648), 2147483647), ((-2147483648), 2147483647), ((-2147483648), 2147483647), ((-2147483648), 2147483647), ((-2147483648), 2147483647), ((-2147483648), 2147483647)], [], [(0, [(4, 1), (5, (-1))]), (0, [(4, (-1)), (5, 1)])], [], [], [], [])])
theorem lk_1038 : l_core lm_1038 := by
  intro v x h
  have E0 : y_ev x (0, [(0, 1)]) = x 0 := by show ((0) : Int) + ((1) * x 0 + 0) = _; omega
  have E1 : y_ev x (0, [(2, 1)]) = x 2 := by show ((0) : Int) + ((1) * x 2 + 0) = _; omega
  have E2 : y_ev x (0, [(4, 1)]) = x 4 := by show ((0) : Int) + ((1) * x 4 + 0) = _; omega
  have E3 : y_ev x (0, [(1, 1)]) = x 1 := by show ((0) : Int) + ((1) * x 1 + 0) = _; omega
  have E4 : y_ev x (0, [(3, 1)]) = x 3 := by show ((0) : Int) + ((1) * x 3 + 0) = _; omega
  have E5 : y_ev x (0, [(5, 1)]) = x 5 := by show ((0) : Int) + ((1) * x 5 + 0) = _; omega
  have E6 : y_ev x (0, [(0, 1), (1, (-1))]) = x 0 - x 1 := by show ((0) : Int) + ((1) * x 0 + ((-1) * x 1 + 0)) = _; omega
  have E7 : y_ev x (0, [(0, (-1)), (1, 1)]) = x 1 - x 0 := by show ((0) : Int) + ((-1) * x 0 + ((1) * x 1 + 0)) = _; omega
  have E8 : y_ev x (0, [(2, 1), (3, (-1))]) = x 2 - x 3 := by show ((0) : Int) + ((1) * x 2 + ((-1) * x 3 + 0)) = _; omega
  have E9 : y_ev x (0, [(2, (-1)), (3, 1)]) = x 3 - x 2 := by show ((0) : Int) + ((-1) * x 2 + ((1) * x 3 + 0)) = _; omega
  have T0 : (mOP 107 (Int32.ofInt (y_ev x (0, [(0, 1)]))) (Int32.ofInt (y_ev x (0, [(2, 1)])))).toInt = (y_ev x (0, [(4, 1)])) := h.2.2.2.1
  try rw [E0] at T0; try rw [E1] at T0; try rw [E2] at T0
  have T1 : (mOP 107 (Int32.ofInt (y_ev x (0, [(1, 1)]))) (Int32.ofInt (y_ev x (0, [(3, 1)])))).toInt = (y_ev x (0, [(5, 1)])) := h.2.2.2.2.1
  try rw [E3] at T1; try rw [E4] at T1; try rw [E5] at T1
  have C0 : 0 ≤ y_ev x (0, [(0, 1), (1, (-1))]) := h.2.1.1
  rw [E6] at C0
  have C1 : 0 ≤ y_ev x (0, [(0, (-1)), (1, 1)]) := h.2.1.2.1
  rw [E7] at C1
  have C2 : 0 ≤ y_ev x (0, [(2, 1), (3, (-1))]) := h.2.1.2.2.1
  rw [E8] at C2
  have C3 : 0 ≤ y_ev x (0, [(2, (-1)), (3, 1)]) := h.2.1.2.2.2.1
  rw [E9] at C3
  have K := k_qdiv (V := v) (a := x 0) (b := x 1) (n := x 2) (k := x 3) (u := x 4) (w := x 5) T0 T1 C0 C1 C2 C3
  refine l_outH rfl (And.intro h.1 ?_)
  have O0 : y_ev x (0, [(4, 1), (5, (-1))]) = x 4 - x 5 := by show ((0) : Int) + ((1) * x 4 + ((-1) * x 5 + 0)) = _; omega
  have O1 : y_ev x (0, [(4, (-1)), (5, 1)]) = x 5 - x 4 := by show ((0) : Int) + ((-1) * x 4 + ((1) * x 5 + 0)) = _; omega
  show (0 ≤ y_ev x (0, [(4, 1), (5, (-1))]) ∧ 0 ≤ y_ev x (0, [(4, (-1)), (5, 1)]) ∧ True) ∧ (True)
  try rw [O0]; try rw [O1]
  exact K
def lm_1039 : zLem := (([((-2147483648), 2147483647), ((-2147483648), 2147483647), ((-2147483648), 2147483647), ((-2147483648), 2147483647), ((-2147483648), 2147483647), ((-2147483648), 2147483647), ((-2147483648), 2147483647), ((-2147483648), 2147483647), ((-2147483648), 2147483647), ((-2147483648), 2147483647)], [], [(0, [(0, 1), (8, (-1000))]), (0, [(0, (-1)), (8, 1000)]), (0, [(1, 1), (9, (-1000))]), (0, [(1, (-1)), (9, 1000)])], [], [(0, 0, 0, [(4, 1)]), (0, 0, 0, [(5, 1)])], [], [(260, [(8, []), (0, []), (0, []), (0, []), (0, []), (0, []), (0, []), (0, []), (0, [(6, 1)]), (0, []), (0, [(8, 1)])]), (238, [(8, []), (0, []), (0, []), (0, []), (0, []), (0, []), (0, []), (0, []), (0, [(6, 1)]), (0, []), (0, [(9, 1)])]), (260, [(1, []), (0, []), (0, []), (0, []), (0, []), (0, []), (0, []), (0, []), (0, []), (0, [(7, 1)]), (0, [(2, 1)])]), (238, [(1, []), (0, []), (0, []), (0, []), (0, []), (0, []), (0, []), (0, []), (0, []), (0, [(7, 1)]), (0, [(3, 1)])]), (107, [(0, [(0, 1)]), (0, [(2, 1)]), (0, [(4, 1)])]), (107, [(0, [(1, 1)]), (0, [(3, 1)]), (0, [(5, 1)])])]), [([((-2147483648), 2147483647), ((-2147483648), 2147483647), ((-2147483648), 2147483647), ((-2147483648), 2147483647), ((-2147483648), 2147483647), ((-2147483648), 2147483647), ((-2147483648), 2147483647), ((-2147483648), 2147483647), ((-2147483648), 2147483647), ((-2147483648), 2147483647)], [], [(0, [(4, 1), (5, (-1))]), (0, [(4, (-1)), (5, 1)])], [], [], [], [])])
theorem lk_1039 : l_core lm_1039 := by
  intro v x h
  have E0 : y_ev x (8, []) = 8 := by show ((8) : Int) + 0 = _; omega
  have E1 : y_ev x (0, []) = 0 := by show ((0) : Int) + 0 = _; omega
  have E2 : y_ev x (0, [(6, 1)]) = x 6 := by show ((0) : Int) + ((1) * x 6 + 0) = _; omega
  have E3 : y_ev x (0, [(8, 1)]) = x 8 := by show ((0) : Int) + ((1) * x 8 + 0) = _; omega
  have E4 : y_ev x (0, [(9, 1)]) = x 9 := by show ((0) : Int) + ((1) * x 9 + 0) = _; omega
  have E5 : y_ev x (1, []) = 1 := by show ((1) : Int) + 0 = _; omega
  have E6 : y_ev x (0, [(7, 1)]) = x 7 := by show ((0) : Int) + ((1) * x 7 + 0) = _; omega
  have E7 : y_ev x (0, [(2, 1)]) = x 2 := by show ((0) : Int) + ((1) * x 2 + 0) = _; omega
  have E8 : y_ev x (0, [(3, 1)]) = x 3 := by show ((0) : Int) + ((1) * x 3 + 0) = _; omega
  have E9 : y_ev x (0, [(0, 1)]) = x 0 := by show ((0) : Int) + ((1) * x 0 + 0) = _; omega
  have E10 : y_ev x (0, [(4, 1)]) = x 4 := by show ((0) : Int) + ((1) * x 4 + 0) = _; omega
  have E11 : y_ev x (0, [(1, 1)]) = x 1 := by show ((0) : Int) + ((1) * x 1 + 0) = _; omega
  have E12 : y_ev x (0, [(5, 1)]) = x 5 := by show ((0) : Int) + ((1) * x 5 + 0) = _; omega
  have E13 : y_ev x (0, [(0, 1), (8, (-1000))]) = x 0 - 1000 * x 8 := by show ((0) : Int) + ((1) * x 0 + ((-1000) * x 8 + 0)) = _; omega
  have E14 : y_ev x (0, [(0, (-1)), (8, 1000)]) = 1000 * x 8 - x 0 := by show ((0) : Int) + ((-1) * x 0 + ((1000) * x 8 + 0)) = _; omega
  have E15 : y_ev x (0, [(1, 1), (9, (-1000))]) = x 1 - 1000 * x 9 := by show ((0) : Int) + ((1) * x 1 + ((-1000) * x 9 + 0)) = _; omega
  have E16 : y_ev x (0, [(1, (-1)), (9, 1000)]) = 1000 * x 9 - x 1 := by show ((0) : Int) + ((-1) * x 1 + ((1000) * x 9 + 0)) = _; omega
  have T0 : q_qry v (y_ev x (8, [])) (y_ev x (0, [])) (y_ev x (0, [])) (y_ev x (0, [])) (y_ev x (0, [])) (y_ev x (0, [])) (y_ev x (0, [])) (y_ev x (0, [])) (y_ev x (0, [(6, 1)])) (y_ev x (0, [])) (y_ev x (0, [(8, 1)])) := h.2.2.2.1
  try rw [E0] at T0; try rw [E1] at T0; try rw [E2] at T0; try rw [E3] at T0
  have T1 : q_qry v (y_ev x (8, [])) (y_ev x (0, [])) (y_ev x (0, [])) (y_ev x (0, [])) (y_ev x (0, [])) (y_ev x (0, [])) (y_ev x (0, [])) (y_ev x (0, [])) (y_ev x (0, [(6, 1)])) (y_ev x (0, [])) (y_ev x (0, [(9, 1)])) := h.2.2.2.2.1
  try rw [E0] at T1; try rw [E1] at T1; try rw [E2] at T1; try rw [E4] at T1
  have T2 : q_qry v (y_ev x (1, [])) (y_ev x (0, [])) (y_ev x (0, [])) (y_ev x (0, [])) (y_ev x (0, [])) (y_ev x (0, [])) (y_ev x (0, [])) (y_ev x (0, [])) (y_ev x (0, [])) (y_ev x (0, [(7, 1)])) (y_ev x (0, [(2, 1)])) := h.2.2.2.2.2.1
  try rw [E5] at T2; try rw [E1] at T2; try rw [E6] at T2; try rw [E7] at T2
  have T3 : q_qry v (y_ev x (1, [])) (y_ev x (0, [])) (y_ev x (0, [])) (y_ev x (0, [])) (y_ev x (0, [])) (y_ev x (0, [])) (y_ev x (0, [])) (y_ev x (0, [])) (y_ev x (0, [])) (y_ev x (0, [(7, 1)])) (y_ev x (0, [(3, 1)])) := h.2.2.2.2.2.2.1
  try rw [E5] at T3; try rw [E1] at T3; try rw [E6] at T3; try rw [E8] at T3
  have T4 : (mOP 107 (Int32.ofInt (y_ev x (0, [(0, 1)]))) (Int32.ofInt (y_ev x (0, [(2, 1)])))).toInt = (y_ev x (0, [(4, 1)])) := h.2.2.2.2.2.2.2.1
  try rw [E9] at T4; try rw [E7] at T4; try rw [E10] at T4
  have T5 : (mOP 107 (Int32.ofInt (y_ev x (0, [(1, 1)]))) (Int32.ofInt (y_ev x (0, [(3, 1)])))).toInt = (y_ev x (0, [(5, 1)])) := h.2.2.2.2.2.2.2.2.1
  try rw [E11] at T5; try rw [E8] at T5; try rw [E12] at T5
  have C0 : 0 ≤ y_ev x (0, [(0, 1), (8, (-1000))]) := h.2.1.1
  rw [E13] at C0
  have C1 : 0 ≤ y_ev x (0, [(0, (-1)), (8, 1000)]) := h.2.1.2.1
  rw [E14] at C1
  have C2 : 0 ≤ y_ev x (0, [(1, 1), (9, (-1000))]) := h.2.1.2.2.1
  rw [E15] at C2
  have C3 : 0 ≤ y_ev x (0, [(1, (-1)), (9, 1000)]) := h.2.1.2.2.2.1
  rw [E16] at C3
  have K := k_qshr (V := v) (a := x 0) (b := x 1) (n := x 2) (k := x 3) (u := x 4) (w := x 5) (h := x 6) (p := x 7) (x := x 8) (y := x 9) T0 T1 T2 T3 T4 T5 C0 C1 C2 C3
  refine l_outH rfl (And.intro h.1 ?_)
  have O0 : y_ev x (0, [(4, 1), (5, (-1))]) = x 4 - x 5 := by show ((0) : Int) + ((1) * x 4 + ((-1) * x 5 + 0)) = _; omega
  have O1 : y_ev x (0, [(4, (-1)), (5, 1)]) = x 5 - x 4 := by show ((0) : Int) + ((-1) * x 4 + ((1) * x 5 + 0)) = _; omega
  show (0 ≤ y_ev x (0, [(4, 1), (5, (-1))]) ∧ 0 ≤ y_ev x (0, [(4, (-1)), (5, 1)]) ∧ True) ∧ (True)
  try rw [O0]; try rw [O1]
  exact K
def lm_1040 : zLem := (([((-2147483648), 2147483647), ((-2147483648), 2147483647), ((-2147483648), 2147483647), ((-2147483648), 2147483647), ((-2147483648), 2147483647), ((-2147483648), 2147483647), ((-2147483648), 2147483647), ((-2147483648), 2147483647)], [], [], [], [], [], [(252, [(0, [(1, 1)]), (0, [(2, 1)]), (0, [(3, 1)]), (0, [(4, 1)]), (0, [(5, 1)]), (0, [(6, 1)]), (0, [(7, 1)]), ((-2), []), (0, [(0, 1)])])]), [([((-2147483648), 2147483647), ((-2147483648), 2147483647), ((-2147483648), 2147483647), ((-2147483648), 2147483647), ((-2147483648), 2147483647), ((-2147483648), 2147483647), ((-2147483648), 2147483647), ((-2147483648), 2147483647)], [], [], [], [], [], [(238, [(26, []), (0, [(1, 1)]), (0, [(2, 1)]), (0, [(3, 1)]), (0, [(4, 1)]), (0, [(5, 1)]), (0, [(6, 1)]), (0, [(7, 1)]), (999, []), (1, []), (999, [])])])])
theorem lk_1040 : l_core lm_1040 := by
  intro v x h
  have E0 : y_ev x (0, [(1, 1)]) = x 1 := by show ((0) : Int) + ((1) * x 1 + 0) = _; omega
  have E1 : y_ev x (0, [(2, 1)]) = x 2 := by show ((0) : Int) + ((1) * x 2 + 0) = _; omega
  have E2 : y_ev x (0, [(3, 1)]) = x 3 := by show ((0) : Int) + ((1) * x 3 + 0) = _; omega
  have E3 : y_ev x (0, [(4, 1)]) = x 4 := by show ((0) : Int) + ((1) * x 4 + 0) = _; omega
  have E4 : y_ev x (0, [(5, 1)]) = x 5 := by show ((0) : Int) + ((1) * x 5 + 0) = _; omega
  have E5 : y_ev x (0, [(6, 1)]) = x 6 := by show ((0) : Int) + ((1) * x 6 + 0) = _; omega
  have E6 : y_ev x (0, [(7, 1)]) = x 7 := by show ((0) : Int) + ((1) * x 7 + 0) = _; omega
  have E7 : y_ev x ((-2), []) = (-2) := by show ((-2) : Int) + 0 = _; omega
  have E8 : y_ev x (0, [(0, 1)]) = x 0 := by show ((0) : Int) + ((1) * x 0 + 0) = _; omega
  have T0 : q_mgn v (y_ev x (0, [(1, 1)])) (y_ev x (0, [(2, 1)])) (y_ev x (0, [(3, 1)])) (y_ev x (0, [(4, 1)])) (y_ev x (0, [(5, 1)])) (y_ev x (0, [(6, 1)])) (y_ev x (0, [(7, 1)])) (y_ev x ((-2), [])) (y_ev x (0, [(0, 1)])) := h.2.2.2.1
  try rw [E0] at T0; try rw [E1] at T0; try rw [E2] at T0; try rw [E3] at T0; try rw [E4] at T0; try rw [E5] at T0; try rw [E6] at T0; try rw [E7] at T0; try rw [E8] at T0
  have K := k_min0 (V := v) (m := x 0) (q := x 1) (b := x 2) (s := x 3) (o := x 4) (a1 := x 5) (a2 := x 6) (a3 := x 7) T0
  refine l_outH rfl (And.intro h.1 ?_)
  have O0 : y_ev x (26, []) = 26 := by show ((26) : Int) + 0 = _; omega
  have O1 : y_ev x (0, [(1, 1)]) = x 1 := by show ((0) : Int) + ((1) * x 1 + 0) = _; omega
  have O2 : y_ev x (0, [(2, 1)]) = x 2 := by show ((0) : Int) + ((1) * x 2 + 0) = _; omega
  have O3 : y_ev x (0, [(3, 1)]) = x 3 := by show ((0) : Int) + ((1) * x 3 + 0) = _; omega
  have O4 : y_ev x (0, [(4, 1)]) = x 4 := by show ((0) : Int) + ((1) * x 4 + 0) = _; omega
  have O5 : y_ev x (0, [(5, 1)]) = x 5 := by show ((0) : Int) + ((1) * x 5 + 0) = _; omega
  have O6 : y_ev x (0, [(6, 1)]) = x 6 := by show ((0) : Int) + ((1) * x 6 + 0) = _; omega
  have O7 : y_ev x (0, [(7, 1)]) = x 7 := by show ((0) : Int) + ((1) * x 7 + 0) = _; omega
  have O8 : y_ev x (999, []) = 999 := by show ((999) : Int) + 0 = _; omega
  have O9 : y_ev x (1, []) = 1 := by show ((1) : Int) + 0 = _; omega
  show (True) ∧ (q_qry v (y_ev x (26, [])) (y_ev x (0, [(1, 1)])) (y_ev x (0, [(2, 1)])) (y_ev x (0, [(3, 1)])) (y_ev x (0, [(4, 1)])) (y_ev x (0, [(5, 1)])) (y_ev x (0, [(6, 1)])) (y_ev x (0, [(7, 1)])) (y_ev x (999, [])) (y_ev x (1, [])) (y_ev x (999, [])) ∧ True)
  try rw [O0]; try rw [O1]; try rw [O2]; try rw [O3]; try rw [O4]; try rw [O5]; try rw [O6]; try rw [O7]; try rw [O8]; try rw [O9]
  exact K
def lm_1041 : zLem := (([((-2147483648), 2147483647), ((-2147483648), 2147483647), ((-2147483648), 2147483647), ((-2147483648), 2147483647), ((-2147483648), 2147483647), ((-2147483648), 2147483647), ((-2147483648), 2147483647), ((-2147483648), 2147483647), ((-2147483648), 2147483647), ((-2147483648), 2147483647), ((-2147483648), 2147483647)], [(25, false)], [(0, [(1, 1)]), ((-1), [(1, (-1)), (3, 1)]), (0, [(0, (-1)), (2, 1)])], [], [(0, 0, 0, [(0, 1)]), (0, 0, 0, [(1, 1)])], [(0, (true, 0, 0, [(1, 1)]), 0, 0, 0, [(2, 1)])], [(252, [(0, [(4, 1)]), (0, [(5, 1)]), (0, [(6, 1)]), (0, [(7, 1)]), (0, [(8, 1)]), (0, [(9, 1)]), (0, [(10, 1)]), ((-2), []), (0, [(3, 1)])]), (238, [(26, []), (0, [(4, 1)]), (0, [(5, 1)]), (0, [(6, 1)]), (0, [(7, 1)]), (0, [(8, 1)]), (0, [(9, 1)]), (0, [(10, 1)]), (999, []), (1, [(1, 1)]), (0, [(0, 1)])])]), [([((-2147483648), 2147483647), ((-2147483648), 2147483647), ((-2147483648), 2147483647), ((-2147483648), 2147483647), ((-2147483648), 2147483647), ((-2147483648), 2147483647), ((-2147483648), 2147483647), ((-2147483648), 2147483647), ((-2147483648), 2147483647), ((-2147483648), 2147483647), ((-2147483648), 2147483647)], [(25, false)], [], [], [], [], [(238, [(26, []), (0, [(4, 1)]), (0, [(5, 1)]), (0, [(6, 1)]), (0, [(7, 1)]), (0, [(8, 1)]), (0, [(9, 1)]), (0, [(10, 1)]), (999, []), (2, [(1, 1)]), (0, [(0, 1)])])])])
theorem lk_1041 : l_core lm_1041 := by
  intro v x h
  have E0 : y_ev x (0, [(4, 1)]) = x 4 := by show ((0) : Int) + ((1) * x 4 + 0) = _; omega
  have E1 : y_ev x (0, [(5, 1)]) = x 5 := by show ((0) : Int) + ((1) * x 5 + 0) = _; omega
  have E2 : y_ev x (0, [(6, 1)]) = x 6 := by show ((0) : Int) + ((1) * x 6 + 0) = _; omega
  have E3 : y_ev x (0, [(7, 1)]) = x 7 := by show ((0) : Int) + ((1) * x 7 + 0) = _; omega
  have E4 : y_ev x (0, [(8, 1)]) = x 8 := by show ((0) : Int) + ((1) * x 8 + 0) = _; omega
  have E5 : y_ev x (0, [(9, 1)]) = x 9 := by show ((0) : Int) + ((1) * x 9 + 0) = _; omega
  have E6 : y_ev x (0, [(10, 1)]) = x 10 := by show ((0) : Int) + ((1) * x 10 + 0) = _; omega
  have E7 : y_ev x ((-2), []) = (-2) := by show ((-2) : Int) + 0 = _; omega
  have E8 : y_ev x (0, [(3, 1)]) = x 3 := by show ((0) : Int) + ((1) * x 3 + 0) = _; omega
  have E9 : y_ev x (26, []) = 26 := by show ((26) : Int) + 0 = _; omega
  have E10 : y_ev x (999, []) = 999 := by show ((999) : Int) + 0 = _; omega
  have E11 : y_ev x (1, [(1, 1)]) = x 1 + 1 := by show ((1) : Int) + ((1) * x 1 + 0) = _; omega
  have E12 : y_ev x (0, [(0, 1)]) = x 0 := by show ((0) : Int) + ((1) * x 0 + 0) = _; omega
  have E13 : y_ev x (0, [(1, 1)]) = x 1 := by show ((0) : Int) + ((1) * x 1 + 0) = _; omega
  have E14 : y_ev x ((-1), [(1, (-1)), (3, 1)]) = x 3 - x 1 - 1 := by show ((-1) : Int) + ((-1) * x 1 + ((1) * x 3 + 0)) = _; omega
  have E15 : y_ev x (0, [(0, (-1)), (2, 1)]) = x 2 - x 0 := by show ((0) : Int) + ((-1) * x 0 + ((1) * x 2 + 0)) = _; omega
  have E16 : y_ev x (0, [(2, 1)]) = x 2 := by show ((0) : Int) + ((1) * x 2 + 0) = _; omega
  have T0 : q_mgn v (y_ev x (0, [(4, 1)])) (y_ev x (0, [(5, 1)])) (y_ev x (0, [(6, 1)])) (y_ev x (0, [(7, 1)])) (y_ev x (0, [(8, 1)])) (y_ev x (0, [(9, 1)])) (y_ev x (0, [(10, 1)])) (y_ev x ((-2), [])) (y_ev x (0, [(3, 1)])) := h.2.2.2.1
  try rw [E0] at T0; try rw [E1] at T0; try rw [E2] at T0; try rw [E3] at T0; try rw [E4] at T0; try rw [E5] at T0; try rw [E6] at T0; try rw [E7] at T0; try rw [E8] at T0
  have T1 : q_qry v (y_ev x (26, [])) (y_ev x (0, [(4, 1)])) (y_ev x (0, [(5, 1)])) (y_ev x (0, [(6, 1)])) (y_ev x (0, [(7, 1)])) (y_ev x (0, [(8, 1)])) (y_ev x (0, [(9, 1)])) (y_ev x (0, [(10, 1)])) (y_ev x (999, [])) (y_ev x (1, [(1, 1)])) (y_ev x (0, [(0, 1)])) := h.2.2.2.2.1
  try rw [E9] at T1; try rw [E0] at T1; try rw [E1] at T1; try rw [E2] at T1; try rw [E3] at T1; try rw [E4] at T1; try rw [E5] at T1; try rw [E6] at T1; try rw [E10] at T1; try rw [E11] at T1; try rw [E12] at T1
  have C0 : 0 ≤ y_ev x (0, [(1, 1)]) := h.2.1.1
  rw [E13] at C0
  have C1 : 0 ≤ y_ev x ((-1), [(1, (-1)), (3, 1)]) := h.2.1.2.1
  rw [E14] at C1
  have C2 : 0 ≤ y_ev x (0, [(0, (-1)), (2, 1)]) := h.2.1.2.2.1
  rw [E15] at C2
  have F0 : 0 ≤ y_ev x (0, [(1, 1)]) ∧ y_ev x (0, [(1, 1)]) < j_len 25 ∧ v 25 (y_ev x (0, [(1, 1)])) = y_ev x (0, [(2, 1)]) := h.2.2.1.1.1
  try rw [E13] at F0; try rw [E16] at F0
  have K := k_minA (V := v) (z := x 0) (i := x 1) (u := x 2) (m := x 3) (q := x 4) (b := x 5) (s := x 6) (o := x 7) (a1 := x 8) (a2 := x 9) (a3 := x 10) T0 T1 C0 C1 C2 F0
  refine l_outH rfl (And.intro h.1 ?_)
  have O0 : y_ev x (26, []) = 26 := by show ((26) : Int) + 0 = _; omega
  have O1 : y_ev x (0, [(4, 1)]) = x 4 := by show ((0) : Int) + ((1) * x 4 + 0) = _; omega
  have O2 : y_ev x (0, [(5, 1)]) = x 5 := by show ((0) : Int) + ((1) * x 5 + 0) = _; omega
  have O3 : y_ev x (0, [(6, 1)]) = x 6 := by show ((0) : Int) + ((1) * x 6 + 0) = _; omega
  have O4 : y_ev x (0, [(7, 1)]) = x 7 := by show ((0) : Int) + ((1) * x 7 + 0) = _; omega
  have O5 : y_ev x (0, [(8, 1)]) = x 8 := by show ((0) : Int) + ((1) * x 8 + 0) = _; omega
  have O6 : y_ev x (0, [(9, 1)]) = x 9 := by show ((0) : Int) + ((1) * x 9 + 0) = _; omega
  have O7 : y_ev x (0, [(10, 1)]) = x 10 := by show ((0) : Int) + ((1) * x 10 + 0) = _; omega
  have O8 : y_ev x (999, []) = 999 := by show ((999) : Int) + 0 = _; omega
  have O9 : y_ev x (2, [(1, 1)]) = x 1 + 2 := by show ((2) : Int) + ((1) * x 1 + 0) = _; omega
  have O10 : y_ev x (0, [(0, 1)]) = x 0 := by show ((0) : Int) + ((1) * x 0 + 0) = _; omega
  show (True) ∧ (q_qry v (y_ev x (26, [])) (y_ev x (0, [(4, 1)])) (y_ev x (0, [(5, 1)])) (y_ev x (0, [(6, 1)])) (y_ev x (0, [(7, 1)])) (y_ev x (0, [(8, 1)])) (y_ev x (0, [(9, 1)])) (y_ev x (0, [(10, 1)])) (y_ev x (999, [])) (y_ev x (2, [(1, 1)])) (y_ev x (0, [(0, 1)])) ∧ True)
  try rw [O0]; try rw [O1]; try rw [O2]; try rw [O3]; try rw [O4]; try rw [O5]; try rw [O6]; try rw [O7]; try rw [O8]; try rw [O9]; try rw [O10]
  exact K
def lm_1042 : zLem := (([((-2147483648), 2147483647), ((-2147483648), 2147483647), ((-2147483648), 2147483647), ((-2147483648), 2147483647), ((-2147483648), 2147483647), ((-2147483648), 2147483647), ((-2147483648), 2147483647), ((-2147483648), 2147483647), ((-2147483648), 2147483647), ((-2147483648), 2147483647), ((-2147483648), 2147483647)], [(25, false)], [(0, [(1, 1)]), ((-1), [(1, (-1)), (3, 1)]), ((-1), [(0, 1), (2, (-1))])], [], [(0, 0, 0, [(0, 1)]), (0, 0, 0, [(1, 1)])], [(0, (true, 0, 0, [(1, 1)]), 0, 0, 0, [(2, 1)])], [(252, [(0, [(4, 1)]), (0, [(5, 1)]), (0, [(6, 1)]), (0, [(7, 1)]), (0, [(8, 1)]), (0, [(9, 1)]), (0, [(10, 1)]), ((-2), []), (0, [(3, 1)])]), (238, [(26, []), (0, [(4, 1)]), (0, [(5, 1)]), (0, [(6, 1)]), (0, [(7, 1)]), (0, [(8, 1)]), (0, [(9, 1)]), (0, [(10, 1)]), (999, []), (1, [(1, 1)]), (0, [(0, 1)])])]), [([((-2147483648), 2147483647), ((-2147483648), 2147483647), ((-2147483648), 2147483647), ((-2147483648), 2147483647), ((-2147483648), 2147483647), ((-2147483648), 2147483647), ((-2147483648), 2147483647), ((-2147483648), 2147483647), ((-2147483648), 2147483647), ((-2147483648), 2147483647), ((-2147483648), 2147483647)], [(25, false)], [], [], [], [], [(238, [(26, []), (0, [(4, 1)]), (0, [(5, 1)]), (0, [(6, 1)]), (0, [(7, 1)]), (0, [(8, 1)]), (0, [(9, 1)]), (0, [(10, 1)]), (999, []), (2, [(1, 1)]), (0, [(2, 1)])])])])
theorem lk_1042 : l_core lm_1042 := by
  intro v x h
  have E0 : y_ev x (0, [(4, 1)]) = x 4 := by show ((0) : Int) + ((1) * x 4 + 0) = _; omega
  have E1 : y_ev x (0, [(5, 1)]) = x 5 := by show ((0) : Int) + ((1) * x 5 + 0) = _; omega
  have E2 : y_ev x (0, [(6, 1)]) = x 6 := by show ((0) : Int) + ((1) * x 6 + 0) = _; omega
  have E3 : y_ev x (0, [(7, 1)]) = x 7 := by show ((0) : Int) + ((1) * x 7 + 0) = _; omega
  have E4 : y_ev x (0, [(8, 1)]) = x 8 := by show ((0) : Int) + ((1) * x 8 + 0) = _; omega
  have E5 : y_ev x (0, [(9, 1)]) = x 9 := by show ((0) : Int) + ((1) * x 9 + 0) = _; omega
  have E6 : y_ev x (0, [(10, 1)]) = x 10 := by show ((0) : Int) + ((1) * x 10 + 0) = _; omega
  have E7 : y_ev x ((-2), []) = (-2) := by show ((-2) : Int) + 0 = _; omega
  have E8 : y_ev x (0, [(3, 1)]) = x 3 := by show ((0) : Int) + ((1) * x 3 + 0) = _; omega
  have E9 : y_ev x (26, []) = 26 := by show ((26) : Int) + 0 = _; omega
  have E10 : y_ev x (999, []) = 999 := by show ((999) : Int) + 0 = _; omega
  have E11 : y_ev x (1, [(1, 1)]) = x 1 + 1 := by show ((1) : Int) + ((1) * x 1 + 0) = _; omega
  have E12 : y_ev x (0, [(0, 1)]) = x 0 := by show ((0) : Int) + ((1) * x 0 + 0) = _; omega
  have E13 : y_ev x (0, [(1, 1)]) = x 1 := by show ((0) : Int) + ((1) * x 1 + 0) = _; omega
  have E14 : y_ev x ((-1), [(1, (-1)), (3, 1)]) = x 3 - x 1 - 1 := by show ((-1) : Int) + ((-1) * x 1 + ((1) * x 3 + 0)) = _; omega
  have E15 : y_ev x ((-1), [(0, 1), (2, (-1))]) = x 0 - x 2 - 1 := by show ((-1) : Int) + ((1) * x 0 + ((-1) * x 2 + 0)) = _; omega
  have E16 : y_ev x (0, [(2, 1)]) = x 2 := by show ((0) : Int) + ((1) * x 2 + 0) = _; omega
  have T0 : q_mgn v (y_ev x (0, [(4, 1)])) (y_ev x (0, [(5, 1)])) (y_ev x (0, [(6, 1)])) (y_ev x (0, [(7, 1)])) (y_ev x (0, [(8, 1)])) (y_ev x (0, [(9, 1)])) (y_ev x (0, [(10, 1)])) (y_ev x ((-2), [])) (y_ev x (0, [(3, 1)])) := h.2.2.2.1
  try rw [E0] at T0; try rw [E1] at T0; try rw [E2] at T0; try rw [E3] at T0; try rw [E4] at T0; try rw [E5] at T0; try rw [E6] at T0; try rw [E7] at T0; try rw [E8] at T0
  have T1 : q_qry v (y_ev x (26, [])) (y_ev x (0, [(4, 1)])) (y_ev x (0, [(5, 1)])) (y_ev x (0, [(6, 1)])) (y_ev x (0, [(7, 1)])) (y_ev x (0, [(8, 1)])) (y_ev x (0, [(9, 1)])) (y_ev x (0, [(10, 1)])) (y_ev x (999, [])) (y_ev x (1, [(1, 1)])) (y_ev x (0, [(0, 1)])) := h.2.2.2.2.1
  try rw [E9] at T1; try rw [E0] at T1; try rw [E1] at T1; try rw [E2] at T1; try rw [E3] at T1; try rw [E4] at T1; try rw [E5] at T1; try rw [E6] at T1; try rw [E10] at T1; try rw [E11] at T1; try rw [E12] at T1
  have C0 : 0 ≤ y_ev x (0, [(1, 1)]) := h.2.1.1
  rw [E13] at C0
  have C1 : 0 ≤ y_ev x ((-1), [(1, (-1)), (3, 1)]) := h.2.1.2.1
  rw [E14] at C1
  have C2 : 0 ≤ y_ev x ((-1), [(0, 1), (2, (-1))]) := h.2.1.2.2.1
  rw [E15] at C2
  have F0 : 0 ≤ y_ev x (0, [(1, 1)]) ∧ y_ev x (0, [(1, 1)]) < j_len 25 ∧ v 25 (y_ev x (0, [(1, 1)])) = y_ev x (0, [(2, 1)]) := h.2.2.1.1.1
  try rw [E13] at F0; try rw [E16] at F0
  have K := k_minB (V := v) (z := x 0) (i := x 1) (u := x 2) (m := x 3) (q := x 4) (b := x 5) (s := x 6) (o := x 7) (a1 := x 8) (a2 := x 9) (a3 := x 10) T0 T1 C0 C1 C2 F0
  refine l_outH rfl (And.intro h.1 ?_)
  have O0 : y_ev x (26, []) = 26 := by show ((26) : Int) + 0 = _; omega
  have O1 : y_ev x (0, [(4, 1)]) = x 4 := by show ((0) : Int) + ((1) * x 4 + 0) = _; omega
  have O2 : y_ev x (0, [(5, 1)]) = x 5 := by show ((0) : Int) + ((1) * x 5 + 0) = _; omega
  have O3 : y_ev x (0, [(6, 1)]) = x 6 := by show ((0) : Int) + ((1) * x 6 + 0) = _; omega
  have O4 : y_ev x (0, [(7, 1)]) = x 7 := by show ((0) : Int) + ((1) * x 7 + 0) = _; omega
  have O5 : y_ev x (0, [(8, 1)]) = x 8 := by show ((0) : Int) + ((1) * x 8 + 0) = _; omega
  have O6 : y_ev x (0, [(9, 1)]) = x 9 := by show ((0) : Int) + ((1) * x 9 + 0) = _; omega
  have O7 : y_ev x (0, [(10, 1)]) = x 10 := by show ((0) : Int) + ((1) * x 10 + 0) = _; omega
  have O8 : y_ev x (999, []) = 999 := by show ((999) : Int) + 0 = _; omega
  have O9 : y_ev x (2, [(1, 1)]) = x 1 + 2 := by show ((2) : Int) + ((1) * x 1 + 0) = _; omega
  have O10 : y_ev x (0, [(2, 1)]) = x 2 := by show ((0) : Int) + ((1) * x 2 + 0) = _; omega
  show (True) ∧ (q_qry v (y_ev x (26, [])) (y_ev x (0, [(4, 1)])) (y_ev x (0, [(5, 1)])) (y_ev x (0, [(6, 1)])) (y_ev x (0, [(7, 1)])) (y_ev x (0, [(8, 1)])) (y_ev x (0, [(9, 1)])) (y_ev x (0, [(10, 1)])) (y_ev x (999, [])) (y_ev x (2, [(1, 1)])) (y_ev x (0, [(2, 1)])) ∧ True)
  try rw [O0]; try rw [O1]; try rw [O2]; try rw [O3]; try rw [O4]; try rw [O5]; try rw [O6]; try rw [O7]; try rw [O8]; try rw [O9]; try rw [O10]
  exact K
def lm_1043 : zLem := (([((-2147483648), 2147483647), ((-2147483648), 2147483647), ((-2147483648), 2147483647), ((-2147483648), 2147483647), ((-2147483648), 2147483647), ((-2147483648), 2147483647), ((-2147483648), 2147483647), ((-2147483648), 2147483647), ((-2147483648), 2147483647), ((-2147483648), 2147483647)], [], [(0, [(1, 1), (2, (-1))]), (0, [(1, (-1)), (2, 1)]), ((-1), [(0, (-1))])], [], [(0, 0, 0, [(0, 1)]), (0, 0, 0, [(1, 1)])], [], [(252, [(0, [(3, 1)]), (0, [(4, 1)]), (0, [(5, 1)]), (0, [(6, 1)]), (0, [(7, 1)]), (0, [(8, 1)]), (0, [(9, 1)]), ((-2), []), (0, [(2, 1)])]), (238, [(26, []), (0, [(3, 1)]), (0, [(4, 1)]), (0, [(5, 1)]), (0, [(6, 1)]), (0, [(7, 1)]), (0, [(8, 1)]), (0, [(9, 1)]), (999, []), (1, [(1, 1)]), (0, [(0, 1)])])]), [([((-2147483648), 2147483647), ((-2147483648), 2147483647), ((-2147483648), 2147483647), ((-2147483648), 2147483647), ((-2147483648), 2147483647), ((-2147483648), 2147483647), ((-2147483648), 2147483647), ((-2147483648), 2147483647), ((-2147483648), 2147483647), ((-2147483648), 2147483647)], [], [], [], [], [], [(238, [(27, []), (0, [(3, 1)]), (0, [(4, 1)]), (0, [(5, 1)]), (0, [(6, 1)]), (0, [(7, 1)]), (0, [(8, 1)]), (0, [(9, 1)]), (0, []), (0, []), ((-2), [])])])])
theorem lk_1043 : l_core lm_1043 := by
  intro v x h
  have E0 : y_ev x (0, [(3, 1)]) = x 3 := by show ((0) : Int) + ((1) * x 3 + 0) = _; omega
  have E1 : y_ev x (0, [(4, 1)]) = x 4 := by show ((0) : Int) + ((1) * x 4 + 0) = _; omega
  have E2 : y_ev x (0, [(5, 1)]) = x 5 := by show ((0) : Int) + ((1) * x 5 + 0) = _; omega
  have E3 : y_ev x (0, [(6, 1)]) = x 6 := by show ((0) : Int) + ((1) * x 6 + 0) = _; omega
  have E4 : y_ev x (0, [(7, 1)]) = x 7 := by show ((0) : Int) + ((1) * x 7 + 0) = _; omega
  have E5 : y_ev x (0, [(8, 1)]) = x 8 := by show ((0) : Int) + ((1) * x 8 + 0) = _; omega
  have E6 : y_ev x (0, [(9, 1)]) = x 9 := by show ((0) : Int) + ((1) * x 9 + 0) = _; omega
  have E7 : y_ev x ((-2), []) = (-2) := by show ((-2) : Int) + 0 = _; omega
  have E8 : y_ev x (0, [(2, 1)]) = x 2 := by show ((0) : Int) + ((1) * x 2 + 0) = _; omega
  have E9 : y_ev x (26, []) = 26 := by show ((26) : Int) + 0 = _; omega
  have E10 : y_ev x (999, []) = 999 := by show ((999) : Int) + 0 = _; omega
  have E11 : y_ev x (1, [(1, 1)]) = x 1 + 1 := by show ((1) : Int) + ((1) * x 1 + 0) = _; omega
  have E12 : y_ev x (0, [(0, 1)]) = x 0 := by show ((0) : Int) + ((1) * x 0 + 0) = _; omega
  have E13 : y_ev x (0, [(1, 1), (2, (-1))]) = x 1 - x 2 := by show ((0) : Int) + ((1) * x 1 + ((-1) * x 2 + 0)) = _; omega
  have E14 : y_ev x (0, [(1, (-1)), (2, 1)]) = x 2 - x 1 := by show ((0) : Int) + ((-1) * x 1 + ((1) * x 2 + 0)) = _; omega
  have E15 : y_ev x ((-1), [(0, (-1))]) = -x 0 - 1 := by show ((-1) : Int) + ((-1) * x 0 + 0) = _; omega
  have T0 : q_mgn v (y_ev x (0, [(3, 1)])) (y_ev x (0, [(4, 1)])) (y_ev x (0, [(5, 1)])) (y_ev x (0, [(6, 1)])) (y_ev x (0, [(7, 1)])) (y_ev x (0, [(8, 1)])) (y_ev x (0, [(9, 1)])) (y_ev x ((-2), [])) (y_ev x (0, [(2, 1)])) := h.2.2.2.1
  try rw [E0] at T0; try rw [E1] at T0; try rw [E2] at T0; try rw [E3] at T0; try rw [E4] at T0; try rw [E5] at T0; try rw [E6] at T0; try rw [E7] at T0; try rw [E8] at T0
  have T1 : q_qry v (y_ev x (26, [])) (y_ev x (0, [(3, 1)])) (y_ev x (0, [(4, 1)])) (y_ev x (0, [(5, 1)])) (y_ev x (0, [(6, 1)])) (y_ev x (0, [(7, 1)])) (y_ev x (0, [(8, 1)])) (y_ev x (0, [(9, 1)])) (y_ev x (999, [])) (y_ev x (1, [(1, 1)])) (y_ev x (0, [(0, 1)])) := h.2.2.2.2.1
  try rw [E9] at T1; try rw [E0] at T1; try rw [E1] at T1; try rw [E2] at T1; try rw [E3] at T1; try rw [E4] at T1; try rw [E5] at T1; try rw [E6] at T1; try rw [E10] at T1; try rw [E11] at T1; try rw [E12] at T1
  have C0 : 0 ≤ y_ev x (0, [(1, 1), (2, (-1))]) := h.2.1.1
  rw [E13] at C0
  have C1 : 0 ≤ y_ev x (0, [(1, (-1)), (2, 1)]) := h.2.1.2.1
  rw [E14] at C1
  have C2 : 0 ≤ y_ev x ((-1), [(0, (-1))]) := h.2.1.2.2.1
  rw [E15] at C2
  have K := k_mosN (V := v) (z := x 0) (i := x 1) (m := x 2) (q := x 3) (b := x 4) (s := x 5) (o := x 6) (a1 := x 7) (a2 := x 8) (a3 := x 9) T0 T1 C0 C1 C2
  refine l_outH rfl (And.intro h.1 ?_)
  have O0 : y_ev x (27, []) = 27 := by show ((27) : Int) + 0 = _; omega
  have O1 : y_ev x (0, [(3, 1)]) = x 3 := by show ((0) : Int) + ((1) * x 3 + 0) = _; omega
  have O2 : y_ev x (0, [(4, 1)]) = x 4 := by show ((0) : Int) + ((1) * x 4 + 0) = _; omega
  have O3 : y_ev x (0, [(5, 1)]) = x 5 := by show ((0) : Int) + ((1) * x 5 + 0) = _; omega
  have O4 : y_ev x (0, [(6, 1)]) = x 6 := by show ((0) : Int) + ((1) * x 6 + 0) = _; omega
  have O5 : y_ev x (0, [(7, 1)]) = x 7 := by show ((0) : Int) + ((1) * x 7 + 0) = _; omega
  have O6 : y_ev x (0, [(8, 1)]) = x 8 := by show ((0) : Int) + ((1) * x 8 + 0) = _; omega
  have O7 : y_ev x (0, [(9, 1)]) = x 9 := by show ((0) : Int) + ((1) * x 9 + 0) = _; omega
  have O8 : y_ev x (0, []) = 0 := by show ((0) : Int) + 0 = _; omega
  have O9 : y_ev x ((-2), []) = (-2) := by show ((-2) : Int) + 0 = _; omega
  show (True) ∧ (q_qry v (y_ev x (27, [])) (y_ev x (0, [(3, 1)])) (y_ev x (0, [(4, 1)])) (y_ev x (0, [(5, 1)])) (y_ev x (0, [(6, 1)])) (y_ev x (0, [(7, 1)])) (y_ev x (0, [(8, 1)])) (y_ev x (0, [(9, 1)])) (y_ev x (0, [])) (y_ev x (0, [])) (y_ev x ((-2), [])) ∧ True)
  try rw [O0]; try rw [O1]; try rw [O2]; try rw [O3]; try rw [O4]; try rw [O5]; try rw [O6]; try rw [O7]; try rw [O8]; try rw [O9]
  exact K
def lm_1044 : zLem := (([((-2147483648), 2147483647), ((-2147483648), 2147483647), ((-2147483648), 2147483647), ((-2147483648), 2147483647), ((-2147483648), 2147483647), ((-2147483648), 2147483647), ((-2147483648), 2147483647), ((-2147483648), 2147483647), ((-2147483648), 2147483647), ((-2147483648), 2147483647)], [], [(0, [(1, 1), (2, (-1))]), (0, [(1, (-1)), (2, 1)]), (0, [(0, 1)])], [], [(0, 0, 0, [(0, 1)]), (0, 0, 0, [(1, 1)])], [], [(252, [(0, [(3, 1)]), (0, [(4, 1)]), (0, [(5, 1)]), (0, [(6, 1)]), (0, [(7, 1)]), (0, [(8, 1)]), (0, [(9, 1)]), ((-2), []), (0, [(2, 1)])]), (238, [(26, []), (0, [(3, 1)]), (0, [(4, 1)]), (0, [(5, 1)]), (0, [(6, 1)]), (0, [(7, 1)]), (0, [(8, 1)]), (0, [(9, 1)]), (999, []), (1, [(1, 1)]), (0, [(0, 1)])])]), [([((-2147483648), 2147483647), ((-2147483648), 2147483647), ((-2147483648), 2147483647), ((-2147483648), 2147483647), ((-2147483648), 2147483647), ((-2147483648), 2147483647), ((-2147483648), 2147483647), ((-2147483648), 2147483647), ((-2147483648), 2147483647), ((-2147483648), 2147483647)], [], [], [], [], [], [(238, [(27, []), (0, [(3, 1)]), (0, [(4, 1)]), (0, [(5, 1)]), (0, [(6, 1)]), (0, [(7, 1)]), (0, [(8, 1)]), (0, [(9, 1)]), (0, []), (0, []), (0, [(0, 1)])])])])
theorem lk_1044 : l_core lm_1044 := by
  intro v x h
  have E0 : y_ev x (0, [(3, 1)]) = x 3 := by show ((0) : Int) + ((1) * x 3 + 0) = _; omega
  have E1 : y_ev x (0, [(4, 1)]) = x 4 := by show ((0) : Int) + ((1) * x 4 + 0) = _; omega
  have E2 : y_ev x (0, [(5, 1)]) = x 5 := by show ((0) : Int) + ((1) * x 5 + 0) = _; omega
  have E3 : y_ev x (0, [(6, 1)]) = x 6 := by show ((0) : Int) + ((1) * x 6 + 0) = _; omega
  have E4 : y_ev x (0, [(7, 1)]) = x 7 := by show ((0) : Int) + ((1) * x 7 + 0) = _; omega
  have E5 : y_ev x (0, [(8, 1)]) = x 8 := by show ((0) : Int) + ((1) * x 8 + 0) = _; omega
  have E6 : y_ev x (0, [(9, 1)]) = x 9 := by show ((0) : Int) + ((1) * x 9 + 0) = _; omega
  have E7 : y_ev x ((-2), []) = (-2) := by show ((-2) : Int) + 0 = _; omega
  have E8 : y_ev x (0, [(2, 1)]) = x 2 := by show ((0) : Int) + ((1) * x 2 + 0) = _; omega
  have E9 : y_ev x (26, []) = 26 := by show ((26) : Int) + 0 = _; omega
  have E10 : y_ev x (999, []) = 999 := by show ((999) : Int) + 0 = _; omega
  have E11 : y_ev x (1, [(1, 1)]) = x 1 + 1 := by show ((1) : Int) + ((1) * x 1 + 0) = _; omega
  have E12 : y_ev x (0, [(0, 1)]) = x 0 := by show ((0) : Int) + ((1) * x 0 + 0) = _; omega
  have E13 : y_ev x (0, [(1, 1), (2, (-1))]) = x 1 - x 2 := by show ((0) : Int) + ((1) * x 1 + ((-1) * x 2 + 0)) = _; omega
  have E14 : y_ev x (0, [(1, (-1)), (2, 1)]) = x 2 - x 1 := by show ((0) : Int) + ((-1) * x 1 + ((1) * x 2 + 0)) = _; omega
  have T0 : q_mgn v (y_ev x (0, [(3, 1)])) (y_ev x (0, [(4, 1)])) (y_ev x (0, [(5, 1)])) (y_ev x (0, [(6, 1)])) (y_ev x (0, [(7, 1)])) (y_ev x (0, [(8, 1)])) (y_ev x (0, [(9, 1)])) (y_ev x ((-2), [])) (y_ev x (0, [(2, 1)])) := h.2.2.2.1
  try rw [E0] at T0; try rw [E1] at T0; try rw [E2] at T0; try rw [E3] at T0; try rw [E4] at T0; try rw [E5] at T0; try rw [E6] at T0; try rw [E7] at T0; try rw [E8] at T0
  have T1 : q_qry v (y_ev x (26, [])) (y_ev x (0, [(3, 1)])) (y_ev x (0, [(4, 1)])) (y_ev x (0, [(5, 1)])) (y_ev x (0, [(6, 1)])) (y_ev x (0, [(7, 1)])) (y_ev x (0, [(8, 1)])) (y_ev x (0, [(9, 1)])) (y_ev x (999, [])) (y_ev x (1, [(1, 1)])) (y_ev x (0, [(0, 1)])) := h.2.2.2.2.1
  try rw [E9] at T1; try rw [E0] at T1; try rw [E1] at T1; try rw [E2] at T1; try rw [E3] at T1; try rw [E4] at T1; try rw [E5] at T1; try rw [E6] at T1; try rw [E10] at T1; try rw [E11] at T1; try rw [E12] at T1
  have C0 : 0 ≤ y_ev x (0, [(1, 1), (2, (-1))]) := h.2.1.1
  rw [E13] at C0
  have C1 : 0 ≤ y_ev x (0, [(1, (-1)), (2, 1)]) := h.2.1.2.1
  rw [E14] at C1
  have C2 : 0 ≤ y_ev x (0, [(0, 1)]) := h.2.1.2.2.1
  rw [E12] at C2
  have K := k_mosY (V := v) (z := x 0) (i := x 1) (m := x 2) (q := x 3) (b := x 4) (s := x 5) (o := x 6) (a1 := x 7) (a2 := x 8) (a3 := x 9) T0 T1 C0 C1 C2
  refine l_outH rfl (And.intro h.1 ?_)
  have O0 : y_ev x (27, []) = 27 := by show ((27) : Int) + 0 = _; omega
  have O1 : y_ev x (0, [(3, 1)]) = x 3 := by show ((0) : Int) + ((1) * x 3 + 0) = _; omega
  have O2 : y_ev x (0, [(4, 1)]) = x 4 := by show ((0) : Int) + ((1) * x 4 + 0) = _; omega
  have O3 : y_ev x (0, [(5, 1)]) = x 5 := by show ((0) : Int) + ((1) * x 5 + 0) = _; omega
  have O4 : y_ev x (0, [(6, 1)]) = x 6 := by show ((0) : Int) + ((1) * x 6 + 0) = _; omega
  have O5 : y_ev x (0, [(7, 1)]) = x 7 := by show ((0) : Int) + ((1) * x 7 + 0) = _; omega
  have O6 : y_ev x (0, [(8, 1)]) = x 8 := by show ((0) : Int) + ((1) * x 8 + 0) = _; omega
  have O7 : y_ev x (0, [(9, 1)]) = x 9 := by show ((0) : Int) + ((1) * x 9 + 0) = _; omega
  have O8 : y_ev x (0, []) = 0 := by show ((0) : Int) + 0 = _; omega
  have O9 : y_ev x (0, [(0, 1)]) = x 0 := by show ((0) : Int) + ((1) * x 0 + 0) = _; omega
  show (True) ∧ (q_qry v (y_ev x (27, [])) (y_ev x (0, [(3, 1)])) (y_ev x (0, [(4, 1)])) (y_ev x (0, [(5, 1)])) (y_ev x (0, [(6, 1)])) (y_ev x (0, [(7, 1)])) (y_ev x (0, [(8, 1)])) (y_ev x (0, [(9, 1)])) (y_ev x (0, [])) (y_ev x (0, [])) (y_ev x (0, [(0, 1)])) ∧ True)
  try rw [O0]; try rw [O1]; try rw [O2]; try rw [O3]; try rw [O4]; try rw [O5]; try rw [O6]; try rw [O7]; try rw [O8]; try rw [O9]
  exact K
def lm_1045 : zLem := (([((-2147483648), 2147483647), ((-2147483648), 2147483647), ((-2147483648), 2147483647), ((-2147483648), 2147483647), ((-2147483648), 2147483647), ((-2147483648), 2147483647), ((-2147483648), 2147483647), ((-2147483648), 2147483647), ((-2147483648), 2147483647), ((-2147483648), 2147483647)], [], [(0, [(2, 1)]), (9999, [(0, (-1))])], [], [(0, 0, 0, [(2, 1)])], [], [(252, [(0, [(3, 1)]), (0, [(4, 1)]), (0, [(5, 1)]), (0, [(6, 1)]), (0, [(7, 1)]), (0, [(8, 1)]), (0, [(9, 1)]), ((-2), []), (0, [(1, 1)])]), (254, [(0, [(0, 1)]), (0, [(1, 1)]), (0, [(2, 1)])])]), [([((-2147483648), 2147483647), ((-2147483648), 2147483647), ((-2147483648), 2147483647), ((-2147483648), 2147483647), ((-2147483648), 2147483647), ((-2147483648), 2147483647), ((-2147483648), 2147483647), ((-2147483648), 2147483647), ((-2147483648), 2147483647), ((-2147483648), 2147483647)], [], [], [], [], [], [(260, [(3, []), (0, [(3, 1)]), (0, [(4, 1)]), (0, [(5, 1)]), (0, [(6, 1)]), (0, [(7, 1)]), (0, [(8, 1)]), (0, [(9, 1)]), (0, [(0, 1)]), (0, []), (1, [(2, 1)])])])])
theorem lk_1045 : l_core lm_1045 := by
  intro v x h
  have E0 : y_ev x (0, [(3, 1)]) = x 3 := by show ((0) : Int) + ((1) * x 3 + 0) = _; omega
  have E1 : y_ev x (0, [(4, 1)]) = x 4 := by show ((0) : Int) + ((1) * x 4 + 0) = _; omega
  have E2 : y_ev x (0, [(5, 1)]) = x 5 := by show ((0) : Int) + ((1) * x 5 + 0) = _; omega
  have E3 : y_ev x (0, [(6, 1)]) = x 6 := by show ((0) : Int) + ((1) * x 6 + 0) = _; omega
  have E4 : y_ev x (0, [(7, 1)]) = x 7 := by show ((0) : Int) + ((1) * x 7 + 0) = _; omega
  have E5 : y_ev x (0, [(8, 1)]) = x 8 := by show ((0) : Int) + ((1) * x 8 + 0) = _; omega
  have E6 : y_ev x (0, [(9, 1)]) = x 9 := by show ((0) : Int) + ((1) * x 9 + 0) = _; omega
  have E7 : y_ev x ((-2), []) = (-2) := by show ((-2) : Int) + 0 = _; omega
  have E8 : y_ev x (0, [(1, 1)]) = x 1 := by show ((0) : Int) + ((1) * x 1 + 0) = _; omega
  have E9 : y_ev x (0, [(0, 1)]) = x 0 := by show ((0) : Int) + ((1) * x 0 + 0) = _; omega
  have E10 : y_ev x (0, [(2, 1)]) = x 2 := by show ((0) : Int) + ((1) * x 2 + 0) = _; omega
  have E11 : y_ev x (9999, [(0, (-1))]) = 9999 - x 0 := by show ((9999) : Int) + ((-1) * x 0 + 0) = _; omega
  have T0 : q_mgn v (y_ev x (0, [(3, 1)])) (y_ev x (0, [(4, 1)])) (y_ev x (0, [(5, 1)])) (y_ev x (0, [(6, 1)])) (y_ev x (0, [(7, 1)])) (y_ev x (0, [(8, 1)])) (y_ev x (0, [(9, 1)])) (y_ev x ((-2), [])) (y_ev x (0, [(1, 1)])) := h.2.2.2.1
  try rw [E0] at T0; try rw [E1] at T0; try rw [E2] at T0; try rw [E3] at T0; try rw [E4] at T0; try rw [E5] at T0; try rw [E6] at T0; try rw [E7] at T0; try rw [E8] at T0
  have T1 : (0 ≤ (y_ev x (0, [(2, 1)])) ∧ (y_ev x (0, [(2, 1)])) < (y_ev x (0, [(1, 1)])) ∧ v 25 (y_ev x (0, [(2, 1)])) < (y_ev x (0, [(0, 1)])) ∧ ∀ t : Int, 0 ≤ t → t < (y_ev x (0, [(2, 1)])) → (y_ev x (0, [(0, 1)])) ≤ v 25 t) ∨ ((y_ev x (0, [(2, 1)])) = -1 ∧ ∀ t : Int, 0 ≤ t → t < (y_ev x (0, [(1, 1)])) → (y_ev x (0, [(0, 1)])) ≤ v 25 t) := h.2.2.2.2.1
  try rw [E9] at T1; try rw [E8] at T1; try rw [E10] at T1
  have C0 : 0 ≤ y_ev x (0, [(2, 1)]) := h.2.1.1
  rw [E10] at C0
  have C1 : 0 ≤ y_ev x (9999, [(0, (-1))]) := h.2.1.2.1
  rw [E11] at C1
  have K := k_brk1 (V := v) (w := x 0) (m := x 1) (i := x 2) (q := x 3) (b := x 4) (s := x 5) (o := x 6) (a1 := x 7) (a2 := x 8) (a3 := x 9) T0 T1 C0 C1
  refine l_outH rfl (And.intro h.1 ?_)
  have O0 : y_ev x (3, []) = 3 := by show ((3) : Int) + 0 = _; omega
  have O1 : y_ev x (0, [(3, 1)]) = x 3 := by show ((0) : Int) + ((1) * x 3 + 0) = _; omega
  have O2 : y_ev x (0, [(4, 1)]) = x 4 := by show ((0) : Int) + ((1) * x 4 + 0) = _; omega
  have O3 : y_ev x (0, [(5, 1)]) = x 5 := by show ((0) : Int) + ((1) * x 5 + 0) = _; omega
  have O4 : y_ev x (0, [(6, 1)]) = x 6 := by show ((0) : Int) + ((1) * x 6 + 0) = _; omega
  have O5 : y_ev x (0, [(7, 1)]) = x 7 := by show ((0) : Int) + ((1) * x 7 + 0) = _; omega
  have O6 : y_ev x (0, [(8, 1)]) = x 8 := by show ((0) : Int) + ((1) * x 8 + 0) = _; omega
  have O7 : y_ev x (0, [(9, 1)]) = x 9 := by show ((0) : Int) + ((1) * x 9 + 0) = _; omega
  have O8 : y_ev x (0, [(0, 1)]) = x 0 := by show ((0) : Int) + ((1) * x 0 + 0) = _; omega
  have O9 : y_ev x (0, []) = 0 := by show ((0) : Int) + 0 = _; omega
  have O10 : y_ev x (1, [(2, 1)]) = x 2 + 1 := by show ((1) : Int) + ((1) * x 2 + 0) = _; omega
  show (True) ∧ (q_qry v (y_ev x (3, [])) (y_ev x (0, [(3, 1)])) (y_ev x (0, [(4, 1)])) (y_ev x (0, [(5, 1)])) (y_ev x (0, [(6, 1)])) (y_ev x (0, [(7, 1)])) (y_ev x (0, [(8, 1)])) (y_ev x (0, [(9, 1)])) (y_ev x (0, [(0, 1)])) (y_ev x (0, [])) (y_ev x (1, [(2, 1)])) ∧ True)
  try rw [O0]; try rw [O1]; try rw [O2]; try rw [O3]; try rw [O4]; try rw [O5]; try rw [O6]; try rw [O7]; try rw [O8]; try rw [O9]; try rw [O10]
  exact K
def lm_1046 : zLem := (([((-2147483648), 2147483647), ((-2147483648), 2147483647), ((-2147483648), 2147483647), ((-2147483648), 2147483647), ((-2147483648), 2147483647), ((-2147483648), 2147483647), ((-2147483648), 2147483647), ((-2147483648), 2147483647), ((-2147483648), 2147483647)], [], [(9999, [(0, (-1))])], [], [], [], [(252, [(0, [(2, 1)]), (0, [(3, 1)]), (0, [(4, 1)]), (0, [(5, 1)]), (0, [(6, 1)]), (0, [(7, 1)]), (0, [(8, 1)]), ((-2), []), (0, [(1, 1)])]), (254, [(0, [(0, 1)]), (0, [(1, 1)]), ((-1), [])])]), [([((-2147483648), 2147483647), ((-2147483648), 2147483647), ((-2147483648), 2147483647), ((-2147483648), 2147483647), ((-2147483648), 2147483647), ((-2147483648), 2147483647), ((-2147483648), 2147483647), ((-2147483648), 2147483647), ((-2147483648), 2147483647)], [], [], [], [], [], [(260, [(3, []), (0, [(2, 1)]), (0, [(3, 1)]), (0, [(4, 1)]), (0, [(5, 1)]), (0, [(6, 1)]), (0, [(7, 1)]), (0, [(8, 1)]), (0, [(0, 1)]), (0, []), ((-1), [])])])])
theorem lk_1046 : l_core lm_1046 := by
  intro v x h
  have E0 : y_ev x (0, [(2, 1)]) = x 2 := by show ((0) : Int) + ((1) * x 2 + 0) = _; omega
  have E1 : y_ev x (0, [(3, 1)]) = x 3 := by show ((0) : Int) + ((1) * x 3 + 0) = _; omega
  have E2 : y_ev x (0, [(4, 1)]) = x 4 := by show ((0) : Int) + ((1) * x 4 + 0) = _; omega
  have E3 : y_ev x (0, [(5, 1)]) = x 5 := by show ((0) : Int) + ((1) * x 5 + 0) = _; omega
  have E4 : y_ev x (0, [(6, 1)]) = x 6 := by show ((0) : Int) + ((1) * x 6 + 0) = _; omega
  have E5 : y_ev x (0, [(7, 1)]) = x 7 := by show ((0) : Int) + ((1) * x 7 + 0) = _; omega
  have E6 : y_ev x (0, [(8, 1)]) = x 8 := by show ((0) : Int) + ((1) * x 8 + 0) = _; omega
  have E7 : y_ev x ((-2), []) = (-2) := by show ((-2) : Int) + 0 = _; omega
  have E8 : y_ev x (0, [(1, 1)]) = x 1 := by show ((0) : Int) + ((1) * x 1 + 0) = _; omega
  have E9 : y_ev x (0, [(0, 1)]) = x 0 := by show ((0) : Int) + ((1) * x 0 + 0) = _; omega
  have E10 : y_ev x ((-1), []) = (-1) := by show ((-1) : Int) + 0 = _; omega
  have E11 : y_ev x (9999, [(0, (-1))]) = 9999 - x 0 := by show ((9999) : Int) + ((-1) * x 0 + 0) = _; omega
  have T0 : q_mgn v (y_ev x (0, [(2, 1)])) (y_ev x (0, [(3, 1)])) (y_ev x (0, [(4, 1)])) (y_ev x (0, [(5, 1)])) (y_ev x (0, [(6, 1)])) (y_ev x (0, [(7, 1)])) (y_ev x (0, [(8, 1)])) (y_ev x ((-2), [])) (y_ev x (0, [(1, 1)])) := h.2.2.2.1
  try rw [E0] at T0; try rw [E1] at T0; try rw [E2] at T0; try rw [E3] at T0; try rw [E4] at T0; try rw [E5] at T0; try rw [E6] at T0; try rw [E7] at T0; try rw [E8] at T0
  have T1 : (0 ≤ (y_ev x ((-1), [])) ∧ (y_ev x ((-1), [])) < (y_ev x (0, [(1, 1)])) ∧ v 25 (y_ev x ((-1), [])) < (y_ev x (0, [(0, 1)])) ∧ ∀ t : Int, 0 ≤ t → t < (y_ev x ((-1), [])) → (y_ev x (0, [(0, 1)])) ≤ v 25 t) ∨ ((y_ev x ((-1), [])) = -1 ∧ ∀ t : Int, 0 ≤ t → t < (y_ev x (0, [(1, 1)])) → (y_ev x (0, [(0, 1)])) ≤ v 25 t) := h.2.2.2.2.1
  try rw [E9] at T1; try rw [E8] at T1; try rw [E10] at T1
  have C0 : 0 ≤ y_ev x (9999, [(0, (-1))]) := h.2.1.1
  rw [E11] at C0
  have K := k_brk0 (V := v) (w := x 0) (m := x 1) (q := x 2) (b := x 3) (s := x 4) (o := x 5) (a1 := x 6) (a2 := x 7) (a3 := x 8) T0 T1 C0
  refine l_outH rfl (And.intro h.1 ?_)
  have O0 : y_ev x (3, []) = 3 := by show ((3) : Int) + 0 = _; omega
  have O1 : y_ev x (0, [(2, 1)]) = x 2 := by show ((0) : Int) + ((1) * x 2 + 0) = _; omega
  have O2 : y_ev x (0, [(3, 1)]) = x 3 := by show ((0) : Int) + ((1) * x 3 + 0) = _; omega
  have O3 : y_ev x (0, [(4, 1)]) = x 4 := by show ((0) : Int) + ((1) * x 4 + 0) = _; omega
  have O4 : y_ev x (0, [(5, 1)]) = x 5 := by show ((0) : Int) + ((1) * x 5 + 0) = _; omega
  have O5 : y_ev x (0, [(6, 1)]) = x 6 := by show ((0) : Int) + ((1) * x 6 + 0) = _; omega
  have O6 : y_ev x (0, [(7, 1)]) = x 7 := by show ((0) : Int) + ((1) * x 7 + 0) = _; omega
  have O7 : y_ev x (0, [(8, 1)]) = x 8 := by show ((0) : Int) + ((1) * x 8 + 0) = _; omega
  have O8 : y_ev x (0, [(0, 1)]) = x 0 := by show ((0) : Int) + ((1) * x 0 + 0) = _; omega
  have O9 : y_ev x (0, []) = 0 := by show ((0) : Int) + 0 = _; omega
  have O10 : y_ev x ((-1), []) = (-1) := by show ((-1) : Int) + 0 = _; omega
  show (True) ∧ (q_qry v (y_ev x (3, [])) (y_ev x (0, [(2, 1)])) (y_ev x (0, [(3, 1)])) (y_ev x (0, [(4, 1)])) (y_ev x (0, [(5, 1)])) (y_ev x (0, [(6, 1)])) (y_ev x (0, [(7, 1)])) (y_ev x (0, [(8, 1)])) (y_ev x (0, [(0, 1)])) (y_ev x (0, [])) (y_ev x ((-1), [])) ∧ True)
  try rw [O0]; try rw [O1]; try rw [O2]; try rw [O3]; try rw [O4]; try rw [O5]; try rw [O6]; try rw [O7]; try rw [O8]; try rw [O9]; try rw [O10]
  exact K
def lm_1047 : zLem := (([((-2147483648), 2147483647), ((-2147483648), 2147483647), ((-2147483648), 2147483647), ((-2147483648), 2147483647), ((-2147483648), 2147483647), ((-2147483648), 2147483647), ((-2147483648), 2147483647), ((-2147483648), 2147483647)], [], [], [], [], [], [(237, [(0, [(0, 1)]), (0, [(1, 1)]), (0, [(2, 1)]), (0, [(3, 1)]), (0, [(4, 1)]), (0, [(5, 1)]), (0, [(6, 1)]), (0, [(7, 1)])])]), [([((-2147483648), 2147483647), ((-2147483648), 2147483647), ((-2147483648), 2147483647), ((-2147483648), 2147483647), ((-2147483648), 2147483647), ((-2147483648), 2147483647), ((-2147483648), 2147483647), ((-2147483648), 2147483647)], [], [], [], [], [], [(238, [(26, []), (0, [(1, 1)]), (0, [(2, 1)]), (0, [(3, 1)]), (0, [(4, 1)]), (0, [(5, 1)]), (0, [(6, 1)]), (0, [(7, 1)]), (9999, []), (0, []), (9999, [])])])])
theorem lk_1047 : l_core lm_1047 := by
  intro v x h
  have E0 : y_ev x (0, [(0, 1)]) = x 0 := by show ((0) : Int) + ((1) * x 0 + 0) = _; omega
  have E1 : y_ev x (0, [(1, 1)]) = x 1 := by show ((0) : Int) + ((1) * x 1 + 0) = _; omega
  have E2 : y_ev x (0, [(2, 1)]) = x 2 := by show ((0) : Int) + ((1) * x 2 + 0) = _; omega
  have E3 : y_ev x (0, [(3, 1)]) = x 3 := by show ((0) : Int) + ((1) * x 3 + 0) = _; omega
  have E4 : y_ev x (0, [(4, 1)]) = x 4 := by show ((0) : Int) + ((1) * x 4 + 0) = _; omega
  have E5 : y_ev x (0, [(5, 1)]) = x 5 := by show ((0) : Int) + ((1) * x 5 + 0) = _; omega
  have E6 : y_ev x (0, [(6, 1)]) = x 6 := by show ((0) : Int) + ((1) * x 6 + 0) = _; omega
  have E7 : y_ev x (0, [(7, 1)]) = x 7 := by show ((0) : Int) + ((1) * x 7 + 0) = _; omega
  have T0 : q_rwo v (y_ev x (0, [(0, 1)])) (y_ev x (0, [(1, 1)])) (y_ev x (0, [(2, 1)])) (y_ev x (0, [(3, 1)])) (y_ev x (0, [(4, 1)])) (y_ev x (0, [(5, 1)])) (y_ev x (0, [(6, 1)])) (y_ev x (0, [(7, 1)])) := h.2.2.2.1
  try rw [E0] at T0; try rw [E1] at T0; try rw [E2] at T0; try rw [E3] at T0; try rw [E4] at T0; try rw [E5] at T0; try rw [E6] at T0; try rw [E7] at T0
  have K := k_mim0 (V := v) (H := x 0) (q := x 1) (b := x 2) (s := x 3) (o := x 4) (a1 := x 5) (a2 := x 6) (a3 := x 7) T0
  refine l_outH rfl (And.intro h.1 ?_)
  have O0 : y_ev x (26, []) = 26 := by show ((26) : Int) + 0 = _; omega
  have O1 : y_ev x (0, [(1, 1)]) = x 1 := by show ((0) : Int) + ((1) * x 1 + 0) = _; omega
  have O2 : y_ev x (0, [(2, 1)]) = x 2 := by show ((0) : Int) + ((1) * x 2 + 0) = _; omega
  have O3 : y_ev x (0, [(3, 1)]) = x 3 := by show ((0) : Int) + ((1) * x 3 + 0) = _; omega
  have O4 : y_ev x (0, [(4, 1)]) = x 4 := by show ((0) : Int) + ((1) * x 4 + 0) = _; omega
  have O5 : y_ev x (0, [(5, 1)]) = x 5 := by show ((0) : Int) + ((1) * x 5 + 0) = _; omega
  have O6 : y_ev x (0, [(6, 1)]) = x 6 := by show ((0) : Int) + ((1) * x 6 + 0) = _; omega
  have O7 : y_ev x (0, [(7, 1)]) = x 7 := by show ((0) : Int) + ((1) * x 7 + 0) = _; omega
  have O8 : y_ev x (9999, []) = 9999 := by show ((9999) : Int) + 0 = _; omega
  have O9 : y_ev x (0, []) = 0 := by show ((0) : Int) + 0 = _; omega
  show (True) ∧ (q_qry v (y_ev x (26, [])) (y_ev x (0, [(1, 1)])) (y_ev x (0, [(2, 1)])) (y_ev x (0, [(3, 1)])) (y_ev x (0, [(4, 1)])) (y_ev x (0, [(5, 1)])) (y_ev x (0, [(6, 1)])) (y_ev x (0, [(7, 1)])) (y_ev x (9999, [])) (y_ev x (0, [])) (y_ev x (9999, [])) ∧ True)
  try rw [O0]; try rw [O1]; try rw [O2]; try rw [O3]; try rw [O4]; try rw [O5]; try rw [O6]; try rw [O7]; try rw [O8]; try rw [O9]
  exact K
def lm_1048 : zLem := (([((-2147483648), 2147483647), ((-2147483648), 2147483647), ((-2147483648), 2147483647), ((-2147483648), 2147483647), ((-2147483648), 2147483647), ((-2147483648), 2147483647), ((-2147483648), 2147483647), ((-2147483648), 2147483647), ((-2147483648), 2147483647), ((-2147483648), 2147483647)], [], [(0, [(1, 1)]), (0, [(0, (-1)), (2, 1)])], [], [(0, 0, 0, [(0, 1)]), (0, 0, 0, [(1, 1)])], [], [(238, [(2, []), (0, [(3, 1)]), (0, [(4, 1)]), (0, [(5, 1)]), (0, [(6, 1)]), (0, [(7, 1)]), (0, [(8, 1)]), (0, [(9, 1)]), (0, [(1, 1)]), (0, []), (0, [(2, 1)])]), (238, [(26, []), (0, [(3, 1)]), (0, [(4, 1)]), (0, [(5, 1)]), (0, [(6, 1)]), (0, [(7, 1)]), (0, [(8, 1)]), (0, [(9, 1)]), (9999, []), (0, [(1, 1)]), (0, [(0, 1)])])]), [([((-2147483648), 2147483647), ((-2147483648), 2147483647), ((-2147483648), 2147483647), ((-2147483648), 2147483647), ((-2147483648), 2147483647), ((-2147483648), 2147483647), ((-2147483648), 2147483647), ((-2147483648), 2147483647), ((-2147483648), 2147483647), ((-2147483648), 2147483647)], [], [], [], [], [], [(238, [(26, []), (0, [(3, 1)]), (0, [(4, 1)]), (0, [(5, 1)]), (0, [(6, 1)]), (0, [(7, 1)]), (0, [(8, 1)]), (0, [(9, 1)]), (9999, []), (1, [(1, 1)]), (0, [(0, 1)])])])])
theorem lk_1048 : l_core lm_1048 := by
  intro v x h
  have E0 : y_ev x (2, []) = 2 := by show ((2) : Int) + 0 = _; omega
  have E1 : y_ev x (0, [(3, 1)]) = x 3 := by show ((0) : Int) + ((1) * x 3 + 0) = _; omega
  have E2 : y_ev x (0, [(4, 1)]) = x 4 := by show ((0) : Int) + ((1) * x 4 + 0) = _; omega
  have E3 : y_ev x (0, [(5, 1)]) = x 5 := by show ((0) : Int) + ((1) * x 5 + 0) = _; omega
  have E4 : y_ev x (0, [(6, 1)]) = x 6 := by show ((0) : Int) + ((1) * x 6 + 0) = _; omega
  have E5 : y_ev x (0, [(7, 1)]) = x 7 := by show ((0) : Int) + ((1) * x 7 + 0) = _; omega
  have E6 : y_ev x (0, [(8, 1)]) = x 8 := by show ((0) : Int) + ((1) * x 8 + 0) = _; omega
  have E7 : y_ev x (0, [(9, 1)]) = x 9 := by show ((0) : Int) + ((1) * x 9 + 0) = _; omega
  have E8 : y_ev x (0, [(1, 1)]) = x 1 := by show ((0) : Int) + ((1) * x 1 + 0) = _; omega
  have E9 : y_ev x (0, []) = 0 := by show ((0) : Int) + 0 = _; omega
  have E10 : y_ev x (0, [(2, 1)]) = x 2 := by show ((0) : Int) + ((1) * x 2 + 0) = _; omega
  have E11 : y_ev x (26, []) = 26 := by show ((26) : Int) + 0 = _; omega
  have E12 : y_ev x (9999, []) = 9999 := by show ((9999) : Int) + 0 = _; omega
  have E13 : y_ev x (0, [(0, 1)]) = x 0 := by show ((0) : Int) + ((1) * x 0 + 0) = _; omega
  have E14 : y_ev x (0, [(0, (-1)), (2, 1)]) = x 2 - x 0 := by show ((0) : Int) + ((-1) * x 0 + ((1) * x 2 + 0)) = _; omega
  have T0 : q_qry v (y_ev x (2, [])) (y_ev x (0, [(3, 1)])) (y_ev x (0, [(4, 1)])) (y_ev x (0, [(5, 1)])) (y_ev x (0, [(6, 1)])) (y_ev x (0, [(7, 1)])) (y_ev x (0, [(8, 1)])) (y_ev x (0, [(9, 1)])) (y_ev x (0, [(1, 1)])) (y_ev x (0, [])) (y_ev x (0, [(2, 1)])) := h.2.2.2.1
  try rw [E0] at T0; try rw [E1] at T0; try rw [E2] at T0; try rw [E3] at T0; try rw [E4] at T0; try rw [E5] at T0; try rw [E6] at T0; try rw [E7] at T0; try rw [E8] at T0; try rw [E9] at T0; try rw [E10] at T0
  have T1 : q_qry v (y_ev x (26, [])) (y_ev x (0, [(3, 1)])) (y_ev x (0, [(4, 1)])) (y_ev x (0, [(5, 1)])) (y_ev x (0, [(6, 1)])) (y_ev x (0, [(7, 1)])) (y_ev x (0, [(8, 1)])) (y_ev x (0, [(9, 1)])) (y_ev x (9999, [])) (y_ev x (0, [(1, 1)])) (y_ev x (0, [(0, 1)])) := h.2.2.2.2.1
  try rw [E11] at T1; try rw [E1] at T1; try rw [E2] at T1; try rw [E3] at T1; try rw [E4] at T1; try rw [E5] at T1; try rw [E6] at T1; try rw [E7] at T1; try rw [E12] at T1; try rw [E8] at T1; try rw [E13] at T1
  have C0 : 0 ≤ y_ev x (0, [(1, 1)]) := h.2.1.1
  rw [E8] at C0
  have C1 : 0 ≤ y_ev x (0, [(0, (-1)), (2, 1)]) := h.2.1.2.1
  rw [E14] at C1
  have K := k_mimA (V := v) (z := x 0) (k := x 1) (u := x 2) (q := x 3) (b := x 4) (s := x 5) (o := x 6) (a1 := x 7) (a2 := x 8) (a3 := x 9) T0 T1 C0 C1
  refine l_outH rfl (And.intro h.1 ?_)
  have O0 : y_ev x (26, []) = 26 := by show ((26) : Int) + 0 = _; omega
  have O1 : y_ev x (0, [(3, 1)]) = x 3 := by show ((0) : Int) + ((1) * x 3 + 0) = _; omega
  have O2 : y_ev x (0, [(4, 1)]) = x 4 := by show ((0) : Int) + ((1) * x 4 + 0) = _; omega
  have O3 : y_ev x (0, [(5, 1)]) = x 5 := by show ((0) : Int) + ((1) * x 5 + 0) = _; omega
  have O4 : y_ev x (0, [(6, 1)]) = x 6 := by show ((0) : Int) + ((1) * x 6 + 0) = _; omega
  have O5 : y_ev x (0, [(7, 1)]) = x 7 := by show ((0) : Int) + ((1) * x 7 + 0) = _; omega
  have O6 : y_ev x (0, [(8, 1)]) = x 8 := by show ((0) : Int) + ((1) * x 8 + 0) = _; omega
  have O7 : y_ev x (0, [(9, 1)]) = x 9 := by show ((0) : Int) + ((1) * x 9 + 0) = _; omega
  have O8 : y_ev x (9999, []) = 9999 := by show ((9999) : Int) + 0 = _; omega
  have O9 : y_ev x (1, [(1, 1)]) = x 1 + 1 := by show ((1) : Int) + ((1) * x 1 + 0) = _; omega
  have O10 : y_ev x (0, [(0, 1)]) = x 0 := by show ((0) : Int) + ((1) * x 0 + 0) = _; omega
  show (True) ∧ (q_qry v (y_ev x (26, [])) (y_ev x (0, [(3, 1)])) (y_ev x (0, [(4, 1)])) (y_ev x (0, [(5, 1)])) (y_ev x (0, [(6, 1)])) (y_ev x (0, [(7, 1)])) (y_ev x (0, [(8, 1)])) (y_ev x (0, [(9, 1)])) (y_ev x (9999, [])) (y_ev x (1, [(1, 1)])) (y_ev x (0, [(0, 1)])) ∧ True)
  try rw [O0]; try rw [O1]; try rw [O2]; try rw [O3]; try rw [O4]; try rw [O5]; try rw [O6]; try rw [O7]; try rw [O8]; try rw [O9]; try rw [O10]
  exact K
def lm_1049 : zLem := (([((-2147483648), 2147483647), ((-2147483648), 2147483647), ((-2147483648), 2147483647), ((-2147483648), 2147483647), ((-2147483648), 2147483647), ((-2147483648), 2147483647), ((-2147483648), 2147483647), ((-2147483648), 2147483647), ((-2147483648), 2147483647), ((-2147483648), 2147483647), ((-2147483648), 2147483647)], [], [(0, [(1, 1)]), ((-1), [(0, 1), (2, (-1))])], [], [(0, 0, 0, [(0, 1)]), (0, 0, 0, [(1, 1)]), (0, 0, 0, [(3, 1)])], [], [(260, [(2, []), (0, [(4, 1)]), (0, [(5, 1)]), (0, [(6, 1)]), (0, [(7, 1)]), (0, [(8, 1)]), (0, [(9, 1)]), (0, [(10, 1)]), (0, [(1, 1)]), (0, []), (0, [(2, 1)])]), (238, [(2, []), (0, [(4, 1)]), (0, [(5, 1)]), (0, [(6, 1)]), (0, [(7, 1)]), (0, [(8, 1)]), (0, [(9, 1)]), (0, [(10, 1)]), (0, [(1, 1)]), (0, []), (0, [(3, 1)])]), (238, [(26, []), (0, [(4, 1)]), (0, [(5, 1)]), (0, [(6, 1)]), (0, [(7, 1)]), (0, [(8, 1)]), (0, [(9, 1)]), (0, [(10, 1)]), (9999, []), (0, [(1, 1)]), (0, [(0, 1)])])]), [([((-2147483648), 2147483647), ((-2147483648), 2147483647), ((-2147483648), 2147483647), ((-2147483648), 2147483647), ((-2147483648), 2147483647), ((-2147483648), 2147483647), ((-2147483648), 2147483647), ((-2147483648), 2147483647), ((-2147483648), 2147483647), ((-2147483648), 2147483647), ((-2147483648), 2147483647)], [], [], [], [], [], [(238, [(26, []), (0, [(4, 1)]), (0, [(5, 1)]), (0, [(6, 1)]), (0, [(7, 1)]), (0, [(8, 1)]), (0, [(9, 1)]), (0, [(10, 1)]), (9999, []), (1, [(1, 1)]), (0, [(3, 1)])])])])
theorem lk_1049 : l_core lm_1049 := by
  intro v x h
  have E0 : y_ev x (2, []) = 2 := by show ((2) : Int) + 0 = _; omega
  have E1 : y_ev x (0, [(4, 1)]) = x 4 := by show ((0) : Int) + ((1) * x 4 + 0) = _; omega
  have E2 : y_ev x (0, [(5, 1)]) = x 5 := by show ((0) : Int) + ((1) * x 5 + 0) = _; omega
  have E3 : y_ev x (0, [(6, 1)]) = x 6 := by show ((0) : Int) + ((1) * x 6 + 0) = _; omega
  have E4 : y_ev x (0, [(7, 1)]) = x 7 := by show ((0) : Int) + ((1) * x 7 + 0) = _; omega
  have E5 : y_ev x (0, [(8, 1)]) = x 8 := by show ((0) : Int) + ((1) * x 8 + 0) = _; omega
  have E6 : y_ev x (0, [(9, 1)]) = x 9 := by show ((0) : Int) + ((1) * x 9 + 0) = _; omega
  have E7 : y_ev x (0, [(10, 1)]) = x 10 := by show ((0) : Int) + ((1) * x 10 + 0) = _; omega
  have E8 : y_ev x (0, [(1, 1)]) = x 1 := by show ((0) : Int) + ((1) * x 1 + 0) = _; omega
  have E9 : y_ev x (0, []) = 0 := by show ((0) : Int) + 0 = _; omega
  have E10 : y_ev x (0, [(2, 1)]) = x 2 := by show ((0) : Int) + ((1) * x 2 + 0) = _; omega
  have E11 : y_ev x (0, [(3, 1)]) = x 3 := by show ((0) : Int) + ((1) * x 3 + 0) = _; omega
  have E12 : y_ev x (26, []) = 26 := by show ((26) : Int) + 0 = _; omega
  have E13 : y_ev x (9999, []) = 9999 := by show ((9999) : Int) + 0 = _; omega
  have E14 : y_ev x (0, [(0, 1)]) = x 0 := by show ((0) : Int) + ((1) * x 0 + 0) = _; omega
  have E15 : y_ev x ((-1), [(0, 1), (2, (-1))]) = x 0 - x 2 - 1 := by show ((-1) : Int) + ((1) * x 0 + ((-1) * x 2 + 0)) = _; omega
  have T0 : q_qry v (y_ev x (2, [])) (y_ev x (0, [(4, 1)])) (y_ev x (0, [(5, 1)])) (y_ev x (0, [(6, 1)])) (y_ev x (0, [(7, 1)])) (y_ev x (0, [(8, 1)])) (y_ev x (0, [(9, 1)])) (y_ev x (0, [(10, 1)])) (y_ev x (0, [(1, 1)])) (y_ev x (0, [])) (y_ev x (0, [(2, 1)])) := h.2.2.2.1
  try rw [E0] at T0; try rw [E1] at T0; try rw [E2] at T0; try rw [E3] at T0; try rw [E4] at T0; try rw [E5] at T0; try rw [E6] at T0; try rw [E7] at T0; try rw [E8] at T0; try rw [E9] at T0; try rw [E10] at T0
  have T1 : q_qry v (y_ev x (2, [])) (y_ev x (0, [(4, 1)])) (y_ev x (0, [(5, 1)])) (y_ev x (0, [(6, 1)])) (y_ev x (0, [(7, 1)])) (y_ev x (0, [(8, 1)])) (y_ev x (0, [(9, 1)])) (y_ev x (0, [(10, 1)])) (y_ev x (0, [(1, 1)])) (y_ev x (0, [])) (y_ev x (0, [(3, 1)])) := h.2.2.2.2.1
  try rw [E0] at T1; try rw [E1] at T1; try rw [E2] at T1; try rw [E3] at T1; try rw [E4] at T1; try rw [E5] at T1; try rw [E6] at T1; try rw [E7] at T1; try rw [E8] at T1; try rw [E9] at T1; try rw [E11] at T1
  have T2 : q_qry v (y_ev x (26, [])) (y_ev x (0, [(4, 1)])) (y_ev x (0, [(5, 1)])) (y_ev x (0, [(6, 1)])) (y_ev x (0, [(7, 1)])) (y_ev x (0, [(8, 1)])) (y_ev x (0, [(9, 1)])) (y_ev x (0, [(10, 1)])) (y_ev x (9999, [])) (y_ev x (0, [(1, 1)])) (y_ev x (0, [(0, 1)])) := h.2.2.2.2.2.1
  try rw [E12] at T2; try rw [E1] at T2; try rw [E2] at T2; try rw [E3] at T2; try rw [E4] at T2; try rw [E5] at T2; try rw [E6] at T2; try rw [E7] at T2; try rw [E13] at T2; try rw [E8] at T2; try rw [E14] at T2
  have C0 : 0 ≤ y_ev x (0, [(1, 1)]) := h.2.1.1
  rw [E8] at C0
  have C1 : 0 ≤ y_ev x ((-1), [(0, 1), (2, (-1))]) := h.2.1.2.1
  rw [E15] at C1
  have K := k_mimB (V := v) (z := x 0) (k := x 1) (u := x 2) (w := x 3) (q := x 4) (b := x 5) (s := x 6) (o := x 7) (a1 := x 8) (a2 := x 9) (a3 := x 10) T0 T1 T2 C0 C1
  refine l_outH rfl (And.intro h.1 ?_)
  have O0 : y_ev x (26, []) = 26 := by show ((26) : Int) + 0 = _; omega
  have O1 : y_ev x (0, [(4, 1)]) = x 4 := by show ((0) : Int) + ((1) * x 4 + 0) = _; omega
  have O2 : y_ev x (0, [(5, 1)]) = x 5 := by show ((0) : Int) + ((1) * x 5 + 0) = _; omega
  have O3 : y_ev x (0, [(6, 1)]) = x 6 := by show ((0) : Int) + ((1) * x 6 + 0) = _; omega
  have O4 : y_ev x (0, [(7, 1)]) = x 7 := by show ((0) : Int) + ((1) * x 7 + 0) = _; omega
  have O5 : y_ev x (0, [(8, 1)]) = x 8 := by show ((0) : Int) + ((1) * x 8 + 0) = _; omega
  have O6 : y_ev x (0, [(9, 1)]) = x 9 := by show ((0) : Int) + ((1) * x 9 + 0) = _; omega
  have O7 : y_ev x (0, [(10, 1)]) = x 10 := by show ((0) : Int) + ((1) * x 10 + 0) = _; omega
  have O8 : y_ev x (9999, []) = 9999 := by show ((9999) : Int) + 0 = _; omega
  have O9 : y_ev x (1, [(1, 1)]) = x 1 + 1 := by show ((1) : Int) + ((1) * x 1 + 0) = _; omega
  have O10 : y_ev x (0, [(3, 1)]) = x 3 := by show ((0) : Int) + ((1) * x 3 + 0) = _; omega
  show (True) ∧ (q_qry v (y_ev x (26, [])) (y_ev x (0, [(4, 1)])) (y_ev x (0, [(5, 1)])) (y_ev x (0, [(6, 1)])) (y_ev x (0, [(7, 1)])) (y_ev x (0, [(8, 1)])) (y_ev x (0, [(9, 1)])) (y_ev x (0, [(10, 1)])) (y_ev x (9999, [])) (y_ev x (1, [(1, 1)])) (y_ev x (0, [(3, 1)])) ∧ True)
  try rw [O0]; try rw [O1]; try rw [O2]; try rw [O3]; try rw [O4]; try rw [O5]; try rw [O6]; try rw [O7]; try rw [O8]; try rw [O9]; try rw [O10]
  exact K
def lm_1050 : zLem := (([((-2147483648), 2147483647), ((-2147483648), 2147483647), ((-2147483648), 2147483647), ((-2147483648), 2147483647), ((-2147483648), 2147483647), ((-2147483648), 2147483647), ((-2147483648), 2147483647), ((-2147483648), 2147483647), ((-2147483648), 2147483647), ((-2147483648), 2147483647), ((-2147483648), 2147483647)], [(78, false)], [((-1), [(0, (-1))]), (0, [(1, 1)]), (0, [(1, (-2)), (10, 1)]), (0, [(1, 2), (10, (-1))])], [], [(0, 0, 0, [(0, 1)])], [(0, (true, 0, 24, []), 0, 0, 0, [(1, 1)])], [(237, [(0, [(2, 1)]), (0, [(3, 1)]), (0, [(4, 1)]), (0, [(5, 1)]), (0, [(6, 1)]), (0, [(7, 1)]), (0, [(8, 1)]), (0, [(9, 1)])]), (238, [(26, []), (0, [(3, 1)]), (0, [(4, 1)]), (0, [(5, 1)]), (0, [(6, 1)]), (0, [(7, 1)]), (0, [(8, 1)]), (0, [(9, 1)]), (9999, []), (0, [(10, 1)]), (0, [(0, 1)])])]), [([((-2147483648), 2147483647), ((-2147483648), 2147483647), ((-2147483648), 2147483647), ((-2147483648), 2147483647), ((-2147483648), 2147483647), ((-2147483648), 2147483647), ((-2147483648), 2147483647), ((-2147483648), 2147483647), ((-2147483648), 2147483647), ((-2147483648), 2147483647), ((-2147483648), 2147483647)], [(78, false)], [], [], [], [], [(238, [(27, []), (0, [(3, 1)]), (0, [(4, 1)]), (0, [(5, 1)]), (0, [(6, 1)]), (0, [(7, 1)]), (0, [(8, 1)]), (0, [(9, 1)]), (0, []), (0, []), ((-2), [])])])])
theorem lk_1050 : l_core lm_1050 := by
  intro v x h
  have E0 : y_ev x (0, [(2, 1)]) = x 2 := by show ((0) : Int) + ((1) * x 2 + 0) = _; omega
  have E1 : y_ev x (0, [(3, 1)]) = x 3 := by show ((0) : Int) + ((1) * x 3 + 0) = _; omega
  have E2 : y_ev x (0, [(4, 1)]) = x 4 := by show ((0) : Int) + ((1) * x 4 + 0) = _; omega
  have E3 : y_ev x (0, [(5, 1)]) = x 5 := by show ((0) : Int) + ((1) * x 5 + 0) = _; omega
  have E4 : y_ev x (0, [(6, 1)]) = x 6 := by show ((0) : Int) + ((1) * x 6 + 0) = _; omega
  have E5 : y_ev x (0, [(7, 1)]) = x 7 := by show ((0) : Int) + ((1) * x 7 + 0) = _; omega
  have E6 : y_ev x (0, [(8, 1)]) = x 8 := by show ((0) : Int) + ((1) * x 8 + 0) = _; omega
  have E7 : y_ev x (0, [(9, 1)]) = x 9 := by show ((0) : Int) + ((1) * x 9 + 0) = _; omega
  have E8 : y_ev x (26, []) = 26 := by show ((26) : Int) + 0 = _; omega
  have E9 : y_ev x (9999, []) = 9999 := by show ((9999) : Int) + 0 = _; omega
  have E10 : y_ev x (0, [(10, 1)]) = x 10 := by show ((0) : Int) + ((1) * x 10 + 0) = _; omega
  have E11 : y_ev x (0, [(0, 1)]) = x 0 := by show ((0) : Int) + ((1) * x 0 + 0) = _; omega
  have E12 : y_ev x ((-1), [(0, (-1))]) = -x 0 - 1 := by show ((-1) : Int) + ((-1) * x 0 + 0) = _; omega
  have E13 : y_ev x (0, [(1, 1)]) = x 1 := by show ((0) : Int) + ((1) * x 1 + 0) = _; omega
  have E14 : y_ev x (0, [(1, (-2)), (10, 1)]) = x 10 - 2 * x 1 := by show ((0) : Int) + ((-2) * x 1 + ((1) * x 10 + 0)) = _; omega
  have E15 : y_ev x (0, [(1, 2), (10, (-1))]) = 2 * x 1 - x 10 := by show ((0) : Int) + ((2) * x 1 + ((-1) * x 10 + 0)) = _; omega
  have E16 : y_ev x (24, []) = 24 := by show ((24) : Int) + 0 = _; omega
  have T0 : q_rwo v (y_ev x (0, [(2, 1)])) (y_ev x (0, [(3, 1)])) (y_ev x (0, [(4, 1)])) (y_ev x (0, [(5, 1)])) (y_ev x (0, [(6, 1)])) (y_ev x (0, [(7, 1)])) (y_ev x (0, [(8, 1)])) (y_ev x (0, [(9, 1)])) := h.2.2.2.1
  try rw [E0] at T0; try rw [E1] at T0; try rw [E2] at T0; try rw [E3] at T0; try rw [E4] at T0; try rw [E5] at T0; try rw [E6] at T0; try rw [E7] at T0
  have T1 : q_qry v (y_ev x (26, [])) (y_ev x (0, [(3, 1)])) (y_ev x (0, [(4, 1)])) (y_ev x (0, [(5, 1)])) (y_ev x (0, [(6, 1)])) (y_ev x (0, [(7, 1)])) (y_ev x (0, [(8, 1)])) (y_ev x (0, [(9, 1)])) (y_ev x (9999, [])) (y_ev x (0, [(10, 1)])) (y_ev x (0, [(0, 1)])) := h.2.2.2.2.1
  try rw [E8] at T1; try rw [E1] at T1; try rw [E2] at T1; try rw [E3] at T1; try rw [E4] at T1; try rw [E5] at T1; try rw [E6] at T1; try rw [E7] at T1; try rw [E9] at T1; try rw [E10] at T1; try rw [E11] at T1
  have C0 : 0 ≤ y_ev x ((-1), [(0, (-1))]) := h.2.1.1
  rw [E12] at C0
  have C1 : 0 ≤ y_ev x (0, [(1, 1)]) := h.2.1.2.1
  rw [E13] at C1
  have C2 : 0 ≤ y_ev x (0, [(1, (-2)), (10, 1)]) := h.2.1.2.2.1
  rw [E14] at C2
  have C3 : 0 ≤ y_ev x (0, [(1, 2), (10, (-1))]) := h.2.1.2.2.2.1
  rw [E15] at C3
  have F0 : 0 ≤ y_ev x (24, []) ∧ y_ev x (24, []) < j_len 78 ∧ v 78 (y_ev x (24, [])) = y_ev x (0, [(1, 1)]) := h.2.2.1.1.1
  try rw [E16] at F0; try rw [E13] at F0
  have K := k_mmoN (V := v) (z := x 0) (p := x 1) (H := x 2) (q := x 3) (b := x 4) (s := x 5) (o := x 6) (a1 := x 7) (a2 := x 8) (a3 := x 9) (n := x 10) T0 T1 C0 C1 C2 C3 F0
  refine l_outH rfl (And.intro h.1 ?_)
  have O0 : y_ev x (27, []) = 27 := by show ((27) : Int) + 0 = _; omega
  have O1 : y_ev x (0, [(3, 1)]) = x 3 := by show ((0) : Int) + ((1) * x 3 + 0) = _; omega
  have O2 : y_ev x (0, [(4, 1)]) = x 4 := by show ((0) : Int) + ((1) * x 4 + 0) = _; omega
  have O3 : y_ev x (0, [(5, 1)]) = x 5 := by show ((0) : Int) + ((1) * x 5 + 0) = _; omega
  have O4 : y_ev x (0, [(6, 1)]) = x 6 := by show ((0) : Int) + ((1) * x 6 + 0) = _; omega
  have O5 : y_ev x (0, [(7, 1)]) = x 7 := by show ((0) : Int) + ((1) * x 7 + 0) = _; omega
  have O6 : y_ev x (0, [(8, 1)]) = x 8 := by show ((0) : Int) + ((1) * x 8 + 0) = _; omega
  have O7 : y_ev x (0, [(9, 1)]) = x 9 := by show ((0) : Int) + ((1) * x 9 + 0) = _; omega
  have O8 : y_ev x (0, []) = 0 := by show ((0) : Int) + 0 = _; omega
  have O9 : y_ev x ((-2), []) = (-2) := by show ((-2) : Int) + 0 = _; omega
  show (True) ∧ (q_qry v (y_ev x (27, [])) (y_ev x (0, [(3, 1)])) (y_ev x (0, [(4, 1)])) (y_ev x (0, [(5, 1)])) (y_ev x (0, [(6, 1)])) (y_ev x (0, [(7, 1)])) (y_ev x (0, [(8, 1)])) (y_ev x (0, [(9, 1)])) (y_ev x (0, [])) (y_ev x (0, [])) (y_ev x ((-2), [])) ∧ True)
  try rw [O0]; try rw [O1]; try rw [O2]; try rw [O3]; try rw [O4]; try rw [O5]; try rw [O6]; try rw [O7]; try rw [O8]; try rw [O9]
  exact K
def lm_1051 : zLem := (([((-2147483648), 2147483647), ((-2147483648), 2147483647), ((-2147483648), 2147483647), ((-2147483648), 2147483647), ((-2147483648), 2147483647), ((-2147483648), 2147483647), ((-2147483648), 2147483647), ((-2147483648), 2147483647), ((-2147483648), 2147483647), ((-2147483648), 2147483647), ((-2147483648), 2147483647)], [(78, false)], [(0, [(0, 1)]), (999, [(0, (-1))]), (0, [(1, 1)]), (0, [(1, (-2)), (10, 1)]), (0, [(1, 2), (10, (-1))])], [], [(0, 0, 0, [(0, 1)])], [(0, (true, 0, 24, []), 0, 0, 0, [(1, 1)])], [(237, [(0, [(2, 1)]), (0, [(3, 1)]), (0, [(4, 1)]), (0, [(5, 1)]), (0, [(6, 1)]), (0, [(7, 1)]), (0, [(8, 1)]), (0, [(9, 1)])]), (238, [(26, []), (0, [(3, 1)]), (0, [(4, 1)]), (0, [(5, 1)]), (0, [(6, 1)]), (0, [(7, 1)]), (0, [(8, 1)]), (0, [(9, 1)]), (9999, []), (0, [(10, 1)]), (0, [(0, 1)])])]), [([((-2147483648), 2147483647), ((-2147483648), 2147483647), ((-2147483648), 2147483647), ((-2147483648), 2147483647), ((-2147483648), 2147483647), ((-2147483648), 2147483647), ((-2147483648), 2147483647), ((-2147483648), 2147483647), ((-2147483648), 2147483647), ((-2147483648), 2147483647), ((-2147483648), 2147483647)], [(78, false)], [], [], [], [], [(238, [(27, []), (0, [(3, 1)]), (0, [(4, 1)]), (0, [(5, 1)]), (0, [(6, 1)]), (0, [(7, 1)]), (0, [(8, 1)]), (0, [(9, 1)]), (0, []), (0, []), (0, [(0, 1)])])])])
theorem lk_1051 : l_core lm_1051 := by
  intro v x h
  have E0 : y_ev x (0, [(2, 1)]) = x 2 := by show ((0) : Int) + ((1) * x 2 + 0) = _; omega
  have E1 : y_ev x (0, [(3, 1)]) = x 3 := by show ((0) : Int) + ((1) * x 3 + 0) = _; omega
  have E2 : y_ev x (0, [(4, 1)]) = x 4 := by show ((0) : Int) + ((1) * x 4 + 0) = _; omega
  have E3 : y_ev x (0, [(5, 1)]) = x 5 := by show ((0) : Int) + ((1) * x 5 + 0) = _; omega
  have E4 : y_ev x (0, [(6, 1)]) = x 6 := by show ((0) : Int) + ((1) * x 6 + 0) = _; omega
  have E5 : y_ev x (0, [(7, 1)]) = x 7 := by show ((0) : Int) + ((1) * x 7 + 0) = _; omega
  have E6 : y_ev x (0, [(8, 1)]) = x 8 := by show ((0) : Int) + ((1) * x 8 + 0) = _; omega
  have E7 : y_ev x (0, [(9, 1)]) = x 9 := by show ((0) : Int) + ((1) * x 9 + 0) = _; omega
  have E8 : y_ev x (26, []) = 26 := by show ((26) : Int) + 0 = _; omega
  have E9 : y_ev x (9999, []) = 9999 := by show ((9999) : Int) + 0 = _; omega
  have E10 : y_ev x (0, [(10, 1)]) = x 10 := by show ((0) : Int) + ((1) * x 10 + 0) = _; omega
  have E11 : y_ev x (0, [(0, 1)]) = x 0 := by show ((0) : Int) + ((1) * x 0 + 0) = _; omega
  have E12 : y_ev x (999, [(0, (-1))]) = 999 - x 0 := by show ((999) : Int) + ((-1) * x 0 + 0) = _; omega
  have E13 : y_ev x (0, [(1, 1)]) = x 1 := by show ((0) : Int) + ((1) * x 1 + 0) = _; omega
  have E14 : y_ev x (0, [(1, (-2)), (10, 1)]) = x 10 - 2 * x 1 := by show ((0) : Int) + ((-2) * x 1 + ((1) * x 10 + 0)) = _; omega
  have E15 : y_ev x (0, [(1, 2), (10, (-1))]) = 2 * x 1 - x 10 := by show ((0) : Int) + ((2) * x 1 + ((-1) * x 10 + 0)) = _; omega
  have E16 : y_ev x (24, []) = 24 := by show ((24) : Int) + 0 = _; omega
  have T0 : q_rwo v (y_ev x (0, [(2, 1)])) (y_ev x (0, [(3, 1)])) (y_ev x (0, [(4, 1)])) (y_ev x (0, [(5, 1)])) (y_ev x (0, [(6, 1)])) (y_ev x (0, [(7, 1)])) (y_ev x (0, [(8, 1)])) (y_ev x (0, [(9, 1)])) := h.2.2.2.1
  try rw [E0] at T0; try rw [E1] at T0; try rw [E2] at T0; try rw [E3] at T0; try rw [E4] at T0; try rw [E5] at T0; try rw [E6] at T0; try rw [E7] at T0
  have T1 : q_qry v (y_ev x (26, [])) (y_ev x (0, [(3, 1)])) (y_ev x (0, [(4, 1)])) (y_ev x (0, [(5, 1)])) (y_ev x (0, [(6, 1)])) (y_ev x (0, [(7, 1)])) (y_ev x (0, [(8, 1)])) (y_ev x (0, [(9, 1)])) (y_ev x (9999, [])) (y_ev x (0, [(10, 1)])) (y_ev x (0, [(0, 1)])) := h.2.2.2.2.1
  try rw [E8] at T1; try rw [E1] at T1; try rw [E2] at T1; try rw [E3] at T1; try rw [E4] at T1; try rw [E5] at T1; try rw [E6] at T1; try rw [E7] at T1; try rw [E9] at T1; try rw [E10] at T1; try rw [E11] at T1
  have C0 : 0 ≤ y_ev x (0, [(0, 1)]) := h.2.1.1
  rw [E11] at C0
  have C1 : 0 ≤ y_ev x (999, [(0, (-1))]) := h.2.1.2.1
  rw [E12] at C1
  have C2 : 0 ≤ y_ev x (0, [(1, 1)]) := h.2.1.2.2.1
  rw [E13] at C2
  have C3 : 0 ≤ y_ev x (0, [(1, (-2)), (10, 1)]) := h.2.1.2.2.2.1
  rw [E14] at C3
  have C4 : 0 ≤ y_ev x (0, [(1, 2), (10, (-1))]) := h.2.1.2.2.2.2.1
  rw [E15] at C4
  have F0 : 0 ≤ y_ev x (24, []) ∧ y_ev x (24, []) < j_len 78 ∧ v 78 (y_ev x (24, [])) = y_ev x (0, [(1, 1)]) := h.2.2.1.1.1
  try rw [E16] at F0; try rw [E13] at F0
  have K := k_mmoY (V := v) (z := x 0) (p := x 1) (H := x 2) (q := x 3) (b := x 4) (s := x 5) (o := x 6) (a1 := x 7) (a2 := x 8) (a3 := x 9) (n := x 10) T0 T1 C0 C1 C2 C3 C4 F0
  refine l_outH rfl (And.intro h.1 ?_)
  have O0 : y_ev x (27, []) = 27 := by show ((27) : Int) + 0 = _; omega
  have O1 : y_ev x (0, [(3, 1)]) = x 3 := by show ((0) : Int) + ((1) * x 3 + 0) = _; omega
  have O2 : y_ev x (0, [(4, 1)]) = x 4 := by show ((0) : Int) + ((1) * x 4 + 0) = _; omega
  have O3 : y_ev x (0, [(5, 1)]) = x 5 := by show ((0) : Int) + ((1) * x 5 + 0) = _; omega
  have O4 : y_ev x (0, [(6, 1)]) = x 6 := by show ((0) : Int) + ((1) * x 6 + 0) = _; omega
  have O5 : y_ev x (0, [(7, 1)]) = x 7 := by show ((0) : Int) + ((1) * x 7 + 0) = _; omega
  have O6 : y_ev x (0, [(8, 1)]) = x 8 := by show ((0) : Int) + ((1) * x 8 + 0) = _; omega
  have O7 : y_ev x (0, [(9, 1)]) = x 9 := by show ((0) : Int) + ((1) * x 9 + 0) = _; omega
  have O8 : y_ev x (0, []) = 0 := by show ((0) : Int) + 0 = _; omega
  have O9 : y_ev x (0, [(0, 1)]) = x 0 := by show ((0) : Int) + ((1) * x 0 + 0) = _; omega
  show (True) ∧ (q_qry v (y_ev x (27, [])) (y_ev x (0, [(3, 1)])) (y_ev x (0, [(4, 1)])) (y_ev x (0, [(5, 1)])) (y_ev x (0, [(6, 1)])) (y_ev x (0, [(7, 1)])) (y_ev x (0, [(8, 1)])) (y_ev x (0, [(9, 1)])) (y_ev x (0, [])) (y_ev x (0, [])) (y_ev x (0, [(0, 1)])) ∧ True)
  try rw [O0]; try rw [O1]; try rw [O2]; try rw [O3]; try rw [O4]; try rw [O5]; try rw [O6]; try rw [O7]; try rw [O8]; try rw [O9]
  exact K
def lm_1052 : zLem := (([((-2147483648), 2147483647), ((-2147483648), 2147483647), ((-2147483648), 2147483647), ((-2147483648), 2147483647), ((-2147483648), 2147483647), ((-2147483648), 2147483647), ((-2147483648), 2147483647), ((-2147483648), 2147483647), ((-2147483648), 2147483647), ((-2147483648), 2147483647), ((-2147483648), 2147483647)], [(78, false)], [((-1000), [(0, 1)]), (0, [(1, 1)]), (0, [(1, (-2)), (10, 1)]), (0, [(1, 2), (10, (-1))])], [], [(0, 0, 0, [(0, 1)])], [(0, (true, 0, 24, []), 0, 0, 0, [(1, 1)])], [(237, [(0, [(2, 1)]), (0, [(3, 1)]), (0, [(4, 1)]), (0, [(5, 1)]), (0, [(6, 1)]), (0, [(7, 1)]), (0, [(8, 1)]), (0, [(9, 1)])]), (238, [(26, []), (0, [(3, 1)]), (0, [(4, 1)]), (0, [(5, 1)]), (0, [(6, 1)]), (0, [(7, 1)]), (0, [(8, 1)]), (0, [(9, 1)]), (9999, []), (0, [(10, 1)]), (0, [(0, 1)])])]), [([((-2147483648), 2147483647), ((-2147483648), 2147483647), ((-2147483648), 2147483647), ((-2147483648), 2147483647), ((-2147483648), 2147483647), ((-2147483648), 2147483647), ((-2147483648), 2147483647), ((-2147483648), 2147483647), ((-2147483648), 2147483647), ((-2147483648), 2147483647), ((-2147483648), 2147483647)], [(78, false)], [], [], [], [], [(238, [(27, []), (0, [(3, 1)]), (0, [(4, 1)]), (0, [(5, 1)]), (0, [(6, 1)]), (0, [(7, 1)]), (0, [(8, 1)]), (0, [(9, 1)]), (0, []), (0, []), (999, [])])])])
theorem lk_1052 : l_core lm_1052 := by
  intro v x h
  have E0 : y_ev x (0, [(2, 1)]) = x 2 := by show ((0) : Int) + ((1) * x 2 + 0) = _; omega
  have E1 : y_ev x (0, [(3, 1)]) = x 3 := by show ((0) : Int) + ((1) * x 3 + 0) = _; omega
  have E2 : y_ev x (0, [(4, 1)]) = x 4 := by show ((0) : Int) + ((1) * x 4 + 0) = _; omega
  have E3 : y_ev x (0, [(5, 1)]) = x 5 := by show ((0) : Int) + ((1) * x 5 + 0) = _; omega
  have E4 : y_ev x (0, [(6, 1)]) = x 6 := by show ((0) : Int) + ((1) * x 6 + 0) = _; omega
  have E5 : y_ev x (0, [(7, 1)]) = x 7 := by show ((0) : Int) + ((1) * x 7 + 0) = _; omega
  have E6 : y_ev x (0, [(8, 1)]) = x 8 := by show ((0) : Int) + ((1) * x 8 + 0) = _; omega
  have E7 : y_ev x (0, [(9, 1)]) = x 9 := by show ((0) : Int) + ((1) * x 9 + 0) = _; omega
  have E8 : y_ev x (26, []) = 26 := by show ((26) : Int) + 0 = _; omega
  have E9 : y_ev x (9999, []) = 9999 := by show ((9999) : Int) + 0 = _; omega
  have E10 : y_ev x (0, [(10, 1)]) = x 10 := by show ((0) : Int) + ((1) * x 10 + 0) = _; omega
  have E11 : y_ev x (0, [(0, 1)]) = x 0 := by show ((0) : Int) + ((1) * x 0 + 0) = _; omega
  have E12 : y_ev x ((-1000), [(0, 1)]) = x 0 - 1000 := by show ((-1000) : Int) + ((1) * x 0 + 0) = _; omega
  have E13 : y_ev x (0, [(1, 1)]) = x 1 := by show ((0) : Int) + ((1) * x 1 + 0) = _; omega
  have E14 : y_ev x (0, [(1, (-2)), (10, 1)]) = x 10 - 2 * x 1 := by show ((0) : Int) + ((-2) * x 1 + ((1) * x 10 + 0)) = _; omega
  have E15 : y_ev x (0, [(1, 2), (10, (-1))]) = 2 * x 1 - x 10 := by show ((0) : Int) + ((2) * x 1 + ((-1) * x 10 + 0)) = _; omega
  have E16 : y_ev x (24, []) = 24 := by show ((24) : Int) + 0 = _; omega
  have T0 : q_rwo v (y_ev x (0, [(2, 1)])) (y_ev x (0, [(3, 1)])) (y_ev x (0, [(4, 1)])) (y_ev x (0, [(5, 1)])) (y_ev x (0, [(6, 1)])) (y_ev x (0, [(7, 1)])) (y_ev x (0, [(8, 1)])) (y_ev x (0, [(9, 1)])) := h.2.2.2.1
  try rw [E0] at T0; try rw [E1] at T0; try rw [E2] at T0; try rw [E3] at T0; try rw [E4] at T0; try rw [E5] at T0; try rw [E6] at T0; try rw [E7] at T0
  have T1 : q_qry v (y_ev x (26, [])) (y_ev x (0, [(3, 1)])) (y_ev x (0, [(4, 1)])) (y_ev x (0, [(5, 1)])) (y_ev x (0, [(6, 1)])) (y_ev x (0, [(7, 1)])) (y_ev x (0, [(8, 1)])) (y_ev x (0, [(9, 1)])) (y_ev x (9999, [])) (y_ev x (0, [(10, 1)])) (y_ev x (0, [(0, 1)])) := h.2.2.2.2.1
  try rw [E8] at T1; try rw [E1] at T1; try rw [E2] at T1; try rw [E3] at T1; try rw [E4] at T1; try rw [E5] at T1; try rw [E6] at T1; try rw [E7] at T1; try rw [E9] at T1; try rw [E10] at T1; try rw [E11] at T1
  have C0 : 0 ≤ y_ev x ((-1000), [(0, 1)]) := h.2.1.1
  rw [E12] at C0
  have C1 : 0 ≤ y_ev x (0, [(1, 1)]) := h.2.1.2.1
  rw [E13] at C1
  have C2 : 0 ≤ y_ev x (0, [(1, (-2)), (10, 1)]) := h.2.1.2.2.1
  rw [E14] at C2
  have C3 : 0 ≤ y_ev x (0, [(1, 2), (10, (-1))]) := h.2.1.2.2.2.1
  rw [E15] at C3
  have F0 : 0 ≤ y_ev x (24, []) ∧ y_ev x (24, []) < j_len 78 ∧ v 78 (y_ev x (24, [])) = y_ev x (0, [(1, 1)]) := h.2.2.1.1.1
  try rw [E16] at F0; try rw [E13] at F0
  have K := k_mmo9 (V := v) (z := x 0) (p := x 1) (H := x 2) (q := x 3) (b := x 4) (s := x 5) (o := x 6) (a1 := x 7) (a2 := x 8) (a3 := x 9) (n := x 10) T0 T1 C0 C1 C2 C3 F0
  refine l_outH rfl (And.intro h.1 ?_)
  have O0 : y_ev x (27, []) = 27 := by show ((27) : Int) + 0 = _; omega
  have O1 : y_ev x (0, [(3, 1)]) = x 3 := by show ((0) : Int) + ((1) * x 3 + 0) = _; omega
  have O2 : y_ev x (0, [(4, 1)]) = x 4 := by show ((0) : Int) + ((1) * x 4 + 0) = _; omega
  have O3 : y_ev x (0, [(5, 1)]) = x 5 := by show ((0) : Int) + ((1) * x 5 + 0) = _; omega
  have O4 : y_ev x (0, [(6, 1)]) = x 6 := by show ((0) : Int) + ((1) * x 6 + 0) = _; omega
  have O5 : y_ev x (0, [(7, 1)]) = x 7 := by show ((0) : Int) + ((1) * x 7 + 0) = _; omega
  have O6 : y_ev x (0, [(8, 1)]) = x 8 := by show ((0) : Int) + ((1) * x 8 + 0) = _; omega
  have O7 : y_ev x (0, [(9, 1)]) = x 9 := by show ((0) : Int) + ((1) * x 9 + 0) = _; omega
  have O8 : y_ev x (0, []) = 0 := by show ((0) : Int) + 0 = _; omega
  have O9 : y_ev x (999, []) = 999 := by show ((999) : Int) + 0 = _; omega
  show (True) ∧ (q_qry v (y_ev x (27, [])) (y_ev x (0, [(3, 1)])) (y_ev x (0, [(4, 1)])) (y_ev x (0, [(5, 1)])) (y_ev x (0, [(6, 1)])) (y_ev x (0, [(7, 1)])) (y_ev x (0, [(8, 1)])) (y_ev x (0, [(9, 1)])) (y_ev x (0, [])) (y_ev x (0, [])) (y_ev x (999, [])) ∧ True)
  try rw [O0]; try rw [O1]; try rw [O2]; try rw [O3]; try rw [O4]; try rw [O5]; try rw [O6]; try rw [O7]; try rw [O8]; try rw [O9]
  exact K
def lm_1053 : zLem := (([((-2147483648), 2147483647), ((-2147483648), 2147483647)], [], [(0, [(0, 1)]), (100, [(0, (-1))])], [], [(0, 0, 0, [(1, 1)])], [], [(108, [(0, [(0, 1)]), (2, []), (0, [(1, 1)])])]), [([((-2147483648), 2147483647), ((-2147483648), 2147483647)], [], [(0, [(1, 1)]), (1, [(1, (-1))])], [], [], [], [])])
theorem lk_1053 : l_core lm_1053 := by
  intro v x h
  have E0 : y_ev x (0, [(0, 1)]) = x 0 := by show ((0) : Int) + ((1) * x 0 + 0) = _; omega
  have E1 : y_ev x (2, []) = 2 := by show ((2) : Int) + 0 = _; omega
  have E2 : y_ev x (0, [(1, 1)]) = x 1 := by show ((0) : Int) + ((1) * x 1 + 0) = _; omega
  have E3 : y_ev x (100, [(0, (-1))]) = 100 - x 0 := by show ((100) : Int) + ((-1) * x 0 + 0) = _; omega
  have T0 : (mOP 108 (Int32.ofInt (y_ev x (0, [(0, 1)]))) (Int32.ofInt (y_ev x (2, [])))).toInt = (y_ev x (0, [(1, 1)])) := h.2.2.2.1
  try rw [E0] at T0; try rw [E1] at T0; try rw [E2] at T0
  have C0 : 0 ≤ y_ev x (0, [(0, 1)]) := h.2.1.1
  rw [E0] at C0
  have C1 : 0 ≤ y_ev x (100, [(0, (-1))]) := h.2.1.2.1
  rw [E3] at C1
  have K := k_rem2 (V := v) (n := x 0) (v := x 1) T0 C0 C1
  refine l_outH rfl (And.intro h.1 ?_)
  have O0 : y_ev x (0, [(1, 1)]) = x 1 := by show ((0) : Int) + ((1) * x 1 + 0) = _; omega
  have O1 : y_ev x (1, [(1, (-1))]) = 1 - x 1 := by show ((1) : Int) + ((-1) * x 1 + 0) = _; omega
  show (0 ≤ y_ev x (0, [(1, 1)]) ∧ 0 ≤ y_ev x (1, [(1, (-1))]) ∧ True) ∧ (True)
  try rw [O0]; try rw [O1]
  exact K
def lm_1054 : zLem := (([((-2147483648), 2147483647), ((-2147483648), 2147483647), ((-2147483648), 2147483647), ((-2147483648), 2147483647), ((-2147483648), 2147483647), ((-2147483648), 2147483647), ((-2147483648), 2147483647), ((-2147483648), 2147483647), ((-2147483648), 2147483647)], [], [], [], [(0, 0, 0, [(1, 1)])], [], [(260, [(27, []), (0, [(2, 1)]), (0, [(3, 1)]), (0, [(4, 1)]), (0, [(5, 1)]), (0, [(6, 1)]), (0, [(7, 1)]), (0, [(8, 1)]), (0, []), (0, []), (0, [(0, 1)])]), (238, [(27, []), (0, [(2, 1)]), (0, [(3, 1)]), (0, [(4, 1)]), (0, [(5, 1)]), (0, [(6, 1)]), (0, [(7, 1)]), (0, [(8, 1)]), (0, []), (0, []), (0, [(1, 1)])])]), [([((-2147483648), 2147483647), ((-2147483648), 2147483647), ((-2147483648), 2147483647), ((-2147483648), 2147483647), ((-2147483648), 2147483647), ((-2147483648), 2147483647), ((-2147483648), 2147483647), ((-2147483648), 2147483647), ((-2147483648), 2147483647)], [], [(0, [(0, 1), (1, (-1))]), (0, [(0, (-1)), (1, 1)])], [], [], [], [])])
theorem lk_1054 : l_core lm_1054 := by
  intro v x h
  have E0 : y_ev x (27, []) = 27 := by show ((27) : Int) + 0 = _; omega
  have E1 : y_ev x (0, [(2, 1)]) = x 2 := by show ((0) : Int) + ((1) * x 2 + 0) = _; omega
  have E2 : y_ev x (0, [(3, 1)]) = x 3 := by show ((0) : Int) + ((1) * x 3 + 0) = _; omega
  have E3 : y_ev x (0, [(4, 1)]) = x 4 := by show ((0) : Int) + ((1) * x 4 + 0) = _; omega
  have E4 : y_ev x (0, [(5, 1)]) = x 5 := by show ((0) : Int) + ((1) * x 5 + 0) = _; omega
  have E5 : y_ev x (0, [(6, 1)]) = x 6 := by show ((0) : Int) + ((1) * x 6 + 0) = _; omega
  have E6 : y_ev x (0, [(7, 1)]) = x 7 := by show ((0) : Int) + ((1) * x 7 + 0) = _; omega
  have E7 : y_ev x (0, [(8, 1)]) = x 8 := by show ((0) : Int) + ((1) * x 8 + 0) = _; omega
  have E8 : y_ev x (0, []) = 0 := by show ((0) : Int) + 0 = _; omega
  have E9 : y_ev x (0, [(0, 1)]) = x 0 := by show ((0) : Int) + ((1) * x 0 + 0) = _; omega
  have E10 : y_ev x (0, [(1, 1)]) = x 1 := by show ((0) : Int) + ((1) * x 1 + 0) = _; omega
  have T0 : q_qry v (y_ev x (27, [])) (y_ev x (0, [(2, 1)])) (y_ev x (0, [(3, 1)])) (y_ev x (0, [(4, 1)])) (y_ev x (0, [(5, 1)])) (y_ev x (0, [(6, 1)])) (y_ev x (0, [(7, 1)])) (y_ev x (0, [(8, 1)])) (y_ev x (0, [])) (y_ev x (0, [])) (y_ev x (0, [(0, 1)])) := h.2.2.2.1
  try rw [E0] at T0; try rw [E1] at T0; try rw [E2] at T0; try rw [E3] at T0; try rw [E4] at T0; try rw [E5] at T0; try rw [E6] at T0; try rw [E7] at T0; try rw [E8] at T0; try rw [E9] at T0
  have T1 : q_qry v (y_ev x (27, [])) (y_ev x (0, [(2, 1)])) (y_ev x (0, [(3, 1)])) (y_ev x (0, [(4, 1)])) (y_ev x (0, [(5, 1)])) (y_ev x (0, [(6, 1)])) (y_ev x (0, [(7, 1)])) (y_ev x (0, [(8, 1)])) (y_ev x (0, [])) (y_ev x (0, [])) (y_ev x (0, [(1, 1)])) := h.2.2.2.2.1
  try rw [E0] at T1; try rw [E1] at T1; try rw [E2] at T1; try rw [E3] at T1; try rw [E4] at T1; try rw [E5] at T1; try rw [E6] at T1; try rw [E7] at T1; try rw [E8] at T1; try rw [E10] at T1
  have K := k_mse (V := v) (u := x 0) (w := x 1) (q := x 2) (b := x 3) (s := x 4) (o := x 5) (a1 := x 6) (a2 := x 7) (a3 := x 8) T0 T1
  refine l_outH rfl (And.intro h.1 ?_)
  have O0 : y_ev x (0, [(0, 1), (1, (-1))]) = x 0 - x 1 := by show ((0) : Int) + ((1) * x 0 + ((-1) * x 1 + 0)) = _; omega
  have O1 : y_ev x (0, [(0, (-1)), (1, 1)]) = x 1 - x 0 := by show ((0) : Int) + ((-1) * x 0 + ((1) * x 1 + 0)) = _; omega
  show (0 ≤ y_ev x (0, [(0, 1), (1, (-1))]) ∧ 0 ≤ y_ev x (0, [(0, (-1)), (1, 1)]) ∧ True) ∧ (True)
  try rw [O0]; try rw [O1]
  exact K
def lm_1055 : zLem := (([((-2147483648), 2147483647), ((-2147483648), 2147483647), ((-2147483648), 2147483647)], [], [], [], [], [], [(260, [(27, []), (0, [(0, 1)]), (0, []), (0, []), (0, []), (0, []), (0, []), (0, []), (0, []), (0, []), (0, [(1, 1)])]), (238, [(27, []), (0, [(0, 1)]), (0, []), (0, []), (0, []), (0, []), (0, []), (0, []), (0, []), (0, []), (0, [(2, 1)])])]), [([((-2147483648), 2147483647), ((-2147483648), 2147483647), ((-2147483648), 2147483647)], [], [(0, [(1, 1), (2, (-1))]), (0, [(1, (-1)), (2, 1)])], [], [], [], [])])
theorem lk_1055 : l_core lm_1055 := by
  intro v x h
  have E0 : y_ev x (27, []) = 27 := by show ((27) : Int) + 0 = _; omega
  have E1 : y_ev x (0, [(0, 1)]) = x 0 := by show ((0) : Int) + ((1) * x 0 + 0) = _; omega
  have E2 : y_ev x (0, []) = 0 := by show ((0) : Int) + 0 = _; omega
  have E3 : y_ev x (0, [(1, 1)]) = x 1 := by show ((0) : Int) + ((1) * x 1 + 0) = _; omega
  have E4 : y_ev x (0, [(2, 1)]) = x 2 := by show ((0) : Int) + ((1) * x 2 + 0) = _; omega
  have T0 : q_qry v (y_ev x (27, [])) (y_ev x (0, [(0, 1)])) (y_ev x (0, [])) (y_ev x (0, [])) (y_ev x (0, [])) (y_ev x (0, [])) (y_ev x (0, [])) (y_ev x (0, [])) (y_ev x (0, [])) (y_ev x (0, [])) (y_ev x (0, [(1, 1)])) := h.2.2.2.1
  try rw [E0] at T0; try rw [E1] at T0; try rw [E2] at T0; try rw [E3] at T0
  have T1 : q_qry v (y_ev x (27, [])) (y_ev x (0, [(0, 1)])) (y_ev x (0, [])) (y_ev x (0, [])) (y_ev x (0, [])) (y_ev x (0, [])) (y_ev x (0, [])) (y_ev x (0, [])) (y_ev x (0, [])) (y_ev x (0, [])) (y_ev x (0, [(2, 1)])) := h.2.2.2.2.1
  try rw [E0] at T1; try rw [E1] at T1; try rw [E2] at T1; try rw [E4] at T1
  have K := k_qeM (V := v) (q := x 0) (u := x 1) (w := x 2) T0 T1
  refine l_outH rfl (And.intro h.1 ?_)
  have O0 : y_ev x (0, [(1, 1), (2, (-1))]) = x 1 - x 2 := by show ((0) : Int) + ((1) * x 1 + ((-1) * x 2 + 0)) = _; omega
  have O1 : y_ev x (0, [(1, (-1)), (2, 1)]) = x 2 - x 1 := by show ((0) : Int) + ((-1) * x 1 + ((1) * x 2 + 0)) = _; omega
  show (0 ≤ y_ev x (0, [(1, 1), (2, (-1))]) ∧ 0 ≤ y_ev x (0, [(1, (-1)), (2, 1)]) ∧ True) ∧ (True)
  try rw [O0]; try rw [O1]
  exact K
def lm_1056 : zLem := (([((-2147483648), 2147483647), ((-2147483648), 2147483647), ((-2147483648), 2147483647), ((-2147483648), 2147483647)], [], [], [], [], [], [(260, [(3, []), (0, [(0, 1)]), (0, []), (0, []), (0, []), (0, []), (0, []), (0, []), (0, [(1, 1)]), (0, []), (0, [(2, 1)])]), (238, [(3, []), (0, [(0, 1)]), (0, []), (0, []), (0, []), (0, []), (0, []), (0, []), (0, [(1, 1)]), (0, []), (0, [(3, 1)])])]), [([((-2147483648), 2147483647), ((-2147483648), 2147483647), ((-2147483648), 2147483647), ((-2147483648), 2147483647)], [], [(0, [(2, 1), (3, (-1))]), (0, [(2, (-1)), (3, 1)])], [], [], [], [])])
theorem lk_1056 : l_core lm_1056 := by
  intro v x h
  have E0 : y_ev x (3, []) = 3 := by show ((3) : Int) + 0 = _; omega
  have E1 : y_ev x (0, [(0, 1)]) = x 0 := by show ((0) : Int) + ((1) * x 0 + 0) = _; omega
  have E2 : y_ev x (0, []) = 0 := by show ((0) : Int) + 0 = _; omega
  have E3 : y_ev x (0, [(1, 1)]) = x 1 := by show ((0) : Int) + ((1) * x 1 + 0) = _; omega
  have E4 : y_ev x (0, [(2, 1)]) = x 2 := by show ((0) : Int) + ((1) * x 2 + 0) = _; omega
  have E5 : y_ev x (0, [(3, 1)]) = x 3 := by show ((0) : Int) + ((1) * x 3 + 0) = _; omega
  have T0 : q_qry v (y_ev x (3, [])) (y_ev x (0, [(0, 1)])) (y_ev x (0, [])) (y_ev x (0, [])) (y_ev x (0, [])) (y_ev x (0, [])) (y_ev x (0, [])) (y_ev x (0, [])) (y_ev x (0, [(1, 1)])) (y_ev x (0, [])) (y_ev x (0, [(2, 1)])) := h.2.2.2.1
  try rw [E0] at T0; try rw [E1] at T0; try rw [E2] at T0; try rw [E3] at T0; try rw [E4] at T0
  have T1 : q_qry v (y_ev x (3, [])) (y_ev x (0, [(0, 1)])) (y_ev x (0, [])) (y_ev x (0, [])) (y_ev x (0, [])) (y_ev x (0, [])) (y_ev x (0, [])) (y_ev x (0, [])) (y_ev x (0, [(1, 1)])) (y_ev x (0, [])) (y_ev x (0, [(3, 1)])) := h.2.2.2.2.1
  try rw [E0] at T1; try rw [E1] at T1; try rw [E2] at T1; try rw [E3] at T1; try rw [E5] at T1
  have K := k_qeB0 (V := v) (q := x 0) (x := x 1) (u := x 2) (w := x 3) T0 T1
  refine l_outH rfl (And.intro h.1 ?_)
  have O0 : y_ev x (0, [(2, 1), (3, (-1))]) = x 2 - x 3 := by show ((0) : Int) + ((1) * x 2 + ((-1) * x 3 + 0)) = _; omega
  have O1 : y_ev x (0, [(2, (-1)), (3, 1)]) = x 3 - x 2 := by show ((0) : Int) + ((-1) * x 2 + ((1) * x 3 + 0)) = _; omega
  show (0 ≤ y_ev x (0, [(2, 1), (3, (-1))]) ∧ 0 ≤ y_ev x (0, [(2, (-1)), (3, 1)]) ∧ True) ∧ (True)
  try rw [O0]; try rw [O1]
  exact K
def lm_1057 : zLem := (([((-2147483648), 2147483647), ((-2147483648), 2147483647), ((-2147483648), 2147483647), ((-2147483648), 2147483647), ((-2147483648), 2147483647)], [], [((-1), [(3, 1), (4, 1)]), (1, [(3, (-1)), (4, (-1))]), ((-1), [(0, (-1)), (1, 1)]), (1, [(0, 1), (1, (-1))]), (0, [(0, 1)]), (100, [(0, (-1))])], [], [(0, 0, 0, [(2, 1)]), (0, 0, 0, [(4, 1)])], [], [(108, [(0, [(0, 1)]), (2, []), (0, [(2, 1)])]), (108, [(0, [(1, 1)]), (2, []), (0, [(3, 1)])])]), [([((-2147483648), 2147483647), ((-2147483648), 2147483647), ((-2147483648), 2147483647), ((-2147483648), 2147483647), ((-2147483648), 2147483647)], [], [(0, [(2, 1), (4, (-1))]), (0, [(2, (-1)), (4, 1)])], [], [], [], [])])
theorem lk_1057 : l_core lm_1057 := by
  intro v x h
  have E0 : y_ev x (0, [(0, 1)]) = x 0 := by show ((0) : Int) + ((1) * x 0 + 0) = _; omega
  have E1 : y_ev x (2, []) = 2 := by show ((2) : Int) + 0 = _; omega
  have E2 : y_ev x (0, [(2, 1)]) = x 2 := by show ((0) : Int) + ((1) * x 2 + 0) = _; omega
  have E3 : y_ev x (0, [(1, 1)]) = x 1 := by show ((0) : Int) + ((1) * x 1 + 0) = _; omega
  have E4 : y_ev x (0, [(3, 1)]) = x 3 := by show ((0) : Int) + ((1) * x 3 + 0) = _; omega
  have E5 : y_ev x ((-1), [(3, 1), (4, 1)]) = x 3 + x 4 - 1 := by show ((-1) : Int) + ((1) * x 3 + ((1) * x 4 + 0)) = _; omega
  have E6 : y_ev x (1, [(3, (-1)), (4, (-1))]) = 1 - x 3 - x 4 := by show ((1) : Int) + ((-1) * x 3 + ((-1) * x 4 + 0)) = _; omega
  have E7 : y_ev x ((-1), [(0, (-1)), (1, 1)]) = x 1 - x 0 - 1 := by show ((-1) : Int) + ((-1) * x 0 + ((1) * x 1 + 0)) = _; omega
  have E8 : y_ev x (1, [(0, 1), (1, (-1))]) = x 0 - x 1 + 1 := by show ((1) : Int) + ((1) * x 0 + ((-1) * x 1 + 0)) = _; omega
  have E9 : y_ev x (100, [(0, (-1))]) = 100 - x 0 := by show ((100) : Int) + ((-1) * x 0 + 0) = _; omega
  have T0 : (mOP 108 (Int32.ofInt (y_ev x (0, [(0, 1)]))) (Int32.ofInt (y_ev x (2, [])))).toInt = (y_ev x (0, [(2, 1)])) := h.2.2.2.1
  try rw [E0] at T0; try rw [E1] at T0; try rw [E2] at T0
  have T1 : (mOP 108 (Int32.ofInt (y_ev x (0, [(1, 1)]))) (Int32.ofInt (y_ev x (2, [])))).toInt = (y_ev x (0, [(3, 1)])) := h.2.2.2.2.1
  try rw [E3] at T1; try rw [E1] at T1; try rw [E4] at T1
  have C0 : 0 ≤ y_ev x ((-1), [(3, 1), (4, 1)]) := h.2.1.1
  rw [E5] at C0
  have C1 : 0 ≤ y_ev x (1, [(3, (-1)), (4, (-1))]) := h.2.1.2.1
  rw [E6] at C1
  have C2 : 0 ≤ y_ev x ((-1), [(0, (-1)), (1, 1)]) := h.2.1.2.2.1
  rw [E7] at C2
  have C3 : 0 ≤ y_ev x (1, [(0, 1), (1, (-1))]) := h.2.1.2.2.2.1
  rw [E8] at C3
  have C4 : 0 ≤ y_ev x (0, [(0, 1)]) := h.2.1.2.2.2.2.1
  rw [E0] at C4
  have C5 : 0 ≤ y_ev x (100, [(0, (-1))]) := h.2.1.2.2.2.2.2.1
  rw [E9] at C5
  have K := k_qrem (V := v) (a := x 0) (b := x 1) (u := x 2) (w := x 3) (x := x 4) T0 T1 C0 C1 C2 C3 C4 C5
  refine l_outH rfl (And.intro h.1 ?_)
  have O0 : y_ev x (0, [(2, 1), (4, (-1))]) = x 2 - x 4 := by show ((0) : Int) + ((1) * x 2 + ((-1) * x 4 + 0)) = _; omega
  have O1 : y_ev x (0, [(2, (-1)), (4, 1)]) = x 4 - x 2 := by show ((0) : Int) + ((-1) * x 2 + ((1) * x 4 + 0)) = _; omega
  show (0 ≤ y_ev x (0, [(2, 1), (4, (-1))]) ∧ 0 ≤ y_ev x (0, [(2, (-1)), (4, 1)]) ∧ True) ∧ (True)
  try rw [O0]; try rw [O1]
  exact K
