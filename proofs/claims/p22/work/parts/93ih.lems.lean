noncomputable section
/-! ===== the lemmas as data, by program ===== -/
def lm_559 : zLem := (([((-2147483648), 2147483647), ((-2147483648), 2147483647)], [(12, false), (61, false)], [(0, [(0, 1)]), (1, [(0, (-1))])], [], [], [(0, (false, 19, 0, []), 0, 0, 0, [(0, 1)]), (1, (true, 0, 0, [(0, 1)]), 0, 0, 0, [(1, 1)])], []), [([((-2147483648), 2147483647), ((-2147483648), 2147483647)], [(12, false), (61, false)], [], [], [], [], [(88, [(0, [(0, 1)]), (0, [(1, 1)]), (1, [(0, (-1))])])])])
theorem lk_559 : l_core lm_559 := by
  first
  | skip
    intro v x h
    have G0 := h.2.2.1
    have G1 := G0.2
    have K := k_nwS_9 (V := v) (s := x 0) (w := x 1) (l_cc (l_e1 x 0) (h.2.1.1)) (l_cc (l_q1 1 x 0) (h.2.1.2.1)) (l_ff (f := v 61) (L := j_len 61) (l_e1 x 0) (l_e1 x 1) (G1.1.1))
    refine l_outH rfl (And.intro h.1 ?_)
    exact l_o3 (fun w0 w1 w2 : Int => (True) ∧ ((0 ≤ w0 ∧ w0 ≠ w2 ∧ v 61 w0 = w1) ∧ True)) (l_e1 x 0) (l_e1 x 1) (l_q1 1 x 0) K
  | skip
    intro v x h
    have G0 := h.2.2.1
    have G1 := G0.2
    have C0 : (0 : Int) ≤ x 0 := l_cc (a := y_ev x (0, [(0, 1)])) (l_e1 _ _) (h.2.1.1)
    have C1 : (0 : Int) ≤ 1 - x 0 := l_cc (a := y_ev x (1, [(0, (-1))])) (by show ((1) : Int) + ((-1) * x 0 + 0) = 1 - x 0; omega) (h.2.1.2.1)
    have F0 : (0 : Int) ≤ x 0 ∧ (x 0 : Int) < j_len 61 ∧ v 61 (x 0) = x 1 := l_ff (f := v 61) (L := j_len 61) (a := y_ev x (0, [(0, 1)])) (b := y_ev x (0, [(1, 1)])) (l_e1 _ _) (l_e1 _ _) (G1.1.1)
    have K := k_nwS_9 (V := v) (s := x 0) (w := x 1) C0 C1 F0
    refine l_outH rfl (And.intro h.1 ?_)
    have O0 : y_ev x (0, [(0, 1)]) = x 0 := l_e1 _ _
    have O1 : y_ev x (0, [(1, 1)]) = x 1 := l_e1 _ _
    have O2 : y_ev x (1, [(0, (-1))]) = 1 - x 0 := by show ((1) : Int) + ((-1) * x 0 + 0) = _; omega
    show (True) ∧ ((0 ≤ (y_ev x (0, [(0, 1)])) ∧ (y_ev x (0, [(0, 1)])) ≠ (y_ev x (1, [(0, (-1))])) ∧ v 61 (y_ev x (0, [(0, 1)])) = (y_ev x (0, [(1, 1)]))) ∧ True)
    (try rw [O0]); (try rw [O1]); (try rw [O2])
    exact K
def lm_560 : zLem := (([((-2147483648), 2147483647), ((-2147483648), 2147483647)], [(12, false), (62, false)], [(0, [(0, 1)]), (1, [(0, (-1))])], [], [], [(0, (false, 19, 0, []), 0, 0, 0, [(0, 1)]), (1, (true, 0, 0, [(0, 1)]), 0, 0, 0, [(1, 1)])], []), [([((-2147483648), 2147483647), ((-2147483648), 2147483647)], [(12, false), (62, false)], [], [], [], [], [(89, [(0, [(0, 1)]), (0, [(1, 1)]), (1, [(0, (-1))])])])])
theorem lk_560 : l_core lm_560 := by
  first
  | skip
    intro v x h
    have G0 := h.2.2.1
    have G1 := G0.2
    have K := k_nwS_10 (V := v) (s := x 0) (w := x 1) (l_cc (l_e1 x 0) (h.2.1.1)) (l_cc (l_q1 1 x 0) (h.2.1.2.1)) (l_ff (f := v 62) (L := j_len 62) (l_e1 x 0) (l_e1 x 1) (G1.1.1))
    refine l_outH rfl (And.intro h.1 ?_)
    exact l_o3 (fun w0 w1 w2 : Int => (True) ∧ ((0 ≤ w0 ∧ w0 ≠ w2 ∧ v 62 w0 = w1) ∧ True)) (l_e1 x 0) (l_e1 x 1) (l_q1 1 x 0) K
  | skip
    intro v x h
    have G0 := h.2.2.1
    have G1 := G0.2
    have C0 : (0 : Int) ≤ x 0 := l_cc (a := y_ev x (0, [(0, 1)])) (l_e1 _ _) (h.2.1.1)
    have C1 : (0 : Int) ≤ 1 - x 0 := l_cc (a := y_ev x (1, [(0, (-1))])) (by show ((1) : Int) + ((-1) * x 0 + 0) = 1 - x 0; omega) (h.2.1.2.1)
    have F0 : (0 : Int) ≤ x 0 ∧ (x 0 : Int) < j_len 62 ∧ v 62 (x 0) = x 1 := l_ff (f := v 62) (L := j_len 62) (a := y_ev x (0, [(0, 1)])) (b := y_ev x (0, [(1, 1)])) (l_e1 _ _) (l_e1 _ _) (G1.1.1)
    have K := k_nwS_10 (V := v) (s := x 0) (w := x 1) C0 C1 F0
    refine l_outH rfl (And.intro h.1 ?_)
    have O0 : y_ev x (0, [(0, 1)]) = x 0 := l_e1 _ _
    have O1 : y_ev x (0, [(1, 1)]) = x 1 := l_e1 _ _
    have O2 : y_ev x (1, [(0, (-1))]) = 1 - x 0 := by show ((1) : Int) + ((-1) * x 0 + 0) = _; omega
    show (True) ∧ ((0 ≤ (y_ev x (0, [(0, 1)])) ∧ (y_ev x (0, [(0, 1)])) ≠ (y_ev x (1, [(0, (-1))])) ∧ v 62 (y_ev x (0, [(0, 1)])) = (y_ev x (0, [(1, 1)]))) ∧ True)
    (try rw [O0]); (try rw [O1]); (try rw [O2])
    exact K
def lm_561 : zLem := (([((-2147483648), 2147483647), ((-2147483648), 2147483647)], [(12, false), (63, false)], [(0, [(0, 1)]), (1, [(0, (-1))])], [], [], [(0, (false, 19, 0, []), 0, 0, 0, [(0, 1)]), (1, (true, 0, 0, [(0, 1)]), 0, 0, 0, [(1, 1)])], []), [([((-2147483648), 2147483647), ((-2147483648), 2147483647)], [(12, false), (63, false)], [], [], [], [], [(90, [(0, [(0, 1)]), (0, [(1, 1)]), (1, [(0, (-1))])])])])
theorem lk_561 : l_core lm_561 := by
  first
  | skip
    intro v x h
    have G0 := h.2.2.1
    have G1 := G0.2
    have K := k_nwS_11 (V := v) (s := x 0) (w := x 1) (l_cc (l_e1 x 0) (h.2.1.1)) (l_cc (l_q1 1 x 0) (h.2.1.2.1)) (l_ff (f := v 63) (L := j_len 63) (l_e1 x 0) (l_e1 x 1) (G1.1.1))
    refine l_outH rfl (And.intro h.1 ?_)
    exact l_o3 (fun w0 w1 w2 : Int => (True) ∧ ((0 ≤ w0 ∧ w0 ≠ w2 ∧ v 63 w0 = w1) ∧ True)) (l_e1 x 0) (l_e1 x 1) (l_q1 1 x 0) K
  | skip
    intro v x h
    have G0 := h.2.2.1
    have G1 := G0.2
    have C0 : (0 : Int) ≤ x 0 := l_cc (a := y_ev x (0, [(0, 1)])) (l_e1 _ _) (h.2.1.1)
    have C1 : (0 : Int) ≤ 1 - x 0 := l_cc (a := y_ev x (1, [(0, (-1))])) (by show ((1) : Int) + ((-1) * x 0 + 0) = 1 - x 0; omega) (h.2.1.2.1)
    have F0 : (0 : Int) ≤ x 0 ∧ (x 0 : Int) < j_len 63 ∧ v 63 (x 0) = x 1 := l_ff (f := v 63) (L := j_len 63) (a := y_ev x (0, [(0, 1)])) (b := y_ev x (0, [(1, 1)])) (l_e1 _ _) (l_e1 _ _) (G1.1.1)
    have K := k_nwS_11 (V := v) (s := x 0) (w := x 1) C0 C1 F0
    refine l_outH rfl (And.intro h.1 ?_)
    have O0 : y_ev x (0, [(0, 1)]) = x 0 := l_e1 _ _
    have O1 : y_ev x (0, [(1, 1)]) = x 1 := l_e1 _ _
    have O2 : y_ev x (1, [(0, (-1))]) = 1 - x 0 := by show ((1) : Int) + ((-1) * x 0 + 0) = _; omega
    show (True) ∧ ((0 ≤ (y_ev x (0, [(0, 1)])) ∧ (y_ev x (0, [(0, 1)])) ≠ (y_ev x (1, [(0, (-1))])) ∧ v 63 (y_ev x (0, [(0, 1)])) = (y_ev x (0, [(1, 1)]))) ∧ True)
    (try rw [O0]); (try rw [O1]); (try rw [O2])
    exact K
def lm_562 : zLem := (([((-2147483648), 2147483647), ((-2147483648), 2147483647)], [(12, false), (64, false)], [(0, [(0, 1)]), (1, [(0, (-1))])], [], [], [(0, (false, 19, 0, []), 0, 0, 0, [(0, 1)]), (1, (true, 0, 0, [(0, 1)]), 0, 0, 0, [(1, 1)])], []), [([((-2147483648), 2147483647), ((-2147483648), 2147483647)], [(12, false), (64, false)], [], [], [], [], [(91, [(0, [(0, 1)]), (0, [(1, 1)]), (1, [(0, (-1))])])])])
theorem lk_562 : l_core lm_562 := by
  first
  | skip
    intro v x h
    have G0 := h.2.2.1
    have G1 := G0.2
    have K := k_nwS_12 (V := v) (s := x 0) (w := x 1) (l_cc (l_e1 x 0) (h.2.1.1)) (l_cc (l_q1 1 x 0) (h.2.1.2.1)) (l_ff (f := v 64) (L := j_len 64) (l_e1 x 0) (l_e1 x 1) (G1.1.1))
    refine l_outH rfl (And.intro h.1 ?_)
    exact l_o3 (fun w0 w1 w2 : Int => (True) ∧ ((0 ≤ w0 ∧ w0 ≠ w2 ∧ v 64 w0 = w1) ∧ True)) (l_e1 x 0) (l_e1 x 1) (l_q1 1 x 0) K
  | skip
    intro v x h
    have G0 := h.2.2.1
    have G1 := G0.2
    have C0 : (0 : Int) ≤ x 0 := l_cc (a := y_ev x (0, [(0, 1)])) (l_e1 _ _) (h.2.1.1)
    have C1 : (0 : Int) ≤ 1 - x 0 := l_cc (a := y_ev x (1, [(0, (-1))])) (by show ((1) : Int) + ((-1) * x 0 + 0) = 1 - x 0; omega) (h.2.1.2.1)
    have F0 : (0 : Int) ≤ x 0 ∧ (x 0 : Int) < j_len 64 ∧ v 64 (x 0) = x 1 := l_ff (f := v 64) (L := j_len 64) (a := y_ev x (0, [(0, 1)])) (b := y_ev x (0, [(1, 1)])) (l_e1 _ _) (l_e1 _ _) (G1.1.1)
    have K := k_nwS_12 (V := v) (s := x 0) (w := x 1) C0 C1 F0
    refine l_outH rfl (And.intro h.1 ?_)
    have O0 : y_ev x (0, [(0, 1)]) = x 0 := l_e1 _ _
    have O1 : y_ev x (0, [(1, 1)]) = x 1 := l_e1 _ _
    have O2 : y_ev x (1, [(0, (-1))]) = 1 - x 0 := by show ((1) : Int) + ((-1) * x 0 + 0) = _; omega
    show (True) ∧ ((0 ≤ (y_ev x (0, [(0, 1)])) ∧ (y_ev x (0, [(0, 1)])) ≠ (y_ev x (1, [(0, (-1))])) ∧ v 64 (y_ev x (0, [(0, 1)])) = (y_ev x (0, [(1, 1)]))) ∧ True)
    (try rw [O0]); (try rw [O1]); (try rw [O2])
    exact K
def lm_563 : zLem := (([((-2147483648), 2147483647), ((-2147483648), 2147483647), ((-2147483648), 2147483647), ((-2147483648), 2147483647), ((-2147483648), 2147483647)], [(12, false), (2, false)], [], [], [], [(0, (false, 18, 0, []), 0, 0, 0, [(3, 1)]), (1, (false, 7, 0, []), 0, 0, 0, [(1, 1)])], [(88, [(0, [(3, 1)]), (0, [(2, 1)]), (0, [(4, 1)])]), (87, [(0, [(0, 1)]), (9, []), (0, [(2, 1)])]), (87, [(0, [(0, 1)]), (9, []), (0, [(1, 1)])])]), [([((-2147483648), 2147483647), ((-2147483648), 2147483647), ((-2147483648), 2147483647), ((-2147483648), 2147483647), ((-2147483648), 2147483647)], [(12, false), (2, false)], [(0, [(1, 1), (2, (-1))]), (0, [(1, (-1)), (2, 1)])], [], [], [], [])])
theorem lk_563 : l_core lm_563 := by
  first
  | skip
    intro v x h
    have K := k_nmE_9 (V := v) (n := x 0) (w := x 1) (u := x 2) (l := x 3) (s := x 4) (l_c3 (fun w0 w1 w2 : Int => 0 ≤ w0 ∧ w0 ≠ w2 ∧ v 61 w0 = w1) (l_e1 x 3) (l_e1 x 2) (l_e1 x 4) (h.2.2.2.1)) (l_c3 (fun w0 w1 w2 : Int => ∃ c : Nat, q_end (t_b v) w0 c ∧ w2 = a_nu (t_b v) w0 c w1) (l_e1 x 0) (l_e0 x (9)) (l_e1 x 2) (h.2.2.2.2.1)) (l_c3 (fun w0 w1 w2 : Int => ∃ c : Nat, q_end (t_b v) w0 c ∧ w2 = a_nu (t_b v) w0 c w1) (l_e1 x 0) (l_e0 x (9)) (l_e1 x 1) (h.2.2.2.2.2.1))
    refine l_outH rfl (And.intro h.1 ?_)
    exact l_o2 (fun w0 w1 : Int => (0 ≤ w0 ∧ 0 ≤ w1 ∧ True) ∧ (True)) (l_q5 x 1 2) (l_q4 x 1 2) K
  | skip
    intro v x h
    have E0 : y_ev x (0, [(3, 1)]) = x 3 := (l_e1 _ _)
    have E1 : y_ev x (0, [(2, 1)]) = x 2 := (l_e1 _ _)
    have E2 : y_ev x (0, [(4, 1)]) = x 4 := (l_e1 _ _)
    have E3 : y_ev x (0, [(0, 1)]) = x 0 := (l_e1 _ _)
    have E4 : y_ev x (9, []) = 9 := (l_e0 _ _)
    have E5 : y_ev x (0, [(1, 1)]) = x 1 := (l_e1 _ _)
    have T0 : 0 ≤ (y_ev x (0, [(3, 1)])) ∧ (y_ev x (0, [(3, 1)])) ≠ (y_ev x (0, [(4, 1)])) ∧ v 61 (y_ev x (0, [(3, 1)])) = (y_ev x (0, [(2, 1)])) := h.2.2.2.1
    (try rw [E0] at T0); (try rw [E1] at T0); (try rw [E2] at T0)
    have T1 : ∃ c : Nat, q_end (t_b v) (y_ev x (0, [(0, 1)])) c ∧ (y_ev x (0, [(2, 1)])) = a_nu (t_b v) (y_ev x (0, [(0, 1)])) c (y_ev x (9, [])) := h.2.2.2.2.1
    (try rw [E3] at T1); (try rw [E4] at T1); (try rw [E1] at T1)
    have T2 : ∃ c : Nat, q_end (t_b v) (y_ev x (0, [(0, 1)])) c ∧ (y_ev x (0, [(1, 1)])) = a_nu (t_b v) (y_ev x (0, [(0, 1)])) c (y_ev x (9, [])) := h.2.2.2.2.2.1
    (try rw [E3] at T2); (try rw [E4] at T2); (try rw [E5] at T2)
    have K := k_nmE_9 (V := v) (n := x 0) (w := x 1) (u := x 2) (l := x 3) (s := x 4) T0 T1 T2
    refine l_outH rfl (And.intro h.1 ?_)
    have O0 : y_ev x (0, [(1, 1), (2, (-1))]) = x 1 - x 2 := by show ((0) : Int) + ((1) * x 1 + ((-1) * x 2 + 0)) = _; omega
    have O1 : y_ev x (0, [(1, (-1)), (2, 1)]) = x 2 - x 1 := by show ((0) : Int) + ((-1) * x 1 + ((1) * x 2 + 0)) = _; omega
    show (0 ≤ y_ev x (0, [(1, 1), (2, (-1))]) ∧ 0 ≤ y_ev x (0, [(1, (-1)), (2, 1)]) ∧ True) ∧ (True)
    (try rw [O0]); (try rw [O1])
    exact K
def lm_564 : zLem := (([((-2147483648), 2147483647), ((-2147483648), 2147483647), ((-2147483648), 2147483647), ((-2147483648), 2147483647), ((-2147483648), 2147483647)], [(12, false), (2, false)], [], [], [], [(0, (false, 18, 0, []), 0, 0, 0, [(3, 1)]), (1, (false, 8, 0, []), 0, 0, 0, [(1, 1)])], [(89, [(0, [(3, 1)]), (0, [(2, 1)]), (0, [(4, 1)])]), (87, [(0, [(0, 1)]), (10, []), (0, [(2, 1)])]), (87, [(0, [(0, 1)]), (10, []), (0, [(1, 1)])])]), [([((-2147483648), 2147483647), ((-2147483648), 2147483647), ((-2147483648), 2147483647), ((-2147483648), 2147483647), ((-2147483648), 2147483647)], [(12, false), (2, false)], [(0, [(1, 1), (2, (-1))]), (0, [(1, (-1)), (2, 1)])], [], [], [], [])])
theorem lk_564 : l_core lm_564 := by
  first
  | skip
    intro v x h
    have K := k_nmE_10 (V := v) (n := x 0) (w := x 1) (u := x 2) (l := x 3) (s := x 4) (l_c3 (fun w0 w1 w2 : Int => 0 ≤ w0 ∧ w0 ≠ w2 ∧ v 62 w0 = w1) (l_e1 x 3) (l_e1 x 2) (l_e1 x 4) (h.2.2.2.1)) (l_c3 (fun w0 w1 w2 : Int => ∃ c : Nat, q_end (t_b v) w0 c ∧ w2 = a_nu (t_b v) w0 c w1) (l_e1 x 0) (l_e0 x (10)) (l_e1 x 2) (h.2.2.2.2.1)) (l_c3 (fun w0 w1 w2 : Int => ∃ c : Nat, q_end (t_b v) w0 c ∧ w2 = a_nu (t_b v) w0 c w1) (l_e1 x 0) (l_e0 x (10)) (l_e1 x 1) (h.2.2.2.2.2.1))
    refine l_outH rfl (And.intro h.1 ?_)
    exact l_o2 (fun w0 w1 : Int => (0 ≤ w0 ∧ 0 ≤ w1 ∧ True) ∧ (True)) (l_q5 x 1 2) (l_q4 x 1 2) K
  | skip
    intro v x h
    have E0 : y_ev x (0, [(3, 1)]) = x 3 := (l_e1 _ _)
    have E1 : y_ev x (0, [(2, 1)]) = x 2 := (l_e1 _ _)
    have E2 : y_ev x (0, [(4, 1)]) = x 4 := (l_e1 _ _)
    have E3 : y_ev x (0, [(0, 1)]) = x 0 := (l_e1 _ _)
    have E4 : y_ev x (10, []) = 10 := (l_e0 _ _)
    have E5 : y_ev x (0, [(1, 1)]) = x 1 := (l_e1 _ _)
    have T0 : 0 ≤ (y_ev x (0, [(3, 1)])) ∧ (y_ev x (0, [(3, 1)])) ≠ (y_ev x (0, [(4, 1)])) ∧ v 62 (y_ev x (0, [(3, 1)])) = (y_ev x (0, [(2, 1)])) := h.2.2.2.1
    (try rw [E0] at T0); (try rw [E1] at T0); (try rw [E2] at T0)
    have T1 : ∃ c : Nat, q_end (t_b v) (y_ev x (0, [(0, 1)])) c ∧ (y_ev x (0, [(2, 1)])) = a_nu (t_b v) (y_ev x (0, [(0, 1)])) c (y_ev x (10, [])) := h.2.2.2.2.1
    (try rw [E3] at T1); (try rw [E4] at T1); (try rw [E1] at T1)
    have T2 : ∃ c : Nat, q_end (t_b v) (y_ev x (0, [(0, 1)])) c ∧ (y_ev x (0, [(1, 1)])) = a_nu (t_b v) (y_ev x (0, [(0, 1)])) c (y_ev x (10, [])) := h.2.2.2.2.2.1
    (try rw [E3] at T2); (try rw [E4] at T2); (try rw [E5] at T2)
    have K := k_nmE_10 (V := v) (n := x 0) (w := x 1) (u := x 2) (l := x 3) (s := x 4) T0 T1 T2
    refine l_outH rfl (And.intro h.1 ?_)
    have O0 : y_ev x (0, [(1, 1), (2, (-1))]) = x 1 - x 2 := by show ((0) : Int) + ((1) * x 1 + ((-1) * x 2 + 0)) = _; omega
    have O1 : y_ev x (0, [(1, (-1)), (2, 1)]) = x 2 - x 1 := by show ((0) : Int) + ((-1) * x 1 + ((1) * x 2 + 0)) = _; omega
    show (0 ≤ y_ev x (0, [(1, 1), (2, (-1))]) ∧ 0 ≤ y_ev x (0, [(1, (-1)), (2, 1)]) ∧ True) ∧ (True)
    (try rw [O0]); (try rw [O1])
    exact K
def lm_565 : zLem := (([((-2147483648), 2147483647), ((-2147483648), 2147483647), ((-2147483648), 2147483647), ((-2147483648), 2147483647), ((-2147483648), 2147483647)], [(12, false), (2, false)], [], [], [], [(0, (false, 18, 0, []), 0, 0, 0, [(3, 1)]), (1, (false, 9, 0, []), 0, 0, 0, [(1, 1)])], [(90, [(0, [(3, 1)]), (0, [(2, 1)]), (0, [(4, 1)])]), (87, [(0, [(0, 1)]), (11, []), (0, [(2, 1)])]), (87, [(0, [(0, 1)]), (11, []), (0, [(1, 1)])])]), [([((-2147483648), 2147483647), ((-2147483648), 2147483647), ((-2147483648), 2147483647), ((-2147483648), 2147483647), ((-2147483648), 2147483647)], [(12, false), (2, false)], [(0, [(1, 1), (2, (-1))]), (0, [(1, (-1)), (2, 1)])], [], [], [], [])])
theorem lk_565 : l_core lm_565 := by
  first
  | skip
    intro v x h
    have K := k_nmE_11 (V := v) (n := x 0) (w := x 1) (u := x 2) (l := x 3) (s := x 4) (l_c3 (fun w0 w1 w2 : Int => 0 ≤ w0 ∧ w0 ≠ w2 ∧ v 63 w0 = w1) (l_e1 x 3) (l_e1 x 2) (l_e1 x 4) (h.2.2.2.1)) (l_c3 (fun w0 w1 w2 : Int => ∃ c : Nat, q_end (t_b v) w0 c ∧ w2 = a_nu (t_b v) w0 c w1) (l_e1 x 0) (l_e0 x (11)) (l_e1 x 2) (h.2.2.2.2.1)) (l_c3 (fun w0 w1 w2 : Int => ∃ c : Nat, q_end (t_b v) w0 c ∧ w2 = a_nu (t_b v) w0 c w1) (l_e1 x 0) (l_e0 x (11)) (l_e1 x 1) (h.2.2.2.2.2.1))
    refine l_outH rfl (And.intro h.1 ?_)
    exact l_o2 (fun w0 w1 : Int => (0 ≤ w0 ∧ 0 ≤ w1 ∧ True) ∧ (True)) (l_q5 x 1 2) (l_q4 x 1 2) K
  | skip
    intro v x h
    have E0 : y_ev x (0, [(3, 1)]) = x 3 := (l_e1 _ _)
    have E1 : y_ev x (0, [(2, 1)]) = x 2 := (l_e1 _ _)
    have E2 : y_ev x (0, [(4, 1)]) = x 4 := (l_e1 _ _)
    have E3 : y_ev x (0, [(0, 1)]) = x 0 := (l_e1 _ _)
    have E4 : y_ev x (11, []) = 11 := (l_e0 _ _)
    have E5 : y_ev x (0, [(1, 1)]) = x 1 := (l_e1 _ _)
    have T0 : 0 ≤ (y_ev x (0, [(3, 1)])) ∧ (y_ev x (0, [(3, 1)])) ≠ (y_ev x (0, [(4, 1)])) ∧ v 63 (y_ev x (0, [(3, 1)])) = (y_ev x (0, [(2, 1)])) := h.2.2.2.1
    (try rw [E0] at T0); (try rw [E1] at T0); (try rw [E2] at T0)
    have T1 : ∃ c : Nat, q_end (t_b v) (y_ev x (0, [(0, 1)])) c ∧ (y_ev x (0, [(2, 1)])) = a_nu (t_b v) (y_ev x (0, [(0, 1)])) c (y_ev x (11, [])) := h.2.2.2.2.1
    (try rw [E3] at T1); (try rw [E4] at T1); (try rw [E1] at T1)
    have T2 : ∃ c : Nat, q_end (t_b v) (y_ev x (0, [(0, 1)])) c ∧ (y_ev x (0, [(1, 1)])) = a_nu (t_b v) (y_ev x (0, [(0, 1)])) c (y_ev x (11, [])) := h.2.2.2.2.2.1
    (try rw [E3] at T2); (try rw [E4] at T2); (try rw [E5] at T2)
    have K := k_nmE_11 (V := v) (n := x 0) (w := x 1) (u := x 2) (l := x 3) (s := x 4) T0 T1 T2
    refine l_outH rfl (And.intro h.1 ?_)
    have O0 : y_ev x (0, [(1, 1), (2, (-1))]) = x 1 - x 2 := by show ((0) : Int) + ((1) * x 1 + ((-1) * x 2 + 0)) = _; omega
    have O1 : y_ev x (0, [(1, (-1)), (2, 1)]) = x 2 - x 1 := by show ((0) : Int) + ((-1) * x 1 + ((1) * x 2 + 0)) = _; omega
    show (0 ≤ y_ev x (0, [(1, 1), (2, (-1))]) ∧ 0 ≤ y_ev x (0, [(1, (-1)), (2, 1)]) ∧ True) ∧ (True)
    (try rw [O0]); (try rw [O1])
    exact K
def lm_566 : zLem := (([((-2147483648), 2147483647), ((-2147483648), 2147483647), ((-2147483648), 2147483647), ((-2147483648), 2147483647), ((-2147483648), 2147483647)], [(12, false), (2, false)], [], [], [], [(0, (false, 18, 0, []), 0, 0, 0, [(3, 1)]), (1, (false, 10, 0, []), 0, 0, 0, [(1, 1)])], [(91, [(0, [(3, 1)]), (0, [(2, 1)]), (0, [(4, 1)])]), (87, [(0, [(0, 1)]), (12, []), (0, [(2, 1)])]), (87, [(0, [(0, 1)]), (12, []), (0, [(1, 1)])])]), [([((-2147483648), 2147483647), ((-2147483648), 2147483647), ((-2147483648), 2147483647), ((-2147483648), 2147483647), ((-2147483648), 2147483647)], [(12, false), (2, false)], [(0, [(1, 1), (2, (-1))]), (0, [(1, (-1)), (2, 1)])], [], [], [], [])])
theorem lk_566 : l_core lm_566 := by
  first
  | skip
    intro v x h
    have K := k_nmE_12 (V := v) (n := x 0) (w := x 1) (u := x 2) (l := x 3) (s := x 4) (l_c3 (fun w0 w1 w2 : Int => 0 ≤ w0 ∧ w0 ≠ w2 ∧ v 64 w0 = w1) (l_e1 x 3) (l_e1 x 2) (l_e1 x 4) (h.2.2.2.1)) (l_c3 (fun w0 w1 w2 : Int => ∃ c : Nat, q_end (t_b v) w0 c ∧ w2 = a_nu (t_b v) w0 c w1) (l_e1 x 0) (l_e0 x (12)) (l_e1 x 2) (h.2.2.2.2.1)) (l_c3 (fun w0 w1 w2 : Int => ∃ c : Nat, q_end (t_b v) w0 c ∧ w2 = a_nu (t_b v) w0 c w1) (l_e1 x 0) (l_e0 x (12)) (l_e1 x 1) (h.2.2.2.2.2.1))
    refine l_outH rfl (And.intro h.1 ?_)
    exact l_o2 (fun w0 w1 : Int => (0 ≤ w0 ∧ 0 ≤ w1 ∧ True) ∧ (True)) (l_q5 x 1 2) (l_q4 x 1 2) K
  | skip
    intro v x h
    have E0 : y_ev x (0, [(3, 1)]) = x 3 := (l_e1 _ _)
    have E1 : y_ev x (0, [(2, 1)]) = x 2 := (l_e1 _ _)
    have E2 : y_ev x (0, [(4, 1)]) = x 4 := (l_e1 _ _)
    have E3 : y_ev x (0, [(0, 1)]) = x 0 := (l_e1 _ _)
    have E4 : y_ev x (12, []) = 12 := (l_e0 _ _)
    have E5 : y_ev x (0, [(1, 1)]) = x 1 := (l_e1 _ _)
    have T0 : 0 ≤ (y_ev x (0, [(3, 1)])) ∧ (y_ev x (0, [(3, 1)])) ≠ (y_ev x (0, [(4, 1)])) ∧ v 64 (y_ev x (0, [(3, 1)])) = (y_ev x (0, [(2, 1)])) := h.2.2.2.1
    (try rw [E0] at T0); (try rw [E1] at T0); (try rw [E2] at T0)
    have T1 : ∃ c : Nat, q_end (t_b v) (y_ev x (0, [(0, 1)])) c ∧ (y_ev x (0, [(2, 1)])) = a_nu (t_b v) (y_ev x (0, [(0, 1)])) c (y_ev x (12, [])) := h.2.2.2.2.1
    (try rw [E3] at T1); (try rw [E4] at T1); (try rw [E1] at T1)
    have T2 : ∃ c : Nat, q_end (t_b v) (y_ev x (0, [(0, 1)])) c ∧ (y_ev x (0, [(1, 1)])) = a_nu (t_b v) (y_ev x (0, [(0, 1)])) c (y_ev x (12, [])) := h.2.2.2.2.2.1
    (try rw [E3] at T2); (try rw [E4] at T2); (try rw [E5] at T2)
    have K := k_nmE_12 (V := v) (n := x 0) (w := x 1) (u := x 2) (l := x 3) (s := x 4) T0 T1 T2
    refine l_outH rfl (And.intro h.1 ?_)
    have O0 : y_ev x (0, [(1, 1), (2, (-1))]) = x 1 - x 2 := by show ((0) : Int) + ((1) * x 1 + ((-1) * x 2 + 0)) = _; omega
    have O1 : y_ev x (0, [(1, (-1)), (2, 1)]) = x 2 - x 1 := by show ((0) : Int) + ((-1) * x 1 + ((1) * x 2 + 0)) = _; omega
    show (0 ≤ y_ev x (0, [(1, 1), (2, (-1))]) ∧ 0 ≤ y_ev x (0, [(1, (-1)), (2, 1)]) ∧ True) ∧ (True)
    (try rw [O0]); (try rw [O1])
    exact K
def lm_567 : zLem := (([((-2147483648), 2147483647), ((-2147483648), 2147483647), ((-2147483648), 2147483647), ((-2147483648), 2147483647), ((-2147483648), 2147483647), ((-2147483648), 2147483647)], [], [], [], [], [], [(40, [(0, [(0, 1)]), (0, []), (0, []), (0, []), (0, []), (0, [(1, 1)]), (0, [(2, 1)]), (0, [(3, 1)]), (0, [(4, 1)]), (0, [(5, 1)])])]), [([((-2147483648), 2147483647), ((-2147483648), 2147483647), ((-2147483648), 2147483647), ((-2147483648), 2147483647), ((-2147483648), 2147483647), ((-2147483648), 2147483647)], [], [], [], [], [], [(92, [(0, [(0, 1)]), (0, []), (0, [])])])])
theorem lk_567 : l_core lm_567 := by
  first
  | skip
    intro v x h
    have K := k_chs0 (V := v) (n := x 0) (H := x 1) (L := x 2) (W := x 3) (P := x 4) (S := x 5) (l_c7 (fun w0 w1 w2 w3 w4 w5 w6 : Int => q_run2 (t_b v) w0 w1 w1 w1 w1 w2 w3 w4 w5 w6) (l_e1 x 0) (l_e0 x (0)) (l_e1 x 1) (l_e1 x 2) (l_e1 x 3) (l_e1 x 4) (l_e1 x 5) (h.2.2.2.1))
    refine l_outH rfl (And.intro h.1 ?_)
    exact l_o2 (fun w0 w1 : Int => (True) ∧ (q_hs (t_b v) w0 w1 w1 (v 99) (v 100) ∧ True)) (l_e1 x 0) (l_e0 x (0)) K
  | skip
    intro v x h
    have E0 : y_ev x (0, [(0, 1)]) = x 0 := (l_e1 _ _)
    have E1 : y_ev x (0, []) = 0 := (l_e0 _ _)
    have E2 : y_ev x (0, [(1, 1)]) = x 1 := (l_e1 _ _)
    have E3 : y_ev x (0, [(2, 1)]) = x 2 := (l_e1 _ _)
    have E4 : y_ev x (0, [(3, 1)]) = x 3 := (l_e1 _ _)
    have E5 : y_ev x (0, [(4, 1)]) = x 4 := (l_e1 _ _)
    have E6 : y_ev x (0, [(5, 1)]) = x 5 := (l_e1 _ _)
    have T0 : q_run2 (t_b v) (y_ev x (0, [(0, 1)])) (y_ev x (0, [])) (y_ev x (0, [])) (y_ev x (0, [])) (y_ev x (0, [])) (y_ev x (0, [(1, 1)])) (y_ev x (0, [(2, 1)])) (y_ev x (0, [(3, 1)])) (y_ev x (0, [(4, 1)])) (y_ev x (0, [(5, 1)])) := h.2.2.2.1
    (try rw [E0] at T0); (try rw [E1] at T0); (try rw [E2] at T0); (try rw [E3] at T0); (try rw [E4] at T0); (try rw [E5] at T0); (try rw [E6] at T0)
    have K := k_chs0 (V := v) (n := x 0) (H := x 1) (L := x 2) (W := x 3) (P := x 4) (S := x 5) T0
    refine l_outH rfl (And.intro h.1 ?_)
    have O0 : y_ev x (0, [(0, 1)]) = x 0 := l_e1 _ _
    have O1 : y_ev x (0, []) = 0 := l_e0 _ _
    show (True) ∧ (q_hs (t_b v) (y_ev x (0, [(0, 1)])) (y_ev x (0, [])) (y_ev x (0, [])) (v 99) (v 100) ∧ True)
    (try rw [O0]); (try rw [O1])
    exact K
def lm_568p : zS := ((lm_128pi_0 (lm_128pi_1 (lm_128pi_2 []))), [(1, false)], [(0, [(1, (-1)), (2, 1)])], [], [], [(0, (false, 4, 0, []), 0, 0, 0, [(2, 1)])], [(92, [(0, [(0, 1)]), (0, [(1, 1)]), (0, [(6, 1)])]), (40, [(0, [(0, 1)]), (0, [(2, 1)]), (0, [(3, 1)]), (0, [(4, 1)]), (0, [(5, 1)]), (0, [(6, 1)]), (0, [(7, 1)]), (0, [(8, 1)]), (0, [(9, 1)]), (0, [(16, 1)])]), (40, [(0, [(0, 1)]), (0, [(1, 1)]), (0, [(10, 1)]), (0, [(11, 1)]), (0, [(12, 1)]), (0, [(6, 1)]), (0, [(13, 1)]), (0, [(14, 1)]), (0, [(15, 1)]), (0, [(17, 1)])])])
def lm_568 : zLem := (lm_568p, [([((-2147483648), 2147483647), ((-2147483648), 2147483647), ((-2147483648), 2147483647), ((-2147483648), 2147483647), ((-2147483648), 2147483647), ((-2147483648), 2147483647), ((-2147483648), 2147483647), ((-2147483648), 2147483647), ((-2147483648), 2147483647), ((-2147483648), 2147483647), ((-2147483648), 2147483647), ((-2147483648), 2147483647), ((-2147483648), 2147483647), ((-2147483648), 2147483647), ((-2147483648), 2147483647), ((-2147483648), 2147483647), ((-2147483648), 2147483647), ((-2147483648), 2147483647)], [(1, false)], [], [], [], [], [(92, [(0, [(0, 1)]), (0, [(2, 1)]), (0, [(6, 1)])])])])
theorem lk_568 : l_core lm_568 := by
  first
  | skip
    intro v x h
    have K := k_chsM (V := v) (n := x 0) (c := x 1) (d := x 2) (st := x 3) (mo := x 4) (op := x 5) (H := x 6) (L := x 7) (W := x 8) (P := x 9) (st2 := x 10) (mo2 := x 11) (op2 := x 12) (L2 := x 13) (W2 := x 14) (P2 := x 15) (S := x 16) (S2 := x 17) (l_c3 (fun w0 w1 w2 : Int => q_hs (t_b v) w0 w1 w2 (v 99) (v 100)) (l_e1 x 0) (l_e1 x 1) (l_e1 x 6) (h.2.2.2.1)) (l_c10 (fun w0 w1 w2 w3 w4 w5 w6 w7 w8 w9 : Int => q_run2 (t_b v) w0 w1 w2 w3 w4 w5 w6 w7 w8 w9) (l_e1 x 0) (l_e1 x 2) (l_e1 x 3) (l_e1 x 4) (l_e1 x 5) (l_e1 x 6) (l_e1 x 7) (l_e1 x 8) (l_e1 x 9) (l_e1 x 16) (h.2.2.2.2.1)) (l_c10 (fun w0 w1 w2 w3 w4 w5 w6 w7 w8 w9 : Int => q_run2 (t_b v) w0 w1 w2 w3 w4 w5 w6 w7 w8 w9) (l_e1 x 0) (l_e1 x 1) (l_e1 x 10) (l_e1 x 11) (l_e1 x 12) (l_e1 x 6) (l_e1 x 13) (l_e1 x 14) (l_e1 x 15) (l_e1 x 17) (h.2.2.2.2.2.1)) (l_cc (l_q4 x 1 2) (h.2.1.1))
    refine l_outH rfl (And.intro h.1 ?_)
    exact l_o3 (fun w0 w1 w2 : Int => (True) ∧ (q_hs (t_b v) w0 w1 w2 (v 99) (v 100) ∧ True)) (l_e1 x 0) (l_e1 x 2) (l_e1 x 6) K
  | skip
    intro v x h
    have C0 : (0 : Int) ≤ x 2 - x 1 := l_cc (a := y_ev x (0, [(1, (-1)), (2, 1)])) (by show ((0) : Int) + ((-1) * x 1 + ((1) * x 2 + 0)) = x 2 - x 1; omega) (h.2.1.1)
    have E0 : y_ev x (0, [(0, 1)]) = x 0 := (l_e1 _ _)
    have E1 : y_ev x (0, [(1, 1)]) = x 1 := (l_e1 _ _)
    have E2 : y_ev x (0, [(6, 1)]) = x 6 := (l_e1 _ _)
    have E3 : y_ev x (0, [(2, 1)]) = x 2 := (l_e1 _ _)
    have E4 : y_ev x (0, [(3, 1)]) = x 3 := (l_e1 _ _)
    have E5 : y_ev x (0, [(4, 1)]) = x 4 := (l_e1 _ _)
    have E6 : y_ev x (0, [(5, 1)]) = x 5 := (l_e1 _ _)
    have E7 : y_ev x (0, [(7, 1)]) = x 7 := (l_e1 _ _)
    have E8 : y_ev x (0, [(8, 1)]) = x 8 := (l_e1 _ _)
    have E9 : y_ev x (0, [(9, 1)]) = x 9 := (l_e1 _ _)
    have E10 : y_ev x (0, [(16, 1)]) = x 16 := (l_e1 _ _)
    have E11 : y_ev x (0, [(10, 1)]) = x 10 := (l_e1 _ _)
    have E12 : y_ev x (0, [(11, 1)]) = x 11 := (l_e1 _ _)
    have E13 : y_ev x (0, [(12, 1)]) = x 12 := (l_e1 _ _)
    have E14 : y_ev x (0, [(13, 1)]) = x 13 := (l_e1 _ _)
    have E15 : y_ev x (0, [(14, 1)]) = x 14 := (l_e1 _ _)
    have E16 : y_ev x (0, [(15, 1)]) = x 15 := (l_e1 _ _)
    have E17 : y_ev x (0, [(17, 1)]) = x 17 := (l_e1 _ _)
    have T0 : q_hs (t_b v) (y_ev x (0, [(0, 1)])) (y_ev x (0, [(1, 1)])) (y_ev x (0, [(6, 1)])) (v 99) (v 100) := h.2.2.2.1
    (try rw [E0] at T0); (try rw [E1] at T0); (try rw [E2] at T0)
    have T1 : q_run2 (t_b v) (y_ev x (0, [(0, 1)])) (y_ev x (0, [(2, 1)])) (y_ev x (0, [(3, 1)])) (y_ev x (0, [(4, 1)])) (y_ev x (0, [(5, 1)])) (y_ev x (0, [(6, 1)])) (y_ev x (0, [(7, 1)])) (y_ev x (0, [(8, 1)])) (y_ev x (0, [(9, 1)])) (y_ev x (0, [(16, 1)])) := h.2.2.2.2.1
    (try rw [E0] at T1); (try rw [E3] at T1); (try rw [E4] at T1); (try rw [E5] at T1); (try rw [E6] at T1); (try rw [E2] at T1); (try rw [E7] at T1); (try rw [E8] at T1); (try rw [E9] at T1); (try rw [E10] at T1)
    have T2 : q_run2 (t_b v) (y_ev x (0, [(0, 1)])) (y_ev x (0, [(1, 1)])) (y_ev x (0, [(10, 1)])) (y_ev x (0, [(11, 1)])) (y_ev x (0, [(12, 1)])) (y_ev x (0, [(6, 1)])) (y_ev x (0, [(13, 1)])) (y_ev x (0, [(14, 1)])) (y_ev x (0, [(15, 1)])) (y_ev x (0, [(17, 1)])) := h.2.2.2.2.2.1
    (try rw [E0] at T2); (try rw [E1] at T2); (try rw [E11] at T2); (try rw [E12] at T2); (try rw [E13] at T2); (try rw [E2] at T2); (try rw [E14] at T2); (try rw [E15] at T2); (try rw [E16] at T2); (try rw [E17] at T2)
    have K := k_chsM (V := v) (n := x 0) (c := x 1) (d := x 2) (st := x 3) (mo := x 4) (op := x 5) (H := x 6) (L := x 7) (W := x 8) (P := x 9) (st2 := x 10) (mo2 := x 11) (op2 := x 12) (L2 := x 13) (W2 := x 14) (P2 := x 15) (S := x 16) (S2 := x 17) T0 T1 T2 C0
    refine l_outH rfl (And.intro h.1 ?_)
    have O0 : y_ev x (0, [(0, 1)]) = x 0 := l_e1 _ _
    have O1 : y_ev x (0, [(2, 1)]) = x 2 := l_e1 _ _
    have O2 : y_ev x (0, [(6, 1)]) = x 6 := l_e1 _ _
    show (True) ∧ (q_hs (t_b v) (y_ev x (0, [(0, 1)])) (y_ev x (0, [(2, 1)])) (y_ev x (0, [(6, 1)])) (v 99) (v 100) ∧ True)
    (try rw [O0]); (try rw [O1]); (try rw [O2])
    exact K
def lm_569pi_0 (t : List (Int × Int)) : List (Int × Int) := ((-2147483648), 2147483647) :: ((-2147483648), 2147483647) :: ((-2147483648), 2147483647) :: ((-2147483648), 2147483647) :: ((-2147483648), 2147483647) :: ((-2147483648), 2147483647) :: ((-2147483648), 2147483647) :: ((-2147483648), 2147483647) :: t
def lm_569pi_1 (t : List (Int × Int)) : List (Int × Int) := ((-9223372036854775808), 9223372036854775807) :: ((-2147483648), 2147483647) :: ((-2147483648), 2147483647) :: ((-2147483648), 2147483647) :: ((-2147483648), 2147483647) :: ((-2147483648), 2147483647) :: ((-2147483648), 2147483647) :: ((-2147483648), 2147483647) :: t
def lm_569pi_2 (t : List (Int × Int)) : List (Int × Int) := ((-2147483648), 2147483647) :: ((-2147483648), 2147483647) :: ((-2147483648), 2147483647) :: t
def lm_569pg_0 (t : List zTg) : List zTg := (40, [(0, [(0, 1)]), ((-1), [(2, 1)]), (4, []), (0, []), (0, []), (0, [(3, 1)]), (0, [(4, 1)]), (0, [(5, 1)]), (0, [(6, 1)]), (0, [(17, 1)])]) :: (36, [(0, [(0, 1)]), ((-1), [(2, 1)]), (59, []), (0, [(7, 1)]), (0, [(8, 1)])]) :: (92, [(0, [(0, 1)]), (0, [(1, 1)]), (0, [(3, 1)])]) :: (40, [(0, [(0, 1)]), (0, [(1, 1)]), (0, [(11, 1)]), (0, [(12, 1)]), (0, [(13, 1)]), (0, [(3, 1)]), (0, [(14, 1)]), (0, [(15, 1)]), (0, [(16, 1)]), (0, [(18, 1)])]) :: (61, [(0, [(0, 1)]), ((-3), [(2, 1)]), (0, [(9, 1)])]) :: (61, [(0, [(0, 1)]), ((-2), [(2, 1)]), (0, [(10, 1)])]) :: t
def lm_569p : zS := ((lm_569pi_0 (lm_569pi_1 (lm_569pi_2 []))), [(1, false), (99, false), (100, false)], [(400, [(2, (-1))]), (5, [(3, (-1))]), ((-1), [(1, (-1)), (2, 1)])], [], [], [(0, (false, 4, 0, []), 0, 0, 0, [(2, 1)]), (1, (true, 0, 0, [(3, 1)]), 0, 0, 0, [(9, 1)]), (2, (true, 0, 0, [(3, 1)]), 0, 0, 0, [(10, 1)])], (lm_569pg_0 []))
def lm_569 : zLem := (lm_569p, [([((-2147483648), 2147483647), ((-2147483648), 2147483647), ((-2147483648), 2147483647), ((-2147483648), 2147483647), ((-2147483648), 2147483647), ((-2147483648), 2147483647), ((-2147483648), 2147483647), ((-2147483648), 2147483647), ((-9223372036854775808), 9223372036854775807), ((-2147483648), 2147483647), ((-2147483648), 2147483647), ((-2147483648), 2147483647), ((-2147483648), 2147483647), ((-2147483648), 2147483647), ((-2147483648), 2147483647), ((-2147483648), 2147483647), ((-2147483648), 2147483647), ((-2147483648), 2147483647), ((-2147483648), 2147483647)], [(1, false), (99, false), (100, false)], [], [], [], [], [(92, [(0, [(0, 1)]), (0, [(2, 1)]), (1, [(3, 1)])])])])
theorem lk_569 : l_core lm_569 := by
  first
  | skip
    intro v x h
    have G0 := h.2.2.1
    have G1 := G0.2
    have G2 := G1.2
    have K := k_chsH (V := v) (n := x 0) (c := x 1) (d := x 2) (H := x 3) (L := x 4) (W := x 5) (P := x 6) (s := x 7) (v := x 8) (h := x 9) (g := x 10) (st2 := x 11) (mo2 := x 12) (op2 := x 13) (L2 := x 14) (W2 := x 15) (P2 := x 16) (S := x 17) (S2 := x 18) (l_c9 (fun w0 w1 w2 w3 w4 w5 w6 w7 w8 : Int => q_run2 (t_b v) w0 w1 w2 w3 w3 w4 w5 w6 w7 w8) (l_e1 x 0) (l_q2 1 x 2) (l_e0 x (4)) (l_e0 x (0)) (l_e1 x 3) (l_e1 x 4) (l_e1 x 5) (l_e1 x 6) (l_e1 x 17) (h.2.2.2.1)) (l_c5 (fun w0 w1 w2 w3 w4 : Int => q_tok (t_b v) w0 w1 w2 w3 w4) (l_e1 x 0) (l_q2 1 x 2) (l_e0 x (59)) (l_e1 x 7) (l_e1 x 8) (h.2.2.2.2.1)) (l_c3 (fun w0 w1 w2 : Int => q_hs (t_b v) w0 w1 w2 (v 99) (v 100)) (l_e1 x 0) (l_e1 x 1) (l_e1 x 3) (h.2.2.2.2.2.1)) (l_c10 (fun w0 w1 w2 w3 w4 w5 w6 w7 w8 w9 : Int => q_run2 (t_b v) w0 w1 w2 w3 w4 w5 w6 w7 w8 w9) (l_e1 x 0) (l_e1 x 1) (l_e1 x 11) (l_e1 x 12) (l_e1 x 13) (l_e1 x 3) (l_e1 x 14) (l_e1 x 15) (l_e1 x 16) (l_e1 x 18) (h.2.2.2.2.2.2.1)) (l_c3 (fun w0 w1 w2 : Int => tk (t_b v) w0 w1.toNat = 3 ∧ w2 = tx (t_b v) w0 w1.toNat) (l_e1 x 0) (l_q2 3 x 2) (l_e1 x 9) (h.2.2.2.2.2.2.2.1)) (l_c3 (fun w0 w1 w2 : Int => tk (t_b v) w0 w1.toNat = 3 ∧ w2 = tx (t_b v) w0 w1.toNat) (l_e1 x 0) (l_q2 2 x 2) (l_e1 x 10) (h.2.2.2.2.2.2.2.2.1)) (l_cc (l_q1 400 x 2) (h.2.1.1)) (l_cc (l_q1 5 x 3) (h.2.1.2.1)) (l_cc (l_q6 1 x 1 2) (h.2.1.2.2.1)) (l_ff (f := v 99) (L := j_len 99) (l_e1 x 3) (l_e1 x 9) (G1.1.1)) (l_ff (f := v 100) (L := j_len 100) (l_e1 x 3) (l_e1 x 10) (G2.1.1))
    refine l_outH rfl (And.intro h.1 ?_)
    exact l_o3 (fun w0 w1 w2 : Int => (True) ∧ (q_hs (t_b v) w0 w1 w2 (v 99) (v 100) ∧ True)) (l_e1 x 0) (l_e1 x 2) (l_q3 1 x 3) K
  | skip
    intro v x h
    have G0 := h.2.2.1
    have G1 := G0.2
    have G2 := G1.2
    have C0 : (0 : Int) ≤ 400 - x 2 := l_cc (a := y_ev x (400, [(2, (-1))])) (by show ((400) : Int) + ((-1) * x 2 + 0) = 400 - x 2; omega) (h.2.1.1)
    have C1 : (0 : Int) ≤ 5 - x 3 := l_cc (a := y_ev x (5, [(3, (-1))])) (by show ((5) : Int) + ((-1) * x 3 + 0) = 5 - x 3; omega) (h.2.1.2.1)
    have C2 : (0 : Int) ≤ x 2 - x 1 - 1 := l_cc (a := y_ev x ((-1), [(1, (-1)), (2, 1)])) (by show ((-1) : Int) + ((-1) * x 1 + ((1) * x 2 + 0)) = x 2 - x 1 - 1; omega) (h.2.1.2.2.1)
    have F0 : (0 : Int) ≤ x 3 ∧ (x 3 : Int) < j_len 99 ∧ v 99 (x 3) = x 9 := l_ff (f := v 99) (L := j_len 99) (a := y_ev x (0, [(3, 1)])) (b := y_ev x (0, [(9, 1)])) (l_e1 _ _) (l_e1 _ _) (G1.1.1)
    have F1 : (0 : Int) ≤ x 3 ∧ (x 3 : Int) < j_len 100 ∧ v 100 (x 3) = x 10 := l_ff (f := v 100) (L := j_len 100) (a := y_ev x (0, [(3, 1)])) (b := y_ev x (0, [(10, 1)])) (l_e1 _ _) (l_e1 _ _) (G2.1.1)
    have E0 : y_ev x (0, [(0, 1)]) = x 0 := (l_e1 _ _)
    have E1 : y_ev x ((-1), [(2, 1)]) = x 2 - 1 := (by show ((-1) : Int) + ((1) * x 2 + 0) = x 2 - 1; omega)
    have E2 : y_ev x (4, []) = 4 := (l_e0 _ _)
    have E3 : y_ev x (0, []) = 0 := (l_e0 _ _)
    have E4 : y_ev x (0, [(3, 1)]) = x 3 := (l_e1 _ _)
    have E5 : y_ev x (0, [(4, 1)]) = x 4 := (l_e1 _ _)
    have E6 : y_ev x (0, [(5, 1)]) = x 5 := (l_e1 _ _)
    have E7 : y_ev x (0, [(6, 1)]) = x 6 := (l_e1 _ _)
    have E8 : y_ev x (0, [(17, 1)]) = x 17 := (l_e1 _ _)
    have E9 : y_ev x (59, []) = 59 := (l_e0 _ _)
    have E10 : y_ev x (0, [(7, 1)]) = x 7 := (l_e1 _ _)
    have E11 : y_ev x (0, [(8, 1)]) = x 8 := (l_e1 _ _)
    have E12 : y_ev x (0, [(1, 1)]) = x 1 := (l_e1 _ _)
    have E13 : y_ev x (0, [(11, 1)]) = x 11 := (l_e1 _ _)
    have E14 : y_ev x (0, [(12, 1)]) = x 12 := (l_e1 _ _)
    have E15 : y_ev x (0, [(13, 1)]) = x 13 := (l_e1 _ _)
    have E16 : y_ev x (0, [(14, 1)]) = x 14 := (l_e1 _ _)
    have E17 : y_ev x (0, [(15, 1)]) = x 15 := (l_e1 _ _)
    have E18 : y_ev x (0, [(16, 1)]) = x 16 := (l_e1 _ _)
    have E19 : y_ev x (0, [(18, 1)]) = x 18 := (l_e1 _ _)
    have E20 : y_ev x ((-3), [(2, 1)]) = x 2 - 3 := (by show ((-3) : Int) + ((1) * x 2 + 0) = x 2 - 3; omega)
    have E21 : y_ev x (0, [(9, 1)]) = x 9 := (l_e1 _ _)
    have E22 : y_ev x ((-2), [(2, 1)]) = x 2 - 2 := (by show ((-2) : Int) + ((1) * x 2 + 0) = x 2 - 2; omega)
    have E23 : y_ev x (0, [(10, 1)]) = x 10 := (l_e1 _ _)
    have T0 : q_run2 (t_b v) (y_ev x (0, [(0, 1)])) (y_ev x ((-1), [(2, 1)])) (y_ev x (4, [])) (y_ev x (0, [])) (y_ev x (0, [])) (y_ev x (0, [(3, 1)])) (y_ev x (0, [(4, 1)])) (y_ev x (0, [(5, 1)])) (y_ev x (0, [(6, 1)])) (y_ev x (0, [(17, 1)])) := h.2.2.2.1
    (try rw [E0] at T0); (try rw [E1] at T0); (try rw [E2] at T0); (try rw [E3] at T0); (try rw [E4] at T0); (try rw [E5] at T0); (try rw [E6] at T0); (try rw [E7] at T0); (try rw [E8] at T0)
    have T1 : q_tok (t_b v) (y_ev x (0, [(0, 1)])) (y_ev x ((-1), [(2, 1)])) (y_ev x (59, [])) (y_ev x (0, [(7, 1)])) (y_ev x (0, [(8, 1)])) := h.2.2.2.2.1
    (try rw [E0] at T1); (try rw [E1] at T1); (try rw [E9] at T1); (try rw [E10] at T1); (try rw [E11] at T1)
    have T2 : q_hs (t_b v) (y_ev x (0, [(0, 1)])) (y_ev x (0, [(1, 1)])) (y_ev x (0, [(3, 1)])) (v 99) (v 100) := h.2.2.2.2.2.1
    (try rw [E0] at T2); (try rw [E12] at T2); (try rw [E4] at T2)
    have T3 : q_run2 (t_b v) (y_ev x (0, [(0, 1)])) (y_ev x (0, [(1, 1)])) (y_ev x (0, [(11, 1)])) (y_ev x (0, [(12, 1)])) (y_ev x (0, [(13, 1)])) (y_ev x (0, [(3, 1)])) (y_ev x (0, [(14, 1)])) (y_ev x (0, [(15, 1)])) (y_ev x (0, [(16, 1)])) (y_ev x (0, [(18, 1)])) := h.2.2.2.2.2.2.1
    (try rw [E0] at T3); (try rw [E12] at T3); (try rw [E13] at T3); (try rw [E14] at T3); (try rw [E15] at T3); (try rw [E4] at T3); (try rw [E16] at T3); (try rw [E17] at T3); (try rw [E18] at T3); (try rw [E19] at T3)
    have T4 : tk (t_b v) (y_ev x (0, [(0, 1)])) (y_ev x ((-3), [(2, 1)])).toNat = 3 ∧ (y_ev x (0, [(9, 1)])) = tx (t_b v) (y_ev x (0, [(0, 1)])) (y_ev x ((-3), [(2, 1)])).toNat := h.2.2.2.2.2.2.2.1
    (try rw [E0] at T4); (try rw [E20] at T4); (try rw [E21] at T4)
    have T5 : tk (t_b v) (y_ev x (0, [(0, 1)])) (y_ev x ((-2), [(2, 1)])).toNat = 3 ∧ (y_ev x (0, [(10, 1)])) = tx (t_b v) (y_ev x (0, [(0, 1)])) (y_ev x ((-2), [(2, 1)])).toNat := h.2.2.2.2.2.2.2.2.1
    (try rw [E0] at T5); (try rw [E22] at T5); (try rw [E23] at T5)
    have K := k_chsH (V := v) (n := x 0) (c := x 1) (d := x 2) (H := x 3) (L := x 4) (W := x 5) (P := x 6) (s := x 7) (v := x 8) (h := x 9) (g := x 10) (st2 := x 11) (mo2 := x 12) (op2 := x 13) (L2 := x 14) (W2 := x 15) (P2 := x 16) (S := x 17) (S2 := x 18) T0 T1 T2 T3 T4 T5 C0 C1 C2 F0 F1
    refine l_outH rfl (And.intro h.1 ?_)
    have O0 : y_ev x (0, [(0, 1)]) = x 0 := l_e1 _ _
    have O1 : y_ev x (0, [(2, 1)]) = x 2 := l_e1 _ _
    have O2 : y_ev x (1, [(3, 1)]) = x 3 + 1 := by show ((1) : Int) + ((1) * x 3 + 0) = _; omega
    show (True) ∧ (q_hs (t_b v) (y_ev x (0, [(0, 1)])) (y_ev x (0, [(2, 1)])) (y_ev x (1, [(3, 1)])) (v 99) (v 100) ∧ True)
    (try rw [O0]); (try rw [O1]); (try rw [O2])
    exact K
def lm_570 : zLem := (([((-2147483648), 2147483647), ((-2147483648), 2147483647), ((-2147483648), 2147483647), ((-2147483648), 2147483647), ((-2147483648), 2147483647), ((-2147483648), 2147483647), ((-2147483648), 2147483647), ((-9223372036854775808), 9223372036854775807), ((-2147483648), 2147483647)], [(1, false)], [], [], [], [(0, (false, 4, 0, []), 0, 0, 0, [(1, 1)])], [(92, [(0, [(0, 1)]), (0, [(1, 1)]), (0, [(2, 1)])]), (40, [(0, [(0, 1)]), (0, [(1, 1)]), (0, []), (0, []), (0, []), (0, [(2, 1)]), (0, [(3, 1)]), (0, [(4, 1)]), (0, [(5, 1)]), (0, [(8, 1)])]), (36, [(0, [(0, 1)]), (0, [(1, 1)]), (0, []), (0, [(6, 1)]), (0, [(7, 1)])])]), [([((-2147483648), 2147483647), ((-2147483648), 2147483647), ((-2147483648), 2147483647), ((-2147483648), 2147483647), ((-2147483648), 2147483647), ((-2147483648), 2147483647), ((-2147483648), 2147483647), ((-9223372036854775808), 9223372036854775807), ((-2147483648), 2147483647)], [(1, false)], [], [], [], [], [(93, [(0, [(0, 1)]), (0, [(2, 1)])])])])
theorem lk_570 : l_core lm_570 := by
  first
  | skip
    intro v x h
    have K := k_fhk (V := v) (n := x 0) (c := x 1) (H := x 2) (L := x 3) (W := x 4) (P := x 5) (s := x 6) (v := x 7) (S := x 8) (l_c3 (fun w0 w1 w2 : Int => q_hs (t_b v) w0 w1 w2 (v 99) (v 100)) (l_e1 x 0) (l_e1 x 1) (l_e1 x 2) (h.2.2.2.1)) (l_c8 (fun w0 w1 w2 w3 w4 w5 w6 w7 : Int => q_run2 (t_b v) w0 w1 w2 w2 w2 w3 w4 w5 w6 w7) (l_e1 x 0) (l_e1 x 1) (l_e0 x (0)) (l_e1 x 2) (l_e1 x 3) (l_e1 x 4) (l_e1 x 5) (l_e1 x 8) (h.2.2.2.2.1)) (l_c5 (fun w0 w1 w2 w3 w4 : Int => q_tok (t_b v) w0 w1 w2 w3 w4) (l_e1 x 0) (l_e1 x 1) (l_e0 x (0)) (l_e1 x 6) (l_e1 x 7) (h.2.2.2.2.2.1))
    refine l_outH rfl (And.intro h.1 ?_)
    exact l_o2 (fun w0 w1 : Int => (True) ∧ (q_fhs (t_b v) w0 w1 (v 99) (v 100) ∧ True)) (l_e1 x 0) (l_e1 x 2) K
  | skip
    intro v x h
    have E0 : y_ev x (0, [(0, 1)]) = x 0 := (l_e1 _ _)
    have E1 : y_ev x (0, [(1, 1)]) = x 1 := (l_e1 _ _)
    have E2 : y_ev x (0, [(2, 1)]) = x 2 := (l_e1 _ _)
    have E3 : y_ev x (0, []) = 0 := (l_e0 _ _)
    have E4 : y_ev x (0, [(3, 1)]) = x 3 := (l_e1 _ _)
    have E5 : y_ev x (0, [(4, 1)]) = x 4 := (l_e1 _ _)
    have E6 : y_ev x (0, [(5, 1)]) = x 5 := (l_e1 _ _)
    have E7 : y_ev x (0, [(8, 1)]) = x 8 := (l_e1 _ _)
    have E8 : y_ev x (0, [(6, 1)]) = x 6 := (l_e1 _ _)
    have E9 : y_ev x (0, [(7, 1)]) = x 7 := (l_e1 _ _)
    have T0 : q_hs (t_b v) (y_ev x (0, [(0, 1)])) (y_ev x (0, [(1, 1)])) (y_ev x (0, [(2, 1)])) (v 99) (v 100) := h.2.2.2.1
    (try rw [E0] at T0); (try rw [E1] at T0); (try rw [E2] at T0)
    have T1 : q_run2 (t_b v) (y_ev x (0, [(0, 1)])) (y_ev x (0, [(1, 1)])) (y_ev x (0, [])) (y_ev x (0, [])) (y_ev x (0, [])) (y_ev x (0, [(2, 1)])) (y_ev x (0, [(3, 1)])) (y_ev x (0, [(4, 1)])) (y_ev x (0, [(5, 1)])) (y_ev x (0, [(8, 1)])) := h.2.2.2.2.1
    (try rw [E0] at T1); (try rw [E1] at T1); (try rw [E3] at T1); (try rw [E2] at T1); (try rw [E4] at T1); (try rw [E5] at T1); (try rw [E6] at T1); (try rw [E7] at T1)
    have T2 : q_tok (t_b v) (y_ev x (0, [(0, 1)])) (y_ev x (0, [(1, 1)])) (y_ev x (0, [])) (y_ev x (0, [(6, 1)])) (y_ev x (0, [(7, 1)])) := h.2.2.2.2.2.1
    (try rw [E0] at T2); (try rw [E1] at T2); (try rw [E3] at T2); (try rw [E8] at T2); (try rw [E9] at T2)
    have K := k_fhk (V := v) (n := x 0) (c := x 1) (H := x 2) (L := x 3) (W := x 4) (P := x 5) (s := x 6) (v := x 7) (S := x 8) T0 T1 T2
    refine l_outH rfl (And.intro h.1 ?_)
    have O0 : y_ev x (0, [(0, 1)]) = x 0 := l_e1 _ _
    have O1 : y_ev x (0, [(2, 1)]) = x 2 := l_e1 _ _
    show (True) ∧ (q_fhs (t_b v) (y_ev x (0, [(0, 1)])) (y_ev x (0, [(2, 1)])) (v 99) (v 100) ∧ True)
    (try rw [O0]); (try rw [O1])
    exact K
def lm_571 : zLem := (([((-2147483648), 2147483647), ((-2147483648), 2147483647), ((-2147483648), 2147483647), ((-2147483648), 2147483647), ((-2147483648), 2147483647), ((-2147483648), 2147483647), ((-2147483648), 2147483647), ((-2147483648), 2147483647)], [(12, false)], [(0, [(6, 1)]), (0, [(6, (-1))]), (0, [(5, 1)]), (1, [(5, (-1))])], [], [], [(0, (false, 11, 0, []), 0, 0, 0, [(6, 1)]), (0, (false, 19, 0, []), 0, 0, 0, [(5, 1)])], [(40, [(0, [(0, 1)]), (0, [(6, 1)]), (0, []), (0, []), (0, []), (0, [(1, 1)]), (0, [(2, 1)]), (0, [(3, 1)]), (0, [(4, 1)]), (0, [(7, 1)])])]), [([((-2147483648), 2147483647), ((-2147483648), 2147483647), ((-2147483648), 2147483647), ((-2147483648), 2147483647), ((-2147483648), 2147483647), ((-2147483648), 2147483647), ((-2147483648), 2147483647), ((-2147483648), 2147483647)], [(12, false)], [], [], [], [], [(95, [(0, [(0, 1)]), (0, [(6, 1)]), (0, []), (0, [(5, 1)]), (0, [(5, 6)])])])])
theorem lk_571 : l_core lm_571 := by
  first
  | skip
    intro v x h
    have K := k_mhs0 (V := v) (n := x 0) (H := x 1) (L := x 2) (W := x 3) (P := x 4) (s := x 5) (c := x 6) (S := x 7) (l_c8 (fun w0 w1 w2 w3 w4 w5 w6 w7 : Int => q_run2 (t_b v) w0 w1 w2 w2 w2 w3 w4 w5 w6 w7) (l_e1 x 0) (l_e1 x 6) (l_e0 x (0)) (l_e1 x 1) (l_e1 x 2) (l_e1 x 3) (l_e1 x 4) (l_e1 x 7) (h.2.2.2.1)) (l_cc (l_e1 x 6) (h.2.1.1)) (l_cc (l_q7 x 6) (h.2.1.2.1)) (l_cc (l_e1 x 5) (h.2.1.2.2.1)) (l_cc (l_q1 1 x 5) (h.2.1.2.2.2.1))
    refine l_outH rfl (And.intro h.1 ?_)
    exact l_o5 (fun w0 w1 w2 w3 w4 : Int => (True) ∧ ((0 ≤ w3 ∧ w4 = 6 * w3 + w2 ∧ q_hs (t_b v) w0 w1 w2 (fun i_ => v 57 (6 * w3 + i_)) (fun i_ => v 58 (6 * w3 + i_))) ∧ True)) (l_e1 x 0) (l_e1 x 6) (l_e0 x (0)) (l_e1 x 5) (l_q16 6 x 5) K
  | skip
    intro v x h
    have C0 : (0 : Int) ≤ x 6 := l_cc (a := y_ev x (0, [(6, 1)])) (l_e1 _ _) (h.2.1.1)
    have C1 : (0 : Int) ≤ -x 6 := l_cc (a := y_ev x (0, [(6, (-1))])) (by show ((0) : Int) + ((-1) * x 6 + 0) = -x 6; omega) (h.2.1.2.1)
    have C2 : (0 : Int) ≤ x 5 := l_cc (a := y_ev x (0, [(5, 1)])) (l_e1 _ _) (h.2.1.2.2.1)
    have C3 : (0 : Int) ≤ 1 - x 5 := l_cc (a := y_ev x (1, [(5, (-1))])) (by show ((1) : Int) + ((-1) * x 5 + 0) = 1 - x 5; omega) (h.2.1.2.2.2.1)
    have E0 : y_ev x (0, [(0, 1)]) = x 0 := (l_e1 _ _)
    have E1 : y_ev x (0, [(6, 1)]) = x 6 := (l_e1 _ _)
    have E2 : y_ev x (0, []) = 0 := (l_e0 _ _)
    have E3 : y_ev x (0, [(1, 1)]) = x 1 := (l_e1 _ _)
    have E4 : y_ev x (0, [(2, 1)]) = x 2 := (l_e1 _ _)
    have E5 : y_ev x (0, [(3, 1)]) = x 3 := (l_e1 _ _)
    have E6 : y_ev x (0, [(4, 1)]) = x 4 := (l_e1 _ _)
    have E7 : y_ev x (0, [(7, 1)]) = x 7 := (l_e1 _ _)
    have T0 : q_run2 (t_b v) (y_ev x (0, [(0, 1)])) (y_ev x (0, [(6, 1)])) (y_ev x (0, [])) (y_ev x (0, [])) (y_ev x (0, [])) (y_ev x (0, [(1, 1)])) (y_ev x (0, [(2, 1)])) (y_ev x (0, [(3, 1)])) (y_ev x (0, [(4, 1)])) (y_ev x (0, [(7, 1)])) := h.2.2.2.1
    (try rw [E0] at T0); (try rw [E1] at T0); (try rw [E2] at T0); (try rw [E3] at T0); (try rw [E4] at T0); (try rw [E5] at T0); (try rw [E6] at T0); (try rw [E7] at T0)
    have K := k_mhs0 (V := v) (n := x 0) (H := x 1) (L := x 2) (W := x 3) (P := x 4) (s := x 5) (c := x 6) (S := x 7) T0 C0 C1 C2 C3
    refine l_outH rfl (And.intro h.1 ?_)
    have O0 : y_ev x (0, [(0, 1)]) = x 0 := l_e1 _ _
    have O1 : y_ev x (0, [(6, 1)]) = x 6 := l_e1 _ _
    have O2 : y_ev x (0, []) = 0 := l_e0 _ _
    have O3 : y_ev x (0, [(5, 1)]) = x 5 := l_e1 _ _
    have O4 : y_ev x (0, [(5, 6)]) = 6 * x 5 := by show ((0) : Int) + ((6) * x 5 + 0) = _; omega
    show (True) ∧ ((0 ≤ (y_ev x (0, [(5, 1)])) ∧ (y_ev x (0, [(5, 6)])) = 6 * (y_ev x (0, [(5, 1)])) + (y_ev x (0, [])) ∧ q_hs (t_b v) (y_ev x (0, [(0, 1)])) (y_ev x (0, [(6, 1)])) (y_ev x (0, [])) (fun i_ => v 57 (6 * (y_ev x (0, [(5, 1)])) + i_)) (fun i_ => v 58 (6 * (y_ev x (0, [(5, 1)])) + i_))) ∧ True)
    (try rw [O0]); (try rw [O1]); (try rw [O2]); (try rw [O3]); (try rw [O4])
    exact K
def lm_572pi_0 (t : List (Int × Int)) : List (Int × Int) := ((-2147483648), 2147483647) :: ((-2147483648), 2147483647) :: ((-2147483648), 2147483647) :: ((-2147483648), 2147483647) :: ((-2147483648), 2147483647) :: ((-2147483648), 2147483647) :: ((-2147483648), 2147483647) :: ((-2147483648), 2147483647) :: t
def lm_572pi_1 (t : List (Int × Int)) : List (Int × Int) := ((-2147483648), 2147483647) :: ((-2147483648), 2147483647) :: ((-2147483648), 2147483647) :: ((-2147483648), 2147483647) :: ((-2147483648), 2147483647) :: ((-2147483648), 2147483647) :: ((-2147483648), 2147483647) :: ((-2147483648), 2147483647) :: t
def lm_572pi_2 (t : List (Int × Int)) : List (Int × Int) := ((-2147483648), 2147483647) :: ((-2147483648), 2147483647) :: ((-2147483648), 2147483647) :: ((-2147483648), 2147483647) :: t
def lm_572pg_0 (t : List zTg) : List zTg := (95, [(0, [(0, 1)]), (0, [(1, 1)]), (0, [(6, 1)]), (0, [(16, 1)]), (0, [(17, 1)])]) :: (40, [(0, [(0, 1)]), (0, [(2, 1)]), (0, [(3, 1)]), (0, [(4, 1)]), (0, [(5, 1)]), (0, [(6, 1)]), (0, [(7, 1)]), (0, [(8, 1)]), (0, [(9, 1)]), (0, [(18, 1)])]) :: (40, [(0, [(0, 1)]), (0, [(1, 1)]), (0, [(10, 1)]), (0, [(11, 1)]), (0, [(12, 1)]), (0, [(6, 1)]), (0, [(13, 1)]), (0, [(14, 1)]), (0, [(15, 1)]), (0, [(19, 1)])]) :: t
def lm_572p : zS := ((lm_572pi_0 (lm_572pi_1 (lm_572pi_2 []))), [(12, false)], [(0, [(1, (-1)), (2, 1)])], [], [], [(0, (false, 11, 0, []), 0, 0, 0, [(2, 1)])], (lm_572pg_0 []))
def lm_572q0 : zS := ((lm_572pi_0 (lm_572pi_1 (lm_572pi_2 []))), [(12, false)], [], [], [], [], [(95, [(0, [(0, 1)]), (0, [(2, 1)]), (0, [(6, 1)]), (0, [(16, 1)]), (0, [(17, 1)])])])
def lm_572 : zLem := (lm_572p, [lm_572q0])
theorem lk_572 : l_core lm_572 := by
  first
  | skip
    intro v x h
    have K := k_mhsM (V := v) (n := x 0) (c := x 1) (d := x 2) (st := x 3) (mo := x 4) (op := x 5) (H := x 6) (L := x 7) (W := x 8) (P := x 9) (st2 := x 10) (mo2 := x 11) (op2 := x 12) (L2 := x 13) (W2 := x 14) (P2 := x 15) (s := x 16) (j := x 17) (S := x 18) (S2 := x 19) (l_c5 (fun w0 w1 w2 w3 w4 : Int => 0 ≤ w3 ∧ w4 = 6 * w3 + w2 ∧ q_hs (t_b v) w0 w1 w2 (fun i_ => v 57 (6 * w3 + i_)) (fun i_ => v 58 (6 * w3 + i_))) (l_e1 x 0) (l_e1 x 1) (l_e1 x 6) (l_e1 x 16) (l_e1 x 17) (h.2.2.2.1)) (l_c10 (fun w0 w1 w2 w3 w4 w5 w6 w7 w8 w9 : Int => q_run2 (t_b v) w0 w1 w2 w3 w4 w5 w6 w7 w8 w9) (l_e1 x 0) (l_e1 x 2) (l_e1 x 3) (l_e1 x 4) (l_e1 x 5) (l_e1 x 6) (l_e1 x 7) (l_e1 x 8) (l_e1 x 9) (l_e1 x 18) (h.2.2.2.2.1)) (l_c10 (fun w0 w1 w2 w3 w4 w5 w6 w7 w8 w9 : Int => q_run2 (t_b v) w0 w1 w2 w3 w4 w5 w6 w7 w8 w9) (l_e1 x 0) (l_e1 x 1) (l_e1 x 10) (l_e1 x 11) (l_e1 x 12) (l_e1 x 6) (l_e1 x 13) (l_e1 x 14) (l_e1 x 15) (l_e1 x 19) (h.2.2.2.2.2.1)) (l_cc (l_q4 x 1 2) (h.2.1.1))
    refine l_outH rfl (And.intro h.1 ?_)
    exact l_o5 (fun w0 w1 w2 w3 w4 : Int => (True) ∧ ((0 ≤ w3 ∧ w4 = 6 * w3 + w2 ∧ q_hs (t_b v) w0 w1 w2 (fun i_ => v 57 (6 * w3 + i_)) (fun i_ => v 58 (6 * w3 + i_))) ∧ True)) (l_e1 x 0) (l_e1 x 2) (l_e1 x 6) (l_e1 x 16) (l_e1 x 17) K
  | skip
    intro v x h
    have C0 : (0 : Int) ≤ x 2 - x 1 := l_cc (a := y_ev x (0, [(1, (-1)), (2, 1)])) (by show ((0) : Int) + ((-1) * x 1 + ((1) * x 2 + 0)) = x 2 - x 1; omega) (h.2.1.1)
    have E0 : y_ev x (0, [(0, 1)]) = x 0 := (l_e1 _ _)
    have E1 : y_ev x (0, [(1, 1)]) = x 1 := (l_e1 _ _)
    have E2 : y_ev x (0, [(6, 1)]) = x 6 := (l_e1 _ _)
    have E3 : y_ev x (0, [(16, 1)]) = x 16 := (l_e1 _ _)
    have E4 : y_ev x (0, [(17, 1)]) = x 17 := (l_e1 _ _)
    have E5 : y_ev x (0, [(2, 1)]) = x 2 := (l_e1 _ _)
    have E6 : y_ev x (0, [(3, 1)]) = x 3 := (l_e1 _ _)
    have E7 : y_ev x (0, [(4, 1)]) = x 4 := (l_e1 _ _)
    have E8 : y_ev x (0, [(5, 1)]) = x 5 := (l_e1 _ _)
    have E9 : y_ev x (0, [(7, 1)]) = x 7 := (l_e1 _ _)
    have E10 : y_ev x (0, [(8, 1)]) = x 8 := (l_e1 _ _)
    have E11 : y_ev x (0, [(9, 1)]) = x 9 := (l_e1 _ _)
    have E12 : y_ev x (0, [(18, 1)]) = x 18 := (l_e1 _ _)
    have E13 : y_ev x (0, [(10, 1)]) = x 10 := (l_e1 _ _)
    have E14 : y_ev x (0, [(11, 1)]) = x 11 := (l_e1 _ _)
    have E15 : y_ev x (0, [(12, 1)]) = x 12 := (l_e1 _ _)
    have E16 : y_ev x (0, [(13, 1)]) = x 13 := (l_e1 _ _)
    have E17 : y_ev x (0, [(14, 1)]) = x 14 := (l_e1 _ _)
    have E18 : y_ev x (0, [(15, 1)]) = x 15 := (l_e1 _ _)
    have E19 : y_ev x (0, [(19, 1)]) = x 19 := (l_e1 _ _)
    have T0 : 0 ≤ (y_ev x (0, [(16, 1)])) ∧ (y_ev x (0, [(17, 1)])) = 6 * (y_ev x (0, [(16, 1)])) + (y_ev x (0, [(6, 1)])) ∧ q_hs (t_b v) (y_ev x (0, [(0, 1)])) (y_ev x (0, [(1, 1)])) (y_ev x (0, [(6, 1)])) (fun i_ => v 57 (6 * (y_ev x (0, [(16, 1)])) + i_)) (fun i_ => v 58 (6 * (y_ev x (0, [(16, 1)])) + i_)) := h.2.2.2.1
    (try rw [E0] at T0); (try rw [E1] at T0); (try rw [E2] at T0); (try rw [E3] at T0); (try rw [E4] at T0)
    have T1 : q_run2 (t_b v) (y_ev x (0, [(0, 1)])) (y_ev x (0, [(2, 1)])) (y_ev x (0, [(3, 1)])) (y_ev x (0, [(4, 1)])) (y_ev x (0, [(5, 1)])) (y_ev x (0, [(6, 1)])) (y_ev x (0, [(7, 1)])) (y_ev x (0, [(8, 1)])) (y_ev x (0, [(9, 1)])) (y_ev x (0, [(18, 1)])) := h.2.2.2.2.1
    (try rw [E0] at T1); (try rw [E5] at T1); (try rw [E6] at T1); (try rw [E7] at T1); (try rw [E8] at T1); (try rw [E2] at T1); (try rw [E9] at T1); (try rw [E10] at T1); (try rw [E11] at T1); (try rw [E12] at T1)
    have T2 : q_run2 (t_b v) (y_ev x (0, [(0, 1)])) (y_ev x (0, [(1, 1)])) (y_ev x (0, [(10, 1)])) (y_ev x (0, [(11, 1)])) (y_ev x (0, [(12, 1)])) (y_ev x (0, [(6, 1)])) (y_ev x (0, [(13, 1)])) (y_ev x (0, [(14, 1)])) (y_ev x (0, [(15, 1)])) (y_ev x (0, [(19, 1)])) := h.2.2.2.2.2.1
    (try rw [E0] at T2); (try rw [E1] at T2); (try rw [E13] at T2); (try rw [E14] at T2); (try rw [E15] at T2); (try rw [E2] at T2); (try rw [E16] at T2); (try rw [E17] at T2); (try rw [E18] at T2); (try rw [E19] at T2)
    have K := k_mhsM (V := v) (n := x 0) (c := x 1) (d := x 2) (st := x 3) (mo := x 4) (op := x 5) (H := x 6) (L := x 7) (W := x 8) (P := x 9) (st2 := x 10) (mo2 := x 11) (op2 := x 12) (L2 := x 13) (W2 := x 14) (P2 := x 15) (s := x 16) (j := x 17) (S := x 18) (S2 := x 19) T0 T1 T2 C0
    refine l_outH rfl (And.intro h.1 ?_)
    have O0 : y_ev x (0, [(0, 1)]) = x 0 := l_e1 _ _
    have O1 : y_ev x (0, [(2, 1)]) = x 2 := l_e1 _ _
    have O2 : y_ev x (0, [(6, 1)]) = x 6 := l_e1 _ _
    have O3 : y_ev x (0, [(16, 1)]) = x 16 := l_e1 _ _
    have O4 : y_ev x (0, [(17, 1)]) = x 17 := l_e1 _ _
    show (True) ∧ ((0 ≤ (y_ev x (0, [(16, 1)])) ∧ (y_ev x (0, [(17, 1)])) = 6 * (y_ev x (0, [(16, 1)])) + (y_ev x (0, [(6, 1)])) ∧ q_hs (t_b v) (y_ev x (0, [(0, 1)])) (y_ev x (0, [(2, 1)])) (y_ev x (0, [(6, 1)])) (fun i_ => v 57 (6 * (y_ev x (0, [(16, 1)])) + i_)) (fun i_ => v 58 (6 * (y_ev x (0, [(16, 1)])) + i_))) ∧ True)
    (try rw [O0]); (try rw [O1]); (try rw [O2]); (try rw [O3]); (try rw [O4])
    exact K
def lm_573pi_0 (t : List (Int × Int)) : List (Int × Int) := ((-2147483648), 2147483647) :: ((-2147483648), 2147483647) :: ((-2147483648), 2147483647) :: ((-2147483648), 2147483647) :: ((-2147483648), 2147483647) :: ((-2147483648), 2147483647) :: ((-2147483648), 2147483647) :: ((-2147483648), 2147483647) :: t
def lm_573pi_1 (t : List (Int × Int)) : List (Int × Int) := ((-9223372036854775808), 9223372036854775807) :: ((-2147483648), 2147483647) :: ((-2147483648), 2147483647) :: ((-2147483648), 2147483647) :: ((-2147483648), 2147483647) :: ((-2147483648), 2147483647) :: ((-2147483648), 2147483647) :: ((-2147483648), 2147483647) :: t
def lm_573pi_2 (t : List (Int × Int)) : List (Int × Int) := ((-2147483648), 2147483647) :: ((-2147483648), 2147483647) :: ((-2147483648), 2147483647) :: ((-2147483648), 2147483647) :: t
def lm_573pg_0 (t : List zTg) : List zTg := (40, [(0, [(0, 1)]), ((-1), [(2, 1)]), (4, []), (0, []), (0, []), (0, [(3, 1)]), (0, [(4, 1)]), (0, [(5, 1)]), (0, [(6, 1)]), (0, [(18, 1)])]) :: (36, [(0, [(0, 1)]), ((-1), [(2, 1)]), (59, []), (0, [(7, 1)]), (0, [(8, 1)])]) :: (95, [(0, [(0, 1)]), (0, [(1, 1)]), (0, [(3, 1)]), (0, [(17, 1)]), (0, [(3, 1), (17, 6)])]) :: (40, [(0, [(0, 1)]), (0, [(1, 1)]), (0, [(11, 1)]), (0, [(12, 1)]), (0, [(13, 1)]), (0, [(3, 1)]), (0, [(14, 1)]), (0, [(15, 1)]), (0, [(16, 1)]), (0, [(19, 1)])]) :: (61, [(0, [(0, 1)]), ((-3), [(2, 1)]), (0, [(9, 1)])]) :: (61, [(0, [(0, 1)]), ((-2), [(2, 1)]), (0, [(10, 1)])]) :: t
def lm_573p : zS := ((lm_573pi_0 (lm_573pi_1 (lm_573pi_2 []))), [(12, false), (57, false), (58, false)], [(400, [(2, (-1))]), (5, [(3, (-1))]), ((-1), [(1, (-1)), (2, 1)])], [], [], [(0, (false, 11, 0, []), 0, 0, 0, [(2, 1)]), (1, (true, 0, 0, [(3, 1), (17, 6)]), 0, 0, 0, [(9, 1)]), (2, (true, 0, 0, [(3, 1), (17, 6)]), 0, 0, 0, [(10, 1)])], (lm_573pg_0 []))
def lm_573q0 : zS := ((lm_573pi_0 (lm_573pi_1 (lm_573pi_2 []))), [(12, false), (57, false), (58, false)], [], [], [], [], [(95, [(0, [(0, 1)]), (0, [(2, 1)]), (1, [(3, 1)]), (0, [(17, 1)]), (1, [(3, 1), (17, 6)])])])
def lm_573 : zLem := (lm_573p, [lm_573q0])
theorem lk_573 : l_core lm_573 := by
  first
  | skip
    intro v x h
    have G0 := h.2.2.1
    have G1 := G0.2
    have G2 := G1.2
    have K := k_mhsH (V := v) (n := x 0) (c := x 1) (d := x 2) (H := x 3) (L := x 4) (W := x 5) (P := x 6) (z := x 7) (v := x 8) (h := x 9) (g := x 10) (st2 := x 11) (mo2 := x 12) (op2 := x 13) (L2 := x 14) (W2 := x 15) (P2 := x 16) (s := x 17) (S := x 18) (S2 := x 19) (l_c9 (fun w0 w1 w2 w3 w4 w5 w6 w7 w8 : Int => q_run2 (t_b v) w0 w1 w2 w3 w3 w4 w5 w6 w7 w8) (l_e1 x 0) (l_q2 1 x 2) (l_e0 x (4)) (l_e0 x (0)) (l_e1 x 3) (l_e1 x 4) (l_e1 x 5) (l_e1 x 6) (l_e1 x 18) (h.2.2.2.1)) (l_c5 (fun w0 w1 w2 w3 w4 : Int => q_tok (t_b v) w0 w1 w2 w3 w4) (l_e1 x 0) (l_q2 1 x 2) (l_e0 x (59)) (l_e1 x 7) (l_e1 x 8) (h.2.2.2.2.1)) (l_c5 (fun w0 w1 w2 w3 w4 : Int => 0 ≤ w3 ∧ w4 = 6 * w3 + w2 ∧ q_hs (t_b v) w0 w1 w2 (fun i_ => v 57 (6 * w3 + i_)) (fun i_ => v 58 (6 * w3 + i_))) (l_e1 x 0) (l_e1 x 1) (l_e1 x 3) (l_e1 x 17) (l_q15 6 x 3 17) (h.2.2.2.2.2.1)) (l_c10 (fun w0 w1 w2 w3 w4 w5 w6 w7 w8 w9 : Int => q_run2 (t_b v) w0 w1 w2 w3 w4 w5 w6 w7 w8 w9) (l_e1 x 0) (l_e1 x 1) (l_e1 x 11) (l_e1 x 12) (l_e1 x 13) (l_e1 x 3) (l_e1 x 14) (l_e1 x 15) (l_e1 x 16) (l_e1 x 19) (h.2.2.2.2.2.2.1)) (l_c3 (fun w0 w1 w2 : Int => tk (t_b v) w0 w1.toNat = 3 ∧ w2 = tx (t_b v) w0 w1.toNat) (l_e1 x 0) (l_q2 3 x 2) (l_e1 x 9) (h.2.2.2.2.2.2.2.1)) (l_c3 (fun w0 w1 w2 : Int => tk (t_b v) w0 w1.toNat = 3 ∧ w2 = tx (t_b v) w0 w1.toNat) (l_e1 x 0) (l_q2 2 x 2) (l_e1 x 10) (h.2.2.2.2.2.2.2.2.1)) (l_cc (l_q1 400 x 2) (h.2.1.1)) (l_cc (l_q1 5 x 3) (h.2.1.2.1)) (l_cc (l_q6 1 x 1 2) (h.2.1.2.2.1)) (l_ff (f := v 57) (L := j_len 57) (l_q15 6 x 3 17) (l_e1 x 9) (G1.1.1)) (l_ff (f := v 58) (L := j_len 58) (l_q15 6 x 3 17) (l_e1 x 10) (G2.1.1))
    refine l_outH rfl (And.intro h.1 ?_)
    exact l_o5 (fun w0 w1 w2 w3 w4 : Int => (True) ∧ ((0 ≤ w3 ∧ w4 = 6 * w3 + w2 ∧ q_hs (t_b v) w0 w1 w2 (fun i_ => v 57 (6 * w3 + i_)) (fun i_ => v 58 (6 * w3 + i_))) ∧ True)) (l_e1 x 0) (l_e1 x 2) (l_q3 1 x 3) (l_e1 x 17) (show y_ev x (1, [(3, 1), (17, 6)]) = x 3 + 6 * x 17 + 1 by show ((1) : Int) + ((1) * x 3 + ((6) * x 17 + 0)) = _; omega) K
  | skip
    intro v x h
    have G0 := h.2.2.1
    have G1 := G0.2
    have G2 := G1.2
    have C0 : (0 : Int) ≤ 400 - x 2 := l_cc (a := y_ev x (400, [(2, (-1))])) (by show ((400) : Int) + ((-1) * x 2 + 0) = 400 - x 2; omega) (h.2.1.1)
    have C1 : (0 : Int) ≤ 5 - x 3 := l_cc (a := y_ev x (5, [(3, (-1))])) (by show ((5) : Int) + ((-1) * x 3 + 0) = 5 - x 3; omega) (h.2.1.2.1)
    have C2 : (0 : Int) ≤ x 2 - x 1 - 1 := l_cc (a := y_ev x ((-1), [(1, (-1)), (2, 1)])) (by show ((-1) : Int) + ((-1) * x 1 + ((1) * x 2 + 0)) = x 2 - x 1 - 1; omega) (h.2.1.2.2.1)
    have F0 : (0 : Int) ≤ x 3 + 6 * x 17 ∧ (x 3 + 6 * x 17 : Int) < j_len 57 ∧ v 57 (x 3 + 6 * x 17) = x 9 := l_ff (f := v 57) (L := j_len 57) (a := y_ev x (0, [(3, 1), (17, 6)])) (b := y_ev x (0, [(9, 1)])) (by show ((0) : Int) + ((1) * x 3 + ((6) * x 17 + 0)) = x 3 + 6 * x 17; omega) (l_e1 _ _) (G1.1.1)
    have F1 : (0 : Int) ≤ x 3 + 6 * x 17 ∧ (x 3 + 6 * x 17 : Int) < j_len 58 ∧ v 58 (x 3 + 6 * x 17) = x 10 := l_ff (f := v 58) (L := j_len 58) (a := y_ev x (0, [(3, 1), (17, 6)])) (b := y_ev x (0, [(10, 1)])) (by show ((0) : Int) + ((1) * x 3 + ((6) * x 17 + 0)) = x 3 + 6 * x 17; omega) (l_e1 _ _) (G2.1.1)
    have E0 : y_ev x (0, [(0, 1)]) = x 0 := (l_e1 _ _)
    have E1 : y_ev x ((-1), [(2, 1)]) = x 2 - 1 := (by show ((-1) : Int) + ((1) * x 2 + 0) = x 2 - 1; omega)
    have E2 : y_ev x (4, []) = 4 := (l_e0 _ _)
    have E3 : y_ev x (0, []) = 0 := (l_e0 _ _)
    have E4 : y_ev x (0, [(3, 1)]) = x 3 := (l_e1 _ _)
    have E5 : y_ev x (0, [(4, 1)]) = x 4 := (l_e1 _ _)
    have E6 : y_ev x (0, [(5, 1)]) = x 5 := (l_e1 _ _)
    have E7 : y_ev x (0, [(6, 1)]) = x 6 := (l_e1 _ _)
    have E8 : y_ev x (0, [(18, 1)]) = x 18 := (l_e1 _ _)
    have E9 : y_ev x (59, []) = 59 := (l_e0 _ _)
    have E10 : y_ev x (0, [(7, 1)]) = x 7 := (l_e1 _ _)
    have E11 : y_ev x (0, [(8, 1)]) = x 8 := (l_e1 _ _)
    have E12 : y_ev x (0, [(1, 1)]) = x 1 := (l_e1 _ _)
    have E13 : y_ev x (0, [(17, 1)]) = x 17 := (l_e1 _ _)
    have E14 : y_ev x (0, [(3, 1), (17, 6)]) = x 3 + 6 * x 17 := (by show ((0) : Int) + ((1) * x 3 + ((6) * x 17 + 0)) = x 3 + 6 * x 17; omega)
    have E15 : y_ev x (0, [(11, 1)]) = x 11 := (l_e1 _ _)
    have E16 : y_ev x (0, [(12, 1)]) = x 12 := (l_e1 _ _)
    have E17 : y_ev x (0, [(13, 1)]) = x 13 := (l_e1 _ _)
    have E18 : y_ev x (0, [(14, 1)]) = x 14 := (l_e1 _ _)
    have E19 : y_ev x (0, [(15, 1)]) = x 15 := (l_e1 _ _)
    have E20 : y_ev x (0, [(16, 1)]) = x 16 := (l_e1 _ _)
    have E21 : y_ev x (0, [(19, 1)]) = x 19 := (l_e1 _ _)
    have E22 : y_ev x ((-3), [(2, 1)]) = x 2 - 3 := (by show ((-3) : Int) + ((1) * x 2 + 0) = x 2 - 3; omega)
    have E23 : y_ev x (0, [(9, 1)]) = x 9 := (l_e1 _ _)
    have E24 : y_ev x ((-2), [(2, 1)]) = x 2 - 2 := (by show ((-2) : Int) + ((1) * x 2 + 0) = x 2 - 2; omega)
    have E25 : y_ev x (0, [(10, 1)]) = x 10 := (l_e1 _ _)
    have T0 : q_run2 (t_b v) (y_ev x (0, [(0, 1)])) (y_ev x ((-1), [(2, 1)])) (y_ev x (4, [])) (y_ev x (0, [])) (y_ev x (0, [])) (y_ev x (0, [(3, 1)])) (y_ev x (0, [(4, 1)])) (y_ev x (0, [(5, 1)])) (y_ev x (0, [(6, 1)])) (y_ev x (0, [(18, 1)])) := h.2.2.2.1
    (try rw [E0] at T0); (try rw [E1] at T0); (try rw [E2] at T0); (try rw [E3] at T0); (try rw [E4] at T0); (try rw [E5] at T0); (try rw [E6] at T0); (try rw [E7] at T0); (try rw [E8] at T0)
    have T1 : q_tok (t_b v) (y_ev x (0, [(0, 1)])) (y_ev x ((-1), [(2, 1)])) (y_ev x (59, [])) (y_ev x (0, [(7, 1)])) (y_ev x (0, [(8, 1)])) := h.2.2.2.2.1
    (try rw [E0] at T1); (try rw [E1] at T1); (try rw [E9] at T1); (try rw [E10] at T1); (try rw [E11] at T1)
    have T2 : 0 ≤ (y_ev x (0, [(17, 1)])) ∧ (y_ev x (0, [(3, 1), (17, 6)])) = 6 * (y_ev x (0, [(17, 1)])) + (y_ev x (0, [(3, 1)])) ∧ q_hs (t_b v) (y_ev x (0, [(0, 1)])) (y_ev x (0, [(1, 1)])) (y_ev x (0, [(3, 1)])) (fun i_ => v 57 (6 * (y_ev x (0, [(17, 1)])) + i_)) (fun i_ => v 58 (6 * (y_ev x (0, [(17, 1)])) + i_)) := h.2.2.2.2.2.1
    (try rw [E0] at T2); (try rw [E12] at T2); (try rw [E4] at T2); (try rw [E13] at T2); (try rw [E14] at T2)
    have T3 : q_run2 (t_b v) (y_ev x (0, [(0, 1)])) (y_ev x (0, [(1, 1)])) (y_ev x (0, [(11, 1)])) (y_ev x (0, [(12, 1)])) (y_ev x (0, [(13, 1)])) (y_ev x (0, [(3, 1)])) (y_ev x (0, [(14, 1)])) (y_ev x (0, [(15, 1)])) (y_ev x (0, [(16, 1)])) (y_ev x (0, [(19, 1)])) := h.2.2.2.2.2.2.1
    (try rw [E0] at T3); (try rw [E12] at T3); (try rw [E15] at T3); (try rw [E16] at T3); (try rw [E17] at T3); (try rw [E4] at T3); (try rw [E18] at T3); (try rw [E19] at T3); (try rw [E20] at T3); (try rw [E21] at T3)
    have T4 : tk (t_b v) (y_ev x (0, [(0, 1)])) (y_ev x ((-3), [(2, 1)])).toNat = 3 ∧ (y_ev x (0, [(9, 1)])) = tx (t_b v) (y_ev x (0, [(0, 1)])) (y_ev x ((-3), [(2, 1)])).toNat := h.2.2.2.2.2.2.2.1
    (try rw [E0] at T4); (try rw [E22] at T4); (try rw [E23] at T4)
    have T5 : tk (t_b v) (y_ev x (0, [(0, 1)])) (y_ev x ((-2), [(2, 1)])).toNat = 3 ∧ (y_ev x (0, [(10, 1)])) = tx (t_b v) (y_ev x (0, [(0, 1)])) (y_ev x ((-2), [(2, 1)])).toNat := h.2.2.2.2.2.2.2.2.1
    (try rw [E0] at T5); (try rw [E24] at T5); (try rw [E25] at T5)
    have K := k_mhsH (V := v) (n := x 0) (c := x 1) (d := x 2) (H := x 3) (L := x 4) (W := x 5) (P := x 6) (z := x 7) (v := x 8) (h := x 9) (g := x 10) (st2 := x 11) (mo2 := x 12) (op2 := x 13) (L2 := x 14) (W2 := x 15) (P2 := x 16) (s := x 17) (S := x 18) (S2 := x 19) T0 T1 T2 T3 T4 T5 C0 C1 C2 F0 F1
    refine l_outH rfl (And.intro h.1 ?_)
    have O0 : y_ev x (0, [(0, 1)]) = x 0 := l_e1 _ _
    have O1 : y_ev x (0, [(2, 1)]) = x 2 := l_e1 _ _
    have O2 : y_ev x (1, [(3, 1)]) = x 3 + 1 := by show ((1) : Int) + ((1) * x 3 + 0) = _; omega
    have O3 : y_ev x (0, [(17, 1)]) = x 17 := l_e1 _ _
    have O4 : y_ev x (1, [(3, 1), (17, 6)]) = x 3 + 6 * x 17 + 1 := by show ((1) : Int) + ((1) * x 3 + ((6) * x 17 + 0)) = _; omega
    show (True) ∧ ((0 ≤ (y_ev x (0, [(17, 1)])) ∧ (y_ev x (1, [(3, 1), (17, 6)])) = 6 * (y_ev x (0, [(17, 1)])) + (y_ev x (1, [(3, 1)])) ∧ q_hs (t_b v) (y_ev x (0, [(0, 1)])) (y_ev x (0, [(2, 1)])) (y_ev x (1, [(3, 1)])) (fun i_ => v 57 (6 * (y_ev x (0, [(17, 1)])) + i_)) (fun i_ => v 58 (6 * (y_ev x (0, [(17, 1)])) + i_))) ∧ True)
    (try rw [O0]); (try rw [O1]); (try rw [O2]); (try rw [O3]); (try rw [O4])
    exact K
def lm_574 : zLem := (([((-2147483648), 2147483647), ((-2147483648), 2147483647), ((-2147483648), 2147483647), ((-2147483648), 2147483647), ((-2147483648), 2147483647), ((-2147483648), 2147483647), ((-2147483648), 2147483647), ((-2147483648), 2147483647), ((-2147483648), 2147483647), ((-2147483648), 2147483647)], [(12, false)], [], [], [], [(0, (false, 11, 0, []), 0, 0, 0, [(1, 1)])], [(95, [(0, [(0, 1)]), (0, [(1, 1)]), (0, [(2, 1)]), (0, [(6, 1)]), (0, [(7, 1)])]), (40, [(0, [(0, 1)]), (0, [(1, 1)]), (0, []), (0, []), (0, []), (0, [(2, 1)]), (0, [(3, 1)]), (0, [(4, 1)]), (0, [(5, 1)]), (0, [(9, 1)])]), (59, [(0, [(0, 1)]), (0, [(1, 1)]), (0, []), (0, [(8, 1)])])]), [([((-2147483648), 2147483647), ((-2147483648), 2147483647), ((-2147483648), 2147483647), ((-2147483648), 2147483647), ((-2147483648), 2147483647), ((-2147483648), 2147483647), ((-2147483648), 2147483647), ((-2147483648), 2147483647), ((-2147483648), 2147483647), ((-2147483648), 2147483647)], [(12, false)], [], [], [], [], [(96, [(0, [(0, 1)]), (0, [(2, 1)]), (0, [(6, 1)])])])])
theorem lk_574 : l_core lm_574 := by
  first
  | skip
    intro v x h
    have K := k_mfh (V := v) (n := x 0) (c := x 1) (H := x 2) (L := x 3) (W := x 4) (P := x 5) (s := x 6) (j := x 7) (z := x 8) (S := x 9) (l_c5 (fun w0 w1 w2 w3 w4 : Int => 0 ≤ w3 ∧ w4 = 6 * w3 + w2 ∧ q_hs (t_b v) w0 w1 w2 (fun i_ => v 57 (6 * w3 + i_)) (fun i_ => v 58 (6 * w3 + i_))) (l_e1 x 0) (l_e1 x 1) (l_e1 x 2) (l_e1 x 6) (l_e1 x 7) (h.2.2.2.1)) (l_c8 (fun w0 w1 w2 w3 w4 w5 w6 w7 : Int => q_run2 (t_b v) w0 w1 w2 w2 w2 w3 w4 w5 w6 w7) (l_e1 x 0) (l_e1 x 1) (l_e0 x (0)) (l_e1 x 2) (l_e1 x 3) (l_e1 x 4) (l_e1 x 5) (l_e1 x 9) (h.2.2.2.2.1)) (l_c4 (fun w0 w1 w2 w3 : Int => 0 ≤ w1 ∧ 0 ≤ w2 ∧ w2 ≤ 41 ∧ t_km w2 = tk (t_b v) w0 w1.toNat ∧ w3 = t_s (t_b v) w0 w1.toNat) (l_e1 x 0) (l_e1 x 1) (l_e0 x (0)) (l_e1 x 8) (h.2.2.2.2.2.1))
    refine l_outH rfl (And.intro h.1 ?_)
    exact l_o3 (fun w0 w1 w2 : Int => (True) ∧ ((0 ≤ w2 ∧ q_fhs (t_b v) w0 w1 (fun i_ => v 57 (6 * w2 + i_)) (fun i_ => v 58 (6 * w2 + i_))) ∧ True)) (l_e1 x 0) (l_e1 x 2) (l_e1 x 6) K
  | skip
    intro v x h
    have E0 : y_ev x (0, [(0, 1)]) = x 0 := (l_e1 _ _)
    have E1 : y_ev x (0, [(1, 1)]) = x 1 := (l_e1 _ _)
    have E2 : y_ev x (0, [(2, 1)]) = x 2 := (l_e1 _ _)
    have E3 : y_ev x (0, [(6, 1)]) = x 6 := (l_e1 _ _)
    have E4 : y_ev x (0, [(7, 1)]) = x 7 := (l_e1 _ _)
    have E5 : y_ev x (0, []) = 0 := (l_e0 _ _)
    have E6 : y_ev x (0, [(3, 1)]) = x 3 := (l_e1 _ _)
    have E7 : y_ev x (0, [(4, 1)]) = x 4 := (l_e1 _ _)
    have E8 : y_ev x (0, [(5, 1)]) = x 5 := (l_e1 _ _)
    have E9 : y_ev x (0, [(9, 1)]) = x 9 := (l_e1 _ _)
    have E10 : y_ev x (0, [(8, 1)]) = x 8 := (l_e1 _ _)
    have T0 : 0 ≤ (y_ev x (0, [(6, 1)])) ∧ (y_ev x (0, [(7, 1)])) = 6 * (y_ev x (0, [(6, 1)])) + (y_ev x (0, [(2, 1)])) ∧ q_hs (t_b v) (y_ev x (0, [(0, 1)])) (y_ev x (0, [(1, 1)])) (y_ev x (0, [(2, 1)])) (fun i_ => v 57 (6 * (y_ev x (0, [(6, 1)])) + i_)) (fun i_ => v 58 (6 * (y_ev x (0, [(6, 1)])) + i_)) := h.2.2.2.1
    (try rw [E0] at T0); (try rw [E1] at T0); (try rw [E2] at T0); (try rw [E3] at T0); (try rw [E4] at T0)
    have T1 : q_run2 (t_b v) (y_ev x (0, [(0, 1)])) (y_ev x (0, [(1, 1)])) (y_ev x (0, [])) (y_ev x (0, [])) (y_ev x (0, [])) (y_ev x (0, [(2, 1)])) (y_ev x (0, [(3, 1)])) (y_ev x (0, [(4, 1)])) (y_ev x (0, [(5, 1)])) (y_ev x (0, [(9, 1)])) := h.2.2.2.2.1
    (try rw [E0] at T1); (try rw [E1] at T1); (try rw [E5] at T1); (try rw [E2] at T1); (try rw [E6] at T1); (try rw [E7] at T1); (try rw [E8] at T1); (try rw [E9] at T1)
    have T2 : 0 ≤ (y_ev x (0, [(1, 1)])) ∧ 0 ≤ (y_ev x (0, [])) ∧ (y_ev x (0, [])) ≤ 41 ∧ t_km (y_ev x (0, [])) = tk (t_b v) (y_ev x (0, [(0, 1)])) (y_ev x (0, [(1, 1)])).toNat ∧ (y_ev x (0, [(8, 1)])) = t_s (t_b v) (y_ev x (0, [(0, 1)])) (y_ev x (0, [(1, 1)])).toNat := h.2.2.2.2.2.1
    (try rw [E0] at T2); (try rw [E1] at T2); (try rw [E5] at T2); (try rw [E10] at T2)
    have K := k_mfh (V := v) (n := x 0) (c := x 1) (H := x 2) (L := x 3) (W := x 4) (P := x 5) (s := x 6) (j := x 7) (z := x 8) (S := x 9) T0 T1 T2
    refine l_outH rfl (And.intro h.1 ?_)
    have O0 : y_ev x (0, [(0, 1)]) = x 0 := l_e1 _ _
    have O1 : y_ev x (0, [(2, 1)]) = x 2 := l_e1 _ _
    have O2 : y_ev x (0, [(6, 1)]) = x 6 := l_e1 _ _
    show (True) ∧ ((0 ≤ (y_ev x (0, [(6, 1)])) ∧ q_fhs (t_b v) (y_ev x (0, [(0, 1)])) (y_ev x (0, [(2, 1)])) (fun i_ => v 57 (6 * (y_ev x (0, [(6, 1)])) + i_)) (fun i_ => v 58 (6 * (y_ev x (0, [(6, 1)])) + i_))) ∧ True)
    (try rw [O0]); (try rw [O1]); (try rw [O2])
    exact K
def lm_575 : zLem := (([((-2147483648), 2147483647), ((-2147483648), 2147483647), ((-2147483648), 2147483647)], [], [(0, [(1, 1)]), (1, [(1, (-1))])], [], [], [], [(94, [(0, [(0, 1)]), (0, [(2, 1)])]), (96, [(0, [(0, 1)]), (0, [(2, 1)]), (0, [(1, 1)])])]), [([((-2147483648), 2147483647), ((-2147483648), 2147483647), ((-2147483648), 2147483647)], [], [], [], [], [], [(200, [(0, [(1, 1)]), (1, [(1, (-1))]), (1, []), (0, [(2, 1)])])])])
theorem lk_575 : l_core lm_575 := by
  first
  | skip
    intro v x h
    have K := k_rlh1 (V := v) (n := x 0) (s := x 1) (H := x 2) (l_c2 (fun w0 w1 : Int => q_fhs (t_b v) w0 w1 (v 19) (v 20)) (l_e1 x 0) (l_e1 x 2) (h.2.2.2.1)) (l_c3 (fun w0 w1 w2 : Int => 0 ≤ w2 ∧ q_fhs (t_b v) w0 w1 (fun i_ => v 57 (6 * w2 + i_)) (fun i_ => v 58 (6 * w2 + i_))) (l_e1 x 0) (l_e1 x 2) (l_e1 x 1) (h.2.2.2.2.1)) (l_cc (l_e1 x 1) (h.2.1.1)) (l_cc (l_q1 1 x 1) (h.2.1.2.1))
    refine l_outH rfl (And.intro h.1 ?_)
    exact l_o4 (fun w0 w1 w2 w3 : Int => (True) ∧ ((w2 = 1 → 0 ≤ w0 ∧ 0 ≤ w1 ∧ w0 + w1 = 1 ∧ w3 ≤ 6 ∧ ∀ i_ : Int, 0 ≤ i_ → i_ < w3 → v 19 i_ = v 57 (6 * w0 + i_) ∧ v 20 i_ = v 58 (6 * w0 + i_)) ∧ True)) (l_e1 x 1) (l_q1 1 x 1) (l_e0 x (1)) (l_e1 x 2) K
  | skip
    intro v x h
    have C0 : (0 : Int) ≤ x 1 := l_cc (a := y_ev x (0, [(1, 1)])) (l_e1 _ _) (h.2.1.1)
    have C1 : (0 : Int) ≤ 1 - x 1 := l_cc (a := y_ev x (1, [(1, (-1))])) (by show ((1) : Int) + ((-1) * x 1 + 0) = 1 - x 1; omega) (h.2.1.2.1)
    have E0 : y_ev x (0, [(0, 1)]) = x 0 := (l_e1 _ _)
    have E1 : y_ev x (0, [(2, 1)]) = x 2 := (l_e1 _ _)
    have E2 : y_ev x (0, [(1, 1)]) = x 1 := (l_e1 _ _)
    have T0 : q_fhs (t_b v) (y_ev x (0, [(0, 1)])) (y_ev x (0, [(2, 1)])) (v 19) (v 20) := h.2.2.2.1
    (try rw [E0] at T0); (try rw [E1] at T0)
    have T1 : 0 ≤ (y_ev x (0, [(1, 1)])) ∧ q_fhs (t_b v) (y_ev x (0, [(0, 1)])) (y_ev x (0, [(2, 1)])) (fun i_ => v 57 (6 * (y_ev x (0, [(1, 1)])) + i_)) (fun i_ => v 58 (6 * (y_ev x (0, [(1, 1)])) + i_)) := h.2.2.2.2.1
    (try rw [E0] at T1); (try rw [E1] at T1); (try rw [E2] at T1)
    have K := k_rlh1 (V := v) (n := x 0) (s := x 1) (H := x 2) T0 T1 C0 C1
    refine l_outH rfl (And.intro h.1 ?_)
    have O0 : y_ev x (0, [(1, 1)]) = x 1 := l_e1 _ _
    have O1 : y_ev x (1, [(1, (-1))]) = 1 - x 1 := by show ((1) : Int) + ((-1) * x 1 + 0) = _; omega
    have O2 : y_ev x (1, []) = 1 := l_e0 _ _
    have O3 : y_ev x (0, [(2, 1)]) = x 2 := l_e1 _ _
    show (True) ∧ (((y_ev x (1, [])) = 1 → 0 ≤ (y_ev x (0, [(1, 1)])) ∧ 0 ≤ (y_ev x (1, [(1, (-1))])) ∧ (y_ev x (0, [(1, 1)])) + (y_ev x (1, [(1, (-1))])) = 1 ∧ (y_ev x (0, [(2, 1)])) ≤ 6 ∧ ∀ i_ : Int, 0 ≤ i_ → i_ < (y_ev x (0, [(2, 1)])) → v 19 i_ = v 57 (6 * (y_ev x (0, [(1, 1)])) + i_) ∧ v 20 i_ = v 58 (6 * (y_ev x (0, [(1, 1)])) + i_)) ∧ True)
    (try rw [O0]); (try rw [O1]); (try rw [O2]); (try rw [O3])
    exact K
def lm_576 : zLem := (([((-2147483648), 2147483647), ((-2147483648), 2147483647), ((-2147483648), 2147483647)], [(12, false)], [(0, [(0, 1)]), (1, [(0, (-1))])], [], [], [(0, (false, 18, 0, []), 0, 0, 0, [(0, 1)])], [(94, [(0, [(1, 1)]), (0, [(2, 1)])])]), [([((-2147483648), 2147483647), ((-2147483648), 2147483647), ((-2147483648), 2147483647)], [(12, false)], [], [], [], [], [(200, [(0, [(0, 1)]), (1, [(0, (-1))]), (0, []), (0, [(2, 1)])])])])
theorem lk_576 : l_core lm_576 := by
  first
  | skip
    intro v x h
    have K := k_rlhz (V := v) (l := x 0) (n := x 1) (H := x 2) (l_c2 (fun w0 w1 : Int => q_fhs (t_b v) w0 w1 (v 19) (v 20)) (l_e1 x 1) (l_e1 x 2) (h.2.2.2.1)) (l_cc (l_e1 x 0) (h.2.1.1)) (l_cc (l_q1 1 x 0) (h.2.1.2.1))
    refine l_outH rfl (And.intro h.1 ?_)
    exact l_o4 (fun w0 w1 w2 w3 : Int => (True) ∧ ((w2 = 1 → 0 ≤ w0 ∧ 0 ≤ w1 ∧ w0 + w1 = 1 ∧ w3 ≤ 6 ∧ ∀ i_ : Int, 0 ≤ i_ → i_ < w3 → v 19 i_ = v 57 (6 * w0 + i_) ∧ v 20 i_ = v 58 (6 * w0 + i_)) ∧ True)) (l_e1 x 0) (l_q1 1 x 0) (l_e0 x (0)) (l_e1 x 2) K
  | skip
    intro v x h
    have C0 : (0 : Int) ≤ x 0 := l_cc (a := y_ev x (0, [(0, 1)])) (l_e1 _ _) (h.2.1.1)
    have C1 : (0 : Int) ≤ 1 - x 0 := l_cc (a := y_ev x (1, [(0, (-1))])) (by show ((1) : Int) + ((-1) * x 0 + 0) = 1 - x 0; omega) (h.2.1.2.1)
    have E0 : y_ev x (0, [(1, 1)]) = x 1 := (l_e1 _ _)
    have E1 : y_ev x (0, [(2, 1)]) = x 2 := (l_e1 _ _)
    have T0 : q_fhs (t_b v) (y_ev x (0, [(1, 1)])) (y_ev x (0, [(2, 1)])) (v 19) (v 20) := h.2.2.2.1
    (try rw [E0] at T0); (try rw [E1] at T0)
    have K := k_rlhz (V := v) (l := x 0) (n := x 1) (H := x 2) T0 C0 C1
    refine l_outH rfl (And.intro h.1 ?_)
    have O0 : y_ev x (0, [(0, 1)]) = x 0 := l_e1 _ _
    have O1 : y_ev x (1, [(0, (-1))]) = 1 - x 0 := by show ((1) : Int) + ((-1) * x 0 + 0) = _; omega
    have O2 : y_ev x (0, []) = 0 := l_e0 _ _
    have O3 : y_ev x (0, [(2, 1)]) = x 2 := l_e1 _ _
    show (True) ∧ (((y_ev x (0, [])) = 1 → 0 ≤ (y_ev x (0, [(0, 1)])) ∧ 0 ≤ (y_ev x (1, [(0, (-1))])) ∧ (y_ev x (0, [(0, 1)])) + (y_ev x (1, [(0, (-1))])) = 1 ∧ (y_ev x (0, [(2, 1)])) ≤ 6 ∧ ∀ i_ : Int, 0 ≤ i_ → i_ < (y_ev x (0, [(2, 1)])) → v 19 i_ = v 57 (6 * (y_ev x (0, [(0, 1)])) + i_) ∧ v 20 i_ = v 58 (6 * (y_ev x (0, [(0, 1)])) + i_)) ∧ True)
    (try rw [O0]); (try rw [O1]); (try rw [O2]); (try rw [O3])
    exact K
def lm_577pi_0 (t : List (Int × Int)) : List (Int × Int) := ((-2147483648), 2147483647) :: ((-2147483648), 2147483647) :: ((-2147483648), 2147483647) :: ((-2147483648), 2147483647) :: ((-2147483648), 2147483647) :: ((-2147483648), 2147483647) :: ((-9223372036854775808), 9223372036854775807) :: ((-2147483648), 2147483647) :: t
def lm_577pi_1 (t : List (Int × Int)) : List (Int × Int) := ((-2147483648), 2147483647) :: ((-2147483648), 2147483647) :: ((-2147483648), 2147483647) :: ((-2147483648), 2147483647) :: t
def lm_577p : zS := ((lm_577pi_0 (lm_577pi_1 [])), [(1, false)], [(400, [(1, (-1))]), ((-200), [(3, 1)]), (0, [(4, 1)]), (5, [(4, (-1))])], [], [], [(0, (false, 4, 0, []), 0, 0, 0, [(1, 1)])], [(201, [(0, [(0, 1)]), ((-1), [(1, 1)]), (0, [(2, 1)]), (0, [])]), (40, [(0, [(0, 1)]), ((-1), [(1, 1)]), (0, [(3, 1)]), (0, []), (0, [(4, 1)]), (0, [(7, 1)]), (0, [(8, 1)]), (0, [(9, 1)]), (0, [(10, 1)]), (0, [(11, 1)])]), (36, [(0, [(0, 1)]), ((-1), [(1, 1)]), (40, []), (0, [(5, 1)]), (0, [(6, 1)])])])
def lm_577 : zLem := (lm_577p, [([((-2147483648), 2147483647), ((-2147483648), 2147483647), ((-2147483648), 2147483647), ((-2147483648), 2147483647), ((-2147483648), 2147483647), ((-2147483648), 2147483647), ((-9223372036854775808), 9223372036854775807), ((-2147483648), 2147483647), ((-2147483648), 2147483647), ((-2147483648), 2147483647), ((-2147483648), 2147483647), ((-2147483648), 2147483647)], [(1, false)], [], [], [], [], [(201, [(0, [(0, 1)]), (0, [(1, 1)]), (0, [(2, 1)]), (0, [])]), (209, [(0, [(0, 1)]), (0, [(1, 1)])])])])
theorem lk_577 : l_core lm_577 := by
  first
  | skip
    intro v x h
    have K := k_cyo (V := v) (n := x 0) (d := x 1) (l := x 2) (st := x 3) (op := x 4) (s := x 5) (v := x 6) (H := x 7) (L := x 8) (W := x 9) (P := x 10) (S := x 11) (l_c4 (fun w0 w1 w2 w3 : Int => q_cy (t_b v) (v 102) (v 103) (v 104) w0 w1 w2 w3) (l_e1 x 0) (l_q2 1 x 1) (l_e1 x 2) (l_e0 x (0)) (h.2.2.2.1)) (l_c10 (fun w0 w1 w2 w3 w4 w5 w6 w7 w8 w9 : Int => q_run2 (t_b v) w0 w1 w2 w3 w4 w5 w6 w7 w8 w9) (l_e1 x 0) (l_q2 1 x 1) (l_e1 x 3) (l_e0 x (0)) (l_e1 x 4) (l_e1 x 7) (l_e1 x 8) (l_e1 x 9) (l_e1 x 10) (l_e1 x 11) (h.2.2.2.2.1)) (l_c5 (fun w0 w1 w2 w3 w4 : Int => q_tok (t_b v) w0 w1 w2 w3 w4) (l_e1 x 0) (l_q2 1 x 1) (l_e0 x (40)) (l_e1 x 5) (l_e1 x 6) (h.2.2.2.2.2.1)) (l_cc (l_q1 400 x 1) (h.2.1.1)) (l_cc (l_q2 200 x 3) (h.2.1.2.1)) (l_cc (l_e1 x 4) (h.2.1.2.2.1)) (l_cc (l_q1 5 x 4) (h.2.1.2.2.2.1))
    refine l_outH rfl (And.intro h.1 ?_)
    exact l_o4 (fun w0 w1 w2 w3 : Int => (True) ∧ (q_cy (t_b v) (v 102) (v 103) (v 104) w0 w1 w2 w3 ∧ (p_A (p_w (t_b v) w0 w1) = []) ∧ True)) (l_e1 x 0) (l_e1 x 1) (l_e1 x 2) (l_e0 x (0)) K
  | skip
    intro v x h
    have C0 : (0 : Int) ≤ 400 - x 1 := l_cc (a := y_ev x (400, [(1, (-1))])) (by show ((400) : Int) + ((-1) * x 1 + 0) = 400 - x 1; omega) (h.2.1.1)
    have C1 : (0 : Int) ≤ x 3 - 200 := l_cc (a := y_ev x ((-200), [(3, 1)])) (by show ((-200) : Int) + ((1) * x 3 + 0) = x 3 - 200; omega) (h.2.1.2.1)
    have C2 : (0 : Int) ≤ x 4 := l_cc (a := y_ev x (0, [(4, 1)])) (l_e1 _ _) (h.2.1.2.2.1)
    have C3 : (0 : Int) ≤ 5 - x 4 := l_cc (a := y_ev x (5, [(4, (-1))])) (by show ((5) : Int) + ((-1) * x 4 + 0) = 5 - x 4; omega) (h.2.1.2.2.2.1)
    have E0 : y_ev x (0, [(0, 1)]) = x 0 := (l_e1 _ _)
    have E1 : y_ev x ((-1), [(1, 1)]) = x 1 - 1 := (by show ((-1) : Int) + ((1) * x 1 + 0) = x 1 - 1; omega)
    have E2 : y_ev x (0, [(2, 1)]) = x 2 := (l_e1 _ _)
    have E3 : y_ev x (0, []) = 0 := (l_e0 _ _)
    have E4 : y_ev x (0, [(3, 1)]) = x 3 := (l_e1 _ _)
    have E5 : y_ev x (0, [(4, 1)]) = x 4 := (l_e1 _ _)
    have E6 : y_ev x (0, [(7, 1)]) = x 7 := (l_e1 _ _)
    have E7 : y_ev x (0, [(8, 1)]) = x 8 := (l_e1 _ _)
    have E8 : y_ev x (0, [(9, 1)]) = x 9 := (l_e1 _ _)
    have E9 : y_ev x (0, [(10, 1)]) = x 10 := (l_e1 _ _)
    have E10 : y_ev x (0, [(11, 1)]) = x 11 := (l_e1 _ _)
    have E11 : y_ev x (40, []) = 40 := (l_e0 _ _)
    have E12 : y_ev x (0, [(5, 1)]) = x 5 := (l_e1 _ _)
    have E13 : y_ev x (0, [(6, 1)]) = x 6 := (l_e1 _ _)
    have T0 : q_cy (t_b v) (v 102) (v 103) (v 104) (y_ev x (0, [(0, 1)])) (y_ev x ((-1), [(1, 1)])) (y_ev x (0, [(2, 1)])) (y_ev x (0, [])) := h.2.2.2.1
    (try rw [E0] at T0); (try rw [E1] at T0); (try rw [E2] at T0); (try rw [E3] at T0)
    have T1 : q_run2 (t_b v) (y_ev x (0, [(0, 1)])) (y_ev x ((-1), [(1, 1)])) (y_ev x (0, [(3, 1)])) (y_ev x (0, [])) (y_ev x (0, [(4, 1)])) (y_ev x (0, [(7, 1)])) (y_ev x (0, [(8, 1)])) (y_ev x (0, [(9, 1)])) (y_ev x (0, [(10, 1)])) (y_ev x (0, [(11, 1)])) := h.2.2.2.2.1
    (try rw [E0] at T1); (try rw [E1] at T1); (try rw [E4] at T1); (try rw [E3] at T1); (try rw [E5] at T1); (try rw [E6] at T1); (try rw [E7] at T1); (try rw [E8] at T1); (try rw [E9] at T1); (try rw [E10] at T1)
    have T2 : q_tok (t_b v) (y_ev x (0, [(0, 1)])) (y_ev x ((-1), [(1, 1)])) (y_ev x (40, [])) (y_ev x (0, [(5, 1)])) (y_ev x (0, [(6, 1)])) := h.2.2.2.2.2.1
    (try rw [E0] at T2); (try rw [E1] at T2); (try rw [E11] at T2); (try rw [E12] at T2); (try rw [E13] at T2)
    have K := k_cyo (V := v) (n := x 0) (d := x 1) (l := x 2) (st := x 3) (op := x 4) (s := x 5) (v := x 6) (H := x 7) (L := x 8) (W := x 9) (P := x 10) (S := x 11) T0 T1 T2 C0 C1 C2 C3
    refine l_outH rfl (And.intro h.1 ?_)
    have O0 : y_ev x (0, [(0, 1)]) = x 0 := l_e1 _ _
    have O1 : y_ev x (0, [(1, 1)]) = x 1 := l_e1 _ _
    have O2 : y_ev x (0, [(2, 1)]) = x 2 := l_e1 _ _
    have O3 : y_ev x (0, []) = 0 := l_e0 _ _
    show (True) ∧ (q_cy (t_b v) (v 102) (v 103) (v 104) (y_ev x (0, [(0, 1)])) (y_ev x (0, [(1, 1)])) (y_ev x (0, [(2, 1)])) (y_ev x (0, [])) ∧ (p_A (p_w (t_b v) (y_ev x (0, [(0, 1)])) (y_ev x (0, [(1, 1)]))) = []) ∧ True)
    (try rw [O0]); (try rw [O1]); (try rw [O2]); (try rw [O3])
    exact K
def lm_578pi_0 (t : List (Int × Int)) : List (Int × Int) := ((-2147483648), 2147483647) :: ((-2147483648), 2147483647) :: ((-2147483648), 2147483647) :: ((-2147483648), 2147483647) :: ((-2147483648), 2147483647) :: ((-2147483648), 2147483647) :: ((-2147483648), 2147483647) :: ((-9223372036854775808), 9223372036854775807) :: t
def lm_578pi_1 (t : List (Int × Int)) : List (Int × Int) := ((-2147483648), 2147483647) :: ((-9223372036854775808), 9223372036854775807) :: ((-2147483648), 2147483647) :: ((-2147483648), 2147483647) :: ((-2147483648), 2147483647) :: ((-2147483648), 2147483647) :: ((-2147483648), 2147483647) :: ((-2147483648), 2147483647) :: t
def lm_578pi_2 (t : List (Int × Int)) : List (Int × Int) := ((-2147483648), 2147483647) :: ((-2147483648), 2147483647) :: ((-2147483648), 2147483647) :: ((-2147483648), 2147483647) :: ((-2147483648), 2147483647) :: ((-2147483648), 2147483647) :: t
def lm_578pg_0 (t : List zTg) : List zTg := (201, [(0, [(0, 1)]), ((-1), [(1, 1)]), (0, [(3, 1)]), (2, [])]) :: (208, [(0, [(0, 1)]), (0, [(2, 1)]), ((-1), [(1, 1)])]) :: (36, [(0, [(0, 1)]), ((-1), [(2, 1)]), (40, []), (0, [(6, 1)]), (0, [(7, 1)])]) :: (40, [(0, [(0, 1)]), ((-1), [(2, 1)]), (0, [(10, 1)]), (0, []), (0, [(11, 1)]), (0, [(12, 1)]), (0, [(13, 1)]), (0, [(14, 1)]), (0, [(15, 1)]), (0, [(20, 1)])]) :: (40, [(0, [(0, 1)]), ((-1), [(1, 1)]), (0, [(4, 1)]), (1, []), (0, [(5, 1)]), (0, [(16, 1)]), (0, [(17, 1)]), (0, [(18, 1)]), (0, [(19, 1)]), (0, [(21, 1)])]) :: (36, [(0, [(0, 1)]), ((-1), [(1, 1)]), (41, []), (0, [(8, 1)]), (0, [(9, 1)])]) :: t
def lm_578p : zS := ((lm_578pi_0 (lm_578pi_1 (lm_578pi_2 []))), [(1, false)], [(400, [(1, (-1))]), ((-200), [(4, 1)]), ((-1), [(5, 1)]), ((-200), [(10, 1)]), (0, [(11, 1)])], [], [], [(0, (false, 4, 0, []), 0, 0, 0, [(1, 1)])], (lm_578pg_0 []))
def lm_578q0 : zS := ((lm_578pi_0 (lm_578pi_1 (lm_578pi_2 []))), [(1, false)], [], [], [], [], [(201, [(0, [(0, 1)]), (0, [(1, 1)]), (0, [(3, 1)]), (0, [])]), (206, [(0, [(0, 1)]), ((-1), [(2, 1)]), (0, [(1, 1)])])])
def lm_578 : zLem := (lm_578p, [lm_578q0])
theorem lk_578 : l_core lm_578 := by
  first
  | skip
    intro v x h
    have K := k_cyc (V := v) (n := x 0) (d := x 1) (e := x 2) (l := x 3) (st := x 4) (op := x 5) (s := x 6) (v := x 7) (s2 := x 8) (v2 := x 9) (st2 := x 10) (op2 := x 11) (H2 := x 12) (L2 := x 13) (W2 := x 14) (P2 := x 15) (H := x 16) (L := x 17) (W := x 18) (P := x 19) (S := x 20) (S2 := x 21) (l_c4 (fun w0 w1 w2 w3 : Int => q_cy (t_b v) (v 102) (v 103) (v 104) w0 w1 w2 w3) (l_e1 x 0) (l_q2 1 x 1) (l_e1 x 3) (l_e0 x (2)) (h.2.2.2.1)) (l_c3 (fun w0 w1 w2 : Int => q_eex (t_b v) w0 w1 w2) (l_e1 x 0) (l_e1 x 2) (l_q2 1 x 1) (h.2.2.2.2.1)) (l_c5 (fun w0 w1 w2 w3 w4 : Int => q_tok (t_b v) w0 w1 w2 w3 w4) (l_e1 x 0) (l_q2 1 x 2) (l_e0 x (40)) (l_e1 x 6) (l_e1 x 7) (h.2.2.2.2.2.1)) (l_c10 (fun w0 w1 w2 w3 w4 w5 w6 w7 w8 w9 : Int => q_run2 (t_b v) w0 w1 w2 w3 w4 w5 w6 w7 w8 w9) (l_e1 x 0) (l_q2 1 x 2) (l_e1 x 10) (l_e0 x (0)) (l_e1 x 11) (l_e1 x 12) (l_e1 x 13) (l_e1 x 14) (l_e1 x 15) (l_e1 x 20) (h.2.2.2.2.2.2.1)) (l_c10 (fun w0 w1 w2 w3 w4 w5 w6 w7 w8 w9 : Int => q_run2 (t_b v) w0 w1 w2 w3 w4 w5 w6 w7 w8 w9) (l_e1 x 0) (l_q2 1 x 1) (l_e1 x 4) (l_e0 x (1)) (l_e1 x 5) (l_e1 x 16) (l_e1 x 17) (l_e1 x 18) (l_e1 x 19) (l_e1 x 21) (h.2.2.2.2.2.2.2.1)) (l_c5 (fun w0 w1 w2 w3 w4 : Int => q_tok (t_b v) w0 w1 w2 w3 w4) (l_e1 x 0) (l_q2 1 x 1) (l_e0 x (41)) (l_e1 x 8) (l_e1 x 9) (h.2.2.2.2.2.2.2.2.1)) (l_cc (l_q1 400 x 1) (h.2.1.1)) (l_cc (l_q2 200 x 4) (h.2.1.2.1)) (l_cc (l_q2 1 x 5) (h.2.1.2.2.1)) (l_cc (l_q2 200 x 10) (h.2.1.2.2.2.1)) (l_cc (l_e1 x 11) (h.2.1.2.2.2.2.1))
    refine l_outH rfl (And.intro h.1 ?_)
    exact l_o5 (fun w0 w1 w2 w3 w4 : Int => (True) ∧ (q_cy (t_b v) (v 102) (v 103) (v 104) w0 w1 w2 w3 ∧ q_uex (t_b v) w0 w4 w1 ∧ True)) (l_e1 x 0) (l_e1 x 1) (l_e1 x 3) (l_e0 x (0)) (l_q2 1 x 2) K
  | skip
    intro v x h
    have C0 : (0 : Int) ≤ 400 - x 1 := l_cc (a := y_ev x (400, [(1, (-1))])) (by show ((400) : Int) + ((-1) * x 1 + 0) = 400 - x 1; omega) (h.2.1.1)
    have C1 : (0 : Int) ≤ x 4 - 200 := l_cc (a := y_ev x ((-200), [(4, 1)])) (by show ((-200) : Int) + ((1) * x 4 + 0) = x 4 - 200; omega) (h.2.1.2.1)
    have C2 : (0 : Int) ≤ x 5 - 1 := l_cc (a := y_ev x ((-1), [(5, 1)])) (by show ((-1) : Int) + ((1) * x 5 + 0) = x 5 - 1; omega) (h.2.1.2.2.1)
    have C3 : (0 : Int) ≤ x 10 - 200 := l_cc (a := y_ev x ((-200), [(10, 1)])) (by show ((-200) : Int) + ((1) * x 10 + 0) = x 10 - 200; omega) (h.2.1.2.2.2.1)
    have C4 : (0 : Int) ≤ x 11 := l_cc (a := y_ev x (0, [(11, 1)])) (l_e1 _ _) (h.2.1.2.2.2.2.1)
    have E0 : y_ev x (0, [(0, 1)]) = x 0 := (l_e1 _ _)
    have E1 : y_ev x ((-1), [(1, 1)]) = x 1 - 1 := (by show ((-1) : Int) + ((1) * x 1 + 0) = x 1 - 1; omega)
    have E2 : y_ev x (0, [(3, 1)]) = x 3 := (l_e1 _ _)
    have E3 : y_ev x (2, []) = 2 := (l_e0 _ _)
    have E4 : y_ev x (0, [(2, 1)]) = x 2 := (l_e1 _ _)
    have E5 : y_ev x ((-1), [(2, 1)]) = x 2 - 1 := (by show ((-1) : Int) + ((1) * x 2 + 0) = x 2 - 1; omega)
    have E6 : y_ev x (40, []) = 40 := (l_e0 _ _)
    have E7 : y_ev x (0, [(6, 1)]) = x 6 := (l_e1 _ _)
    have E8 : y_ev x (0, [(7, 1)]) = x 7 := (l_e1 _ _)
    have E9 : y_ev x (0, [(10, 1)]) = x 10 := (l_e1 _ _)
    have E10 : y_ev x (0, []) = 0 := (l_e0 _ _)
    have E11 : y_ev x (0, [(11, 1)]) = x 11 := (l_e1 _ _)
    have E12 : y_ev x (0, [(12, 1)]) = x 12 := (l_e1 _ _)
    have E13 : y_ev x (0, [(13, 1)]) = x 13 := (l_e1 _ _)
    have E14 : y_ev x (0, [(14, 1)]) = x 14 := (l_e1 _ _)
    have E15 : y_ev x (0, [(15, 1)]) = x 15 := (l_e1 _ _)
    have E16 : y_ev x (0, [(20, 1)]) = x 20 := (l_e1 _ _)
    have E17 : y_ev x (0, [(4, 1)]) = x 4 := (l_e1 _ _)
    have E18 : y_ev x (1, []) = 1 := (l_e0 _ _)
    have E19 : y_ev x (0, [(5, 1)]) = x 5 := (l_e1 _ _)
    have E20 : y_ev x (0, [(16, 1)]) = x 16 := (l_e1 _ _)
    have E21 : y_ev x (0, [(17, 1)]) = x 17 := (l_e1 _ _)
    have E22 : y_ev x (0, [(18, 1)]) = x 18 := (l_e1 _ _)
    have E23 : y_ev x (0, [(19, 1)]) = x 19 := (l_e1 _ _)
    have E24 : y_ev x (0, [(21, 1)]) = x 21 := (l_e1 _ _)
    have E25 : y_ev x (41, []) = 41 := (l_e0 _ _)
    have E26 : y_ev x (0, [(8, 1)]) = x 8 := (l_e1 _ _)
    have E27 : y_ev x (0, [(9, 1)]) = x 9 := (l_e1 _ _)
    have T0 : q_cy (t_b v) (v 102) (v 103) (v 104) (y_ev x (0, [(0, 1)])) (y_ev x ((-1), [(1, 1)])) (y_ev x (0, [(3, 1)])) (y_ev x (2, [])) := h.2.2.2.1
    (try rw [E0] at T0); (try rw [E1] at T0); (try rw [E2] at T0); (try rw [E3] at T0)
    have T1 : q_eex (t_b v) (y_ev x (0, [(0, 1)])) (y_ev x (0, [(2, 1)])) (y_ev x ((-1), [(1, 1)])) := h.2.2.2.2.1
    (try rw [E0] at T1); (try rw [E4] at T1); (try rw [E1] at T1)
    have T2 : q_tok (t_b v) (y_ev x (0, [(0, 1)])) (y_ev x ((-1), [(2, 1)])) (y_ev x (40, [])) (y_ev x (0, [(6, 1)])) (y_ev x (0, [(7, 1)])) := h.2.2.2.2.2.1
    (try rw [E0] at T2); (try rw [E5] at T2); (try rw [E6] at T2); (try rw [E7] at T2); (try rw [E8] at T2)
    have T3 : q_run2 (t_b v) (y_ev x (0, [(0, 1)])) (y_ev x ((-1), [(2, 1)])) (y_ev x (0, [(10, 1)])) (y_ev x (0, [])) (y_ev x (0, [(11, 1)])) (y_ev x (0, [(12, 1)])) (y_ev x (0, [(13, 1)])) (y_ev x (0, [(14, 1)])) (y_ev x (0, [(15, 1)])) (y_ev x (0, [(20, 1)])) := h.2.2.2.2.2.2.1
    (try rw [E0] at T3); (try rw [E5] at T3); (try rw [E9] at T3); (try rw [E10] at T3); (try rw [E11] at T3); (try rw [E12] at T3); (try rw [E13] at T3); (try rw [E14] at T3); (try rw [E15] at T3); (try rw [E16] at T3)
    have T4 : q_run2 (t_b v) (y_ev x (0, [(0, 1)])) (y_ev x ((-1), [(1, 1)])) (y_ev x (0, [(4, 1)])) (y_ev x (1, [])) (y_ev x (0, [(5, 1)])) (y_ev x (0, [(16, 1)])) (y_ev x (0, [(17, 1)])) (y_ev x (0, [(18, 1)])) (y_ev x (0, [(19, 1)])) (y_ev x (0, [(21, 1)])) := h.2.2.2.2.2.2.2.1
    (try rw [E0] at T4); (try rw [E1] at T4); (try rw [E17] at T4); (try rw [E18] at T4); (try rw [E19] at T4); (try rw [E20] at T4); (try rw [E21] at T4); (try rw [E22] at T4); (try rw [E23] at T4); (try rw [E24] at T4)
    have T5 : q_tok (t_b v) (y_ev x (0, [(0, 1)])) (y_ev x ((-1), [(1, 1)])) (y_ev x (41, [])) (y_ev x (0, [(8, 1)])) (y_ev x (0, [(9, 1)])) := h.2.2.2.2.2.2.2.2.1
    (try rw [E0] at T5); (try rw [E1] at T5); (try rw [E25] at T5); (try rw [E26] at T5); (try rw [E27] at T5)
    have K := k_cyc (V := v) (n := x 0) (d := x 1) (e := x 2) (l := x 3) (st := x 4) (op := x 5) (s := x 6) (v := x 7) (s2 := x 8) (v2 := x 9) (st2 := x 10) (op2 := x 11) (H2 := x 12) (L2 := x 13) (W2 := x 14) (P2 := x 15) (H := x 16) (L := x 17) (W := x 18) (P := x 19) (S := x 20) (S2 := x 21) T0 T1 T2 T3 T4 T5 C0 C1 C2 C3 C4
    refine l_outH rfl (And.intro h.1 ?_)
    have O0 : y_ev x (0, [(0, 1)]) = x 0 := l_e1 _ _
    have O1 : y_ev x (0, [(1, 1)]) = x 1 := l_e1 _ _
    have O2 : y_ev x (0, [(3, 1)]) = x 3 := l_e1 _ _
    have O3 : y_ev x (0, []) = 0 := l_e0 _ _
    have O4 : y_ev x ((-1), [(2, 1)]) = x 2 - 1 := by show ((-1) : Int) + ((1) * x 2 + 0) = _; omega
    show (True) ∧ (q_cy (t_b v) (v 102) (v 103) (v 104) (y_ev x (0, [(0, 1)])) (y_ev x (0, [(1, 1)])) (y_ev x (0, [(3, 1)])) (y_ev x (0, [])) ∧ q_uex (t_b v) (y_ev x (0, [(0, 1)])) (y_ev x ((-1), [(2, 1)])) (y_ev x (0, [(1, 1)])) ∧ True)
    (try rw [O0]); (try rw [O1]); (try rw [O2]); (try rw [O3]); (try rw [O4])
    exact K
def lm_579pi_0 (t : List (Int × Int)) : List (Int × Int) := ((-2147483648), 2147483647) :: ((-2147483648), 2147483647) :: ((-2147483648), 2147483647) :: ((-2147483648), 2147483647) :: ((-2147483648), 2147483647) :: ((-2147483648), 2147483647) :: ((-9223372036854775808), 9223372036854775807) :: ((-2147483648), 2147483647) :: t
def lm_579pi_1 (t : List (Int × Int)) : List (Int × Int) := ((-2147483648), 2147483647) :: ((-2147483648), 2147483647) :: ((-2147483648), 2147483647) :: ((-2147483648), 2147483647) :: ((-2147483648), 2147483647) :: t
def lm_579p : zS := ((lm_579pi_0 (lm_579pi_1 [])), [(1, false), (101, false), (102, false), (103, false)], [((-200), [(3, 1)]), (0, [(4, 1)]), (0, [(6, (-1)), (12, 1)]), (0, [(6, 1), (12, (-1))])], [], [], [(0, (false, 4, 0, []), 0, 0, 0, [(1, 1)]), (1, (false, 4, 0, []), 0, 0, 0, [(2, 1)]), (2, (true, 0, (-1), [(2, 1)]), 0, 0, 0, []), (3, (true, 0, (-1), [(2, 1)]), 0, 0, 0, [(12, 1)])], [(201, [(0, [(0, 1)]), (0, [(1, 1)]), ((-1), [(2, 1)]), (0, [])]), (40, [(0, [(0, 1)]), (0, [(1, 1)]), (0, [(3, 1)]), (0, []), (0, [(4, 1)]), (0, [(7, 1)]), (0, [(8, 1)]), (0, [(9, 1)]), (0, [(10, 1)]), (0, [(11, 1)])]), (36, [(0, [(0, 1)]), (0, [(1, 1)]), (3, []), (0, [(5, 1)]), (0, [(6, 1)])])])
def lm_579 : zLem := (lm_579p, [([((-2147483648), 2147483647), ((-2147483648), 2147483647), ((-2147483648), 2147483647), ((-2147483648), 2147483647), ((-2147483648), 2147483647), ((-2147483648), 2147483647), ((-9223372036854775808), 9223372036854775807), ((-2147483648), 2147483647), ((-2147483648), 2147483647), ((-2147483648), 2147483647), ((-2147483648), 2147483647), ((-2147483648), 2147483647), ((-2147483648), 2147483647)], [(1, false), (101, false), (102, false), (103, false)], [], [], [], [], [(201, [(0, [(0, 1)]), (0, [(1, 1)]), (0, [(2, 1)]), (5, [])])])])
theorem lk_579 : l_core lm_579 := by
  first
  | skip
    intro v x h
    have G0 := h.2.2.1
    have G1 := G0.2
    have G2 := G1.2
    have G3 := G2.2
    have K := k_cyi (V := v) (n := x 0) (c := x 1) (l := x 2) (st := x 3) (op := x 4) (s := x 5) (v := x 6) (H := x 7) (L := x 8) (W := x 9) (P := x 10) (S := x 11) (y := x 12) (l_c4 (fun w0 w1 w2 w3 : Int => q_cy (t_b v) (v 102) (v 103) (v 104) w0 w1 w2 w3) (l_e1 x 0) (l_e1 x 1) (l_q2 1 x 2) (l_e0 x (0)) (h.2.2.2.1)) (l_c10 (fun w0 w1 w2 w3 w4 w5 w6 w7 w8 w9 : Int => q_run2 (t_b v) w0 w1 w2 w3 w4 w5 w6 w7 w8 w9) (l_e1 x 0) (l_e1 x 1) (l_e1 x 3) (l_e0 x (0)) (l_e1 x 4) (l_e1 x 7) (l_e1 x 8) (l_e1 x 9) (l_e1 x 10) (l_e1 x 11) (h.2.2.2.2.1)) (l_c5 (fun w0 w1 w2 w3 w4 : Int => q_tok (t_b v) w0 w1 w2 w3 w4) (l_e1 x 0) (l_e1 x 1) (l_e0 x (3)) (l_e1 x 5) (l_e1 x 6) (h.2.2.2.2.2.1)) (l_cc (l_q2 200 x 3) (h.2.1.1)) (l_cc (l_e1 x 4) (h.2.1.2.1)) (l_cc (l_q4 x 6 12) (h.2.1.2.2.1)) (l_cc (l_q5 x 6 12) (h.2.1.2.2.2.1)) (l_ff (f := v 102) (L := j_len 102) (l_q2 1 x 2) (l_e0 x (0)) (G2.1.1)) (l_ff (f := v 103) (L := j_len 103) (l_q2 1 x 2) (l_e1 x 12) (G3.1.1))
    refine l_outH rfl (And.intro h.1 ?_)
    exact l_o4 (fun w0 w1 w2 w3 : Int => (True) ∧ (q_cy (t_b v) (v 102) (v 103) (v 104) w0 w1 w2 w3 ∧ True)) (l_e1 x 0) (l_e1 x 1) (l_e1 x 2) (l_e0 x (5)) K
  | skip
    intro v x h
    have G0 := h.2.2.1
    have G1 := G0.2
    have G2 := G1.2
    have G3 := G2.2
    have C0 : (0 : Int) ≤ x 3 - 200 := l_cc (a := y_ev x ((-200), [(3, 1)])) (by show ((-200) : Int) + ((1) * x 3 + 0) = x 3 - 200; omega) (h.2.1.1)
    have C1 : (0 : Int) ≤ x 4 := l_cc (a := y_ev x (0, [(4, 1)])) (l_e1 _ _) (h.2.1.2.1)
    have C2 : (0 : Int) ≤ x 12 - x 6 := l_cc (a := y_ev x (0, [(6, (-1)), (12, 1)])) (by show ((0) : Int) + ((-1) * x 6 + ((1) * x 12 + 0)) = x 12 - x 6; omega) (h.2.1.2.2.1)
    have C3 : (0 : Int) ≤ x 6 - x 12 := l_cc (a := y_ev x (0, [(6, 1), (12, (-1))])) (by show ((0) : Int) + ((1) * x 6 + ((-1) * x 12 + 0)) = x 6 - x 12; omega) (h.2.1.2.2.2.1)
    have F0 : (0 : Int) ≤ x 2 - 1 ∧ (x 2 - 1 : Int) < j_len 102 ∧ v 102 (x 2 - 1) = 0 := l_ff (f := v 102) (L := j_len 102) (a := y_ev x ((-1), [(2, 1)])) (b := y_ev x (0, [])) (by show ((-1) : Int) + ((1) * x 2 + 0) = x 2 - 1; omega) (l_e0 _ _) (G2.1.1)
    have F1 : (0 : Int) ≤ x 2 - 1 ∧ (x 2 - 1 : Int) < j_len 103 ∧ v 103 (x 2 - 1) = x 12 := l_ff (f := v 103) (L := j_len 103) (a := y_ev x ((-1), [(2, 1)])) (b := y_ev x (0, [(12, 1)])) (by show ((-1) : Int) + ((1) * x 2 + 0) = x 2 - 1; omega) (l_e1 _ _) (G3.1.1)
    have E0 : y_ev x (0, [(0, 1)]) = x 0 := (l_e1 _ _)
    have E1 : y_ev x (0, [(1, 1)]) = x 1 := (l_e1 _ _)
    have E2 : y_ev x ((-1), [(2, 1)]) = x 2 - 1 := (by show ((-1) : Int) + ((1) * x 2 + 0) = x 2 - 1; omega)
    have E3 : y_ev x (0, []) = 0 := (l_e0 _ _)
    have E4 : y_ev x (0, [(3, 1)]) = x 3 := (l_e1 _ _)
    have E5 : y_ev x (0, [(4, 1)]) = x 4 := (l_e1 _ _)
    have E6 : y_ev x (0, [(7, 1)]) = x 7 := (l_e1 _ _)
    have E7 : y_ev x (0, [(8, 1)]) = x 8 := (l_e1 _ _)
    have E8 : y_ev x (0, [(9, 1)]) = x 9 := (l_e1 _ _)
    have E9 : y_ev x (0, [(10, 1)]) = x 10 := (l_e1 _ _)
    have E10 : y_ev x (0, [(11, 1)]) = x 11 := (l_e1 _ _)
    have E11 : y_ev x (3, []) = 3 := (l_e0 _ _)
    have E12 : y_ev x (0, [(5, 1)]) = x 5 := (l_e1 _ _)
    have E13 : y_ev x (0, [(6, 1)]) = x 6 := (l_e1 _ _)
    have T0 : q_cy (t_b v) (v 102) (v 103) (v 104) (y_ev x (0, [(0, 1)])) (y_ev x (0, [(1, 1)])) (y_ev x ((-1), [(2, 1)])) (y_ev x (0, [])) := h.2.2.2.1
    (try rw [E0] at T0); (try rw [E1] at T0); (try rw [E2] at T0); (try rw [E3] at T0)
    have T1 : q_run2 (t_b v) (y_ev x (0, [(0, 1)])) (y_ev x (0, [(1, 1)])) (y_ev x (0, [(3, 1)])) (y_ev x (0, [])) (y_ev x (0, [(4, 1)])) (y_ev x (0, [(7, 1)])) (y_ev x (0, [(8, 1)])) (y_ev x (0, [(9, 1)])) (y_ev x (0, [(10, 1)])) (y_ev x (0, [(11, 1)])) := h.2.2.2.2.1
    (try rw [E0] at T1); (try rw [E1] at T1); (try rw [E4] at T1); (try rw [E3] at T1); (try rw [E5] at T1); (try rw [E6] at T1); (try rw [E7] at T1); (try rw [E8] at T1); (try rw [E9] at T1); (try rw [E10] at T1)
    have T2 : q_tok (t_b v) (y_ev x (0, [(0, 1)])) (y_ev x (0, [(1, 1)])) (y_ev x (3, [])) (y_ev x (0, [(5, 1)])) (y_ev x (0, [(6, 1)])) := h.2.2.2.2.2.1
    (try rw [E0] at T2); (try rw [E1] at T2); (try rw [E11] at T2); (try rw [E12] at T2); (try rw [E13] at T2)
    have K := k_cyi (V := v) (n := x 0) (c := x 1) (l := x 2) (st := x 3) (op := x 4) (s := x 5) (v := x 6) (H := x 7) (L := x 8) (W := x 9) (P := x 10) (S := x 11) (y := x 12) T0 T1 T2 C0 C1 C2 C3 F0 F1
    refine l_outH rfl (And.intro h.1 ?_)
    have O0 : y_ev x (0, [(0, 1)]) = x 0 := l_e1 _ _
    have O1 : y_ev x (0, [(1, 1)]) = x 1 := l_e1 _ _
    have O2 : y_ev x (0, [(2, 1)]) = x 2 := l_e1 _ _
    have O3 : y_ev x (5, []) = 5 := l_e0 _ _
    show (True) ∧ (q_cy (t_b v) (v 102) (v 103) (v 104) (y_ev x (0, [(0, 1)])) (y_ev x (0, [(1, 1)])) (y_ev x (0, [(2, 1)])) (y_ev x (5, [])) ∧ True)
    (try rw [O0]); (try rw [O1]); (try rw [O2]); (try rw [O3])
    exact K
def lm_580p : zS := ((lm_579pi_0 (lm_579pi_1 [])), [(1, false), (101, false), (102, false), (103, false)], [((-200), [(3, 1)]), (0, [(4, 1)]), ((-269), [(7, 1)]), (277, [(7, (-1))])], [], [], [(0, (false, 4, 0, []), 0, 0, 0, [(1, 1)]), (1, (false, 4, 0, []), 0, 0, 0, [(2, 1)]), (2, (true, 0, (-1), [(2, 1)]), 0, 0, 1, []), (3, (true, 0, (-1), [(2, 1)]), 0, 0, (-269), [(7, 1)])], [(201, [(0, [(0, 1)]), (0, [(1, 1)]), ((-1), [(2, 1)]), (0, [])]), (40, [(0, [(0, 1)]), (0, [(1, 1)]), (0, [(3, 1)]), (0, []), (0, [(4, 1)]), (0, [(8, 1)]), (0, [(9, 1)]), (0, [(10, 1)]), (0, [(11, 1)]), (0, [(12, 1)])]), (36, [(0, [(0, 1)]), (0, [(1, 1)]), (0, [(7, 1)]), (0, [(5, 1)]), (0, [(6, 1)])])])
def lm_580 : zLem := (lm_580p, [([((-2147483648), 2147483647), ((-2147483648), 2147483647), ((-2147483648), 2147483647), ((-2147483648), 2147483647), ((-2147483648), 2147483647), ((-2147483648), 2147483647), ((-9223372036854775808), 9223372036854775807), ((-2147483648), 2147483647), ((-2147483648), 2147483647), ((-2147483648), 2147483647), ((-2147483648), 2147483647), ((-2147483648), 2147483647), ((-2147483648), 2147483647)], [(1, false), (101, false), (102, false), (103, false)], [], [], [], [], [(201, [(0, [(0, 1)]), (0, [(1, 1)]), (0, [(2, 1)]), (5, [])])])])
theorem lk_580 : l_core lm_580 := by
  first
  | skip
    intro v x h
    have G0 := h.2.2.1
    have G1 := G0.2
    have G2 := G1.2
    have G3 := G2.2
    have K := k_cyv (V := v) (n := x 0) (c := x 1) (l := x 2) (st := x 3) (op := x 4) (s := x 5) (v := x 6) (kd := x 7) (H := x 8) (L := x 9) (W := x 10) (P := x 11) (S := x 12) (l_c4 (fun w0 w1 w2 w3 : Int => q_cy (t_b v) (v 102) (v 103) (v 104) w0 w1 w2 w3) (l_e1 x 0) (l_e1 x 1) (l_q2 1 x 2) (l_e0 x (0)) (h.2.2.2.1)) (l_c10 (fun w0 w1 w2 w3 w4 w5 w6 w7 w8 w9 : Int => q_run2 (t_b v) w0 w1 w2 w3 w4 w5 w6 w7 w8 w9) (l_e1 x 0) (l_e1 x 1) (l_e1 x 3) (l_e0 x (0)) (l_e1 x 4) (l_e1 x 8) (l_e1 x 9) (l_e1 x 10) (l_e1 x 11) (l_e1 x 12) (h.2.2.2.2.1)) (l_c5 (fun w0 w1 w2 w3 w4 : Int => q_tok (t_b v) w0 w1 w2 w3 w4) (l_e1 x 0) (l_e1 x 1) (l_e1 x 7) (l_e1 x 5) (l_e1 x 6) (h.2.2.2.2.2.1)) (l_cc (l_q2 200 x 3) (h.2.1.1)) (l_cc (l_e1 x 4) (h.2.1.2.1)) (l_cc (l_q2 269 x 7) (h.2.1.2.2.1)) (l_cc (l_q1 277 x 7) (h.2.1.2.2.2.1)) (l_ff (f := v 102) (L := j_len 102) (l_q2 1 x 2) (l_e0 x (1)) (G2.1.1)) (l_ff (f := v 103) (L := j_len 103) (l_q2 1 x 2) (l_q2 269 x 7) (G3.1.1))
    refine l_outH rfl (And.intro h.1 ?_)
    exact l_o4 (fun w0 w1 w2 w3 : Int => (True) ∧ (q_cy (t_b v) (v 102) (v 103) (v 104) w0 w1 w2 w3 ∧ True)) (l_e1 x 0) (l_e1 x 1) (l_e1 x 2) (l_e0 x (5)) K
  | skip
    intro v x h
    have G0 := h.2.2.1
    have G1 := G0.2
    have G2 := G1.2
    have G3 := G2.2
    have C0 : (0 : Int) ≤ x 3 - 200 := l_cc (a := y_ev x ((-200), [(3, 1)])) (by show ((-200) : Int) + ((1) * x 3 + 0) = x 3 - 200; omega) (h.2.1.1)
    have C1 : (0 : Int) ≤ x 4 := l_cc (a := y_ev x (0, [(4, 1)])) (l_e1 _ _) (h.2.1.2.1)
    have C2 : (0 : Int) ≤ x 7 - 269 := l_cc (a := y_ev x ((-269), [(7, 1)])) (by show ((-269) : Int) + ((1) * x 7 + 0) = x 7 - 269; omega) (h.2.1.2.2.1)
    have C3 : (0 : Int) ≤ 277 - x 7 := l_cc (a := y_ev x (277, [(7, (-1))])) (by show ((277) : Int) + ((-1) * x 7 + 0) = 277 - x 7; omega) (h.2.1.2.2.2.1)
    have F0 : (0 : Int) ≤ x 2 - 1 ∧ (x 2 - 1 : Int) < j_len 102 ∧ v 102 (x 2 - 1) = 1 := l_ff (f := v 102) (L := j_len 102) (a := y_ev x ((-1), [(2, 1)])) (b := y_ev x (1, [])) (by show ((-1) : Int) + ((1) * x 2 + 0) = x 2 - 1; omega) (l_e0 _ _) (G2.1.1)
    have F1 : (0 : Int) ≤ x 2 - 1 ∧ (x 2 - 1 : Int) < j_len 103 ∧ v 103 (x 2 - 1) = x 7 - 269 := l_ff (f := v 103) (L := j_len 103) (a := y_ev x ((-1), [(2, 1)])) (b := y_ev x ((-269), [(7, 1)])) (by show ((-1) : Int) + ((1) * x 2 + 0) = x 2 - 1; omega) (by show ((-269) : Int) + ((1) * x 7 + 0) = x 7 - 269; omega) (G3.1.1)
    have E0 : y_ev x (0, [(0, 1)]) = x 0 := (l_e1 _ _)
    have E1 : y_ev x (0, [(1, 1)]) = x 1 := (l_e1 _ _)
    have E2 : y_ev x ((-1), [(2, 1)]) = x 2 - 1 := (by show ((-1) : Int) + ((1) * x 2 + 0) = x 2 - 1; omega)
    have E3 : y_ev x (0, []) = 0 := (l_e0 _ _)
    have E4 : y_ev x (0, [(3, 1)]) = x 3 := (l_e1 _ _)
    have E5 : y_ev x (0, [(4, 1)]) = x 4 := (l_e1 _ _)
    have E6 : y_ev x (0, [(8, 1)]) = x 8 := (l_e1 _ _)
    have E7 : y_ev x (0, [(9, 1)]) = x 9 := (l_e1 _ _)
    have E8 : y_ev x (0, [(10, 1)]) = x 10 := (l_e1 _ _)
    have E9 : y_ev x (0, [(11, 1)]) = x 11 := (l_e1 _ _)
    have E10 : y_ev x (0, [(12, 1)]) = x 12 := (l_e1 _ _)
    have E11 : y_ev x (0, [(7, 1)]) = x 7 := (l_e1 _ _)
    have E12 : y_ev x (0, [(5, 1)]) = x 5 := (l_e1 _ _)
    have E13 : y_ev x (0, [(6, 1)]) = x 6 := (l_e1 _ _)
    have T0 : q_cy (t_b v) (v 102) (v 103) (v 104) (y_ev x (0, [(0, 1)])) (y_ev x (0, [(1, 1)])) (y_ev x ((-1), [(2, 1)])) (y_ev x (0, [])) := h.2.2.2.1
    (try rw [E0] at T0); (try rw [E1] at T0); (try rw [E2] at T0); (try rw [E3] at T0)
    have T1 : q_run2 (t_b v) (y_ev x (0, [(0, 1)])) (y_ev x (0, [(1, 1)])) (y_ev x (0, [(3, 1)])) (y_ev x (0, [])) (y_ev x (0, [(4, 1)])) (y_ev x (0, [(8, 1)])) (y_ev x (0, [(9, 1)])) (y_ev x (0, [(10, 1)])) (y_ev x (0, [(11, 1)])) (y_ev x (0, [(12, 1)])) := h.2.2.2.2.1
    (try rw [E0] at T1); (try rw [E1] at T1); (try rw [E4] at T1); (try rw [E3] at T1); (try rw [E5] at T1); (try rw [E6] at T1); (try rw [E7] at T1); (try rw [E8] at T1); (try rw [E9] at T1); (try rw [E10] at T1)
    have T2 : q_tok (t_b v) (y_ev x (0, [(0, 1)])) (y_ev x (0, [(1, 1)])) (y_ev x (0, [(7, 1)])) (y_ev x (0, [(5, 1)])) (y_ev x (0, [(6, 1)])) := h.2.2.2.2.2.1
    (try rw [E0] at T2); (try rw [E1] at T2); (try rw [E11] at T2); (try rw [E12] at T2); (try rw [E13] at T2)
    have K := k_cyv (V := v) (n := x 0) (c := x 1) (l := x 2) (st := x 3) (op := x 4) (s := x 5) (v := x 6) (kd := x 7) (H := x 8) (L := x 9) (W := x 10) (P := x 11) (S := x 12) T0 T1 T2 C0 C1 C2 C3 F0 F1
    refine l_outH rfl (And.intro h.1 ?_)
    have O0 : y_ev x (0, [(0, 1)]) = x 0 := l_e1 _ _
    have O1 : y_ev x (0, [(1, 1)]) = x 1 := l_e1 _ _
    have O2 : y_ev x (0, [(2, 1)]) = x 2 := l_e1 _ _
    have O3 : y_ev x (5, []) = 5 := l_e0 _ _
    show (True) ∧ (q_cy (t_b v) (v 102) (v 103) (v 104) (y_ev x (0, [(0, 1)])) (y_ev x (0, [(1, 1)])) (y_ev x (0, [(2, 1)])) (y_ev x (5, [])) ∧ True)
    (try rw [O0]); (try rw [O1]); (try rw [O2]); (try rw [O3])
    exact K
def lm_581 : zLem := (([((-2147483648), 2147483647), ((-2147483648), 2147483647), ((-2147483648), 2147483647)], [(1, false)], [(400, [(1, (-1))]), ((-1), [(1, 1)])], [], [], [(0, (false, 4, 0, []), 0, 0, 0, [(1, 1)])], [(201, [(0, [(0, 1)]), ((-1), [(1, 1)]), (0, [(2, 1)]), (5, [])])]), [([((-2147483648), 2147483647), ((-2147483648), 2147483647), ((-2147483648), 2147483647)], [(1, false)], [], [], [], [], [(201, [(0, [(0, 1)]), (0, [(1, 1)]), (0, [(2, 1)]), (0, [])]), (206, [(0, [(0, 1)]), ((-1), [(1, 1)]), (0, [(1, 1)])])])])
theorem lk_581 : l_core lm_581 := by
  first
  | skip
    intro v x h
    have K := k_cyt (V := v) (n := x 0) (d := x 1) (l := x 2) (l_c4 (fun w0 w1 w2 w3 : Int => q_cy (t_b v) (v 102) (v 103) (v 104) w0 w1 w2 w3) (l_e1 x 0) (l_q2 1 x 1) (l_e1 x 2) (l_e0 x (5)) (h.2.2.2.1)) (l_cc (l_q1 400 x 1) (h.2.1.1)) (l_cc (l_q2 1 x 1) (h.2.1.2.1))
    refine l_outH rfl (And.intro h.1 ?_)
    exact l_o5 (fun w0 w1 w2 w3 w4 : Int => (True) ∧ (q_cy (t_b v) (v 102) (v 103) (v 104) w0 w1 w2 w3 ∧ q_uex (t_b v) w0 w4 w1 ∧ True)) (l_e1 x 0) (l_e1 x 1) (l_e1 x 2) (l_e0 x (0)) (l_q2 1 x 1) K
  | skip
    intro v x h
    have C0 : (0 : Int) ≤ 400 - x 1 := l_cc (a := y_ev x (400, [(1, (-1))])) (by show ((400) : Int) + ((-1) * x 1 + 0) = 400 - x 1; omega) (h.2.1.1)
    have C1 : (0 : Int) ≤ x 1 - 1 := l_cc (a := y_ev x ((-1), [(1, 1)])) (by show ((-1) : Int) + ((1) * x 1 + 0) = x 1 - 1; omega) (h.2.1.2.1)
    have E0 : y_ev x (0, [(0, 1)]) = x 0 := (l_e1 _ _)
    have E1 : y_ev x ((-1), [(1, 1)]) = x 1 - 1 := (by show ((-1) : Int) + ((1) * x 1 + 0) = x 1 - 1; omega)
    have E2 : y_ev x (0, [(2, 1)]) = x 2 := (l_e1 _ _)
    have E3 : y_ev x (5, []) = 5 := (l_e0 _ _)
    have T0 : q_cy (t_b v) (v 102) (v 103) (v 104) (y_ev x (0, [(0, 1)])) (y_ev x ((-1), [(1, 1)])) (y_ev x (0, [(2, 1)])) (y_ev x (5, [])) := h.2.2.2.1
    (try rw [E0] at T0); (try rw [E1] at T0); (try rw [E2] at T0); (try rw [E3] at T0)
    have K := k_cyt (V := v) (n := x 0) (d := x 1) (l := x 2) T0 C0 C1
    refine l_outH rfl (And.intro h.1 ?_)
    have O0 : y_ev x (0, [(0, 1)]) = x 0 := l_e1 _ _
    have O1 : y_ev x (0, [(1, 1)]) = x 1 := l_e1 _ _
    have O2 : y_ev x (0, [(2, 1)]) = x 2 := l_e1 _ _
    have O3 : y_ev x (0, []) = 0 := l_e0 _ _
    have O4 : y_ev x ((-1), [(1, 1)]) = x 1 - 1 := by show ((-1) : Int) + ((1) * x 1 + 0) = _; omega
    show (True) ∧ (q_cy (t_b v) (v 102) (v 103) (v 104) (y_ev x (0, [(0, 1)])) (y_ev x (0, [(1, 1)])) (y_ev x (0, [(2, 1)])) (y_ev x (0, [])) ∧ q_uex (t_b v) (y_ev x (0, [(0, 1)])) (y_ev x ((-1), [(1, 1)])) (y_ev x (0, [(1, 1)])) ∧ True)
    (try rw [O0]); (try rw [O1]); (try rw [O2]); (try rw [O3]); (try rw [O4])
    exact K
def lm_582 : zLem := (([((-2147483648), 2147483647), ((-2147483648), 2147483647), ((-2147483648), 2147483647), ((-2147483648), 2147483647)], [(1, false)], [], [], [], [(0, (false, 4, 0, []), 0, 0, 0, [(2, 1)])], [(210, [(0, [(0, 1)]), (0, [(1, 1)])]), (206, [(0, [(0, 1)]), (0, [(1, 1)]), (0, [(2, 1)])]), (201, [(0, [(0, 1)]), (0, [(2, 1)]), (0, [(3, 1)]), (0, [])])]), [([((-2147483648), 2147483647), ((-2147483648), 2147483647), ((-2147483648), 2147483647), ((-2147483648), 2147483647)], [(1, false)], [], [], [], [], [(201, [(0, [(0, 1)]), (0, [(2, 1)]), (0, [(3, 1)]), (1, [])]), (207, [(0, [(0, 1)]), (0, [(1, 1)]), (0, [(2, 1)])])])])
theorem lk_582 : l_core lm_582 := by
  first
  | skip
    intro v x h
    have K := k_pex0 (V := v) (n := x 0) (c := x 1) (d := x 2) (l := x 3) (l_c2 (fun w0 w1 : Int => p_S (p_w (t_b v) w0 w1) = []) (l_e1 x 0) (l_e1 x 1) (h.2.2.2.1)) (l_c3 (fun w0 w1 w2 : Int => q_uex (t_b v) w0 w1 w2) (l_e1 x 0) (l_e1 x 1) (l_e1 x 2) (h.2.2.2.2.1)) (l_c4 (fun w0 w1 w2 w3 : Int => q_cy (t_b v) (v 102) (v 103) (v 104) w0 w1 w2 w3) (l_e1 x 0) (l_e1 x 2) (l_e1 x 3) (l_e0 x (0)) (h.2.2.2.2.2.1))
    refine l_outH rfl (And.intro h.1 ?_)
    exact l_o5 (fun w0 w1 w2 w3 w4 : Int => (True) ∧ (q_cy (t_b v) (v 102) (v 103) (v 104) w0 w1 w2 w3 ∧ q_pex (t_b v) w0 w4 w1 ∧ True)) (l_e1 x 0) (l_e1 x 2) (l_e1 x 3) (l_e0 x (1)) (l_e1 x 1) K
  | skip
    intro v x h
    have E0 : y_ev x (0, [(0, 1)]) = x 0 := (l_e1 _ _)
    have E1 : y_ev x (0, [(1, 1)]) = x 1 := (l_e1 _ _)
    have E2 : y_ev x (0, [(2, 1)]) = x 2 := (l_e1 _ _)
    have E3 : y_ev x (0, [(3, 1)]) = x 3 := (l_e1 _ _)
    have E4 : y_ev x (0, []) = 0 := (l_e0 _ _)
    have T0 : p_S (p_w (t_b v) (y_ev x (0, [(0, 1)])) (y_ev x (0, [(1, 1)]))) = [] := h.2.2.2.1
    (try rw [E0] at T0); (try rw [E1] at T0)
    have T1 : q_uex (t_b v) (y_ev x (0, [(0, 1)])) (y_ev x (0, [(1, 1)])) (y_ev x (0, [(2, 1)])) := h.2.2.2.2.1
    (try rw [E0] at T1); (try rw [E1] at T1); (try rw [E2] at T1)
    have T2 : q_cy (t_b v) (v 102) (v 103) (v 104) (y_ev x (0, [(0, 1)])) (y_ev x (0, [(2, 1)])) (y_ev x (0, [(3, 1)])) (y_ev x (0, [])) := h.2.2.2.2.2.1
    (try rw [E0] at T2); (try rw [E2] at T2); (try rw [E3] at T2); (try rw [E4] at T2)
    have K := k_pex0 (V := v) (n := x 0) (c := x 1) (d := x 2) (l := x 3) T0 T1 T2
    refine l_outH rfl (And.intro h.1 ?_)
    have O0 : y_ev x (0, [(0, 1)]) = x 0 := l_e1 _ _
    have O1 : y_ev x (0, [(2, 1)]) = x 2 := l_e1 _ _
    have O2 : y_ev x (0, [(3, 1)]) = x 3 := l_e1 _ _
    have O3 : y_ev x (1, []) = 1 := l_e0 _ _
    have O4 : y_ev x (0, [(1, 1)]) = x 1 := l_e1 _ _
    show (True) ∧ (q_cy (t_b v) (v 102) (v 103) (v 104) (y_ev x (0, [(0, 1)])) (y_ev x (0, [(2, 1)])) (y_ev x (0, [(3, 1)])) (y_ev x (1, [])) ∧ q_pex (t_b v) (y_ev x (0, [(0, 1)])) (y_ev x (0, [(1, 1)])) (y_ev x (0, [(2, 1)])) ∧ True)
    (try rw [O0]); (try rw [O1]); (try rw [O2]); (try rw [O3]); (try rw [O4])
    exact K
def lm_583p : zS := ((lm_577pi_0 (lm_577pi_1 [])), [(1, false)], [(400, [(1, (-1))]), ((-200), [(3, 1)]), (0, [(4, 1)])], [], [], [(0, (false, 4, 0, []), 0, 0, 0, [(1, 1)])], [(201, [(0, [(0, 1)]), ((-1), [(1, 1)]), (0, [(2, 1)]), (1, [])]), (40, [(0, [(0, 1)]), ((-1), [(1, 1)]), (0, [(3, 1)]), (1, []), (0, [(4, 1)]), (0, [(7, 1)]), (0, [(8, 1)]), (0, [(9, 1)]), (0, [(10, 1)]), (0, [(11, 1)])]), (36, [(0, [(0, 1)]), ((-1), [(1, 1)]), (42, []), (0, [(5, 1)]), (0, [(6, 1)])])])
def lm_583 : zLem := (lm_583p, [([((-2147483648), 2147483647), ((-2147483648), 2147483647), ((-2147483648), 2147483647), ((-2147483648), 2147483647), ((-2147483648), 2147483647), ((-2147483648), 2147483647), ((-9223372036854775808), 9223372036854775807), ((-2147483648), 2147483647), ((-2147483648), 2147483647), ((-2147483648), 2147483647), ((-2147483648), 2147483647), ((-2147483648), 2147483647)], [(1, false)], [], [], [], [], [(201, [(0, [(0, 1)]), (0, [(1, 1)]), (0, [(2, 1)]), (0, [])])])])
theorem lk_583 : l_core lm_583 := by
  first
  | skip
    intro v x h
    have K := k_cym_t (V := v) (n := x 0) (d := x 1) (l := x 2) (st := x 3) (op := x 4) (s := x 5) (v := x 6) (H := x 7) (L := x 8) (W := x 9) (P := x 10) (S := x 11) (l_c4 (fun w0 w1 w2 w3 : Int => q_cy (t_b v) (v 102) (v 103) (v 104) w0 w1 w2 w3) (l_e1 x 0) (l_q2 1 x 1) (l_e1 x 2) (l_e0 x (1)) (h.2.2.2.1)) (l_c10 (fun w0 w1 w2 w3 w4 w5 w6 w7 w8 w9 : Int => q_run2 (t_b v) w0 w1 w2 w3 w4 w5 w6 w7 w8 w9) (l_e1 x 0) (l_q2 1 x 1) (l_e1 x 3) (l_e0 x (1)) (l_e1 x 4) (l_e1 x 7) (l_e1 x 8) (l_e1 x 9) (l_e1 x 10) (l_e1 x 11) (h.2.2.2.2.1)) (l_c5 (fun w0 w1 w2 w3 w4 : Int => q_tok (t_b v) w0 w1 w2 w3 w4) (l_e1 x 0) (l_q2 1 x 1) (l_e0 x (42)) (l_e1 x 5) (l_e1 x 6) (h.2.2.2.2.2.1)) (l_cc (l_q1 400 x 1) (h.2.1.1)) (l_cc (l_q2 200 x 3) (h.2.1.2.1)) (l_cc (l_e1 x 4) (h.2.1.2.2.1))
    refine l_outH rfl (And.intro h.1 ?_)
    exact l_o4 (fun w0 w1 w2 w3 : Int => (True) ∧ (q_cy (t_b v) (v 102) (v 103) (v 104) w0 w1 w2 w3 ∧ True)) (l_e1 x 0) (l_e1 x 1) (l_e1 x 2) (l_e0 x (0)) K
  | skip
    intro v x h
    have C0 : (0 : Int) ≤ 400 - x 1 := l_cc (a := y_ev x (400, [(1, (-1))])) (by show ((400) : Int) + ((-1) * x 1 + 0) = 400 - x 1; omega) (h.2.1.1)
    have C1 : (0 : Int) ≤ x 3 - 200 := l_cc (a := y_ev x ((-200), [(3, 1)])) (by show ((-200) : Int) + ((1) * x 3 + 0) = x 3 - 200; omega) (h.2.1.2.1)
    have C2 : (0 : Int) ≤ x 4 := l_cc (a := y_ev x (0, [(4, 1)])) (l_e1 _ _) (h.2.1.2.2.1)
    have E0 : y_ev x (0, [(0, 1)]) = x 0 := (l_e1 _ _)
    have E1 : y_ev x ((-1), [(1, 1)]) = x 1 - 1 := (by show ((-1) : Int) + ((1) * x 1 + 0) = x 1 - 1; omega)
    have E2 : y_ev x (0, [(2, 1)]) = x 2 := (l_e1 _ _)
    have E3 : y_ev x (1, []) = 1 := (l_e0 _ _)
    have E4 : y_ev x (0, [(3, 1)]) = x 3 := (l_e1 _ _)
    have E5 : y_ev x (0, [(4, 1)]) = x 4 := (l_e1 _ _)
    have E6 : y_ev x (0, [(7, 1)]) = x 7 := (l_e1 _ _)
    have E7 : y_ev x (0, [(8, 1)]) = x 8 := (l_e1 _ _)
    have E8 : y_ev x (0, [(9, 1)]) = x 9 := (l_e1 _ _)
    have E9 : y_ev x (0, [(10, 1)]) = x 10 := (l_e1 _ _)
    have E10 : y_ev x (0, [(11, 1)]) = x 11 := (l_e1 _ _)
    have E11 : y_ev x (42, []) = 42 := (l_e0 _ _)
    have E12 : y_ev x (0, [(5, 1)]) = x 5 := (l_e1 _ _)
    have E13 : y_ev x (0, [(6, 1)]) = x 6 := (l_e1 _ _)
    have T0 : q_cy (t_b v) (v 102) (v 103) (v 104) (y_ev x (0, [(0, 1)])) (y_ev x ((-1), [(1, 1)])) (y_ev x (0, [(2, 1)])) (y_ev x (1, [])) := h.2.2.2.1
    (try rw [E0] at T0); (try rw [E1] at T0); (try rw [E2] at T0); (try rw [E3] at T0)
    have T1 : q_run2 (t_b v) (y_ev x (0, [(0, 1)])) (y_ev x ((-1), [(1, 1)])) (y_ev x (0, [(3, 1)])) (y_ev x (1, [])) (y_ev x (0, [(4, 1)])) (y_ev x (0, [(7, 1)])) (y_ev x (0, [(8, 1)])) (y_ev x (0, [(9, 1)])) (y_ev x (0, [(10, 1)])) (y_ev x (0, [(11, 1)])) := h.2.2.2.2.1
    (try rw [E0] at T1); (try rw [E1] at T1); (try rw [E4] at T1); (try rw [E3] at T1); (try rw [E5] at T1); (try rw [E6] at T1); (try rw [E7] at T1); (try rw [E8] at T1); (try rw [E9] at T1); (try rw [E10] at T1)
    have T2 : q_tok (t_b v) (y_ev x (0, [(0, 1)])) (y_ev x ((-1), [(1, 1)])) (y_ev x (42, [])) (y_ev x (0, [(5, 1)])) (y_ev x (0, [(6, 1)])) := h.2.2.2.2.2.1
    (try rw [E0] at T2); (try rw [E1] at T2); (try rw [E11] at T2); (try rw [E12] at T2); (try rw [E13] at T2)
    have K := k_cym_t (V := v) (n := x 0) (d := x 1) (l := x 2) (st := x 3) (op := x 4) (s := x 5) (v := x 6) (H := x 7) (L := x 8) (W := x 9) (P := x 10) (S := x 11) T0 T1 T2 C0 C1 C2
    refine l_outH rfl (And.intro h.1 ?_)
    have O0 : y_ev x (0, [(0, 1)]) = x 0 := l_e1 _ _
    have O1 : y_ev x (0, [(1, 1)]) = x 1 := l_e1 _ _
    have O2 : y_ev x (0, [(2, 1)]) = x 2 := l_e1 _ _
    have O3 : y_ev x (0, []) = 0 := l_e0 _ _
    show (True) ∧ (q_cy (t_b v) (v 102) (v 103) (v 104) (y_ev x (0, [(0, 1)])) (y_ev x (0, [(1, 1)])) (y_ev x (0, [(2, 1)])) (y_ev x (0, [])) ∧ True)
    (try rw [O0]); (try rw [O1]); (try rw [O2]); (try rw [O3])
    exact K
def lm_584pi_0 (t : List (Int × Int)) : List (Int × Int) := ((-2147483648), 2147483647) :: ((-2147483648), 2147483647) :: ((-2147483648), 2147483647) :: ((-2147483648), 2147483647) :: ((-2147483648), 2147483647) :: ((-2147483648), 2147483647) :: ((-9223372036854775808), 9223372036854775807) :: ((-2147483648), 2147483647) :: t
def lm_584pi_1 (t : List (Int × Int)) : List (Int × Int) := ((-2147483648), 2147483647) :: ((-2147483648), 2147483647) :: ((-2147483648), 2147483647) :: ((-2147483648), 2147483647) :: ((-2147483648), 2147483647) :: ((-2147483648), 2147483647) :: t
def lm_584pg_0 (t : List zTg) : List zTg := (207, [(0, [(0, 1)]), (0, [(1, 1)]), (0, [(2, 1)])]) :: (36, [(0, [(0, 1)]), (0, [(2, 1)]), (42, []), (0, [(5, 1)]), (0, [(6, 1)])]) :: (40, [(0, [(0, 1)]), (0, [(2, 1)]), (0, [(7, 1)]), (1, []), (0, [(8, 1)]), (0, [(9, 1)]), (0, [(10, 1)]), (0, [(11, 1)]), (0, [(12, 1)]), (0, [(13, 1)])]) :: (206, [(0, [(0, 1)]), (1, [(2, 1)]), (0, [(3, 1)])]) :: (201, [(0, [(0, 1)]), (0, [(3, 1)]), ((-1), [(4, 1)]), (0, [])]) :: t
def lm_584p : zS := ((lm_584pi_0 (lm_584pi_1 [])), [(1, false), (101, false), (102, false), (103, false)], [((-200), [(7, 1)]), (0, [(8, 1)])], [], [], [(0, (false, 4, 0, []), 0, 0, 0, [(3, 1)]), (1, (false, 4, 0, []), 0, 0, 0, [(4, 1)]), (2, (true, 0, (-1), [(4, 1)]), 0, 0, 4, []), (3, (true, 0, (-1), [(4, 1)]), 0, 0, 0, [])], (lm_584pg_0 []))
def lm_584 : zLem := (lm_584p, [([((-2147483648), 2147483647), ((-2147483648), 2147483647), ((-2147483648), 2147483647), ((-2147483648), 2147483647), ((-2147483648), 2147483647), ((-2147483648), 2147483647), ((-9223372036854775808), 9223372036854775807), ((-2147483648), 2147483647), ((-2147483648), 2147483647), ((-2147483648), 2147483647), ((-2147483648), 2147483647), ((-2147483648), 2147483647), ((-2147483648), 2147483647), ((-2147483648), 2147483647)], [(1, false), (101, false), (102, false), (103, false)], [], [], [], [], [(201, [(0, [(0, 1)]), (0, [(3, 1)]), (0, [(4, 1)]), (1, [])]), (207, [(0, [(0, 1)]), (0, [(1, 1)]), (0, [(3, 1)])])])])
theorem lk_584 : l_core lm_584 := by
  first
  | skip
    intro v x h
    have G0 := h.2.2.1
    have G1 := G0.2
    have G2 := G1.2
    have G3 := G2.2
    have K := k_pexS_t (V := v) (n := x 0) (c := x 1) (e := x 2) (d := x 3) (l := x 4) (s := x 5) (v := x 6) (st := x 7) (op := x 8) (H := x 9) (L := x 10) (W := x 11) (P := x 12) (S := x 13) (l_c3 (fun w0 w1 w2 : Int => q_pex (t_b v) w0 w1 w2) (l_e1 x 0) (l_e1 x 1) (l_e1 x 2) (h.2.2.2.1)) (l_c5 (fun w0 w1 w2 w3 w4 : Int => q_tok (t_b v) w0 w1 w2 w3 w4) (l_e1 x 0) (l_e1 x 2) (l_e0 x (42)) (l_e1 x 5) (l_e1 x 6) (h.2.2.2.2.1)) (l_c10 (fun w0 w1 w2 w3 w4 w5 w6 w7 w8 w9 : Int => q_run2 (t_b v) w0 w1 w2 w3 w4 w5 w6 w7 w8 w9) (l_e1 x 0) (l_e1 x 2) (l_e1 x 7) (l_e0 x (1)) (l_e1 x 8) (l_e1 x 9) (l_e1 x 10) (l_e1 x 11) (l_e1 x 12) (l_e1 x 13) (h.2.2.2.2.2.1)) (l_c3 (fun w0 w1 w2 : Int => q_uex (t_b v) w0 w1 w2) (l_e1 x 0) (l_q3 1 x 2) (l_e1 x 3) (h.2.2.2.2.2.2.1)) (l_c4 (fun w0 w1 w2 w3 : Int => q_cy (t_b v) (v 102) (v 103) (v 104) w0 w1 w2 w3) (l_e1 x 0) (l_e1 x 3) (l_q2 1 x 4) (l_e0 x (0)) (h.2.2.2.2.2.2.2.1)) (l_cc (l_q2 200 x 7) (h.2.1.1)) (l_cc (l_e1 x 8) (h.2.1.2.1)) (l_ff (f := v 102) (L := j_len 102) (l_q2 1 x 4) (l_e0 x (4)) (G2.1.1)) (l_ff (f := v 103) (L := j_len 103) (l_q2 1 x 4) (l_e0 x (0)) (G3.1.1))
    refine l_outH rfl (And.intro h.1 ?_)
    exact l_o5 (fun w0 w1 w2 w3 w4 : Int => (True) ∧ (q_cy (t_b v) (v 102) (v 103) (v 104) w0 w1 w2 w3 ∧ q_pex (t_b v) w0 w4 w1 ∧ True)) (l_e1 x 0) (l_e1 x 3) (l_e1 x 4) (l_e0 x (1)) (l_e1 x 1) K
  | skip
    intro v x h
    have G0 := h.2.2.1
    have G1 := G0.2
    have G2 := G1.2
    have G3 := G2.2
    have C0 : (0 : Int) ≤ x 7 - 200 := l_cc (a := y_ev x ((-200), [(7, 1)])) (by show ((-200) : Int) + ((1) * x 7 + 0) = x 7 - 200; omega) (h.2.1.1)
    have C1 : (0 : Int) ≤ x 8 := l_cc (a := y_ev x (0, [(8, 1)])) (l_e1 _ _) (h.2.1.2.1)
    have F0 : (0 : Int) ≤ x 4 - 1 ∧ (x 4 - 1 : Int) < j_len 102 ∧ v 102 (x 4 - 1) = 4 := l_ff (f := v 102) (L := j_len 102) (a := y_ev x ((-1), [(4, 1)])) (b := y_ev x (4, [])) (by show ((-1) : Int) + ((1) * x 4 + 0) = x 4 - 1; omega) (l_e0 _ _) (G2.1.1)
    have F1 : (0 : Int) ≤ x 4 - 1 ∧ (x 4 - 1 : Int) < j_len 103 ∧ v 103 (x 4 - 1) = 0 := l_ff (f := v 103) (L := j_len 103) (a := y_ev x ((-1), [(4, 1)])) (b := y_ev x (0, [])) (by show ((-1) : Int) + ((1) * x 4 + 0) = x 4 - 1; omega) (l_e0 _ _) (G3.1.1)
    have E0 : y_ev x (0, [(0, 1)]) = x 0 := (l_e1 _ _)
    have E1 : y_ev x (0, [(1, 1)]) = x 1 := (l_e1 _ _)
    have E2 : y_ev x (0, [(2, 1)]) = x 2 := (l_e1 _ _)
    have E3 : y_ev x (42, []) = 42 := (l_e0 _ _)
    have E4 : y_ev x (0, [(5, 1)]) = x 5 := (l_e1 _ _)
    have E5 : y_ev x (0, [(6, 1)]) = x 6 := (l_e1 _ _)
    have E6 : y_ev x (0, [(7, 1)]) = x 7 := (l_e1 _ _)
    have E7 : y_ev x (1, []) = 1 := (l_e0 _ _)
    have E8 : y_ev x (0, [(8, 1)]) = x 8 := (l_e1 _ _)
    have E9 : y_ev x (0, [(9, 1)]) = x 9 := (l_e1 _ _)
    have E10 : y_ev x (0, [(10, 1)]) = x 10 := (l_e1 _ _)
    have E11 : y_ev x (0, [(11, 1)]) = x 11 := (l_e1 _ _)
    have E12 : y_ev x (0, [(12, 1)]) = x 12 := (l_e1 _ _)
    have E13 : y_ev x (0, [(13, 1)]) = x 13 := (l_e1 _ _)
    have E14 : y_ev x (1, [(2, 1)]) = x 2 + 1 := (by show ((1) : Int) + ((1) * x 2 + 0) = x 2 + 1; omega)
    have E15 : y_ev x (0, [(3, 1)]) = x 3 := (l_e1 _ _)
    have E16 : y_ev x ((-1), [(4, 1)]) = x 4 - 1 := (by show ((-1) : Int) + ((1) * x 4 + 0) = x 4 - 1; omega)
    have E17 : y_ev x (0, []) = 0 := (l_e0 _ _)
    have T0 : q_pex (t_b v) (y_ev x (0, [(0, 1)])) (y_ev x (0, [(1, 1)])) (y_ev x (0, [(2, 1)])) := h.2.2.2.1
    (try rw [E0] at T0); (try rw [E1] at T0); (try rw [E2] at T0)
    have T1 : q_tok (t_b v) (y_ev x (0, [(0, 1)])) (y_ev x (0, [(2, 1)])) (y_ev x (42, [])) (y_ev x (0, [(5, 1)])) (y_ev x (0, [(6, 1)])) := h.2.2.2.2.1
    (try rw [E0] at T1); (try rw [E2] at T1); (try rw [E3] at T1); (try rw [E4] at T1); (try rw [E5] at T1)
    have T2 : q_run2 (t_b v) (y_ev x (0, [(0, 1)])) (y_ev x (0, [(2, 1)])) (y_ev x (0, [(7, 1)])) (y_ev x (1, [])) (y_ev x (0, [(8, 1)])) (y_ev x (0, [(9, 1)])) (y_ev x (0, [(10, 1)])) (y_ev x (0, [(11, 1)])) (y_ev x (0, [(12, 1)])) (y_ev x (0, [(13, 1)])) := h.2.2.2.2.2.1
    (try rw [E0] at T2); (try rw [E2] at T2); (try rw [E6] at T2); (try rw [E7] at T2); (try rw [E8] at T2); (try rw [E9] at T2); (try rw [E10] at T2); (try rw [E11] at T2); (try rw [E12] at T2); (try rw [E13] at T2)
    have T3 : q_uex (t_b v) (y_ev x (0, [(0, 1)])) (y_ev x (1, [(2, 1)])) (y_ev x (0, [(3, 1)])) := h.2.2.2.2.2.2.1
    (try rw [E0] at T3); (try rw [E14] at T3); (try rw [E15] at T3)
    have T4 : q_cy (t_b v) (v 102) (v 103) (v 104) (y_ev x (0, [(0, 1)])) (y_ev x (0, [(3, 1)])) (y_ev x ((-1), [(4, 1)])) (y_ev x (0, [])) := h.2.2.2.2.2.2.2.1
    (try rw [E0] at T4); (try rw [E15] at T4); (try rw [E16] at T4); (try rw [E17] at T4)
    have K := k_pexS_t (V := v) (n := x 0) (c := x 1) (e := x 2) (d := x 3) (l := x 4) (s := x 5) (v := x 6) (st := x 7) (op := x 8) (H := x 9) (L := x 10) (W := x 11) (P := x 12) (S := x 13) T0 T1 T2 T3 T4 C0 C1 F0 F1
    refine l_outH rfl (And.intro h.1 ?_)
    have O0 : y_ev x (0, [(0, 1)]) = x 0 := l_e1 _ _
    have O1 : y_ev x (0, [(3, 1)]) = x 3 := l_e1 _ _
    have O2 : y_ev x (0, [(4, 1)]) = x 4 := l_e1 _ _
    have O3 : y_ev x (1, []) = 1 := l_e0 _ _
    have O4 : y_ev x (0, [(1, 1)]) = x 1 := l_e1 _ _
    show (True) ∧ (q_cy (t_b v) (v 102) (v 103) (v 104) (y_ev x (0, [(0, 1)])) (y_ev x (0, [(3, 1)])) (y_ev x (0, [(4, 1)])) (y_ev x (1, [])) ∧ q_pex (t_b v) (y_ev x (0, [(0, 1)])) (y_ev x (0, [(1, 1)])) (y_ev x (0, [(3, 1)])) ∧ True)
    (try rw [O0]); (try rw [O1]); (try rw [O2]); (try rw [O3]); (try rw [O4])
    exact K
def lm_585p : zS := ((lm_577pi_0 (lm_577pi_1 [])), [(1, false)], [(400, [(1, (-1))]), ((-200), [(3, 1)]), (0, [(4, 1)])], [], [], [(0, (false, 4, 0, []), 0, 0, 0, [(1, 1)])], [(201, [(0, [(0, 1)]), ((-1), [(1, 1)]), (0, [(2, 1)]), (1, [])]), (40, [(0, [(0, 1)]), ((-1), [(1, 1)]), (0, [(3, 1)]), (1, []), (0, [(4, 1)]), (0, [(7, 1)]), (0, [(8, 1)]), (0, [(9, 1)]), (0, [(10, 1)]), (0, [(11, 1)])]), (36, [(0, [(0, 1)]), ((-1), [(1, 1)]), (47, []), (0, [(5, 1)]), (0, [(6, 1)])])])
def lm_585 : zLem := (lm_585p, [([((-2147483648), 2147483647), ((-2147483648), 2147483647), ((-2147483648), 2147483647), ((-2147483648), 2147483647), ((-2147483648), 2147483647), ((-2147483648), 2147483647), ((-9223372036854775808), 9223372036854775807), ((-2147483648), 2147483647), ((-2147483648), 2147483647), ((-2147483648), 2147483647), ((-2147483648), 2147483647), ((-2147483648), 2147483647)], [(1, false)], [], [], [], [], [(201, [(0, [(0, 1)]), (0, [(1, 1)]), (0, [(2, 1)]), (0, [])])])])
theorem lk_585 : l_core lm_585 := by
  first
  | skip
    intro v x h
    have K := k_cym_o (V := v) (n := x 0) (d := x 1) (l := x 2) (st := x 3) (op := x 4) (s := x 5) (v := x 6) (H := x 7) (L := x 8) (W := x 9) (P := x 10) (S := x 11) (l_c4 (fun w0 w1 w2 w3 : Int => q_cy (t_b v) (v 102) (v 103) (v 104) w0 w1 w2 w3) (l_e1 x 0) (l_q2 1 x 1) (l_e1 x 2) (l_e0 x (1)) (h.2.2.2.1)) (l_c10 (fun w0 w1 w2 w3 w4 w5 w6 w7 w8 w9 : Int => q_run2 (t_b v) w0 w1 w2 w3 w4 w5 w6 w7 w8 w9) (l_e1 x 0) (l_q2 1 x 1) (l_e1 x 3) (l_e0 x (1)) (l_e1 x 4) (l_e1 x 7) (l_e1 x 8) (l_e1 x 9) (l_e1 x 10) (l_e1 x 11) (h.2.2.2.2.1)) (l_c5 (fun w0 w1 w2 w3 w4 : Int => q_tok (t_b v) w0 w1 w2 w3 w4) (l_e1 x 0) (l_q2 1 x 1) (l_e0 x (47)) (l_e1 x 5) (l_e1 x 6) (h.2.2.2.2.2.1)) (l_cc (l_q1 400 x 1) (h.2.1.1)) (l_cc (l_q2 200 x 3) (h.2.1.2.1)) (l_cc (l_e1 x 4) (h.2.1.2.2.1))
    refine l_outH rfl (And.intro h.1 ?_)
    exact l_o4 (fun w0 w1 w2 w3 : Int => (True) ∧ (q_cy (t_b v) (v 102) (v 103) (v 104) w0 w1 w2 w3 ∧ True)) (l_e1 x 0) (l_e1 x 1) (l_e1 x 2) (l_e0 x (0)) K
  | skip
    intro v x h
    have C0 : (0 : Int) ≤ 400 - x 1 := l_cc (a := y_ev x (400, [(1, (-1))])) (by show ((400) : Int) + ((-1) * x 1 + 0) = 400 - x 1; omega) (h.2.1.1)
    have C1 : (0 : Int) ≤ x 3 - 200 := l_cc (a := y_ev x ((-200), [(3, 1)])) (by show ((-200) : Int) + ((1) * x 3 + 0) = x 3 - 200; omega) (h.2.1.2.1)
    have C2 : (0 : Int) ≤ x 4 := l_cc (a := y_ev x (0, [(4, 1)])) (l_e1 _ _) (h.2.1.2.2.1)
    have E0 : y_ev x (0, [(0, 1)]) = x 0 := (l_e1 _ _)
    have E1 : y_ev x ((-1), [(1, 1)]) = x 1 - 1 := (by show ((-1) : Int) + ((1) * x 1 + 0) = x 1 - 1; omega)
    have E2 : y_ev x (0, [(2, 1)]) = x 2 := (l_e1 _ _)
    have E3 : y_ev x (1, []) = 1 := (l_e0 _ _)
    have E4 : y_ev x (0, [(3, 1)]) = x 3 := (l_e1 _ _)
    have E5 : y_ev x (0, [(4, 1)]) = x 4 := (l_e1 _ _)
    have E6 : y_ev x (0, [(7, 1)]) = x 7 := (l_e1 _ _)
    have E7 : y_ev x (0, [(8, 1)]) = x 8 := (l_e1 _ _)
    have E8 : y_ev x (0, [(9, 1)]) = x 9 := (l_e1 _ _)
    have E9 : y_ev x (0, [(10, 1)]) = x 10 := (l_e1 _ _)
    have E10 : y_ev x (0, [(11, 1)]) = x 11 := (l_e1 _ _)
    have E11 : y_ev x (47, []) = 47 := (l_e0 _ _)
    have E12 : y_ev x (0, [(5, 1)]) = x 5 := (l_e1 _ _)
    have E13 : y_ev x (0, [(6, 1)]) = x 6 := (l_e1 _ _)
    have T0 : q_cy (t_b v) (v 102) (v 103) (v 104) (y_ev x (0, [(0, 1)])) (y_ev x ((-1), [(1, 1)])) (y_ev x (0, [(2, 1)])) (y_ev x (1, [])) := h.2.2.2.1
    (try rw [E0] at T0); (try rw [E1] at T0); (try rw [E2] at T0); (try rw [E3] at T0)
    have T1 : q_run2 (t_b v) (y_ev x (0, [(0, 1)])) (y_ev x ((-1), [(1, 1)])) (y_ev x (0, [(3, 1)])) (y_ev x (1, [])) (y_ev x (0, [(4, 1)])) (y_ev x (0, [(7, 1)])) (y_ev x (0, [(8, 1)])) (y_ev x (0, [(9, 1)])) (y_ev x (0, [(10, 1)])) (y_ev x (0, [(11, 1)])) := h.2.2.2.2.1
    (try rw [E0] at T1); (try rw [E1] at T1); (try rw [E4] at T1); (try rw [E3] at T1); (try rw [E5] at T1); (try rw [E6] at T1); (try rw [E7] at T1); (try rw [E8] at T1); (try rw [E9] at T1); (try rw [E10] at T1)
    have T2 : q_tok (t_b v) (y_ev x (0, [(0, 1)])) (y_ev x ((-1), [(1, 1)])) (y_ev x (47, [])) (y_ev x (0, [(5, 1)])) (y_ev x (0, [(6, 1)])) := h.2.2.2.2.2.1
    (try rw [E0] at T2); (try rw [E1] at T2); (try rw [E11] at T2); (try rw [E12] at T2); (try rw [E13] at T2)
    have K := k_cym_o (V := v) (n := x 0) (d := x 1) (l := x 2) (st := x 3) (op := x 4) (s := x 5) (v := x 6) (H := x 7) (L := x 8) (W := x 9) (P := x 10) (S := x 11) T0 T1 T2 C0 C1 C2
    refine l_outH rfl (And.intro h.1 ?_)
    have O0 : y_ev x (0, [(0, 1)]) = x 0 := l_e1 _ _
    have O1 : y_ev x (0, [(1, 1)]) = x 1 := l_e1 _ _
    have O2 : y_ev x (0, [(2, 1)]) = x 2 := l_e1 _ _
    have O3 : y_ev x (0, []) = 0 := l_e0 _ _
    show (True) ∧ (q_cy (t_b v) (v 102) (v 103) (v 104) (y_ev x (0, [(0, 1)])) (y_ev x (0, [(1, 1)])) (y_ev x (0, [(2, 1)])) (y_ev x (0, [])) ∧ True)
    (try rw [O0]); (try rw [O1]); (try rw [O2]); (try rw [O3])
    exact K
def lm_586pg_0 (t : List zTg) : List zTg := (207, [(0, [(0, 1)]), (0, [(1, 1)]), (0, [(2, 1)])]) :: (36, [(0, [(0, 1)]), (0, [(2, 1)]), (47, []), (0, [(5, 1)]), (0, [(6, 1)])]) :: (40, [(0, [(0, 1)]), (0, [(2, 1)]), (0, [(7, 1)]), (1, []), (0, [(8, 1)]), (0, [(9, 1)]), (0, [(10, 1)]), (0, [(11, 1)]), (0, [(12, 1)]), (0, [(13, 1)])]) :: (206, [(0, [(0, 1)]), (1, [(2, 1)]), (0, [(3, 1)])]) :: (201, [(0, [(0, 1)]), (0, [(3, 1)]), ((-1), [(4, 1)]), (0, [])]) :: t
def lm_586p : zS := ((lm_584pi_0 (lm_584pi_1 [])), [(1, false), (101, false), (102, false), (103, false)], [((-200), [(7, 1)]), (0, [(8, 1)])], [], [], [(0, (false, 4, 0, []), 0, 0, 0, [(3, 1)]), (1, (false, 4, 0, []), 0, 0, 0, [(4, 1)]), (2, (true, 0, (-1), [(4, 1)]), 0, 0, 5, []), (3, (true, 0, (-1), [(4, 1)]), 0, 0, 0, [])], (lm_586pg_0 []))
def lm_586 : zLem := (lm_586p, [([((-2147483648), 2147483647), ((-2147483648), 2147483647), ((-2147483648), 2147483647), ((-2147483648), 2147483647), ((-2147483648), 2147483647), ((-2147483648), 2147483647), ((-9223372036854775808), 9223372036854775807), ((-2147483648), 2147483647), ((-2147483648), 2147483647), ((-2147483648), 2147483647), ((-2147483648), 2147483647), ((-2147483648), 2147483647), ((-2147483648), 2147483647), ((-2147483648), 2147483647)], [(1, false), (101, false), (102, false), (103, false)], [], [], [], [], [(201, [(0, [(0, 1)]), (0, [(3, 1)]), (0, [(4, 1)]), (1, [])]), (207, [(0, [(0, 1)]), (0, [(1, 1)]), (0, [(3, 1)])])])])
theorem lk_586 : l_core lm_586 := by
  first
  | skip
    intro v x h
    have G0 := h.2.2.1
    have G1 := G0.2
    have G2 := G1.2
    have G3 := G2.2
    have K := k_pexS_o (V := v) (n := x 0) (c := x 1) (e := x 2) (d := x 3) (l := x 4) (s := x 5) (v := x 6) (st := x 7) (op := x 8) (H := x 9) (L := x 10) (W := x 11) (P := x 12) (S := x 13) (l_c3 (fun w0 w1 w2 : Int => q_pex (t_b v) w0 w1 w2) (l_e1 x 0) (l_e1 x 1) (l_e1 x 2) (h.2.2.2.1)) (l_c5 (fun w0 w1 w2 w3 w4 : Int => q_tok (t_b v) w0 w1 w2 w3 w4) (l_e1 x 0) (l_e1 x 2) (l_e0 x (47)) (l_e1 x 5) (l_e1 x 6) (h.2.2.2.2.1)) (l_c10 (fun w0 w1 w2 w3 w4 w5 w6 w7 w8 w9 : Int => q_run2 (t_b v) w0 w1 w2 w3 w4 w5 w6 w7 w8 w9) (l_e1 x 0) (l_e1 x 2) (l_e1 x 7) (l_e0 x (1)) (l_e1 x 8) (l_e1 x 9) (l_e1 x 10) (l_e1 x 11) (l_e1 x 12) (l_e1 x 13) (h.2.2.2.2.2.1)) (l_c3 (fun w0 w1 w2 : Int => q_uex (t_b v) w0 w1 w2) (l_e1 x 0) (l_q3 1 x 2) (l_e1 x 3) (h.2.2.2.2.2.2.1)) (l_c4 (fun w0 w1 w2 w3 : Int => q_cy (t_b v) (v 102) (v 103) (v 104) w0 w1 w2 w3) (l_e1 x 0) (l_e1 x 3) (l_q2 1 x 4) (l_e0 x (0)) (h.2.2.2.2.2.2.2.1)) (l_cc (l_q2 200 x 7) (h.2.1.1)) (l_cc (l_e1 x 8) (h.2.1.2.1)) (l_ff (f := v 102) (L := j_len 102) (l_q2 1 x 4) (l_e0 x (5)) (G2.1.1)) (l_ff (f := v 103) (L := j_len 103) (l_q2 1 x 4) (l_e0 x (0)) (G3.1.1))
    refine l_outH rfl (And.intro h.1 ?_)
    exact l_o5 (fun w0 w1 w2 w3 w4 : Int => (True) ∧ (q_cy (t_b v) (v 102) (v 103) (v 104) w0 w1 w2 w3 ∧ q_pex (t_b v) w0 w4 w1 ∧ True)) (l_e1 x 0) (l_e1 x 3) (l_e1 x 4) (l_e0 x (1)) (l_e1 x 1) K
  | skip
    intro v x h
    have G0 := h.2.2.1
    have G1 := G0.2
    have G2 := G1.2
    have G3 := G2.2
    have C0 : (0 : Int) ≤ x 7 - 200 := l_cc (a := y_ev x ((-200), [(7, 1)])) (by show ((-200) : Int) + ((1) * x 7 + 0) = x 7 - 200; omega) (h.2.1.1)
    have C1 : (0 : Int) ≤ x 8 := l_cc (a := y_ev x (0, [(8, 1)])) (l_e1 _ _) (h.2.1.2.1)
    have F0 : (0 : Int) ≤ x 4 - 1 ∧ (x 4 - 1 : Int) < j_len 102 ∧ v 102 (x 4 - 1) = 5 := l_ff (f := v 102) (L := j_len 102) (a := y_ev x ((-1), [(4, 1)])) (b := y_ev x (5, [])) (by show ((-1) : Int) + ((1) * x 4 + 0) = x 4 - 1; omega) (l_e0 _ _) (G2.1.1)
    have F1 : (0 : Int) ≤ x 4 - 1 ∧ (x 4 - 1 : Int) < j_len 103 ∧ v 103 (x 4 - 1) = 0 := l_ff (f := v 103) (L := j_len 103) (a := y_ev x ((-1), [(4, 1)])) (b := y_ev x (0, [])) (by show ((-1) : Int) + ((1) * x 4 + 0) = x 4 - 1; omega) (l_e0 _ _) (G3.1.1)
    have E0 : y_ev x (0, [(0, 1)]) = x 0 := (l_e1 _ _)
    have E1 : y_ev x (0, [(1, 1)]) = x 1 := (l_e1 _ _)
    have E2 : y_ev x (0, [(2, 1)]) = x 2 := (l_e1 _ _)
    have E3 : y_ev x (47, []) = 47 := (l_e0 _ _)
    have E4 : y_ev x (0, [(5, 1)]) = x 5 := (l_e1 _ _)
    have E5 : y_ev x (0, [(6, 1)]) = x 6 := (l_e1 _ _)
    have E6 : y_ev x (0, [(7, 1)]) = x 7 := (l_e1 _ _)
    have E7 : y_ev x (1, []) = 1 := (l_e0 _ _)
    have E8 : y_ev x (0, [(8, 1)]) = x 8 := (l_e1 _ _)
    have E9 : y_ev x (0, [(9, 1)]) = x 9 := (l_e1 _ _)
    have E10 : y_ev x (0, [(10, 1)]) = x 10 := (l_e1 _ _)
    have E11 : y_ev x (0, [(11, 1)]) = x 11 := (l_e1 _ _)
    have E12 : y_ev x (0, [(12, 1)]) = x 12 := (l_e1 _ _)
    have E13 : y_ev x (0, [(13, 1)]) = x 13 := (l_e1 _ _)
    have E14 : y_ev x (1, [(2, 1)]) = x 2 + 1 := (by show ((1) : Int) + ((1) * x 2 + 0) = x 2 + 1; omega)
    have E15 : y_ev x (0, [(3, 1)]) = x 3 := (l_e1 _ _)
    have E16 : y_ev x ((-1), [(4, 1)]) = x 4 - 1 := (by show ((-1) : Int) + ((1) * x 4 + 0) = x 4 - 1; omega)
    have E17 : y_ev x (0, []) = 0 := (l_e0 _ _)
    have T0 : q_pex (t_b v) (y_ev x (0, [(0, 1)])) (y_ev x (0, [(1, 1)])) (y_ev x (0, [(2, 1)])) := h.2.2.2.1
    (try rw [E0] at T0); (try rw [E1] at T0); (try rw [E2] at T0)
    have T1 : q_tok (t_b v) (y_ev x (0, [(0, 1)])) (y_ev x (0, [(2, 1)])) (y_ev x (47, [])) (y_ev x (0, [(5, 1)])) (y_ev x (0, [(6, 1)])) := h.2.2.2.2.1
    (try rw [E0] at T1); (try rw [E2] at T1); (try rw [E3] at T1); (try rw [E4] at T1); (try rw [E5] at T1)
    have T2 : q_run2 (t_b v) (y_ev x (0, [(0, 1)])) (y_ev x (0, [(2, 1)])) (y_ev x (0, [(7, 1)])) (y_ev x (1, [])) (y_ev x (0, [(8, 1)])) (y_ev x (0, [(9, 1)])) (y_ev x (0, [(10, 1)])) (y_ev x (0, [(11, 1)])) (y_ev x (0, [(12, 1)])) (y_ev x (0, [(13, 1)])) := h.2.2.2.2.2.1
    (try rw [E0] at T2); (try rw [E2] at T2); (try rw [E6] at T2); (try rw [E7] at T2); (try rw [E8] at T2); (try rw [E9] at T2); (try rw [E10] at T2); (try rw [E11] at T2); (try rw [E12] at T2); (try rw [E13] at T2)
    have T3 : q_uex (t_b v) (y_ev x (0, [(0, 1)])) (y_ev x (1, [(2, 1)])) (y_ev x (0, [(3, 1)])) := h.2.2.2.2.2.2.1
    (try rw [E0] at T3); (try rw [E14] at T3); (try rw [E15] at T3)
    have T4 : q_cy (t_b v) (v 102) (v 103) (v 104) (y_ev x (0, [(0, 1)])) (y_ev x (0, [(3, 1)])) (y_ev x ((-1), [(4, 1)])) (y_ev x (0, [])) := h.2.2.2.2.2.2.2.1
    (try rw [E0] at T4); (try rw [E15] at T4); (try rw [E16] at T4); (try rw [E17] at T4)
    have K := k_pexS_o (V := v) (n := x 0) (c := x 1) (e := x 2) (d := x 3) (l := x 4) (s := x 5) (v := x 6) (st := x 7) (op := x 8) (H := x 9) (L := x 10) (W := x 11) (P := x 12) (S := x 13) T0 T1 T2 T3 T4 C0 C1 F0 F1
    refine l_outH rfl (And.intro h.1 ?_)
    have O0 : y_ev x (0, [(0, 1)]) = x 0 := l_e1 _ _
    have O1 : y_ev x (0, [(3, 1)]) = x 3 := l_e1 _ _
    have O2 : y_ev x (0, [(4, 1)]) = x 4 := l_e1 _ _
    have O3 : y_ev x (1, []) = 1 := l_e0 _ _
    have O4 : y_ev x (0, [(1, 1)]) = x 1 := l_e1 _ _
    show (True) ∧ (q_cy (t_b v) (v 102) (v 103) (v 104) (y_ev x (0, [(0, 1)])) (y_ev x (0, [(3, 1)])) (y_ev x (0, [(4, 1)])) (y_ev x (1, [])) ∧ q_pex (t_b v) (y_ev x (0, [(0, 1)])) (y_ev x (0, [(1, 1)])) (y_ev x (0, [(3, 1)])) ∧ True)
    (try rw [O0]); (try rw [O1]); (try rw [O2]); (try rw [O3]); (try rw [O4])
    exact K
def lm_587 : zLem := (([((-2147483648), 2147483647), ((-2147483648), 2147483647)], [(1, false)], [], [], [], [(0, (false, 4, 0, []), 0, 0, 0, [(1, 1)])], [(209, [(0, [(0, 1)]), (0, [(1, 1)])])]), [([((-2147483648), 2147483647), ((-2147483648), 2147483647)], [(1, false)], [], [], [], [], [(210, [(0, [(0, 1)]), (0, [(1, 1)])])])])
theorem lk_587 : l_core lm_587 := by
  first
  | skip
    intro v x h
    have K := k_otw (V := v) (n := x 0) (c := x 1) (l_c2 (fun w0 w1 : Int => p_A (p_w (t_b v) w0 w1) = []) (l_e1 x 0) (l_e1 x 1) (h.2.2.2.1))
    refine l_outH rfl (And.intro h.1 ?_)
    exact l_o2 (fun w0 w1 : Int => (True) ∧ ((p_S (p_w (t_b v) w0 w1) = []) ∧ True)) (l_e1 x 0) (l_e1 x 1) K
  | skip
    intro v x h
    have E0 : y_ev x (0, [(0, 1)]) = x 0 := (l_e1 _ _)
    have E1 : y_ev x (0, [(1, 1)]) = x 1 := (l_e1 _ _)
    have T0 : p_A (p_w (t_b v) (y_ev x (0, [(0, 1)])) (y_ev x (0, [(1, 1)]))) = [] := h.2.2.2.1
    (try rw [E0] at T0); (try rw [E1] at T0)
    have K := k_otw (V := v) (n := x 0) (c := x 1) T0
    refine l_outH rfl (And.intro h.1 ?_)
    have O0 : y_ev x (0, [(0, 1)]) = x 0 := l_e1 _ _
    have O1 : y_ev x (0, [(1, 1)]) = x 1 := l_e1 _ _
    show (True) ∧ ((p_S (p_w (t_b v) (y_ev x (0, [(0, 1)])) (y_ev x (0, [(1, 1)]))) = []) ∧ True)
    (try rw [O0]); (try rw [O1])
    exact K
def lm_588 : zLem := (([((-2147483648), 2147483647), ((-2147483648), 2147483647), ((-2147483648), 2147483647), ((-2147483648), 2147483647)], [(1, false)], [], [], [], [(0, (false, 4, 0, []), 0, 0, 0, [(2, 1)])], [(209, [(0, [(0, 1)]), (0, [(1, 1)])]), (207, [(0, [(0, 1)]), (0, [(1, 1)]), (0, [(2, 1)])]), (201, [(0, [(0, 1)]), (0, [(2, 1)]), (0, [(3, 1)]), (1, [])])]), [([((-2147483648), 2147483647), ((-2147483648), 2147483647), ((-2147483648), 2147483647), ((-2147483648), 2147483647)], [(1, false)], [], [], [], [], [(201, [(0, [(0, 1)]), (0, [(2, 1)]), (0, [(3, 1)]), (2, [])]), (208, [(0, [(0, 1)]), (0, [(1, 1)]), (0, [(2, 1)])])])])
theorem lk_588 : l_core lm_588 := by
  first
  | skip
    intro v x h
    have K := k_eex0 (V := v) (n := x 0) (c := x 1) (d := x 2) (l := x 3) (l_c2 (fun w0 w1 : Int => p_A (p_w (t_b v) w0 w1) = []) (l_e1 x 0) (l_e1 x 1) (h.2.2.2.1)) (l_c3 (fun w0 w1 w2 : Int => q_pex (t_b v) w0 w1 w2) (l_e1 x 0) (l_e1 x 1) (l_e1 x 2) (h.2.2.2.2.1)) (l_c4 (fun w0 w1 w2 w3 : Int => q_cy (t_b v) (v 102) (v 103) (v 104) w0 w1 w2 w3) (l_e1 x 0) (l_e1 x 2) (l_e1 x 3) (l_e0 x (1)) (h.2.2.2.2.2.1))
    refine l_outH rfl (And.intro h.1 ?_)
    exact l_o5 (fun w0 w1 w2 w3 w4 : Int => (True) ∧ (q_cy (t_b v) (v 102) (v 103) (v 104) w0 w1 w2 w3 ∧ q_eex (t_b v) w0 w4 w1 ∧ True)) (l_e1 x 0) (l_e1 x 2) (l_e1 x 3) (l_e0 x (2)) (l_e1 x 1) K
  | skip
    intro v x h
    have E0 : y_ev x (0, [(0, 1)]) = x 0 := (l_e1 _ _)
    have E1 : y_ev x (0, [(1, 1)]) = x 1 := (l_e1 _ _)
    have E2 : y_ev x (0, [(2, 1)]) = x 2 := (l_e1 _ _)
    have E3 : y_ev x (0, [(3, 1)]) = x 3 := (l_e1 _ _)
    have E4 : y_ev x (1, []) = 1 := (l_e0 _ _)
    have T0 : p_A (p_w (t_b v) (y_ev x (0, [(0, 1)])) (y_ev x (0, [(1, 1)]))) = [] := h.2.2.2.1
    (try rw [E0] at T0); (try rw [E1] at T0)
    have T1 : q_pex (t_b v) (y_ev x (0, [(0, 1)])) (y_ev x (0, [(1, 1)])) (y_ev x (0, [(2, 1)])) := h.2.2.2.2.1
    (try rw [E0] at T1); (try rw [E1] at T1); (try rw [E2] at T1)
    have T2 : q_cy (t_b v) (v 102) (v 103) (v 104) (y_ev x (0, [(0, 1)])) (y_ev x (0, [(2, 1)])) (y_ev x (0, [(3, 1)])) (y_ev x (1, [])) := h.2.2.2.2.2.1
    (try rw [E0] at T2); (try rw [E2] at T2); (try rw [E3] at T2); (try rw [E4] at T2)
    have K := k_eex0 (V := v) (n := x 0) (c := x 1) (d := x 2) (l := x 3) T0 T1 T2
    refine l_outH rfl (And.intro h.1 ?_)
    have O0 : y_ev x (0, [(0, 1)]) = x 0 := l_e1 _ _
    have O1 : y_ev x (0, [(2, 1)]) = x 2 := l_e1 _ _
    have O2 : y_ev x (0, [(3, 1)]) = x 3 := l_e1 _ _
    have O3 : y_ev x (2, []) = 2 := l_e0 _ _
    have O4 : y_ev x (0, [(1, 1)]) = x 1 := l_e1 _ _
    show (True) ∧ (q_cy (t_b v) (v 102) (v 103) (v 104) (y_ev x (0, [(0, 1)])) (y_ev x (0, [(2, 1)])) (y_ev x (0, [(3, 1)])) (y_ev x (2, [])) ∧ q_eex (t_b v) (y_ev x (0, [(0, 1)])) (y_ev x (0, [(1, 1)])) (y_ev x (0, [(2, 1)])) ∧ True)
    (try rw [O0]); (try rw [O1]); (try rw [O2]); (try rw [O3]); (try rw [O4])
    exact K
def lm_589p : zS := ((lm_577pi_0 (lm_577pi_1 [])), [(1, false)], [(400, [(1, (-1))]), ((-200), [(3, 1)]), (0, [(4, 1)])], [], [], [(0, (false, 4, 0, []), 0, 0, 0, [(1, 1)])], [(201, [(0, [(0, 1)]), ((-1), [(1, 1)]), (0, [(2, 1)]), (2, [])]), (40, [(0, [(0, 1)]), ((-1), [(1, 1)]), (0, [(3, 1)]), (1, []), (0, [(4, 1)]), (0, [(7, 1)]), (0, [(8, 1)]), (0, [(9, 1)]), (0, [(10, 1)]), (0, [(11, 1)])]), (36, [(0, [(0, 1)]), ((-1), [(1, 1)]), (43, []), (0, [(5, 1)]), (0, [(6, 1)])])])
def lm_589 : zLem := (lm_589p, [([((-2147483648), 2147483647), ((-2147483648), 2147483647), ((-2147483648), 2147483647), ((-2147483648), 2147483647), ((-2147483648), 2147483647), ((-2147483648), 2147483647), ((-9223372036854775808), 9223372036854775807), ((-2147483648), 2147483647), ((-2147483648), 2147483647), ((-2147483648), 2147483647), ((-2147483648), 2147483647), ((-2147483648), 2147483647)], [(1, false)], [], [], [], [], [(201, [(0, [(0, 1)]), (0, [(1, 1)]), (0, [(2, 1)]), (0, [])]), (210, [(0, [(0, 1)]), (0, [(1, 1)])])])])
theorem lk_589 : l_core lm_589 := by
  first
  | skip
    intro v x h
    have K := k_cyp_p (V := v) (n := x 0) (d := x 1) (l := x 2) (st := x 3) (op := x 4) (s := x 5) (v := x 6) (H := x 7) (L := x 8) (W := x 9) (P := x 10) (S := x 11) (l_c4 (fun w0 w1 w2 w3 : Int => q_cy (t_b v) (v 102) (v 103) (v 104) w0 w1 w2 w3) (l_e1 x 0) (l_q2 1 x 1) (l_e1 x 2) (l_e0 x (2)) (h.2.2.2.1)) (l_c10 (fun w0 w1 w2 w3 w4 w5 w6 w7 w8 w9 : Int => q_run2 (t_b v) w0 w1 w2 w3 w4 w5 w6 w7 w8 w9) (l_e1 x 0) (l_q2 1 x 1) (l_e1 x 3) (l_e0 x (1)) (l_e1 x 4) (l_e1 x 7) (l_e1 x 8) (l_e1 x 9) (l_e1 x 10) (l_e1 x 11) (h.2.2.2.2.1)) (l_c5 (fun w0 w1 w2 w3 w4 : Int => q_tok (t_b v) w0 w1 w2 w3 w4) (l_e1 x 0) (l_q2 1 x 1) (l_e0 x (43)) (l_e1 x 5) (l_e1 x 6) (h.2.2.2.2.2.1)) (l_cc (l_q1 400 x 1) (h.2.1.1)) (l_cc (l_q2 200 x 3) (h.2.1.2.1)) (l_cc (l_e1 x 4) (h.2.1.2.2.1))
    refine l_outH rfl (And.intro h.1 ?_)
    exact l_o4 (fun w0 w1 w2 w3 : Int => (True) ∧ (q_cy (t_b v) (v 102) (v 103) (v 104) w0 w1 w2 w3 ∧ (p_S (p_w (t_b v) w0 w1) = []) ∧ True)) (l_e1 x 0) (l_e1 x 1) (l_e1 x 2) (l_e0 x (0)) K
  | skip
    intro v x h
    have C0 : (0 : Int) ≤ 400 - x 1 := l_cc (a := y_ev x (400, [(1, (-1))])) (by show ((400) : Int) + ((-1) * x 1 + 0) = 400 - x 1; omega) (h.2.1.1)
    have C1 : (0 : Int) ≤ x 3 - 200 := l_cc (a := y_ev x ((-200), [(3, 1)])) (by show ((-200) : Int) + ((1) * x 3 + 0) = x 3 - 200; omega) (h.2.1.2.1)
    have C2 : (0 : Int) ≤ x 4 := l_cc (a := y_ev x (0, [(4, 1)])) (l_e1 _ _) (h.2.1.2.2.1)
    have E0 : y_ev x (0, [(0, 1)]) = x 0 := (l_e1 _ _)
    have E1 : y_ev x ((-1), [(1, 1)]) = x 1 - 1 := (by show ((-1) : Int) + ((1) * x 1 + 0) = x 1 - 1; omega)
    have E2 : y_ev x (0, [(2, 1)]) = x 2 := (l_e1 _ _)
    have E3 : y_ev x (2, []) = 2 := (l_e0 _ _)
    have E4 : y_ev x (0, [(3, 1)]) = x 3 := (l_e1 _ _)
    have E5 : y_ev x (1, []) = 1 := (l_e0 _ _)
    have E6 : y_ev x (0, [(4, 1)]) = x 4 := (l_e1 _ _)
    have E7 : y_ev x (0, [(7, 1)]) = x 7 := (l_e1 _ _)
    have E8 : y_ev x (0, [(8, 1)]) = x 8 := (l_e1 _ _)
    have E9 : y_ev x (0, [(9, 1)]) = x 9 := (l_e1 _ _)
    have E10 : y_ev x (0, [(10, 1)]) = x 10 := (l_e1 _ _)
    have E11 : y_ev x (0, [(11, 1)]) = x 11 := (l_e1 _ _)
    have E12 : y_ev x (43, []) = 43 := (l_e0 _ _)
    have E13 : y_ev x (0, [(5, 1)]) = x 5 := (l_e1 _ _)
    have E14 : y_ev x (0, [(6, 1)]) = x 6 := (l_e1 _ _)
    have T0 : q_cy (t_b v) (v 102) (v 103) (v 104) (y_ev x (0, [(0, 1)])) (y_ev x ((-1), [(1, 1)])) (y_ev x (0, [(2, 1)])) (y_ev x (2, [])) := h.2.2.2.1
    (try rw [E0] at T0); (try rw [E1] at T0); (try rw [E2] at T0); (try rw [E3] at T0)
    have T1 : q_run2 (t_b v) (y_ev x (0, [(0, 1)])) (y_ev x ((-1), [(1, 1)])) (y_ev x (0, [(3, 1)])) (y_ev x (1, [])) (y_ev x (0, [(4, 1)])) (y_ev x (0, [(7, 1)])) (y_ev x (0, [(8, 1)])) (y_ev x (0, [(9, 1)])) (y_ev x (0, [(10, 1)])) (y_ev x (0, [(11, 1)])) := h.2.2.2.2.1
    (try rw [E0] at T1); (try rw [E1] at T1); (try rw [E4] at T1); (try rw [E5] at T1); (try rw [E6] at T1); (try rw [E7] at T1); (try rw [E8] at T1); (try rw [E9] at T1); (try rw [E10] at T1); (try rw [E11] at T1)
    have T2 : q_tok (t_b v) (y_ev x (0, [(0, 1)])) (y_ev x ((-1), [(1, 1)])) (y_ev x (43, [])) (y_ev x (0, [(5, 1)])) (y_ev x (0, [(6, 1)])) := h.2.2.2.2.2.1
    (try rw [E0] at T2); (try rw [E1] at T2); (try rw [E12] at T2); (try rw [E13] at T2); (try rw [E14] at T2)
    have K := k_cyp_p (V := v) (n := x 0) (d := x 1) (l := x 2) (st := x 3) (op := x 4) (s := x 5) (v := x 6) (H := x 7) (L := x 8) (W := x 9) (P := x 10) (S := x 11) T0 T1 T2 C0 C1 C2
    refine l_outH rfl (And.intro h.1 ?_)
    have O0 : y_ev x (0, [(0, 1)]) = x 0 := l_e1 _ _
    have O1 : y_ev x (0, [(1, 1)]) = x 1 := l_e1 _ _
    have O2 : y_ev x (0, [(2, 1)]) = x 2 := l_e1 _ _
    have O3 : y_ev x (0, []) = 0 := l_e0 _ _
    show (True) ∧ (q_cy (t_b v) (v 102) (v 103) (v 104) (y_ev x (0, [(0, 1)])) (y_ev x (0, [(1, 1)])) (y_ev x (0, [(2, 1)])) (y_ev x (0, [])) ∧ (p_S (p_w (t_b v) (y_ev x (0, [(0, 1)])) (y_ev x (0, [(1, 1)]))) = []) ∧ True)
    (try rw [O0]); (try rw [O1]); (try rw [O2]); (try rw [O3])
    exact K
def lm_590pg_0 (t : List zTg) : List zTg := (208, [(0, [(0, 1)]), (0, [(1, 1)]), (0, [(2, 1)])]) :: (36, [(0, [(0, 1)]), (0, [(2, 1)]), (43, []), (0, [(5, 1)]), (0, [(6, 1)])]) :: (40, [(0, [(0, 1)]), (0, [(2, 1)]), (0, [(7, 1)]), (1, []), (0, [(8, 1)]), (0, [(9, 1)]), (0, [(10, 1)]), (0, [(11, 1)]), (0, [(12, 1)]), (0, [(13, 1)])]) :: (207, [(0, [(0, 1)]), (1, [(2, 1)]), (0, [(3, 1)])]) :: (201, [(0, [(0, 1)]), (0, [(3, 1)]), ((-1), [(4, 1)]), (1, [])]) :: t
def lm_590p : zS := ((lm_584pi_0 (lm_584pi_1 [])), [(1, false), (101, false), (102, false), (103, false)], [((-200), [(7, 1)]), (0, [(8, 1)])], [], [], [(0, (false, 4, 0, []), 0, 0, 0, [(3, 1)]), (1, (false, 4, 0, []), 0, 0, 0, [(4, 1)]), (2, (true, 0, (-1), [(4, 1)]), 0, 0, 2, []), (3, (true, 0, (-1), [(4, 1)]), 0, 0, 0, [])], (lm_590pg_0 []))
def lm_590 : zLem := (lm_590p, [([((-2147483648), 2147483647), ((-2147483648), 2147483647), ((-2147483648), 2147483647), ((-2147483648), 2147483647), ((-2147483648), 2147483647), ((-2147483648), 2147483647), ((-9223372036854775808), 9223372036854775807), ((-2147483648), 2147483647), ((-2147483648), 2147483647), ((-2147483648), 2147483647), ((-2147483648), 2147483647), ((-2147483648), 2147483647), ((-2147483648), 2147483647), ((-2147483648), 2147483647)], [(1, false), (101, false), (102, false), (103, false)], [], [], [], [], [(201, [(0, [(0, 1)]), (0, [(3, 1)]), (0, [(4, 1)]), (2, [])]), (208, [(0, [(0, 1)]), (0, [(1, 1)]), (0, [(3, 1)])])])])
theorem lk_590 : l_core lm_590 := by
  first
  | skip
    intro v x h
    have G0 := h.2.2.1
    have G1 := G0.2
    have G2 := G1.2
    have G3 := G2.2
    have K := k_eexS_p (V := v) (n := x 0) (c := x 1) (e := x 2) (d := x 3) (l := x 4) (s := x 5) (v := x 6) (st := x 7) (op := x 8) (H := x 9) (L := x 10) (W := x 11) (P := x 12) (S := x 13) (l_c3 (fun w0 w1 w2 : Int => q_eex (t_b v) w0 w1 w2) (l_e1 x 0) (l_e1 x 1) (l_e1 x 2) (h.2.2.2.1)) (l_c5 (fun w0 w1 w2 w3 w4 : Int => q_tok (t_b v) w0 w1 w2 w3 w4) (l_e1 x 0) (l_e1 x 2) (l_e0 x (43)) (l_e1 x 5) (l_e1 x 6) (h.2.2.2.2.1)) (l_c10 (fun w0 w1 w2 w3 w4 w5 w6 w7 w8 w9 : Int => q_run2 (t_b v) w0 w1 w2 w3 w4 w5 w6 w7 w8 w9) (l_e1 x 0) (l_e1 x 2) (l_e1 x 7) (l_e0 x (1)) (l_e1 x 8) (l_e1 x 9) (l_e1 x 10) (l_e1 x 11) (l_e1 x 12) (l_e1 x 13) (h.2.2.2.2.2.1)) (l_c3 (fun w0 w1 w2 : Int => q_pex (t_b v) w0 w1 w2) (l_e1 x 0) (l_q3 1 x 2) (l_e1 x 3) (h.2.2.2.2.2.2.1)) (l_c4 (fun w0 w1 w2 w3 : Int => q_cy (t_b v) (v 102) (v 103) (v 104) w0 w1 w2 w3) (l_e1 x 0) (l_e1 x 3) (l_q2 1 x 4) (l_e0 x (1)) (h.2.2.2.2.2.2.2.1)) (l_cc (l_q2 200 x 7) (h.2.1.1)) (l_cc (l_e1 x 8) (h.2.1.2.1)) (l_ff (f := v 102) (L := j_len 102) (l_q2 1 x 4) (l_e0 x (2)) (G2.1.1)) (l_ff (f := v 103) (L := j_len 103) (l_q2 1 x 4) (l_e0 x (0)) (G3.1.1))
    refine l_outH rfl (And.intro h.1 ?_)
    exact l_o5 (fun w0 w1 w2 w3 w4 : Int => (True) ∧ (q_cy (t_b v) (v 102) (v 103) (v 104) w0 w1 w2 w3 ∧ q_eex (t_b v) w0 w4 w1 ∧ True)) (l_e1 x 0) (l_e1 x 3) (l_e1 x 4) (l_e0 x (2)) (l_e1 x 1) K
  | skip
    intro v x h
    have G0 := h.2.2.1
    have G1 := G0.2
    have G2 := G1.2
    have G3 := G2.2
    have C0 : (0 : Int) ≤ x 7 - 200 := l_cc (a := y_ev x ((-200), [(7, 1)])) (by show ((-200) : Int) + ((1) * x 7 + 0) = x 7 - 200; omega) (h.2.1.1)
    have C1 : (0 : Int) ≤ x 8 := l_cc (a := y_ev x (0, [(8, 1)])) (l_e1 _ _) (h.2.1.2.1)
    have F0 : (0 : Int) ≤ x 4 - 1 ∧ (x 4 - 1 : Int) < j_len 102 ∧ v 102 (x 4 - 1) = 2 := l_ff (f := v 102) (L := j_len 102) (a := y_ev x ((-1), [(4, 1)])) (b := y_ev x (2, [])) (by show ((-1) : Int) + ((1) * x 4 + 0) = x 4 - 1; omega) (l_e0 _ _) (G2.1.1)
    have F1 : (0 : Int) ≤ x 4 - 1 ∧ (x 4 - 1 : Int) < j_len 103 ∧ v 103 (x 4 - 1) = 0 := l_ff (f := v 103) (L := j_len 103) (a := y_ev x ((-1), [(4, 1)])) (b := y_ev x (0, [])) (by show ((-1) : Int) + ((1) * x 4 + 0) = x 4 - 1; omega) (l_e0 _ _) (G3.1.1)
    have E0 : y_ev x (0, [(0, 1)]) = x 0 := (l_e1 _ _)
    have E1 : y_ev x (0, [(1, 1)]) = x 1 := (l_e1 _ _)
    have E2 : y_ev x (0, [(2, 1)]) = x 2 := (l_e1 _ _)
    have E3 : y_ev x (43, []) = 43 := (l_e0 _ _)
    have E4 : y_ev x (0, [(5, 1)]) = x 5 := (l_e1 _ _)
    have E5 : y_ev x (0, [(6, 1)]) = x 6 := (l_e1 _ _)
    have E6 : y_ev x (0, [(7, 1)]) = x 7 := (l_e1 _ _)
    have E7 : y_ev x (1, []) = 1 := (l_e0 _ _)
    have E8 : y_ev x (0, [(8, 1)]) = x 8 := (l_e1 _ _)
    have E9 : y_ev x (0, [(9, 1)]) = x 9 := (l_e1 _ _)
    have E10 : y_ev x (0, [(10, 1)]) = x 10 := (l_e1 _ _)
    have E11 : y_ev x (0, [(11, 1)]) = x 11 := (l_e1 _ _)
    have E12 : y_ev x (0, [(12, 1)]) = x 12 := (l_e1 _ _)
    have E13 : y_ev x (0, [(13, 1)]) = x 13 := (l_e1 _ _)
    have E14 : y_ev x (1, [(2, 1)]) = x 2 + 1 := (by show ((1) : Int) + ((1) * x 2 + 0) = x 2 + 1; omega)
    have E15 : y_ev x (0, [(3, 1)]) = x 3 := (l_e1 _ _)
    have E16 : y_ev x ((-1), [(4, 1)]) = x 4 - 1 := (by show ((-1) : Int) + ((1) * x 4 + 0) = x 4 - 1; omega)
    have T0 : q_eex (t_b v) (y_ev x (0, [(0, 1)])) (y_ev x (0, [(1, 1)])) (y_ev x (0, [(2, 1)])) := h.2.2.2.1
    (try rw [E0] at T0); (try rw [E1] at T0); (try rw [E2] at T0)
    have T1 : q_tok (t_b v) (y_ev x (0, [(0, 1)])) (y_ev x (0, [(2, 1)])) (y_ev x (43, [])) (y_ev x (0, [(5, 1)])) (y_ev x (0, [(6, 1)])) := h.2.2.2.2.1
    (try rw [E0] at T1); (try rw [E2] at T1); (try rw [E3] at T1); (try rw [E4] at T1); (try rw [E5] at T1)
    have T2 : q_run2 (t_b v) (y_ev x (0, [(0, 1)])) (y_ev x (0, [(2, 1)])) (y_ev x (0, [(7, 1)])) (y_ev x (1, [])) (y_ev x (0, [(8, 1)])) (y_ev x (0, [(9, 1)])) (y_ev x (0, [(10, 1)])) (y_ev x (0, [(11, 1)])) (y_ev x (0, [(12, 1)])) (y_ev x (0, [(13, 1)])) := h.2.2.2.2.2.1
    (try rw [E0] at T2); (try rw [E2] at T2); (try rw [E6] at T2); (try rw [E7] at T2); (try rw [E8] at T2); (try rw [E9] at T2); (try rw [E10] at T2); (try rw [E11] at T2); (try rw [E12] at T2); (try rw [E13] at T2)
    have T3 : q_pex (t_b v) (y_ev x (0, [(0, 1)])) (y_ev x (1, [(2, 1)])) (y_ev x (0, [(3, 1)])) := h.2.2.2.2.2.2.1
    (try rw [E0] at T3); (try rw [E14] at T3); (try rw [E15] at T3)
    have T4 : q_cy (t_b v) (v 102) (v 103) (v 104) (y_ev x (0, [(0, 1)])) (y_ev x (0, [(3, 1)])) (y_ev x ((-1), [(4, 1)])) (y_ev x (1, [])) := h.2.2.2.2.2.2.2.1
    (try rw [E0] at T4); (try rw [E15] at T4); (try rw [E16] at T4); (try rw [E7] at T4)
    have K := k_eexS_p (V := v) (n := x 0) (c := x 1) (e := x 2) (d := x 3) (l := x 4) (s := x 5) (v := x 6) (st := x 7) (op := x 8) (H := x 9) (L := x 10) (W := x 11) (P := x 12) (S := x 13) T0 T1 T2 T3 T4 C0 C1 F0 F1
    refine l_outH rfl (And.intro h.1 ?_)
    have O0 : y_ev x (0, [(0, 1)]) = x 0 := l_e1 _ _
    have O1 : y_ev x (0, [(3, 1)]) = x 3 := l_e1 _ _
    have O2 : y_ev x (0, [(4, 1)]) = x 4 := l_e1 _ _
    have O3 : y_ev x (2, []) = 2 := l_e0 _ _
    have O4 : y_ev x (0, [(1, 1)]) = x 1 := l_e1 _ _
    show (True) ∧ (q_cy (t_b v) (v 102) (v 103) (v 104) (y_ev x (0, [(0, 1)])) (y_ev x (0, [(3, 1)])) (y_ev x (0, [(4, 1)])) (y_ev x (2, [])) ∧ q_eex (t_b v) (y_ev x (0, [(0, 1)])) (y_ev x (0, [(1, 1)])) (y_ev x (0, [(3, 1)])) ∧ True)
    (try rw [O0]); (try rw [O1]); (try rw [O2]); (try rw [O3]); (try rw [O4])
    exact K
def lm_591p : zS := ((lm_577pi_0 (lm_577pi_1 [])), [(1, false)], [(400, [(1, (-1))]), ((-200), [(3, 1)]), (0, [(4, 1)])], [], [], [(0, (false, 4, 0, []), 0, 0, 0, [(1, 1)])], [(201, [(0, [(0, 1)]), ((-1), [(1, 1)]), (0, [(2, 1)]), (2, [])]), (40, [(0, [(0, 1)]), ((-1), [(1, 1)]), (0, [(3, 1)]), (1, []), (0, [(4, 1)]), (0, [(7, 1)]), (0, [(8, 1)]), (0, [(9, 1)]), (0, [(10, 1)]), (0, [(11, 1)])]), (36, [(0, [(0, 1)]), ((-1), [(1, 1)]), (45, []), (0, [(5, 1)]), (0, [(6, 1)])])])
def lm_591 : zLem := (lm_591p, [([((-2147483648), 2147483647), ((-2147483648), 2147483647), ((-2147483648), 2147483647), ((-2147483648), 2147483647), ((-2147483648), 2147483647), ((-2147483648), 2147483647), ((-9223372036854775808), 9223372036854775807), ((-2147483648), 2147483647), ((-2147483648), 2147483647), ((-2147483648), 2147483647), ((-2147483648), 2147483647), ((-2147483648), 2147483647)], [(1, false)], [], [], [], [], [(201, [(0, [(0, 1)]), (0, [(1, 1)]), (0, [(2, 1)]), (0, [])]), (210, [(0, [(0, 1)]), (0, [(1, 1)])])])])
theorem lk_591 : l_core lm_591 := by
  first
  | skip
    intro v x h
    have K := k_cyp_m (V := v) (n := x 0) (d := x 1) (l := x 2) (st := x 3) (op := x 4) (s := x 5) (v := x 6) (H := x 7) (L := x 8) (W := x 9) (P := x 10) (S := x 11) (l_c4 (fun w0 w1 w2 w3 : Int => q_cy (t_b v) (v 102) (v 103) (v 104) w0 w1 w2 w3) (l_e1 x 0) (l_q2 1 x 1) (l_e1 x 2) (l_e0 x (2)) (h.2.2.2.1)) (l_c10 (fun w0 w1 w2 w3 w4 w5 w6 w7 w8 w9 : Int => q_run2 (t_b v) w0 w1 w2 w3 w4 w5 w6 w7 w8 w9) (l_e1 x 0) (l_q2 1 x 1) (l_e1 x 3) (l_e0 x (1)) (l_e1 x 4) (l_e1 x 7) (l_e1 x 8) (l_e1 x 9) (l_e1 x 10) (l_e1 x 11) (h.2.2.2.2.1)) (l_c5 (fun w0 w1 w2 w3 w4 : Int => q_tok (t_b v) w0 w1 w2 w3 w4) (l_e1 x 0) (l_q2 1 x 1) (l_e0 x (45)) (l_e1 x 5) (l_e1 x 6) (h.2.2.2.2.2.1)) (l_cc (l_q1 400 x 1) (h.2.1.1)) (l_cc (l_q2 200 x 3) (h.2.1.2.1)) (l_cc (l_e1 x 4) (h.2.1.2.2.1))
    refine l_outH rfl (And.intro h.1 ?_)
    exact l_o4 (fun w0 w1 w2 w3 : Int => (True) ∧ (q_cy (t_b v) (v 102) (v 103) (v 104) w0 w1 w2 w3 ∧ (p_S (p_w (t_b v) w0 w1) = []) ∧ True)) (l_e1 x 0) (l_e1 x 1) (l_e1 x 2) (l_e0 x (0)) K
  | skip
    intro v x h
    have C0 : (0 : Int) ≤ 400 - x 1 := l_cc (a := y_ev x (400, [(1, (-1))])) (by show ((400) : Int) + ((-1) * x 1 + 0) = 400 - x 1; omega) (h.2.1.1)
    have C1 : (0 : Int) ≤ x 3 - 200 := l_cc (a := y_ev x ((-200), [(3, 1)])) (by show ((-200) : Int) + ((1) * x 3 + 0) = x 3 - 200; omega) (h.2.1.2.1)
    have C2 : (0 : Int) ≤ x 4 := l_cc (a := y_ev x (0, [(4, 1)])) (l_e1 _ _) (h.2.1.2.2.1)
    have E0 : y_ev x (0, [(0, 1)]) = x 0 := (l_e1 _ _)
    have E1 : y_ev x ((-1), [(1, 1)]) = x 1 - 1 := (by show ((-1) : Int) + ((1) * x 1 + 0) = x 1 - 1; omega)
    have E2 : y_ev x (0, [(2, 1)]) = x 2 := (l_e1 _ _)
    have E3 : y_ev x (2, []) = 2 := (l_e0 _ _)
    have E4 : y_ev x (0, [(3, 1)]) = x 3 := (l_e1 _ _)
    have E5 : y_ev x (1, []) = 1 := (l_e0 _ _)
    have E6 : y_ev x (0, [(4, 1)]) = x 4 := (l_e1 _ _)
    have E7 : y_ev x (0, [(7, 1)]) = x 7 := (l_e1 _ _)
    have E8 : y_ev x (0, [(8, 1)]) = x 8 := (l_e1 _ _)
    have E9 : y_ev x (0, [(9, 1)]) = x 9 := (l_e1 _ _)
    have E10 : y_ev x (0, [(10, 1)]) = x 10 := (l_e1 _ _)
    have E11 : y_ev x (0, [(11, 1)]) = x 11 := (l_e1 _ _)
    have E12 : y_ev x (45, []) = 45 := (l_e0 _ _)
    have E13 : y_ev x (0, [(5, 1)]) = x 5 := (l_e1 _ _)
    have E14 : y_ev x (0, [(6, 1)]) = x 6 := (l_e1 _ _)
    have T0 : q_cy (t_b v) (v 102) (v 103) (v 104) (y_ev x (0, [(0, 1)])) (y_ev x ((-1), [(1, 1)])) (y_ev x (0, [(2, 1)])) (y_ev x (2, [])) := h.2.2.2.1
    (try rw [E0] at T0); (try rw [E1] at T0); (try rw [E2] at T0); (try rw [E3] at T0)
    have T1 : q_run2 (t_b v) (y_ev x (0, [(0, 1)])) (y_ev x ((-1), [(1, 1)])) (y_ev x (0, [(3, 1)])) (y_ev x (1, [])) (y_ev x (0, [(4, 1)])) (y_ev x (0, [(7, 1)])) (y_ev x (0, [(8, 1)])) (y_ev x (0, [(9, 1)])) (y_ev x (0, [(10, 1)])) (y_ev x (0, [(11, 1)])) := h.2.2.2.2.1
    (try rw [E0] at T1); (try rw [E1] at T1); (try rw [E4] at T1); (try rw [E5] at T1); (try rw [E6] at T1); (try rw [E7] at T1); (try rw [E8] at T1); (try rw [E9] at T1); (try rw [E10] at T1); (try rw [E11] at T1)
    have T2 : q_tok (t_b v) (y_ev x (0, [(0, 1)])) (y_ev x ((-1), [(1, 1)])) (y_ev x (45, [])) (y_ev x (0, [(5, 1)])) (y_ev x (0, [(6, 1)])) := h.2.2.2.2.2.1
    (try rw [E0] at T2); (try rw [E1] at T2); (try rw [E12] at T2); (try rw [E13] at T2); (try rw [E14] at T2)
    have K := k_cyp_m (V := v) (n := x 0) (d := x 1) (l := x 2) (st := x 3) (op := x 4) (s := x 5) (v := x 6) (H := x 7) (L := x 8) (W := x 9) (P := x 10) (S := x 11) T0 T1 T2 C0 C1 C2
    refine l_outH rfl (And.intro h.1 ?_)
    have O0 : y_ev x (0, [(0, 1)]) = x 0 := l_e1 _ _
    have O1 : y_ev x (0, [(1, 1)]) = x 1 := l_e1 _ _
    have O2 : y_ev x (0, [(2, 1)]) = x 2 := l_e1 _ _
    have O3 : y_ev x (0, []) = 0 := l_e0 _ _
    show (True) ∧ (q_cy (t_b v) (v 102) (v 103) (v 104) (y_ev x (0, [(0, 1)])) (y_ev x (0, [(1, 1)])) (y_ev x (0, [(2, 1)])) (y_ev x (0, [])) ∧ (p_S (p_w (t_b v) (y_ev x (0, [(0, 1)])) (y_ev x (0, [(1, 1)]))) = []) ∧ True)
    (try rw [O0]); (try rw [O1]); (try rw [O2]); (try rw [O3])
    exact K
def lm_592pg_0 (t : List zTg) : List zTg := (208, [(0, [(0, 1)]), (0, [(1, 1)]), (0, [(2, 1)])]) :: (36, [(0, [(0, 1)]), (0, [(2, 1)]), (45, []), (0, [(5, 1)]), (0, [(6, 1)])]) :: (40, [(0, [(0, 1)]), (0, [(2, 1)]), (0, [(7, 1)]), (1, []), (0, [(8, 1)]), (0, [(9, 1)]), (0, [(10, 1)]), (0, [(11, 1)]), (0, [(12, 1)]), (0, [(13, 1)])]) :: (207, [(0, [(0, 1)]), (1, [(2, 1)]), (0, [(3, 1)])]) :: (201, [(0, [(0, 1)]), (0, [(3, 1)]), ((-1), [(4, 1)]), (1, [])]) :: t
def lm_592p : zS := ((lm_584pi_0 (lm_584pi_1 [])), [(1, false), (101, false), (102, false), (103, false)], [((-200), [(7, 1)]), (0, [(8, 1)])], [], [], [(0, (false, 4, 0, []), 0, 0, 0, [(3, 1)]), (1, (false, 4, 0, []), 0, 0, 0, [(4, 1)]), (2, (true, 0, (-1), [(4, 1)]), 0, 0, 3, []), (3, (true, 0, (-1), [(4, 1)]), 0, 0, 0, [])], (lm_592pg_0 []))
def lm_592 : zLem := (lm_592p, [([((-2147483648), 2147483647), ((-2147483648), 2147483647), ((-2147483648), 2147483647), ((-2147483648), 2147483647), ((-2147483648), 2147483647), ((-2147483648), 2147483647), ((-9223372036854775808), 9223372036854775807), ((-2147483648), 2147483647), ((-2147483648), 2147483647), ((-2147483648), 2147483647), ((-2147483648), 2147483647), ((-2147483648), 2147483647), ((-2147483648), 2147483647), ((-2147483648), 2147483647)], [(1, false), (101, false), (102, false), (103, false)], [], [], [], [], [(201, [(0, [(0, 1)]), (0, [(3, 1)]), (0, [(4, 1)]), (2, [])]), (208, [(0, [(0, 1)]), (0, [(1, 1)]), (0, [(3, 1)])])])])
theorem lk_592 : l_core lm_592 := by
  first
  | skip
    intro v x h
    have G0 := h.2.2.1
    have G1 := G0.2
    have G2 := G1.2
    have G3 := G2.2
    have K := k_eexS_m (V := v) (n := x 0) (c := x 1) (e := x 2) (d := x 3) (l := x 4) (s := x 5) (v := x 6) (st := x 7) (op := x 8) (H := x 9) (L := x 10) (W := x 11) (P := x 12) (S := x 13) (l_c3 (fun w0 w1 w2 : Int => q_eex (t_b v) w0 w1 w2) (l_e1 x 0) (l_e1 x 1) (l_e1 x 2) (h.2.2.2.1)) (l_c5 (fun w0 w1 w2 w3 w4 : Int => q_tok (t_b v) w0 w1 w2 w3 w4) (l_e1 x 0) (l_e1 x 2) (l_e0 x (45)) (l_e1 x 5) (l_e1 x 6) (h.2.2.2.2.1)) (l_c10 (fun w0 w1 w2 w3 w4 w5 w6 w7 w8 w9 : Int => q_run2 (t_b v) w0 w1 w2 w3 w4 w5 w6 w7 w8 w9) (l_e1 x 0) (l_e1 x 2) (l_e1 x 7) (l_e0 x (1)) (l_e1 x 8) (l_e1 x 9) (l_e1 x 10) (l_e1 x 11) (l_e1 x 12) (l_e1 x 13) (h.2.2.2.2.2.1)) (l_c3 (fun w0 w1 w2 : Int => q_pex (t_b v) w0 w1 w2) (l_e1 x 0) (l_q3 1 x 2) (l_e1 x 3) (h.2.2.2.2.2.2.1)) (l_c4 (fun w0 w1 w2 w3 : Int => q_cy (t_b v) (v 102) (v 103) (v 104) w0 w1 w2 w3) (l_e1 x 0) (l_e1 x 3) (l_q2 1 x 4) (l_e0 x (1)) (h.2.2.2.2.2.2.2.1)) (l_cc (l_q2 200 x 7) (h.2.1.1)) (l_cc (l_e1 x 8) (h.2.1.2.1)) (l_ff (f := v 102) (L := j_len 102) (l_q2 1 x 4) (l_e0 x (3)) (G2.1.1)) (l_ff (f := v 103) (L := j_len 103) (l_q2 1 x 4) (l_e0 x (0)) (G3.1.1))
    refine l_outH rfl (And.intro h.1 ?_)
    exact l_o5 (fun w0 w1 w2 w3 w4 : Int => (True) ∧ (q_cy (t_b v) (v 102) (v 103) (v 104) w0 w1 w2 w3 ∧ q_eex (t_b v) w0 w4 w1 ∧ True)) (l_e1 x 0) (l_e1 x 3) (l_e1 x 4) (l_e0 x (2)) (l_e1 x 1) K
  | skip
    intro v x h
    have G0 := h.2.2.1
    have G1 := G0.2
    have G2 := G1.2
    have G3 := G2.2
    have C0 : (0 : Int) ≤ x 7 - 200 := l_cc (a := y_ev x ((-200), [(7, 1)])) (by show ((-200) : Int) + ((1) * x 7 + 0) = x 7 - 200; omega) (h.2.1.1)
    have C1 : (0 : Int) ≤ x 8 := l_cc (a := y_ev x (0, [(8, 1)])) (l_e1 _ _) (h.2.1.2.1)
    have F0 : (0 : Int) ≤ x 4 - 1 ∧ (x 4 - 1 : Int) < j_len 102 ∧ v 102 (x 4 - 1) = 3 := l_ff (f := v 102) (L := j_len 102) (a := y_ev x ((-1), [(4, 1)])) (b := y_ev x (3, [])) (by show ((-1) : Int) + ((1) * x 4 + 0) = x 4 - 1; omega) (l_e0 _ _) (G2.1.1)
    have F1 : (0 : Int) ≤ x 4 - 1 ∧ (x 4 - 1 : Int) < j_len 103 ∧ v 103 (x 4 - 1) = 0 := l_ff (f := v 103) (L := j_len 103) (a := y_ev x ((-1), [(4, 1)])) (b := y_ev x (0, [])) (by show ((-1) : Int) + ((1) * x 4 + 0) = x 4 - 1; omega) (l_e0 _ _) (G3.1.1)
    have E0 : y_ev x (0, [(0, 1)]) = x 0 := (l_e1 _ _)
    have E1 : y_ev x (0, [(1, 1)]) = x 1 := (l_e1 _ _)
    have E2 : y_ev x (0, [(2, 1)]) = x 2 := (l_e1 _ _)
    have E3 : y_ev x (45, []) = 45 := (l_e0 _ _)
    have E4 : y_ev x (0, [(5, 1)]) = x 5 := (l_e1 _ _)
    have E5 : y_ev x (0, [(6, 1)]) = x 6 := (l_e1 _ _)
    have E6 : y_ev x (0, [(7, 1)]) = x 7 := (l_e1 _ _)
    have E7 : y_ev x (1, []) = 1 := (l_e0 _ _)
    have E8 : y_ev x (0, [(8, 1)]) = x 8 := (l_e1 _ _)
    have E9 : y_ev x (0, [(9, 1)]) = x 9 := (l_e1 _ _)
    have E10 : y_ev x (0, [(10, 1)]) = x 10 := (l_e1 _ _)
    have E11 : y_ev x (0, [(11, 1)]) = x 11 := (l_e1 _ _)
    have E12 : y_ev x (0, [(12, 1)]) = x 12 := (l_e1 _ _)
    have E13 : y_ev x (0, [(13, 1)]) = x 13 := (l_e1 _ _)
    have E14 : y_ev x (1, [(2, 1)]) = x 2 + 1 := (by show ((1) : Int) + ((1) * x 2 + 0) = x 2 + 1; omega)
    have E15 : y_ev x (0, [(3, 1)]) = x 3 := (l_e1 _ _)
    have E16 : y_ev x ((-1), [(4, 1)]) = x 4 - 1 := (by show ((-1) : Int) + ((1) * x 4 + 0) = x 4 - 1; omega)
    have T0 : q_eex (t_b v) (y_ev x (0, [(0, 1)])) (y_ev x (0, [(1, 1)])) (y_ev x (0, [(2, 1)])) := h.2.2.2.1
    (try rw [E0] at T0); (try rw [E1] at T0); (try rw [E2] at T0)
    have T1 : q_tok (t_b v) (y_ev x (0, [(0, 1)])) (y_ev x (0, [(2, 1)])) (y_ev x (45, [])) (y_ev x (0, [(5, 1)])) (y_ev x (0, [(6, 1)])) := h.2.2.2.2.1
    (try rw [E0] at T1); (try rw [E2] at T1); (try rw [E3] at T1); (try rw [E4] at T1); (try rw [E5] at T1)
    have T2 : q_run2 (t_b v) (y_ev x (0, [(0, 1)])) (y_ev x (0, [(2, 1)])) (y_ev x (0, [(7, 1)])) (y_ev x (1, [])) (y_ev x (0, [(8, 1)])) (y_ev x (0, [(9, 1)])) (y_ev x (0, [(10, 1)])) (y_ev x (0, [(11, 1)])) (y_ev x (0, [(12, 1)])) (y_ev x (0, [(13, 1)])) := h.2.2.2.2.2.1
    (try rw [E0] at T2); (try rw [E2] at T2); (try rw [E6] at T2); (try rw [E7] at T2); (try rw [E8] at T2); (try rw [E9] at T2); (try rw [E10] at T2); (try rw [E11] at T2); (try rw [E12] at T2); (try rw [E13] at T2)
    have T3 : q_pex (t_b v) (y_ev x (0, [(0, 1)])) (y_ev x (1, [(2, 1)])) (y_ev x (0, [(3, 1)])) := h.2.2.2.2.2.2.1
    (try rw [E0] at T3); (try rw [E14] at T3); (try rw [E15] at T3)
    have T4 : q_cy (t_b v) (v 102) (v 103) (v 104) (y_ev x (0, [(0, 1)])) (y_ev x (0, [(3, 1)])) (y_ev x ((-1), [(4, 1)])) (y_ev x (1, [])) := h.2.2.2.2.2.2.2.1
    (try rw [E0] at T4); (try rw [E15] at T4); (try rw [E16] at T4); (try rw [E7] at T4)
    have K := k_eexS_m (V := v) (n := x 0) (c := x 1) (e := x 2) (d := x 3) (l := x 4) (s := x 5) (v := x 6) (st := x 7) (op := x 8) (H := x 9) (L := x 10) (W := x 11) (P := x 12) (S := x 13) T0 T1 T2 T3 T4 C0 C1 F0 F1
    refine l_outH rfl (And.intro h.1 ?_)
    have O0 : y_ev x (0, [(0, 1)]) = x 0 := l_e1 _ _
    have O1 : y_ev x (0, [(3, 1)]) = x 3 := l_e1 _ _
    have O2 : y_ev x (0, [(4, 1)]) = x 4 := l_e1 _ _
    have O3 : y_ev x (2, []) = 2 := l_e0 _ _
    have O4 : y_ev x (0, [(1, 1)]) = x 1 := l_e1 _ _
    show (True) ∧ (q_cy (t_b v) (v 102) (v 103) (v 104) (y_ev x (0, [(0, 1)])) (y_ev x (0, [(3, 1)])) (y_ev x (0, [(4, 1)])) (y_ev x (2, [])) ∧ q_eex (t_b v) (y_ev x (0, [(0, 1)])) (y_ev x (0, [(1, 1)])) (y_ev x (0, [(3, 1)])) ∧ True)
    (try rw [O0]); (try rw [O1]); (try rw [O2]); (try rw [O3]); (try rw [O4])
    exact K
def lm_593 : zLem := (([], [], [], [], [], [], []), [([], [], [], [], [], [], [(204, [(0, [])])])])
theorem lk_593 : l_core lm_593 := by
  first
  | skip
    intro v x h
    have K := k_cli0 (V := v) 
    refine l_outH rfl (And.intro h.1 ?_)
    exact l_o1 (fun w0 : Int => (True) ∧ ((∀ (i_ : Nat) (x_ : Int × Int), ([(0, 1), (7, 0), (1, 2), (0, 10), (4, 0), (7, 0), (1, 0), (7, 0)] : List (Int × Int))[i_]? = some x_ → (i_ : Int) < w0 → v 102 i_ = x_.1 ∧ v 103 i_ = x_.2) ∧ True)) (l_e0 x (0)) K
  | skip
    intro v x h
    have K := k_cli0 (V := v) 
    refine l_outH rfl (And.intro h.1 ?_)
    have O0 : y_ev x (0, []) = 0 := l_e0 _ _
    show (True) ∧ ((∀ (i_ : Nat) (x_ : Int × Int), ([(0, 1), (7, 0), (1, 2), (0, 10), (4, 0), (7, 0), (1, 0), (7, 0)] : List (Int × Int))[i_]? = some x_ → (i_ : Int) < (y_ev x (0, [])) → v 102 i_ = x_.1 ∧ v 103 i_ = x_.2) ∧ True)
    (try rw [O0])
    exact K
def lm_594 : zLem := (([], [], [], [], [], [], []), [([], [], [], [], [], [], [(205, [(0, [])])])])
theorem lk_594 : l_core lm_594 := by
  first
  | skip
    intro v x h
    have K := k_cls0 (V := v) 
    refine l_outH rfl (And.intro h.1 ?_)
    exact l_o1 (fun w0 : Int => (True) ∧ ((∀ j_ : Int, 0 ≤ j_ → j_ < w0 → v 104 j_ = if j_ = 2 then 2 else if j_ = 3 then 6 else 0) ∧ True)) (l_e0 x (0)) K
  | skip
    intro v x h
    have K := k_cls0 (V := v) 
    refine l_outH rfl (And.intro h.1 ?_)
    have O0 : y_ev x (0, []) = 0 := l_e0 _ _
    show (True) ∧ ((∀ j_ : Int, 0 ≤ j_ → j_ < (y_ev x (0, [])) → v 104 j_ = if j_ = 2 then 2 else if j_ = 3 then 6 else 0) ∧ True)
    (try rw [O0])
    exact K
def lm_595 : zLem := (([], [(102, false), (103, false)], [], [], [], [(0, (true, 0, 0, []), 0, 0, 0, []), (1, (true, 0, 0, []), 0, 0, 1, [])], [(204, [(0, [])])]), [([], [(102, false), (103, false)], [], [], [], [], [(204, [(1, [])])])])
theorem lk_595 : l_core lm_595 := by
  first
  | skip
    intro v x h
    have G0 := h.2.2.1
    have G1 := G0.2
    have K := k_cli_0 (V := v) (l_c1 (fun w0 : Int => ∀ (i_ : Nat) (x_ : Int × Int), ([(0, 1), (7, 0), (1, 2), (0, 10), (4, 0), (7, 0), (1, 0), (7, 0)] : List (Int × Int))[i_]? = some x_ → (i_ : Int) < w0 → v 102 i_ = x_.1 ∧ v 103 i_ = x_.2) (l_e0 x (0)) (h.2.2.2.1)) (l_ff (f := v 102) (L := j_len 102) (l_e0 x (0)) (l_e0 x (0)) (G0.1.1)) (l_ff (f := v 103) (L := j_len 103) (l_e0 x (0)) (l_e0 x (1)) (G1.1.1))
    refine l_outH rfl (And.intro h.1 ?_)
    exact l_o1 (fun w0 : Int => (True) ∧ ((∀ (i_ : Nat) (x_ : Int × Int), ([(0, 1), (7, 0), (1, 2), (0, 10), (4, 0), (7, 0), (1, 0), (7, 0)] : List (Int × Int))[i_]? = some x_ → (i_ : Int) < w0 → v 102 i_ = x_.1 ∧ v 103 i_ = x_.2) ∧ True)) (l_e0 x (1)) K
  | skip
    intro v x h
    have G0 := h.2.2.1
    have G1 := G0.2
    have F0 : (0 : Int) ≤ 0 ∧ (0 : Int) < j_len 102 ∧ v 102 (0) = 0 := l_ff (f := v 102) (L := j_len 102) (a := y_ev x (0, [])) (b := y_ev x (0, [])) (l_e0 _ _) (l_e0 _ _) (G0.1.1)
    have F1 : (0 : Int) ≤ 0 ∧ (0 : Int) < j_len 103 ∧ v 103 (0) = 1 := l_ff (f := v 103) (L := j_len 103) (a := y_ev x (0, [])) (b := y_ev x (1, [])) (l_e0 _ _) (l_e0 _ _) (G1.1.1)
    have E0 : y_ev x (0, []) = 0 := (l_e0 _ _)
    have T0 : ∀ (i_ : Nat) (x_ : Int × Int), ([(0, 1), (7, 0), (1, 2), (0, 10), (4, 0), (7, 0), (1, 0), (7, 0)] : List (Int × Int))[i_]? = some x_ → (i_ : Int) < (y_ev x (0, [])) → v 102 i_ = x_.1 ∧ v 103 i_ = x_.2 := h.2.2.2.1
    (try rw [E0] at T0)
    have K := k_cli_0 (V := v) T0 F0 F1
    refine l_outH rfl (And.intro h.1 ?_)
    have O0 : y_ev x (1, []) = 1 := l_e0 _ _
    show (True) ∧ ((∀ (i_ : Nat) (x_ : Int × Int), ([(0, 1), (7, 0), (1, 2), (0, 10), (4, 0), (7, 0), (1, 0), (7, 0)] : List (Int × Int))[i_]? = some x_ → (i_ : Int) < (y_ev x (1, [])) → v 102 i_ = x_.1 ∧ v 103 i_ = x_.2) ∧ True)
    (try rw [O0])
    exact K
def lm_596 : zLem := (([], [(102, false), (103, false)], [], [], [], [(0, (true, 0, 1, []), 0, 0, 7, []), (1, (true, 0, 1, []), 0, 0, 0, [])], [(204, [(1, [])])]), [([], [(102, false), (103, false)], [], [], [], [], [(204, [(2, [])])])])
theorem lk_596 : l_core lm_596 := by
  first
  | skip
    intro v x h
    have G0 := h.2.2.1
    have G1 := G0.2
    have K := k_cli_1 (V := v) (l_c1 (fun w0 : Int => ∀ (i_ : Nat) (x_ : Int × Int), ([(0, 1), (7, 0), (1, 2), (0, 10), (4, 0), (7, 0), (1, 0), (7, 0)] : List (Int × Int))[i_]? = some x_ → (i_ : Int) < w0 → v 102 i_ = x_.1 ∧ v 103 i_ = x_.2) (l_e0 x (1)) (h.2.2.2.1)) (l_ff (f := v 102) (L := j_len 102) (l_e0 x (1)) (l_e0 x (7)) (G0.1.1)) (l_ff (f := v 103) (L := j_len 103) (l_e0 x (1)) (l_e0 x (0)) (G1.1.1))
    refine l_outH rfl (And.intro h.1 ?_)
    exact l_o1 (fun w0 : Int => (True) ∧ ((∀ (i_ : Nat) (x_ : Int × Int), ([(0, 1), (7, 0), (1, 2), (0, 10), (4, 0), (7, 0), (1, 0), (7, 0)] : List (Int × Int))[i_]? = some x_ → (i_ : Int) < w0 → v 102 i_ = x_.1 ∧ v 103 i_ = x_.2) ∧ True)) (l_e0 x (2)) K
  | skip
    intro v x h
    have G0 := h.2.2.1
    have G1 := G0.2
    have F0 : (0 : Int) ≤ 1 ∧ (1 : Int) < j_len 102 ∧ v 102 (1) = 7 := l_ff (f := v 102) (L := j_len 102) (a := y_ev x (1, [])) (b := y_ev x (7, [])) (l_e0 _ _) (l_e0 _ _) (G0.1.1)
    have F1 : (0 : Int) ≤ 1 ∧ (1 : Int) < j_len 103 ∧ v 103 (1) = 0 := l_ff (f := v 103) (L := j_len 103) (a := y_ev x (1, [])) (b := y_ev x (0, [])) (l_e0 _ _) (l_e0 _ _) (G1.1.1)
    have E0 : y_ev x (1, []) = 1 := (l_e0 _ _)
    have T0 : ∀ (i_ : Nat) (x_ : Int × Int), ([(0, 1), (7, 0), (1, 2), (0, 10), (4, 0), (7, 0), (1, 0), (7, 0)] : List (Int × Int))[i_]? = some x_ → (i_ : Int) < (y_ev x (1, [])) → v 102 i_ = x_.1 ∧ v 103 i_ = x_.2 := h.2.2.2.1
    (try rw [E0] at T0)
    have K := k_cli_1 (V := v) T0 F0 F1
    refine l_outH rfl (And.intro h.1 ?_)
    have O0 : y_ev x (2, []) = 2 := l_e0 _ _
    show (True) ∧ ((∀ (i_ : Nat) (x_ : Int × Int), ([(0, 1), (7, 0), (1, 2), (0, 10), (4, 0), (7, 0), (1, 0), (7, 0)] : List (Int × Int))[i_]? = some x_ → (i_ : Int) < (y_ev x (2, [])) → v 102 i_ = x_.1 ∧ v 103 i_ = x_.2) ∧ True)
    (try rw [O0])
    exact K
def lm_597 : zLem := (([], [(102, false), (103, false)], [], [], [], [(0, (true, 0, 2, []), 0, 0, 1, []), (1, (true, 0, 2, []), 0, 0, 2, [])], [(204, [(2, [])])]), [([], [(102, false), (103, false)], [], [], [], [], [(204, [(3, [])])])])
theorem lk_597 : l_core lm_597 := by
  first
  | skip
    intro v x h
    have G0 := h.2.2.1
    have G1 := G0.2
    have K := k_cli_2 (V := v) (l_c1 (fun w0 : Int => ∀ (i_ : Nat) (x_ : Int × Int), ([(0, 1), (7, 0), (1, 2), (0, 10), (4, 0), (7, 0), (1, 0), (7, 0)] : List (Int × Int))[i_]? = some x_ → (i_ : Int) < w0 → v 102 i_ = x_.1 ∧ v 103 i_ = x_.2) (l_e0 x (2)) (h.2.2.2.1)) (l_ff (f := v 102) (L := j_len 102) (l_e0 x (2)) (l_e0 x (1)) (G0.1.1)) (l_ff (f := v 103) (L := j_len 103) (l_e0 x (2)) (l_e0 x (2)) (G1.1.1))
    refine l_outH rfl (And.intro h.1 ?_)
    exact l_o1 (fun w0 : Int => (True) ∧ ((∀ (i_ : Nat) (x_ : Int × Int), ([(0, 1), (7, 0), (1, 2), (0, 10), (4, 0), (7, 0), (1, 0), (7, 0)] : List (Int × Int))[i_]? = some x_ → (i_ : Int) < w0 → v 102 i_ = x_.1 ∧ v 103 i_ = x_.2) ∧ True)) (l_e0 x (3)) K
  | skip
    intro v x h
    have G0 := h.2.2.1
    have G1 := G0.2
    have F0 : (0 : Int) ≤ 2 ∧ (2 : Int) < j_len 102 ∧ v 102 (2) = 1 := l_ff (f := v 102) (L := j_len 102) (a := y_ev x (2, [])) (b := y_ev x (1, [])) (l_e0 _ _) (l_e0 _ _) (G0.1.1)
    have F1 : (0 : Int) ≤ 2 ∧ (2 : Int) < j_len 103 ∧ v 103 (2) = 2 := l_ff (f := v 103) (L := j_len 103) (a := y_ev x (2, [])) (b := y_ev x (2, [])) (l_e0 _ _) (l_e0 _ _) (G1.1.1)
    have E0 : y_ev x (2, []) = 2 := (l_e0 _ _)
    have T0 : ∀ (i_ : Nat) (x_ : Int × Int), ([(0, 1), (7, 0), (1, 2), (0, 10), (4, 0), (7, 0), (1, 0), (7, 0)] : List (Int × Int))[i_]? = some x_ → (i_ : Int) < (y_ev x (2, [])) → v 102 i_ = x_.1 ∧ v 103 i_ = x_.2 := h.2.2.2.1
    (try rw [E0] at T0)
    have K := k_cli_2 (V := v) T0 F0 F1
    refine l_outH rfl (And.intro h.1 ?_)
    have O0 : y_ev x (3, []) = 3 := l_e0 _ _
    show (True) ∧ ((∀ (i_ : Nat) (x_ : Int × Int), ([(0, 1), (7, 0), (1, 2), (0, 10), (4, 0), (7, 0), (1, 0), (7, 0)] : List (Int × Int))[i_]? = some x_ → (i_ : Int) < (y_ev x (3, [])) → v 102 i_ = x_.1 ∧ v 103 i_ = x_.2) ∧ True)
    (try rw [O0])
    exact K
def lm_598 : zLem := (([], [(102, false), (103, false)], [], [], [], [(0, (true, 0, 3, []), 0, 0, 0, []), (1, (true, 0, 3, []), 0, 0, 10, [])], [(204, [(3, [])])]), [([], [(102, false), (103, false)], [], [], [], [], [(204, [(4, [])])])])
theorem lk_598 : l_core lm_598 := by
  first
  | skip
    intro v x h
    have G0 := h.2.2.1
    have G1 := G0.2
    have K := k_cli_3 (V := v) (l_c1 (fun w0 : Int => ∀ (i_ : Nat) (x_ : Int × Int), ([(0, 1), (7, 0), (1, 2), (0, 10), (4, 0), (7, 0), (1, 0), (7, 0)] : List (Int × Int))[i_]? = some x_ → (i_ : Int) < w0 → v 102 i_ = x_.1 ∧ v 103 i_ = x_.2) (l_e0 x (3)) (h.2.2.2.1)) (l_ff (f := v 102) (L := j_len 102) (l_e0 x (3)) (l_e0 x (0)) (G0.1.1)) (l_ff (f := v 103) (L := j_len 103) (l_e0 x (3)) (l_e0 x (10)) (G1.1.1))
    refine l_outH rfl (And.intro h.1 ?_)
    exact l_o1 (fun w0 : Int => (True) ∧ ((∀ (i_ : Nat) (x_ : Int × Int), ([(0, 1), (7, 0), (1, 2), (0, 10), (4, 0), (7, 0), (1, 0), (7, 0)] : List (Int × Int))[i_]? = some x_ → (i_ : Int) < w0 → v 102 i_ = x_.1 ∧ v 103 i_ = x_.2) ∧ True)) (l_e0 x (4)) K
  | skip
    intro v x h
    have G0 := h.2.2.1
    have G1 := G0.2
    have F0 : (0 : Int) ≤ 3 ∧ (3 : Int) < j_len 102 ∧ v 102 (3) = 0 := l_ff (f := v 102) (L := j_len 102) (a := y_ev x (3, [])) (b := y_ev x (0, [])) (l_e0 _ _) (l_e0 _ _) (G0.1.1)
    have F1 : (0 : Int) ≤ 3 ∧ (3 : Int) < j_len 103 ∧ v 103 (3) = 10 := l_ff (f := v 103) (L := j_len 103) (a := y_ev x (3, [])) (b := y_ev x (10, [])) (l_e0 _ _) (l_e0 _ _) (G1.1.1)
    have E0 : y_ev x (3, []) = 3 := (l_e0 _ _)
    have T0 : ∀ (i_ : Nat) (x_ : Int × Int), ([(0, 1), (7, 0), (1, 2), (0, 10), (4, 0), (7, 0), (1, 0), (7, 0)] : List (Int × Int))[i_]? = some x_ → (i_ : Int) < (y_ev x (3, [])) → v 102 i_ = x_.1 ∧ v 103 i_ = x_.2 := h.2.2.2.1
    (try rw [E0] at T0)
    have K := k_cli_3 (V := v) T0 F0 F1
    refine l_outH rfl (And.intro h.1 ?_)
    have O0 : y_ev x (4, []) = 4 := l_e0 _ _
    show (True) ∧ ((∀ (i_ : Nat) (x_ : Int × Int), ([(0, 1), (7, 0), (1, 2), (0, 10), (4, 0), (7, 0), (1, 0), (7, 0)] : List (Int × Int))[i_]? = some x_ → (i_ : Int) < (y_ev x (4, [])) → v 102 i_ = x_.1 ∧ v 103 i_ = x_.2) ∧ True)
    (try rw [O0])
    exact K
def lm_599 : zLem := (([], [(102, false), (103, false)], [], [], [], [(0, (true, 0, 4, []), 0, 0, 4, []), (1, (true, 0, 4, []), 0, 0, 0, [])], [(204, [(4, [])])]), [([], [(102, false), (103, false)], [], [], [], [], [(204, [(5, [])])])])
theorem lk_599 : l_core lm_599 := by
  first
  | skip
    intro v x h
    have G0 := h.2.2.1
    have G1 := G0.2
    have K := k_cli_4 (V := v) (l_c1 (fun w0 : Int => ∀ (i_ : Nat) (x_ : Int × Int), ([(0, 1), (7, 0), (1, 2), (0, 10), (4, 0), (7, 0), (1, 0), (7, 0)] : List (Int × Int))[i_]? = some x_ → (i_ : Int) < w0 → v 102 i_ = x_.1 ∧ v 103 i_ = x_.2) (l_e0 x (4)) (h.2.2.2.1)) (l_ff (f := v 102) (L := j_len 102) (l_e0 x (4)) (l_e0 x (4)) (G0.1.1)) (l_ff (f := v 103) (L := j_len 103) (l_e0 x (4)) (l_e0 x (0)) (G1.1.1))
    refine l_outH rfl (And.intro h.1 ?_)
    exact l_o1 (fun w0 : Int => (True) ∧ ((∀ (i_ : Nat) (x_ : Int × Int), ([(0, 1), (7, 0), (1, 2), (0, 10), (4, 0), (7, 0), (1, 0), (7, 0)] : List (Int × Int))[i_]? = some x_ → (i_ : Int) < w0 → v 102 i_ = x_.1 ∧ v 103 i_ = x_.2) ∧ True)) (l_e0 x (5)) K
  | skip
    intro v x h
    have G0 := h.2.2.1
    have G1 := G0.2
    have F0 : (0 : Int) ≤ 4 ∧ (4 : Int) < j_len 102 ∧ v 102 (4) = 4 := l_ff (f := v 102) (L := j_len 102) (a := y_ev x (4, [])) (b := y_ev x (4, [])) (l_e0 _ _) (l_e0 _ _) (G0.1.1)
    have F1 : (0 : Int) ≤ 4 ∧ (4 : Int) < j_len 103 ∧ v 103 (4) = 0 := l_ff (f := v 103) (L := j_len 103) (a := y_ev x (4, [])) (b := y_ev x (0, [])) (l_e0 _ _) (l_e0 _ _) (G1.1.1)
    have E0 : y_ev x (4, []) = 4 := (l_e0 _ _)
    have T0 : ∀ (i_ : Nat) (x_ : Int × Int), ([(0, 1), (7, 0), (1, 2), (0, 10), (4, 0), (7, 0), (1, 0), (7, 0)] : List (Int × Int))[i_]? = some x_ → (i_ : Int) < (y_ev x (4, [])) → v 102 i_ = x_.1 ∧ v 103 i_ = x_.2 := h.2.2.2.1
    (try rw [E0] at T0)
    have K := k_cli_4 (V := v) T0 F0 F1
    refine l_outH rfl (And.intro h.1 ?_)
    have O0 : y_ev x (5, []) = 5 := l_e0 _ _
    show (True) ∧ ((∀ (i_ : Nat) (x_ : Int × Int), ([(0, 1), (7, 0), (1, 2), (0, 10), (4, 0), (7, 0), (1, 0), (7, 0)] : List (Int × Int))[i_]? = some x_ → (i_ : Int) < (y_ev x (5, [])) → v 102 i_ = x_.1 ∧ v 103 i_ = x_.2) ∧ True)
    (try rw [O0])
    exact K
def lm_600 : zLem := (([], [(102, false), (103, false)], [], [], [], [(0, (true, 0, 5, []), 0, 0, 7, []), (1, (true, 0, 5, []), 0, 0, 0, [])], [(204, [(5, [])])]), [([], [(102, false), (103, false)], [], [], [], [], [(204, [(6, [])])])])
theorem lk_600 : l_core lm_600 := by
  first
  | skip
    intro v x h
    have G0 := h.2.2.1
    have G1 := G0.2
    have K := k_cli_5 (V := v) (l_c1 (fun w0 : Int => ∀ (i_ : Nat) (x_ : Int × Int), ([(0, 1), (7, 0), (1, 2), (0, 10), (4, 0), (7, 0), (1, 0), (7, 0)] : List (Int × Int))[i_]? = some x_ → (i_ : Int) < w0 → v 102 i_ = x_.1 ∧ v 103 i_ = x_.2) (l_e0 x (5)) (h.2.2.2.1)) (l_ff (f := v 102) (L := j_len 102) (l_e0 x (5)) (l_e0 x (7)) (G0.1.1)) (l_ff (f := v 103) (L := j_len 103) (l_e0 x (5)) (l_e0 x (0)) (G1.1.1))
    refine l_outH rfl (And.intro h.1 ?_)
    exact l_o1 (fun w0 : Int => (True) ∧ ((∀ (i_ : Nat) (x_ : Int × Int), ([(0, 1), (7, 0), (1, 2), (0, 10), (4, 0), (7, 0), (1, 0), (7, 0)] : List (Int × Int))[i_]? = some x_ → (i_ : Int) < w0 → v 102 i_ = x_.1 ∧ v 103 i_ = x_.2) ∧ True)) (l_e0 x (6)) K
  | skip
    intro v x h
    have G0 := h.2.2.1
    have G1 := G0.2
    have F0 : (0 : Int) ≤ 5 ∧ (5 : Int) < j_len 102 ∧ v 102 (5) = 7 := l_ff (f := v 102) (L := j_len 102) (a := y_ev x (5, [])) (b := y_ev x (7, [])) (l_e0 _ _) (l_e0 _ _) (G0.1.1)
    have F1 : (0 : Int) ≤ 5 ∧ (5 : Int) < j_len 103 ∧ v 103 (5) = 0 := l_ff (f := v 103) (L := j_len 103) (a := y_ev x (5, [])) (b := y_ev x (0, [])) (l_e0 _ _) (l_e0 _ _) (G1.1.1)
    have E0 : y_ev x (5, []) = 5 := (l_e0 _ _)
    have T0 : ∀ (i_ : Nat) (x_ : Int × Int), ([(0, 1), (7, 0), (1, 2), (0, 10), (4, 0), (7, 0), (1, 0), (7, 0)] : List (Int × Int))[i_]? = some x_ → (i_ : Int) < (y_ev x (5, [])) → v 102 i_ = x_.1 ∧ v 103 i_ = x_.2 := h.2.2.2.1
    (try rw [E0] at T0)
    have K := k_cli_5 (V := v) T0 F0 F1
    refine l_outH rfl (And.intro h.1 ?_)
    have O0 : y_ev x (6, []) = 6 := l_e0 _ _
    show (True) ∧ ((∀ (i_ : Nat) (x_ : Int × Int), ([(0, 1), (7, 0), (1, 2), (0, 10), (4, 0), (7, 0), (1, 0), (7, 0)] : List (Int × Int))[i_]? = some x_ → (i_ : Int) < (y_ev x (6, [])) → v 102 i_ = x_.1 ∧ v 103 i_ = x_.2) ∧ True)
    (try rw [O0])
    exact K
def lm_601 : zLem := (([], [(102, false), (103, false)], [], [], [], [(0, (true, 0, 6, []), 0, 0, 1, []), (1, (true, 0, 6, []), 0, 0, 0, [])], [(204, [(6, [])])]), [([], [(102, false), (103, false)], [], [], [], [], [(204, [(7, [])])])])
theorem lk_601 : l_core lm_601 := by
  first
  | skip
    intro v x h
    have G0 := h.2.2.1
    have G1 := G0.2
    have K := k_cli_6 (V := v) (l_c1 (fun w0 : Int => ∀ (i_ : Nat) (x_ : Int × Int), ([(0, 1), (7, 0), (1, 2), (0, 10), (4, 0), (7, 0), (1, 0), (7, 0)] : List (Int × Int))[i_]? = some x_ → (i_ : Int) < w0 → v 102 i_ = x_.1 ∧ v 103 i_ = x_.2) (l_e0 x (6)) (h.2.2.2.1)) (l_ff (f := v 102) (L := j_len 102) (l_e0 x (6)) (l_e0 x (1)) (G0.1.1)) (l_ff (f := v 103) (L := j_len 103) (l_e0 x (6)) (l_e0 x (0)) (G1.1.1))
    refine l_outH rfl (And.intro h.1 ?_)
    exact l_o1 (fun w0 : Int => (True) ∧ ((∀ (i_ : Nat) (x_ : Int × Int), ([(0, 1), (7, 0), (1, 2), (0, 10), (4, 0), (7, 0), (1, 0), (7, 0)] : List (Int × Int))[i_]? = some x_ → (i_ : Int) < w0 → v 102 i_ = x_.1 ∧ v 103 i_ = x_.2) ∧ True)) (l_e0 x (7)) K
  | skip
    intro v x h
    have G0 := h.2.2.1
    have G1 := G0.2
    have F0 : (0 : Int) ≤ 6 ∧ (6 : Int) < j_len 102 ∧ v 102 (6) = 1 := l_ff (f := v 102) (L := j_len 102) (a := y_ev x (6, [])) (b := y_ev x (1, [])) (l_e0 _ _) (l_e0 _ _) (G0.1.1)
    have F1 : (0 : Int) ≤ 6 ∧ (6 : Int) < j_len 103 ∧ v 103 (6) = 0 := l_ff (f := v 103) (L := j_len 103) (a := y_ev x (6, [])) (b := y_ev x (0, [])) (l_e0 _ _) (l_e0 _ _) (G1.1.1)
    have E0 : y_ev x (6, []) = 6 := (l_e0 _ _)
    have T0 : ∀ (i_ : Nat) (x_ : Int × Int), ([(0, 1), (7, 0), (1, 2), (0, 10), (4, 0), (7, 0), (1, 0), (7, 0)] : List (Int × Int))[i_]? = some x_ → (i_ : Int) < (y_ev x (6, [])) → v 102 i_ = x_.1 ∧ v 103 i_ = x_.2 := h.2.2.2.1
    (try rw [E0] at T0)
    have K := k_cli_6 (V := v) T0 F0 F1
    refine l_outH rfl (And.intro h.1 ?_)
    have O0 : y_ev x (7, []) = 7 := l_e0 _ _
    show (True) ∧ ((∀ (i_ : Nat) (x_ : Int × Int), ([(0, 1), (7, 0), (1, 2), (0, 10), (4, 0), (7, 0), (1, 0), (7, 0)] : List (Int × Int))[i_]? = some x_ → (i_ : Int) < (y_ev x (7, [])) → v 102 i_ = x_.1 ∧ v 103 i_ = x_.2) ∧ True)
    (try rw [O0])
    exact K
def lm_602 : zLem := (([], [(102, false), (103, false)], [], [], [], [(0, (true, 0, 7, []), 0, 0, 7, []), (1, (true, 0, 7, []), 0, 0, 0, [])], [(204, [(7, [])])]), [([], [(102, false), (103, false)], [], [], [], [], [(204, [(8, [])])])])
theorem lk_602 : l_core lm_602 := by
  first
  | skip
    intro v x h
    have G0 := h.2.2.1
    have G1 := G0.2
    have K := k_cli_7 (V := v) (l_c1 (fun w0 : Int => ∀ (i_ : Nat) (x_ : Int × Int), ([(0, 1), (7, 0), (1, 2), (0, 10), (4, 0), (7, 0), (1, 0), (7, 0)] : List (Int × Int))[i_]? = some x_ → (i_ : Int) < w0 → v 102 i_ = x_.1 ∧ v 103 i_ = x_.2) (l_e0 x (7)) (h.2.2.2.1)) (l_ff (f := v 102) (L := j_len 102) (l_e0 x (7)) (l_e0 x (7)) (G0.1.1)) (l_ff (f := v 103) (L := j_len 103) (l_e0 x (7)) (l_e0 x (0)) (G1.1.1))
    refine l_outH rfl (And.intro h.1 ?_)
    exact l_o1 (fun w0 : Int => (True) ∧ ((∀ (i_ : Nat) (x_ : Int × Int), ([(0, 1), (7, 0), (1, 2), (0, 10), (4, 0), (7, 0), (1, 0), (7, 0)] : List (Int × Int))[i_]? = some x_ → (i_ : Int) < w0 → v 102 i_ = x_.1 ∧ v 103 i_ = x_.2) ∧ True)) (l_e0 x (8)) K
  | skip
    intro v x h
    have G0 := h.2.2.1
    have G1 := G0.2
    have F0 : (0 : Int) ≤ 7 ∧ (7 : Int) < j_len 102 ∧ v 102 (7) = 7 := l_ff (f := v 102) (L := j_len 102) (a := y_ev x (7, [])) (b := y_ev x (7, [])) (l_e0 _ _) (l_e0 _ _) (G0.1.1)
    have F1 : (0 : Int) ≤ 7 ∧ (7 : Int) < j_len 103 ∧ v 103 (7) = 0 := l_ff (f := v 103) (L := j_len 103) (a := y_ev x (7, [])) (b := y_ev x (0, [])) (l_e0 _ _) (l_e0 _ _) (G1.1.1)
    have E0 : y_ev x (7, []) = 7 := (l_e0 _ _)
    have T0 : ∀ (i_ : Nat) (x_ : Int × Int), ([(0, 1), (7, 0), (1, 2), (0, 10), (4, 0), (7, 0), (1, 0), (7, 0)] : List (Int × Int))[i_]? = some x_ → (i_ : Int) < (y_ev x (7, [])) → v 102 i_ = x_.1 ∧ v 103 i_ = x_.2 := h.2.2.2.1
    (try rw [E0] at T0)
    have K := k_cli_7 (V := v) T0 F0 F1
    refine l_outH rfl (And.intro h.1 ?_)
    have O0 : y_ev x (8, []) = 8 := l_e0 _ _
    show (True) ∧ ((∀ (i_ : Nat) (x_ : Int × Int), ([(0, 1), (7, 0), (1, 2), (0, 10), (4, 0), (7, 0), (1, 0), (7, 0)] : List (Int × Int))[i_]? = some x_ → (i_ : Int) < (y_ev x (8, [])) → v 102 i_ = x_.1 ∧ v 103 i_ = x_.2) ∧ True)
    (try rw [O0])
    exact K
def lm_603 : zLem := (([], [(104, false)], [], [], [], [(0, (true, 0, 0, []), 0, 0, 0, [])], [(205, [(0, [])])]), [([], [(104, false)], [], [], [], [], [(205, [(1, [])])])])
theorem lk_603 : l_core lm_603 := by
  first
  | skip
    intro v x h
    have G0 := h.2.2.1
    have K := k_cls_0 (V := v) (l_c1 (fun w0 : Int => ∀ j_ : Int, 0 ≤ j_ → j_ < w0 → v 104 j_ = if j_ = 2 then 2 else if j_ = 3 then 6 else 0) (l_e0 x (0)) (h.2.2.2.1)) (l_ff (f := v 104) (L := j_len 104) (l_e0 x (0)) (l_e0 x (0)) (G0.1.1))
    refine l_outH rfl (And.intro h.1 ?_)
    exact l_o1 (fun w0 : Int => (True) ∧ ((∀ j_ : Int, 0 ≤ j_ → j_ < w0 → v 104 j_ = if j_ = 2 then 2 else if j_ = 3 then 6 else 0) ∧ True)) (l_e0 x (1)) K
  | skip
    intro v x h
    have G0 := h.2.2.1
    have F0 : (0 : Int) ≤ 0 ∧ (0 : Int) < j_len 104 ∧ v 104 (0) = 0 := l_ff (f := v 104) (L := j_len 104) (a := y_ev x (0, [])) (b := y_ev x (0, [])) (l_e0 _ _) (l_e0 _ _) (G0.1.1)
    have E0 : y_ev x (0, []) = 0 := (l_e0 _ _)
    have T0 : ∀ j_ : Int, 0 ≤ j_ → j_ < (y_ev x (0, [])) → v 104 j_ = if j_ = 2 then 2 else if j_ = 3 then 6 else 0 := h.2.2.2.1
    (try rw [E0] at T0)
    have K := k_cls_0 (V := v) T0 F0
    refine l_outH rfl (And.intro h.1 ?_)
    have O0 : y_ev x (1, []) = 1 := l_e0 _ _
    show (True) ∧ ((∀ j_ : Int, 0 ≤ j_ → j_ < (y_ev x (1, [])) → v 104 j_ = if j_ = 2 then 2 else if j_ = 3 then 6 else 0) ∧ True)
    (try rw [O0])
    exact K
def lm_604 : zLem := (([], [(104, false)], [], [], [], [(0, (true, 0, 1, []), 0, 0, 0, [])], [(205, [(1, [])])]), [([], [(104, false)], [], [], [], [], [(205, [(2, [])])])])
theorem lk_604 : l_core lm_604 := by
  first
  | skip
    intro v x h
    have G0 := h.2.2.1
    have K := k_cls_1 (V := v) (l_c1 (fun w0 : Int => ∀ j_ : Int, 0 ≤ j_ → j_ < w0 → v 104 j_ = if j_ = 2 then 2 else if j_ = 3 then 6 else 0) (l_e0 x (1)) (h.2.2.2.1)) (l_ff (f := v 104) (L := j_len 104) (l_e0 x (1)) (l_e0 x (0)) (G0.1.1))
    refine l_outH rfl (And.intro h.1 ?_)
    exact l_o1 (fun w0 : Int => (True) ∧ ((∀ j_ : Int, 0 ≤ j_ → j_ < w0 → v 104 j_ = if j_ = 2 then 2 else if j_ = 3 then 6 else 0) ∧ True)) (l_e0 x (2)) K
  | skip
    intro v x h
    have G0 := h.2.2.1
    have F0 : (0 : Int) ≤ 1 ∧ (1 : Int) < j_len 104 ∧ v 104 (1) = 0 := l_ff (f := v 104) (L := j_len 104) (a := y_ev x (1, [])) (b := y_ev x (0, [])) (l_e0 _ _) (l_e0 _ _) (G0.1.1)
    have E0 : y_ev x (1, []) = 1 := (l_e0 _ _)
    have T0 : ∀ j_ : Int, 0 ≤ j_ → j_ < (y_ev x (1, [])) → v 104 j_ = if j_ = 2 then 2 else if j_ = 3 then 6 else 0 := h.2.2.2.1
    (try rw [E0] at T0)
    have K := k_cls_1 (V := v) T0 F0
    refine l_outH rfl (And.intro h.1 ?_)
    have O0 : y_ev x (2, []) = 2 := l_e0 _ _
    show (True) ∧ ((∀ j_ : Int, 0 ≤ j_ → j_ < (y_ev x (2, [])) → v 104 j_ = if j_ = 2 then 2 else if j_ = 3 then 6 else 0) ∧ True)
    (try rw [O0])
    exact K
def lm_605 : zLem := (([], [(104, false)], [], [], [], [(0, (true, 0, 2, []), 0, 0, 2, [])], [(205, [(2, [])])]), [([], [(104, false)], [], [], [], [], [(205, [(3, [])])])])
theorem lk_605 : l_core lm_605 := by
  first
  | skip
    intro v x h
    have G0 := h.2.2.1
    have K := k_cls_2 (V := v) (l_c1 (fun w0 : Int => ∀ j_ : Int, 0 ≤ j_ → j_ < w0 → v 104 j_ = if j_ = 2 then 2 else if j_ = 3 then 6 else 0) (l_e0 x (2)) (h.2.2.2.1)) (l_ff (f := v 104) (L := j_len 104) (l_e0 x (2)) (l_e0 x (2)) (G0.1.1))
    refine l_outH rfl (And.intro h.1 ?_)
    exact l_o1 (fun w0 : Int => (True) ∧ ((∀ j_ : Int, 0 ≤ j_ → j_ < w0 → v 104 j_ = if j_ = 2 then 2 else if j_ = 3 then 6 else 0) ∧ True)) (l_e0 x (3)) K
  | skip
    intro v x h
    have G0 := h.2.2.1
    have F0 : (0 : Int) ≤ 2 ∧ (2 : Int) < j_len 104 ∧ v 104 (2) = 2 := l_ff (f := v 104) (L := j_len 104) (a := y_ev x (2, [])) (b := y_ev x (2, [])) (l_e0 _ _) (l_e0 _ _) (G0.1.1)
    have E0 : y_ev x (2, []) = 2 := (l_e0 _ _)
    have T0 : ∀ j_ : Int, 0 ≤ j_ → j_ < (y_ev x (2, [])) → v 104 j_ = if j_ = 2 then 2 else if j_ = 3 then 6 else 0 := h.2.2.2.1
    (try rw [E0] at T0)
    have K := k_cls_2 (V := v) T0 F0
    refine l_outH rfl (And.intro h.1 ?_)
    have O0 : y_ev x (3, []) = 3 := l_e0 _ _
    show (True) ∧ ((∀ j_ : Int, 0 ≤ j_ → j_ < (y_ev x (3, [])) → v 104 j_ = if j_ = 2 then 2 else if j_ = 3 then 6 else 0) ∧ True)
    (try rw [O0])
    exact K
def lm_606 : zLem := (([], [(104, false)], [], [], [], [(0, (true, 0, 3, []), 0, 0, 6, [])], [(205, [(3, [])])]), [([], [(104, false)], [], [], [], [], [(205, [(4, [])])])])
theorem lk_606 : l_core lm_606 := by
  first
  | skip
    intro v x h
    have G0 := h.2.2.1
    have K := k_cls_3 (V := v) (l_c1 (fun w0 : Int => ∀ j_ : Int, 0 ≤ j_ → j_ < w0 → v 104 j_ = if j_ = 2 then 2 else if j_ = 3 then 6 else 0) (l_e0 x (3)) (h.2.2.2.1)) (l_ff (f := v 104) (L := j_len 104) (l_e0 x (3)) (l_e0 x (6)) (G0.1.1))
    refine l_outH rfl (And.intro h.1 ?_)
    exact l_o1 (fun w0 : Int => (True) ∧ ((∀ j_ : Int, 0 ≤ j_ → j_ < w0 → v 104 j_ = if j_ = 2 then 2 else if j_ = 3 then 6 else 0) ∧ True)) (l_e0 x (4)) K
  | skip
    intro v x h
    have G0 := h.2.2.1
    have F0 : (0 : Int) ≤ 3 ∧ (3 : Int) < j_len 104 ∧ v 104 (3) = 6 := l_ff (f := v 104) (L := j_len 104) (a := y_ev x (3, [])) (b := y_ev x (6, [])) (l_e0 _ _) (l_e0 _ _) (G0.1.1)
    have E0 : y_ev x (3, []) = 3 := (l_e0 _ _)
    have T0 : ∀ j_ : Int, 0 ≤ j_ → j_ < (y_ev x (3, [])) → v 104 j_ = if j_ = 2 then 2 else if j_ = 3 then 6 else 0 := h.2.2.2.1
    (try rw [E0] at T0)
    have K := k_cls_3 (V := v) T0 F0
    refine l_outH rfl (And.intro h.1 ?_)
    have O0 : y_ev x (4, []) = 4 := l_e0 _ _
    show (True) ∧ ((∀ j_ : Int, 0 ≤ j_ → j_ < (y_ev x (4, [])) → v 104 j_ = if j_ = 2 then 2 else if j_ = 3 then 6 else 0) ∧ True)
    (try rw [O0])
    exact K
def lm_607 : zLem := (([((-2147483648), 2147483647), ((-2147483648), 2147483647), ((-2147483648), 2147483647), ((-9223372036854775808), 9223372036854775807)], [(1, false)], [], [], [], [(0, (false, 4, 0, []), 0, 0, 0, [(1, 1)])], [(36, [(0, [(0, 1)]), (0, [(1, 1)]), (3, []), (0, [(2, 1)]), (0, [(3, 1)])])]), [([((-2147483648), 2147483647), ((-2147483648), 2147483647), ((-2147483648), 2147483647), ((-9223372036854775808), 9223372036854775807)], [(1, false)], [(0, [(3, 1)]), (9999, [(3, (-1))])], [], [], [], [])])
theorem lk_607 : l_core lm_607 := by
  first
  | skip
    intro v x h
    have K := k_kdi (V := v) (n := x 0) (c := x 1) (s := x 2) (v := x 3) (l_c5 (fun w0 w1 w2 w3 w4 : Int => q_tok (t_b v) w0 w1 w2 w3 w4) (l_e1 x 0) (l_e1 x 1) (l_e0 x (3)) (l_e1 x 2) (l_e1 x 3) (h.2.2.2.1))
    refine l_outH rfl (And.intro h.1 ?_)
    exact l_o2 (fun w0 w1 : Int => (0 ≤ w0 ∧ 0 ≤ w1 ∧ True) ∧ (True)) (l_e1 x 3) (l_q1 9999 x 3) K
  | skip
    intro v x h
    have E0 : y_ev x (0, [(0, 1)]) = x 0 := (l_e1 _ _)
    have E1 : y_ev x (0, [(1, 1)]) = x 1 := (l_e1 _ _)
    have E2 : y_ev x (3, []) = 3 := (l_e0 _ _)
    have E3 : y_ev x (0, [(2, 1)]) = x 2 := (l_e1 _ _)
    have E4 : y_ev x (0, [(3, 1)]) = x 3 := (l_e1 _ _)
    have T0 : q_tok (t_b v) (y_ev x (0, [(0, 1)])) (y_ev x (0, [(1, 1)])) (y_ev x (3, [])) (y_ev x (0, [(2, 1)])) (y_ev x (0, [(3, 1)])) := h.2.2.2.1
    (try rw [E0] at T0); (try rw [E1] at T0); (try rw [E2] at T0); (try rw [E3] at T0); (try rw [E4] at T0)
    have K := k_kdi (V := v) (n := x 0) (c := x 1) (s := x 2) (v := x 3) T0
    refine l_outH rfl (And.intro h.1 ?_)
    have O0 : y_ev x (0, [(3, 1)]) = x 3 := l_e1 _ _
    have O1 : y_ev x (9999, [(3, (-1))]) = 9999 - x 3 := by show ((9999) : Int) + ((-1) * x 3 + 0) = _; omega
    show (0 ≤ y_ev x (0, [(3, 1)]) ∧ 0 ≤ y_ev x (9999, [(3, (-1))]) ∧ True) ∧ (True)
    (try rw [O0]); (try rw [O1])
    exact K
def lm_608 : zLem := (([((-2147483648), 2147483647), ((-2147483648), 2147483647), ((-2147483648), 2147483647), ((-2147483648), 2147483647)], [(1, false), (101, false)], [], [], [], [(0, (false, 4, 0, []), 0, 0, 0, [(1, 1)]), (1, (false, 4, 0, []), 0, 0, 0, [(2, 1)])], [(201, [(0, [(0, 1)]), (0, [(1, 1)]), (0, [(2, 1)]), (0, [(3, 1)])])]), [([((-2147483648), 2147483647), ((-2147483648), 2147483647), ((-2147483648), 2147483647), ((-2147483648), 2147483647)], [(1, false), (101, false)], [(9, [(1, 1), (2, (-1))]), (0, [(2, 1)])], [], [], [], [])])
theorem lk_608 : l_core lm_608 := by
  first
  | skip
    intro v x h
    have K := k_cylen (V := v) (n := x 0) (c := x 1) (l := x 2) (v := x 3) (l_c4 (fun w0 w1 w2 w3 : Int => q_cy (t_b v) (v 102) (v 103) (v 104) w0 w1 w2 w3) (l_e1 x 0) (l_e1 x 1) (l_e1 x 2) (l_e1 x 3) (h.2.2.2.1))
    refine l_outH rfl (And.intro h.1 ?_)
    exact l_o2 (fun w0 w1 : Int => (0 ≤ w0 ∧ 0 ≤ w1 ∧ True) ∧ (True)) (l_q13 9 x 1 2) (l_e1 x 2) K
  | skip
    intro v x h
    have E0 : y_ev x (0, [(0, 1)]) = x 0 := (l_e1 _ _)
    have E1 : y_ev x (0, [(1, 1)]) = x 1 := (l_e1 _ _)
    have E2 : y_ev x (0, [(2, 1)]) = x 2 := (l_e1 _ _)
    have E3 : y_ev x (0, [(3, 1)]) = x 3 := (l_e1 _ _)
    have T0 : q_cy (t_b v) (v 102) (v 103) (v 104) (y_ev x (0, [(0, 1)])) (y_ev x (0, [(1, 1)])) (y_ev x (0, [(2, 1)])) (y_ev x (0, [(3, 1)])) := h.2.2.2.1
    (try rw [E0] at T0); (try rw [E1] at T0); (try rw [E2] at T0); (try rw [E3] at T0)
    have K := k_cylen (V := v) (n := x 0) (c := x 1) (l := x 2) (v := x 3) T0
    refine l_outH rfl (And.intro h.1 ?_)
    have O0 : y_ev x (9, [(1, 1), (2, (-1))]) = x 1 - x 2 + 9 := by show ((9) : Int) + ((1) * x 1 + ((-1) * x 2 + 0)) = _; omega
    have O1 : y_ev x (0, [(2, 1)]) = x 2 := l_e1 _ _
    show (0 ≤ y_ev x (9, [(1, 1), (2, (-1))]) ∧ 0 ≤ y_ev x (0, [(2, 1)]) ∧ True) ∧ (True)
    (try rw [O0]); (try rw [O1])
    exact K
def lm_609pi_0 (t : List (Int × Int)) : List (Int × Int) := ((-2147483648), 2147483647) :: ((-2147483648), 2147483647) :: ((-2147483648), 2147483647) :: ((-2147483648), 2147483647) :: ((-2147483648), 2147483647) :: ((-9223372036854775808), 9223372036854775807) :: ((-2147483648), 2147483647) :: ((-2147483648), 2147483647) :: t
def lm_609pi_1 (t : List (Int × Int)) : List (Int × Int) := ((-2147483648), 2147483647) :: ((-2147483648), 2147483647) :: ((-2147483648), 2147483647) :: t
def lm_609p : zS := ((lm_609pi_0 (lm_609pi_1 [])), [(1, false)], [(400, [(1, (-1))]), ((-260), [(3, 1)]), (263, [(3, (-1))])], [], [], [(0, (false, 4, 0, []), 0, 0, 0, [(1, 1)])], [(201, [(0, [(0, 1)]), ((-1), [(1, 1)]), (0, [(2, 1)]), (0, [])]), (40, [(0, [(0, 1)]), ((-1), [(1, 1)]), (0, []), (0, []), (0, []), (0, [(6, 1)]), (0, [(7, 1)]), (0, [(8, 1)]), (0, [(9, 1)]), (0, [(10, 1)])]), (36, [(0, [(0, 1)]), ((-1), [(1, 1)]), (0, [(3, 1)]), (0, [(4, 1)]), (0, [(5, 1)])])])
def lm_609 : zLem := (lm_609p, [([((-2147483648), 2147483647), ((-2147483648), 2147483647), ((-2147483648), 2147483647), ((-2147483648), 2147483647), ((-2147483648), 2147483647), ((-9223372036854775808), 9223372036854775807), ((-2147483648), 2147483647), ((-2147483648), 2147483647), ((-2147483648), 2147483647), ((-2147483648), 2147483647), ((-2147483648), 2147483647)], [(1, false)], [], [], [], [], [(201, [(0, [(0, 1)]), (0, [(1, 1)]), (0, [(2, 1)]), (0, [])])])])
theorem lk_609 : l_core lm_609 := by
  first
  | skip
    intro v x h
    have K := k_cylaw (V := v) (n := x 0) (d := x 1) (l := x 2) (kd := x 3) (s := x 4) (v := x 5) (H := x 6) (L := x 7) (W := x 8) (P := x 9) (S := x 10) (l_c4 (fun w0 w1 w2 w3 : Int => q_cy (t_b v) (v 102) (v 103) (v 104) w0 w1 w2 w3) (l_e1 x 0) (l_q2 1 x 1) (l_e1 x 2) (l_e0 x (0)) (h.2.2.2.1)) (l_c8 (fun w0 w1 w2 w3 w4 w5 w6 w7 : Int => q_run2 (t_b v) w0 w1 w2 w2 w2 w3 w4 w5 w6 w7) (l_e1 x 0) (l_q2 1 x 1) (l_e0 x (0)) (l_e1 x 6) (l_e1 x 7) (l_e1 x 8) (l_e1 x 9) (l_e1 x 10) (h.2.2.2.2.1)) (l_c5 (fun w0 w1 w2 w3 w4 : Int => q_tok (t_b v) w0 w1 w2 w3 w4) (l_e1 x 0) (l_q2 1 x 1) (l_e1 x 3) (l_e1 x 4) (l_e1 x 5) (h.2.2.2.2.2.1)) (l_cc (l_q1 400 x 1) (h.2.1.1)) (l_cc (l_q2 260 x 3) (h.2.1.2.1)) (l_cc (l_q1 263 x 3) (h.2.1.2.2.1))
    refine l_outH rfl (And.intro h.1 ?_)
    exact l_o4 (fun w0 w1 w2 w3 : Int => (True) ∧ (q_cy (t_b v) (v 102) (v 103) (v 104) w0 w1 w2 w3 ∧ True)) (l_e1 x 0) (l_e1 x 1) (l_e1 x 2) (l_e0 x (0)) K
  | skip
    intro v x h
    have C0 : (0 : Int) ≤ 400 - x 1 := l_cc (a := y_ev x (400, [(1, (-1))])) (by show ((400) : Int) + ((-1) * x 1 + 0) = 400 - x 1; omega) (h.2.1.1)
    have C1 : (0 : Int) ≤ x 3 - 260 := l_cc (a := y_ev x ((-260), [(3, 1)])) (by show ((-260) : Int) + ((1) * x 3 + 0) = x 3 - 260; omega) (h.2.1.2.1)
    have C2 : (0 : Int) ≤ 263 - x 3 := l_cc (a := y_ev x (263, [(3, (-1))])) (by show ((263) : Int) + ((-1) * x 3 + 0) = 263 - x 3; omega) (h.2.1.2.2.1)
    have E0 : y_ev x (0, [(0, 1)]) = x 0 := (l_e1 _ _)
    have E1 : y_ev x ((-1), [(1, 1)]) = x 1 - 1 := (by show ((-1) : Int) + ((1) * x 1 + 0) = x 1 - 1; omega)
    have E2 : y_ev x (0, [(2, 1)]) = x 2 := (l_e1 _ _)
    have E3 : y_ev x (0, []) = 0 := (l_e0 _ _)
    have E4 : y_ev x (0, [(6, 1)]) = x 6 := (l_e1 _ _)
    have E5 : y_ev x (0, [(7, 1)]) = x 7 := (l_e1 _ _)
    have E6 : y_ev x (0, [(8, 1)]) = x 8 := (l_e1 _ _)
    have E7 : y_ev x (0, [(9, 1)]) = x 9 := (l_e1 _ _)
    have E8 : y_ev x (0, [(10, 1)]) = x 10 := (l_e1 _ _)
    have E9 : y_ev x (0, [(3, 1)]) = x 3 := (l_e1 _ _)
    have E10 : y_ev x (0, [(4, 1)]) = x 4 := (l_e1 _ _)
    have E11 : y_ev x (0, [(5, 1)]) = x 5 := (l_e1 _ _)
    have T0 : q_cy (t_b v) (v 102) (v 103) (v 104) (y_ev x (0, [(0, 1)])) (y_ev x ((-1), [(1, 1)])) (y_ev x (0, [(2, 1)])) (y_ev x (0, [])) := h.2.2.2.1
    (try rw [E0] at T0); (try rw [E1] at T0); (try rw [E2] at T0); (try rw [E3] at T0)
    have T1 : q_run2 (t_b v) (y_ev x (0, [(0, 1)])) (y_ev x ((-1), [(1, 1)])) (y_ev x (0, [])) (y_ev x (0, [])) (y_ev x (0, [])) (y_ev x (0, [(6, 1)])) (y_ev x (0, [(7, 1)])) (y_ev x (0, [(8, 1)])) (y_ev x (0, [(9, 1)])) (y_ev x (0, [(10, 1)])) := h.2.2.2.2.1
    (try rw [E0] at T1); (try rw [E1] at T1); (try rw [E3] at T1); (try rw [E4] at T1); (try rw [E5] at T1); (try rw [E6] at T1); (try rw [E7] at T1); (try rw [E8] at T1)
    have T2 : q_tok (t_b v) (y_ev x (0, [(0, 1)])) (y_ev x ((-1), [(1, 1)])) (y_ev x (0, [(3, 1)])) (y_ev x (0, [(4, 1)])) (y_ev x (0, [(5, 1)])) := h.2.2.2.2.2.1
    (try rw [E0] at T2); (try rw [E1] at T2); (try rw [E9] at T2); (try rw [E10] at T2); (try rw [E11] at T2)
    have K := k_cylaw (V := v) (n := x 0) (d := x 1) (l := x 2) (kd := x 3) (s := x 4) (v := x 5) (H := x 6) (L := x 7) (W := x 8) (P := x 9) (S := x 10) T0 T1 T2 C0 C1 C2
    refine l_outH rfl (And.intro h.1 ?_)
    have O0 : y_ev x (0, [(0, 1)]) = x 0 := l_e1 _ _
    have O1 : y_ev x (0, [(1, 1)]) = x 1 := l_e1 _ _
    have O2 : y_ev x (0, [(2, 1)]) = x 2 := l_e1 _ _
    have O3 : y_ev x (0, []) = 0 := l_e0 _ _
    show (True) ∧ (q_cy (t_b v) (v 102) (v 103) (v 104) (y_ev x (0, [(0, 1)])) (y_ev x (0, [(1, 1)])) (y_ev x (0, [(2, 1)])) (y_ev x (0, [])) ∧ True)
    (try rw [O0]); (try rw [O1]); (try rw [O2]); (try rw [O3])
    exact K
def lm_610pi_0 (t : List (Int × Int)) : List (Int × Int) := ((-2147483648), 2147483647) :: ((-2147483648), 2147483647) :: ((-2147483648), 2147483647) :: ((-2147483648), 2147483647) :: ((-2147483648), 2147483647) :: ((-9223372036854775808), 9223372036854775807) :: ((-2147483648), 2147483647) :: ((-9223372036854775808), 9223372036854775807) :: t
def lm_610pi_1 (t : List (Int × Int)) : List (Int × Int) := ((-2147483648), 2147483647) :: ((-2147483648), 2147483647) :: ((-2147483648), 2147483647) :: ((-2147483648), 2147483647) :: ((-2147483648), 2147483647) :: ((-2147483648), 2147483647) :: ((-2147483648), 2147483647) :: ((-2147483648), 2147483647) :: t
def lm_610pi_2 (t : List (Int × Int)) : List (Int × Int) := ((-2147483648), 2147483647) :: ((-2147483648), 2147483647) :: t
def lm_610pg_0 (t : List zTg) : List zTg := (201, [(0, [(0, 1)]), ((-1), [(1, 1)]), (0, [(2, 1)]), (0, [])]) :: (40, [(0, [(0, 1)]), ((-1), [(1, 1)]), (20, []), (0, []), (0, []), (0, [(12, 1)]), (0, [(13, 1)]), (0, [(14, 1)]), (0, [(15, 1)]), (0, [(16, 1)])]) :: (36, [(0, [(0, 1)]), ((-1), [(1, 1)]), (61, []), (0, [(4, 1)]), (0, [(5, 1)])]) :: (40, [(0, [(0, 1)]), ((-2), [(1, 1)]), (0, []), (0, []), (0, []), (0, [(8, 1)]), (0, [(9, 1)]), (0, [(10, 1)]), (0, [(11, 1)]), (0, [(17, 1)])]) :: (36, [(0, [(0, 1)]), ((-2), [(1, 1)]), (260, [(3, 1)]), (0, [(6, 1)]), (0, [(7, 1)])]) :: t
def lm_610p : zS := ((lm_610pi_0 (lm_610pi_1 (lm_610pi_2 []))), [(1, false)], [(400, [(1, (-1))]), (0, [(3, 1)]), (3, [(3, (-1))])], [], [(0, 0, 0, [(3, 1)])], [(0, (false, 4, 0, []), 0, 0, 0, [(1, 1)])], (lm_610pg_0 []))
def lm_610q0 : zS := ((lm_610pi_0 (lm_610pi_1 (lm_610pi_2 []))), [(1, false)], [], [], [], [], [(201, [(0, [(0, 1)]), (0, [(1, 1)]), (0, [(2, 1)]), (0, [])]), (209, [(0, [(0, 1)]), (0, [(1, 1)])]), (211, [(0, [(0, 1)]), (0, [(1, 1)]), (0, [(2, 1)]), (0, [(3, 1)])])])
def lm_610 : zLem := (lm_610p, [lm_610q0])
theorem lk_610 : l_core lm_610 := by
  first
  | skip
    intro v x h
    have K := k_cyeq (V := v) (n := x 0) (d := x 1) (l := x 2) (k := x 3) (s := x 4) (v := x 5) (s2 := x 6) (v2 := x 7) (H2 := x 8) (L2 := x 9) (W2 := x 10) (P2 := x 11) (H := x 12) (L := x 13) (W := x 14) (P := x 15) (S := x 16) (S2 := x 17) (l_c4 (fun w0 w1 w2 w3 : Int => q_cy (t_b v) (v 102) (v 103) (v 104) w0 w1 w2 w3) (l_e1 x 0) (l_q2 1 x 1) (l_e1 x 2) (l_e0 x (0)) (h.2.2.2.1)) (l_c9 (fun w0 w1 w2 w3 w4 w5 w6 w7 w8 : Int => q_run2 (t_b v) w0 w1 w2 w3 w3 w4 w5 w6 w7 w8) (l_e1 x 0) (l_q2 1 x 1) (l_e0 x (20)) (l_e0 x (0)) (l_e1 x 12) (l_e1 x 13) (l_e1 x 14) (l_e1 x 15) (l_e1 x 16) (h.2.2.2.2.1)) (l_c5 (fun w0 w1 w2 w3 w4 : Int => q_tok (t_b v) w0 w1 w2 w3 w4) (l_e1 x 0) (l_q2 1 x 1) (l_e0 x (61)) (l_e1 x 4) (l_e1 x 5) (h.2.2.2.2.2.1)) (l_c8 (fun w0 w1 w2 w3 w4 w5 w6 w7 : Int => q_run2 (t_b v) w0 w1 w2 w2 w2 w3 w4 w5 w6 w7) (l_e1 x 0) (l_q2 2 x 1) (l_e0 x (0)) (l_e1 x 8) (l_e1 x 9) (l_e1 x 10) (l_e1 x 11) (l_e1 x 17) (h.2.2.2.2.2.2.1)) (l_c5 (fun w0 w1 w2 w3 w4 : Int => q_tok (t_b v) w0 w1 w2 w3 w4) (l_e1 x 0) (l_q2 2 x 1) (l_q3 260 x 3) (l_e1 x 6) (l_e1 x 7) (h.2.2.2.2.2.2.2.1)) (l_cc (l_q1 400 x 1) (h.2.1.1)) (l_cc (l_e1 x 3) (h.2.1.2.1)) (l_cc (l_q1 3 x 3) (h.2.1.2.2.1))
    refine l_outH rfl (And.intro h.1 ?_)
    exact l_o5 (fun w0 w1 w2 w3 w4 : Int => (True) ∧ (q_cy (t_b v) (v 102) (v 103) (v 104) w0 w1 w2 w3 ∧ (p_A (p_w (t_b v) w0 w1) = []) ∧ q_beg (t_b v) w0 w1 w2 w4 ∧ True)) (l_e1 x 0) (l_e1 x 1) (l_e1 x 2) (l_e0 x (0)) (l_e1 x 3) K
  | skip
    intro v x h
    have C0 : (0 : Int) ≤ 400 - x 1 := l_cc (a := y_ev x (400, [(1, (-1))])) (by show ((400) : Int) + ((-1) * x 1 + 0) = 400 - x 1; omega) (h.2.1.1)
    have C1 : (0 : Int) ≤ x 3 := l_cc (a := y_ev x (0, [(3, 1)])) (l_e1 _ _) (h.2.1.2.1)
    have C2 : (0 : Int) ≤ 3 - x 3 := l_cc (a := y_ev x (3, [(3, (-1))])) (by show ((3) : Int) + ((-1) * x 3 + 0) = 3 - x 3; omega) (h.2.1.2.2.1)
    have E0 : y_ev x (0, [(0, 1)]) = x 0 := (l_e1 _ _)
    have E1 : y_ev x ((-1), [(1, 1)]) = x 1 - 1 := (by show ((-1) : Int) + ((1) * x 1 + 0) = x 1 - 1; omega)
    have E2 : y_ev x (0, [(2, 1)]) = x 2 := (l_e1 _ _)
    have E3 : y_ev x (0, []) = 0 := (l_e0 _ _)
    have E4 : y_ev x (20, []) = 20 := (l_e0 _ _)
    have E5 : y_ev x (0, [(12, 1)]) = x 12 := (l_e1 _ _)
    have E6 : y_ev x (0, [(13, 1)]) = x 13 := (l_e1 _ _)
    have E7 : y_ev x (0, [(14, 1)]) = x 14 := (l_e1 _ _)
    have E8 : y_ev x (0, [(15, 1)]) = x 15 := (l_e1 _ _)
    have E9 : y_ev x (0, [(16, 1)]) = x 16 := (l_e1 _ _)
    have E10 : y_ev x (61, []) = 61 := (l_e0 _ _)
    have E11 : y_ev x (0, [(4, 1)]) = x 4 := (l_e1 _ _)
    have E12 : y_ev x (0, [(5, 1)]) = x 5 := (l_e1 _ _)
    have E13 : y_ev x ((-2), [(1, 1)]) = x 1 - 2 := (by show ((-2) : Int) + ((1) * x 1 + 0) = x 1 - 2; omega)
    have E14 : y_ev x (0, [(8, 1)]) = x 8 := (l_e1 _ _)
    have E15 : y_ev x (0, [(9, 1)]) = x 9 := (l_e1 _ _)
    have E16 : y_ev x (0, [(10, 1)]) = x 10 := (l_e1 _ _)
    have E17 : y_ev x (0, [(11, 1)]) = x 11 := (l_e1 _ _)
    have E18 : y_ev x (0, [(17, 1)]) = x 17 := (l_e1 _ _)
    have E19 : y_ev x (260, [(3, 1)]) = x 3 + 260 := (by show ((260) : Int) + ((1) * x 3 + 0) = x 3 + 260; omega)
    have E20 : y_ev x (0, [(6, 1)]) = x 6 := (l_e1 _ _)
    have E21 : y_ev x (0, [(7, 1)]) = x 7 := (l_e1 _ _)
    have T0 : q_cy (t_b v) (v 102) (v 103) (v 104) (y_ev x (0, [(0, 1)])) (y_ev x ((-1), [(1, 1)])) (y_ev x (0, [(2, 1)])) (y_ev x (0, [])) := h.2.2.2.1
    (try rw [E0] at T0); (try rw [E1] at T0); (try rw [E2] at T0); (try rw [E3] at T0)
    have T1 : q_run2 (t_b v) (y_ev x (0, [(0, 1)])) (y_ev x ((-1), [(1, 1)])) (y_ev x (20, [])) (y_ev x (0, [])) (y_ev x (0, [])) (y_ev x (0, [(12, 1)])) (y_ev x (0, [(13, 1)])) (y_ev x (0, [(14, 1)])) (y_ev x (0, [(15, 1)])) (y_ev x (0, [(16, 1)])) := h.2.2.2.2.1
    (try rw [E0] at T1); (try rw [E1] at T1); (try rw [E4] at T1); (try rw [E3] at T1); (try rw [E5] at T1); (try rw [E6] at T1); (try rw [E7] at T1); (try rw [E8] at T1); (try rw [E9] at T1)
    have T2 : q_tok (t_b v) (y_ev x (0, [(0, 1)])) (y_ev x ((-1), [(1, 1)])) (y_ev x (61, [])) (y_ev x (0, [(4, 1)])) (y_ev x (0, [(5, 1)])) := h.2.2.2.2.2.1
    (try rw [E0] at T2); (try rw [E1] at T2); (try rw [E10] at T2); (try rw [E11] at T2); (try rw [E12] at T2)
    have T3 : q_run2 (t_b v) (y_ev x (0, [(0, 1)])) (y_ev x ((-2), [(1, 1)])) (y_ev x (0, [])) (y_ev x (0, [])) (y_ev x (0, [])) (y_ev x (0, [(8, 1)])) (y_ev x (0, [(9, 1)])) (y_ev x (0, [(10, 1)])) (y_ev x (0, [(11, 1)])) (y_ev x (0, [(17, 1)])) := h.2.2.2.2.2.2.1
    (try rw [E0] at T3); (try rw [E13] at T3); (try rw [E3] at T3); (try rw [E14] at T3); (try rw [E15] at T3); (try rw [E16] at T3); (try rw [E17] at T3); (try rw [E18] at T3)
    have T4 : q_tok (t_b v) (y_ev x (0, [(0, 1)])) (y_ev x ((-2), [(1, 1)])) (y_ev x (260, [(3, 1)])) (y_ev x (0, [(6, 1)])) (y_ev x (0, [(7, 1)])) := h.2.2.2.2.2.2.2.1
    (try rw [E0] at T4); (try rw [E13] at T4); (try rw [E19] at T4); (try rw [E20] at T4); (try rw [E21] at T4)
    have K := k_cyeq (V := v) (n := x 0) (d := x 1) (l := x 2) (k := x 3) (s := x 4) (v := x 5) (s2 := x 6) (v2 := x 7) (H2 := x 8) (L2 := x 9) (W2 := x 10) (P2 := x 11) (H := x 12) (L := x 13) (W := x 14) (P := x 15) (S := x 16) (S2 := x 17) T0 T1 T2 T3 T4 C0 C1 C2
    refine l_outH rfl (And.intro h.1 ?_)
    have O0 : y_ev x (0, [(0, 1)]) = x 0 := l_e1 _ _
    have O1 : y_ev x (0, [(1, 1)]) = x 1 := l_e1 _ _
    have O2 : y_ev x (0, [(2, 1)]) = x 2 := l_e1 _ _
    have O3 : y_ev x (0, []) = 0 := l_e0 _ _
    have O4 : y_ev x (0, [(3, 1)]) = x 3 := l_e1 _ _
    show (True) ∧ (q_cy (t_b v) (v 102) (v 103) (v 104) (y_ev x (0, [(0, 1)])) (y_ev x (0, [(1, 1)])) (y_ev x (0, [(2, 1)])) (y_ev x (0, [])) ∧ (p_A (p_w (t_b v) (y_ev x (0, [(0, 1)])) (y_ev x (0, [(1, 1)]))) = []) ∧ q_beg (t_b v) (y_ev x (0, [(0, 1)])) (y_ev x (0, [(1, 1)])) (y_ev x (0, [(2, 1)])) (y_ev x (0, [(3, 1)])) ∧ True)
    (try rw [O0]); (try rw [O1]); (try rw [O2]); (try rw [O3]); (try rw [O4])
    exact K
def lm_611p : zS := ((lm_609pi_0 (lm_609pi_1 [])), [(1, false)], [(400, [(1, (-1))]), ((-30), [(3, 1)]), (33, [(3, (-1))])], [], [], [(0, (false, 4, 0, []), 0, 0, 0, [(1, 1)])], [(201, [(0, [(0, 1)]), ((-1), [(1, 1)]), (0, [(2, 1)]), (0, [])]), (40, [(0, [(0, 1)]), ((-1), [(1, 1)]), (0, [(3, 1)]), (0, []), (0, []), (0, [(6, 1)]), (0, [(7, 1)]), (0, [(8, 1)]), (0, [(9, 1)]), (0, [(10, 1)])]), (36, [(0, [(0, 1)]), ((-1), [(1, 1)]), (266, []), (0, [(4, 1)]), (0, [(5, 1)])])])
def lm_611 : zLem := (lm_611p, [([((-2147483648), 2147483647), ((-2147483648), 2147483647), ((-2147483648), 2147483647), ((-2147483648), 2147483647), ((-2147483648), 2147483647), ((-9223372036854775808), 9223372036854775807), ((-2147483648), 2147483647), ((-2147483648), 2147483647), ((-2147483648), 2147483647), ((-2147483648), 2147483647), ((-2147483648), 2147483647)], [(1, false)], [], [], [], [], [(201, [(0, [(0, 1)]), (0, [(1, 1)]), (0, [(2, 1)]), (0, [])]), (209, [(0, [(0, 1)]), (0, [(1, 1)])])])])
theorem lk_611 : l_core lm_611 := by
  first
  | skip
    intro v x h
    have K := k_cyif (V := v) (n := x 0) (d := x 1) (l := x 2) (st := x 3) (s := x 4) (v := x 5) (H := x 6) (L := x 7) (W := x 8) (P := x 9) (S := x 10) (l_c4 (fun w0 w1 w2 w3 : Int => q_cy (t_b v) (v 102) (v 103) (v 104) w0 w1 w2 w3) (l_e1 x 0) (l_q2 1 x 1) (l_e1 x 2) (l_e0 x (0)) (h.2.2.2.1)) (l_c9 (fun w0 w1 w2 w3 w4 w5 w6 w7 w8 : Int => q_run2 (t_b v) w0 w1 w2 w3 w3 w4 w5 w6 w7 w8) (l_e1 x 0) (l_q2 1 x 1) (l_e1 x 3) (l_e0 x (0)) (l_e1 x 6) (l_e1 x 7) (l_e1 x 8) (l_e1 x 9) (l_e1 x 10) (h.2.2.2.2.1)) (l_c5 (fun w0 w1 w2 w3 w4 : Int => q_tok (t_b v) w0 w1 w2 w3 w4) (l_e1 x 0) (l_q2 1 x 1) (l_e0 x (266)) (l_e1 x 4) (l_e1 x 5) (h.2.2.2.2.2.1)) (l_cc (l_q1 400 x 1) (h.2.1.1)) (l_cc (l_q2 30 x 3) (h.2.1.2.1)) (l_cc (l_q1 33 x 3) (h.2.1.2.2.1))
    refine l_outH rfl (And.intro h.1 ?_)
    exact l_o4 (fun w0 w1 w2 w3 : Int => (True) ∧ (q_cy (t_b v) (v 102) (v 103) (v 104) w0 w1 w2 w3 ∧ (p_A (p_w (t_b v) w0 w1) = []) ∧ True)) (l_e1 x 0) (l_e1 x 1) (l_e1 x 2) (l_e0 x (0)) K
  | skip
    intro v x h
    have C0 : (0 : Int) ≤ 400 - x 1 := l_cc (a := y_ev x (400, [(1, (-1))])) (by show ((400) : Int) + ((-1) * x 1 + 0) = 400 - x 1; omega) (h.2.1.1)
    have C1 : (0 : Int) ≤ x 3 - 30 := l_cc (a := y_ev x ((-30), [(3, 1)])) (by show ((-30) : Int) + ((1) * x 3 + 0) = x 3 - 30; omega) (h.2.1.2.1)
    have C2 : (0 : Int) ≤ 33 - x 3 := l_cc (a := y_ev x (33, [(3, (-1))])) (by show ((33) : Int) + ((-1) * x 3 + 0) = 33 - x 3; omega) (h.2.1.2.2.1)
    have E0 : y_ev x (0, [(0, 1)]) = x 0 := (l_e1 _ _)
    have E1 : y_ev x ((-1), [(1, 1)]) = x 1 - 1 := (by show ((-1) : Int) + ((1) * x 1 + 0) = x 1 - 1; omega)
    have E2 : y_ev x (0, [(2, 1)]) = x 2 := (l_e1 _ _)
    have E3 : y_ev x (0, []) = 0 := (l_e0 _ _)
    have E4 : y_ev x (0, [(3, 1)]) = x 3 := (l_e1 _ _)
    have E5 : y_ev x (0, [(6, 1)]) = x 6 := (l_e1 _ _)
    have E6 : y_ev x (0, [(7, 1)]) = x 7 := (l_e1 _ _)
    have E7 : y_ev x (0, [(8, 1)]) = x 8 := (l_e1 _ _)
    have E8 : y_ev x (0, [(9, 1)]) = x 9 := (l_e1 _ _)
    have E9 : y_ev x (0, [(10, 1)]) = x 10 := (l_e1 _ _)
    have E10 : y_ev x (266, []) = 266 := (l_e0 _ _)
    have E11 : y_ev x (0, [(4, 1)]) = x 4 := (l_e1 _ _)
    have E12 : y_ev x (0, [(5, 1)]) = x 5 := (l_e1 _ _)
    have T0 : q_cy (t_b v) (v 102) (v 103) (v 104) (y_ev x (0, [(0, 1)])) (y_ev x ((-1), [(1, 1)])) (y_ev x (0, [(2, 1)])) (y_ev x (0, [])) := h.2.2.2.1
    (try rw [E0] at T0); (try rw [E1] at T0); (try rw [E2] at T0); (try rw [E3] at T0)
    have T1 : q_run2 (t_b v) (y_ev x (0, [(0, 1)])) (y_ev x ((-1), [(1, 1)])) (y_ev x (0, [(3, 1)])) (y_ev x (0, [])) (y_ev x (0, [])) (y_ev x (0, [(6, 1)])) (y_ev x (0, [(7, 1)])) (y_ev x (0, [(8, 1)])) (y_ev x (0, [(9, 1)])) (y_ev x (0, [(10, 1)])) := h.2.2.2.2.1
    (try rw [E0] at T1); (try rw [E1] at T1); (try rw [E4] at T1); (try rw [E3] at T1); (try rw [E5] at T1); (try rw [E6] at T1); (try rw [E7] at T1); (try rw [E8] at T1); (try rw [E9] at T1)
    have T2 : q_tok (t_b v) (y_ev x (0, [(0, 1)])) (y_ev x ((-1), [(1, 1)])) (y_ev x (266, [])) (y_ev x (0, [(4, 1)])) (y_ev x (0, [(5, 1)])) := h.2.2.2.2.2.1
    (try rw [E0] at T2); (try rw [E1] at T2); (try rw [E10] at T2); (try rw [E11] at T2); (try rw [E12] at T2)
    have K := k_cyif (V := v) (n := x 0) (d := x 1) (l := x 2) (st := x 3) (s := x 4) (v := x 5) (H := x 6) (L := x 7) (W := x 8) (P := x 9) (S := x 10) T0 T1 T2 C0 C1 C2
    refine l_outH rfl (And.intro h.1 ?_)
    have O0 : y_ev x (0, [(0, 1)]) = x 0 := l_e1 _ _
    have O1 : y_ev x (0, [(1, 1)]) = x 1 := l_e1 _ _
    have O2 : y_ev x (0, [(2, 1)]) = x 2 := l_e1 _ _
    have O3 : y_ev x (0, []) = 0 := l_e0 _ _
    show (True) ∧ (q_cy (t_b v) (v 102) (v 103) (v 104) (y_ev x (0, [(0, 1)])) (y_ev x (0, [(1, 1)])) (y_ev x (0, [(2, 1)])) (y_ev x (0, [])) ∧ (p_A (p_w (t_b v) (y_ev x (0, [(0, 1)])) (y_ev x (0, [(1, 1)]))) = []) ∧ True)
    (try rw [O0]); (try rw [O1]); (try rw [O2]); (try rw [O3])
    exact K
def lm_612p : zS := ((lm_609pi_0 (lm_609pi_1 [])), [(1, false)], [(400, [(1, (-1))]), ((-200), [(3, 1)]), (204, [(3, (-1))])], [], [], [(0, (false, 4, 0, []), 0, 0, 0, [(1, 1)])], [(201, [(0, [(0, 1)]), ((-1), [(1, 1)]), (0, [(2, 1)]), (2, [])]), (40, [(0, [(0, 1)]), ((-1), [(1, 1)]), (0, [(3, 1)]), (1, []), (0, []), (0, [(6, 1)]), (0, [(7, 1)]), (0, [(8, 1)]), (0, [(9, 1)]), (0, [(10, 1)])]), (36, [(0, [(0, 1)]), ((-1), [(1, 1)]), (60, []), (0, [(4, 1)]), (0, [(5, 1)])])])
def lm_612 : zLem := (lm_612p, [([((-2147483648), 2147483647), ((-2147483648), 2147483647), ((-2147483648), 2147483647), ((-2147483648), 2147483647), ((-2147483648), 2147483647), ((-9223372036854775808), 9223372036854775807), ((-2147483648), 2147483647), ((-2147483648), 2147483647), ((-2147483648), 2147483647), ((-2147483648), 2147483647), ((-2147483648), 2147483647)], [(1, false)], [], [], [], [], [(201, [(0, [(0, 1)]), (0, [(1, 1)]), (0, [(2, 1)]), (0, [])]), (209, [(0, [(0, 1)]), (0, [(1, 1)])])])])
theorem lk_612 : l_core lm_612 := by
  first
  | skip
    intro v x h
    have K := k_cylt (V := v) (n := x 0) (d := x 1) (l := x 2) (st := x 3) (s := x 4) (v := x 5) (H := x 6) (L := x 7) (W := x 8) (P := x 9) (S := x 10) (l_c4 (fun w0 w1 w2 w3 : Int => q_cy (t_b v) (v 102) (v 103) (v 104) w0 w1 w2 w3) (l_e1 x 0) (l_q2 1 x 1) (l_e1 x 2) (l_e0 x (2)) (h.2.2.2.1)) (l_c10 (fun w0 w1 w2 w3 w4 w5 w6 w7 w8 w9 : Int => q_run2 (t_b v) w0 w1 w2 w3 w4 w5 w6 w7 w8 w9) (l_e1 x 0) (l_q2 1 x 1) (l_e1 x 3) (l_e0 x (1)) (l_e0 x (0)) (l_e1 x 6) (l_e1 x 7) (l_e1 x 8) (l_e1 x 9) (l_e1 x 10) (h.2.2.2.2.1)) (l_c5 (fun w0 w1 w2 w3 w4 : Int => q_tok (t_b v) w0 w1 w2 w3 w4) (l_e1 x 0) (l_q2 1 x 1) (l_e0 x (60)) (l_e1 x 4) (l_e1 x 5) (h.2.2.2.2.2.1)) (l_cc (l_q1 400 x 1) (h.2.1.1)) (l_cc (l_q2 200 x 3) (h.2.1.2.1)) (l_cc (l_q1 204 x 3) (h.2.1.2.2.1))
    refine l_outH rfl (And.intro h.1 ?_)
    exact l_o4 (fun w0 w1 w2 w3 : Int => (True) ∧ (q_cy (t_b v) (v 102) (v 103) (v 104) w0 w1 w2 w3 ∧ (p_A (p_w (t_b v) w0 w1) = []) ∧ True)) (l_e1 x 0) (l_e1 x 1) (l_e1 x 2) (l_e0 x (0)) K
  | skip
    intro v x h
    have C0 : (0 : Int) ≤ 400 - x 1 := l_cc (a := y_ev x (400, [(1, (-1))])) (by show ((400) : Int) + ((-1) * x 1 + 0) = 400 - x 1; omega) (h.2.1.1)
    have C1 : (0 : Int) ≤ x 3 - 200 := l_cc (a := y_ev x ((-200), [(3, 1)])) (by show ((-200) : Int) + ((1) * x 3 + 0) = x 3 - 200; omega) (h.2.1.2.1)
    have C2 : (0 : Int) ≤ 204 - x 3 := l_cc (a := y_ev x (204, [(3, (-1))])) (by show ((204) : Int) + ((-1) * x 3 + 0) = 204 - x 3; omega) (h.2.1.2.2.1)
    have E0 : y_ev x (0, [(0, 1)]) = x 0 := (l_e1 _ _)
    have E1 : y_ev x ((-1), [(1, 1)]) = x 1 - 1 := (by show ((-1) : Int) + ((1) * x 1 + 0) = x 1 - 1; omega)
    have E2 : y_ev x (0, [(2, 1)]) = x 2 := (l_e1 _ _)
    have E3 : y_ev x (2, []) = 2 := (l_e0 _ _)
    have E4 : y_ev x (0, [(3, 1)]) = x 3 := (l_e1 _ _)
    have E5 : y_ev x (1, []) = 1 := (l_e0 _ _)
    have E6 : y_ev x (0, []) = 0 := (l_e0 _ _)
    have E7 : y_ev x (0, [(6, 1)]) = x 6 := (l_e1 _ _)
    have E8 : y_ev x (0, [(7, 1)]) = x 7 := (l_e1 _ _)
    have E9 : y_ev x (0, [(8, 1)]) = x 8 := (l_e1 _ _)
    have E10 : y_ev x (0, [(9, 1)]) = x 9 := (l_e1 _ _)
    have E11 : y_ev x (0, [(10, 1)]) = x 10 := (l_e1 _ _)
    have E12 : y_ev x (60, []) = 60 := (l_e0 _ _)
    have E13 : y_ev x (0, [(4, 1)]) = x 4 := (l_e1 _ _)
    have E14 : y_ev x (0, [(5, 1)]) = x 5 := (l_e1 _ _)
    have T0 : q_cy (t_b v) (v 102) (v 103) (v 104) (y_ev x (0, [(0, 1)])) (y_ev x ((-1), [(1, 1)])) (y_ev x (0, [(2, 1)])) (y_ev x (2, [])) := h.2.2.2.1
    (try rw [E0] at T0); (try rw [E1] at T0); (try rw [E2] at T0); (try rw [E3] at T0)
    have T1 : q_run2 (t_b v) (y_ev x (0, [(0, 1)])) (y_ev x ((-1), [(1, 1)])) (y_ev x (0, [(3, 1)])) (y_ev x (1, [])) (y_ev x (0, [])) (y_ev x (0, [(6, 1)])) (y_ev x (0, [(7, 1)])) (y_ev x (0, [(8, 1)])) (y_ev x (0, [(9, 1)])) (y_ev x (0, [(10, 1)])) := h.2.2.2.2.1
    (try rw [E0] at T1); (try rw [E1] at T1); (try rw [E4] at T1); (try rw [E5] at T1); (try rw [E6] at T1); (try rw [E7] at T1); (try rw [E8] at T1); (try rw [E9] at T1); (try rw [E10] at T1); (try rw [E11] at T1)
    have T2 : q_tok (t_b v) (y_ev x (0, [(0, 1)])) (y_ev x ((-1), [(1, 1)])) (y_ev x (60, [])) (y_ev x (0, [(4, 1)])) (y_ev x (0, [(5, 1)])) := h.2.2.2.2.2.1
    (try rw [E0] at T2); (try rw [E1] at T2); (try rw [E12] at T2); (try rw [E13] at T2); (try rw [E14] at T2)
    have K := k_cylt (V := v) (n := x 0) (d := x 1) (l := x 2) (st := x 3) (s := x 4) (v := x 5) (H := x 6) (L := x 7) (W := x 8) (P := x 9) (S := x 10) T0 T1 T2 C0 C1 C2
    refine l_outH rfl (And.intro h.1 ?_)
    have O0 : y_ev x (0, [(0, 1)]) = x 0 := l_e1 _ _
    have O1 : y_ev x (0, [(1, 1)]) = x 1 := l_e1 _ _
    have O2 : y_ev x (0, [(2, 1)]) = x 2 := l_e1 _ _
    have O3 : y_ev x (0, []) = 0 := l_e0 _ _
    show (True) ∧ (q_cy (t_b v) (v 102) (v 103) (v 104) (y_ev x (0, [(0, 1)])) (y_ev x (0, [(1, 1)])) (y_ev x (0, [(2, 1)])) (y_ev x (0, [])) ∧ (p_A (p_w (t_b v) (y_ev x (0, [(0, 1)])) (y_ev x (0, [(1, 1)]))) = []) ∧ True)
    (try rw [O0]); (try rw [O1]); (try rw [O2]); (try rw [O3])
    exact K
def lm_613p : zS := ((lm_609pi_0 (lm_609pi_1 [])), [(1, false)], [(400, [(1, (-1))]), ((-300), [(3, 1)]), (304, [(3, (-1))])], [], [], [(0, (false, 4, 0, []), 0, 0, 0, [(1, 1)])], [(201, [(0, [(0, 1)]), ((-1), [(1, 1)]), (0, [(2, 1)]), (3, [])]), (40, [(0, [(0, 1)]), ((-1), [(1, 1)]), (0, [(3, 1)]), (1, []), (0, []), (0, [(6, 1)]), (0, [(7, 1)]), (0, [(8, 1)]), (0, [(9, 1)]), (0, [(10, 1)])]), (36, [(0, [(0, 1)]), ((-1), [(1, 1)]), (267, []), (0, [(4, 1)]), (0, [(5, 1)])])])
def lm_613 : zLem := (lm_613p, [([((-2147483648), 2147483647), ((-2147483648), 2147483647), ((-2147483648), 2147483647), ((-2147483648), 2147483647), ((-2147483648), 2147483647), ((-9223372036854775808), 9223372036854775807), ((-2147483648), 2147483647), ((-2147483648), 2147483647), ((-2147483648), 2147483647), ((-2147483648), 2147483647), ((-2147483648), 2147483647)], [(1, false)], [], [], [], [], [(201, [(0, [(0, 1)]), (0, [(1, 1)]), (0, [(2, 1)]), (0, [])]), (209, [(0, [(0, 1)]), (0, [(1, 1)])]), (212, [(0, [(0, 1)]), (0, [(1, 1)]), ((-1), [(2, 1)])])])])
theorem lk_613 : l_core lm_613 := by
  first
  | skip
    intro v x h
    have K := k_cyth (V := v) (n := x 0) (d := x 1) (l := x 2) (st := x 3) (s := x 4) (v := x 5) (H := x 6) (L := x 7) (W := x 8) (P := x 9) (S := x 10) (l_c4 (fun w0 w1 w2 w3 : Int => q_cy (t_b v) (v 102) (v 103) (v 104) w0 w1 w2 w3) (l_e1 x 0) (l_q2 1 x 1) (l_e1 x 2) (l_e0 x (3)) (h.2.2.2.1)) (l_c10 (fun w0 w1 w2 w3 w4 w5 w6 w7 w8 w9 : Int => q_run2 (t_b v) w0 w1 w2 w3 w4 w5 w6 w7 w8 w9) (l_e1 x 0) (l_q2 1 x 1) (l_e1 x 3) (l_e0 x (1)) (l_e0 x (0)) (l_e1 x 6) (l_e1 x 7) (l_e1 x 8) (l_e1 x 9) (l_e1 x 10) (h.2.2.2.2.1)) (l_c5 (fun w0 w1 w2 w3 w4 : Int => q_tok (t_b v) w0 w1 w2 w3 w4) (l_e1 x 0) (l_q2 1 x 1) (l_e0 x (267)) (l_e1 x 4) (l_e1 x 5) (h.2.2.2.2.2.1)) (l_cc (l_q1 400 x 1) (h.2.1.1)) (l_cc (l_q2 300 x 3) (h.2.1.2.1)) (l_cc (l_q1 304 x 3) (h.2.1.2.2.1))
    refine l_outH rfl (And.intro h.1 ?_)
    exact l_o5 (fun w0 w1 w2 w3 w4 : Int => (True) ∧ (q_cy (t_b v) (v 102) (v 103) (v 104) w0 w1 w2 w3 ∧ (p_A (p_w (t_b v) w0 w1) = []) ∧ q_jmp (t_b v) w0 w1 w4 ∧ True)) (l_e1 x 0) (l_e1 x 1) (l_e1 x 2) (l_e0 x (0)) (l_q2 1 x 2) K
  | skip
    intro v x h
    have C0 : (0 : Int) ≤ 400 - x 1 := l_cc (a := y_ev x (400, [(1, (-1))])) (by show ((400) : Int) + ((-1) * x 1 + 0) = 400 - x 1; omega) (h.2.1.1)
    have C1 : (0 : Int) ≤ x 3 - 300 := l_cc (a := y_ev x ((-300), [(3, 1)])) (by show ((-300) : Int) + ((1) * x 3 + 0) = x 3 - 300; omega) (h.2.1.2.1)
    have C2 : (0 : Int) ≤ 304 - x 3 := l_cc (a := y_ev x (304, [(3, (-1))])) (by show ((304) : Int) + ((-1) * x 3 + 0) = 304 - x 3; omega) (h.2.1.2.2.1)
    have E0 : y_ev x (0, [(0, 1)]) = x 0 := (l_e1 _ _)
    have E1 : y_ev x ((-1), [(1, 1)]) = x 1 - 1 := (by show ((-1) : Int) + ((1) * x 1 + 0) = x 1 - 1; omega)
    have E2 : y_ev x (0, [(2, 1)]) = x 2 := (l_e1 _ _)
    have E3 : y_ev x (3, []) = 3 := (l_e0 _ _)
    have E4 : y_ev x (0, [(3, 1)]) = x 3 := (l_e1 _ _)
    have E5 : y_ev x (1, []) = 1 := (l_e0 _ _)
    have E6 : y_ev x (0, []) = 0 := (l_e0 _ _)
    have E7 : y_ev x (0, [(6, 1)]) = x 6 := (l_e1 _ _)
    have E8 : y_ev x (0, [(7, 1)]) = x 7 := (l_e1 _ _)
    have E9 : y_ev x (0, [(8, 1)]) = x 8 := (l_e1 _ _)
    have E10 : y_ev x (0, [(9, 1)]) = x 9 := (l_e1 _ _)
    have E11 : y_ev x (0, [(10, 1)]) = x 10 := (l_e1 _ _)
    have E12 : y_ev x (267, []) = 267 := (l_e0 _ _)
    have E13 : y_ev x (0, [(4, 1)]) = x 4 := (l_e1 _ _)
    have E14 : y_ev x (0, [(5, 1)]) = x 5 := (l_e1 _ _)
    have T0 : q_cy (t_b v) (v 102) (v 103) (v 104) (y_ev x (0, [(0, 1)])) (y_ev x ((-1), [(1, 1)])) (y_ev x (0, [(2, 1)])) (y_ev x (3, [])) := h.2.2.2.1
    (try rw [E0] at T0); (try rw [E1] at T0); (try rw [E2] at T0); (try rw [E3] at T0)
    have T1 : q_run2 (t_b v) (y_ev x (0, [(0, 1)])) (y_ev x ((-1), [(1, 1)])) (y_ev x (0, [(3, 1)])) (y_ev x (1, [])) (y_ev x (0, [])) (y_ev x (0, [(6, 1)])) (y_ev x (0, [(7, 1)])) (y_ev x (0, [(8, 1)])) (y_ev x (0, [(9, 1)])) (y_ev x (0, [(10, 1)])) := h.2.2.2.2.1
    (try rw [E0] at T1); (try rw [E1] at T1); (try rw [E4] at T1); (try rw [E5] at T1); (try rw [E6] at T1); (try rw [E7] at T1); (try rw [E8] at T1); (try rw [E9] at T1); (try rw [E10] at T1); (try rw [E11] at T1)
    have T2 : q_tok (t_b v) (y_ev x (0, [(0, 1)])) (y_ev x ((-1), [(1, 1)])) (y_ev x (267, [])) (y_ev x (0, [(4, 1)])) (y_ev x (0, [(5, 1)])) := h.2.2.2.2.2.1
    (try rw [E0] at T2); (try rw [E1] at T2); (try rw [E12] at T2); (try rw [E13] at T2); (try rw [E14] at T2)
    have K := k_cyth (V := v) (n := x 0) (d := x 1) (l := x 2) (st := x 3) (s := x 4) (v := x 5) (H := x 6) (L := x 7) (W := x 8) (P := x 9) (S := x 10) T0 T1 T2 C0 C1 C2
    refine l_outH rfl (And.intro h.1 ?_)
    have O0 : y_ev x (0, [(0, 1)]) = x 0 := l_e1 _ _
    have O1 : y_ev x (0, [(1, 1)]) = x 1 := l_e1 _ _
    have O2 : y_ev x (0, [(2, 1)]) = x 2 := l_e1 _ _
    have O3 : y_ev x (0, []) = 0 := l_e0 _ _
    have O4 : y_ev x ((-1), [(2, 1)]) = x 2 - 1 := by show ((-1) : Int) + ((1) * x 2 + 0) = _; omega
    show (True) ∧ (q_cy (t_b v) (v 102) (v 103) (v 104) (y_ev x (0, [(0, 1)])) (y_ev x (0, [(1, 1)])) (y_ev x (0, [(2, 1)])) (y_ev x (0, [])) ∧ (p_A (p_w (t_b v) (y_ev x (0, [(0, 1)])) (y_ev x (0, [(1, 1)]))) = []) ∧ q_jmp (t_b v) (y_ev x (0, [(0, 1)])) (y_ev x (0, [(1, 1)])) (y_ev x ((-1), [(2, 1)])) ∧ True)
    (try rw [O0]); (try rw [O1]); (try rw [O2]); (try rw [O3]); (try rw [O4])
    exact K
def lm_614p : zS := ((lm_474pi_0 (lm_474pi_1 [])), [(1, false), (101, false), (102, false), (103, false)], [((-300), [(3, 1)]), (304, [(3, (-1))])], [], [], [(0, (false, 4, 0, []), 0, 0, 0, [(1, 1)]), (1, (false, 4, 0, []), 0, 0, 0, [(2, 1)]), (2, (true, 0, (-1), [(2, 1)]), 0, 0, 6, []), (3, (true, 0, (-1), [(2, 1)]), 0, 0, 0, [])], [(201, [(0, [(0, 1)]), (0, [(1, 1)]), ((-1), [(2, 1)]), (2, [])]), (40, [(0, [(0, 1)]), (0, [(1, 1)]), (0, [(3, 1)]), (1, []), (0, []), (0, [(4, 1)]), (0, [(5, 1)]), (0, [(6, 1)]), (0, [(7, 1)]), (0, [(8, 1)])])])
def lm_614 : zLem := (lm_614p, [([((-2147483648), 2147483647), ((-2147483648), 2147483647), ((-2147483648), 2147483647), ((-2147483648), 2147483647), ((-2147483648), 2147483647), ((-2147483648), 2147483647), ((-2147483648), 2147483647), ((-2147483648), 2147483647), ((-2147483648), 2147483647)], [(1, false), (101, false), (102, false), (103, false)], [], [], [], [], [(201, [(0, [(0, 1)]), (0, [(1, 1)]), (0, [(2, 1)]), (3, [])])])])
theorem lk_614 : l_core lm_614 := by
  first
  | skip
    intro v x h
    have G0 := h.2.2.1
    have G1 := G0.2
    have G2 := G1.2
    have G3 := G2.2
    have K := k_cyul (V := v) (n := x 0) (c := x 1) (l := x 2) (st := x 3) (H := x 4) (L := x 5) (W := x 6) (P := x 7) (S := x 8) (l_c4 (fun w0 w1 w2 w3 : Int => q_cy (t_b v) (v 102) (v 103) (v 104) w0 w1 w2 w3) (l_e1 x 0) (l_e1 x 1) (l_q2 1 x 2) (l_e0 x (2)) (h.2.2.2.1)) (l_c10 (fun w0 w1 w2 w3 w4 w5 w6 w7 w8 w9 : Int => q_run2 (t_b v) w0 w1 w2 w3 w4 w5 w6 w7 w8 w9) (l_e1 x 0) (l_e1 x 1) (l_e1 x 3) (l_e0 x (1)) (l_e0 x (0)) (l_e1 x 4) (l_e1 x 5) (l_e1 x 6) (l_e1 x 7) (l_e1 x 8) (h.2.2.2.2.1)) (l_cc (l_q2 300 x 3) (h.2.1.1)) (l_cc (l_q1 304 x 3) (h.2.1.2.1)) (l_ff (f := v 102) (L := j_len 102) (l_q2 1 x 2) (l_e0 x (6)) (G2.1.1)) (l_ff (f := v 103) (L := j_len 103) (l_q2 1 x 2) (l_e0 x (0)) (G3.1.1))
    refine l_outH rfl (And.intro h.1 ?_)
    exact l_o4 (fun w0 w1 w2 w3 : Int => (True) ∧ (q_cy (t_b v) (v 102) (v 103) (v 104) w0 w1 w2 w3 ∧ True)) (l_e1 x 0) (l_e1 x 1) (l_e1 x 2) (l_e0 x (3)) K
  | skip
    intro v x h
    have G0 := h.2.2.1
    have G1 := G0.2
    have G2 := G1.2
    have G3 := G2.2
    have C0 : (0 : Int) ≤ x 3 - 300 := l_cc (a := y_ev x ((-300), [(3, 1)])) (by show ((-300) : Int) + ((1) * x 3 + 0) = x 3 - 300; omega) (h.2.1.1)
    have C1 : (0 : Int) ≤ 304 - x 3 := l_cc (a := y_ev x (304, [(3, (-1))])) (by show ((304) : Int) + ((-1) * x 3 + 0) = 304 - x 3; omega) (h.2.1.2.1)
    have F0 : (0 : Int) ≤ x 2 - 1 ∧ (x 2 - 1 : Int) < j_len 102 ∧ v 102 (x 2 - 1) = 6 := l_ff (f := v 102) (L := j_len 102) (a := y_ev x ((-1), [(2, 1)])) (b := y_ev x (6, [])) (by show ((-1) : Int) + ((1) * x 2 + 0) = x 2 - 1; omega) (l_e0 _ _) (G2.1.1)
    have F1 : (0 : Int) ≤ x 2 - 1 ∧ (x 2 - 1 : Int) < j_len 103 ∧ v 103 (x 2 - 1) = 0 := l_ff (f := v 103) (L := j_len 103) (a := y_ev x ((-1), [(2, 1)])) (b := y_ev x (0, [])) (by show ((-1) : Int) + ((1) * x 2 + 0) = x 2 - 1; omega) (l_e0 _ _) (G3.1.1)
    have E0 : y_ev x (0, [(0, 1)]) = x 0 := (l_e1 _ _)
    have E1 : y_ev x (0, [(1, 1)]) = x 1 := (l_e1 _ _)
    have E2 : y_ev x ((-1), [(2, 1)]) = x 2 - 1 := (by show ((-1) : Int) + ((1) * x 2 + 0) = x 2 - 1; omega)
    have E3 : y_ev x (2, []) = 2 := (l_e0 _ _)
    have E4 : y_ev x (0, [(3, 1)]) = x 3 := (l_e1 _ _)
    have E5 : y_ev x (1, []) = 1 := (l_e0 _ _)
    have E6 : y_ev x (0, []) = 0 := (l_e0 _ _)
    have E7 : y_ev x (0, [(4, 1)]) = x 4 := (l_e1 _ _)
    have E8 : y_ev x (0, [(5, 1)]) = x 5 := (l_e1 _ _)
    have E9 : y_ev x (0, [(6, 1)]) = x 6 := (l_e1 _ _)
    have E10 : y_ev x (0, [(7, 1)]) = x 7 := (l_e1 _ _)
    have E11 : y_ev x (0, [(8, 1)]) = x 8 := (l_e1 _ _)
    have T0 : q_cy (t_b v) (v 102) (v 103) (v 104) (y_ev x (0, [(0, 1)])) (y_ev x (0, [(1, 1)])) (y_ev x ((-1), [(2, 1)])) (y_ev x (2, [])) := h.2.2.2.1
    (try rw [E0] at T0); (try rw [E1] at T0); (try rw [E2] at T0); (try rw [E3] at T0)
    have T1 : q_run2 (t_b v) (y_ev x (0, [(0, 1)])) (y_ev x (0, [(1, 1)])) (y_ev x (0, [(3, 1)])) (y_ev x (1, [])) (y_ev x (0, [])) (y_ev x (0, [(4, 1)])) (y_ev x (0, [(5, 1)])) (y_ev x (0, [(6, 1)])) (y_ev x (0, [(7, 1)])) (y_ev x (0, [(8, 1)])) := h.2.2.2.2.1
    (try rw [E0] at T1); (try rw [E1] at T1); (try rw [E4] at T1); (try rw [E5] at T1); (try rw [E6] at T1); (try rw [E7] at T1); (try rw [E8] at T1); (try rw [E9] at T1); (try rw [E10] at T1); (try rw [E11] at T1)
    have K := k_cyul (V := v) (n := x 0) (c := x 1) (l := x 2) (st := x 3) (H := x 4) (L := x 5) (W := x 6) (P := x 7) (S := x 8) T0 T1 C0 C1 F0 F1
    refine l_outH rfl (And.intro h.1 ?_)
    have O0 : y_ev x (0, [(0, 1)]) = x 0 := l_e1 _ _
    have O1 : y_ev x (0, [(1, 1)]) = x 1 := l_e1 _ _
    have O2 : y_ev x (0, [(2, 1)]) = x 2 := l_e1 _ _
    have O3 : y_ev x (3, []) = 3 := l_e0 _ _
    show (True) ∧ (q_cy (t_b v) (v 102) (v 103) (v 104) (y_ev x (0, [(0, 1)])) (y_ev x (0, [(1, 1)])) (y_ev x (0, [(2, 1)])) (y_ev x (3, [])) ∧ True)
    (try rw [O0]); (try rw [O1]); (try rw [O2]); (try rw [O3])
    exact K
def lm_615p : zS := ((lm_474pi_0 (lm_474pi_1 [])), [(1, false), (101, false), (102, false), (103, false)], [((-400), [(3, 1)]), (504, [(3, (-1))])], [], [], [(0, (false, 4, 0, []), 0, 0, 0, [(1, 1)]), (1, (false, 4, 0, []), 0, 0, 0, [(2, 1)]), (2, (true, 0, (-1), [(2, 1)]), 0, 0, 7, []), (3, (true, 0, (-1), [(2, 1)]), 0, 0, 0, [])], [(201, [(0, [(0, 1)]), (0, [(1, 1)]), ((-1), [(2, 1)]), (2, [])]), (40, [(0, [(0, 1)]), (0, [(1, 1)]), (0, [(3, 1)]), (1, []), (0, []), (0, [(4, 1)]), (0, [(5, 1)]), (0, [(6, 1)]), (0, [(7, 1)]), (0, [(8, 1)])])])
def lm_615 : zLem := (lm_615p, [([((-2147483648), 2147483647), ((-2147483648), 2147483647), ((-2147483648), 2147483647), ((-2147483648), 2147483647), ((-2147483648), 2147483647), ((-2147483648), 2147483647), ((-2147483648), 2147483647), ((-2147483648), 2147483647), ((-2147483648), 2147483647)], [(1, false), (101, false), (102, false), (103, false)], [], [], [], [], [(201, [(0, [(0, 1)]), (0, [(1, 1)]), (0, [(2, 1)]), (4, [])])])])
theorem lk_615 : l_core lm_615 := by
  first
  | skip
    intro v x h
    have G0 := h.2.2.1
    have G1 := G0.2
    have G2 := G1.2
    have G3 := G2.2
    have K := k_cyan (V := v) (n := x 0) (c := x 1) (l := x 2) (st := x 3) (H := x 4) (L := x 5) (W := x 6) (P := x 7) (S := x 8) (l_c4 (fun w0 w1 w2 w3 : Int => q_cy (t_b v) (v 102) (v 103) (v 104) w0 w1 w2 w3) (l_e1 x 0) (l_e1 x 1) (l_q2 1 x 2) (l_e0 x (2)) (h.2.2.2.1)) (l_c10 (fun w0 w1 w2 w3 w4 w5 w6 w7 w8 w9 : Int => q_run2 (t_b v) w0 w1 w2 w3 w4 w5 w6 w7 w8 w9) (l_e1 x 0) (l_e1 x 1) (l_e1 x 3) (l_e0 x (1)) (l_e0 x (0)) (l_e1 x 4) (l_e1 x 5) (l_e1 x 6) (l_e1 x 7) (l_e1 x 8) (h.2.2.2.2.1)) (l_cc (l_q2 400 x 3) (h.2.1.1)) (l_cc (l_q1 504 x 3) (h.2.1.2.1)) (l_ff (f := v 102) (L := j_len 102) (l_q2 1 x 2) (l_e0 x (7)) (G2.1.1)) (l_ff (f := v 103) (L := j_len 103) (l_q2 1 x 2) (l_e0 x (0)) (G3.1.1))
    refine l_outH rfl (And.intro h.1 ?_)
    exact l_o4 (fun w0 w1 w2 w3 : Int => (True) ∧ (q_cy (t_b v) (v 102) (v 103) (v 104) w0 w1 w2 w3 ∧ True)) (l_e1 x 0) (l_e1 x 1) (l_e1 x 2) (l_e0 x (4)) K
  | skip
    intro v x h
    have G0 := h.2.2.1
    have G1 := G0.2
    have G2 := G1.2
    have G3 := G2.2
    have C0 : (0 : Int) ≤ x 3 - 400 := l_cc (a := y_ev x ((-400), [(3, 1)])) (by show ((-400) : Int) + ((1) * x 3 + 0) = x 3 - 400; omega) (h.2.1.1)
    have C1 : (0 : Int) ≤ 504 - x 3 := l_cc (a := y_ev x (504, [(3, (-1))])) (by show ((504) : Int) + ((-1) * x 3 + 0) = 504 - x 3; omega) (h.2.1.2.1)
    have F0 : (0 : Int) ≤ x 2 - 1 ∧ (x 2 - 1 : Int) < j_len 102 ∧ v 102 (x 2 - 1) = 7 := l_ff (f := v 102) (L := j_len 102) (a := y_ev x ((-1), [(2, 1)])) (b := y_ev x (7, [])) (by show ((-1) : Int) + ((1) * x 2 + 0) = x 2 - 1; omega) (l_e0 _ _) (G2.1.1)
    have F1 : (0 : Int) ≤ x 2 - 1 ∧ (x 2 - 1 : Int) < j_len 103 ∧ v 103 (x 2 - 1) = 0 := l_ff (f := v 103) (L := j_len 103) (a := y_ev x ((-1), [(2, 1)])) (b := y_ev x (0, [])) (by show ((-1) : Int) + ((1) * x 2 + 0) = x 2 - 1; omega) (l_e0 _ _) (G3.1.1)
    have E0 : y_ev x (0, [(0, 1)]) = x 0 := (l_e1 _ _)
    have E1 : y_ev x (0, [(1, 1)]) = x 1 := (l_e1 _ _)
    have E2 : y_ev x ((-1), [(2, 1)]) = x 2 - 1 := (by show ((-1) : Int) + ((1) * x 2 + 0) = x 2 - 1; omega)
    have E3 : y_ev x (2, []) = 2 := (l_e0 _ _)
    have E4 : y_ev x (0, [(3, 1)]) = x 3 := (l_e1 _ _)
    have E5 : y_ev x (1, []) = 1 := (l_e0 _ _)
    have E6 : y_ev x (0, []) = 0 := (l_e0 _ _)
    have E7 : y_ev x (0, [(4, 1)]) = x 4 := (l_e1 _ _)
    have E8 : y_ev x (0, [(5, 1)]) = x 5 := (l_e1 _ _)
    have E9 : y_ev x (0, [(6, 1)]) = x 6 := (l_e1 _ _)
    have E10 : y_ev x (0, [(7, 1)]) = x 7 := (l_e1 _ _)
    have E11 : y_ev x (0, [(8, 1)]) = x 8 := (l_e1 _ _)
    have T0 : q_cy (t_b v) (v 102) (v 103) (v 104) (y_ev x (0, [(0, 1)])) (y_ev x (0, [(1, 1)])) (y_ev x ((-1), [(2, 1)])) (y_ev x (2, [])) := h.2.2.2.1
    (try rw [E0] at T0); (try rw [E1] at T0); (try rw [E2] at T0); (try rw [E3] at T0)
    have T1 : q_run2 (t_b v) (y_ev x (0, [(0, 1)])) (y_ev x (0, [(1, 1)])) (y_ev x (0, [(3, 1)])) (y_ev x (1, [])) (y_ev x (0, [])) (y_ev x (0, [(4, 1)])) (y_ev x (0, [(5, 1)])) (y_ev x (0, [(6, 1)])) (y_ev x (0, [(7, 1)])) (y_ev x (0, [(8, 1)])) := h.2.2.2.2.1
    (try rw [E0] at T1); (try rw [E1] at T1); (try rw [E4] at T1); (try rw [E5] at T1); (try rw [E6] at T1); (try rw [E7] at T1); (try rw [E8] at T1); (try rw [E9] at T1); (try rw [E10] at T1); (try rw [E11] at T1)
    have K := k_cyan (V := v) (n := x 0) (c := x 1) (l := x 2) (st := x 3) (H := x 4) (L := x 5) (W := x 6) (P := x 7) (S := x 8) T0 T1 C0 C1 F0 F1
    refine l_outH rfl (And.intro h.1 ?_)
    have O0 : y_ev x (0, [(0, 1)]) = x 0 := l_e1 _ _
    have O1 : y_ev x (0, [(1, 1)]) = x 1 := l_e1 _ _
    have O2 : y_ev x (0, [(2, 1)]) = x 2 := l_e1 _ _
    have O3 : y_ev x (4, []) = 4 := l_e0 _ _
    show (True) ∧ (q_cy (t_b v) (v 102) (v 103) (v 104) (y_ev x (0, [(0, 1)])) (y_ev x (0, [(1, 1)])) (y_ev x (0, [(2, 1)])) (y_ev x (4, [])) ∧ True)
    (try rw [O0]); (try rw [O1]); (try rw [O2]); (try rw [O3])
    exact K
def lm_616pi_0 (t : List (Int × Int)) : List (Int × Int) := ((-2147483648), 2147483647) :: ((-2147483648), 2147483647) :: ((-2147483648), 2147483647) :: ((-2147483648), 2147483647) :: ((-2147483648), 2147483647) :: ((-2147483648), 2147483647) :: ((-2147483648), 2147483647) :: ((-9223372036854775808), 9223372036854775807) :: t
def lm_616pi_1 (t : List (Int × Int)) : List (Int × Int) := ((-2147483648), 2147483647) :: ((-2147483648), 2147483647) :: ((-2147483648), 2147483647) :: ((-2147483648), 2147483647) :: ((-2147483648), 2147483647) :: ((-2147483648), 2147483647) :: ((-2147483648), 2147483647) :: ((-2147483648), 2147483647) :: t
def lm_616pi_2 (t : List (Int × Int)) : List (Int × Int) := ((-2147483648), 2147483647) :: ((-2147483648), 2147483647) :: t
def lm_616pg_0 (t : List zTg) : List zTg := (201, [(0, [(0, 1)]), ((-1), [(1, 1)]), (0, [(3, 1)]), (4, [])]) :: (40, [(0, [(0, 1)]), ((-1), [(1, 1)]), (0, [(5, 1)]), (1, []), (0, []), (0, [(13, 1)]), (0, [(14, 1)]), (0, [(15, 1)]), (0, [(16, 1)]), (0, [(17, 1)])]) :: (36, [(0, [(0, 1)]), ((-1), [(1, 1)]), (268, []), (0, [(6, 1)]), (0, [(7, 1)])]) :: (212, [(0, [(0, 1)]), (0, [(2, 1)]), (0, [(4, 1)])]) :: (40, [(0, [(0, 1)]), (0, [(2, 1)]), (0, [(5, 1)]), (0, []), (0, []), (0, [(8, 1)]), (0, [(9, 1)]), (0, [(10, 1)]), (0, [(11, 1)]), (0, [(12, 1)])]) :: t
def lm_616p : zS := ((lm_616pi_0 (lm_616pi_1 (lm_616pi_2 []))), [(1, false)], [(400, [(1, (-1))]), ((-400), [(5, 1)]), (404, [(5, (-1))]), (0, [(12, (-1)), (17, 1)]), (0, [(12, 1), (17, (-1))])], [], [(0, 0, 0, [(4, 1)])], [(0, (false, 4, 0, []), 0, 0, 0, [(1, 1)])], (lm_616pg_0 []))
def lm_616 : zLem := (lm_616p, [([((-2147483648), 2147483647), ((-2147483648), 2147483647), ((-2147483648), 2147483647), ((-2147483648), 2147483647), ((-2147483648), 2147483647), ((-2147483648), 2147483647), ((-2147483648), 2147483647), ((-9223372036854775808), 9223372036854775807), ((-2147483648), 2147483647), ((-2147483648), 2147483647), ((-2147483648), 2147483647), ((-2147483648), 2147483647), ((-2147483648), 2147483647), ((-2147483648), 2147483647), ((-2147483648), 2147483647), ((-2147483648), 2147483647), ((-2147483648), 2147483647), ((-2147483648), 2147483647)], [(1, false)], [], [], [], [], [(202, [(0, [(0, 1)]), (0, [(1, 1)]), (0, [(3, 1)]), (0, [(4, 1)])]), (209, [(0, [(0, 1)]), (0, [(1, 1)])])])])
theorem lk_616 : l_core lm_616 := by
  first
  | skip
    intro v x h
    have K := k_cyel (V := v) (n := x 0) (d := x 1) (e := x 2) (l := x 3) (j := x 4) (st := x 5) (s := x 6) (v := x 7) (H2 := x 8) (L2 := x 9) (W2 := x 10) (P2 := x 11) (S2 := x 12) (H := x 13) (L := x 14) (W := x 15) (P := x 16) (S := x 17) (l_c4 (fun w0 w1 w2 w3 : Int => q_cy (t_b v) (v 102) (v 103) (v 104) w0 w1 w2 w3) (l_e1 x 0) (l_q2 1 x 1) (l_e1 x 3) (l_e0 x (4)) (h.2.2.2.1)) (l_c10 (fun w0 w1 w2 w3 w4 w5 w6 w7 w8 w9 : Int => q_run2 (t_b v) w0 w1 w2 w3 w4 w5 w6 w7 w8 w9) (l_e1 x 0) (l_q2 1 x 1) (l_e1 x 5) (l_e0 x (1)) (l_e0 x (0)) (l_e1 x 13) (l_e1 x 14) (l_e1 x 15) (l_e1 x 16) (l_e1 x 17) (h.2.2.2.2.1)) (l_c5 (fun w0 w1 w2 w3 w4 : Int => q_tok (t_b v) w0 w1 w2 w3 w4) (l_e1 x 0) (l_q2 1 x 1) (l_e0 x (268)) (l_e1 x 6) (l_e1 x 7) (h.2.2.2.2.2.1)) (l_c3 (fun w0 w1 w2 : Int => q_jmp (t_b v) w0 w1 w2) (l_e1 x 0) (l_e1 x 2) (l_e1 x 4) (h.2.2.2.2.2.2.1)) (l_c9 (fun w0 w1 w2 w3 w4 w5 w6 w7 w8 : Int => q_run2 (t_b v) w0 w1 w2 w3 w3 w4 w5 w6 w7 w8) (l_e1 x 0) (l_e1 x 2) (l_e1 x 5) (l_e0 x (0)) (l_e1 x 8) (l_e1 x 9) (l_e1 x 10) (l_e1 x 11) (l_e1 x 12) (h.2.2.2.2.2.2.2.1)) (l_cc (l_q1 400 x 1) (h.2.1.1)) (l_cc (l_q2 400 x 5) (h.2.1.2.1)) (l_cc (l_q1 404 x 5) (h.2.1.2.2.1)) (l_cc (l_q4 x 12 17) (h.2.1.2.2.2.1)) (l_cc (l_q5 x 12 17) (h.2.1.2.2.2.2.1))
    refine l_outH rfl (And.intro h.1 ?_)
    exact l_o4 (fun w0 w1 w2 w3 : Int => (True) ∧ (q_cyj (t_b v) (v 102) (v 103) (v 104) w0 w1 w2 w3 ∧ (p_A (p_w (t_b v) w0 w1) = []) ∧ True)) (l_e1 x 0) (l_e1 x 1) (l_e1 x 3) (l_e1 x 4) K
  | skip
    intro v x h
    have C0 : (0 : Int) ≤ 400 - x 1 := l_cc (a := y_ev x (400, [(1, (-1))])) (by show ((400) : Int) + ((-1) * x 1 + 0) = 400 - x 1; omega) (h.2.1.1)
    have C1 : (0 : Int) ≤ x 5 - 400 := l_cc (a := y_ev x ((-400), [(5, 1)])) (by show ((-400) : Int) + ((1) * x 5 + 0) = x 5 - 400; omega) (h.2.1.2.1)
    have C2 : (0 : Int) ≤ 404 - x 5 := l_cc (a := y_ev x (404, [(5, (-1))])) (by show ((404) : Int) + ((-1) * x 5 + 0) = 404 - x 5; omega) (h.2.1.2.2.1)
    have C3 : (0 : Int) ≤ x 17 - x 12 := l_cc (a := y_ev x (0, [(12, (-1)), (17, 1)])) (by show ((0) : Int) + ((-1) * x 12 + ((1) * x 17 + 0)) = x 17 - x 12; omega) (h.2.1.2.2.2.1)
    have C4 : (0 : Int) ≤ x 12 - x 17 := l_cc (a := y_ev x (0, [(12, 1), (17, (-1))])) (by show ((0) : Int) + ((1) * x 12 + ((-1) * x 17 + 0)) = x 12 - x 17; omega) (h.2.1.2.2.2.2.1)
    have E0 : y_ev x (0, [(0, 1)]) = x 0 := (l_e1 _ _)
    have E1 : y_ev x ((-1), [(1, 1)]) = x 1 - 1 := (by show ((-1) : Int) + ((1) * x 1 + 0) = x 1 - 1; omega)
    have E2 : y_ev x (0, [(3, 1)]) = x 3 := (l_e1 _ _)
    have E3 : y_ev x (4, []) = 4 := (l_e0 _ _)
    have E4 : y_ev x (0, [(5, 1)]) = x 5 := (l_e1 _ _)
    have E5 : y_ev x (1, []) = 1 := (l_e0 _ _)
    have E6 : y_ev x (0, []) = 0 := (l_e0 _ _)
    have E7 : y_ev x (0, [(13, 1)]) = x 13 := (l_e1 _ _)
    have E8 : y_ev x (0, [(14, 1)]) = x 14 := (l_e1 _ _)
    have E9 : y_ev x (0, [(15, 1)]) = x 15 := (l_e1 _ _)
    have E10 : y_ev x (0, [(16, 1)]) = x 16 := (l_e1 _ _)
    have E11 : y_ev x (0, [(17, 1)]) = x 17 := (l_e1 _ _)
    have E12 : y_ev x (268, []) = 268 := (l_e0 _ _)
    have E13 : y_ev x (0, [(6, 1)]) = x 6 := (l_e1 _ _)
    have E14 : y_ev x (0, [(7, 1)]) = x 7 := (l_e1 _ _)
    have E15 : y_ev x (0, [(2, 1)]) = x 2 := (l_e1 _ _)
    have E16 : y_ev x (0, [(4, 1)]) = x 4 := (l_e1 _ _)
    have E17 : y_ev x (0, [(8, 1)]) = x 8 := (l_e1 _ _)
    have E18 : y_ev x (0, [(9, 1)]) = x 9 := (l_e1 _ _)
    have E19 : y_ev x (0, [(10, 1)]) = x 10 := (l_e1 _ _)
    have E20 : y_ev x (0, [(11, 1)]) = x 11 := (l_e1 _ _)
    have E21 : y_ev x (0, [(12, 1)]) = x 12 := (l_e1 _ _)
    have T0 : q_cy (t_b v) (v 102) (v 103) (v 104) (y_ev x (0, [(0, 1)])) (y_ev x ((-1), [(1, 1)])) (y_ev x (0, [(3, 1)])) (y_ev x (4, [])) := h.2.2.2.1
    (try rw [E0] at T0); (try rw [E1] at T0); (try rw [E2] at T0); (try rw [E3] at T0)
    have T1 : q_run2 (t_b v) (y_ev x (0, [(0, 1)])) (y_ev x ((-1), [(1, 1)])) (y_ev x (0, [(5, 1)])) (y_ev x (1, [])) (y_ev x (0, [])) (y_ev x (0, [(13, 1)])) (y_ev x (0, [(14, 1)])) (y_ev x (0, [(15, 1)])) (y_ev x (0, [(16, 1)])) (y_ev x (0, [(17, 1)])) := h.2.2.2.2.1
    (try rw [E0] at T1); (try rw [E1] at T1); (try rw [E4] at T1); (try rw [E5] at T1); (try rw [E6] at T1); (try rw [E7] at T1); (try rw [E8] at T1); (try rw [E9] at T1); (try rw [E10] at T1); (try rw [E11] at T1)
    have T2 : q_tok (t_b v) (y_ev x (0, [(0, 1)])) (y_ev x ((-1), [(1, 1)])) (y_ev x (268, [])) (y_ev x (0, [(6, 1)])) (y_ev x (0, [(7, 1)])) := h.2.2.2.2.2.1
    (try rw [E0] at T2); (try rw [E1] at T2); (try rw [E12] at T2); (try rw [E13] at T2); (try rw [E14] at T2)
    have T3 : q_jmp (t_b v) (y_ev x (0, [(0, 1)])) (y_ev x (0, [(2, 1)])) (y_ev x (0, [(4, 1)])) := h.2.2.2.2.2.2.1
    (try rw [E0] at T3); (try rw [E15] at T3); (try rw [E16] at T3)
    have T4 : q_run2 (t_b v) (y_ev x (0, [(0, 1)])) (y_ev x (0, [(2, 1)])) (y_ev x (0, [(5, 1)])) (y_ev x (0, [])) (y_ev x (0, [])) (y_ev x (0, [(8, 1)])) (y_ev x (0, [(9, 1)])) (y_ev x (0, [(10, 1)])) (y_ev x (0, [(11, 1)])) (y_ev x (0, [(12, 1)])) := h.2.2.2.2.2.2.2.1
    (try rw [E0] at T4); (try rw [E15] at T4); (try rw [E4] at T4); (try rw [E6] at T4); (try rw [E17] at T4); (try rw [E18] at T4); (try rw [E19] at T4); (try rw [E20] at T4); (try rw [E21] at T4)
    have K := k_cyel (V := v) (n := x 0) (d := x 1) (e := x 2) (l := x 3) (j := x 4) (st := x 5) (s := x 6) (v := x 7) (H2 := x 8) (L2 := x 9) (W2 := x 10) (P2 := x 11) (S2 := x 12) (H := x 13) (L := x 14) (W := x 15) (P := x 16) (S := x 17) T0 T1 T2 T3 T4 C0 C1 C2 C3 C4
    refine l_outH rfl (And.intro h.1 ?_)
    have O0 : y_ev x (0, [(0, 1)]) = x 0 := l_e1 _ _
    have O1 : y_ev x (0, [(1, 1)]) = x 1 := l_e1 _ _
    have O2 : y_ev x (0, [(3, 1)]) = x 3 := l_e1 _ _
    have O3 : y_ev x (0, [(4, 1)]) = x 4 := l_e1 _ _
    show (True) ∧ (q_cyj (t_b v) (v 102) (v 103) (v 104) (y_ev x (0, [(0, 1)])) (y_ev x (0, [(1, 1)])) (y_ev x (0, [(3, 1)])) (y_ev x (0, [(4, 1)])) ∧ (p_A (p_w (t_b v) (y_ev x (0, [(0, 1)])) (y_ev x (0, [(1, 1)]))) = []) ∧ True)
    (try rw [O0]); (try rw [O1]); (try rw [O2]); (try rw [O3])
    exact K
def lm_617 : zLem := (([((-2147483648), 2147483647), ((-2147483648), 2147483647), ((-2147483648), 2147483647), ((-2147483648), 2147483647)], [(1, false), (101, false), (103, false)], [], [], [(0, 0, 0, [(3, 1)])], [(0, (false, 4, 0, []), 0, 0, 0, [(1, 1)]), (1, (false, 4, 0, []), 0, 0, 0, [(2, 1)]), (2, (true, 0, 0, [(3, 1)]), 0, 0, 0, [(2, 1)])], [(202, [(0, [(0, 1)]), (0, [(1, 1)]), (0, [(2, 1)]), (0, [(3, 1)])])]), [([((-2147483648), 2147483647), ((-2147483648), 2147483647), ((-2147483648), 2147483647), ((-2147483648), 2147483647)], [(1, false), (101, false), (103, false)], [], [], [], [], [(201, [(0, [(0, 1)]), (0, [(1, 1)]), (0, [(2, 1)]), (0, [])])])])
theorem lk_617 : l_core lm_617 := by
  first
  | skip
    intro v x h
    have G0 := h.2.2.1
    have G1 := G0.2
    have G2 := G1.2
    have K := k_cyj (V := v) (n := x 0) (d := x 1) (l := x 2) (j := x 3) (l_c4 (fun w0 w1 w2 w3 : Int => q_cyj (t_b v) (v 102) (v 103) (v 104) w0 w1 w2 w3) (l_e1 x 0) (l_e1 x 1) (l_e1 x 2) (l_e1 x 3) (h.2.2.2.1)) (l_ff (f := v 103) (L := j_len 103) (l_e1 x 3) (l_e1 x 2) (G2.1.1))
    refine l_outH rfl (And.intro h.1 ?_)
    exact l_o4 (fun w0 w1 w2 w3 : Int => (True) ∧ (q_cy (t_b v) (v 102) (v 103) (v 104) w0 w1 w2 w3 ∧ True)) (l_e1 x 0) (l_e1 x 1) (l_e1 x 2) (l_e0 x (0)) K
  | skip
    intro v x h
    have G0 := h.2.2.1
    have G1 := G0.2
    have G2 := G1.2
    have F0 : (0 : Int) ≤ x 3 ∧ (x 3 : Int) < j_len 103 ∧ v 103 (x 3) = x 2 := l_ff (f := v 103) (L := j_len 103) (a := y_ev x (0, [(3, 1)])) (b := y_ev x (0, [(2, 1)])) (l_e1 _ _) (l_e1 _ _) (G2.1.1)
    have E0 : y_ev x (0, [(0, 1)]) = x 0 := (l_e1 _ _)
    have E1 : y_ev x (0, [(1, 1)]) = x 1 := (l_e1 _ _)
    have E2 : y_ev x (0, [(2, 1)]) = x 2 := (l_e1 _ _)
    have E3 : y_ev x (0, [(3, 1)]) = x 3 := (l_e1 _ _)
    have T0 : q_cyj (t_b v) (v 102) (v 103) (v 104) (y_ev x (0, [(0, 1)])) (y_ev x (0, [(1, 1)])) (y_ev x (0, [(2, 1)])) (y_ev x (0, [(3, 1)])) := h.2.2.2.1
    (try rw [E0] at T0); (try rw [E1] at T0); (try rw [E2] at T0); (try rw [E3] at T0)
    have K := k_cyj (V := v) (n := x 0) (d := x 1) (l := x 2) (j := x 3) T0 F0
    refine l_outH rfl (And.intro h.1 ?_)
    have O0 : y_ev x (0, [(0, 1)]) = x 0 := l_e1 _ _
    have O1 : y_ev x (0, [(1, 1)]) = x 1 := l_e1 _ _
    have O2 : y_ev x (0, [(2, 1)]) = x 2 := l_e1 _ _
    have O3 : y_ev x (0, []) = 0 := l_e0 _ _
    show (True) ∧ (q_cy (t_b v) (v 102) (v 103) (v 104) (y_ev x (0, [(0, 1)])) (y_ev x (0, [(1, 1)])) (y_ev x (0, [(2, 1)])) (y_ev x (0, [])) ∧ True)
    (try rw [O0]); (try rw [O1]); (try rw [O2]); (try rw [O3])
    exact K
def lm_618pi_0 (t : List (Int × Int)) : List (Int × Int) := ((-2147483648), 2147483647) :: ((-2147483648), 2147483647) :: ((-2147483648), 2147483647) :: ((-2147483648), 2147483647) :: ((-2147483648), 2147483647) :: ((-2147483648), 2147483647) :: ((-2147483648), 2147483647) :: ((-2147483648), 2147483647) :: t
def lm_618pi_1 (t : List (Int × Int)) : List (Int × Int) := ((-2147483648), 2147483647) :: ((-9223372036854775808), 9223372036854775807) :: ((-2147483648), 2147483647) :: ((-2147483648), 2147483647) :: ((-2147483648), 2147483647) :: ((-2147483648), 2147483647) :: ((-2147483648), 2147483647) :: ((-2147483648), 2147483647) :: t
def lm_618pi_2 (t : List (Int × Int)) : List (Int × Int) := ((-2147483648), 2147483647) :: ((-2147483648), 2147483647) :: ((-2147483648), 2147483647) :: ((-2147483648), 2147483647) :: t
def lm_618pg_0 (t : List zTg) : List zTg := (201, [(0, [(0, 1)]), ((-1), [(1, 1)]), (0, [(3, 1)]), (4, [])]) :: (40, [(0, [(0, 1)]), ((-1), [(1, 1)]), (0, [(6, 1)]), (1, []), (0, []), (0, [(15, 1)]), (0, [(16, 1)]), (0, [(17, 1)]), (0, [(18, 1)]), (0, [(19, 1)])]) :: (36, [(0, [(0, 1)]), ((-1), [(1, 1)]), (59, []), (0, [(8, 1)]), (0, [(9, 1)])]) :: (211, [(0, [(0, 1)]), (0, [(2, 1)]), (0, [(4, 1)]), (0, [(5, 1)])]) :: (40, [(0, [(0, 1)]), (0, [(2, 1)]), (0, [(7, 1)]), (0, []), (0, []), (0, [(10, 1)]), (0, [(11, 1)]), (0, [(12, 1)]), (0, [(13, 1)]), (0, [(14, 1)])]) :: t
def lm_618p : zS := ((lm_618pi_0 (lm_618pi_1 (lm_618pi_2 []))), [(1, false)], [(400, [(1, (-1))]), ((-500), [(6, 1)]), (504, [(6, (-1))]), ((-30), [(7, 1)]), (34, [(7, (-1))]), (0, [(14, (-1)), (19, 1)]), (0, [(14, 1), (19, (-1))])], [], [(0, 0, 0, [(5, 1)]), (0, 0, 0, [(4, 1)])], [(0, (false, 4, 0, []), 0, 0, 0, [(1, 1)])], (lm_618pg_0 []))
def lm_618q0 : zS := ((lm_618pi_0 (lm_618pi_1 (lm_618pi_2 []))), [(1, false)], [], [], [], [], [(203, [(0, [(0, 1)]), (0, [(1, 1)]), (0, [(3, 1)]), (0, [(5, 1)]), (0, [(4, 1)])])])
def lm_618 : zLem := (lm_618p, [lm_618q0])
theorem lk_618 : l_core lm_618 := by
  first
  | skip
    intro v x h
    have K := k_cyse (V := v) (n := x 0) (d := x 1) (e := x 2) (l := x 3) (b := x 4) (k := x 5) (st := x 6) (st2 := x 7) (s := x 8) (v := x 9) (H2 := x 10) (L2 := x 11) (W2 := x 12) (P2 := x 13) (S2 := x 14) (H := x 15) (L := x 16) (W := x 17) (P := x 18) (S := x 19) (l_c4 (fun w0 w1 w2 w3 : Int => q_cy (t_b v) (v 102) (v 103) (v 104) w0 w1 w2 w3) (l_e1 x 0) (l_q2 1 x 1) (l_e1 x 3) (l_e0 x (4)) (h.2.2.2.1)) (l_c10 (fun w0 w1 w2 w3 w4 w5 w6 w7 w8 w9 : Int => q_run2 (t_b v) w0 w1 w2 w3 w4 w5 w6 w7 w8 w9) (l_e1 x 0) (l_q2 1 x 1) (l_e1 x 6) (l_e0 x (1)) (l_e0 x (0)) (l_e1 x 15) (l_e1 x 16) (l_e1 x 17) (l_e1 x 18) (l_e1 x 19) (h.2.2.2.2.1)) (l_c5 (fun w0 w1 w2 w3 w4 : Int => q_tok (t_b v) w0 w1 w2 w3 w4) (l_e1 x 0) (l_q2 1 x 1) (l_e0 x (59)) (l_e1 x 8) (l_e1 x 9) (h.2.2.2.2.2.1)) (l_c4 (fun w0 w1 w2 w3 : Int => q_beg (t_b v) w0 w1 w2 w3) (l_e1 x 0) (l_e1 x 2) (l_e1 x 4) (l_e1 x 5) (h.2.2.2.2.2.2.1)) (l_c9 (fun w0 w1 w2 w3 w4 w5 w6 w7 w8 : Int => q_run2 (t_b v) w0 w1 w2 w3 w3 w4 w5 w6 w7 w8) (l_e1 x 0) (l_e1 x 2) (l_e1 x 7) (l_e0 x (0)) (l_e1 x 10) (l_e1 x 11) (l_e1 x 12) (l_e1 x 13) (l_e1 x 14) (h.2.2.2.2.2.2.2.1)) (l_cc (l_q1 400 x 1) (h.2.1.1)) (l_cc (l_q2 500 x 6) (h.2.1.2.1)) (l_cc (l_q1 504 x 6) (h.2.1.2.2.1)) (l_cc (l_q2 30 x 7) (h.2.1.2.2.2.1)) (l_cc (l_q1 34 x 7) (h.2.1.2.2.2.2.1)) (l_cc (l_q4 x 14 19) (h.2.1.2.2.2.2.2.1)) (l_cc (l_q5 x 14 19) (h.2.1.2.2.2.2.2.2.1))
    refine l_outH rfl (And.intro h.1 ?_)
    exact l_o5 (fun w0 w1 w2 w3 w4 : Int => (True) ∧ (q_cyb (t_b v) (v 102) (v 103) (v 104) w0 w1 w2 w3 w4 ∧ True)) (l_e1 x 0) (l_e1 x 1) (l_e1 x 3) (l_e1 x 5) (l_e1 x 4) K
  | skip
    intro v x h
    have C0 : (0 : Int) ≤ 400 - x 1 := l_cc (a := y_ev x (400, [(1, (-1))])) (by show ((400) : Int) + ((-1) * x 1 + 0) = 400 - x 1; omega) (h.2.1.1)
    have C1 : (0 : Int) ≤ x 6 - 500 := l_cc (a := y_ev x ((-500), [(6, 1)])) (by show ((-500) : Int) + ((1) * x 6 + 0) = x 6 - 500; omega) (h.2.1.2.1)
    have C2 : (0 : Int) ≤ 504 - x 6 := l_cc (a := y_ev x (504, [(6, (-1))])) (by show ((504) : Int) + ((-1) * x 6 + 0) = 504 - x 6; omega) (h.2.1.2.2.1)
    have C3 : (0 : Int) ≤ x 7 - 30 := l_cc (a := y_ev x ((-30), [(7, 1)])) (by show ((-30) : Int) + ((1) * x 7 + 0) = x 7 - 30; omega) (h.2.1.2.2.2.1)
    have C4 : (0 : Int) ≤ 34 - x 7 := l_cc (a := y_ev x (34, [(7, (-1))])) (by show ((34) : Int) + ((-1) * x 7 + 0) = 34 - x 7; omega) (h.2.1.2.2.2.2.1)
    have C5 : (0 : Int) ≤ x 19 - x 14 := l_cc (a := y_ev x (0, [(14, (-1)), (19, 1)])) (by show ((0) : Int) + ((-1) * x 14 + ((1) * x 19 + 0)) = x 19 - x 14; omega) (h.2.1.2.2.2.2.2.1)
    have C6 : (0 : Int) ≤ x 14 - x 19 := l_cc (a := y_ev x (0, [(14, 1), (19, (-1))])) (by show ((0) : Int) + ((1) * x 14 + ((-1) * x 19 + 0)) = x 14 - x 19; omega) (h.2.1.2.2.2.2.2.2.1)
    have E0 : y_ev x (0, [(0, 1)]) = x 0 := (l_e1 _ _)
    have E1 : y_ev x ((-1), [(1, 1)]) = x 1 - 1 := (by show ((-1) : Int) + ((1) * x 1 + 0) = x 1 - 1; omega)
    have E2 : y_ev x (0, [(3, 1)]) = x 3 := (l_e1 _ _)
    have E3 : y_ev x (4, []) = 4 := (l_e0 _ _)
    have E4 : y_ev x (0, [(6, 1)]) = x 6 := (l_e1 _ _)
    have E5 : y_ev x (1, []) = 1 := (l_e0 _ _)
    have E6 : y_ev x (0, []) = 0 := (l_e0 _ _)
    have E7 : y_ev x (0, [(15, 1)]) = x 15 := (l_e1 _ _)
    have E8 : y_ev x (0, [(16, 1)]) = x 16 := (l_e1 _ _)
    have E9 : y_ev x (0, [(17, 1)]) = x 17 := (l_e1 _ _)
    have E10 : y_ev x (0, [(18, 1)]) = x 18 := (l_e1 _ _)
    have E11 : y_ev x (0, [(19, 1)]) = x 19 := (l_e1 _ _)
    have E12 : y_ev x (59, []) = 59 := (l_e0 _ _)
    have E13 : y_ev x (0, [(8, 1)]) = x 8 := (l_e1 _ _)
    have E14 : y_ev x (0, [(9, 1)]) = x 9 := (l_e1 _ _)
    have E15 : y_ev x (0, [(2, 1)]) = x 2 := (l_e1 _ _)
    have E16 : y_ev x (0, [(4, 1)]) = x 4 := (l_e1 _ _)
    have E17 : y_ev x (0, [(5, 1)]) = x 5 := (l_e1 _ _)
    have E18 : y_ev x (0, [(7, 1)]) = x 7 := (l_e1 _ _)
    have E19 : y_ev x (0, [(10, 1)]) = x 10 := (l_e1 _ _)
    have E20 : y_ev x (0, [(11, 1)]) = x 11 := (l_e1 _ _)
    have E21 : y_ev x (0, [(12, 1)]) = x 12 := (l_e1 _ _)
    have E22 : y_ev x (0, [(13, 1)]) = x 13 := (l_e1 _ _)
    have E23 : y_ev x (0, [(14, 1)]) = x 14 := (l_e1 _ _)
    have T0 : q_cy (t_b v) (v 102) (v 103) (v 104) (y_ev x (0, [(0, 1)])) (y_ev x ((-1), [(1, 1)])) (y_ev x (0, [(3, 1)])) (y_ev x (4, [])) := h.2.2.2.1
    (try rw [E0] at T0); (try rw [E1] at T0); (try rw [E2] at T0); (try rw [E3] at T0)
    have T1 : q_run2 (t_b v) (y_ev x (0, [(0, 1)])) (y_ev x ((-1), [(1, 1)])) (y_ev x (0, [(6, 1)])) (y_ev x (1, [])) (y_ev x (0, [])) (y_ev x (0, [(15, 1)])) (y_ev x (0, [(16, 1)])) (y_ev x (0, [(17, 1)])) (y_ev x (0, [(18, 1)])) (y_ev x (0, [(19, 1)])) := h.2.2.2.2.1
    (try rw [E0] at T1); (try rw [E1] at T1); (try rw [E4] at T1); (try rw [E5] at T1); (try rw [E6] at T1); (try rw [E7] at T1); (try rw [E8] at T1); (try rw [E9] at T1); (try rw [E10] at T1); (try rw [E11] at T1)
    have T2 : q_tok (t_b v) (y_ev x (0, [(0, 1)])) (y_ev x ((-1), [(1, 1)])) (y_ev x (59, [])) (y_ev x (0, [(8, 1)])) (y_ev x (0, [(9, 1)])) := h.2.2.2.2.2.1
    (try rw [E0] at T2); (try rw [E1] at T2); (try rw [E12] at T2); (try rw [E13] at T2); (try rw [E14] at T2)
    have T3 : q_beg (t_b v) (y_ev x (0, [(0, 1)])) (y_ev x (0, [(2, 1)])) (y_ev x (0, [(4, 1)])) (y_ev x (0, [(5, 1)])) := h.2.2.2.2.2.2.1
    (try rw [E0] at T3); (try rw [E15] at T3); (try rw [E16] at T3); (try rw [E17] at T3)
    have T4 : q_run2 (t_b v) (y_ev x (0, [(0, 1)])) (y_ev x (0, [(2, 1)])) (y_ev x (0, [(7, 1)])) (y_ev x (0, [])) (y_ev x (0, [])) (y_ev x (0, [(10, 1)])) (y_ev x (0, [(11, 1)])) (y_ev x (0, [(12, 1)])) (y_ev x (0, [(13, 1)])) (y_ev x (0, [(14, 1)])) := h.2.2.2.2.2.2.2.1
    (try rw [E0] at T4); (try rw [E15] at T4); (try rw [E18] at T4); (try rw [E6] at T4); (try rw [E19] at T4); (try rw [E20] at T4); (try rw [E21] at T4); (try rw [E22] at T4); (try rw [E23] at T4)
    have K := k_cyse (V := v) (n := x 0) (d := x 1) (e := x 2) (l := x 3) (b := x 4) (k := x 5) (st := x 6) (st2 := x 7) (s := x 8) (v := x 9) (H2 := x 10) (L2 := x 11) (W2 := x 12) (P2 := x 13) (S2 := x 14) (H := x 15) (L := x 16) (W := x 17) (P := x 18) (S := x 19) T0 T1 T2 T3 T4 C0 C1 C2 C3 C4 C5 C6
    refine l_outH rfl (And.intro h.1 ?_)
    have O0 : y_ev x (0, [(0, 1)]) = x 0 := l_e1 _ _
    have O1 : y_ev x (0, [(1, 1)]) = x 1 := l_e1 _ _
    have O2 : y_ev x (0, [(3, 1)]) = x 3 := l_e1 _ _
    have O3 : y_ev x (0, [(5, 1)]) = x 5 := l_e1 _ _
    have O4 : y_ev x (0, [(4, 1)]) = x 4 := l_e1 _ _
    show (True) ∧ (q_cyb (t_b v) (v 102) (v 103) (v 104) (y_ev x (0, [(0, 1)])) (y_ev x (0, [(1, 1)])) (y_ev x (0, [(3, 1)])) (y_ev x (0, [(5, 1)])) (y_ev x (0, [(4, 1)])) ∧ True)
    (try rw [O0]); (try rw [O1]); (try rw [O2]); (try rw [O3]); (try rw [O4])
    exact K
def lm_619 : zLem := (([((-2147483648), 2147483647), ((-2147483648), 2147483647), ((-2147483648), 2147483647), ((-2147483648), 2147483647), ((-2147483648), 2147483647)], [(1, false), (104, false)], [], [], [(0, 0, 0, [(3, 1)]), (0, 0, 0, [(4, 1)])], [(0, (false, 4, 0, []), 0, 0, 0, [(1, 1)]), (1, (true, 0, 0, [(3, 1)]), 0, 0, 0, [(4, 1)])], [(203, [(0, [(0, 1)]), (0, [(1, 1)]), (0, [(2, 1)]), (0, [(3, 1)]), (0, [(4, 1)])])]), [([((-2147483648), 2147483647), ((-2147483648), 2147483647), ((-2147483648), 2147483647), ((-2147483648), 2147483647), ((-2147483648), 2147483647)], [(1, false), (104, false)], [], [], [], [], [(201, [(0, [(0, 1)]), (0, [(1, 1)]), (0, [(2, 1)]), (0, [])])])])
theorem lk_619 : l_core lm_619 := by
  first
  | skip
    intro v x h
    have G0 := h.2.2.1
    have G1 := G0.2
    have K := k_cyb (V := v) (n := x 0) (d := x 1) (l := x 2) (k := x 3) (b := x 4) (l_c5 (fun w0 w1 w2 w3 w4 : Int => q_cyb (t_b v) (v 102) (v 103) (v 104) w0 w1 w2 w3 w4) (l_e1 x 0) (l_e1 x 1) (l_e1 x 2) (l_e1 x 3) (l_e1 x 4) (h.2.2.2.1)) (l_ff (f := v 104) (L := j_len 104) (l_e1 x 3) (l_e1 x 4) (G1.1.1))
    refine l_outH rfl (And.intro h.1 ?_)
    exact l_o4 (fun w0 w1 w2 w3 : Int => (True) ∧ (q_cy (t_b v) (v 102) (v 103) (v 104) w0 w1 w2 w3 ∧ True)) (l_e1 x 0) (l_e1 x 1) (l_e1 x 2) (l_e0 x (0)) K
  | skip
    intro v x h
    have G0 := h.2.2.1
    have G1 := G0.2
    have F0 : (0 : Int) ≤ x 3 ∧ (x 3 : Int) < j_len 104 ∧ v 104 (x 3) = x 4 := l_ff (f := v 104) (L := j_len 104) (a := y_ev x (0, [(3, 1)])) (b := y_ev x (0, [(4, 1)])) (l_e1 _ _) (l_e1 _ _) (G1.1.1)
    have E0 : y_ev x (0, [(0, 1)]) = x 0 := (l_e1 _ _)
    have E1 : y_ev x (0, [(1, 1)]) = x 1 := (l_e1 _ _)
    have E2 : y_ev x (0, [(2, 1)]) = x 2 := (l_e1 _ _)
    have E3 : y_ev x (0, [(3, 1)]) = x 3 := (l_e1 _ _)
    have E4 : y_ev x (0, [(4, 1)]) = x 4 := (l_e1 _ _)
    have T0 : q_cyb (t_b v) (v 102) (v 103) (v 104) (y_ev x (0, [(0, 1)])) (y_ev x (0, [(1, 1)])) (y_ev x (0, [(2, 1)])) (y_ev x (0, [(3, 1)])) (y_ev x (0, [(4, 1)])) := h.2.2.2.1
    (try rw [E0] at T0); (try rw [E1] at T0); (try rw [E2] at T0); (try rw [E3] at T0); (try rw [E4] at T0)
    have K := k_cyb (V := v) (n := x 0) (d := x 1) (l := x 2) (k := x 3) (b := x 4) T0 F0
    refine l_outH rfl (And.intro h.1 ?_)
    have O0 : y_ev x (0, [(0, 1)]) = x 0 := l_e1 _ _
    have O1 : y_ev x (0, [(1, 1)]) = x 1 := l_e1 _ _
    have O2 : y_ev x (0, [(2, 1)]) = x 2 := l_e1 _ _
    have O3 : y_ev x (0, []) = 0 := l_e0 _ _
    show (True) ∧ (q_cy (t_b v) (v 102) (v 103) (v 104) (y_ev x (0, [(0, 1)])) (y_ev x (0, [(1, 1)])) (y_ev x (0, [(2, 1)])) (y_ev x (0, [])) ∧ True)
    (try rw [O0]); (try rw [O1]); (try rw [O2]); (try rw [O3])
    exact K
def lm_620 : zLem := (([((-2147483648), 2147483647), ((-2147483648), 2147483647), ((-2147483648), 2147483647), ((-2147483648), 2147483647), ((-2147483648), 2147483647), ((-2147483648), 2147483647)], [], [], [], [], [], [(204, [(8, [])]), (205, [(4, [])]), (40, [(0, [(0, 1)]), (0, []), (0, []), (0, []), (0, []), (0, [(1, 1)]), (0, [(2, 1)]), (0, [(3, 1)]), (0, [(4, 1)]), (0, [(5, 1)])])]), [([((-2147483648), 2147483647), ((-2147483648), 2147483647), ((-2147483648), 2147483647), ((-2147483648), 2147483647), ((-2147483648), 2147483647), ((-2147483648), 2147483647)], [], [], [], [], [], [(201, [(0, [(0, 1)]), (0, []), (8, []), (0, [])])])])
theorem lk_620 : l_core lm_620 := by
  first
  | skip
    intro v x h
    have K := k_cy0 (V := v) (n := x 0) (H := x 1) (L := x 2) (W := x 3) (P := x 4) (S := x 5) (l_c1 (fun w0 : Int => ∀ (i_ : Nat) (x_ : Int × Int), ([(0, 1), (7, 0), (1, 2), (0, 10), (4, 0), (7, 0), (1, 0), (7, 0)] : List (Int × Int))[i_]? = some x_ → (i_ : Int) < w0 → v 102 i_ = x_.1 ∧ v 103 i_ = x_.2) (l_e0 x (8)) (h.2.2.2.1)) (l_c1 (fun w0 : Int => ∀ j_ : Int, 0 ≤ j_ → j_ < w0 → v 104 j_ = if j_ = 2 then 2 else if j_ = 3 then 6 else 0) (l_e0 x (4)) (h.2.2.2.2.1)) (l_c7 (fun w0 w1 w2 w3 w4 w5 w6 : Int => q_run2 (t_b v) w0 w1 w1 w1 w1 w2 w3 w4 w5 w6) (l_e1 x 0) (l_e0 x (0)) (l_e1 x 1) (l_e1 x 2) (l_e1 x 3) (l_e1 x 4) (l_e1 x 5) (h.2.2.2.2.2.1))
    refine l_outH rfl (And.intro h.1 ?_)
    exact l_o3 (fun w0 w1 w2 : Int => (True) ∧ (q_cy (t_b v) (v 102) (v 103) (v 104) w0 w1 w2 w1 ∧ True)) (l_e1 x 0) (l_e0 x (0)) (l_e0 x (8)) K
  | skip
    intro v x h
    have E0 : y_ev x (8, []) = 8 := (l_e0 _ _)
    have E1 : y_ev x (4, []) = 4 := (l_e0 _ _)
    have E2 : y_ev x (0, [(0, 1)]) = x 0 := (l_e1 _ _)
    have E3 : y_ev x (0, []) = 0 := (l_e0 _ _)
    have E4 : y_ev x (0, [(1, 1)]) = x 1 := (l_e1 _ _)
    have E5 : y_ev x (0, [(2, 1)]) = x 2 := (l_e1 _ _)
    have E6 : y_ev x (0, [(3, 1)]) = x 3 := (l_e1 _ _)
    have E7 : y_ev x (0, [(4, 1)]) = x 4 := (l_e1 _ _)
    have E8 : y_ev x (0, [(5, 1)]) = x 5 := (l_e1 _ _)
    have T0 : ∀ (i_ : Nat) (x_ : Int × Int), ([(0, 1), (7, 0), (1, 2), (0, 10), (4, 0), (7, 0), (1, 0), (7, 0)] : List (Int × Int))[i_]? = some x_ → (i_ : Int) < (y_ev x (8, [])) → v 102 i_ = x_.1 ∧ v 103 i_ = x_.2 := h.2.2.2.1
    (try rw [E0] at T0)
    have T1 : ∀ j_ : Int, 0 ≤ j_ → j_ < (y_ev x (4, [])) → v 104 j_ = if j_ = 2 then 2 else if j_ = 3 then 6 else 0 := h.2.2.2.2.1
    (try rw [E1] at T1)
    have T2 : q_run2 (t_b v) (y_ev x (0, [(0, 1)])) (y_ev x (0, [])) (y_ev x (0, [])) (y_ev x (0, [])) (y_ev x (0, [])) (y_ev x (0, [(1, 1)])) (y_ev x (0, [(2, 1)])) (y_ev x (0, [(3, 1)])) (y_ev x (0, [(4, 1)])) (y_ev x (0, [(5, 1)])) := h.2.2.2.2.2.1
    (try rw [E2] at T2); (try rw [E3] at T2); (try rw [E4] at T2); (try rw [E5] at T2); (try rw [E6] at T2); (try rw [E7] at T2); (try rw [E8] at T2)
    have K := k_cy0 (V := v) (n := x 0) (H := x 1) (L := x 2) (W := x 3) (P := x 4) (S := x 5) T0 T1 T2
    refine l_outH rfl (And.intro h.1 ?_)
    have O0 : y_ev x (0, [(0, 1)]) = x 0 := l_e1 _ _
    have O1 : y_ev x (0, []) = 0 := l_e0 _ _
    have O2 : y_ev x (8, []) = 8 := l_e0 _ _
    show (True) ∧ (q_cy (t_b v) (v 102) (v 103) (v 104) (y_ev x (0, [(0, 1)])) (y_ev x (0, [])) (y_ev x (8, [])) (y_ev x (0, [])) ∧ True)
    (try rw [O0]); (try rw [O1]); (try rw [O2])
    exact K
def lm_621pi_0 (t : List (Int × Int)) : List (Int × Int) := ((-2147483648), 2147483647) :: ((-2147483648), 2147483647) :: ((-2147483648), 2147483647) :: ((-2147483648), 2147483647) :: ((-2147483648), 2147483647) :: ((-2147483648), 2147483647) :: ((-9223372036854775808), 9223372036854775807) :: ((-2147483648), 2147483647) :: t
def lm_621pi_1 (t : List (Int × Int)) : List (Int × Int) := ((-2147483648), 2147483647) :: ((-2147483648), 2147483647) :: ((-2147483648), 2147483647) :: ((-2147483648), 2147483647) :: ((-2147483648), 2147483647) :: ((-2147483648), 2147483647) :: ((-2147483648), 2147483647) :: ((-2147483648), 2147483647) :: t
def lm_621pi_2 (t : List (Int × Int)) : List (Int × Int) := ((-2147483648), 2147483647) :: t
def lm_621pg_0 (t : List zTg) : List zTg := (201, [(0, [(0, 1)]), (0, [(1, 1)]), (0, [(3, 1)]), (0, [])]) :: (40, [(0, [(0, 1)]), (0, [(1, 1)]), (0, []), (0, []), (0, []), (0, [(12, 1)]), (0, [(13, 1)]), (0, [(14, 1)]), (0, [(15, 1)]), (0, [(16, 1)])]) :: (40, [(0, [(0, 1)]), (0, [(2, 1)]), (0, []), (0, []), (0, []), (0, [(7, 1)]), (0, [(8, 1)]), (0, [(9, 1)]), (0, [(10, 1)]), (0, [(11, 1)])]) :: (36, [(0, [(0, 1)]), (0, [(1, 1)]), (0, [(4, 1)]), (0, [(5, 1)]), (0, [(6, 1)])]) :: t
def lm_621p : zS := ((lm_621pi_0 (lm_621pi_1 (lm_621pi_2 []))), [(1, false)], [(0, [(1, (-1)), (2, 1)]), (1, [(11, (-1)), (16, 1)]), ((-1), [(11, 1), (16, (-1))]), (259, [(4, (-1))])], [], [], [(0, (false, 4, 0, []), 0, 0, 0, [(2, 1)])], (lm_621pg_0 []))
def lm_621 : zLem := (lm_621p, [([((-2147483648), 2147483647), ((-2147483648), 2147483647), ((-2147483648), 2147483647), ((-2147483648), 2147483647), ((-2147483648), 2147483647), ((-2147483648), 2147483647), ((-9223372036854775808), 9223372036854775807), ((-2147483648), 2147483647), ((-2147483648), 2147483647), ((-2147483648), 2147483647), ((-2147483648), 2147483647), ((-2147483648), 2147483647), ((-2147483648), 2147483647), ((-2147483648), 2147483647), ((-2147483648), 2147483647), ((-2147483648), 2147483647), ((-2147483648), 2147483647)], [(1, false)], [], [], [], [], [(201, [(0, [(0, 1)]), (0, [(2, 1)]), (0, [(3, 1)]), (0, [])])])])
theorem lk_621 : l_core lm_621 := by
  first
  | skip
    intro v x h
    have K := k_cyMa (V := v) (n := x 0) (c := x 1) (d := x 2) (l := x 3) (kd := x 4) (s := x 5) (v := x 6) (H2 := x 7) (L2 := x 8) (W2 := x 9) (P2 := x 10) (S2 := x 11) (H := x 12) (L := x 13) (W := x 14) (P := x 15) (S := x 16) (l_c4 (fun w0 w1 w2 w3 : Int => q_cy (t_b v) (v 102) (v 103) (v 104) w0 w1 w2 w3) (l_e1 x 0) (l_e1 x 1) (l_e1 x 3) (l_e0 x (0)) (h.2.2.2.1)) (l_c8 (fun w0 w1 w2 w3 w4 w5 w6 w7 : Int => q_run2 (t_b v) w0 w1 w2 w2 w2 w3 w4 w5 w6 w7) (l_e1 x 0) (l_e1 x 1) (l_e0 x (0)) (l_e1 x 12) (l_e1 x 13) (l_e1 x 14) (l_e1 x 15) (l_e1 x 16) (h.2.2.2.2.1)) (l_c8 (fun w0 w1 w2 w3 w4 w5 w6 w7 : Int => q_run2 (t_b v) w0 w1 w2 w2 w2 w3 w4 w5 w6 w7) (l_e1 x 0) (l_e1 x 2) (l_e0 x (0)) (l_e1 x 7) (l_e1 x 8) (l_e1 x 9) (l_e1 x 10) (l_e1 x 11) (h.2.2.2.2.2.1)) (l_c5 (fun w0 w1 w2 w3 w4 : Int => q_tok (t_b v) w0 w1 w2 w3 w4) (l_e1 x 0) (l_e1 x 1) (l_e1 x 4) (l_e1 x 5) (l_e1 x 6) (h.2.2.2.2.2.2.1)) (l_cc (l_q4 x 1 2) (h.2.1.1)) (l_cc (l_q14 1 x 11 16) (h.2.1.2.1)) (l_cc (l_q8 1 x 11 16) (h.2.1.2.2.1)) (l_cc (l_q1 259 x 4) (h.2.1.2.2.2.1))
    refine l_outH rfl (And.intro h.1 ?_)
    exact l_o4 (fun w0 w1 w2 w3 : Int => (True) ∧ (q_cy (t_b v) (v 102) (v 103) (v 104) w0 w1 w2 w3 ∧ True)) (l_e1 x 0) (l_e1 x 2) (l_e1 x 3) (l_e0 x (0)) K
  | skip
    intro v x h
    have C0 : (0 : Int) ≤ x 2 - x 1 := l_cc (a := y_ev x (0, [(1, (-1)), (2, 1)])) (by show ((0) : Int) + ((-1) * x 1 + ((1) * x 2 + 0)) = x 2 - x 1; omega) (h.2.1.1)
    have C1 : (0 : Int) ≤ x 16 - x 11 + 1 := l_cc (a := y_ev x (1, [(11, (-1)), (16, 1)])) (by show ((1) : Int) + ((-1) * x 11 + ((1) * x 16 + 0)) = x 16 - x 11 + 1; omega) (h.2.1.2.1)
    have C2 : (0 : Int) ≤ x 11 - x 16 - 1 := l_cc (a := y_ev x ((-1), [(11, 1), (16, (-1))])) (by show ((-1) : Int) + ((1) * x 11 + ((-1) * x 16 + 0)) = x 11 - x 16 - 1; omega) (h.2.1.2.2.1)
    have C3 : (0 : Int) ≤ 259 - x 4 := l_cc (a := y_ev x (259, [(4, (-1))])) (by show ((259) : Int) + ((-1) * x 4 + 0) = 259 - x 4; omega) (h.2.1.2.2.2.1)
    have E0 : y_ev x (0, [(0, 1)]) = x 0 := (l_e1 _ _)
    have E1 : y_ev x (0, [(1, 1)]) = x 1 := (l_e1 _ _)
    have E2 : y_ev x (0, [(3, 1)]) = x 3 := (l_e1 _ _)
    have E3 : y_ev x (0, []) = 0 := (l_e0 _ _)
    have E4 : y_ev x (0, [(12, 1)]) = x 12 := (l_e1 _ _)
    have E5 : y_ev x (0, [(13, 1)]) = x 13 := (l_e1 _ _)
    have E6 : y_ev x (0, [(14, 1)]) = x 14 := (l_e1 _ _)
    have E7 : y_ev x (0, [(15, 1)]) = x 15 := (l_e1 _ _)
    have E8 : y_ev x (0, [(16, 1)]) = x 16 := (l_e1 _ _)
    have E9 : y_ev x (0, [(2, 1)]) = x 2 := (l_e1 _ _)
    have E10 : y_ev x (0, [(7, 1)]) = x 7 := (l_e1 _ _)
    have E11 : y_ev x (0, [(8, 1)]) = x 8 := (l_e1 _ _)
    have E12 : y_ev x (0, [(9, 1)]) = x 9 := (l_e1 _ _)
    have E13 : y_ev x (0, [(10, 1)]) = x 10 := (l_e1 _ _)
    have E14 : y_ev x (0, [(11, 1)]) = x 11 := (l_e1 _ _)
    have E15 : y_ev x (0, [(4, 1)]) = x 4 := (l_e1 _ _)
    have E16 : y_ev x (0, [(5, 1)]) = x 5 := (l_e1 _ _)
    have E17 : y_ev x (0, [(6, 1)]) = x 6 := (l_e1 _ _)
    have T0 : q_cy (t_b v) (v 102) (v 103) (v 104) (y_ev x (0, [(0, 1)])) (y_ev x (0, [(1, 1)])) (y_ev x (0, [(3, 1)])) (y_ev x (0, [])) := h.2.2.2.1
    (try rw [E0] at T0); (try rw [E1] at T0); (try rw [E2] at T0); (try rw [E3] at T0)
    have T1 : q_run2 (t_b v) (y_ev x (0, [(0, 1)])) (y_ev x (0, [(1, 1)])) (y_ev x (0, [])) (y_ev x (0, [])) (y_ev x (0, [])) (y_ev x (0, [(12, 1)])) (y_ev x (0, [(13, 1)])) (y_ev x (0, [(14, 1)])) (y_ev x (0, [(15, 1)])) (y_ev x (0, [(16, 1)])) := h.2.2.2.2.1
    (try rw [E0] at T1); (try rw [E1] at T1); (try rw [E3] at T1); (try rw [E4] at T1); (try rw [E5] at T1); (try rw [E6] at T1); (try rw [E7] at T1); (try rw [E8] at T1)
    have T2 : q_run2 (t_b v) (y_ev x (0, [(0, 1)])) (y_ev x (0, [(2, 1)])) (y_ev x (0, [])) (y_ev x (0, [])) (y_ev x (0, [])) (y_ev x (0, [(7, 1)])) (y_ev x (0, [(8, 1)])) (y_ev x (0, [(9, 1)])) (y_ev x (0, [(10, 1)])) (y_ev x (0, [(11, 1)])) := h.2.2.2.2.2.1
    (try rw [E0] at T2); (try rw [E9] at T2); (try rw [E3] at T2); (try rw [E10] at T2); (try rw [E11] at T2); (try rw [E12] at T2); (try rw [E13] at T2); (try rw [E14] at T2)
    have T3 : q_tok (t_b v) (y_ev x (0, [(0, 1)])) (y_ev x (0, [(1, 1)])) (y_ev x (0, [(4, 1)])) (y_ev x (0, [(5, 1)])) (y_ev x (0, [(6, 1)])) := h.2.2.2.2.2.2.1
    (try rw [E0] at T3); (try rw [E1] at T3); (try rw [E15] at T3); (try rw [E16] at T3); (try rw [E17] at T3)
    have K := k_cyMa (V := v) (n := x 0) (c := x 1) (d := x 2) (l := x 3) (kd := x 4) (s := x 5) (v := x 6) (H2 := x 7) (L2 := x 8) (W2 := x 9) (P2 := x 10) (S2 := x 11) (H := x 12) (L := x 13) (W := x 14) (P := x 15) (S := x 16) T0 T1 T2 T3 C0 C1 C2 C3
    refine l_outH rfl (And.intro h.1 ?_)
    have O0 : y_ev x (0, [(0, 1)]) = x 0 := l_e1 _ _
    have O1 : y_ev x (0, [(2, 1)]) = x 2 := l_e1 _ _
    have O2 : y_ev x (0, [(3, 1)]) = x 3 := l_e1 _ _
    have O3 : y_ev x (0, []) = 0 := l_e0 _ _
    show (True) ∧ (q_cy (t_b v) (v 102) (v 103) (v 104) (y_ev x (0, [(0, 1)])) (y_ev x (0, [(2, 1)])) (y_ev x (0, [(3, 1)])) (y_ev x (0, [])) ∧ True)
    (try rw [O0]); (try rw [O1]); (try rw [O2]); (try rw [O3])
    exact K
def lm_622p : zS := ((lm_621pi_0 (lm_621pi_1 (lm_621pi_2 []))), [(1, false)], [(0, [(1, (-1)), (2, 1)]), (1, [(11, (-1)), (16, 1)]), ((-1), [(11, 1), (16, (-1))]), ((-264), [(4, 1)])], [], [], [(0, (false, 4, 0, []), 0, 0, 0, [(2, 1)])], (lm_621pg_0 []))
def lm_622 : zLem := (lm_622p, [([((-2147483648), 2147483647), ((-2147483648), 2147483647), ((-2147483648), 2147483647), ((-2147483648), 2147483647), ((-2147483648), 2147483647), ((-2147483648), 2147483647), ((-9223372036854775808), 9223372036854775807), ((-2147483648), 2147483647), ((-2147483648), 2147483647), ((-2147483648), 2147483647), ((-2147483648), 2147483647), ((-2147483648), 2147483647), ((-2147483648), 2147483647), ((-2147483648), 2147483647), ((-2147483648), 2147483647), ((-2147483648), 2147483647), ((-2147483648), 2147483647)], [(1, false)], [], [], [], [], [(201, [(0, [(0, 1)]), (0, [(2, 1)]), (0, [(3, 1)]), (0, [])])])])
theorem lk_622 : l_core lm_622 := by
  first
  | skip
    intro v x h
    have K := k_cyMb (V := v) (n := x 0) (c := x 1) (d := x 2) (l := x 3) (kd := x 4) (s := x 5) (v := x 6) (H2 := x 7) (L2 := x 8) (W2 := x 9) (P2 := x 10) (S2 := x 11) (H := x 12) (L := x 13) (W := x 14) (P := x 15) (S := x 16) (l_c4 (fun w0 w1 w2 w3 : Int => q_cy (t_b v) (v 102) (v 103) (v 104) w0 w1 w2 w3) (l_e1 x 0) (l_e1 x 1) (l_e1 x 3) (l_e0 x (0)) (h.2.2.2.1)) (l_c8 (fun w0 w1 w2 w3 w4 w5 w6 w7 : Int => q_run2 (t_b v) w0 w1 w2 w2 w2 w3 w4 w5 w6 w7) (l_e1 x 0) (l_e1 x 1) (l_e0 x (0)) (l_e1 x 12) (l_e1 x 13) (l_e1 x 14) (l_e1 x 15) (l_e1 x 16) (h.2.2.2.2.1)) (l_c8 (fun w0 w1 w2 w3 w4 w5 w6 w7 : Int => q_run2 (t_b v) w0 w1 w2 w2 w2 w3 w4 w5 w6 w7) (l_e1 x 0) (l_e1 x 2) (l_e0 x (0)) (l_e1 x 7) (l_e1 x 8) (l_e1 x 9) (l_e1 x 10) (l_e1 x 11) (h.2.2.2.2.2.1)) (l_c5 (fun w0 w1 w2 w3 w4 : Int => q_tok (t_b v) w0 w1 w2 w3 w4) (l_e1 x 0) (l_e1 x 1) (l_e1 x 4) (l_e1 x 5) (l_e1 x 6) (h.2.2.2.2.2.2.1)) (l_cc (l_q4 x 1 2) (h.2.1.1)) (l_cc (l_q14 1 x 11 16) (h.2.1.2.1)) (l_cc (l_q8 1 x 11 16) (h.2.1.2.2.1)) (l_cc (l_q2 264 x 4) (h.2.1.2.2.2.1))
    refine l_outH rfl (And.intro h.1 ?_)
    exact l_o4 (fun w0 w1 w2 w3 : Int => (True) ∧ (q_cy (t_b v) (v 102) (v 103) (v 104) w0 w1 w2 w3 ∧ True)) (l_e1 x 0) (l_e1 x 2) (l_e1 x 3) (l_e0 x (0)) K
  | skip
    intro v x h
    have C0 : (0 : Int) ≤ x 2 - x 1 := l_cc (a := y_ev x (0, [(1, (-1)), (2, 1)])) (by show ((0) : Int) + ((-1) * x 1 + ((1) * x 2 + 0)) = x 2 - x 1; omega) (h.2.1.1)
    have C1 : (0 : Int) ≤ x 16 - x 11 + 1 := l_cc (a := y_ev x (1, [(11, (-1)), (16, 1)])) (by show ((1) : Int) + ((-1) * x 11 + ((1) * x 16 + 0)) = x 16 - x 11 + 1; omega) (h.2.1.2.1)
    have C2 : (0 : Int) ≤ x 11 - x 16 - 1 := l_cc (a := y_ev x ((-1), [(11, 1), (16, (-1))])) (by show ((-1) : Int) + ((1) * x 11 + ((-1) * x 16 + 0)) = x 11 - x 16 - 1; omega) (h.2.1.2.2.1)
    have C3 : (0 : Int) ≤ x 4 - 264 := l_cc (a := y_ev x ((-264), [(4, 1)])) (by show ((-264) : Int) + ((1) * x 4 + 0) = x 4 - 264; omega) (h.2.1.2.2.2.1)
    have E0 : y_ev x (0, [(0, 1)]) = x 0 := (l_e1 _ _)
    have E1 : y_ev x (0, [(1, 1)]) = x 1 := (l_e1 _ _)
    have E2 : y_ev x (0, [(3, 1)]) = x 3 := (l_e1 _ _)
    have E3 : y_ev x (0, []) = 0 := (l_e0 _ _)
    have E4 : y_ev x (0, [(12, 1)]) = x 12 := (l_e1 _ _)
    have E5 : y_ev x (0, [(13, 1)]) = x 13 := (l_e1 _ _)
    have E6 : y_ev x (0, [(14, 1)]) = x 14 := (l_e1 _ _)
    have E7 : y_ev x (0, [(15, 1)]) = x 15 := (l_e1 _ _)
    have E8 : y_ev x (0, [(16, 1)]) = x 16 := (l_e1 _ _)
    have E9 : y_ev x (0, [(2, 1)]) = x 2 := (l_e1 _ _)
    have E10 : y_ev x (0, [(7, 1)]) = x 7 := (l_e1 _ _)
    have E11 : y_ev x (0, [(8, 1)]) = x 8 := (l_e1 _ _)
    have E12 : y_ev x (0, [(9, 1)]) = x 9 := (l_e1 _ _)
    have E13 : y_ev x (0, [(10, 1)]) = x 10 := (l_e1 _ _)
    have E14 : y_ev x (0, [(11, 1)]) = x 11 := (l_e1 _ _)
    have E15 : y_ev x (0, [(4, 1)]) = x 4 := (l_e1 _ _)
    have E16 : y_ev x (0, [(5, 1)]) = x 5 := (l_e1 _ _)
    have E17 : y_ev x (0, [(6, 1)]) = x 6 := (l_e1 _ _)
    have T0 : q_cy (t_b v) (v 102) (v 103) (v 104) (y_ev x (0, [(0, 1)])) (y_ev x (0, [(1, 1)])) (y_ev x (0, [(3, 1)])) (y_ev x (0, [])) := h.2.2.2.1
    (try rw [E0] at T0); (try rw [E1] at T0); (try rw [E2] at T0); (try rw [E3] at T0)
    have T1 : q_run2 (t_b v) (y_ev x (0, [(0, 1)])) (y_ev x (0, [(1, 1)])) (y_ev x (0, [])) (y_ev x (0, [])) (y_ev x (0, [])) (y_ev x (0, [(12, 1)])) (y_ev x (0, [(13, 1)])) (y_ev x (0, [(14, 1)])) (y_ev x (0, [(15, 1)])) (y_ev x (0, [(16, 1)])) := h.2.2.2.2.1
    (try rw [E0] at T1); (try rw [E1] at T1); (try rw [E3] at T1); (try rw [E4] at T1); (try rw [E5] at T1); (try rw [E6] at T1); (try rw [E7] at T1); (try rw [E8] at T1)
    have T2 : q_run2 (t_b v) (y_ev x (0, [(0, 1)])) (y_ev x (0, [(2, 1)])) (y_ev x (0, [])) (y_ev x (0, [])) (y_ev x (0, [])) (y_ev x (0, [(7, 1)])) (y_ev x (0, [(8, 1)])) (y_ev x (0, [(9, 1)])) (y_ev x (0, [(10, 1)])) (y_ev x (0, [(11, 1)])) := h.2.2.2.2.2.1
    (try rw [E0] at T2); (try rw [E9] at T2); (try rw [E3] at T2); (try rw [E10] at T2); (try rw [E11] at T2); (try rw [E12] at T2); (try rw [E13] at T2); (try rw [E14] at T2)
    have T3 : q_tok (t_b v) (y_ev x (0, [(0, 1)])) (y_ev x (0, [(1, 1)])) (y_ev x (0, [(4, 1)])) (y_ev x (0, [(5, 1)])) (y_ev x (0, [(6, 1)])) := h.2.2.2.2.2.2.1
    (try rw [E0] at T3); (try rw [E1] at T3); (try rw [E15] at T3); (try rw [E16] at T3); (try rw [E17] at T3)
    have K := k_cyMb (V := v) (n := x 0) (c := x 1) (d := x 2) (l := x 3) (kd := x 4) (s := x 5) (v := x 6) (H2 := x 7) (L2 := x 8) (W2 := x 9) (P2 := x 10) (S2 := x 11) (H := x 12) (L := x 13) (W := x 14) (P := x 15) (S := x 16) T0 T1 T2 T3 C0 C1 C2 C3
    refine l_outH rfl (And.intro h.1 ?_)
    have O0 : y_ev x (0, [(0, 1)]) = x 0 := l_e1 _ _
    have O1 : y_ev x (0, [(2, 1)]) = x 2 := l_e1 _ _
    have O2 : y_ev x (0, [(3, 1)]) = x 3 := l_e1 _ _
    have O3 : y_ev x (0, []) = 0 := l_e0 _ _
    show (True) ∧ (q_cy (t_b v) (v 102) (v 103) (v 104) (y_ev x (0, [(0, 1)])) (y_ev x (0, [(2, 1)])) (y_ev x (0, [(3, 1)])) (y_ev x (0, [])) ∧ True)
    (try rw [O0]); (try rw [O1]); (try rw [O2]); (try rw [O3])
    exact K
def lm_623 : zLem := (([((-2147483648), 2147483647), ((-2147483648), 2147483647), ((-2147483648), 2147483647), ((-2147483648), 2147483647), ((-9223372036854775808), 9223372036854775807), ((-2147483648), 2147483647), ((-2147483648), 2147483647), ((-2147483648), 2147483647), ((-2147483648), 2147483647), ((-2147483648), 2147483647)], [(1, false)], [], [], [], [(0, (false, 4, 0, []), 0, 0, 0, [(1, 1)])], [(201, [(0, [(0, 1)]), (0, [(1, 1)]), (0, [(2, 1)]), (0, [])]), (40, [(0, [(0, 1)]), (0, [(1, 1)]), (0, []), (0, []), (0, []), (0, [(5, 1)]), (0, [(6, 1)]), (0, [(7, 1)]), (0, [(8, 1)]), (0, [(9, 1)])]), (36, [(0, [(0, 1)]), (0, [(1, 1)]), (0, []), (0, [(3, 1)]), (0, [(4, 1)])])]), [([((-2147483648), 2147483647), ((-2147483648), 2147483647), ((-2147483648), 2147483647), ((-2147483648), 2147483647), ((-9223372036854775808), 9223372036854775807), ((-2147483648), 2147483647), ((-2147483648), 2147483647), ((-2147483648), 2147483647), ((-2147483648), 2147483647), ((-2147483648), 2147483647)], [(1, false)], [], [], [], [], [(213, [(0, [(0, 1)]), (0, [(2, 1)])])])])
theorem lk_623 : l_core lm_623 := by
  first
  | skip
    intro v x h
    have K := k_flw (V := v) (n := x 0) (c := x 1) (l := x 2) (s := x 3) (v := x 4) (H := x 5) (L := x 6) (W := x 7) (P := x 8) (S := x 9) (l_c4 (fun w0 w1 w2 w3 : Int => q_cy (t_b v) (v 102) (v 103) (v 104) w0 w1 w2 w3) (l_e1 x 0) (l_e1 x 1) (l_e1 x 2) (l_e0 x (0)) (h.2.2.2.1)) (l_c8 (fun w0 w1 w2 w3 w4 w5 w6 w7 : Int => q_run2 (t_b v) w0 w1 w2 w2 w2 w3 w4 w5 w6 w7) (l_e1 x 0) (l_e1 x 1) (l_e0 x (0)) (l_e1 x 5) (l_e1 x 6) (l_e1 x 7) (l_e1 x 8) (l_e1 x 9) (h.2.2.2.2.1)) (l_c5 (fun w0 w1 w2 w3 w4 : Int => q_tok (t_b v) w0 w1 w2 w3 w4) (l_e1 x 0) (l_e1 x 1) (l_e0 x (0)) (l_e1 x 3) (l_e1 x 4) (h.2.2.2.2.2.1))
    refine l_outH rfl (And.intro h.1 ?_)
    exact l_o2 (fun w0 w1 : Int => (True) ∧ (q_flw (t_b v) (v 102) (v 103) (v 104) w0 w1 ∧ True)) (l_e1 x 0) (l_e1 x 2) K
  | skip
    intro v x h
    have E0 : y_ev x (0, [(0, 1)]) = x 0 := (l_e1 _ _)
    have E1 : y_ev x (0, [(1, 1)]) = x 1 := (l_e1 _ _)
    have E2 : y_ev x (0, [(2, 1)]) = x 2 := (l_e1 _ _)
    have E3 : y_ev x (0, []) = 0 := (l_e0 _ _)
    have E4 : y_ev x (0, [(5, 1)]) = x 5 := (l_e1 _ _)
    have E5 : y_ev x (0, [(6, 1)]) = x 6 := (l_e1 _ _)
    have E6 : y_ev x (0, [(7, 1)]) = x 7 := (l_e1 _ _)
    have E7 : y_ev x (0, [(8, 1)]) = x 8 := (l_e1 _ _)
    have E8 : y_ev x (0, [(9, 1)]) = x 9 := (l_e1 _ _)
    have E9 : y_ev x (0, [(3, 1)]) = x 3 := (l_e1 _ _)
    have E10 : y_ev x (0, [(4, 1)]) = x 4 := (l_e1 _ _)
    have T0 : q_cy (t_b v) (v 102) (v 103) (v 104) (y_ev x (0, [(0, 1)])) (y_ev x (0, [(1, 1)])) (y_ev x (0, [(2, 1)])) (y_ev x (0, [])) := h.2.2.2.1
    (try rw [E0] at T0); (try rw [E1] at T0); (try rw [E2] at T0); (try rw [E3] at T0)
    have T1 : q_run2 (t_b v) (y_ev x (0, [(0, 1)])) (y_ev x (0, [(1, 1)])) (y_ev x (0, [])) (y_ev x (0, [])) (y_ev x (0, [])) (y_ev x (0, [(5, 1)])) (y_ev x (0, [(6, 1)])) (y_ev x (0, [(7, 1)])) (y_ev x (0, [(8, 1)])) (y_ev x (0, [(9, 1)])) := h.2.2.2.2.1
    (try rw [E0] at T1); (try rw [E1] at T1); (try rw [E3] at T1); (try rw [E4] at T1); (try rw [E5] at T1); (try rw [E6] at T1); (try rw [E7] at T1); (try rw [E8] at T1)
    have T2 : q_tok (t_b v) (y_ev x (0, [(0, 1)])) (y_ev x (0, [(1, 1)])) (y_ev x (0, [])) (y_ev x (0, [(3, 1)])) (y_ev x (0, [(4, 1)])) := h.2.2.2.2.2.1
    (try rw [E0] at T2); (try rw [E1] at T2); (try rw [E3] at T2); (try rw [E9] at T2); (try rw [E10] at T2)
    have K := k_flw (V := v) (n := x 0) (c := x 1) (l := x 2) (s := x 3) (v := x 4) (H := x 5) (L := x 6) (W := x 7) (P := x 8) (S := x 9) T0 T1 T2
    refine l_outH rfl (And.intro h.1 ?_)
    have O0 : y_ev x (0, [(0, 1)]) = x 0 := l_e1 _ _
    have O1 : y_ev x (0, [(2, 1)]) = x 2 := l_e1 _ _
    show (True) ∧ (q_flw (t_b v) (v 102) (v 103) (v 104) (y_ev x (0, [(0, 1)])) (y_ev x (0, [(2, 1)])) ∧ True)
    (try rw [O0]); (try rw [O1])
    exact K
def lm_624pi_0 (t : List (Int × Int)) : List (Int × Int) := ((-2147483648), 2147483647) :: ((-2147483648), 2147483647) :: ((-2147483648), 2147483647) :: ((-2147483648), 2147483647) :: ((-2147483648), 2147483647) :: ((-2147483648), 2147483647) :: ((-2147483648), 2147483647) :: ((-2147483648), 2147483647) :: t
def lm_624pi_1 (t : List (Int × Int)) : List (Int × Int) := ((-2147483648), 2147483647) :: ((-2147483648), 2147483647) :: ((-2147483648), 2147483647) :: ((-2147483648), 2147483647) :: ((-2147483648), 2147483647) :: ((-2147483648), 2147483647) :: ((-2147483648), 2147483647) :: t
def lm_624p : zS := ((lm_624pi_0 (lm_624pi_1 [])), [(12, false), (72, false), (73, false)], [((-200), [(8, 1)]), (0, [(9, 1)])], [], [], [(0, (false, 11, 0, []), 0, 0, 0, [(1, 1)]), (0, (false, 39, 0, []), 0, 0, 0, [(3, 1)]), (1, (true, 0, (-1), [(3, 1)]), 0, 0, 0, []), (2, (true, 0, (-1), [(3, 1)]), 0, 0, 0, [(7, 1)])], [(216, [(0, [(0, 1)]), (0, [(1, 1)]), (0, [(2, 1)]), ((-1), [(3, 1)]), (0, [(4, 1)]), (0, [(5, 1)]), (0, [])]), (40, [(0, [(0, 1)]), (0, [(1, 1)]), (0, [(8, 1)]), (0, []), (0, [(9, 1)]), (0, [(10, 1)]), (0, [(11, 1)]), (0, [(12, 1)]), (0, [(13, 1)]), (0, [(14, 1)])]), (59, [(0, [(0, 1)]), (0, [(1, 1)]), (2, []), (0, [(6, 1)])]), (61, [(0, [(0, 1)]), (0, [(1, 1)]), (0, [(7, 1)])])])
def lm_624 : zLem := (lm_624p, [([((-2147483648), 2147483647), ((-2147483648), 2147483647), ((-2147483648), 2147483647), ((-2147483648), 2147483647), ((-2147483648), 2147483647), ((-2147483648), 2147483647), ((-2147483648), 2147483647), ((-2147483648), 2147483647), ((-2147483648), 2147483647), ((-2147483648), 2147483647), ((-2147483648), 2147483647), ((-2147483648), 2147483647), ((-2147483648), 2147483647), ((-2147483648), 2147483647), ((-2147483648), 2147483647)], [(12, false), (72, false), (73, false)], [], [], [], [], [(216, [(0, [(0, 1)]), (0, [(1, 1)]), (0, [(2, 1)]), (0, [(3, 1)]), (0, [(4, 1)]), (0, [(5, 1)]), (5, [])])])])
theorem lk_624 : l_core lm_624 := by
  first
  | skip
    intro v x h
    have G0 := h.2.2.1
    have G1 := G0.2
    have G2 := G1.2
    have G3 := G2.2
    have K := k_myi (V := v) (n := x 0) (c := x 1) (s := x 2) (k := x 3) (w := x 4) (bb := x 5) (z := x 6) (i := x 7) (st := x 8) (op := x 9) (H := x 10) (L := x 11) (W := x 12) (P := x 13) (S := x 14) (l_c7 (fun w0 w1 w2 w3 w4 w5 w6 : Int => q_my v w0 w1 w2 w3 w4 w5 w6) (l_e1 x 0) (l_e1 x 1) (l_e1 x 2) (l_q2 1 x 3) (l_e1 x 4) (l_e1 x 5) (l_e0 x (0)) (h.2.2.2.1)) (l_c10 (fun w0 w1 w2 w3 w4 w5 w6 w7 w8 w9 : Int => q_run2 (t_b v) w0 w1 w2 w3 w4 w5 w6 w7 w8 w9) (l_e1 x 0) (l_e1 x 1) (l_e1 x 8) (l_e0 x (0)) (l_e1 x 9) (l_e1 x 10) (l_e1 x 11) (l_e1 x 12) (l_e1 x 13) (l_e1 x 14) (h.2.2.2.2.1)) (l_c4 (fun w0 w1 w2 w3 : Int => 0 ≤ w1 ∧ 0 ≤ w2 ∧ w2 ≤ 41 ∧ t_km w2 = tk (t_b v) w0 w1.toNat ∧ w3 = t_s (t_b v) w0 w1.toNat) (l_e1 x 0) (l_e1 x 1) (l_e0 x (2)) (l_e1 x 6) (h.2.2.2.2.2.1)) (l_c3 (fun w0 w1 w2 : Int => tk (t_b v) w0 w1.toNat = 3 ∧ w2 = tx (t_b v) w0 w1.toNat) (l_e1 x 0) (l_e1 x 1) (l_e1 x 7) (h.2.2.2.2.2.2.1)) (l_cc (l_q2 200 x 8) (h.2.1.1)) (l_cc (l_e1 x 9) (h.2.1.2.1)) (l_ff (f := v 72) (L := j_len 72) (l_q2 1 x 3) (l_e0 x (0)) (G2.1.1)) (l_ff (f := v 73) (L := j_len 73) (l_q2 1 x 3) (l_e1 x 7) (G3.1.1))
    refine l_outH rfl (And.intro h.1 ?_)
    exact l_o7 (fun w0 w1 w2 w3 w4 w5 w6 : Int => (True) ∧ (q_my v w0 w1 w2 w3 w4 w5 w6 ∧ True)) (l_e1 x 0) (l_e1 x 1) (l_e1 x 2) (l_e1 x 3) (l_e1 x 4) (l_e1 x 5) (l_e0 x (5)) K
  | skip
    intro v x h
    have G0 := h.2.2.1
    have G1 := G0.2
    have G2 := G1.2
    have G3 := G2.2
    have C0 : (0 : Int) ≤ x 8 - 200 := l_cc (a := y_ev x ((-200), [(8, 1)])) (by show ((-200) : Int) + ((1) * x 8 + 0) = x 8 - 200; omega) (h.2.1.1)
    have C1 : (0 : Int) ≤ x 9 := l_cc (a := y_ev x (0, [(9, 1)])) (l_e1 _ _) (h.2.1.2.1)
    have F0 : (0 : Int) ≤ x 3 - 1 ∧ (x 3 - 1 : Int) < j_len 72 ∧ v 72 (x 3 - 1) = 0 := l_ff (f := v 72) (L := j_len 72) (a := y_ev x ((-1), [(3, 1)])) (b := y_ev x (0, [])) (by show ((-1) : Int) + ((1) * x 3 + 0) = x 3 - 1; omega) (l_e0 _ _) (G2.1.1)
    have F1 : (0 : Int) ≤ x 3 - 1 ∧ (x 3 - 1 : Int) < j_len 73 ∧ v 73 (x 3 - 1) = x 7 := l_ff (f := v 73) (L := j_len 73) (a := y_ev x ((-1), [(3, 1)])) (b := y_ev x (0, [(7, 1)])) (by show ((-1) : Int) + ((1) * x 3 + 0) = x 3 - 1; omega) (l_e1 _ _) (G3.1.1)
    have E0 : y_ev x (0, [(0, 1)]) = x 0 := (l_e1 _ _)
    have E1 : y_ev x (0, [(1, 1)]) = x 1 := (l_e1 _ _)
    have E2 : y_ev x (0, [(2, 1)]) = x 2 := (l_e1 _ _)
    have E3 : y_ev x ((-1), [(3, 1)]) = x 3 - 1 := (by show ((-1) : Int) + ((1) * x 3 + 0) = x 3 - 1; omega)
    have E4 : y_ev x (0, [(4, 1)]) = x 4 := (l_e1 _ _)
    have E5 : y_ev x (0, [(5, 1)]) = x 5 := (l_e1 _ _)
    have E6 : y_ev x (0, []) = 0 := (l_e0 _ _)
    have E7 : y_ev x (0, [(8, 1)]) = x 8 := (l_e1 _ _)
    have E8 : y_ev x (0, [(9, 1)]) = x 9 := (l_e1 _ _)
    have E9 : y_ev x (0, [(10, 1)]) = x 10 := (l_e1 _ _)
    have E10 : y_ev x (0, [(11, 1)]) = x 11 := (l_e1 _ _)
    have E11 : y_ev x (0, [(12, 1)]) = x 12 := (l_e1 _ _)
    have E12 : y_ev x (0, [(13, 1)]) = x 13 := (l_e1 _ _)
    have E13 : y_ev x (0, [(14, 1)]) = x 14 := (l_e1 _ _)
    have E14 : y_ev x (2, []) = 2 := (l_e0 _ _)
    have E15 : y_ev x (0, [(6, 1)]) = x 6 := (l_e1 _ _)
    have E16 : y_ev x (0, [(7, 1)]) = x 7 := (l_e1 _ _)
    have T0 : q_my v (y_ev x (0, [(0, 1)])) (y_ev x (0, [(1, 1)])) (y_ev x (0, [(2, 1)])) (y_ev x ((-1), [(3, 1)])) (y_ev x (0, [(4, 1)])) (y_ev x (0, [(5, 1)])) (y_ev x (0, [])) := h.2.2.2.1
    (try rw [E0] at T0); (try rw [E1] at T0); (try rw [E2] at T0); (try rw [E3] at T0); (try rw [E4] at T0); (try rw [E5] at T0); (try rw [E6] at T0)
    have T1 : q_run2 (t_b v) (y_ev x (0, [(0, 1)])) (y_ev x (0, [(1, 1)])) (y_ev x (0, [(8, 1)])) (y_ev x (0, [])) (y_ev x (0, [(9, 1)])) (y_ev x (0, [(10, 1)])) (y_ev x (0, [(11, 1)])) (y_ev x (0, [(12, 1)])) (y_ev x (0, [(13, 1)])) (y_ev x (0, [(14, 1)])) := h.2.2.2.2.1
    (try rw [E0] at T1); (try rw [E1] at T1); (try rw [E7] at T1); (try rw [E6] at T1); (try rw [E8] at T1); (try rw [E9] at T1); (try rw [E10] at T1); (try rw [E11] at T1); (try rw [E12] at T1); (try rw [E13] at T1)
    have T2 : 0 ≤ (y_ev x (0, [(1, 1)])) ∧ 0 ≤ (y_ev x (2, [])) ∧ (y_ev x (2, [])) ≤ 41 ∧ t_km (y_ev x (2, [])) = tk (t_b v) (y_ev x (0, [(0, 1)])) (y_ev x (0, [(1, 1)])).toNat ∧ (y_ev x (0, [(6, 1)])) = t_s (t_b v) (y_ev x (0, [(0, 1)])) (y_ev x (0, [(1, 1)])).toNat := h.2.2.2.2.2.1
    (try rw [E0] at T2); (try rw [E1] at T2); (try rw [E14] at T2); (try rw [E15] at T2)
    have T3 : tk (t_b v) (y_ev x (0, [(0, 1)])) (y_ev x (0, [(1, 1)])).toNat = 3 ∧ (y_ev x (0, [(7, 1)])) = tx (t_b v) (y_ev x (0, [(0, 1)])) (y_ev x (0, [(1, 1)])).toNat := h.2.2.2.2.2.2.1
    (try rw [E0] at T3); (try rw [E1] at T3); (try rw [E16] at T3)
    have K := k_myi (V := v) (n := x 0) (c := x 1) (s := x 2) (k := x 3) (w := x 4) (bb := x 5) (z := x 6) (i := x 7) (st := x 8) (op := x 9) (H := x 10) (L := x 11) (W := x 12) (P := x 13) (S := x 14) T0 T1 T2 T3 C0 C1 F0 F1
    refine l_outH rfl (And.intro h.1 ?_)
    have O0 : y_ev x (0, [(0, 1)]) = x 0 := l_e1 _ _
    have O1 : y_ev x (0, [(1, 1)]) = x 1 := l_e1 _ _
    have O2 : y_ev x (0, [(2, 1)]) = x 2 := l_e1 _ _
    have O3 : y_ev x (0, [(3, 1)]) = x 3 := l_e1 _ _
    have O4 : y_ev x (0, [(4, 1)]) = x 4 := l_e1 _ _
    have O5 : y_ev x (0, [(5, 1)]) = x 5 := l_e1 _ _
    have O6 : y_ev x (5, []) = 5 := l_e0 _ _
    show (True) ∧ (q_my v (y_ev x (0, [(0, 1)])) (y_ev x (0, [(1, 1)])) (y_ev x (0, [(2, 1)])) (y_ev x (0, [(3, 1)])) (y_ev x (0, [(4, 1)])) (y_ev x (0, [(5, 1)])) (y_ev x (5, [])) ∧ True)
    (try rw [O0]); (try rw [O1]); (try rw [O2]); (try rw [O3]); (try rw [O4]); (try rw [O5]); (try rw [O6])
    exact K
def lm_625p : zS := ((lm_624pi_0 (lm_624pi_1 [])), [(12, false), (72, false), (73, false)], [((-200), [(8, 1)]), (0, [(9, 1)]), ((-33), [(6, 1)]), (41, [(6, (-1))])], [], [], [(0, (false, 11, 0, []), 0, 0, 0, [(1, 1)]), (0, (false, 39, 0, []), 0, 0, 0, [(3, 1)]), (1, (true, 0, (-1), [(3, 1)]), 0, 0, 1, []), (2, (true, 0, (-1), [(3, 1)]), 0, 0, (-33), [(6, 1)])], [(216, [(0, [(0, 1)]), (0, [(1, 1)]), (0, [(2, 1)]), ((-1), [(3, 1)]), (0, [(4, 1)]), (0, [(5, 1)]), (0, [])]), (40, [(0, [(0, 1)]), (0, [(1, 1)]), (0, [(8, 1)]), (0, []), (0, [(9, 1)]), (0, [(10, 1)]), (0, [(11, 1)]), (0, [(12, 1)]), (0, [(13, 1)]), (0, [(14, 1)])]), (59, [(0, [(0, 1)]), (0, [(1, 1)]), (0, [(6, 1)]), (0, [(7, 1)])])])
def lm_625 : zLem := (lm_625p, [([((-2147483648), 2147483647), ((-2147483648), 2147483647), ((-2147483648), 2147483647), ((-2147483648), 2147483647), ((-2147483648), 2147483647), ((-2147483648), 2147483647), ((-2147483648), 2147483647), ((-2147483648), 2147483647), ((-2147483648), 2147483647), ((-2147483648), 2147483647), ((-2147483648), 2147483647), ((-2147483648), 2147483647), ((-2147483648), 2147483647), ((-2147483648), 2147483647), ((-2147483648), 2147483647)], [(12, false), (72, false), (73, false)], [], [], [], [], [(216, [(0, [(0, 1)]), (0, [(1, 1)]), (0, [(2, 1)]), (0, [(3, 1)]), (0, [(4, 1)]), (0, [(5, 1)]), (5, [])])])])
theorem lk_625 : l_core lm_625 := by
  first
  | skip
    intro v x h
    have G0 := h.2.2.1
    have G1 := G0.2
    have G2 := G1.2
    have G3 := G2.2
    have K := k_myv (V := v) (n := x 0) (c := x 1) (s := x 2) (k := x 3) (w := x 4) (bb := x 5) (u := x 6) (z := x 7) (st := x 8) (op := x 9) (H := x 10) (L := x 11) (W := x 12) (P := x 13) (S := x 14) (l_c7 (fun w0 w1 w2 w3 w4 w5 w6 : Int => q_my v w0 w1 w2 w3 w4 w5 w6) (l_e1 x 0) (l_e1 x 1) (l_e1 x 2) (l_q2 1 x 3) (l_e1 x 4) (l_e1 x 5) (l_e0 x (0)) (h.2.2.2.1)) (l_c10 (fun w0 w1 w2 w3 w4 w5 w6 w7 w8 w9 : Int => q_run2 (t_b v) w0 w1 w2 w3 w4 w5 w6 w7 w8 w9) (l_e1 x 0) (l_e1 x 1) (l_e1 x 8) (l_e0 x (0)) (l_e1 x 9) (l_e1 x 10) (l_e1 x 11) (l_e1 x 12) (l_e1 x 13) (l_e1 x 14) (h.2.2.2.2.1)) (l_c4 (fun w0 w1 w2 w3 : Int => 0 ≤ w1 ∧ 0 ≤ w2 ∧ w2 ≤ 41 ∧ t_km w2 = tk (t_b v) w0 w1.toNat ∧ w3 = t_s (t_b v) w0 w1.toNat) (l_e1 x 0) (l_e1 x 1) (l_e1 x 6) (l_e1 x 7) (h.2.2.2.2.2.1)) (l_cc (l_q2 200 x 8) (h.2.1.1)) (l_cc (l_e1 x 9) (h.2.1.2.1)) (l_cc (l_q2 33 x 6) (h.2.1.2.2.1)) (l_cc (l_q1 41 x 6) (h.2.1.2.2.2.1)) (l_ff (f := v 72) (L := j_len 72) (l_q2 1 x 3) (l_e0 x (1)) (G2.1.1)) (l_ff (f := v 73) (L := j_len 73) (l_q2 1 x 3) (l_q2 33 x 6) (G3.1.1))
    refine l_outH rfl (And.intro h.1 ?_)
    exact l_o7 (fun w0 w1 w2 w3 w4 w5 w6 : Int => (True) ∧ (q_my v w0 w1 w2 w3 w4 w5 w6 ∧ True)) (l_e1 x 0) (l_e1 x 1) (l_e1 x 2) (l_e1 x 3) (l_e1 x 4) (l_e1 x 5) (l_e0 x (5)) K
  | skip
    intro v x h
    have G0 := h.2.2.1
    have G1 := G0.2
    have G2 := G1.2
    have G3 := G2.2
    have C0 : (0 : Int) ≤ x 8 - 200 := l_cc (a := y_ev x ((-200), [(8, 1)])) (by show ((-200) : Int) + ((1) * x 8 + 0) = x 8 - 200; omega) (h.2.1.1)
    have C1 : (0 : Int) ≤ x 9 := l_cc (a := y_ev x (0, [(9, 1)])) (l_e1 _ _) (h.2.1.2.1)
    have C2 : (0 : Int) ≤ x 6 - 33 := l_cc (a := y_ev x ((-33), [(6, 1)])) (by show ((-33) : Int) + ((1) * x 6 + 0) = x 6 - 33; omega) (h.2.1.2.2.1)
    have C3 : (0 : Int) ≤ 41 - x 6 := l_cc (a := y_ev x (41, [(6, (-1))])) (by show ((41) : Int) + ((-1) * x 6 + 0) = 41 - x 6; omega) (h.2.1.2.2.2.1)
    have F0 : (0 : Int) ≤ x 3 - 1 ∧ (x 3 - 1 : Int) < j_len 72 ∧ v 72 (x 3 - 1) = 1 := l_ff (f := v 72) (L := j_len 72) (a := y_ev x ((-1), [(3, 1)])) (b := y_ev x (1, [])) (by show ((-1) : Int) + ((1) * x 3 + 0) = x 3 - 1; omega) (l_e0 _ _) (G2.1.1)
    have F1 : (0 : Int) ≤ x 3 - 1 ∧ (x 3 - 1 : Int) < j_len 73 ∧ v 73 (x 3 - 1) = x 6 - 33 := l_ff (f := v 73) (L := j_len 73) (a := y_ev x ((-1), [(3, 1)])) (b := y_ev x ((-33), [(6, 1)])) (by show ((-1) : Int) + ((1) * x 3 + 0) = x 3 - 1; omega) (by show ((-33) : Int) + ((1) * x 6 + 0) = x 6 - 33; omega) (G3.1.1)
    have E0 : y_ev x (0, [(0, 1)]) = x 0 := (l_e1 _ _)
    have E1 : y_ev x (0, [(1, 1)]) = x 1 := (l_e1 _ _)
    have E2 : y_ev x (0, [(2, 1)]) = x 2 := (l_e1 _ _)
    have E3 : y_ev x ((-1), [(3, 1)]) = x 3 - 1 := (by show ((-1) : Int) + ((1) * x 3 + 0) = x 3 - 1; omega)
    have E4 : y_ev x (0, [(4, 1)]) = x 4 := (l_e1 _ _)
    have E5 : y_ev x (0, [(5, 1)]) = x 5 := (l_e1 _ _)
    have E6 : y_ev x (0, []) = 0 := (l_e0 _ _)
    have E7 : y_ev x (0, [(8, 1)]) = x 8 := (l_e1 _ _)
    have E8 : y_ev x (0, [(9, 1)]) = x 9 := (l_e1 _ _)
    have E9 : y_ev x (0, [(10, 1)]) = x 10 := (l_e1 _ _)
    have E10 : y_ev x (0, [(11, 1)]) = x 11 := (l_e1 _ _)
    have E11 : y_ev x (0, [(12, 1)]) = x 12 := (l_e1 _ _)
    have E12 : y_ev x (0, [(13, 1)]) = x 13 := (l_e1 _ _)
    have E13 : y_ev x (0, [(14, 1)]) = x 14 := (l_e1 _ _)
    have E14 : y_ev x (0, [(6, 1)]) = x 6 := (l_e1 _ _)
    have E15 : y_ev x (0, [(7, 1)]) = x 7 := (l_e1 _ _)
    have T0 : q_my v (y_ev x (0, [(0, 1)])) (y_ev x (0, [(1, 1)])) (y_ev x (0, [(2, 1)])) (y_ev x ((-1), [(3, 1)])) (y_ev x (0, [(4, 1)])) (y_ev x (0, [(5, 1)])) (y_ev x (0, [])) := h.2.2.2.1
    (try rw [E0] at T0); (try rw [E1] at T0); (try rw [E2] at T0); (try rw [E3] at T0); (try rw [E4] at T0); (try rw [E5] at T0); (try rw [E6] at T0)
    have T1 : q_run2 (t_b v) (y_ev x (0, [(0, 1)])) (y_ev x (0, [(1, 1)])) (y_ev x (0, [(8, 1)])) (y_ev x (0, [])) (y_ev x (0, [(9, 1)])) (y_ev x (0, [(10, 1)])) (y_ev x (0, [(11, 1)])) (y_ev x (0, [(12, 1)])) (y_ev x (0, [(13, 1)])) (y_ev x (0, [(14, 1)])) := h.2.2.2.2.1
    (try rw [E0] at T1); (try rw [E1] at T1); (try rw [E7] at T1); (try rw [E6] at T1); (try rw [E8] at T1); (try rw [E9] at T1); (try rw [E10] at T1); (try rw [E11] at T1); (try rw [E12] at T1); (try rw [E13] at T1)
    have T2 : 0 ≤ (y_ev x (0, [(1, 1)])) ∧ 0 ≤ (y_ev x (0, [(6, 1)])) ∧ (y_ev x (0, [(6, 1)])) ≤ 41 ∧ t_km (y_ev x (0, [(6, 1)])) = tk (t_b v) (y_ev x (0, [(0, 1)])) (y_ev x (0, [(1, 1)])).toNat ∧ (y_ev x (0, [(7, 1)])) = t_s (t_b v) (y_ev x (0, [(0, 1)])) (y_ev x (0, [(1, 1)])).toNat := h.2.2.2.2.2.1
    (try rw [E0] at T2); (try rw [E1] at T2); (try rw [E14] at T2); (try rw [E15] at T2)
    have K := k_myv (V := v) (n := x 0) (c := x 1) (s := x 2) (k := x 3) (w := x 4) (bb := x 5) (u := x 6) (z := x 7) (st := x 8) (op := x 9) (H := x 10) (L := x 11) (W := x 12) (P := x 13) (S := x 14) T0 T1 T2 C0 C1 C2 C3 F0 F1
    refine l_outH rfl (And.intro h.1 ?_)
    have O0 : y_ev x (0, [(0, 1)]) = x 0 := l_e1 _ _
    have O1 : y_ev x (0, [(1, 1)]) = x 1 := l_e1 _ _
    have O2 : y_ev x (0, [(2, 1)]) = x 2 := l_e1 _ _
    have O3 : y_ev x (0, [(3, 1)]) = x 3 := l_e1 _ _
    have O4 : y_ev x (0, [(4, 1)]) = x 4 := l_e1 _ _
    have O5 : y_ev x (0, [(5, 1)]) = x 5 := l_e1 _ _
    have O6 : y_ev x (5, []) = 5 := l_e0 _ _
    show (True) ∧ (q_my v (y_ev x (0, [(0, 1)])) (y_ev x (0, [(1, 1)])) (y_ev x (0, [(2, 1)])) (y_ev x (0, [(3, 1)])) (y_ev x (0, [(4, 1)])) (y_ev x (0, [(5, 1)])) (y_ev x (5, [])) ∧ True)
    (try rw [O0]); (try rw [O1]); (try rw [O2]); (try rw [O3]); (try rw [O4]); (try rw [O5]); (try rw [O6])
    exact K
def lm_626 : zLem := (([((-2147483648), 2147483647), ((-2147483648), 2147483647), ((-2147483648), 2147483647), ((-2147483648), 2147483647), ((-2147483648), 2147483647), ((-2147483648), 2147483647)], [(12, false)], [(400, [(1, (-1))]), ((-1), [(1, 1)])], [], [], [(0, (false, 11, 0, []), 0, 0, 0, [(1, 1)]), (0, (false, 39, 0, []), 0, 0, 0, [(3, 1)])], [(216, [(0, [(0, 1)]), ((-1), [(1, 1)]), (0, [(2, 1)]), (0, [(3, 1)]), (0, [(4, 1)]), (0, [(5, 1)]), (5, [])])]), [([((-2147483648), 2147483647), ((-2147483648), 2147483647), ((-2147483648), 2147483647), ((-2147483648), 2147483647), ((-2147483648), 2147483647), ((-2147483648), 2147483647)], [(12, false)], [], [], [], [], [(216, [(0, [(0, 1)]), (0, [(1, 1)]), (0, [(2, 1)]), (0, [(3, 1)]), (0, [(4, 1)]), (0, [(5, 1)]), (0, [])])])])
theorem lk_626 : l_core lm_626 := by
  first
  | skip
    intro v x h
    have K := k_myt (V := v) (n := x 0) (d := x 1) (s := x 2) (k := x 3) (w := x 4) (bb := x 5) (l_c7 (fun w0 w1 w2 w3 w4 w5 w6 : Int => q_my v w0 w1 w2 w3 w4 w5 w6) (l_e1 x 0) (l_q2 1 x 1) (l_e1 x 2) (l_e1 x 3) (l_e1 x 4) (l_e1 x 5) (l_e0 x (5)) (h.2.2.2.1)) (l_cc (l_q1 400 x 1) (h.2.1.1)) (l_cc (l_q2 1 x 1) (h.2.1.2.1))
    refine l_outH rfl (And.intro h.1 ?_)
    exact l_o7 (fun w0 w1 w2 w3 w4 w5 w6 : Int => (True) ∧ (q_my v w0 w1 w2 w3 w4 w5 w6 ∧ True)) (l_e1 x 0) (l_e1 x 1) (l_e1 x 2) (l_e1 x 3) (l_e1 x 4) (l_e1 x 5) (l_e0 x (0)) K
  | skip
    intro v x h
    have C0 : (0 : Int) ≤ 400 - x 1 := l_cc (a := y_ev x (400, [(1, (-1))])) (by show ((400) : Int) + ((-1) * x 1 + 0) = 400 - x 1; omega) (h.2.1.1)
    have C1 : (0 : Int) ≤ x 1 - 1 := l_cc (a := y_ev x ((-1), [(1, 1)])) (by show ((-1) : Int) + ((1) * x 1 + 0) = x 1 - 1; omega) (h.2.1.2.1)
    have E0 : y_ev x (0, [(0, 1)]) = x 0 := (l_e1 _ _)
    have E1 : y_ev x ((-1), [(1, 1)]) = x 1 - 1 := (by show ((-1) : Int) + ((1) * x 1 + 0) = x 1 - 1; omega)
    have E2 : y_ev x (0, [(2, 1)]) = x 2 := (l_e1 _ _)
    have E3 : y_ev x (0, [(3, 1)]) = x 3 := (l_e1 _ _)
    have E4 : y_ev x (0, [(4, 1)]) = x 4 := (l_e1 _ _)
    have E5 : y_ev x (0, [(5, 1)]) = x 5 := (l_e1 _ _)
    have E6 : y_ev x (5, []) = 5 := (l_e0 _ _)
    have T0 : q_my v (y_ev x (0, [(0, 1)])) (y_ev x ((-1), [(1, 1)])) (y_ev x (0, [(2, 1)])) (y_ev x (0, [(3, 1)])) (y_ev x (0, [(4, 1)])) (y_ev x (0, [(5, 1)])) (y_ev x (5, [])) := h.2.2.2.1
    (try rw [E0] at T0); (try rw [E1] at T0); (try rw [E2] at T0); (try rw [E3] at T0); (try rw [E4] at T0); (try rw [E5] at T0); (try rw [E6] at T0)
    have K := k_myt (V := v) (n := x 0) (d := x 1) (s := x 2) (k := x 3) (w := x 4) (bb := x 5) T0 C0 C1
    refine l_outH rfl (And.intro h.1 ?_)
    have O0 : y_ev x (0, [(0, 1)]) = x 0 := l_e1 _ _
    have O1 : y_ev x (0, [(1, 1)]) = x 1 := l_e1 _ _
    have O2 : y_ev x (0, [(2, 1)]) = x 2 := l_e1 _ _
    have O3 : y_ev x (0, [(3, 1)]) = x 3 := l_e1 _ _
    have O4 : y_ev x (0, [(4, 1)]) = x 4 := l_e1 _ _
    have O5 : y_ev x (0, [(5, 1)]) = x 5 := l_e1 _ _
    have O6 : y_ev x (0, []) = 0 := l_e0 _ _
    show (True) ∧ (q_my v (y_ev x (0, [(0, 1)])) (y_ev x (0, [(1, 1)])) (y_ev x (0, [(2, 1)])) (y_ev x (0, [(3, 1)])) (y_ev x (0, [(4, 1)])) (y_ev x (0, [(5, 1)])) (y_ev x (0, [])) ∧ True)
    (try rw [O0]); (try rw [O1]); (try rw [O2]); (try rw [O3]); (try rw [O4]); (try rw [O5]); (try rw [O6])
    exact K
def lm_627pi_0 (t : List (Int × Int)) : List (Int × Int) := ((-2147483648), 2147483647) :: ((-2147483648), 2147483647) :: ((-2147483648), 2147483647) :: ((-2147483648), 2147483647) :: ((-2147483648), 2147483647) :: ((-2147483648), 2147483647) :: ((-2147483648), 2147483647) :: ((-2147483648), 2147483647) :: t
def lm_627pi_1 (t : List (Int × Int)) : List (Int × Int) := ((-2147483648), 2147483647) :: ((-9223372036854775808), 9223372036854775807) :: ((-2147483648), 2147483647) :: ((-2147483648), 2147483647) :: ((-2147483648), 2147483647) :: ((-2147483648), 2147483647) :: ((-2147483648), 2147483647) :: t
def lm_627p : zS := ((lm_627pi_0 (lm_627pi_1 [])), [(12, false), (74, false)], [(400, [(1, (-1))]), ((-200), [(6, 1)]), (0, [(7, 1)]), (5, [(7, (-1))])], [], [], [(0, (false, 11, 0, []), 0, 0, 0, [(1, 1)]), (0, (false, 43, 0, []), 0, 0, 0, [(4, 1)]), (1, (true, 0, (-1), [(4, 1)]), 0, 0, 6, [])], [(216, [(0, [(0, 1)]), ((-1), [(1, 1)]), (0, [(2, 1)]), (0, [(3, 1)]), ((-1), [(4, 1)]), (0, [(5, 1)]), (0, [])]), (40, [(0, [(0, 1)]), ((-1), [(1, 1)]), (0, [(6, 1)]), (0, []), (0, [(7, 1)]), (0, [(10, 1)]), (0, [(11, 1)]), (0, [(12, 1)]), (0, [(13, 1)]), (0, [(14, 1)])]), (36, [(0, [(0, 1)]), ((-1), [(1, 1)]), (40, []), (0, [(8, 1)]), (0, [(9, 1)])])])
def lm_627 : zLem := (lm_627p, [([((-2147483648), 2147483647), ((-2147483648), 2147483647), ((-2147483648), 2147483647), ((-2147483648), 2147483647), ((-2147483648), 2147483647), ((-2147483648), 2147483647), ((-2147483648), 2147483647), ((-2147483648), 2147483647), ((-2147483648), 2147483647), ((-9223372036854775808), 9223372036854775807), ((-2147483648), 2147483647), ((-2147483648), 2147483647), ((-2147483648), 2147483647), ((-2147483648), 2147483647), ((-2147483648), 2147483647)], [(12, false), (74, false)], [], [], [], [], [(216, [(0, [(0, 1)]), (0, [(1, 1)]), (0, [(2, 1)]), (0, [(3, 1)]), (0, [(4, 1)]), (0, [(5, 1)]), (0, [])])])])
theorem lk_627 : l_core lm_627 := by
  first
  | skip
    intro v x h
    have G0 := h.2.2.1
    have G1 := G0.2
    have G2 := G1.2
    have K := k_myo (V := v) (n := x 0) (d := x 1) (s := x 2) (k := x 3) (w := x 4) (bb := x 5) (st := x 6) (op := x 7) (z := x 8) (v := x 9) (H := x 10) (L := x 11) (W := x 12) (P := x 13) (S := x 14) (l_c7 (fun w0 w1 w2 w3 w4 w5 w6 : Int => q_my v w0 w1 w2 w3 w4 w5 w6) (l_e1 x 0) (l_q2 1 x 1) (l_e1 x 2) (l_e1 x 3) (l_q2 1 x 4) (l_e1 x 5) (l_e0 x (0)) (h.2.2.2.1)) (l_c10 (fun w0 w1 w2 w3 w4 w5 w6 w7 w8 w9 : Int => q_run2 (t_b v) w0 w1 w2 w3 w4 w5 w6 w7 w8 w9) (l_e1 x 0) (l_q2 1 x 1) (l_e1 x 6) (l_e0 x (0)) (l_e1 x 7) (l_e1 x 10) (l_e1 x 11) (l_e1 x 12) (l_e1 x 13) (l_e1 x 14) (h.2.2.2.2.1)) (l_c5 (fun w0 w1 w2 w3 w4 : Int => q_tok (t_b v) w0 w1 w2 w3 w4) (l_e1 x 0) (l_q2 1 x 1) (l_e0 x (40)) (l_e1 x 8) (l_e1 x 9) (h.2.2.2.2.2.1)) (l_cc (l_q1 400 x 1) (h.2.1.1)) (l_cc (l_q2 200 x 6) (h.2.1.2.1)) (l_cc (l_e1 x 7) (h.2.1.2.2.1)) (l_cc (l_q1 5 x 7) (h.2.1.2.2.2.1)) (l_ff (f := v 74) (L := j_len 74) (l_q2 1 x 4) (l_e0 x (6)) (G2.1.1))
    refine l_outH rfl (And.intro h.1 ?_)
    exact l_o7 (fun w0 w1 w2 w3 w4 w5 w6 : Int => (True) ∧ (q_my v w0 w1 w2 w3 w4 w5 w6 ∧ True)) (l_e1 x 0) (l_e1 x 1) (l_e1 x 2) (l_e1 x 3) (l_e1 x 4) (l_e1 x 5) (l_e0 x (0)) K
  | skip
    intro v x h
    have G0 := h.2.2.1
    have G1 := G0.2
    have G2 := G1.2
    have C0 : (0 : Int) ≤ 400 - x 1 := l_cc (a := y_ev x (400, [(1, (-1))])) (by show ((400) : Int) + ((-1) * x 1 + 0) = 400 - x 1; omega) (h.2.1.1)
    have C1 : (0 : Int) ≤ x 6 - 200 := l_cc (a := y_ev x ((-200), [(6, 1)])) (by show ((-200) : Int) + ((1) * x 6 + 0) = x 6 - 200; omega) (h.2.1.2.1)
    have C2 : (0 : Int) ≤ x 7 := l_cc (a := y_ev x (0, [(7, 1)])) (l_e1 _ _) (h.2.1.2.2.1)
    have C3 : (0 : Int) ≤ 5 - x 7 := l_cc (a := y_ev x (5, [(7, (-1))])) (by show ((5) : Int) + ((-1) * x 7 + 0) = 5 - x 7; omega) (h.2.1.2.2.2.1)
    have F0 : (0 : Int) ≤ x 4 - 1 ∧ (x 4 - 1 : Int) < j_len 74 ∧ v 74 (x 4 - 1) = 6 := l_ff (f := v 74) (L := j_len 74) (a := y_ev x ((-1), [(4, 1)])) (b := y_ev x (6, [])) (by show ((-1) : Int) + ((1) * x 4 + 0) = x 4 - 1; omega) (l_e0 _ _) (G2.1.1)
    have E0 : y_ev x (0, [(0, 1)]) = x 0 := (l_e1 _ _)
    have E1 : y_ev x ((-1), [(1, 1)]) = x 1 - 1 := (by show ((-1) : Int) + ((1) * x 1 + 0) = x 1 - 1; omega)
    have E2 : y_ev x (0, [(2, 1)]) = x 2 := (l_e1 _ _)
    have E3 : y_ev x (0, [(3, 1)]) = x 3 := (l_e1 _ _)
    have E4 : y_ev x ((-1), [(4, 1)]) = x 4 - 1 := (by show ((-1) : Int) + ((1) * x 4 + 0) = x 4 - 1; omega)
    have E5 : y_ev x (0, [(5, 1)]) = x 5 := (l_e1 _ _)
    have E6 : y_ev x (0, []) = 0 := (l_e0 _ _)
    have E7 : y_ev x (0, [(6, 1)]) = x 6 := (l_e1 _ _)
    have E8 : y_ev x (0, [(7, 1)]) = x 7 := (l_e1 _ _)
    have E9 : y_ev x (0, [(10, 1)]) = x 10 := (l_e1 _ _)
    have E10 : y_ev x (0, [(11, 1)]) = x 11 := (l_e1 _ _)
    have E11 : y_ev x (0, [(12, 1)]) = x 12 := (l_e1 _ _)
    have E12 : y_ev x (0, [(13, 1)]) = x 13 := (l_e1 _ _)
    have E13 : y_ev x (0, [(14, 1)]) = x 14 := (l_e1 _ _)
    have E14 : y_ev x (40, []) = 40 := (l_e0 _ _)
    have E15 : y_ev x (0, [(8, 1)]) = x 8 := (l_e1 _ _)
    have E16 : y_ev x (0, [(9, 1)]) = x 9 := (l_e1 _ _)
    have T0 : q_my v (y_ev x (0, [(0, 1)])) (y_ev x ((-1), [(1, 1)])) (y_ev x (0, [(2, 1)])) (y_ev x (0, [(3, 1)])) (y_ev x ((-1), [(4, 1)])) (y_ev x (0, [(5, 1)])) (y_ev x (0, [])) := h.2.2.2.1
    (try rw [E0] at T0); (try rw [E1] at T0); (try rw [E2] at T0); (try rw [E3] at T0); (try rw [E4] at T0); (try rw [E5] at T0); (try rw [E6] at T0)
    have T1 : q_run2 (t_b v) (y_ev x (0, [(0, 1)])) (y_ev x ((-1), [(1, 1)])) (y_ev x (0, [(6, 1)])) (y_ev x (0, [])) (y_ev x (0, [(7, 1)])) (y_ev x (0, [(10, 1)])) (y_ev x (0, [(11, 1)])) (y_ev x (0, [(12, 1)])) (y_ev x (0, [(13, 1)])) (y_ev x (0, [(14, 1)])) := h.2.2.2.2.1
    (try rw [E0] at T1); (try rw [E1] at T1); (try rw [E7] at T1); (try rw [E6] at T1); (try rw [E8] at T1); (try rw [E9] at T1); (try rw [E10] at T1); (try rw [E11] at T1); (try rw [E12] at T1); (try rw [E13] at T1)
    have T2 : q_tok (t_b v) (y_ev x (0, [(0, 1)])) (y_ev x ((-1), [(1, 1)])) (y_ev x (40, [])) (y_ev x (0, [(8, 1)])) (y_ev x (0, [(9, 1)])) := h.2.2.2.2.2.1
    (try rw [E0] at T2); (try rw [E1] at T2); (try rw [E14] at T2); (try rw [E15] at T2); (try rw [E16] at T2)
    have K := k_myo (V := v) (n := x 0) (d := x 1) (s := x 2) (k := x 3) (w := x 4) (bb := x 5) (st := x 6) (op := x 7) (z := x 8) (v := x 9) (H := x 10) (L := x 11) (W := x 12) (P := x 13) (S := x 14) T0 T1 T2 C0 C1 C2 C3 F0
    refine l_outH rfl (And.intro h.1 ?_)
    have O0 : y_ev x (0, [(0, 1)]) = x 0 := l_e1 _ _
    have O1 : y_ev x (0, [(1, 1)]) = x 1 := l_e1 _ _
    have O2 : y_ev x (0, [(2, 1)]) = x 2 := l_e1 _ _
    have O3 : y_ev x (0, [(3, 1)]) = x 3 := l_e1 _ _
    have O4 : y_ev x (0, [(4, 1)]) = x 4 := l_e1 _ _
    have O5 : y_ev x (0, [(5, 1)]) = x 5 := l_e1 _ _
    have O6 : y_ev x (0, []) = 0 := l_e0 _ _
    show (True) ∧ (q_my v (y_ev x (0, [(0, 1)])) (y_ev x (0, [(1, 1)])) (y_ev x (0, [(2, 1)])) (y_ev x (0, [(3, 1)])) (y_ev x (0, [(4, 1)])) (y_ev x (0, [(5, 1)])) (y_ev x (0, [])) ∧ True)
    (try rw [O0]); (try rw [O1]); (try rw [O2]); (try rw [O3]); (try rw [O4]); (try rw [O5]); (try rw [O6])
    exact K
def lm_628p : zS := ((lm_627pi_0 (lm_627pi_1 [])), [(12, false)], [(400, [(1, (-1))]), ((-200), [(6, 1)]), ((-1), [(7, 1)]), (0, [(4, 1)])], [], [], [(0, (false, 11, 0, []), 0, 0, 0, [(1, 1)]), (0, (false, 43, 0, []), 0, 0, 0, [(4, 1)])], [(216, [(0, [(0, 1)]), ((-1), [(1, 1)]), (0, [(2, 1)]), (0, [(3, 1)]), (1, [(4, 1)]), (0, [(5, 1)]), (4, [])]), (40, [(0, [(0, 1)]), ((-1), [(1, 1)]), (0, [(6, 1)]), (1, []), (0, [(7, 1)]), (0, [(10, 1)]), (0, [(11, 1)]), (0, [(12, 1)]), (0, [(13, 1)]), (0, [(14, 1)])]), (36, [(0, [(0, 1)]), ((-1), [(1, 1)]), (41, []), (0, [(8, 1)]), (0, [(9, 1)])])])
def lm_628 : zLem := (lm_628p, [([((-2147483648), 2147483647), ((-2147483648), 2147483647), ((-2147483648), 2147483647), ((-2147483648), 2147483647), ((-2147483648), 2147483647), ((-2147483648), 2147483647), ((-2147483648), 2147483647), ((-2147483648), 2147483647), ((-2147483648), 2147483647), ((-9223372036854775808), 9223372036854775807), ((-2147483648), 2147483647), ((-2147483648), 2147483647), ((-2147483648), 2147483647), ((-2147483648), 2147483647), ((-2147483648), 2147483647)], [(12, false)], [], [], [], [], [(216, [(0, [(0, 1)]), (0, [(1, 1)]), (0, [(2, 1)]), (0, [(3, 1)]), (0, [(4, 1)]), (0, [(5, 1)]), (0, [])])])])
theorem lk_628 : l_core lm_628 := by
  first
  | skip
    intro v x h
    have K := k_myc (V := v) (n := x 0) (d := x 1) (s := x 2) (k := x 3) (w := x 4) (bb := x 5) (st := x 6) (op := x 7) (z := x 8) (v := x 9) (H := x 10) (L := x 11) (W := x 12) (P := x 13) (S := x 14) (l_c7 (fun w0 w1 w2 w3 w4 w5 w6 : Int => q_my v w0 w1 w2 w3 w4 w5 w6) (l_e1 x 0) (l_q2 1 x 1) (l_e1 x 2) (l_e1 x 3) (l_q3 1 x 4) (l_e1 x 5) (l_e0 x (4)) (h.2.2.2.1)) (l_c10 (fun w0 w1 w2 w3 w4 w5 w6 w7 w8 w9 : Int => q_run2 (t_b v) w0 w1 w2 w3 w4 w5 w6 w7 w8 w9) (l_e1 x 0) (l_q2 1 x 1) (l_e1 x 6) (l_e0 x (1)) (l_e1 x 7) (l_e1 x 10) (l_e1 x 11) (l_e1 x 12) (l_e1 x 13) (l_e1 x 14) (h.2.2.2.2.1)) (l_c5 (fun w0 w1 w2 w3 w4 : Int => q_tok (t_b v) w0 w1 w2 w3 w4) (l_e1 x 0) (l_q2 1 x 1) (l_e0 x (41)) (l_e1 x 8) (l_e1 x 9) (h.2.2.2.2.2.1)) (l_cc (l_q1 400 x 1) (h.2.1.1)) (l_cc (l_q2 200 x 6) (h.2.1.2.1)) (l_cc (l_q2 1 x 7) (h.2.1.2.2.1)) (l_cc (l_e1 x 4) (h.2.1.2.2.2.1))
    refine l_outH rfl (And.intro h.1 ?_)
    exact l_o7 (fun w0 w1 w2 w3 w4 w5 w6 : Int => (True) ∧ (q_my v w0 w1 w2 w3 w4 w5 w6 ∧ True)) (l_e1 x 0) (l_e1 x 1) (l_e1 x 2) (l_e1 x 3) (l_e1 x 4) (l_e1 x 5) (l_e0 x (0)) K
  | skip
    intro v x h
    have C0 : (0 : Int) ≤ 400 - x 1 := l_cc (a := y_ev x (400, [(1, (-1))])) (by show ((400) : Int) + ((-1) * x 1 + 0) = 400 - x 1; omega) (h.2.1.1)
    have C1 : (0 : Int) ≤ x 6 - 200 := l_cc (a := y_ev x ((-200), [(6, 1)])) (by show ((-200) : Int) + ((1) * x 6 + 0) = x 6 - 200; omega) (h.2.1.2.1)
    have C2 : (0 : Int) ≤ x 7 - 1 := l_cc (a := y_ev x ((-1), [(7, 1)])) (by show ((-1) : Int) + ((1) * x 7 + 0) = x 7 - 1; omega) (h.2.1.2.2.1)
    have C3 : (0 : Int) ≤ x 4 := l_cc (a := y_ev x (0, [(4, 1)])) (l_e1 _ _) (h.2.1.2.2.2.1)
    have E0 : y_ev x (0, [(0, 1)]) = x 0 := (l_e1 _ _)
    have E1 : y_ev x ((-1), [(1, 1)]) = x 1 - 1 := (by show ((-1) : Int) + ((1) * x 1 + 0) = x 1 - 1; omega)
    have E2 : y_ev x (0, [(2, 1)]) = x 2 := (l_e1 _ _)
    have E3 : y_ev x (0, [(3, 1)]) = x 3 := (l_e1 _ _)
    have E4 : y_ev x (1, [(4, 1)]) = x 4 + 1 := (by show ((1) : Int) + ((1) * x 4 + 0) = x 4 + 1; omega)
    have E5 : y_ev x (0, [(5, 1)]) = x 5 := (l_e1 _ _)
    have E6 : y_ev x (4, []) = 4 := (l_e0 _ _)
    have E7 : y_ev x (0, [(6, 1)]) = x 6 := (l_e1 _ _)
    have E8 : y_ev x (1, []) = 1 := (l_e0 _ _)
    have E9 : y_ev x (0, [(7, 1)]) = x 7 := (l_e1 _ _)
    have E10 : y_ev x (0, [(10, 1)]) = x 10 := (l_e1 _ _)
    have E11 : y_ev x (0, [(11, 1)]) = x 11 := (l_e1 _ _)
    have E12 : y_ev x (0, [(12, 1)]) = x 12 := (l_e1 _ _)
    have E13 : y_ev x (0, [(13, 1)]) = x 13 := (l_e1 _ _)
    have E14 : y_ev x (0, [(14, 1)]) = x 14 := (l_e1 _ _)
    have E15 : y_ev x (41, []) = 41 := (l_e0 _ _)
    have E16 : y_ev x (0, [(8, 1)]) = x 8 := (l_e1 _ _)
    have E17 : y_ev x (0, [(9, 1)]) = x 9 := (l_e1 _ _)
    have T0 : q_my v (y_ev x (0, [(0, 1)])) (y_ev x ((-1), [(1, 1)])) (y_ev x (0, [(2, 1)])) (y_ev x (0, [(3, 1)])) (y_ev x (1, [(4, 1)])) (y_ev x (0, [(5, 1)])) (y_ev x (4, [])) := h.2.2.2.1
    (try rw [E0] at T0); (try rw [E1] at T0); (try rw [E2] at T0); (try rw [E3] at T0); (try rw [E4] at T0); (try rw [E5] at T0); (try rw [E6] at T0)
    have T1 : q_run2 (t_b v) (y_ev x (0, [(0, 1)])) (y_ev x ((-1), [(1, 1)])) (y_ev x (0, [(6, 1)])) (y_ev x (1, [])) (y_ev x (0, [(7, 1)])) (y_ev x (0, [(10, 1)])) (y_ev x (0, [(11, 1)])) (y_ev x (0, [(12, 1)])) (y_ev x (0, [(13, 1)])) (y_ev x (0, [(14, 1)])) := h.2.2.2.2.1
    (try rw [E0] at T1); (try rw [E1] at T1); (try rw [E7] at T1); (try rw [E8] at T1); (try rw [E9] at T1); (try rw [E10] at T1); (try rw [E11] at T1); (try rw [E12] at T1); (try rw [E13] at T1); (try rw [E14] at T1)
    have T2 : q_tok (t_b v) (y_ev x (0, [(0, 1)])) (y_ev x ((-1), [(1, 1)])) (y_ev x (41, [])) (y_ev x (0, [(8, 1)])) (y_ev x (0, [(9, 1)])) := h.2.2.2.2.2.1
    (try rw [E0] at T2); (try rw [E1] at T2); (try rw [E15] at T2); (try rw [E16] at T2); (try rw [E17] at T2)
    have K := k_myc (V := v) (n := x 0) (d := x 1) (s := x 2) (k := x 3) (w := x 4) (bb := x 5) (st := x 6) (op := x 7) (z := x 8) (v := x 9) (H := x 10) (L := x 11) (W := x 12) (P := x 13) (S := x 14) T0 T1 T2 C0 C1 C2 C3
    refine l_outH rfl (And.intro h.1 ?_)
    have O0 : y_ev x (0, [(0, 1)]) = x 0 := l_e1 _ _
    have O1 : y_ev x (0, [(1, 1)]) = x 1 := l_e1 _ _
    have O2 : y_ev x (0, [(2, 1)]) = x 2 := l_e1 _ _
    have O3 : y_ev x (0, [(3, 1)]) = x 3 := l_e1 _ _
    have O4 : y_ev x (0, [(4, 1)]) = x 4 := l_e1 _ _
    have O5 : y_ev x (0, [(5, 1)]) = x 5 := l_e1 _ _
    have O6 : y_ev x (0, []) = 0 := l_e0 _ _
    show (True) ∧ (q_my v (y_ev x (0, [(0, 1)])) (y_ev x (0, [(1, 1)])) (y_ev x (0, [(2, 1)])) (y_ev x (0, [(3, 1)])) (y_ev x (0, [(4, 1)])) (y_ev x (0, [(5, 1)])) (y_ev x (0, [])) ∧ True)
    (try rw [O0]); (try rw [O1]); (try rw [O2]); (try rw [O3]); (try rw [O4]); (try rw [O5]); (try rw [O6])
    exact K
end
