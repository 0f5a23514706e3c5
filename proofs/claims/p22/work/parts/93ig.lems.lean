noncomputable section
/-! ===== the lemmas as data, by program ===== -/
def lm_486 : zLem := (([((-2147483648), 2147483647), ((-2147483648), 2147483647), ((-2147483648), 2147483647), ((-2147483648), 2147483647), ((-2147483648), 2147483647)], [], [((-1), [(2, (-1))])], [], [(0, 0, 0, [(2, 1)]), (0, 0, 0, [(3, 1)]), (0, 0, 0, [(4, 1)])], [], [(34, [(0, [(0, 1)]), (0, [(1, 1)])])]), [([((-2147483648), 2147483647), ((-2147483648), 2147483647), ((-2147483648), 2147483647), ((-2147483648), 2147483647), ((-2147483648), 2147483647)], [], [], [], [], [], [(46, [(0, [(0, 1)]), (0, [(1, 1)]), (0, [(2, 1)]), (0, [(3, 1)]), (0, [(4, 1)])])])])
theorem lk_486 : l_core lm_486 := by
  first
  | skip
    intro v x h
    have K := k_cluB (V := v) (n := x 0) (c := x 1) (r := x 2) (q := x 3) (x := x 4) (l_c2 (fun w0 w1 : Int => 0 ≤ w1 ∧ q_66 fun a b => v 98 (6 * a + b) = a_lk (t_b v) w0 w1.toNat a b) (l_e1 x 0) (l_e1 x 1) (h.2.2.2.1)) (l_cc (l_q11 1 x 2) (h.2.1.1))
    refine l_outH rfl (And.intro h.1 ?_)
    exact l_o5 (fun w0 w1 w2 w3 w4 : Int => (True) ∧ ((0 ≤ w1 ∧ q_66 fun a b => v 98 (6 * a + b) = a_up (a_lk (t_b v) w0 w1.toNat) w2 w3 w4 a b) ∧ True)) (l_e1 x 0) (l_e1 x 1) (l_e1 x 2) (l_e1 x 3) (l_e1 x 4) K
  | skip
    intro v x h
    have C0 : (0 : Int) ≤ -x 2 - 1 := l_cc (a := y_ev x ((-1), [(2, (-1))])) (by show ((-1) : Int) + ((-1) * x 2 + 0) = -x 2 - 1; omega) (h.2.1.1)
    have E0 : y_ev x (0, [(0, 1)]) = x 0 := (l_e1 _ _)
    have E1 : y_ev x (0, [(1, 1)]) = x 1 := (l_e1 _ _)
    have T0 : 0 ≤ (y_ev x (0, [(1, 1)])) ∧ q_66 fun a b => v 98 (6 * a + b) = a_lk (t_b v) (y_ev x (0, [(0, 1)])) (y_ev x (0, [(1, 1)])).toNat a b := h.2.2.2.1
    (try rw [E0] at T0); (try rw [E1] at T0)
    have K := k_cluB (V := v) (n := x 0) (c := x 1) (r := x 2) (q := x 3) (x := x 4) T0 C0
    refine l_outH rfl (And.intro h.1 ?_)
    have O0 : y_ev x (0, [(0, 1)]) = x 0 := l_e1 _ _
    have O1 : y_ev x (0, [(1, 1)]) = x 1 := l_e1 _ _
    have O2 : y_ev x (0, [(2, 1)]) = x 2 := l_e1 _ _
    have O3 : y_ev x (0, [(3, 1)]) = x 3 := l_e1 _ _
    have O4 : y_ev x (0, [(4, 1)]) = x 4 := l_e1 _ _
    show (True) ∧ ((0 ≤ (y_ev x (0, [(1, 1)])) ∧ q_66 fun a b => v 98 (6 * a + b) = a_up (a_lk (t_b v) (y_ev x (0, [(0, 1)])) (y_ev x (0, [(1, 1)])).toNat) (y_ev x (0, [(2, 1)])) (y_ev x (0, [(3, 1)])) (y_ev x (0, [(4, 1)])) a b) ∧ True)
    (try rw [O0]); (try rw [O1]); (try rw [O2]); (try rw [O3]); (try rw [O4])
    exact K
def lm_487 : zLem := (([((-2147483648), 2147483647), ((-2147483648), 2147483647), ((-2147483648), 2147483647), ((-2147483648), 2147483647), ((-2147483648), 2147483647)], [], [((-6), [(2, 1)])], [], [(0, 0, 0, [(2, 1)]), (0, 0, 0, [(3, 1)]), (0, 0, 0, [(4, 1)])], [], [(34, [(0, [(0, 1)]), (0, [(1, 1)])])]), [([((-2147483648), 2147483647), ((-2147483648), 2147483647), ((-2147483648), 2147483647), ((-2147483648), 2147483647), ((-2147483648), 2147483647)], [], [], [], [], [], [(46, [(0, [(0, 1)]), (0, [(1, 1)]), (0, [(2, 1)]), (0, [(3, 1)]), (0, [(4, 1)])])])])
theorem lk_487 : l_core lm_487 := by
  first
  | skip
    intro v x h
    have K := k_cluC (V := v) (n := x 0) (c := x 1) (r := x 2) (q := x 3) (x := x 4) (l_c2 (fun w0 w1 : Int => 0 ≤ w1 ∧ q_66 fun a b => v 98 (6 * a + b) = a_lk (t_b v) w0 w1.toNat a b) (l_e1 x 0) (l_e1 x 1) (h.2.2.2.1)) (l_cc (l_q2 6 x 2) (h.2.1.1))
    refine l_outH rfl (And.intro h.1 ?_)
    exact l_o5 (fun w0 w1 w2 w3 w4 : Int => (True) ∧ ((0 ≤ w1 ∧ q_66 fun a b => v 98 (6 * a + b) = a_up (a_lk (t_b v) w0 w1.toNat) w2 w3 w4 a b) ∧ True)) (l_e1 x 0) (l_e1 x 1) (l_e1 x 2) (l_e1 x 3) (l_e1 x 4) K
  | skip
    intro v x h
    have C0 : (0 : Int) ≤ x 2 - 6 := l_cc (a := y_ev x ((-6), [(2, 1)])) (by show ((-6) : Int) + ((1) * x 2 + 0) = x 2 - 6; omega) (h.2.1.1)
    have E0 : y_ev x (0, [(0, 1)]) = x 0 := (l_e1 _ _)
    have E1 : y_ev x (0, [(1, 1)]) = x 1 := (l_e1 _ _)
    have T0 : 0 ≤ (y_ev x (0, [(1, 1)])) ∧ q_66 fun a b => v 98 (6 * a + b) = a_lk (t_b v) (y_ev x (0, [(0, 1)])) (y_ev x (0, [(1, 1)])).toNat a b := h.2.2.2.1
    (try rw [E0] at T0); (try rw [E1] at T0)
    have K := k_cluC (V := v) (n := x 0) (c := x 1) (r := x 2) (q := x 3) (x := x 4) T0 C0
    refine l_outH rfl (And.intro h.1 ?_)
    have O0 : y_ev x (0, [(0, 1)]) = x 0 := l_e1 _ _
    have O1 : y_ev x (0, [(1, 1)]) = x 1 := l_e1 _ _
    have O2 : y_ev x (0, [(2, 1)]) = x 2 := l_e1 _ _
    have O3 : y_ev x (0, [(3, 1)]) = x 3 := l_e1 _ _
    have O4 : y_ev x (0, [(4, 1)]) = x 4 := l_e1 _ _
    show (True) ∧ ((0 ≤ (y_ev x (0, [(1, 1)])) ∧ q_66 fun a b => v 98 (6 * a + b) = a_up (a_lk (t_b v) (y_ev x (0, [(0, 1)])) (y_ev x (0, [(1, 1)])).toNat) (y_ev x (0, [(2, 1)])) (y_ev x (0, [(3, 1)])) (y_ev x (0, [(4, 1)])) a b) ∧ True)
    (try rw [O0]); (try rw [O1]); (try rw [O2]); (try rw [O3]); (try rw [O4])
    exact K
def lm_488 : zLem := (([((-2147483648), 2147483647), ((-2147483648), 2147483647), ((-2147483648), 2147483647), ((-2147483648), 2147483647), ((-2147483648), 2147483647)], [], [((-1), [(3, (-1))])], [], [(0, 0, 0, [(2, 1)]), (0, 0, 0, [(3, 1)]), (0, 0, 0, [(4, 1)])], [], [(34, [(0, [(0, 1)]), (0, [(1, 1)])])]), [([((-2147483648), 2147483647), ((-2147483648), 2147483647), ((-2147483648), 2147483647), ((-2147483648), 2147483647), ((-2147483648), 2147483647)], [], [], [], [], [], [(46, [(0, [(0, 1)]), (0, [(1, 1)]), (0, [(2, 1)]), (0, [(3, 1)]), (0, [(4, 1)])])])])
theorem lk_488 : l_core lm_488 := by
  first
  | skip
    intro v x h
    have K := k_cluD (V := v) (n := x 0) (c := x 1) (r := x 2) (q := x 3) (x := x 4) (l_c2 (fun w0 w1 : Int => 0 ≤ w1 ∧ q_66 fun a b => v 98 (6 * a + b) = a_lk (t_b v) w0 w1.toNat a b) (l_e1 x 0) (l_e1 x 1) (h.2.2.2.1)) (l_cc (l_q11 1 x 3) (h.2.1.1))
    refine l_outH rfl (And.intro h.1 ?_)
    exact l_o5 (fun w0 w1 w2 w3 w4 : Int => (True) ∧ ((0 ≤ w1 ∧ q_66 fun a b => v 98 (6 * a + b) = a_up (a_lk (t_b v) w0 w1.toNat) w2 w3 w4 a b) ∧ True)) (l_e1 x 0) (l_e1 x 1) (l_e1 x 2) (l_e1 x 3) (l_e1 x 4) K
  | skip
    intro v x h
    have C0 : (0 : Int) ≤ -x 3 - 1 := l_cc (a := y_ev x ((-1), [(3, (-1))])) (by show ((-1) : Int) + ((-1) * x 3 + 0) = -x 3 - 1; omega) (h.2.1.1)
    have E0 : y_ev x (0, [(0, 1)]) = x 0 := (l_e1 _ _)
    have E1 : y_ev x (0, [(1, 1)]) = x 1 := (l_e1 _ _)
    have T0 : 0 ≤ (y_ev x (0, [(1, 1)])) ∧ q_66 fun a b => v 98 (6 * a + b) = a_lk (t_b v) (y_ev x (0, [(0, 1)])) (y_ev x (0, [(1, 1)])).toNat a b := h.2.2.2.1
    (try rw [E0] at T0); (try rw [E1] at T0)
    have K := k_cluD (V := v) (n := x 0) (c := x 1) (r := x 2) (q := x 3) (x := x 4) T0 C0
    refine l_outH rfl (And.intro h.1 ?_)
    have O0 : y_ev x (0, [(0, 1)]) = x 0 := l_e1 _ _
    have O1 : y_ev x (0, [(1, 1)]) = x 1 := l_e1 _ _
    have O2 : y_ev x (0, [(2, 1)]) = x 2 := l_e1 _ _
    have O3 : y_ev x (0, [(3, 1)]) = x 3 := l_e1 _ _
    have O4 : y_ev x (0, [(4, 1)]) = x 4 := l_e1 _ _
    show (True) ∧ ((0 ≤ (y_ev x (0, [(1, 1)])) ∧ q_66 fun a b => v 98 (6 * a + b) = a_up (a_lk (t_b v) (y_ev x (0, [(0, 1)])) (y_ev x (0, [(1, 1)])).toNat) (y_ev x (0, [(2, 1)])) (y_ev x (0, [(3, 1)])) (y_ev x (0, [(4, 1)])) a b) ∧ True)
    (try rw [O0]); (try rw [O1]); (try rw [O2]); (try rw [O3]); (try rw [O4])
    exact K
def lm_489 : zLem := (([((-2147483648), 2147483647), ((-2147483648), 2147483647), ((-2147483648), 2147483647), ((-2147483648), 2147483647), ((-2147483648), 2147483647)], [], [((-6), [(3, 1)])], [], [(0, 0, 0, [(2, 1)]), (0, 0, 0, [(3, 1)]), (0, 0, 0, [(4, 1)])], [], [(34, [(0, [(0, 1)]), (0, [(1, 1)])])]), [([((-2147483648), 2147483647), ((-2147483648), 2147483647), ((-2147483648), 2147483647), ((-2147483648), 2147483647), ((-2147483648), 2147483647)], [], [], [], [], [], [(46, [(0, [(0, 1)]), (0, [(1, 1)]), (0, [(2, 1)]), (0, [(3, 1)]), (0, [(4, 1)])])])])
theorem lk_489 : l_core lm_489 := by
  first
  | skip
    intro v x h
    have K := k_cluE (V := v) (n := x 0) (c := x 1) (r := x 2) (q := x 3) (x := x 4) (l_c2 (fun w0 w1 : Int => 0 ≤ w1 ∧ q_66 fun a b => v 98 (6 * a + b) = a_lk (t_b v) w0 w1.toNat a b) (l_e1 x 0) (l_e1 x 1) (h.2.2.2.1)) (l_cc (l_q2 6 x 3) (h.2.1.1))
    refine l_outH rfl (And.intro h.1 ?_)
    exact l_o5 (fun w0 w1 w2 w3 w4 : Int => (True) ∧ ((0 ≤ w1 ∧ q_66 fun a b => v 98 (6 * a + b) = a_up (a_lk (t_b v) w0 w1.toNat) w2 w3 w4 a b) ∧ True)) (l_e1 x 0) (l_e1 x 1) (l_e1 x 2) (l_e1 x 3) (l_e1 x 4) K
  | skip
    intro v x h
    have C0 : (0 : Int) ≤ x 3 - 6 := l_cc (a := y_ev x ((-6), [(3, 1)])) (by show ((-6) : Int) + ((1) * x 3 + 0) = x 3 - 6; omega) (h.2.1.1)
    have E0 : y_ev x (0, [(0, 1)]) = x 0 := (l_e1 _ _)
    have E1 : y_ev x (0, [(1, 1)]) = x 1 := (l_e1 _ _)
    have T0 : 0 ≤ (y_ev x (0, [(1, 1)])) ∧ q_66 fun a b => v 98 (6 * a + b) = a_lk (t_b v) (y_ev x (0, [(0, 1)])) (y_ev x (0, [(1, 1)])).toNat a b := h.2.2.2.1
    (try rw [E0] at T0); (try rw [E1] at T0)
    have K := k_cluE (V := v) (n := x 0) (c := x 1) (r := x 2) (q := x 3) (x := x 4) T0 C0
    refine l_outH rfl (And.intro h.1 ?_)
    have O0 : y_ev x (0, [(0, 1)]) = x 0 := l_e1 _ _
    have O1 : y_ev x (0, [(1, 1)]) = x 1 := l_e1 _ _
    have O2 : y_ev x (0, [(2, 1)]) = x 2 := l_e1 _ _
    have O3 : y_ev x (0, [(3, 1)]) = x 3 := l_e1 _ _
    have O4 : y_ev x (0, [(4, 1)]) = x 4 := l_e1 _ _
    show (True) ∧ ((0 ≤ (y_ev x (0, [(1, 1)])) ∧ q_66 fun a b => v 98 (6 * a + b) = a_up (a_lk (t_b v) (y_ev x (0, [(0, 1)])) (y_ev x (0, [(1, 1)])).toNat) (y_ev x (0, [(2, 1)])) (y_ev x (0, [(3, 1)])) (y_ev x (0, [(4, 1)])) a b) ∧ True)
    (try rw [O0]); (try rw [O1]); (try rw [O2]); (try rw [O3]); (try rw [O4])
    exact K
def lm_490 : zLem := (([((-2147483648), 2147483647), ((-2147483648), 2147483647), ((-2147483648), 2147483647), ((-9223372036854775808), 9223372036854775807)], [(1, false)], [(0, [(3, 1)]), (9999, [(3, (-1))])], [], [], [(0, (false, 4, 0, []), 0, 0, 0, [(1, 1)])], [(36, [(0, [(0, 1)]), ((-1), [(1, 1)]), (3, []), (0, [(2, 1)]), (0, [(3, 1)])])]), [([((-2147483648), 2147483647), ((-2147483648), 2147483647), ((-2147483648), 2147483647), ((-9223372036854775808), 9223372036854775807)], [(1, false)], [], [], [], [], [(61, [(0, [(0, 1)]), ((-1), [(1, 1)]), (0, [(3, 1)])])])])
theorem lk_490 : l_core lm_490 := by
  first
  | skip
    intro v x h
    have K := k_mtic (V := v) (n := x 0) (d := x 1) (s := x 2) (v := x 3) (l_c5 (fun w0 w1 w2 w3 w4 : Int => q_tok (t_b v) w0 w1 w2 w3 w4) (l_e1 x 0) (l_q2 1 x 1) (l_e0 x (3)) (l_e1 x 2) (l_e1 x 3) (h.2.2.2.1)) (l_cc (l_e1 x 3) (h.2.1.1)) (l_cc (l_q1 9999 x 3) (h.2.1.2.1))
    refine l_outH rfl (And.intro h.1 ?_)
    exact l_o3 (fun w0 w1 w2 : Int => (True) ∧ ((tk (t_b v) w0 w1.toNat = 3 ∧ w2 = tx (t_b v) w0 w1.toNat) ∧ True)) (l_e1 x 0) (l_q2 1 x 1) (l_e1 x 3) K
  | skip
    intro v x h
    have C0 : (0 : Int) ≤ x 3 := l_cc (a := y_ev x (0, [(3, 1)])) (l_e1 _ _) (h.2.1.1)
    have C1 : (0 : Int) ≤ 9999 - x 3 := l_cc (a := y_ev x (9999, [(3, (-1))])) (by show ((9999) : Int) + ((-1) * x 3 + 0) = 9999 - x 3; omega) (h.2.1.2.1)
    have E0 : y_ev x (0, [(0, 1)]) = x 0 := (l_e1 _ _)
    have E1 : y_ev x ((-1), [(1, 1)]) = x 1 - 1 := (by show ((-1) : Int) + ((1) * x 1 + 0) = x 1 - 1; omega)
    have E2 : y_ev x (3, []) = 3 := (l_e0 _ _)
    have E3 : y_ev x (0, [(2, 1)]) = x 2 := (l_e1 _ _)
    have E4 : y_ev x (0, [(3, 1)]) = x 3 := (l_e1 _ _)
    have T0 : q_tok (t_b v) (y_ev x (0, [(0, 1)])) (y_ev x ((-1), [(1, 1)])) (y_ev x (3, [])) (y_ev x (0, [(2, 1)])) (y_ev x (0, [(3, 1)])) := h.2.2.2.1
    (try rw [E0] at T0); (try rw [E1] at T0); (try rw [E2] at T0); (try rw [E3] at T0); (try rw [E4] at T0)
    have K := k_mtic (V := v) (n := x 0) (d := x 1) (s := x 2) (v := x 3) T0 C0 C1
    refine l_outH rfl (And.intro h.1 ?_)
    have O0 : y_ev x (0, [(0, 1)]) = x 0 := l_e1 _ _
    have O1 : y_ev x ((-1), [(1, 1)]) = x 1 - 1 := by show ((-1) : Int) + ((1) * x 1 + 0) = _; omega
    have O2 : y_ev x (0, [(3, 1)]) = x 3 := l_e1 _ _
    show (True) ∧ ((tk (t_b v) (y_ev x (0, [(0, 1)])) (y_ev x ((-1), [(1, 1)])).toNat = 3 ∧ (y_ev x (0, [(3, 1)])) = tx (t_b v) (y_ev x (0, [(0, 1)])) (y_ev x ((-1), [(1, 1)])).toNat) ∧ True)
    (try rw [O0]); (try rw [O1]); (try rw [O2])
    exact K
def lm_491p : zS := ((lm_128pi_0 (lm_128pi_1 (lm_128pi_2 []))), [(1, false)], [(0, [(1, (-1)), (2, 1)])], [], [], [(0, (false, 4, 0, []), 0, 0, 0, [(2, 1)])], [(34, [(0, [(0, 1)]), (0, [(1, 1)])]), (40, [(0, [(0, 1)]), (0, [(1, 1)]), (0, [(11, 1)]), (0, [(12, 1)]), (0, [(13, 1)]), (0, [(10, 1)]), (0, [(7, 1)]), (0, [(14, 1)]), (0, [(15, 1)]), (0, [(16, 1)])]), (40, [(0, [(0, 1)]), (0, [(2, 1)]), (0, [(3, 1)]), (0, [(4, 1)]), (0, [(5, 1)]), (0, [(6, 1)]), (0, [(7, 1)]), (0, [(8, 1)]), (0, [(9, 1)]), (0, [(17, 1)])])])
def lm_491 : zLem := (lm_491p, [([((-2147483648), 2147483647), ((-2147483648), 2147483647), ((-2147483648), 2147483647), ((-2147483648), 2147483647), ((-2147483648), 2147483647), ((-2147483648), 2147483647), ((-2147483648), 2147483647), ((-2147483648), 2147483647), ((-2147483648), 2147483647), ((-2147483648), 2147483647), ((-2147483648), 2147483647), ((-2147483648), 2147483647), ((-2147483648), 2147483647), ((-2147483648), 2147483647), ((-2147483648), 2147483647), ((-2147483648), 2147483647), ((-2147483648), 2147483647), ((-2147483648), 2147483647)], [(1, false)], [], [], [], [], [(34, [(0, [(0, 1)]), (0, [(2, 1)])])])])
theorem lk_491 : l_core lm_491 := by
  first
  | skip
    intro v x h
    have K := k_clkM (V := v) (n := x 0) (c := x 1) (d := x 2) (st := x 3) (mo := x 4) (op := x 5) (H := x 6) (L := x 7) (W := x 8) (WP := x 9) (H2 := x 10) (st2 := x 11) (mo2 := x 12) (op2 := x 13) (W2 := x 14) (P2 := x 15) (S := x 16) (S2 := x 17) (l_c2 (fun w0 w1 : Int => 0 ≤ w1 ∧ q_66 fun a b => v 98 (6 * a + b) = a_lk (t_b v) w0 w1.toNat a b) (l_e1 x 0) (l_e1 x 1) (h.2.2.2.1)) (l_c10 (fun w0 w1 w2 w3 w4 w5 w6 w7 w8 w9 : Int => q_run2 (t_b v) w0 w1 w2 w3 w4 w5 w6 w7 w8 w9) (l_e1 x 0) (l_e1 x 1) (l_e1 x 11) (l_e1 x 12) (l_e1 x 13) (l_e1 x 10) (l_e1 x 7) (l_e1 x 14) (l_e1 x 15) (l_e1 x 16) (h.2.2.2.2.1)) (l_c10 (fun w0 w1 w2 w3 w4 w5 w6 w7 w8 w9 : Int => q_run2 (t_b v) w0 w1 w2 w3 w4 w5 w6 w7 w8 w9) (l_e1 x 0) (l_e1 x 2) (l_e1 x 3) (l_e1 x 4) (l_e1 x 5) (l_e1 x 6) (l_e1 x 7) (l_e1 x 8) (l_e1 x 9) (l_e1 x 17) (h.2.2.2.2.2.1)) (l_cc (l_q4 x 1 2) (h.2.1.1))
    refine l_outH rfl (And.intro h.1 ?_)
    exact l_o2 (fun w0 w1 : Int => (True) ∧ ((0 ≤ w1 ∧ q_66 fun a b => v 98 (6 * a + b) = a_lk (t_b v) w0 w1.toNat a b) ∧ True)) (l_e1 x 0) (l_e1 x 2) K
  | skip
    intro v x h
    have C0 : (0 : Int) ≤ x 2 - x 1 := l_cc (a := y_ev x (0, [(1, (-1)), (2, 1)])) (by show ((0) : Int) + ((-1) * x 1 + ((1) * x 2 + 0)) = x 2 - x 1; omega) (h.2.1.1)
    have E0 : y_ev x (0, [(0, 1)]) = x 0 := (l_e1 _ _)
    have E1 : y_ev x (0, [(1, 1)]) = x 1 := (l_e1 _ _)
    have E2 : y_ev x (0, [(11, 1)]) = x 11 := (l_e1 _ _)
    have E3 : y_ev x (0, [(12, 1)]) = x 12 := (l_e1 _ _)
    have E4 : y_ev x (0, [(13, 1)]) = x 13 := (l_e1 _ _)
    have E5 : y_ev x (0, [(10, 1)]) = x 10 := (l_e1 _ _)
    have E6 : y_ev x (0, [(7, 1)]) = x 7 := (l_e1 _ _)
    have E7 : y_ev x (0, [(14, 1)]) = x 14 := (l_e1 _ _)
    have E8 : y_ev x (0, [(15, 1)]) = x 15 := (l_e1 _ _)
    have E9 : y_ev x (0, [(16, 1)]) = x 16 := (l_e1 _ _)
    have E10 : y_ev x (0, [(2, 1)]) = x 2 := (l_e1 _ _)
    have E11 : y_ev x (0, [(3, 1)]) = x 3 := (l_e1 _ _)
    have E12 : y_ev x (0, [(4, 1)]) = x 4 := (l_e1 _ _)
    have E13 : y_ev x (0, [(5, 1)]) = x 5 := (l_e1 _ _)
    have E14 : y_ev x (0, [(6, 1)]) = x 6 := (l_e1 _ _)
    have E15 : y_ev x (0, [(8, 1)]) = x 8 := (l_e1 _ _)
    have E16 : y_ev x (0, [(9, 1)]) = x 9 := (l_e1 _ _)
    have E17 : y_ev x (0, [(17, 1)]) = x 17 := (l_e1 _ _)
    have T0 : 0 ≤ (y_ev x (0, [(1, 1)])) ∧ q_66 fun a b => v 98 (6 * a + b) = a_lk (t_b v) (y_ev x (0, [(0, 1)])) (y_ev x (0, [(1, 1)])).toNat a b := h.2.2.2.1
    (try rw [E0] at T0); (try rw [E1] at T0)
    have T1 : q_run2 (t_b v) (y_ev x (0, [(0, 1)])) (y_ev x (0, [(1, 1)])) (y_ev x (0, [(11, 1)])) (y_ev x (0, [(12, 1)])) (y_ev x (0, [(13, 1)])) (y_ev x (0, [(10, 1)])) (y_ev x (0, [(7, 1)])) (y_ev x (0, [(14, 1)])) (y_ev x (0, [(15, 1)])) (y_ev x (0, [(16, 1)])) := h.2.2.2.2.1
    (try rw [E0] at T1); (try rw [E1] at T1); (try rw [E2] at T1); (try rw [E3] at T1); (try rw [E4] at T1); (try rw [E5] at T1); (try rw [E6] at T1); (try rw [E7] at T1); (try rw [E8] at T1); (try rw [E9] at T1)
    have T2 : q_run2 (t_b v) (y_ev x (0, [(0, 1)])) (y_ev x (0, [(2, 1)])) (y_ev x (0, [(3, 1)])) (y_ev x (0, [(4, 1)])) (y_ev x (0, [(5, 1)])) (y_ev x (0, [(6, 1)])) (y_ev x (0, [(7, 1)])) (y_ev x (0, [(8, 1)])) (y_ev x (0, [(9, 1)])) (y_ev x (0, [(17, 1)])) := h.2.2.2.2.2.1
    (try rw [E0] at T2); (try rw [E10] at T2); (try rw [E11] at T2); (try rw [E12] at T2); (try rw [E13] at T2); (try rw [E14] at T2); (try rw [E6] at T2); (try rw [E15] at T2); (try rw [E16] at T2); (try rw [E17] at T2)
    have K := k_clkM (V := v) (n := x 0) (c := x 1) (d := x 2) (st := x 3) (mo := x 4) (op := x 5) (H := x 6) (L := x 7) (W := x 8) (WP := x 9) (H2 := x 10) (st2 := x 11) (mo2 := x 12) (op2 := x 13) (W2 := x 14) (P2 := x 15) (S := x 16) (S2 := x 17) T0 T1 T2 C0
    refine l_outH rfl (And.intro h.1 ?_)
    have O0 : y_ev x (0, [(0, 1)]) = x 0 := l_e1 _ _
    have O1 : y_ev x (0, [(2, 1)]) = x 2 := l_e1 _ _
    show (True) ∧ ((0 ≤ (y_ev x (0, [(2, 1)])) ∧ q_66 fun a b => v 98 (6 * a + b) = a_lk (t_b v) (y_ev x (0, [(0, 1)])) (y_ev x (0, [(2, 1)])).toNat a b) ∧ True)
    (try rw [O0]); (try rw [O1])
    exact K
def lm_492pi_0 (t : List (Int × Int)) : List (Int × Int) := ((-2147483648), 2147483647) :: ((-2147483648), 2147483647) :: ((-2147483648), 2147483647) :: ((-2147483648), 2147483647) :: ((-2147483648), 2147483647) :: ((-2147483648), 2147483647) :: ((-2147483648), 2147483647) :: ((-2147483648), 2147483647) :: t
def lm_492pi_1 (t : List (Int × Int)) : List (Int × Int) := ((-9223372036854775808), 9223372036854775807) :: ((-2147483648), 2147483647) :: ((-2147483648), 2147483647) :: ((-2147483648), 2147483647) :: ((-2147483648), 2147483647) :: ((-2147483648), 2147483647) :: ((-2147483648), 2147483647) :: ((-2147483648), 2147483647) :: t
def lm_492pi_2 (t : List (Int × Int)) : List (Int × Int) := ((-2147483648), 2147483647) :: ((-2147483648), 2147483647) :: ((-2147483648), 2147483647) :: ((-2147483648), 2147483647) :: ((-2147483648), 2147483647) :: ((-2147483648), 2147483647) :: ((-2147483648), 2147483647) :: ((-2147483648), 2147483647) :: t
def lm_492pi_3 (t : List (Int × Int)) : List (Int × Int) := ((-2147483648), 2147483647) :: ((-2147483648), 2147483647) :: t
def lm_492pg_0 (t : List zTg) : List zTg := (46, [(0, [(0, 1)]), (0, [(1, 1)]), (0, [(9, 1)]), (0, [(10, 1)]), (0, [(11, 1)])]) :: (40, [(0, [(0, 1)]), (0, [(1, 1)]), (0, [(13, 1)]), (0, [(14, 1)]), (0, [(15, 1)]), (0, [(12, 1)]), (0, [(4, 1)]), (0, [(16, 1)]), (0, [(17, 1)]), (0, [(22, 1)])]) :: (40, [(0, [(0, 1)]), ((-1), [(2, 1)]), (8, []), (0, []), (0, []), (0, [(3, 1)]), (0, [(4, 1)]), (0, [(5, 1)]), (0, [(6, 1)]), (0, [(23, 1)])]) :: (40, [(0, [(0, 1)]), ((-4), [(2, 1)]), (5, []), (0, []), (0, []), (0, [(3, 1)]), (0, [(4, 1)]), (0, [(18, 1)]), (0, [(19, 1)]), (0, [(24, 1)])]) :: (40, [(0, [(0, 1)]), ((-3), [(2, 1)]), (6, []), (0, []), (0, []), (0, [(3, 1)]), (0, [(4, 1)]), (0, [(20, 1)]), (0, [(21, 1)]), (0, [(25, 1)])]) :: (36, [(0, [(0, 1)]), ((-1), [(2, 1)]), (59, []), (0, [(7, 1)]), (0, [(8, 1)])]) :: (44, [(0, [(0, 1)]), ((-4), [(2, 1)]), (0, [(9, 1)])]) :: (44, [(0, [(0, 1)]), ((-3), [(2, 1)]), (0, [(10, 1)])]) :: t
def lm_492pg_1 (t : List zTg) : List zTg := (61, [(0, [(0, 1)]), ((-2), [(2, 1)]), (0, [(11, 1)])]) :: t
def lm_492p : zS := ((lm_492pi_0 (lm_492pi_1 (lm_492pi_2 (lm_492pi_3 [])))), [(1, false)], [(400, [(2, (-1))]), ((-1), [(1, (-1)), (2, 1)]), (19, [(4, (-1))])], [], [], [(0, (false, 4, 0, []), 0, 0, 0, [(2, 1)])], (lm_492pg_0 (lm_492pg_1 [])))
def lm_492q0 : zS := ((lm_492pi_0 (lm_492pi_1 (lm_492pi_2 (lm_492pi_3 [])))), [(1, false)], [], [], [], [], [(34, [(0, [(0, 1)]), (0, [(2, 1)])])])
def lm_492 : zLem := (lm_492p, [lm_492q0])
theorem lk_492 : l_core lm_492 := by
  first
  | skip
    intro v x h
    have K := k_clkS (V := v) (n := x 0) (c := x 1) (d := x 2) (H := x 3) (L := x 4) (W := x 5) (WP := x 6) (s := x 7) (v := x 8) (r := x 9) (q := x 10) (x := x 11) (H2 := x 12) (st2 := x 13) (mo2 := x 14) (op2 := x 15) (W2 := x 16) (P2 := x 17) (W5 := x 18) (P5 := x 19) (W6 := x 20) (P6 := x 21) (S := x 22) (S2 := x 23) (S3 := x 24) (S4 := x 25) (l_c5 (fun w0 w1 w2 w3 w4 : Int => 0 ≤ w1 ∧ q_66 fun a b => v 98 (6 * a + b) = a_up (a_lk (t_b v) w0 w1.toNat) w2 w3 w4 a b) (l_e1 x 0) (l_e1 x 1) (l_e1 x 9) (l_e1 x 10) (l_e1 x 11) (h.2.2.2.1)) (l_c10 (fun w0 w1 w2 w3 w4 w5 w6 w7 w8 w9 : Int => q_run2 (t_b v) w0 w1 w2 w3 w4 w5 w6 w7 w8 w9) (l_e1 x 0) (l_e1 x 1) (l_e1 x 13) (l_e1 x 14) (l_e1 x 15) (l_e1 x 12) (l_e1 x 4) (l_e1 x 16) (l_e1 x 17) (l_e1 x 22) (h.2.2.2.2.1)) (l_c9 (fun w0 w1 w2 w3 w4 w5 w6 w7 w8 : Int => q_run2 (t_b v) w0 w1 w2 w3 w3 w4 w5 w6 w7 w8) (l_e1 x 0) (l_q2 1 x 2) (l_e0 x (8)) (l_e0 x (0)) (l_e1 x 3) (l_e1 x 4) (l_e1 x 5) (l_e1 x 6) (l_e1 x 23) (h.2.2.2.2.2.1)) (l_c9 (fun w0 w1 w2 w3 w4 w5 w6 w7 w8 : Int => q_run2 (t_b v) w0 w1 w2 w3 w3 w4 w5 w6 w7 w8) (l_e1 x 0) (l_q2 4 x 2) (l_e0 x (5)) (l_e0 x (0)) (l_e1 x 3) (l_e1 x 4) (l_e1 x 18) (l_e1 x 19) (l_e1 x 24) (h.2.2.2.2.2.2.1)) (l_c9 (fun w0 w1 w2 w3 w4 w5 w6 w7 w8 : Int => q_run2 (t_b v) w0 w1 w2 w3 w3 w4 w5 w6 w7 w8) (l_e1 x 0) (l_q2 3 x 2) (l_e0 x (6)) (l_e0 x (0)) (l_e1 x 3) (l_e1 x 4) (l_e1 x 20) (l_e1 x 21) (l_e1 x 25) (h.2.2.2.2.2.2.2.1)) (l_c5 (fun w0 w1 w2 w3 w4 : Int => q_tok (t_b v) w0 w1 w2 w3 w4) (l_e1 x 0) (l_q2 1 x 2) (l_e0 x (59)) (l_e1 x 7) (l_e1 x 8) (h.2.2.2.2.2.2.2.2.1)) (l_c3 (fun w0 w1 w2 : Int => q_fnd (t_b v) w0 w1 w2) (l_e1 x 0) (l_q2 4 x 2) (l_e1 x 9) (h.2.2.2.2.2.2.2.2.2.1)) (l_c3 (fun w0 w1 w2 : Int => q_fnd (t_b v) w0 w1 w2) (l_e1 x 0) (l_q2 3 x 2) (l_e1 x 10) (h.2.2.2.2.2.2.2.2.2.2.1)) (l_c3 (fun w0 w1 w2 : Int => tk (t_b v) w0 w1.toNat = 3 ∧ w2 = tx (t_b v) w0 w1.toNat) (l_e1 x 0) (l_q2 2 x 2) (l_e1 x 11) (h.2.2.2.2.2.2.2.2.2.2.2.1)) (l_cc (l_q1 400 x 2) (h.2.1.1)) (l_cc (l_q6 1 x 1 2) (h.2.1.2.1)) (l_cc (l_q1 19 x 4) (h.2.1.2.2.1))
    refine l_outH rfl (And.intro h.1 ?_)
    exact l_o2 (fun w0 w1 : Int => (True) ∧ ((0 ≤ w1 ∧ q_66 fun a b => v 98 (6 * a + b) = a_lk (t_b v) w0 w1.toNat a b) ∧ True)) (l_e1 x 0) (l_e1 x 2) K
  | skip
    intro v x h
    have C0 : (0 : Int) ≤ 400 - x 2 := l_cc (a := y_ev x (400, [(2, (-1))])) (by show ((400) : Int) + ((-1) * x 2 + 0) = 400 - x 2; omega) (h.2.1.1)
    have C1 : (0 : Int) ≤ x 2 - x 1 - 1 := l_cc (a := y_ev x ((-1), [(1, (-1)), (2, 1)])) (by show ((-1) : Int) + ((-1) * x 1 + ((1) * x 2 + 0)) = x 2 - x 1 - 1; omega) (h.2.1.2.1)
    have C2 : (0 : Int) ≤ 19 - x 4 := l_cc (a := y_ev x (19, [(4, (-1))])) (by show ((19) : Int) + ((-1) * x 4 + 0) = 19 - x 4; omega) (h.2.1.2.2.1)
    have E0 : y_ev x (0, [(0, 1)]) = x 0 := (l_e1 _ _)
    have E1 : y_ev x (0, [(1, 1)]) = x 1 := (l_e1 _ _)
    have E2 : y_ev x (0, [(9, 1)]) = x 9 := (l_e1 _ _)
    have E3 : y_ev x (0, [(10, 1)]) = x 10 := (l_e1 _ _)
    have E4 : y_ev x (0, [(11, 1)]) = x 11 := (l_e1 _ _)
    have E5 : y_ev x (0, [(13, 1)]) = x 13 := (l_e1 _ _)
    have E6 : y_ev x (0, [(14, 1)]) = x 14 := (l_e1 _ _)
    have E7 : y_ev x (0, [(15, 1)]) = x 15 := (l_e1 _ _)
    have E8 : y_ev x (0, [(12, 1)]) = x 12 := (l_e1 _ _)
    have E9 : y_ev x (0, [(4, 1)]) = x 4 := (l_e1 _ _)
    have E10 : y_ev x (0, [(16, 1)]) = x 16 := (l_e1 _ _)
    have E11 : y_ev x (0, [(17, 1)]) = x 17 := (l_e1 _ _)
    have E12 : y_ev x (0, [(22, 1)]) = x 22 := (l_e1 _ _)
    have E13 : y_ev x ((-1), [(2, 1)]) = x 2 - 1 := (by show ((-1) : Int) + ((1) * x 2 + 0) = x 2 - 1; omega)
    have E14 : y_ev x (8, []) = 8 := (l_e0 _ _)
    have E15 : y_ev x (0, []) = 0 := (l_e0 _ _)
    have E16 : y_ev x (0, [(3, 1)]) = x 3 := (l_e1 _ _)
    have E17 : y_ev x (0, [(5, 1)]) = x 5 := (l_e1 _ _)
    have E18 : y_ev x (0, [(6, 1)]) = x 6 := (l_e1 _ _)
    have E19 : y_ev x (0, [(23, 1)]) = x 23 := (l_e1 _ _)
    have E20 : y_ev x ((-4), [(2, 1)]) = x 2 - 4 := (by show ((-4) : Int) + ((1) * x 2 + 0) = x 2 - 4; omega)
    have E21 : y_ev x (5, []) = 5 := (l_e0 _ _)
    have E22 : y_ev x (0, [(18, 1)]) = x 18 := (l_e1 _ _)
    have E23 : y_ev x (0, [(19, 1)]) = x 19 := (l_e1 _ _)
    have E24 : y_ev x (0, [(24, 1)]) = x 24 := (l_e1 _ _)
    have E25 : y_ev x ((-3), [(2, 1)]) = x 2 - 3 := (by show ((-3) : Int) + ((1) * x 2 + 0) = x 2 - 3; omega)
    have E26 : y_ev x (6, []) = 6 := (l_e0 _ _)
    have E27 : y_ev x (0, [(20, 1)]) = x 20 := (l_e1 _ _)
    have E28 : y_ev x (0, [(21, 1)]) = x 21 := (l_e1 _ _)
    have E29 : y_ev x (0, [(25, 1)]) = x 25 := (l_e1 _ _)
    have E30 : y_ev x (59, []) = 59 := (l_e0 _ _)
    have E31 : y_ev x (0, [(7, 1)]) = x 7 := (l_e1 _ _)
    have E32 : y_ev x (0, [(8, 1)]) = x 8 := (l_e1 _ _)
    have E33 : y_ev x ((-2), [(2, 1)]) = x 2 - 2 := (by show ((-2) : Int) + ((1) * x 2 + 0) = x 2 - 2; omega)
    have T0 : 0 ≤ (y_ev x (0, [(1, 1)])) ∧ q_66 fun a b => v 98 (6 * a + b) = a_up (a_lk (t_b v) (y_ev x (0, [(0, 1)])) (y_ev x (0, [(1, 1)])).toNat) (y_ev x (0, [(9, 1)])) (y_ev x (0, [(10, 1)])) (y_ev x (0, [(11, 1)])) a b := h.2.2.2.1
    (try rw [E0] at T0); (try rw [E1] at T0); (try rw [E2] at T0); (try rw [E3] at T0); (try rw [E4] at T0)
    have T1 : q_run2 (t_b v) (y_ev x (0, [(0, 1)])) (y_ev x (0, [(1, 1)])) (y_ev x (0, [(13, 1)])) (y_ev x (0, [(14, 1)])) (y_ev x (0, [(15, 1)])) (y_ev x (0, [(12, 1)])) (y_ev x (0, [(4, 1)])) (y_ev x (0, [(16, 1)])) (y_ev x (0, [(17, 1)])) (y_ev x (0, [(22, 1)])) := h.2.2.2.2.1
    (try rw [E0] at T1); (try rw [E1] at T1); (try rw [E5] at T1); (try rw [E6] at T1); (try rw [E7] at T1); (try rw [E8] at T1); (try rw [E9] at T1); (try rw [E10] at T1); (try rw [E11] at T1); (try rw [E12] at T1)
    have T2 : q_run2 (t_b v) (y_ev x (0, [(0, 1)])) (y_ev x ((-1), [(2, 1)])) (y_ev x (8, [])) (y_ev x (0, [])) (y_ev x (0, [])) (y_ev x (0, [(3, 1)])) (y_ev x (0, [(4, 1)])) (y_ev x (0, [(5, 1)])) (y_ev x (0, [(6, 1)])) (y_ev x (0, [(23, 1)])) := h.2.2.2.2.2.1
    (try rw [E0] at T2); (try rw [E13] at T2); (try rw [E14] at T2); (try rw [E15] at T2); (try rw [E16] at T2); (try rw [E9] at T2); (try rw [E17] at T2); (try rw [E18] at T2); (try rw [E19] at T2)
    have T3 : q_run2 (t_b v) (y_ev x (0, [(0, 1)])) (y_ev x ((-4), [(2, 1)])) (y_ev x (5, [])) (y_ev x (0, [])) (y_ev x (0, [])) (y_ev x (0, [(3, 1)])) (y_ev x (0, [(4, 1)])) (y_ev x (0, [(18, 1)])) (y_ev x (0, [(19, 1)])) (y_ev x (0, [(24, 1)])) := h.2.2.2.2.2.2.1
    (try rw [E0] at T3); (try rw [E20] at T3); (try rw [E21] at T3); (try rw [E15] at T3); (try rw [E16] at T3); (try rw [E9] at T3); (try rw [E22] at T3); (try rw [E23] at T3); (try rw [E24] at T3)
    have T4 : q_run2 (t_b v) (y_ev x (0, [(0, 1)])) (y_ev x ((-3), [(2, 1)])) (y_ev x (6, [])) (y_ev x (0, [])) (y_ev x (0, [])) (y_ev x (0, [(3, 1)])) (y_ev x (0, [(4, 1)])) (y_ev x (0, [(20, 1)])) (y_ev x (0, [(21, 1)])) (y_ev x (0, [(25, 1)])) := h.2.2.2.2.2.2.2.1
    (try rw [E0] at T4); (try rw [E25] at T4); (try rw [E26] at T4); (try rw [E15] at T4); (try rw [E16] at T4); (try rw [E9] at T4); (try rw [E27] at T4); (try rw [E28] at T4); (try rw [E29] at T4)
    have T5 : q_tok (t_b v) (y_ev x (0, [(0, 1)])) (y_ev x ((-1), [(2, 1)])) (y_ev x (59, [])) (y_ev x (0, [(7, 1)])) (y_ev x (0, [(8, 1)])) := h.2.2.2.2.2.2.2.2.1
    (try rw [E0] at T5); (try rw [E13] at T5); (try rw [E30] at T5); (try rw [E31] at T5); (try rw [E32] at T5)
    have T6 : q_fnd (t_b v) (y_ev x (0, [(0, 1)])) (y_ev x ((-4), [(2, 1)])) (y_ev x (0, [(9, 1)])) := h.2.2.2.2.2.2.2.2.2.1
    (try rw [E0] at T6); (try rw [E20] at T6); (try rw [E2] at T6)
    have T7 : q_fnd (t_b v) (y_ev x (0, [(0, 1)])) (y_ev x ((-3), [(2, 1)])) (y_ev x (0, [(10, 1)])) := h.2.2.2.2.2.2.2.2.2.2.1
    (try rw [E0] at T7); (try rw [E25] at T7); (try rw [E3] at T7)
    have T8 : tk (t_b v) (y_ev x (0, [(0, 1)])) (y_ev x ((-2), [(2, 1)])).toNat = 3 ∧ (y_ev x (0, [(11, 1)])) = tx (t_b v) (y_ev x (0, [(0, 1)])) (y_ev x ((-2), [(2, 1)])).toNat := h.2.2.2.2.2.2.2.2.2.2.2.1
    (try rw [E0] at T8); (try rw [E33] at T8); (try rw [E4] at T8)
    have K := k_clkS (V := v) (n := x 0) (c := x 1) (d := x 2) (H := x 3) (L := x 4) (W := x 5) (WP := x 6) (s := x 7) (v := x 8) (r := x 9) (q := x 10) (x := x 11) (H2 := x 12) (st2 := x 13) (mo2 := x 14) (op2 := x 15) (W2 := x 16) (P2 := x 17) (W5 := x 18) (P5 := x 19) (W6 := x 20) (P6 := x 21) (S := x 22) (S2 := x 23) (S3 := x 24) (S4 := x 25) T0 T1 T2 T3 T4 T5 T6 T7 T8 C0 C1 C2
    refine l_outH rfl (And.intro h.1 ?_)
    have O0 : y_ev x (0, [(0, 1)]) = x 0 := l_e1 _ _
    have O1 : y_ev x (0, [(2, 1)]) = x 2 := l_e1 _ _
    show (True) ∧ ((0 ≤ (y_ev x (0, [(2, 1)])) ∧ q_66 fun a b => v 98 (6 * a + b) = a_lk (t_b v) (y_ev x (0, [(0, 1)])) (y_ev x (0, [(2, 1)])).toNat a b) ∧ True)
    (try rw [O0]); (try rw [O1])
    exact K
def lm_493 : zLem := (([((-2147483648), 2147483647), ((-2147483648), 2147483647), ((-2147483648), 2147483647), ((-2147483648), 2147483647), ((-2147483648), 2147483647), ((-2147483648), 2147483647), ((-2147483648), 2147483647), ((-9223372036854775808), 9223372036854775807), ((-2147483648), 2147483647)], [(1, false)], [], [], [], [(0, (false, 4, 0, []), 0, 0, 0, [(1, 1)])], [(34, [(0, [(0, 1)]), (0, [(1, 1)])]), (40, [(0, [(0, 1)]), (0, [(1, 1)]), (0, []), (0, []), (0, []), (0, [(2, 1)]), (0, [(3, 1)]), (0, [(4, 1)]), (0, [(5, 1)]), (0, [(8, 1)])]), (36, [(0, [(0, 1)]), (0, [(1, 1)]), (0, []), (0, [(6, 1)]), (0, [(7, 1)])])]), [([((-2147483648), 2147483647), ((-2147483648), 2147483647), ((-2147483648), 2147483647), ((-2147483648), 2147483647), ((-2147483648), 2147483647), ((-2147483648), 2147483647), ((-2147483648), 2147483647), ((-9223372036854775808), 9223372036854775807), ((-2147483648), 2147483647)], [(1, false)], [], [], [], [], [(74, [(0, [(0, 1)])])])])
theorem lk_493 : l_core lm_493 := by
  first
  | skip
    intro v x h
    have K := k_fck (V := v) (n := x 0) (c := x 1) (H := x 2) (L := x 3) (W := x 4) (WP := x 5) (s := x 6) (v := x 7) (S := x 8) (l_c2 (fun w0 w1 : Int => 0 ≤ w1 ∧ q_66 fun a b => v 98 (6 * a + b) = a_lk (t_b v) w0 w1.toNat a b) (l_e1 x 0) (l_e1 x 1) (h.2.2.2.1)) (l_c8 (fun w0 w1 w2 w3 w4 w5 w6 w7 : Int => q_run2 (t_b v) w0 w1 w2 w2 w2 w3 w4 w5 w6 w7) (l_e1 x 0) (l_e1 x 1) (l_e0 x (0)) (l_e1 x 2) (l_e1 x 3) (l_e1 x 4) (l_e1 x 5) (l_e1 x 8) (h.2.2.2.2.1)) (l_c5 (fun w0 w1 w2 w3 w4 : Int => q_tok (t_b v) w0 w1 w2 w3 w4) (l_e1 x 0) (l_e1 x 1) (l_e0 x (0)) (l_e1 x 6) (l_e1 x 7) (h.2.2.2.2.2.1))
    refine l_outH rfl (And.intro h.1 ?_)
    exact l_o1 (fun w0 : Int => (True) ∧ ((∃ c : Nat, q_end (t_b v) w0 c ∧ q_66 fun a b => v 98 (6 * a + b) = a_lk (t_b v) w0 c a b) ∧ True)) (l_e1 x 0) K
  | skip
    intro v x h
    have E0 : y_ev x (0, [(0, 1)]) = x 0 := (l_e1 _ _)
    have E1 : y_ev x (0, [(1, 1)]) = x 1 := (l_e1 _ _)
    have E2 : y_ev x (0, []) = 0 := (l_e0 _ _)
    have E3 : y_ev x (0, [(2, 1)]) = x 2 := (l_e1 _ _)
    have E4 : y_ev x (0, [(3, 1)]) = x 3 := (l_e1 _ _)
    have E5 : y_ev x (0, [(4, 1)]) = x 4 := (l_e1 _ _)
    have E6 : y_ev x (0, [(5, 1)]) = x 5 := (l_e1 _ _)
    have E7 : y_ev x (0, [(8, 1)]) = x 8 := (l_e1 _ _)
    have E8 : y_ev x (0, [(6, 1)]) = x 6 := (l_e1 _ _)
    have E9 : y_ev x (0, [(7, 1)]) = x 7 := (l_e1 _ _)
    have T0 : 0 ≤ (y_ev x (0, [(1, 1)])) ∧ q_66 fun a b => v 98 (6 * a + b) = a_lk (t_b v) (y_ev x (0, [(0, 1)])) (y_ev x (0, [(1, 1)])).toNat a b := h.2.2.2.1
    (try rw [E0] at T0); (try rw [E1] at T0)
    have T1 : q_run2 (t_b v) (y_ev x (0, [(0, 1)])) (y_ev x (0, [(1, 1)])) (y_ev x (0, [])) (y_ev x (0, [])) (y_ev x (0, [])) (y_ev x (0, [(2, 1)])) (y_ev x (0, [(3, 1)])) (y_ev x (0, [(4, 1)])) (y_ev x (0, [(5, 1)])) (y_ev x (0, [(8, 1)])) := h.2.2.2.2.1
    (try rw [E0] at T1); (try rw [E1] at T1); (try rw [E2] at T1); (try rw [E3] at T1); (try rw [E4] at T1); (try rw [E5] at T1); (try rw [E6] at T1); (try rw [E7] at T1)
    have T2 : q_tok (t_b v) (y_ev x (0, [(0, 1)])) (y_ev x (0, [(1, 1)])) (y_ev x (0, [])) (y_ev x (0, [(6, 1)])) (y_ev x (0, [(7, 1)])) := h.2.2.2.2.2.1
    (try rw [E0] at T2); (try rw [E1] at T2); (try rw [E2] at T2); (try rw [E8] at T2); (try rw [E9] at T2)
    have K := k_fck (V := v) (n := x 0) (c := x 1) (H := x 2) (L := x 3) (W := x 4) (WP := x 5) (s := x 6) (v := x 7) (S := x 8) T0 T1 T2
    refine l_outH rfl (And.intro h.1 ?_)
    have O0 : y_ev x (0, [(0, 1)]) = x 0 := l_e1 _ _
    show (True) ∧ ((∃ c : Nat, q_end (t_b v) (y_ev x (0, [(0, 1)])) c ∧ q_66 fun a b => v 98 (6 * a + b) = a_lk (t_b v) (y_ev x (0, [(0, 1)])) c a b) ∧ True)
    (try rw [O0])
    exact K
def lm_494 : zLem := (([((-2147483648), 2147483647), ((-2147483648), 2147483647), ((-2147483648), 2147483647), ((-2147483648), 2147483647), ((-2147483648), 2147483647), ((-2147483648), 2147483647), ((-2147483648), 2147483647), ((-9223372036854775808), 9223372036854775807), ((-2147483648), 2147483647)], [(1, false)], [], [], [], [(0, (false, 4, 0, []), 0, 0, 0, [(1, 1)])], [(40, [(0, [(0, 1)]), (0, [(1, 1)]), (0, []), (0, []), (0, []), (0, [(2, 1)]), (0, [(3, 1)]), (0, [(4, 1)]), (0, [(5, 1)]), (0, [(8, 1)])]), (36, [(0, [(0, 1)]), (0, [(1, 1)]), (0, []), (0, [(6, 1)]), (0, [(7, 1)])])]), [([((-2147483648), 2147483647), ((-2147483648), 2147483647), ((-2147483648), 2147483647), ((-2147483648), 2147483647), ((-2147483648), 2147483647), ((-2147483648), 2147483647), ((-2147483648), 2147483647), ((-9223372036854775808), 9223372036854775807), ((-2147483648), 2147483647)], [(1, false)], [], [], [], [], [(76, [(0, [(0, 1)]), (0, [(2, 1)])])])])
theorem lk_494 : l_core lm_494 := by
  first
  | skip
    intro v x h
    have K := k_fih (V := v) (n := x 0) (c := x 1) (H := x 2) (L := x 3) (W := x 4) (WP := x 5) (s := x 6) (v := x 7) (S := x 8) (l_c8 (fun w0 w1 w2 w3 w4 w5 w6 w7 : Int => q_run2 (t_b v) w0 w1 w2 w2 w2 w3 w4 w5 w6 w7) (l_e1 x 0) (l_e1 x 1) (l_e0 x (0)) (l_e1 x 2) (l_e1 x 3) (l_e1 x 4) (l_e1 x 5) (l_e1 x 8) (h.2.2.2.1)) (l_c5 (fun w0 w1 w2 w3 w4 : Int => q_tok (t_b v) w0 w1 w2 w3 w4) (l_e1 x 0) (l_e1 x 1) (l_e0 x (0)) (l_e1 x 6) (l_e1 x 7) (h.2.2.2.2.1))
    refine l_outH rfl (And.intro h.1 ?_)
    exact l_o2 (fun w0 w1 : Int => (True) ∧ (q_fih (t_b v) w0 w1 ∧ True)) (l_e1 x 0) (l_e1 x 2) K
  | skip
    intro v x h
    have E0 : y_ev x (0, [(0, 1)]) = x 0 := (l_e1 _ _)
    have E1 : y_ev x (0, [(1, 1)]) = x 1 := (l_e1 _ _)
    have E2 : y_ev x (0, []) = 0 := (l_e0 _ _)
    have E3 : y_ev x (0, [(2, 1)]) = x 2 := (l_e1 _ _)
    have E4 : y_ev x (0, [(3, 1)]) = x 3 := (l_e1 _ _)
    have E5 : y_ev x (0, [(4, 1)]) = x 4 := (l_e1 _ _)
    have E6 : y_ev x (0, [(5, 1)]) = x 5 := (l_e1 _ _)
    have E7 : y_ev x (0, [(8, 1)]) = x 8 := (l_e1 _ _)
    have E8 : y_ev x (0, [(6, 1)]) = x 6 := (l_e1 _ _)
    have E9 : y_ev x (0, [(7, 1)]) = x 7 := (l_e1 _ _)
    have T0 : q_run2 (t_b v) (y_ev x (0, [(0, 1)])) (y_ev x (0, [(1, 1)])) (y_ev x (0, [])) (y_ev x (0, [])) (y_ev x (0, [])) (y_ev x (0, [(2, 1)])) (y_ev x (0, [(3, 1)])) (y_ev x (0, [(4, 1)])) (y_ev x (0, [(5, 1)])) (y_ev x (0, [(8, 1)])) := h.2.2.2.1
    (try rw [E0] at T0); (try rw [E1] at T0); (try rw [E2] at T0); (try rw [E3] at T0); (try rw [E4] at T0); (try rw [E5] at T0); (try rw [E6] at T0); (try rw [E7] at T0)
    have T1 : q_tok (t_b v) (y_ev x (0, [(0, 1)])) (y_ev x (0, [(1, 1)])) (y_ev x (0, [])) (y_ev x (0, [(6, 1)])) (y_ev x (0, [(7, 1)])) := h.2.2.2.2.1
    (try rw [E0] at T1); (try rw [E1] at T1); (try rw [E2] at T1); (try rw [E8] at T1); (try rw [E9] at T1)
    have K := k_fih (V := v) (n := x 0) (c := x 1) (H := x 2) (L := x 3) (W := x 4) (WP := x 5) (s := x 6) (v := x 7) (S := x 8) T0 T1
    refine l_outH rfl (And.intro h.1 ?_)
    have O0 : y_ev x (0, [(0, 1)]) = x 0 := l_e1 _ _
    have O1 : y_ev x (0, [(2, 1)]) = x 2 := l_e1 _ _
    show (True) ∧ (q_fih (t_b v) (y_ev x (0, [(0, 1)])) (y_ev x (0, [(2, 1)])) ∧ True)
    (try rw [O0]); (try rw [O1])
    exact K
def lm_495 : zLem := (([((-2147483648), 2147483647)], [], [(0, [(0, 1)])], [], [(0, 0, 0, [(0, 1)])], [], []), [([((-2147483648), 2147483647)], [], [(0, [(0, 1)]), (0, [(0, (-1))])], [], [], [], []), ([((-2147483648), 2147483647)], [], [((-1), [(0, 1)])], [], [], [], [])])
theorem lk_495 : l_core lm_495 := by
  first
  | skip
    intro v x h
    have K := k_wsplit (V := v) (w := x 0) (l_cc (l_e1 x 0) (h.2.1.1))
    rcases K with K | K
    · refine l_outH rfl (And.intro h.1 ?_)
      exact l_o2 (fun w0 w1 : Int => (0 ≤ w0 ∧ 0 ≤ w1 ∧ True) ∧ (True)) (l_e1 x 0) (l_q7 x 0) K
    · refine l_outT ?_
      refine l_outH rfl (And.intro h.1 ?_)
      exact l_o1 (fun w0 : Int => (0 ≤ w0 ∧ True) ∧ (True)) (l_q2 1 x 0) K
  | skip
    intro v x h
    have C0 : (0 : Int) ≤ x 0 := l_cc (a := y_ev x (0, [(0, 1)])) (l_e1 _ _) (h.2.1.1)
    have K := k_wsplit (V := v) (w := x 0) C0
    rcases K with K | K
    · refine l_outH rfl (And.intro h.1 ?_)
      have O0 : y_ev x (0, [(0, 1)]) = x 0 := l_e1 _ _
      have O1 : y_ev x (0, [(0, (-1))]) = -x 0 := by show ((0) : Int) + ((-1) * x 0 + 0) = _; omega
      show (0 ≤ y_ev x (0, [(0, 1)]) ∧ 0 ≤ y_ev x (0, [(0, (-1))]) ∧ True) ∧ (True)
      (try rw [O0]); (try rw [O1])
      exact K
    · refine l_outT ?_
      refine l_outH rfl (And.intro h.1 ?_)
      have O0 : y_ev x ((-1), [(0, 1)]) = x 0 - 1 := by show ((-1) : Int) + ((1) * x 0 + 0) = _; omega
      show (0 ≤ y_ev x ((-1), [(0, 1)]) ∧ True) ∧ (True)
      (try rw [O0])
      exact K
def lm_496 : zLem := (([((-2147483648), 2147483647)], [], [], [], [(0, 0, 0, [(0, 1)])], [], []), [([((-2147483648), 2147483647)], [], [], [], [], [], [(77, [(0, [(0, 1)]), (0, [(0, 36)])])])])
theorem lk_496 : l_core lm_496 := by
  first
  | skip
    intro v x h
    have K := k_flm0 (V := v) (s := x 0) 
    refine l_outH rfl (And.intro h.1 ?_)
    exact l_o2 (fun w0 w1 : Int => (True) ∧ ((∀ k_ : Int, 0 ≤ k_ → 36 * w0 ≤ k_ → k_ < w1 → v 60 k_ = 5) ∧ True)) (l_e1 x 0) (l_q16 36 x 0) K
  | skip
    intro v x h
    have K := k_flm0 (V := v) (s := x 0) 
    refine l_outH rfl (And.intro h.1 ?_)
    have O0 : y_ev x (0, [(0, 1)]) = x 0 := l_e1 _ _
    have O1 : y_ev x (0, [(0, 36)]) = 36 * x 0 := by show ((0) : Int) + ((36) * x 0 + 0) = _; omega
    show (True) ∧ ((∀ k_ : Int, 0 ≤ k_ → 36 * (y_ev x (0, [(0, 1)])) ≤ k_ → k_ < (y_ev x (0, [(0, 36)])) → v 60 k_ = 5) ∧ True)
    (try rw [O0]); (try rw [O1])
    exact K
def lm_497 : zLem := (([((-2147483648), 2147483647), ((-2147483648), 2147483647)], [(60, false)], [(0, [(0, 1)]), (0, [(1, 1)])], [], [(0, 0, 0, [(0, 1)]), (0, 0, 0, [(1, 1)])], [(0, (true, 0, 0, [(0, 36), (1, 1)]), 0, 0, 5, [])], [(77, [(0, [(0, 1)]), (0, [(0, 36), (1, 1)])])]), [([((-2147483648), 2147483647), ((-2147483648), 2147483647)], [(60, false)], [], [], [], [], [(77, [(0, [(0, 1)]), (1, [(0, 36), (1, 1)])])])])
theorem lk_497 : l_core lm_497 := by
  first
  | skip
    intro v x h
    have G0 := h.2.2.1
    have K := k_flmS (V := v) (s := x 0) (k := x 1) (l_c2 (fun w0 w1 : Int => ∀ k_ : Int, 0 ≤ k_ → 36 * w0 ≤ k_ → k_ < w1 → v 60 k_ = 5) (l_e1 x 0) (l_q10 36 x 0 1) (h.2.2.2.1)) (l_cc (l_e1 x 0) (h.2.1.1)) (l_cc (l_e1 x 1) (h.2.1.2.1)) (l_ff (f := v 60) (L := j_len 60) (l_q10 36 x 0 1) (l_e0 x (5)) (G0.1.1))
    refine l_outH rfl (And.intro h.1 ?_)
    exact l_o2 (fun w0 w1 : Int => (True) ∧ ((∀ k_ : Int, 0 ≤ k_ → 36 * w0 ≤ k_ → k_ < w1 → v 60 k_ = 5) ∧ True)) (l_e1 x 0) (show y_ev x (1, [(0, 36), (1, 1)]) = 36 * x 0 + x 1 + 1 by show ((1) : Int) + ((36) * x 0 + ((1) * x 1 + 0)) = _; omega) K
  | skip
    intro v x h
    have G0 := h.2.2.1
    have C0 : (0 : Int) ≤ x 0 := l_cc (a := y_ev x (0, [(0, 1)])) (l_e1 _ _) (h.2.1.1)
    have C1 : (0 : Int) ≤ x 1 := l_cc (a := y_ev x (0, [(1, 1)])) (l_e1 _ _) (h.2.1.2.1)
    have F0 : (0 : Int) ≤ 36 * x 0 + x 1 ∧ (36 * x 0 + x 1 : Int) < j_len 60 ∧ v 60 (36 * x 0 + x 1) = 5 := l_ff (f := v 60) (L := j_len 60) (a := y_ev x (0, [(0, 36), (1, 1)])) (b := y_ev x (5, [])) (by show ((0) : Int) + ((36) * x 0 + ((1) * x 1 + 0)) = 36 * x 0 + x 1; omega) (l_e0 _ _) (G0.1.1)
    have E0 : y_ev x (0, [(0, 1)]) = x 0 := (l_e1 _ _)
    have E1 : y_ev x (0, [(0, 36), (1, 1)]) = 36 * x 0 + x 1 := (by show ((0) : Int) + ((36) * x 0 + ((1) * x 1 + 0)) = 36 * x 0 + x 1; omega)
    have T0 : ∀ k_ : Int, 0 ≤ k_ → 36 * (y_ev x (0, [(0, 1)])) ≤ k_ → k_ < (y_ev x (0, [(0, 36), (1, 1)])) → v 60 k_ = 5 := h.2.2.2.1
    (try rw [E0] at T0); (try rw [E1] at T0)
    have K := k_flmS (V := v) (s := x 0) (k := x 1) T0 C0 C1 F0
    refine l_outH rfl (And.intro h.1 ?_)
    have O0 : y_ev x (0, [(0, 1)]) = x 0 := l_e1 _ _
    have O1 : y_ev x (1, [(0, 36), (1, 1)]) = 36 * x 0 + x 1 + 1 := by show ((1) : Int) + ((36) * x 0 + ((1) * x 1 + 0)) = _; omega
    show (True) ∧ ((∀ k_ : Int, 0 ≤ k_ → 36 * (y_ev x (0, [(0, 1)])) ≤ k_ → k_ < (y_ev x (1, [(0, 36), (1, 1)])) → v 60 k_ = 5) ∧ True)
    (try rw [O0]); (try rw [O1])
    exact K
def lm_498 : zLem := (([((-2147483648), 2147483647), ((-2147483648), 2147483647), ((-2147483648), 2147483647)], [(12, false)], [(0, [(2, 1)]), (0, [(1, 1)]), (0, [(1, (-1))])], [], [], [(0, (false, 11, 0, []), 0, 0, 0, [(1, 1)])], [(77, [(0, [(2, 1)]), (36, [(2, 36)])]), (58, [(0, [(0, 1)]), (0, [(1, 1)])])]), [([((-2147483648), 2147483647), ((-2147483648), 2147483647), ((-2147483648), 2147483647)], [(12, false)], [], [], [], [], [(78, [(0, [(0, 1)]), (0, [(1, 1)]), (0, [(2, 1)])])])])
theorem lk_498 : l_core lm_498 := by
  first
  | skip
    intro v x h
    have K := k_mlk0 (V := v) (n := x 0) (c := x 1) (s := x 2) (l_c2 (fun w0 w1 : Int => ∀ k_ : Int, 0 ≤ k_ → 36 * w0 ≤ k_ → k_ < w1 → v 60 k_ = 5) (l_e1 x 2) (l_q9 36 36 x 2) (h.2.2.2.1)) (l_c2 (fun w0 w1 : Int => q_upto (t_b v) w0 w1 (q_mr v w0)) (l_e1 x 0) (l_e1 x 1) (h.2.2.2.2.1)) (l_cc (l_e1 x 2) (h.2.1.1)) (l_cc (l_e1 x 1) (h.2.1.2.1)) (l_cc (l_q7 x 1) (h.2.1.2.2.1))
    refine l_outH rfl (And.intro h.1 ?_)
    exact l_o3 (fun w0 w1 w2 : Int => (True) ∧ ((0 ≤ w1 ∧ 0 ≤ w2 ∧ q_66 fun a b => v 60 (36 * w2 + (6 * a + b)) = a_lk (t_b v) w0 w1.toNat a b) ∧ True)) (l_e1 x 0) (l_e1 x 1) (l_e1 x 2) K
  | skip
    intro v x h
    have C0 : (0 : Int) ≤ x 2 := l_cc (a := y_ev x (0, [(2, 1)])) (l_e1 _ _) (h.2.1.1)
    have C1 : (0 : Int) ≤ x 1 := l_cc (a := y_ev x (0, [(1, 1)])) (l_e1 _ _) (h.2.1.2.1)
    have C2 : (0 : Int) ≤ -x 1 := l_cc (a := y_ev x (0, [(1, (-1))])) (by show ((0) : Int) + ((-1) * x 1 + 0) = -x 1; omega) (h.2.1.2.2.1)
    have E0 : y_ev x (0, [(2, 1)]) = x 2 := (l_e1 _ _)
    have E1 : y_ev x (36, [(2, 36)]) = 36 * x 2 + 36 := (by show ((36) : Int) + ((36) * x 2 + 0) = 36 * x 2 + 36; omega)
    have E2 : y_ev x (0, [(0, 1)]) = x 0 := (l_e1 _ _)
    have E3 : y_ev x (0, [(1, 1)]) = x 1 := (l_e1 _ _)
    have T0 : ∀ k_ : Int, 0 ≤ k_ → 36 * (y_ev x (0, [(2, 1)])) ≤ k_ → k_ < (y_ev x (36, [(2, 36)])) → v 60 k_ = 5 := h.2.2.2.1
    (try rw [E0] at T0); (try rw [E1] at T0)
    have T1 : q_upto (t_b v) (y_ev x (0, [(0, 1)])) (y_ev x (0, [(1, 1)])) (q_mr v (y_ev x (0, [(0, 1)]))) := h.2.2.2.2.1
    (try rw [E2] at T1); (try rw [E3] at T1)
    have K := k_mlk0 (V := v) (n := x 0) (c := x 1) (s := x 2) T0 T1 C0 C1 C2
    refine l_outH rfl (And.intro h.1 ?_)
    have O0 : y_ev x (0, [(0, 1)]) = x 0 := l_e1 _ _
    have O1 : y_ev x (0, [(1, 1)]) = x 1 := l_e1 _ _
    have O2 : y_ev x (0, [(2, 1)]) = x 2 := l_e1 _ _
    show (True) ∧ ((0 ≤ (y_ev x (0, [(1, 1)])) ∧ 0 ≤ (y_ev x (0, [(2, 1)])) ∧ q_66 fun a b => v 60 (36 * (y_ev x (0, [(2, 1)])) + (6 * a + b)) = a_lk (t_b v) (y_ev x (0, [(0, 1)])) (y_ev x (0, [(1, 1)])).toNat a b) ∧ True)
    (try rw [O0]); (try rw [O1]); (try rw [O2])
    exact K
def lm_499 : zLem := (([((-2147483648), 2147483647), ((-2147483648), 2147483647), ((-2147483648), 2147483647), ((-2147483648), 2147483647)], [], [], [], [(0, 0, 0, [(3, 1)])], [], [(78, [(0, [(0, 1)]), (0, [(1, 1)]), (0, [(2, 1)])])]), [([((-2147483648), 2147483647), ((-2147483648), 2147483647), ((-2147483648), 2147483647), ((-2147483648), 2147483647)], [], [], [], [], [], [(79, [(0, [(0, 1)]), (0, [(1, 1)]), (0, [(2, 1)]), (0, [(3, 1)])])])])
theorem lk_499 : l_core lm_499 := by
  first
  | skip
    intro v x h
    have K := k_mld (V := v) (n := x 0) (c := x 1) (s := x 2) (j := x 3) (l_c3 (fun w0 w1 w2 : Int => 0 ≤ w1 ∧ 0 ≤ w2 ∧ q_66 fun a b => v 60 (36 * w2 + (6 * a + b)) = a_lk (t_b v) w0 w1.toNat a b) (l_e1 x 0) (l_e1 x 1) (l_e1 x 2) (h.2.2.2.1))
    refine l_outH rfl (And.intro h.1 ?_)
    exact l_o4 (fun w0 w1 w2 w3 : Int => (True) ∧ ((0 ≤ w1 ∧ 0 ≤ w2 ∧ q_66 fun a b => 36 * w2 + (6 * a + b) ≠ w3 → v 60 (36 * w2 + (6 * a + b)) = a_lk (t_b v) w0 w1.toNat a b) ∧ True)) (l_e1 x 0) (l_e1 x 1) (l_e1 x 2) (l_e1 x 3) K
  | skip
    intro v x h
    have E0 : y_ev x (0, [(0, 1)]) = x 0 := (l_e1 _ _)
    have E1 : y_ev x (0, [(1, 1)]) = x 1 := (l_e1 _ _)
    have E2 : y_ev x (0, [(2, 1)]) = x 2 := (l_e1 _ _)
    have T0 : 0 ≤ (y_ev x (0, [(1, 1)])) ∧ 0 ≤ (y_ev x (0, [(2, 1)])) ∧ q_66 fun a b => v 60 (36 * (y_ev x (0, [(2, 1)])) + (6 * a + b)) = a_lk (t_b v) (y_ev x (0, [(0, 1)])) (y_ev x (0, [(1, 1)])).toNat a b := h.2.2.2.1
    (try rw [E0] at T0); (try rw [E1] at T0); (try rw [E2] at T0)
    have K := k_mld (V := v) (n := x 0) (c := x 1) (s := x 2) (j := x 3) T0
    refine l_outH rfl (And.intro h.1 ?_)
    have O0 : y_ev x (0, [(0, 1)]) = x 0 := l_e1 _ _
    have O1 : y_ev x (0, [(1, 1)]) = x 1 := l_e1 _ _
    have O2 : y_ev x (0, [(2, 1)]) = x 2 := l_e1 _ _
    have O3 : y_ev x (0, [(3, 1)]) = x 3 := l_e1 _ _
    show (True) ∧ ((0 ≤ (y_ev x (0, [(1, 1)])) ∧ 0 ≤ (y_ev x (0, [(2, 1)])) ∧ q_66 fun a b => 36 * (y_ev x (0, [(2, 1)])) + (6 * a + b) ≠ (y_ev x (0, [(3, 1)])) → v 60 (36 * (y_ev x (0, [(2, 1)])) + (6 * a + b)) = a_lk (t_b v) (y_ev x (0, [(0, 1)])) (y_ev x (0, [(1, 1)])).toNat a b) ∧ True)
    (try rw [O0]); (try rw [O1]); (try rw [O2]); (try rw [O3])
    exact K
def lm_500 : zLem := (([((-2147483648), 2147483647), ((-2147483648), 2147483647), ((-2147483648), 2147483647), ((-2147483648), 2147483647), ((-2147483648), 2147483647), ((-2147483648), 2147483647), ((-2147483648), 2147483647)], [(60, false)], [], [], [(0, 0, 0, [(6, 1)]), (0, 0, 0, [(3, 1)]), (0, 0, 0, [(4, 1)]), (0, 0, 0, [(5, 1)])], [(0, (true, 0, 0, [(2, 36), (3, 6), (4, 1)]), 0, 0, 0, [(5, 1)])], [(79, [(0, [(0, 1)]), (0, [(1, 1)]), (0, [(2, 1)]), (0, [(2, 36), (3, 6), (4, 1)])])]), [([((-2147483648), 2147483647), ((-2147483648), 2147483647), ((-2147483648), 2147483647), ((-2147483648), 2147483647), ((-2147483648), 2147483647), ((-2147483648), 2147483647), ((-2147483648), 2147483647)], [(60, false)], [], [], [], [], [(80, [(0, [(0, 1)]), (0, [(1, 1)]), (0, [(2, 1)]), (0, [(2, 36), (3, 6), (4, 1)]), (0, [(5, 1)]), (0, [(6, 1)])])])])
theorem lk_500 : l_core lm_500 := by
  first
  | skip
    intro v x h
    have G0 := h.2.2.1
    have K := k_ml2 (V := v) (n := x 0) (c := x 1) (s := x 2) (r := x 3) (q := x 4) (x := x 5) (k := x 6) (l_c4 (fun w0 w1 w2 w3 : Int => 0 ≤ w1 ∧ 0 ≤ w2 ∧ q_66 fun a b => 36 * w2 + (6 * a + b) ≠ w3 → v 60 (36 * w2 + (6 * a + b)) = a_lk (t_b v) w0 w1.toNat a b) (l_e1 x 0) (l_e1 x 1) (l_e1 x 2) (show y_ev x (0, [(2, 36), (3, 6), (4, 1)]) = 36 * x 2 + 6 * x 3 + x 4 by show ((0) : Int) + ((36) * x 2 + ((6) * x 3 + ((1) * x 4 + 0))) = _; omega) (h.2.2.2.1)) (l_ff (f := v 60) (L := j_len 60) (show y_ev x (0, [(2, 36), (3, 6), (4, 1)]) = 36 * x 2 + 6 * x 3 + x 4 by show ((0) : Int) + ((36) * x 2 + ((6) * x 3 + ((1) * x 4 + 0))) = _; omega) (l_e1 x 5) (G0.1.1))
    refine l_outH rfl (And.intro h.1 ?_)
    exact l_o6 (fun w0 w1 w2 w3 w4 w5 : Int => (True) ∧ ((0 ≤ w1 ∧ 0 ≤ w2 ∧ (q_66 fun a b => 36 * w2 + (6 * a + b) ≠ w3 → 36 * w2 + (6 * a + b) ≠ w5 → v 60 (36 * w2 + (6 * a + b)) = a_lk (t_b v) w0 w1.toNat a b) ∧ (0 ≤ w3 → w3 ≠ w5 → v 60 w3 = w4)) ∧ True)) (l_e1 x 0) (l_e1 x 1) (l_e1 x 2) (show y_ev x (0, [(2, 36), (3, 6), (4, 1)]) = 36 * x 2 + 6 * x 3 + x 4 by show ((0) : Int) + ((36) * x 2 + ((6) * x 3 + ((1) * x 4 + 0))) = _; omega) (l_e1 x 5) (l_e1 x 6) K
  | skip
    intro v x h
    have G0 := h.2.2.1
    have F0 : (0 : Int) ≤ 36 * x 2 + 6 * x 3 + x 4 ∧ (36 * x 2 + 6 * x 3 + x 4 : Int) < j_len 60 ∧ v 60 (36 * x 2 + 6 * x 3 + x 4) = x 5 := l_ff (f := v 60) (L := j_len 60) (a := y_ev x (0, [(2, 36), (3, 6), (4, 1)])) (b := y_ev x (0, [(5, 1)])) (by show ((0) : Int) + ((36) * x 2 + ((6) * x 3 + ((1) * x 4 + 0))) = 36 * x 2 + 6 * x 3 + x 4; omega) (l_e1 _ _) (G0.1.1)
    have E0 : y_ev x (0, [(0, 1)]) = x 0 := (l_e1 _ _)
    have E1 : y_ev x (0, [(1, 1)]) = x 1 := (l_e1 _ _)
    have E2 : y_ev x (0, [(2, 1)]) = x 2 := (l_e1 _ _)
    have E3 : y_ev x (0, [(2, 36), (3, 6), (4, 1)]) = 36 * x 2 + 6 * x 3 + x 4 := (by show ((0) : Int) + ((36) * x 2 + ((6) * x 3 + ((1) * x 4 + 0))) = 36 * x 2 + 6 * x 3 + x 4; omega)
    have T0 : 0 ≤ (y_ev x (0, [(1, 1)])) ∧ 0 ≤ (y_ev x (0, [(2, 1)])) ∧ q_66 fun a b => 36 * (y_ev x (0, [(2, 1)])) + (6 * a + b) ≠ (y_ev x (0, [(2, 36), (3, 6), (4, 1)])) → v 60 (36 * (y_ev x (0, [(2, 1)])) + (6 * a + b)) = a_lk (t_b v) (y_ev x (0, [(0, 1)])) (y_ev x (0, [(1, 1)])).toNat a b := h.2.2.2.1
    (try rw [E0] at T0); (try rw [E1] at T0); (try rw [E2] at T0); (try rw [E3] at T0)
    have K := k_ml2 (V := v) (n := x 0) (c := x 1) (s := x 2) (r := x 3) (q := x 4) (x := x 5) (k := x 6) T0 F0
    refine l_outH rfl (And.intro h.1 ?_)
    have O0 : y_ev x (0, [(0, 1)]) = x 0 := l_e1 _ _
    have O1 : y_ev x (0, [(1, 1)]) = x 1 := l_e1 _ _
    have O2 : y_ev x (0, [(2, 1)]) = x 2 := l_e1 _ _
    have O3 : y_ev x (0, [(2, 36), (3, 6), (4, 1)]) = 36 * x 2 + 6 * x 3 + x 4 := by show ((0) : Int) + ((36) * x 2 + ((6) * x 3 + ((1) * x 4 + 0))) = _; omega
    have O4 : y_ev x (0, [(5, 1)]) = x 5 := l_e1 _ _
    have O5 : y_ev x (0, [(6, 1)]) = x 6 := l_e1 _ _
    show (True) ∧ ((0 ≤ (y_ev x (0, [(1, 1)])) ∧ 0 ≤ (y_ev x (0, [(2, 1)])) ∧ (q_66 fun a b => 36 * (y_ev x (0, [(2, 1)])) + (6 * a + b) ≠ (y_ev x (0, [(2, 36), (3, 6), (4, 1)])) → 36 * (y_ev x (0, [(2, 1)])) + (6 * a + b) ≠ (y_ev x (0, [(6, 1)])) → v 60 (36 * (y_ev x (0, [(2, 1)])) + (6 * a + b)) = a_lk (t_b v) (y_ev x (0, [(0, 1)])) (y_ev x (0, [(1, 1)])).toNat a b) ∧ (0 ≤ (y_ev x (0, [(2, 36), (3, 6), (4, 1)])) → (y_ev x (0, [(2, 36), (3, 6), (4, 1)])) ≠ (y_ev x (0, [(6, 1)])) → v 60 (y_ev x (0, [(2, 36), (3, 6), (4, 1)])) = (y_ev x (0, [(5, 1)])))) ∧ True)
    (try rw [O0]); (try rw [O1]); (try rw [O2]); (try rw [O3]); (try rw [O4]); (try rw [O5])
    exact K
def lm_501pi_0 (t : List (Int × Int)) : List (Int × Int) := ((-2147483648), 2147483647) :: ((-2147483648), 2147483647) :: ((-2147483648), 2147483647) :: ((-2147483648), 2147483647) :: ((-2147483648), 2147483647) :: ((-2147483648), 2147483647) :: ((-2147483648), 2147483647) :: ((-2147483648), 2147483647) :: t
def lm_501pi_1 (t : List (Int × Int)) : List (Int × Int) := ((-9223372036854775808), 9223372036854775807) :: ((-2147483648), 2147483647) :: ((-2147483648), 2147483647) :: ((-2147483648), 2147483647) :: ((-2147483648), 2147483647) :: ((-2147483648), 2147483647) :: ((-2147483648), 2147483647) :: ((-2147483648), 2147483647) :: t
def lm_501pi_2 (t : List (Int × Int)) : List (Int × Int) := ((-2147483648), 2147483647) :: ((-2147483648), 2147483647) :: ((-2147483648), 2147483647) :: ((-2147483648), 2147483647) :: ((-2147483648), 2147483647) :: ((-2147483648), 2147483647) :: ((-2147483648), 2147483647) :: ((-2147483648), 2147483647) :: t
def lm_501pi_3 (t : List (Int × Int)) : List (Int × Int) := ((-2147483648), 2147483647) :: ((-2147483648), 2147483647) :: ((-2147483648), 2147483647) :: t
def lm_501pc_0 (t : List zL) : List zL := (400, [(2, (-1))]) :: ((-1), [(1, (-1)), (2, 1)]) :: (0, [(9, 1)]) :: (0, [(10, 1)]) :: (5, [(9, (-1))]) :: (5, [(10, (-1))]) :: (19, [(4, (-1))]) :: (0, [(12, 1)]) :: t
def lm_501pc_1 (t : List zL) : List zL := (1, [(12, (-1))]) :: t
def lm_501pg_0 (t : List zTg) : List zTg := (80, [(0, [(0, 1)]), (0, [(1, 1)]), (0, [(12, 1)]), (0, [(9, 6), (10, 1), (12, 36)]), (0, [(11, 1)]), (0, [(9, 1), (10, 6), (12, 36)])]) :: (40, [(0, [(0, 1)]), (0, [(1, 1)]), (0, [(14, 1)]), (0, [(15, 1)]), (0, [(16, 1)]), (0, [(13, 1)]), (0, [(4, 1)]), (0, [(17, 1)]), (0, [(18, 1)]), (0, [(23, 1)])]) :: (40, [(0, [(0, 1)]), ((-1), [(2, 1)]), (8, []), (0, []), (0, []), (0, [(3, 1)]), (0, [(4, 1)]), (0, [(5, 1)]), (0, [(6, 1)]), (0, [(24, 1)])]) :: (40, [(0, [(0, 1)]), ((-4), [(2, 1)]), (5, []), (0, []), (0, []), (0, [(3, 1)]), (0, [(4, 1)]), (0, [(19, 1)]), (0, [(20, 1)]), (0, [(25, 1)])]) :: (40, [(0, [(0, 1)]), ((-3), [(2, 1)]), (6, []), (0, []), (0, []), (0, [(3, 1)]), (0, [(4, 1)]), (0, [(21, 1)]), (0, [(22, 1)]), (0, [(26, 1)])]) :: (36, [(0, [(0, 1)]), ((-1), [(2, 1)]), (59, []), (0, [(7, 1)]), (0, [(8, 1)])]) :: (44, [(0, [(0, 1)]), ((-4), [(2, 1)]), (0, [(9, 1)])]) :: (44, [(0, [(0, 1)]), ((-3), [(2, 1)]), (0, [(10, 1)])]) :: t
def lm_501pg_1 (t : List zTg) : List zTg := (61, [(0, [(0, 1)]), ((-2), [(2, 1)]), (0, [(11, 1)])]) :: t
def lm_501p : zS := ((lm_501pi_0 (lm_501pi_1 (lm_501pi_2 (lm_501pi_3 [])))), [(12, false), (60, false)], (lm_501pc_0 (lm_501pc_1 [])), [], [(0, 0, 0, [(9, 1)]), (0, 0, 0, [(10, 1)]), (0, 0, 0, [(11, 1)])], [(0, (false, 11, 0, []), 0, 0, 0, [(2, 1)]), (1, (true, 0, 0, [(9, 1), (10, 6), (12, 36)]), 0, 0, 0, [(11, 1)])], (lm_501pg_0 (lm_501pg_1 [])))
def lm_501q0 : zS := ((lm_501pi_0 (lm_501pi_1 (lm_501pi_2 (lm_501pi_3 [])))), [(12, false), (60, false)], [], [], [], [], [(78, [(0, [(0, 1)]), (0, [(2, 1)]), (0, [(12, 1)])])])
def lm_501 : zLem := (lm_501p, [lm_501q0])
theorem lk_501 : l_core lm_501 := by
  first
  | skip
    intro v x h
    have G0 := h.2.2.1
    have G1 := G0.2
    have K := k_mlkA (V := v) (n := x 0) (c := x 1) (d := x 2) (H := x 3) (L := x 4) (W := x 5) (WP := x 6) (e := x 7) (v := x 8) (r := x 9) (q := x 10) (x := x 11) (s := x 12) (H2 := x 13) (st2 := x 14) (mo2 := x 15) (op2 := x 16) (W2 := x 17) (P2 := x 18) (W5 := x 19) (P5 := x 20) (W6 := x 21) (P6 := x 22) (S := x 23) (S2 := x 24) (S3 := x 25) (S4 := x 26) (l_c6 (fun w0 w1 w2 w3 w4 w5 : Int => 0 ≤ w1 ∧ 0 ≤ w2 ∧ (q_66 fun a b => 36 * w2 + (6 * a + b) ≠ w3 → 36 * w2 + (6 * a + b) ≠ w5 → v 60 (36 * w2 + (6 * a + b)) = a_lk (t_b v) w0 w1.toNat a b) ∧ (0 ≤ w3 → w3 ≠ w5 → v 60 w3 = w4)) (l_e1 x 0) (l_e1 x 1) (l_e1 x 12) (show y_ev x (0, [(9, 6), (10, 1), (12, 36)]) = 6 * x 9 + x 10 + 36 * x 12 by show ((0) : Int) + ((6) * x 9 + ((1) * x 10 + ((36) * x 12 + 0))) = _; omega) (l_e1 x 11) (show y_ev x (0, [(9, 1), (10, 6), (12, 36)]) = x 9 + 6 * x 10 + 36 * x 12 by show ((0) : Int) + ((1) * x 9 + ((6) * x 10 + ((36) * x 12 + 0))) = _; omega) (h.2.2.2.1)) (l_c10 (fun w0 w1 w2 w3 w4 w5 w6 w7 w8 w9 : Int => q_run2 (t_b v) w0 w1 w2 w3 w4 w5 w6 w7 w8 w9) (l_e1 x 0) (l_e1 x 1) (l_e1 x 14) (l_e1 x 15) (l_e1 x 16) (l_e1 x 13) (l_e1 x 4) (l_e1 x 17) (l_e1 x 18) (l_e1 x 23) (h.2.2.2.2.1)) (l_c9 (fun w0 w1 w2 w3 w4 w5 w6 w7 w8 : Int => q_run2 (t_b v) w0 w1 w2 w3 w3 w4 w5 w6 w7 w8) (l_e1 x 0) (l_q2 1 x 2) (l_e0 x (8)) (l_e0 x (0)) (l_e1 x 3) (l_e1 x 4) (l_e1 x 5) (l_e1 x 6) (l_e1 x 24) (h.2.2.2.2.2.1)) (l_c9 (fun w0 w1 w2 w3 w4 w5 w6 w7 w8 : Int => q_run2 (t_b v) w0 w1 w2 w3 w3 w4 w5 w6 w7 w8) (l_e1 x 0) (l_q2 4 x 2) (l_e0 x (5)) (l_e0 x (0)) (l_e1 x 3) (l_e1 x 4) (l_e1 x 19) (l_e1 x 20) (l_e1 x 25) (h.2.2.2.2.2.2.1)) (l_c9 (fun w0 w1 w2 w3 w4 w5 w6 w7 w8 : Int => q_run2 (t_b v) w0 w1 w2 w3 w3 w4 w5 w6 w7 w8) (l_e1 x 0) (l_q2 3 x 2) (l_e0 x (6)) (l_e0 x (0)) (l_e1 x 3) (l_e1 x 4) (l_e1 x 21) (l_e1 x 22) (l_e1 x 26) (h.2.2.2.2.2.2.2.1)) (l_c5 (fun w0 w1 w2 w3 w4 : Int => q_tok (t_b v) w0 w1 w2 w3 w4) (l_e1 x 0) (l_q2 1 x 2) (l_e0 x (59)) (l_e1 x 7) (l_e1 x 8) (h.2.2.2.2.2.2.2.2.1)) (l_c3 (fun w0 w1 w2 : Int => q_fnd (t_b v) w0 w1 w2) (l_e1 x 0) (l_q2 4 x 2) (l_e1 x 9) (h.2.2.2.2.2.2.2.2.2.1)) (l_c3 (fun w0 w1 w2 : Int => q_fnd (t_b v) w0 w1 w2) (l_e1 x 0) (l_q2 3 x 2) (l_e1 x 10) (h.2.2.2.2.2.2.2.2.2.2.1)) (l_c3 (fun w0 w1 w2 : Int => tk (t_b v) w0 w1.toNat = 3 ∧ w2 = tx (t_b v) w0 w1.toNat) (l_e1 x 0) (l_q2 2 x 2) (l_e1 x 11) (h.2.2.2.2.2.2.2.2.2.2.2.1)) (l_cc (l_q1 400 x 2) (h.2.1.1)) (l_cc (l_q6 1 x 1 2) (h.2.1.2.1)) (l_cc (l_e1 x 9) (h.2.1.2.2.1)) (l_cc (l_e1 x 10) (h.2.1.2.2.2.1)) (l_cc (l_q1 5 x 9) (h.2.1.2.2.2.2.1)) (l_cc (l_q1 5 x 10) (h.2.1.2.2.2.2.2.1)) (l_cc (l_q1 19 x 4) (h.2.1.2.2.2.2.2.2.1)) (l_cc (l_e1 x 12) (h.2.1.2.2.2.2.2.2.2.1)) (l_cc (l_q1 1 x 12) (h.2.1.2.2.2.2.2.2.2.2.1)) (l_ff (f := v 60) (L := j_len 60) (show y_ev x (0, [(9, 1), (10, 6), (12, 36)]) = x 9 + 6 * x 10 + 36 * x 12 by show ((0) : Int) + ((1) * x 9 + ((6) * x 10 + ((36) * x 12 + 0))) = _; omega) (l_e1 x 11) (G1.1.1))
    refine l_outH rfl (And.intro h.1 ?_)
    exact l_o3 (fun w0 w1 w2 : Int => (True) ∧ ((0 ≤ w1 ∧ 0 ≤ w2 ∧ q_66 fun a b => v 60 (36 * w2 + (6 * a + b)) = a_lk (t_b v) w0 w1.toNat a b) ∧ True)) (l_e1 x 0) (l_e1 x 2) (l_e1 x 12) K
  | skip
    intro v x h
    have G0 := h.2.2.1
    have G1 := G0.2
    have C0 : (0 : Int) ≤ 400 - x 2 := l_cc (a := y_ev x (400, [(2, (-1))])) (by show ((400) : Int) + ((-1) * x 2 + 0) = 400 - x 2; omega) (h.2.1.1)
    have C1 : (0 : Int) ≤ x 2 - x 1 - 1 := l_cc (a := y_ev x ((-1), [(1, (-1)), (2, 1)])) (by show ((-1) : Int) + ((-1) * x 1 + ((1) * x 2 + 0)) = x 2 - x 1 - 1; omega) (h.2.1.2.1)
    have C2 : (0 : Int) ≤ x 9 := l_cc (a := y_ev x (0, [(9, 1)])) (l_e1 _ _) (h.2.1.2.2.1)
    have C3 : (0 : Int) ≤ x 10 := l_cc (a := y_ev x (0, [(10, 1)])) (l_e1 _ _) (h.2.1.2.2.2.1)
    have C4 : (0 : Int) ≤ 5 - x 9 := l_cc (a := y_ev x (5, [(9, (-1))])) (by show ((5) : Int) + ((-1) * x 9 + 0) = 5 - x 9; omega) (h.2.1.2.2.2.2.1)
    have C5 : (0 : Int) ≤ 5 - x 10 := l_cc (a := y_ev x (5, [(10, (-1))])) (by show ((5) : Int) + ((-1) * x 10 + 0) = 5 - x 10; omega) (h.2.1.2.2.2.2.2.1)
    have C6 : (0 : Int) ≤ 19 - x 4 := l_cc (a := y_ev x (19, [(4, (-1))])) (by show ((19) : Int) + ((-1) * x 4 + 0) = 19 - x 4; omega) (h.2.1.2.2.2.2.2.2.1)
    have C7 : (0 : Int) ≤ x 12 := l_cc (a := y_ev x (0, [(12, 1)])) (l_e1 _ _) (h.2.1.2.2.2.2.2.2.2.1)
    have C8 : (0 : Int) ≤ 1 - x 12 := l_cc (a := y_ev x (1, [(12, (-1))])) (by show ((1) : Int) + ((-1) * x 12 + 0) = 1 - x 12; omega) (h.2.1.2.2.2.2.2.2.2.2.1)
    have F0 : (0 : Int) ≤ x 9 + 6 * x 10 + 36 * x 12 ∧ (x 9 + 6 * x 10 + 36 * x 12 : Int) < j_len 60 ∧ v 60 (x 9 + 6 * x 10 + 36 * x 12) = x 11 := l_ff (f := v 60) (L := j_len 60) (a := y_ev x (0, [(9, 1), (10, 6), (12, 36)])) (b := y_ev x (0, [(11, 1)])) (by show ((0) : Int) + ((1) * x 9 + ((6) * x 10 + ((36) * x 12 + 0))) = x 9 + 6 * x 10 + 36 * x 12; omega) (l_e1 _ _) (G1.1.1)
    have E0 : y_ev x (0, [(0, 1)]) = x 0 := (l_e1 _ _)
    have E1 : y_ev x (0, [(1, 1)]) = x 1 := (l_e1 _ _)
    have E2 : y_ev x (0, [(12, 1)]) = x 12 := (l_e1 _ _)
    have E3 : y_ev x (0, [(9, 6), (10, 1), (12, 36)]) = 6 * x 9 + x 10 + 36 * x 12 := (by show ((0) : Int) + ((6) * x 9 + ((1) * x 10 + ((36) * x 12 + 0))) = 6 * x 9 + x 10 + 36 * x 12; omega)
    have E4 : y_ev x (0, [(11, 1)]) = x 11 := (l_e1 _ _)
    have E5 : y_ev x (0, [(9, 1), (10, 6), (12, 36)]) = x 9 + 6 * x 10 + 36 * x 12 := (by show ((0) : Int) + ((1) * x 9 + ((6) * x 10 + ((36) * x 12 + 0))) = x 9 + 6 * x 10 + 36 * x 12; omega)
    have E6 : y_ev x (0, [(14, 1)]) = x 14 := (l_e1 _ _)
    have E7 : y_ev x (0, [(15, 1)]) = x 15 := (l_e1 _ _)
    have E8 : y_ev x (0, [(16, 1)]) = x 16 := (l_e1 _ _)
    have E9 : y_ev x (0, [(13, 1)]) = x 13 := (l_e1 _ _)
    have E10 : y_ev x (0, [(4, 1)]) = x 4 := (l_e1 _ _)
    have E11 : y_ev x (0, [(17, 1)]) = x 17 := (l_e1 _ _)
    have E12 : y_ev x (0, [(18, 1)]) = x 18 := (l_e1 _ _)
    have E13 : y_ev x (0, [(23, 1)]) = x 23 := (l_e1 _ _)
    have E14 : y_ev x ((-1), [(2, 1)]) = x 2 - 1 := (by show ((-1) : Int) + ((1) * x 2 + 0) = x 2 - 1; omega)
    have E15 : y_ev x (8, []) = 8 := (l_e0 _ _)
    have E16 : y_ev x (0, []) = 0 := (l_e0 _ _)
    have E17 : y_ev x (0, [(3, 1)]) = x 3 := (l_e1 _ _)
    have E18 : y_ev x (0, [(5, 1)]) = x 5 := (l_e1 _ _)
    have E19 : y_ev x (0, [(6, 1)]) = x 6 := (l_e1 _ _)
    have E20 : y_ev x (0, [(24, 1)]) = x 24 := (l_e1 _ _)
    have E21 : y_ev x ((-4), [(2, 1)]) = x 2 - 4 := (by show ((-4) : Int) + ((1) * x 2 + 0) = x 2 - 4; omega)
    have E22 : y_ev x (5, []) = 5 := (l_e0 _ _)
    have E23 : y_ev x (0, [(19, 1)]) = x 19 := (l_e1 _ _)
    have E24 : y_ev x (0, [(20, 1)]) = x 20 := (l_e1 _ _)
    have E25 : y_ev x (0, [(25, 1)]) = x 25 := (l_e1 _ _)
    have E26 : y_ev x ((-3), [(2, 1)]) = x 2 - 3 := (by show ((-3) : Int) + ((1) * x 2 + 0) = x 2 - 3; omega)
    have E27 : y_ev x (6, []) = 6 := (l_e0 _ _)
    have E28 : y_ev x (0, [(21, 1)]) = x 21 := (l_e1 _ _)
    have E29 : y_ev x (0, [(22, 1)]) = x 22 := (l_e1 _ _)
    have E30 : y_ev x (0, [(26, 1)]) = x 26 := (l_e1 _ _)
    have E31 : y_ev x (59, []) = 59 := (l_e0 _ _)
    have E32 : y_ev x (0, [(7, 1)]) = x 7 := (l_e1 _ _)
    have E33 : y_ev x (0, [(8, 1)]) = x 8 := (l_e1 _ _)
    have E34 : y_ev x (0, [(9, 1)]) = x 9 := (l_e1 _ _)
    have E35 : y_ev x (0, [(10, 1)]) = x 10 := (l_e1 _ _)
    have E36 : y_ev x ((-2), [(2, 1)]) = x 2 - 2 := (by show ((-2) : Int) + ((1) * x 2 + 0) = x 2 - 2; omega)
    have T0 : 0 ≤ (y_ev x (0, [(1, 1)])) ∧ 0 ≤ (y_ev x (0, [(12, 1)])) ∧ (q_66 fun a b => 36 * (y_ev x (0, [(12, 1)])) + (6 * a + b) ≠ (y_ev x (0, [(9, 6), (10, 1), (12, 36)])) → 36 * (y_ev x (0, [(12, 1)])) + (6 * a + b) ≠ (y_ev x (0, [(9, 1), (10, 6), (12, 36)])) → v 60 (36 * (y_ev x (0, [(12, 1)])) + (6 * a + b)) = a_lk (t_b v) (y_ev x (0, [(0, 1)])) (y_ev x (0, [(1, 1)])).toNat a b) ∧ (0 ≤ (y_ev x (0, [(9, 6), (10, 1), (12, 36)])) → (y_ev x (0, [(9, 6), (10, 1), (12, 36)])) ≠ (y_ev x (0, [(9, 1), (10, 6), (12, 36)])) → v 60 (y_ev x (0, [(9, 6), (10, 1), (12, 36)])) = (y_ev x (0, [(11, 1)]))) := h.2.2.2.1
    (try rw [E0] at T0); (try rw [E1] at T0); (try rw [E2] at T0); (try rw [E3] at T0); (try rw [E4] at T0); (try rw [E5] at T0)
    have T1 : q_run2 (t_b v) (y_ev x (0, [(0, 1)])) (y_ev x (0, [(1, 1)])) (y_ev x (0, [(14, 1)])) (y_ev x (0, [(15, 1)])) (y_ev x (0, [(16, 1)])) (y_ev x (0, [(13, 1)])) (y_ev x (0, [(4, 1)])) (y_ev x (0, [(17, 1)])) (y_ev x (0, [(18, 1)])) (y_ev x (0, [(23, 1)])) := h.2.2.2.2.1
    (try rw [E0] at T1); (try rw [E1] at T1); (try rw [E6] at T1); (try rw [E7] at T1); (try rw [E8] at T1); (try rw [E9] at T1); (try rw [E10] at T1); (try rw [E11] at T1); (try rw [E12] at T1); (try rw [E13] at T1)
    have T2 : q_run2 (t_b v) (y_ev x (0, [(0, 1)])) (y_ev x ((-1), [(2, 1)])) (y_ev x (8, [])) (y_ev x (0, [])) (y_ev x (0, [])) (y_ev x (0, [(3, 1)])) (y_ev x (0, [(4, 1)])) (y_ev x (0, [(5, 1)])) (y_ev x (0, [(6, 1)])) (y_ev x (0, [(24, 1)])) := h.2.2.2.2.2.1
    (try rw [E0] at T2); (try rw [E14] at T2); (try rw [E15] at T2); (try rw [E16] at T2); (try rw [E17] at T2); (try rw [E10] at T2); (try rw [E18] at T2); (try rw [E19] at T2); (try rw [E20] at T2)
    have T3 : q_run2 (t_b v) (y_ev x (0, [(0, 1)])) (y_ev x ((-4), [(2, 1)])) (y_ev x (5, [])) (y_ev x (0, [])) (y_ev x (0, [])) (y_ev x (0, [(3, 1)])) (y_ev x (0, [(4, 1)])) (y_ev x (0, [(19, 1)])) (y_ev x (0, [(20, 1)])) (y_ev x (0, [(25, 1)])) := h.2.2.2.2.2.2.1
    (try rw [E0] at T3); (try rw [E21] at T3); (try rw [E22] at T3); (try rw [E16] at T3); (try rw [E17] at T3); (try rw [E10] at T3); (try rw [E23] at T3); (try rw [E24] at T3); (try rw [E25] at T3)
    have T4 : q_run2 (t_b v) (y_ev x (0, [(0, 1)])) (y_ev x ((-3), [(2, 1)])) (y_ev x (6, [])) (y_ev x (0, [])) (y_ev x (0, [])) (y_ev x (0, [(3, 1)])) (y_ev x (0, [(4, 1)])) (y_ev x (0, [(21, 1)])) (y_ev x (0, [(22, 1)])) (y_ev x (0, [(26, 1)])) := h.2.2.2.2.2.2.2.1
    (try rw [E0] at T4); (try rw [E26] at T4); (try rw [E27] at T4); (try rw [E16] at T4); (try rw [E17] at T4); (try rw [E10] at T4); (try rw [E28] at T4); (try rw [E29] at T4); (try rw [E30] at T4)
    have T5 : q_tok (t_b v) (y_ev x (0, [(0, 1)])) (y_ev x ((-1), [(2, 1)])) (y_ev x (59, [])) (y_ev x (0, [(7, 1)])) (y_ev x (0, [(8, 1)])) := h.2.2.2.2.2.2.2.2.1
    (try rw [E0] at T5); (try rw [E14] at T5); (try rw [E31] at T5); (try rw [E32] at T5); (try rw [E33] at T5)
    have T6 : q_fnd (t_b v) (y_ev x (0, [(0, 1)])) (y_ev x ((-4), [(2, 1)])) (y_ev x (0, [(9, 1)])) := h.2.2.2.2.2.2.2.2.2.1
    (try rw [E0] at T6); (try rw [E21] at T6); (try rw [E34] at T6)
    have T7 : q_fnd (t_b v) (y_ev x (0, [(0, 1)])) (y_ev x ((-3), [(2, 1)])) (y_ev x (0, [(10, 1)])) := h.2.2.2.2.2.2.2.2.2.2.1
    (try rw [E0] at T7); (try rw [E26] at T7); (try rw [E35] at T7)
    have T8 : tk (t_b v) (y_ev x (0, [(0, 1)])) (y_ev x ((-2), [(2, 1)])).toNat = 3 ∧ (y_ev x (0, [(11, 1)])) = tx (t_b v) (y_ev x (0, [(0, 1)])) (y_ev x ((-2), [(2, 1)])).toNat := h.2.2.2.2.2.2.2.2.2.2.2.1
    (try rw [E0] at T8); (try rw [E36] at T8); (try rw [E4] at T8)
    have K := k_mlkA (V := v) (n := x 0) (c := x 1) (d := x 2) (H := x 3) (L := x 4) (W := x 5) (WP := x 6) (e := x 7) (v := x 8) (r := x 9) (q := x 10) (x := x 11) (s := x 12) (H2 := x 13) (st2 := x 14) (mo2 := x 15) (op2 := x 16) (W2 := x 17) (P2 := x 18) (W5 := x 19) (P5 := x 20) (W6 := x 21) (P6 := x 22) (S := x 23) (S2 := x 24) (S3 := x 25) (S4 := x 26) T0 T1 T2 T3 T4 T5 T6 T7 T8 C0 C1 C2 C3 C4 C5 C6 C7 C8 F0
    refine l_outH rfl (And.intro h.1 ?_)
    have O0 : y_ev x (0, [(0, 1)]) = x 0 := l_e1 _ _
    have O1 : y_ev x (0, [(2, 1)]) = x 2 := l_e1 _ _
    have O2 : y_ev x (0, [(12, 1)]) = x 12 := l_e1 _ _
    show (True) ∧ ((0 ≤ (y_ev x (0, [(2, 1)])) ∧ 0 ≤ (y_ev x (0, [(12, 1)])) ∧ q_66 fun a b => v 60 (36 * (y_ev x (0, [(12, 1)])) + (6 * a + b)) = a_lk (t_b v) (y_ev x (0, [(0, 1)])) (y_ev x (0, [(2, 1)])).toNat a b) ∧ True)
    (try rw [O0]); (try rw [O1]); (try rw [O2])
    exact K
def lm_502pg_0 (t : List zTg) : List zTg := (78, [(0, [(0, 1)]), (0, [(1, 1)]), (0, [(12, 1)])]) :: (40, [(0, [(0, 1)]), (0, [(1, 1)]), (0, [(14, 1)]), (0, [(15, 1)]), (0, [(16, 1)]), (0, [(13, 1)]), (0, [(4, 1)]), (0, [(17, 1)]), (0, [(18, 1)]), (0, [(23, 1)])]) :: (40, [(0, [(0, 1)]), ((-1), [(2, 1)]), (8, []), (0, []), (0, []), (0, [(3, 1)]), (0, [(4, 1)]), (0, [(5, 1)]), (0, [(6, 1)]), (0, [(24, 1)])]) :: (40, [(0, [(0, 1)]), ((-4), [(2, 1)]), (5, []), (0, []), (0, []), (0, [(3, 1)]), (0, [(4, 1)]), (0, [(19, 1)]), (0, [(20, 1)]), (0, [(25, 1)])]) :: (40, [(0, [(0, 1)]), ((-3), [(2, 1)]), (6, []), (0, []), (0, []), (0, [(3, 1)]), (0, [(4, 1)]), (0, [(21, 1)]), (0, [(22, 1)]), (0, [(26, 1)])]) :: (36, [(0, [(0, 1)]), ((-1), [(2, 1)]), (59, []), (0, [(7, 1)]), (0, [(8, 1)])]) :: (44, [(0, [(0, 1)]), ((-4), [(2, 1)]), (0, [(9, 1)])]) :: (44, [(0, [(0, 1)]), ((-3), [(2, 1)]), (0, [(10, 1)])]) :: t
def lm_502pg_1 (t : List zTg) : List zTg := (61, [(0, [(0, 1)]), ((-2), [(2, 1)]), (0, [(11, 1)])]) :: t
def lm_502p : zS := ((lm_501pi_0 (lm_501pi_1 (lm_501pi_2 (lm_501pi_3 [])))), [(12, false)], [(400, [(2, (-1))]), ((-1), [(1, (-1)), (2, 1)]), (19, [(4, (-1))]), ((-1), [(9, (-1))])], [], [(0, 0, 0, [(9, 1)]), (0, 0, 0, [(10, 1)])], [(0, (false, 11, 0, []), 0, 0, 0, [(2, 1)])], (lm_502pg_0 (lm_502pg_1 [])))
def lm_502q0 : zS := ((lm_501pi_0 (lm_501pi_1 (lm_501pi_2 (lm_501pi_3 [])))), [(12, false)], [], [], [], [], [(78, [(0, [(0, 1)]), (0, [(2, 1)]), (0, [(12, 1)])])])
def lm_502 : zLem := (lm_502p, [lm_502q0])
theorem lk_502 : l_core lm_502 := by
  first
  | skip
    intro v x h
    have K := k_mlkB (V := v) (n := x 0) (c := x 1) (d := x 2) (H := x 3) (L := x 4) (W := x 5) (WP := x 6) (e := x 7) (v := x 8) (r := x 9) (q := x 10) (x := x 11) (s := x 12) (H2 := x 13) (st2 := x 14) (mo2 := x 15) (op2 := x 16) (W2 := x 17) (P2 := x 18) (W5 := x 19) (P5 := x 20) (W6 := x 21) (P6 := x 22) (S := x 23) (S2 := x 24) (S3 := x 25) (S4 := x 26) (l_c3 (fun w0 w1 w2 : Int => 0 ≤ w1 ∧ 0 ≤ w2 ∧ q_66 fun a b => v 60 (36 * w2 + (6 * a + b)) = a_lk (t_b v) w0 w1.toNat a b) (l_e1 x 0) (l_e1 x 1) (l_e1 x 12) (h.2.2.2.1)) (l_c10 (fun w0 w1 w2 w3 w4 w5 w6 w7 w8 w9 : Int => q_run2 (t_b v) w0 w1 w2 w3 w4 w5 w6 w7 w8 w9) (l_e1 x 0) (l_e1 x 1) (l_e1 x 14) (l_e1 x 15) (l_e1 x 16) (l_e1 x 13) (l_e1 x 4) (l_e1 x 17) (l_e1 x 18) (l_e1 x 23) (h.2.2.2.2.1)) (l_c9 (fun w0 w1 w2 w3 w4 w5 w6 w7 w8 : Int => q_run2 (t_b v) w0 w1 w2 w3 w3 w4 w5 w6 w7 w8) (l_e1 x 0) (l_q2 1 x 2) (l_e0 x (8)) (l_e0 x (0)) (l_e1 x 3) (l_e1 x 4) (l_e1 x 5) (l_e1 x 6) (l_e1 x 24) (h.2.2.2.2.2.1)) (l_c9 (fun w0 w1 w2 w3 w4 w5 w6 w7 w8 : Int => q_run2 (t_b v) w0 w1 w2 w3 w3 w4 w5 w6 w7 w8) (l_e1 x 0) (l_q2 4 x 2) (l_e0 x (5)) (l_e0 x (0)) (l_e1 x 3) (l_e1 x 4) (l_e1 x 19) (l_e1 x 20) (l_e1 x 25) (h.2.2.2.2.2.2.1)) (l_c9 (fun w0 w1 w2 w3 w4 w5 w6 w7 w8 : Int => q_run2 (t_b v) w0 w1 w2 w3 w3 w4 w5 w6 w7 w8) (l_e1 x 0) (l_q2 3 x 2) (l_e0 x (6)) (l_e0 x (0)) (l_e1 x 3) (l_e1 x 4) (l_e1 x 21) (l_e1 x 22) (l_e1 x 26) (h.2.2.2.2.2.2.2.1)) (l_c5 (fun w0 w1 w2 w3 w4 : Int => q_tok (t_b v) w0 w1 w2 w3 w4) (l_e1 x 0) (l_q2 1 x 2) (l_e0 x (59)) (l_e1 x 7) (l_e1 x 8) (h.2.2.2.2.2.2.2.2.1)) (l_c3 (fun w0 w1 w2 : Int => q_fnd (t_b v) w0 w1 w2) (l_e1 x 0) (l_q2 4 x 2) (l_e1 x 9) (h.2.2.2.2.2.2.2.2.2.1)) (l_c3 (fun w0 w1 w2 : Int => q_fnd (t_b v) w0 w1 w2) (l_e1 x 0) (l_q2 3 x 2) (l_e1 x 10) (h.2.2.2.2.2.2.2.2.2.2.1)) (l_c3 (fun w0 w1 w2 : Int => tk (t_b v) w0 w1.toNat = 3 ∧ w2 = tx (t_b v) w0 w1.toNat) (l_e1 x 0) (l_q2 2 x 2) (l_e1 x 11) (h.2.2.2.2.2.2.2.2.2.2.2.1)) (l_cc (l_q1 400 x 2) (h.2.1.1)) (l_cc (l_q6 1 x 1 2) (h.2.1.2.1)) (l_cc (l_q1 19 x 4) (h.2.1.2.2.1)) (l_cc (l_q11 1 x 9) (h.2.1.2.2.2.1))
    refine l_outH rfl (And.intro h.1 ?_)
    exact l_o3 (fun w0 w1 w2 : Int => (True) ∧ ((0 ≤ w1 ∧ 0 ≤ w2 ∧ q_66 fun a b => v 60 (36 * w2 + (6 * a + b)) = a_lk (t_b v) w0 w1.toNat a b) ∧ True)) (l_e1 x 0) (l_e1 x 2) (l_e1 x 12) K
  | skip
    intro v x h
    have C0 : (0 : Int) ≤ 400 - x 2 := l_cc (a := y_ev x (400, [(2, (-1))])) (by show ((400) : Int) + ((-1) * x 2 + 0) = 400 - x 2; omega) (h.2.1.1)
    have C1 : (0 : Int) ≤ x 2 - x 1 - 1 := l_cc (a := y_ev x ((-1), [(1, (-1)), (2, 1)])) (by show ((-1) : Int) + ((-1) * x 1 + ((1) * x 2 + 0)) = x 2 - x 1 - 1; omega) (h.2.1.2.1)
    have C2 : (0 : Int) ≤ 19 - x 4 := l_cc (a := y_ev x (19, [(4, (-1))])) (by show ((19) : Int) + ((-1) * x 4 + 0) = 19 - x 4; omega) (h.2.1.2.2.1)
    have C3 : (0 : Int) ≤ -x 9 - 1 := l_cc (a := y_ev x ((-1), [(9, (-1))])) (by show ((-1) : Int) + ((-1) * x 9 + 0) = -x 9 - 1; omega) (h.2.1.2.2.2.1)
    have E0 : y_ev x (0, [(0, 1)]) = x 0 := (l_e1 _ _)
    have E1 : y_ev x (0, [(1, 1)]) = x 1 := (l_e1 _ _)
    have E2 : y_ev x (0, [(12, 1)]) = x 12 := (l_e1 _ _)
    have E3 : y_ev x (0, [(14, 1)]) = x 14 := (l_e1 _ _)
    have E4 : y_ev x (0, [(15, 1)]) = x 15 := (l_e1 _ _)
    have E5 : y_ev x (0, [(16, 1)]) = x 16 := (l_e1 _ _)
    have E6 : y_ev x (0, [(13, 1)]) = x 13 := (l_e1 _ _)
    have E7 : y_ev x (0, [(4, 1)]) = x 4 := (l_e1 _ _)
    have E8 : y_ev x (0, [(17, 1)]) = x 17 := (l_e1 _ _)
    have E9 : y_ev x (0, [(18, 1)]) = x 18 := (l_e1 _ _)
    have E10 : y_ev x (0, [(23, 1)]) = x 23 := (l_e1 _ _)
    have E11 : y_ev x ((-1), [(2, 1)]) = x 2 - 1 := (by show ((-1) : Int) + ((1) * x 2 + 0) = x 2 - 1; omega)
    have E12 : y_ev x (8, []) = 8 := (l_e0 _ _)
    have E13 : y_ev x (0, []) = 0 := (l_e0 _ _)
    have E14 : y_ev x (0, [(3, 1)]) = x 3 := (l_e1 _ _)
    have E15 : y_ev x (0, [(5, 1)]) = x 5 := (l_e1 _ _)
    have E16 : y_ev x (0, [(6, 1)]) = x 6 := (l_e1 _ _)
    have E17 : y_ev x (0, [(24, 1)]) = x 24 := (l_e1 _ _)
    have E18 : y_ev x ((-4), [(2, 1)]) = x 2 - 4 := (by show ((-4) : Int) + ((1) * x 2 + 0) = x 2 - 4; omega)
    have E19 : y_ev x (5, []) = 5 := (l_e0 _ _)
    have E20 : y_ev x (0, [(19, 1)]) = x 19 := (l_e1 _ _)
    have E21 : y_ev x (0, [(20, 1)]) = x 20 := (l_e1 _ _)
    have E22 : y_ev x (0, [(25, 1)]) = x 25 := (l_e1 _ _)
    have E23 : y_ev x ((-3), [(2, 1)]) = x 2 - 3 := (by show ((-3) : Int) + ((1) * x 2 + 0) = x 2 - 3; omega)
    have E24 : y_ev x (6, []) = 6 := (l_e0 _ _)
    have E25 : y_ev x (0, [(21, 1)]) = x 21 := (l_e1 _ _)
    have E26 : y_ev x (0, [(22, 1)]) = x 22 := (l_e1 _ _)
    have E27 : y_ev x (0, [(26, 1)]) = x 26 := (l_e1 _ _)
    have E28 : y_ev x (59, []) = 59 := (l_e0 _ _)
    have E29 : y_ev x (0, [(7, 1)]) = x 7 := (l_e1 _ _)
    have E30 : y_ev x (0, [(8, 1)]) = x 8 := (l_e1 _ _)
    have E31 : y_ev x (0, [(9, 1)]) = x 9 := (l_e1 _ _)
    have E32 : y_ev x (0, [(10, 1)]) = x 10 := (l_e1 _ _)
    have E33 : y_ev x ((-2), [(2, 1)]) = x 2 - 2 := (by show ((-2) : Int) + ((1) * x 2 + 0) = x 2 - 2; omega)
    have E34 : y_ev x (0, [(11, 1)]) = x 11 := (l_e1 _ _)
    have T0 : 0 ≤ (y_ev x (0, [(1, 1)])) ∧ 0 ≤ (y_ev x (0, [(12, 1)])) ∧ q_66 fun a b => v 60 (36 * (y_ev x (0, [(12, 1)])) + (6 * a + b)) = a_lk (t_b v) (y_ev x (0, [(0, 1)])) (y_ev x (0, [(1, 1)])).toNat a b := h.2.2.2.1
    (try rw [E0] at T0); (try rw [E1] at T0); (try rw [E2] at T0)
    have T1 : q_run2 (t_b v) (y_ev x (0, [(0, 1)])) (y_ev x (0, [(1, 1)])) (y_ev x (0, [(14, 1)])) (y_ev x (0, [(15, 1)])) (y_ev x (0, [(16, 1)])) (y_ev x (0, [(13, 1)])) (y_ev x (0, [(4, 1)])) (y_ev x (0, [(17, 1)])) (y_ev x (0, [(18, 1)])) (y_ev x (0, [(23, 1)])) := h.2.2.2.2.1
    (try rw [E0] at T1); (try rw [E1] at T1); (try rw [E3] at T1); (try rw [E4] at T1); (try rw [E5] at T1); (try rw [E6] at T1); (try rw [E7] at T1); (try rw [E8] at T1); (try rw [E9] at T1); (try rw [E10] at T1)
    have T2 : q_run2 (t_b v) (y_ev x (0, [(0, 1)])) (y_ev x ((-1), [(2, 1)])) (y_ev x (8, [])) (y_ev x (0, [])) (y_ev x (0, [])) (y_ev x (0, [(3, 1)])) (y_ev x (0, [(4, 1)])) (y_ev x (0, [(5, 1)])) (y_ev x (0, [(6, 1)])) (y_ev x (0, [(24, 1)])) := h.2.2.2.2.2.1
    (try rw [E0] at T2); (try rw [E11] at T2); (try rw [E12] at T2); (try rw [E13] at T2); (try rw [E14] at T2); (try rw [E7] at T2); (try rw [E15] at T2); (try rw [E16] at T2); (try rw [E17] at T2)
    have T3 : q_run2 (t_b v) (y_ev x (0, [(0, 1)])) (y_ev x ((-4), [(2, 1)])) (y_ev x (5, [])) (y_ev x (0, [])) (y_ev x (0, [])) (y_ev x (0, [(3, 1)])) (y_ev x (0, [(4, 1)])) (y_ev x (0, [(19, 1)])) (y_ev x (0, [(20, 1)])) (y_ev x (0, [(25, 1)])) := h.2.2.2.2.2.2.1
    (try rw [E0] at T3); (try rw [E18] at T3); (try rw [E19] at T3); (try rw [E13] at T3); (try rw [E14] at T3); (try rw [E7] at T3); (try rw [E20] at T3); (try rw [E21] at T3); (try rw [E22] at T3)
    have T4 : q_run2 (t_b v) (y_ev x (0, [(0, 1)])) (y_ev x ((-3), [(2, 1)])) (y_ev x (6, [])) (y_ev x (0, [])) (y_ev x (0, [])) (y_ev x (0, [(3, 1)])) (y_ev x (0, [(4, 1)])) (y_ev x (0, [(21, 1)])) (y_ev x (0, [(22, 1)])) (y_ev x (0, [(26, 1)])) := h.2.2.2.2.2.2.2.1
    (try rw [E0] at T4); (try rw [E23] at T4); (try rw [E24] at T4); (try rw [E13] at T4); (try rw [E14] at T4); (try rw [E7] at T4); (try rw [E25] at T4); (try rw [E26] at T4); (try rw [E27] at T4)
    have T5 : q_tok (t_b v) (y_ev x (0, [(0, 1)])) (y_ev x ((-1), [(2, 1)])) (y_ev x (59, [])) (y_ev x (0, [(7, 1)])) (y_ev x (0, [(8, 1)])) := h.2.2.2.2.2.2.2.2.1
    (try rw [E0] at T5); (try rw [E11] at T5); (try rw [E28] at T5); (try rw [E29] at T5); (try rw [E30] at T5)
    have T6 : q_fnd (t_b v) (y_ev x (0, [(0, 1)])) (y_ev x ((-4), [(2, 1)])) (y_ev x (0, [(9, 1)])) := h.2.2.2.2.2.2.2.2.2.1
    (try rw [E0] at T6); (try rw [E18] at T6); (try rw [E31] at T6)
    have T7 : q_fnd (t_b v) (y_ev x (0, [(0, 1)])) (y_ev x ((-3), [(2, 1)])) (y_ev x (0, [(10, 1)])) := h.2.2.2.2.2.2.2.2.2.2.1
    (try rw [E0] at T7); (try rw [E23] at T7); (try rw [E32] at T7)
    have T8 : tk (t_b v) (y_ev x (0, [(0, 1)])) (y_ev x ((-2), [(2, 1)])).toNat = 3 ∧ (y_ev x (0, [(11, 1)])) = tx (t_b v) (y_ev x (0, [(0, 1)])) (y_ev x ((-2), [(2, 1)])).toNat := h.2.2.2.2.2.2.2.2.2.2.2.1
    (try rw [E0] at T8); (try rw [E33] at T8); (try rw [E34] at T8)
    have K := k_mlkB (V := v) (n := x 0) (c := x 1) (d := x 2) (H := x 3) (L := x 4) (W := x 5) (WP := x 6) (e := x 7) (v := x 8) (r := x 9) (q := x 10) (x := x 11) (s := x 12) (H2 := x 13) (st2 := x 14) (mo2 := x 15) (op2 := x 16) (W2 := x 17) (P2 := x 18) (W5 := x 19) (P5 := x 20) (W6 := x 21) (P6 := x 22) (S := x 23) (S2 := x 24) (S3 := x 25) (S4 := x 26) T0 T1 T2 T3 T4 T5 T6 T7 T8 C0 C1 C2 C3
    refine l_outH rfl (And.intro h.1 ?_)
    have O0 : y_ev x (0, [(0, 1)]) = x 0 := l_e1 _ _
    have O1 : y_ev x (0, [(2, 1)]) = x 2 := l_e1 _ _
    have O2 : y_ev x (0, [(12, 1)]) = x 12 := l_e1 _ _
    show (True) ∧ ((0 ≤ (y_ev x (0, [(2, 1)])) ∧ 0 ≤ (y_ev x (0, [(12, 1)])) ∧ q_66 fun a b => v 60 (36 * (y_ev x (0, [(12, 1)])) + (6 * a + b)) = a_lk (t_b v) (y_ev x (0, [(0, 1)])) (y_ev x (0, [(2, 1)])).toNat a b) ∧ True)
    (try rw [O0]); (try rw [O1]); (try rw [O2])
    exact K
def lm_503p : zS := ((lm_501pi_0 (lm_501pi_1 (lm_501pi_2 (lm_501pi_3 [])))), [(12, false)], [(400, [(2, (-1))]), ((-1), [(1, (-1)), (2, 1)]), (19, [(4, (-1))]), ((-1), [(10, (-1))])], [], [(0, 0, 0, [(9, 1)]), (0, 0, 0, [(10, 1)])], [(0, (false, 11, 0, []), 0, 0, 0, [(2, 1)])], (lm_502pg_0 (lm_502pg_1 [])))
def lm_503 : zLem := (lm_503p, [lm_502q0])
theorem lk_503 : l_core lm_503 := by
  first
  | skip
    intro v x h
    have K := k_mlkC (V := v) (n := x 0) (c := x 1) (d := x 2) (H := x 3) (L := x 4) (W := x 5) (WP := x 6) (e := x 7) (v := x 8) (r := x 9) (q := x 10) (x := x 11) (s := x 12) (H2 := x 13) (st2 := x 14) (mo2 := x 15) (op2 := x 16) (W2 := x 17) (P2 := x 18) (W5 := x 19) (P5 := x 20) (W6 := x 21) (P6 := x 22) (S := x 23) (S2 := x 24) (S3 := x 25) (S4 := x 26) (l_c3 (fun w0 w1 w2 : Int => 0 ≤ w1 ∧ 0 ≤ w2 ∧ q_66 fun a b => v 60 (36 * w2 + (6 * a + b)) = a_lk (t_b v) w0 w1.toNat a b) (l_e1 x 0) (l_e1 x 1) (l_e1 x 12) (h.2.2.2.1)) (l_c10 (fun w0 w1 w2 w3 w4 w5 w6 w7 w8 w9 : Int => q_run2 (t_b v) w0 w1 w2 w3 w4 w5 w6 w7 w8 w9) (l_e1 x 0) (l_e1 x 1) (l_e1 x 14) (l_e1 x 15) (l_e1 x 16) (l_e1 x 13) (l_e1 x 4) (l_e1 x 17) (l_e1 x 18) (l_e1 x 23) (h.2.2.2.2.1)) (l_c9 (fun w0 w1 w2 w3 w4 w5 w6 w7 w8 : Int => q_run2 (t_b v) w0 w1 w2 w3 w3 w4 w5 w6 w7 w8) (l_e1 x 0) (l_q2 1 x 2) (l_e0 x (8)) (l_e0 x (0)) (l_e1 x 3) (l_e1 x 4) (l_e1 x 5) (l_e1 x 6) (l_e1 x 24) (h.2.2.2.2.2.1)) (l_c9 (fun w0 w1 w2 w3 w4 w5 w6 w7 w8 : Int => q_run2 (t_b v) w0 w1 w2 w3 w3 w4 w5 w6 w7 w8) (l_e1 x 0) (l_q2 4 x 2) (l_e0 x (5)) (l_e0 x (0)) (l_e1 x 3) (l_e1 x 4) (l_e1 x 19) (l_e1 x 20) (l_e1 x 25) (h.2.2.2.2.2.2.1)) (l_c9 (fun w0 w1 w2 w3 w4 w5 w6 w7 w8 : Int => q_run2 (t_b v) w0 w1 w2 w3 w3 w4 w5 w6 w7 w8) (l_e1 x 0) (l_q2 3 x 2) (l_e0 x (6)) (l_e0 x (0)) (l_e1 x 3) (l_e1 x 4) (l_e1 x 21) (l_e1 x 22) (l_e1 x 26) (h.2.2.2.2.2.2.2.1)) (l_c5 (fun w0 w1 w2 w3 w4 : Int => q_tok (t_b v) w0 w1 w2 w3 w4) (l_e1 x 0) (l_q2 1 x 2) (l_e0 x (59)) (l_e1 x 7) (l_e1 x 8) (h.2.2.2.2.2.2.2.2.1)) (l_c3 (fun w0 w1 w2 : Int => q_fnd (t_b v) w0 w1 w2) (l_e1 x 0) (l_q2 4 x 2) (l_e1 x 9) (h.2.2.2.2.2.2.2.2.2.1)) (l_c3 (fun w0 w1 w2 : Int => q_fnd (t_b v) w0 w1 w2) (l_e1 x 0) (l_q2 3 x 2) (l_e1 x 10) (h.2.2.2.2.2.2.2.2.2.2.1)) (l_c3 (fun w0 w1 w2 : Int => tk (t_b v) w0 w1.toNat = 3 ∧ w2 = tx (t_b v) w0 w1.toNat) (l_e1 x 0) (l_q2 2 x 2) (l_e1 x 11) (h.2.2.2.2.2.2.2.2.2.2.2.1)) (l_cc (l_q1 400 x 2) (h.2.1.1)) (l_cc (l_q6 1 x 1 2) (h.2.1.2.1)) (l_cc (l_q1 19 x 4) (h.2.1.2.2.1)) (l_cc (l_q11 1 x 10) (h.2.1.2.2.2.1))
    refine l_outH rfl (And.intro h.1 ?_)
    exact l_o3 (fun w0 w1 w2 : Int => (True) ∧ ((0 ≤ w1 ∧ 0 ≤ w2 ∧ q_66 fun a b => v 60 (36 * w2 + (6 * a + b)) = a_lk (t_b v) w0 w1.toNat a b) ∧ True)) (l_e1 x 0) (l_e1 x 2) (l_e1 x 12) K
  | skip
    intro v x h
    have C0 : (0 : Int) ≤ 400 - x 2 := l_cc (a := y_ev x (400, [(2, (-1))])) (by show ((400) : Int) + ((-1) * x 2 + 0) = 400 - x 2; omega) (h.2.1.1)
    have C1 : (0 : Int) ≤ x 2 - x 1 - 1 := l_cc (a := y_ev x ((-1), [(1, (-1)), (2, 1)])) (by show ((-1) : Int) + ((-1) * x 1 + ((1) * x 2 + 0)) = x 2 - x 1 - 1; omega) (h.2.1.2.1)
    have C2 : (0 : Int) ≤ 19 - x 4 := l_cc (a := y_ev x (19, [(4, (-1))])) (by show ((19) : Int) + ((-1) * x 4 + 0) = 19 - x 4; omega) (h.2.1.2.2.1)
    have C3 : (0 : Int) ≤ -x 10 - 1 := l_cc (a := y_ev x ((-1), [(10, (-1))])) (by show ((-1) : Int) + ((-1) * x 10 + 0) = -x 10 - 1; omega) (h.2.1.2.2.2.1)
    have E0 : y_ev x (0, [(0, 1)]) = x 0 := (l_e1 _ _)
    have E1 : y_ev x (0, [(1, 1)]) = x 1 := (l_e1 _ _)
    have E2 : y_ev x (0, [(12, 1)]) = x 12 := (l_e1 _ _)
    have E3 : y_ev x (0, [(14, 1)]) = x 14 := (l_e1 _ _)
    have E4 : y_ev x (0, [(15, 1)]) = x 15 := (l_e1 _ _)
    have E5 : y_ev x (0, [(16, 1)]) = x 16 := (l_e1 _ _)
    have E6 : y_ev x (0, [(13, 1)]) = x 13 := (l_e1 _ _)
    have E7 : y_ev x (0, [(4, 1)]) = x 4 := (l_e1 _ _)
    have E8 : y_ev x (0, [(17, 1)]) = x 17 := (l_e1 _ _)
    have E9 : y_ev x (0, [(18, 1)]) = x 18 := (l_e1 _ _)
    have E10 : y_ev x (0, [(23, 1)]) = x 23 := (l_e1 _ _)
    have E11 : y_ev x ((-1), [(2, 1)]) = x 2 - 1 := (by show ((-1) : Int) + ((1) * x 2 + 0) = x 2 - 1; omega)
    have E12 : y_ev x (8, []) = 8 := (l_e0 _ _)
    have E13 : y_ev x (0, []) = 0 := (l_e0 _ _)
    have E14 : y_ev x (0, [(3, 1)]) = x 3 := (l_e1 _ _)
    have E15 : y_ev x (0, [(5, 1)]) = x 5 := (l_e1 _ _)
    have E16 : y_ev x (0, [(6, 1)]) = x 6 := (l_e1 _ _)
    have E17 : y_ev x (0, [(24, 1)]) = x 24 := (l_e1 _ _)
    have E18 : y_ev x ((-4), [(2, 1)]) = x 2 - 4 := (by show ((-4) : Int) + ((1) * x 2 + 0) = x 2 - 4; omega)
    have E19 : y_ev x (5, []) = 5 := (l_e0 _ _)
    have E20 : y_ev x (0, [(19, 1)]) = x 19 := (l_e1 _ _)
    have E21 : y_ev x (0, [(20, 1)]) = x 20 := (l_e1 _ _)
    have E22 : y_ev x (0, [(25, 1)]) = x 25 := (l_e1 _ _)
    have E23 : y_ev x ((-3), [(2, 1)]) = x 2 - 3 := (by show ((-3) : Int) + ((1) * x 2 + 0) = x 2 - 3; omega)
    have E24 : y_ev x (6, []) = 6 := (l_e0 _ _)
    have E25 : y_ev x (0, [(21, 1)]) = x 21 := (l_e1 _ _)
    have E26 : y_ev x (0, [(22, 1)]) = x 22 := (l_e1 _ _)
    have E27 : y_ev x (0, [(26, 1)]) = x 26 := (l_e1 _ _)
    have E28 : y_ev x (59, []) = 59 := (l_e0 _ _)
    have E29 : y_ev x (0, [(7, 1)]) = x 7 := (l_e1 _ _)
    have E30 : y_ev x (0, [(8, 1)]) = x 8 := (l_e1 _ _)
    have E31 : y_ev x (0, [(9, 1)]) = x 9 := (l_e1 _ _)
    have E32 : y_ev x (0, [(10, 1)]) = x 10 := (l_e1 _ _)
    have E33 : y_ev x ((-2), [(2, 1)]) = x 2 - 2 := (by show ((-2) : Int) + ((1) * x 2 + 0) = x 2 - 2; omega)
    have E34 : y_ev x (0, [(11, 1)]) = x 11 := (l_e1 _ _)
    have T0 : 0 ≤ (y_ev x (0, [(1, 1)])) ∧ 0 ≤ (y_ev x (0, [(12, 1)])) ∧ q_66 fun a b => v 60 (36 * (y_ev x (0, [(12, 1)])) + (6 * a + b)) = a_lk (t_b v) (y_ev x (0, [(0, 1)])) (y_ev x (0, [(1, 1)])).toNat a b := h.2.2.2.1
    (try rw [E0] at T0); (try rw [E1] at T0); (try rw [E2] at T0)
    have T1 : q_run2 (t_b v) (y_ev x (0, [(0, 1)])) (y_ev x (0, [(1, 1)])) (y_ev x (0, [(14, 1)])) (y_ev x (0, [(15, 1)])) (y_ev x (0, [(16, 1)])) (y_ev x (0, [(13, 1)])) (y_ev x (0, [(4, 1)])) (y_ev x (0, [(17, 1)])) (y_ev x (0, [(18, 1)])) (y_ev x (0, [(23, 1)])) := h.2.2.2.2.1
    (try rw [E0] at T1); (try rw [E1] at T1); (try rw [E3] at T1); (try rw [E4] at T1); (try rw [E5] at T1); (try rw [E6] at T1); (try rw [E7] at T1); (try rw [E8] at T1); (try rw [E9] at T1); (try rw [E10] at T1)
    have T2 : q_run2 (t_b v) (y_ev x (0, [(0, 1)])) (y_ev x ((-1), [(2, 1)])) (y_ev x (8, [])) (y_ev x (0, [])) (y_ev x (0, [])) (y_ev x (0, [(3, 1)])) (y_ev x (0, [(4, 1)])) (y_ev x (0, [(5, 1)])) (y_ev x (0, [(6, 1)])) (y_ev x (0, [(24, 1)])) := h.2.2.2.2.2.1
    (try rw [E0] at T2); (try rw [E11] at T2); (try rw [E12] at T2); (try rw [E13] at T2); (try rw [E14] at T2); (try rw [E7] at T2); (try rw [E15] at T2); (try rw [E16] at T2); (try rw [E17] at T2)
    have T3 : q_run2 (t_b v) (y_ev x (0, [(0, 1)])) (y_ev x ((-4), [(2, 1)])) (y_ev x (5, [])) (y_ev x (0, [])) (y_ev x (0, [])) (y_ev x (0, [(3, 1)])) (y_ev x (0, [(4, 1)])) (y_ev x (0, [(19, 1)])) (y_ev x (0, [(20, 1)])) (y_ev x (0, [(25, 1)])) := h.2.2.2.2.2.2.1
    (try rw [E0] at T3); (try rw [E18] at T3); (try rw [E19] at T3); (try rw [E13] at T3); (try rw [E14] at T3); (try rw [E7] at T3); (try rw [E20] at T3); (try rw [E21] at T3); (try rw [E22] at T3)
    have T4 : q_run2 (t_b v) (y_ev x (0, [(0, 1)])) (y_ev x ((-3), [(2, 1)])) (y_ev x (6, [])) (y_ev x (0, [])) (y_ev x (0, [])) (y_ev x (0, [(3, 1)])) (y_ev x (0, [(4, 1)])) (y_ev x (0, [(21, 1)])) (y_ev x (0, [(22, 1)])) (y_ev x (0, [(26, 1)])) := h.2.2.2.2.2.2.2.1
    (try rw [E0] at T4); (try rw [E23] at T4); (try rw [E24] at T4); (try rw [E13] at T4); (try rw [E14] at T4); (try rw [E7] at T4); (try rw [E25] at T4); (try rw [E26] at T4); (try rw [E27] at T4)
    have T5 : q_tok (t_b v) (y_ev x (0, [(0, 1)])) (y_ev x ((-1), [(2, 1)])) (y_ev x (59, [])) (y_ev x (0, [(7, 1)])) (y_ev x (0, [(8, 1)])) := h.2.2.2.2.2.2.2.2.1
    (try rw [E0] at T5); (try rw [E11] at T5); (try rw [E28] at T5); (try rw [E29] at T5); (try rw [E30] at T5)
    have T6 : q_fnd (t_b v) (y_ev x (0, [(0, 1)])) (y_ev x ((-4), [(2, 1)])) (y_ev x (0, [(9, 1)])) := h.2.2.2.2.2.2.2.2.2.1
    (try rw [E0] at T6); (try rw [E18] at T6); (try rw [E31] at T6)
    have T7 : q_fnd (t_b v) (y_ev x (0, [(0, 1)])) (y_ev x ((-3), [(2, 1)])) (y_ev x (0, [(10, 1)])) := h.2.2.2.2.2.2.2.2.2.2.1
    (try rw [E0] at T7); (try rw [E23] at T7); (try rw [E32] at T7)
    have T8 : tk (t_b v) (y_ev x (0, [(0, 1)])) (y_ev x ((-2), [(2, 1)])).toNat = 3 ∧ (y_ev x (0, [(11, 1)])) = tx (t_b v) (y_ev x (0, [(0, 1)])) (y_ev x ((-2), [(2, 1)])).toNat := h.2.2.2.2.2.2.2.2.2.2.2.1
    (try rw [E0] at T8); (try rw [E33] at T8); (try rw [E34] at T8)
    have K := k_mlkC (V := v) (n := x 0) (c := x 1) (d := x 2) (H := x 3) (L := x 4) (W := x 5) (WP := x 6) (e := x 7) (v := x 8) (r := x 9) (q := x 10) (x := x 11) (s := x 12) (H2 := x 13) (st2 := x 14) (mo2 := x 15) (op2 := x 16) (W2 := x 17) (P2 := x 18) (W5 := x 19) (P5 := x 20) (W6 := x 21) (P6 := x 22) (S := x 23) (S2 := x 24) (S3 := x 25) (S4 := x 26) T0 T1 T2 T3 T4 T5 T6 T7 T8 C0 C1 C2 C3
    refine l_outH rfl (And.intro h.1 ?_)
    have O0 : y_ev x (0, [(0, 1)]) = x 0 := l_e1 _ _
    have O1 : y_ev x (0, [(2, 1)]) = x 2 := l_e1 _ _
    have O2 : y_ev x (0, [(12, 1)]) = x 12 := l_e1 _ _
    show (True) ∧ ((0 ≤ (y_ev x (0, [(2, 1)])) ∧ 0 ≤ (y_ev x (0, [(12, 1)])) ∧ q_66 fun a b => v 60 (36 * (y_ev x (0, [(12, 1)])) + (6 * a + b)) = a_lk (t_b v) (y_ev x (0, [(0, 1)])) (y_ev x (0, [(2, 1)])).toNat a b) ∧ True)
    (try rw [O0]); (try rw [O1]); (try rw [O2])
    exact K
def lm_504pi_0 (t : List (Int × Int)) : List (Int × Int) := ((-2147483648), 2147483647) :: ((-2147483648), 2147483647) :: ((-2147483648), 2147483647) :: ((-2147483648), 2147483647) :: ((-2147483648), 2147483647) :: ((-2147483648), 2147483647) :: ((-2147483648), 2147483647) :: ((-2147483648), 2147483647) :: t
def lm_504pi_1 (t : List (Int × Int)) : List (Int × Int) := ((-2147483648), 2147483647) :: ((-2147483648), 2147483647) :: ((-2147483648), 2147483647) :: ((-2147483648), 2147483647) :: ((-2147483648), 2147483647) :: ((-2147483648), 2147483647) :: ((-2147483648), 2147483647) :: ((-2147483648), 2147483647) :: t
def lm_504pi_2 (t : List (Int × Int)) : List (Int × Int) := ((-2147483648), 2147483647) :: ((-2147483648), 2147483647) :: ((-2147483648), 2147483647) :: t
def lm_504p : zS := ((lm_504pi_0 (lm_504pi_1 (lm_504pi_2 []))), [(12, false)], [(0, [(1, (-1)), (2, 1)])], [], [], [(0, (false, 11, 0, []), 0, 0, 0, [(2, 1)])], [(78, [(0, [(0, 1)]), (0, [(1, 1)]), (0, [(16, 1)])]), (40, [(0, [(0, 1)]), (0, [(1, 1)]), (0, [(11, 1)]), (0, [(12, 1)]), (0, [(13, 1)]), (0, [(10, 1)]), (0, [(7, 1)]), (0, [(14, 1)]), (0, [(15, 1)]), (0, [(17, 1)])]), (40, [(0, [(0, 1)]), (0, [(2, 1)]), (0, [(3, 1)]), (0, [(4, 1)]), (0, [(5, 1)]), (0, [(6, 1)]), (0, [(7, 1)]), (0, [(8, 1)]), (0, [(9, 1)]), (0, [(18, 1)])])])
def lm_504 : zLem := (lm_504p, [([((-2147483648), 2147483647), ((-2147483648), 2147483647), ((-2147483648), 2147483647), ((-2147483648), 2147483647), ((-2147483648), 2147483647), ((-2147483648), 2147483647), ((-2147483648), 2147483647), ((-2147483648), 2147483647), ((-2147483648), 2147483647), ((-2147483648), 2147483647), ((-2147483648), 2147483647), ((-2147483648), 2147483647), ((-2147483648), 2147483647), ((-2147483648), 2147483647), ((-2147483648), 2147483647), ((-2147483648), 2147483647), ((-2147483648), 2147483647), ((-2147483648), 2147483647), ((-2147483648), 2147483647)], [(12, false)], [], [], [], [], [(78, [(0, [(0, 1)]), (0, [(2, 1)]), (0, [(16, 1)])])])])
theorem lk_504 : l_core lm_504 := by
  first
  | skip
    intro v x h
    have K := k_mlkM (V := v) (n := x 0) (c := x 1) (d := x 2) (st := x 3) (mo := x 4) (op := x 5) (H := x 6) (L := x 7) (W := x 8) (WP := x 9) (H2 := x 10) (st2 := x 11) (mo2 := x 12) (op2 := x 13) (W2 := x 14) (P2 := x 15) (s := x 16) (S := x 17) (S2 := x 18) (l_c3 (fun w0 w1 w2 : Int => 0 ≤ w1 ∧ 0 ≤ w2 ∧ q_66 fun a b => v 60 (36 * w2 + (6 * a + b)) = a_lk (t_b v) w0 w1.toNat a b) (l_e1 x 0) (l_e1 x 1) (l_e1 x 16) (h.2.2.2.1)) (l_c10 (fun w0 w1 w2 w3 w4 w5 w6 w7 w8 w9 : Int => q_run2 (t_b v) w0 w1 w2 w3 w4 w5 w6 w7 w8 w9) (l_e1 x 0) (l_e1 x 1) (l_e1 x 11) (l_e1 x 12) (l_e1 x 13) (l_e1 x 10) (l_e1 x 7) (l_e1 x 14) (l_e1 x 15) (l_e1 x 17) (h.2.2.2.2.1)) (l_c10 (fun w0 w1 w2 w3 w4 w5 w6 w7 w8 w9 : Int => q_run2 (t_b v) w0 w1 w2 w3 w4 w5 w6 w7 w8 w9) (l_e1 x 0) (l_e1 x 2) (l_e1 x 3) (l_e1 x 4) (l_e1 x 5) (l_e1 x 6) (l_e1 x 7) (l_e1 x 8) (l_e1 x 9) (l_e1 x 18) (h.2.2.2.2.2.1)) (l_cc (l_q4 x 1 2) (h.2.1.1))
    refine l_outH rfl (And.intro h.1 ?_)
    exact l_o3 (fun w0 w1 w2 : Int => (True) ∧ ((0 ≤ w1 ∧ 0 ≤ w2 ∧ q_66 fun a b => v 60 (36 * w2 + (6 * a + b)) = a_lk (t_b v) w0 w1.toNat a b) ∧ True)) (l_e1 x 0) (l_e1 x 2) (l_e1 x 16) K
  | skip
    intro v x h
    have C0 : (0 : Int) ≤ x 2 - x 1 := l_cc (a := y_ev x (0, [(1, (-1)), (2, 1)])) (by show ((0) : Int) + ((-1) * x 1 + ((1) * x 2 + 0)) = x 2 - x 1; omega) (h.2.1.1)
    have E0 : y_ev x (0, [(0, 1)]) = x 0 := (l_e1 _ _)
    have E1 : y_ev x (0, [(1, 1)]) = x 1 := (l_e1 _ _)
    have E2 : y_ev x (0, [(16, 1)]) = x 16 := (l_e1 _ _)
    have E3 : y_ev x (0, [(11, 1)]) = x 11 := (l_e1 _ _)
    have E4 : y_ev x (0, [(12, 1)]) = x 12 := (l_e1 _ _)
    have E5 : y_ev x (0, [(13, 1)]) = x 13 := (l_e1 _ _)
    have E6 : y_ev x (0, [(10, 1)]) = x 10 := (l_e1 _ _)
    have E7 : y_ev x (0, [(7, 1)]) = x 7 := (l_e1 _ _)
    have E8 : y_ev x (0, [(14, 1)]) = x 14 := (l_e1 _ _)
    have E9 : y_ev x (0, [(15, 1)]) = x 15 := (l_e1 _ _)
    have E10 : y_ev x (0, [(17, 1)]) = x 17 := (l_e1 _ _)
    have E11 : y_ev x (0, [(2, 1)]) = x 2 := (l_e1 _ _)
    have E12 : y_ev x (0, [(3, 1)]) = x 3 := (l_e1 _ _)
    have E13 : y_ev x (0, [(4, 1)]) = x 4 := (l_e1 _ _)
    have E14 : y_ev x (0, [(5, 1)]) = x 5 := (l_e1 _ _)
    have E15 : y_ev x (0, [(6, 1)]) = x 6 := (l_e1 _ _)
    have E16 : y_ev x (0, [(8, 1)]) = x 8 := (l_e1 _ _)
    have E17 : y_ev x (0, [(9, 1)]) = x 9 := (l_e1 _ _)
    have E18 : y_ev x (0, [(18, 1)]) = x 18 := (l_e1 _ _)
    have T0 : 0 ≤ (y_ev x (0, [(1, 1)])) ∧ 0 ≤ (y_ev x (0, [(16, 1)])) ∧ q_66 fun a b => v 60 (36 * (y_ev x (0, [(16, 1)])) + (6 * a + b)) = a_lk (t_b v) (y_ev x (0, [(0, 1)])) (y_ev x (0, [(1, 1)])).toNat a b := h.2.2.2.1
    (try rw [E0] at T0); (try rw [E1] at T0); (try rw [E2] at T0)
    have T1 : q_run2 (t_b v) (y_ev x (0, [(0, 1)])) (y_ev x (0, [(1, 1)])) (y_ev x (0, [(11, 1)])) (y_ev x (0, [(12, 1)])) (y_ev x (0, [(13, 1)])) (y_ev x (0, [(10, 1)])) (y_ev x (0, [(7, 1)])) (y_ev x (0, [(14, 1)])) (y_ev x (0, [(15, 1)])) (y_ev x (0, [(17, 1)])) := h.2.2.2.2.1
    (try rw [E0] at T1); (try rw [E1] at T1); (try rw [E3] at T1); (try rw [E4] at T1); (try rw [E5] at T1); (try rw [E6] at T1); (try rw [E7] at T1); (try rw [E8] at T1); (try rw [E9] at T1); (try rw [E10] at T1)
    have T2 : q_run2 (t_b v) (y_ev x (0, [(0, 1)])) (y_ev x (0, [(2, 1)])) (y_ev x (0, [(3, 1)])) (y_ev x (0, [(4, 1)])) (y_ev x (0, [(5, 1)])) (y_ev x (0, [(6, 1)])) (y_ev x (0, [(7, 1)])) (y_ev x (0, [(8, 1)])) (y_ev x (0, [(9, 1)])) (y_ev x (0, [(18, 1)])) := h.2.2.2.2.2.1
    (try rw [E0] at T2); (try rw [E11] at T2); (try rw [E12] at T2); (try rw [E13] at T2); (try rw [E14] at T2); (try rw [E15] at T2); (try rw [E7] at T2); (try rw [E16] at T2); (try rw [E17] at T2); (try rw [E18] at T2)
    have K := k_mlkM (V := v) (n := x 0) (c := x 1) (d := x 2) (st := x 3) (mo := x 4) (op := x 5) (H := x 6) (L := x 7) (W := x 8) (WP := x 9) (H2 := x 10) (st2 := x 11) (mo2 := x 12) (op2 := x 13) (W2 := x 14) (P2 := x 15) (s := x 16) (S := x 17) (S2 := x 18) T0 T1 T2 C0
    refine l_outH rfl (And.intro h.1 ?_)
    have O0 : y_ev x (0, [(0, 1)]) = x 0 := l_e1 _ _
    have O1 : y_ev x (0, [(2, 1)]) = x 2 := l_e1 _ _
    have O2 : y_ev x (0, [(16, 1)]) = x 16 := l_e1 _ _
    show (True) ∧ ((0 ≤ (y_ev x (0, [(2, 1)])) ∧ 0 ≤ (y_ev x (0, [(16, 1)])) ∧ q_66 fun a b => v 60 (36 * (y_ev x (0, [(16, 1)])) + (6 * a + b)) = a_lk (t_b v) (y_ev x (0, [(0, 1)])) (y_ev x (0, [(2, 1)])).toNat a b) ∧ True)
    (try rw [O0]); (try rw [O1]); (try rw [O2])
    exact K
def lm_507 : zLem := (([((-2147483648), 2147483647), ((-2147483648), 2147483647), ((-2147483648), 2147483647), ((-2147483648), 2147483647), ((-2147483648), 2147483647), ((-2147483648), 2147483647), ((-2147483648), 2147483647), ((-2147483648), 2147483647), ((-2147483648), 2147483647)], [(12, false)], [], [], [], [(0, (false, 11, 0, []), 0, 0, 0, [(1, 1)])], [(78, [(0, [(0, 1)]), (0, [(1, 1)]), (0, [(2, 1)])]), (40, [(0, [(0, 1)]), (0, [(1, 1)]), (0, []), (0, []), (0, []), (0, [(4, 1)]), (0, [(5, 1)]), (0, [(6, 1)]), (0, [(7, 1)]), (0, [(8, 1)])]), (59, [(0, [(0, 1)]), (0, [(1, 1)]), (0, []), (0, [(3, 1)])])]), [([((-2147483648), 2147483647), ((-2147483648), 2147483647), ((-2147483648), 2147483647), ((-2147483648), 2147483647), ((-2147483648), 2147483647), ((-2147483648), 2147483647), ((-2147483648), 2147483647), ((-2147483648), 2147483647), ((-2147483648), 2147483647)], [(12, false)], [], [], [], [], [(81, [(0, [(0, 1)]), (0, [(2, 1)])])])])
theorem lk_507 : l_core lm_507 := by
  first
  | skip
    intro v x h
    have K := k_mfk (V := v) (n := x 0) (c := x 1) (s := x 2) (z := x 3) (H := x 4) (L := x 5) (W := x 6) (WP := x 7) (S := x 8) (l_c3 (fun w0 w1 w2 : Int => 0 ≤ w1 ∧ 0 ≤ w2 ∧ q_66 fun a b => v 60 (36 * w2 + (6 * a + b)) = a_lk (t_b v) w0 w1.toNat a b) (l_e1 x 0) (l_e1 x 1) (l_e1 x 2) (h.2.2.2.1)) (l_c8 (fun w0 w1 w2 w3 w4 w5 w6 w7 : Int => q_run2 (t_b v) w0 w1 w2 w2 w2 w3 w4 w5 w6 w7) (l_e1 x 0) (l_e1 x 1) (l_e0 x (0)) (l_e1 x 4) (l_e1 x 5) (l_e1 x 6) (l_e1 x 7) (l_e1 x 8) (h.2.2.2.2.1)) (l_c4 (fun w0 w1 w2 w3 : Int => 0 ≤ w1 ∧ 0 ≤ w2 ∧ w2 ≤ 41 ∧ t_km w2 = tk (t_b v) w0 w1.toNat ∧ w3 = t_s (t_b v) w0 w1.toNat) (l_e1 x 0) (l_e1 x 1) (l_e0 x (0)) (l_e1 x 3) (h.2.2.2.2.2.1))
    refine l_outH rfl (And.intro h.1 ?_)
    exact l_o2 (fun w0 w1 : Int => (True) ∧ ((0 ≤ w1 ∧ ∃ c : Nat, q_end (t_b v) w0 c ∧ q_66 fun a b => v 60 (36 * w1 + (6 * a + b)) = a_lk (t_b v) w0 c a b) ∧ True)) (l_e1 x 0) (l_e1 x 2) K
  | skip
    intro v x h
    have E0 : y_ev x (0, [(0, 1)]) = x 0 := (l_e1 _ _)
    have E1 : y_ev x (0, [(1, 1)]) = x 1 := (l_e1 _ _)
    have E2 : y_ev x (0, [(2, 1)]) = x 2 := (l_e1 _ _)
    have E3 : y_ev x (0, []) = 0 := (l_e0 _ _)
    have E4 : y_ev x (0, [(4, 1)]) = x 4 := (l_e1 _ _)
    have E5 : y_ev x (0, [(5, 1)]) = x 5 := (l_e1 _ _)
    have E6 : y_ev x (0, [(6, 1)]) = x 6 := (l_e1 _ _)
    have E7 : y_ev x (0, [(7, 1)]) = x 7 := (l_e1 _ _)
    have E8 : y_ev x (0, [(8, 1)]) = x 8 := (l_e1 _ _)
    have E9 : y_ev x (0, [(3, 1)]) = x 3 := (l_e1 _ _)
    have T0 : 0 ≤ (y_ev x (0, [(1, 1)])) ∧ 0 ≤ (y_ev x (0, [(2, 1)])) ∧ q_66 fun a b => v 60 (36 * (y_ev x (0, [(2, 1)])) + (6 * a + b)) = a_lk (t_b v) (y_ev x (0, [(0, 1)])) (y_ev x (0, [(1, 1)])).toNat a b := h.2.2.2.1
    (try rw [E0] at T0); (try rw [E1] at T0); (try rw [E2] at T0)
    have T1 : q_run2 (t_b v) (y_ev x (0, [(0, 1)])) (y_ev x (0, [(1, 1)])) (y_ev x (0, [])) (y_ev x (0, [])) (y_ev x (0, [])) (y_ev x (0, [(4, 1)])) (y_ev x (0, [(5, 1)])) (y_ev x (0, [(6, 1)])) (y_ev x (0, [(7, 1)])) (y_ev x (0, [(8, 1)])) := h.2.2.2.2.1
    (try rw [E0] at T1); (try rw [E1] at T1); (try rw [E3] at T1); (try rw [E4] at T1); (try rw [E5] at T1); (try rw [E6] at T1); (try rw [E7] at T1); (try rw [E8] at T1)
    have T2 : 0 ≤ (y_ev x (0, [(1, 1)])) ∧ 0 ≤ (y_ev x (0, [])) ∧ (y_ev x (0, [])) ≤ 41 ∧ t_km (y_ev x (0, [])) = tk (t_b v) (y_ev x (0, [(0, 1)])) (y_ev x (0, [(1, 1)])).toNat ∧ (y_ev x (0, [(3, 1)])) = t_s (t_b v) (y_ev x (0, [(0, 1)])) (y_ev x (0, [(1, 1)])).toNat := h.2.2.2.2.2.1
    (try rw [E0] at T2); (try rw [E1] at T2); (try rw [E3] at T2); (try rw [E9] at T2)
    have K := k_mfk (V := v) (n := x 0) (c := x 1) (s := x 2) (z := x 3) (H := x 4) (L := x 5) (W := x 6) (WP := x 7) (S := x 8) T0 T1 T2
    refine l_outH rfl (And.intro h.1 ?_)
    have O0 : y_ev x (0, [(0, 1)]) = x 0 := l_e1 _ _
    have O1 : y_ev x (0, [(2, 1)]) = x 2 := l_e1 _ _
    show (True) ∧ ((0 ≤ (y_ev x (0, [(2, 1)])) ∧ ∃ c : Nat, q_end (t_b v) (y_ev x (0, [(0, 1)])) c ∧ q_66 fun a b => v 60 (36 * (y_ev x (0, [(2, 1)])) + (6 * a + b)) = a_lk (t_b v) (y_ev x (0, [(0, 1)])) c a b) ∧ True)
    (try rw [O0]); (try rw [O1])
    exact K
def lm_508 : zLem := (([((-2147483648), 2147483647), ((-2147483648), 2147483647), ((-2147483648), 2147483647), ((-2147483648), 2147483647), ((-2147483648), 2147483647), ((-2147483648), 2147483647), ((-2147483648), 2147483647), ((-2147483648), 2147483647)], [(12, false)], [], [], [], [(0, (false, 11, 0, []), 0, 0, 0, [(1, 1)])], [(40, [(0, [(0, 1)]), (0, [(1, 1)]), (0, []), (0, []), (0, []), (0, [(2, 1)]), (0, [(3, 1)]), (0, [(4, 1)]), (0, [(5, 1)]), (0, [(7, 1)])]), (59, [(0, [(0, 1)]), (0, [(1, 1)]), (0, []), (0, [(6, 1)])])]), [([((-2147483648), 2147483647), ((-2147483648), 2147483647), ((-2147483648), 2147483647), ((-2147483648), 2147483647), ((-2147483648), 2147483647), ((-2147483648), 2147483647), ((-2147483648), 2147483647), ((-2147483648), 2147483647)], [(12, false)], [], [], [], [], [(76, [(0, [(0, 1)]), (0, [(2, 1)])])])])
theorem lk_508 : l_core lm_508 := by
  first
  | skip
    intro v x h
    have K := k_mfih (V := v) (n := x 0) (c := x 1) (H := x 2) (L := x 3) (W := x 4) (WP := x 5) (z := x 6) (S := x 7) (l_c8 (fun w0 w1 w2 w3 w4 w5 w6 w7 : Int => q_run2 (t_b v) w0 w1 w2 w2 w2 w3 w4 w5 w6 w7) (l_e1 x 0) (l_e1 x 1) (l_e0 x (0)) (l_e1 x 2) (l_e1 x 3) (l_e1 x 4) (l_e1 x 5) (l_e1 x 7) (h.2.2.2.1)) (l_c4 (fun w0 w1 w2 w3 : Int => 0 ≤ w1 ∧ 0 ≤ w2 ∧ w2 ≤ 41 ∧ t_km w2 = tk (t_b v) w0 w1.toNat ∧ w3 = t_s (t_b v) w0 w1.toNat) (l_e1 x 0) (l_e1 x 1) (l_e0 x (0)) (l_e1 x 6) (h.2.2.2.2.1))
    refine l_outH rfl (And.intro h.1 ?_)
    exact l_o2 (fun w0 w1 : Int => (True) ∧ (q_fih (t_b v) w0 w1 ∧ True)) (l_e1 x 0) (l_e1 x 2) K
  | skip
    intro v x h
    have E0 : y_ev x (0, [(0, 1)]) = x 0 := (l_e1 _ _)
    have E1 : y_ev x (0, [(1, 1)]) = x 1 := (l_e1 _ _)
    have E2 : y_ev x (0, []) = 0 := (l_e0 _ _)
    have E3 : y_ev x (0, [(2, 1)]) = x 2 := (l_e1 _ _)
    have E4 : y_ev x (0, [(3, 1)]) = x 3 := (l_e1 _ _)
    have E5 : y_ev x (0, [(4, 1)]) = x 4 := (l_e1 _ _)
    have E6 : y_ev x (0, [(5, 1)]) = x 5 := (l_e1 _ _)
    have E7 : y_ev x (0, [(7, 1)]) = x 7 := (l_e1 _ _)
    have E8 : y_ev x (0, [(6, 1)]) = x 6 := (l_e1 _ _)
    have T0 : q_run2 (t_b v) (y_ev x (0, [(0, 1)])) (y_ev x (0, [(1, 1)])) (y_ev x (0, [])) (y_ev x (0, [])) (y_ev x (0, [])) (y_ev x (0, [(2, 1)])) (y_ev x (0, [(3, 1)])) (y_ev x (0, [(4, 1)])) (y_ev x (0, [(5, 1)])) (y_ev x (0, [(7, 1)])) := h.2.2.2.1
    (try rw [E0] at T0); (try rw [E1] at T0); (try rw [E2] at T0); (try rw [E3] at T0); (try rw [E4] at T0); (try rw [E5] at T0); (try rw [E6] at T0); (try rw [E7] at T0)
    have T1 : 0 ≤ (y_ev x (0, [(1, 1)])) ∧ 0 ≤ (y_ev x (0, [])) ∧ (y_ev x (0, [])) ≤ 41 ∧ t_km (y_ev x (0, [])) = tk (t_b v) (y_ev x (0, [(0, 1)])) (y_ev x (0, [(1, 1)])).toNat ∧ (y_ev x (0, [(6, 1)])) = t_s (t_b v) (y_ev x (0, [(0, 1)])) (y_ev x (0, [(1, 1)])).toNat := h.2.2.2.2.1
    (try rw [E0] at T1); (try rw [E1] at T1); (try rw [E2] at T1); (try rw [E8] at T1)
    have K := k_mfih (V := v) (n := x 0) (c := x 1) (H := x 2) (L := x 3) (W := x 4) (WP := x 5) (z := x 6) (S := x 7) T0 T1
    refine l_outH rfl (And.intro h.1 ?_)
    have O0 : y_ev x (0, [(0, 1)]) = x 0 := l_e1 _ _
    have O1 : y_ev x (0, [(2, 1)]) = x 2 := l_e1 _ _
    show (True) ∧ (q_fih (t_b v) (y_ev x (0, [(0, 1)])) (y_ev x (0, [(2, 1)])) ∧ True)
    (try rw [O0]); (try rw [O1])
    exact K
def lm_509 : zLem := (([((-2147483648), 2147483647), ((-2147483648), 2147483647)], [(12, false), (56, false)], [(0, [(0, 1)]), (1, [(0, (-1))])], [], [], [(0, (false, 19, 0, []), 0, 0, 0, [(0, 1)]), (1, (true, 0, 0, [(0, 1)]), 0, 0, 0, [(1, 1)])], []), [([((-2147483648), 2147483647), ((-2147483648), 2147483647)], [(12, false), (56, false)], [], [], [], [], [(85, [(0, [(0, 1)]), (0, [(1, 1)]), (1, [(0, (-1))])])])])
theorem lk_509 : l_core lm_509 := by
  first
  | skip
    intro v x h
    have G0 := h.2.2.1
    have G1 := G0.2
    have K := k_houS (V := v) (s := x 0) (H := x 1) (l_cc (l_e1 x 0) (h.2.1.1)) (l_cc (l_q1 1 x 0) (h.2.1.2.1)) (l_ff (f := v 56) (L := j_len 56) (l_e1 x 0) (l_e1 x 1) (G1.1.1))
    refine l_outH rfl (And.intro h.1 ?_)
    exact l_o3 (fun w0 w1 w2 : Int => (True) ∧ ((0 ≤ w0 ∧ w0 ≠ w2 ∧ v 56 w0 = w1) ∧ True)) (l_e1 x 0) (l_e1 x 1) (l_q1 1 x 0) K
  | skip
    intro v x h
    have G0 := h.2.2.1
    have G1 := G0.2
    have C0 : (0 : Int) ≤ x 0 := l_cc (a := y_ev x (0, [(0, 1)])) (l_e1 _ _) (h.2.1.1)
    have C1 : (0 : Int) ≤ 1 - x 0 := l_cc (a := y_ev x (1, [(0, (-1))])) (by show ((1) : Int) + ((-1) * x 0 + 0) = 1 - x 0; omega) (h.2.1.2.1)
    have F0 : (0 : Int) ≤ x 0 ∧ (x 0 : Int) < j_len 56 ∧ v 56 (x 0) = x 1 := l_ff (f := v 56) (L := j_len 56) (a := y_ev x (0, [(0, 1)])) (b := y_ev x (0, [(1, 1)])) (l_e1 _ _) (l_e1 _ _) (G1.1.1)
    have K := k_houS (V := v) (s := x 0) (H := x 1) C0 C1 F0
    refine l_outH rfl (And.intro h.1 ?_)
    have O0 : y_ev x (0, [(0, 1)]) = x 0 := l_e1 _ _
    have O1 : y_ev x (0, [(1, 1)]) = x 1 := l_e1 _ _
    have O2 : y_ev x (1, [(0, (-1))]) = 1 - x 0 := by show ((1) : Int) + ((-1) * x 0 + 0) = _; omega
    show (True) ∧ ((0 ≤ (y_ev x (0, [(0, 1)])) ∧ (y_ev x (0, [(0, 1)])) ≠ (y_ev x (1, [(0, (-1))])) ∧ v 56 (y_ev x (0, [(0, 1)])) = (y_ev x (0, [(1, 1)]))) ∧ True)
    (try rw [O0]); (try rw [O1]); (try rw [O2])
    exact K
def lm_511 : zLem := (([((-2147483648), 2147483647), ((-2147483648), 2147483647), ((-2147483648), 2147483647), ((-2147483648), 2147483647), ((-2147483648), 2147483647)], [(12, false), (2, false)], [], [], [], [(0, (false, 18, 0, []), 0, 0, 0, [(3, 1)]), (1, (false, 5, 0, []), 0, 0, 0, [(1, 1)])], [(85, [(0, [(3, 1)]), (0, [(2, 1)]), (0, [(4, 1)])]), (76, [(0, [(0, 1)]), (0, [(2, 1)])]), (76, [(0, [(0, 1)]), (0, [(1, 1)])])]), [([((-2147483648), 2147483647), ((-2147483648), 2147483647), ((-2147483648), 2147483647), ((-2147483648), 2147483647), ((-2147483648), 2147483647)], [(12, false), (2, false)], [(0, [(1, 1), (2, (-1))]), (0, [(1, (-1)), (2, 1)])], [], [], [], [])])
theorem lk_511 : l_core lm_511 := by
  first
  | skip
    intro v x h
    have K := k_fihE2 (V := v) (n := x 0) (H := x 1) (J := x 2) (l := x 3) (s := x 4) (l_c3 (fun w0 w1 w2 : Int => 0 ≤ w0 ∧ w0 ≠ w2 ∧ v 56 w0 = w1) (l_e1 x 3) (l_e1 x 2) (l_e1 x 4) (h.2.2.2.1)) (l_c2 (fun w0 w1 : Int => q_fih (t_b v) w0 w1) (l_e1 x 0) (l_e1 x 2) (h.2.2.2.2.1)) (l_c2 (fun w0 w1 : Int => q_fih (t_b v) w0 w1) (l_e1 x 0) (l_e1 x 1) (h.2.2.2.2.2.1))
    refine l_outH rfl (And.intro h.1 ?_)
    exact l_o2 (fun w0 w1 : Int => (0 ≤ w0 ∧ 0 ≤ w1 ∧ True) ∧ (True)) (l_q5 x 1 2) (l_q4 x 1 2) K
  | skip
    intro v x h
    have E0 : y_ev x (0, [(3, 1)]) = x 3 := (l_e1 _ _)
    have E1 : y_ev x (0, [(2, 1)]) = x 2 := (l_e1 _ _)
    have E2 : y_ev x (0, [(4, 1)]) = x 4 := (l_e1 _ _)
    have E3 : y_ev x (0, [(0, 1)]) = x 0 := (l_e1 _ _)
    have E4 : y_ev x (0, [(1, 1)]) = x 1 := (l_e1 _ _)
    have T0 : 0 ≤ (y_ev x (0, [(3, 1)])) ∧ (y_ev x (0, [(3, 1)])) ≠ (y_ev x (0, [(4, 1)])) ∧ v 56 (y_ev x (0, [(3, 1)])) = (y_ev x (0, [(2, 1)])) := h.2.2.2.1
    (try rw [E0] at T0); (try rw [E1] at T0); (try rw [E2] at T0)
    have T1 : q_fih (t_b v) (y_ev x (0, [(0, 1)])) (y_ev x (0, [(2, 1)])) := h.2.2.2.2.1
    (try rw [E3] at T1); (try rw [E1] at T1)
    have T2 : q_fih (t_b v) (y_ev x (0, [(0, 1)])) (y_ev x (0, [(1, 1)])) := h.2.2.2.2.2.1
    (try rw [E3] at T2); (try rw [E4] at T2)
    have K := k_fihE2 (V := v) (n := x 0) (H := x 1) (J := x 2) (l := x 3) (s := x 4) T0 T1 T2
    refine l_outH rfl (And.intro h.1 ?_)
    have O0 : y_ev x (0, [(1, 1), (2, (-1))]) = x 1 - x 2 := by show ((0) : Int) + ((1) * x 1 + ((-1) * x 2 + 0)) = _; omega
    have O1 : y_ev x (0, [(1, (-1)), (2, 1)]) = x 2 - x 1 := by show ((0) : Int) + ((-1) * x 1 + ((1) * x 2 + 0)) = _; omega
    show (0 ≤ y_ev x (0, [(1, 1), (2, (-1))]) ∧ 0 ≤ y_ev x (0, [(1, (-1)), (2, 1)]) ∧ True) ∧ (True)
    (try rw [O0]); (try rw [O1])
    exact K
def lm_512 : zLem := (([((-2147483648), 2147483647), ((-2147483648), 2147483647)], [], [(0, [(1, 1)]), (1, [(1, (-1))])], [], [], [], [(75, [(0, [(0, 1)])]), (81, [(0, [(0, 1)]), (0, [(1, 1)])])]), [([((-2147483648), 2147483647), ((-2147483648), 2147483647)], [], [], [], [], [], [(82, [(0, [(1, 1)]), (1, [(1, (-1))]), (1, [])])])])
theorem lk_512 : l_core lm_512 := by
  first
  | skip
    intro v x h
    have K := k_tlk0 (V := v) (n := x 0) (s := x 1) (l_c1 (fun w0 : Int => ∃ c : Nat, q_end (t_b v) w0 c ∧ q_66 fun a b => v 18 (6 * a + b) = a_lk (t_b v) w0 c a b) (l_e1 x 0) (h.2.2.2.1)) (l_c2 (fun w0 w1 : Int => 0 ≤ w1 ∧ ∃ c : Nat, q_end (t_b v) w0 c ∧ q_66 fun a b => v 60 (36 * w1 + (6 * a + b)) = a_lk (t_b v) w0 c a b) (l_e1 x 0) (l_e1 x 1) (h.2.2.2.2.1)) (l_cc (l_e1 x 1) (h.2.1.1)) (l_cc (l_q1 1 x 1) (h.2.1.2.1))
    refine l_outH rfl (And.intro h.1 ?_)
    exact l_o3 (fun w0 w1 w2 : Int => (True) ∧ ((w2 = 1 → 0 ≤ w0 ∧ 0 ≤ w1 ∧ w0 + w1 = 1 ∧ q_66 fun a b => v 18 (6 * a + b) = v 60 (36 * w0 + (6 * a + b))) ∧ True)) (l_e1 x 1) (l_q1 1 x 1) (l_e0 x (1)) K
  | skip
    intro v x h
    have C0 : (0 : Int) ≤ x 1 := l_cc (a := y_ev x (0, [(1, 1)])) (l_e1 _ _) (h.2.1.1)
    have C1 : (0 : Int) ≤ 1 - x 1 := l_cc (a := y_ev x (1, [(1, (-1))])) (by show ((1) : Int) + ((-1) * x 1 + 0) = 1 - x 1; omega) (h.2.1.2.1)
    have E0 : y_ev x (0, [(0, 1)]) = x 0 := (l_e1 _ _)
    have E1 : y_ev x (0, [(1, 1)]) = x 1 := (l_e1 _ _)
    have T0 : ∃ c : Nat, q_end (t_b v) (y_ev x (0, [(0, 1)])) c ∧ q_66 fun a b => v 18 (6 * a + b) = a_lk (t_b v) (y_ev x (0, [(0, 1)])) c a b := h.2.2.2.1
    (try rw [E0] at T0)
    have T1 : 0 ≤ (y_ev x (0, [(1, 1)])) ∧ ∃ c : Nat, q_end (t_b v) (y_ev x (0, [(0, 1)])) c ∧ q_66 fun a b => v 60 (36 * (y_ev x (0, [(1, 1)])) + (6 * a + b)) = a_lk (t_b v) (y_ev x (0, [(0, 1)])) c a b := h.2.2.2.2.1
    (try rw [E0] at T1); (try rw [E1] at T1)
    have K := k_tlk0 (V := v) (n := x 0) (s := x 1) T0 T1 C0 C1
    refine l_outH rfl (And.intro h.1 ?_)
    have O0 : y_ev x (0, [(1, 1)]) = x 1 := l_e1 _ _
    have O1 : y_ev x (1, [(1, (-1))]) = 1 - x 1 := by show ((1) : Int) + ((-1) * x 1 + 0) = _; omega
    have O2 : y_ev x (1, []) = 1 := l_e0 _ _
    show (True) ∧ (((y_ev x (1, [])) = 1 → 0 ≤ (y_ev x (0, [(1, 1)])) ∧ 0 ≤ (y_ev x (1, [(1, (-1))])) ∧ (y_ev x (0, [(1, 1)])) + (y_ev x (1, [(1, (-1))])) = 1 ∧ q_66 fun a b => v 18 (6 * a + b) = v 60 (36 * (y_ev x (0, [(1, 1)])) + (6 * a + b))) ∧ True)
    (try rw [O0]); (try rw [O1]); (try rw [O2])
    exact K
def lm_513 : zLem := (([((-2147483648), 2147483647), ((-2147483648), 2147483647)], [(12, false)], [(0, [(0, 1)]), (1, [(0, (-1))])], [], [], [(0, (false, 18, 0, []), 0, 0, 0, [(0, 1)])], [(75, [(0, [(1, 1)])])]), [([((-2147483648), 2147483647), ((-2147483648), 2147483647)], [(12, false)], [], [], [], [], [(82, [(0, [(0, 1)]), (1, [(0, (-1))]), (0, [])])])])
theorem lk_513 : l_core lm_513 := by
  first
  | skip
    intro v x h
    have K := k_tlkz (V := v) (l := x 0) (n := x 1) (l_c1 (fun w0 : Int => ∃ c : Nat, q_end (t_b v) w0 c ∧ q_66 fun a b => v 18 (6 * a + b) = a_lk (t_b v) w0 c a b) (l_e1 x 1) (h.2.2.2.1)) (l_cc (l_e1 x 0) (h.2.1.1)) (l_cc (l_q1 1 x 0) (h.2.1.2.1))
    refine l_outH rfl (And.intro h.1 ?_)
    exact l_o3 (fun w0 w1 w2 : Int => (True) ∧ ((w2 = 1 → 0 ≤ w0 ∧ 0 ≤ w1 ∧ w0 + w1 = 1 ∧ q_66 fun a b => v 18 (6 * a + b) = v 60 (36 * w0 + (6 * a + b))) ∧ True)) (l_e1 x 0) (l_q1 1 x 0) (l_e0 x (0)) K
  | skip
    intro v x h
    have C0 : (0 : Int) ≤ x 0 := l_cc (a := y_ev x (0, [(0, 1)])) (l_e1 _ _) (h.2.1.1)
    have C1 : (0 : Int) ≤ 1 - x 0 := l_cc (a := y_ev x (1, [(0, (-1))])) (by show ((1) : Int) + ((-1) * x 0 + 0) = 1 - x 0; omega) (h.2.1.2.1)
    have E0 : y_ev x (0, [(1, 1)]) = x 1 := (l_e1 _ _)
    have T0 : ∃ c : Nat, q_end (t_b v) (y_ev x (0, [(1, 1)])) c ∧ q_66 fun a b => v 18 (6 * a + b) = a_lk (t_b v) (y_ev x (0, [(1, 1)])) c a b := h.2.2.2.1
    (try rw [E0] at T0)
    have K := k_tlkz (V := v) (l := x 0) (n := x 1) T0 C0 C1
    refine l_outH rfl (And.intro h.1 ?_)
    have O0 : y_ev x (0, [(0, 1)]) = x 0 := l_e1 _ _
    have O1 : y_ev x (1, [(0, (-1))]) = 1 - x 0 := by show ((1) : Int) + ((-1) * x 0 + 0) = _; omega
    have O2 : y_ev x (0, []) = 0 := l_e0 _ _
    show (True) ∧ (((y_ev x (0, [])) = 1 → 0 ≤ (y_ev x (0, [(0, 1)])) ∧ 0 ≤ (y_ev x (1, [(0, (-1))])) ∧ (y_ev x (0, [(0, 1)])) + (y_ev x (1, [(0, (-1))])) = 1 ∧ q_66 fun a b => v 18 (6 * a + b) = v 60 (36 * (y_ev x (0, [(0, 1)])) + (6 * a + b))) ∧ True)
    (try rw [O0]); (try rw [O1]); (try rw [O2])
    exact K
def lm_514 : zLem := (([((-2147483648), 2147483647), ((-2147483648), 2147483647), ((-2147483648), 2147483647), ((-2147483648), 2147483647), ((-2147483648), 2147483647)], [(12, false), (56, false)], [(0, [(0, 1), (4, (-1))])], [], [(0, 0, 0, [(0, 1)])], [(0, (false, 18, 0, []), 0, 0, 0, [(1, 1)]), (1, (true, 0, 0, [(1, 1)]), 0, 0, 0, [(4, 1)])], [(85, [(0, [(1, 1)]), (0, [(2, 1)]), (0, [(3, 1)])])]), [([((-2147483648), 2147483647), ((-2147483648), 2147483647), ((-2147483648), 2147483647), ((-2147483648), 2147483647), ((-2147483648), 2147483647)], [(12, false), (56, false)], [(0, [(0, 1), (2, (-1))])], [], [], [], [])])
theorem lk_514 : l_core lm_514 := by
  first
  | skip
    intro v x h
    have G0 := h.2.2.1
    have G1 := G0.2
    have K := k_houA (V := v) (h := x 0) (l := x 1) (H := x 2) (s := x 3) (u := x 4) (l_c3 (fun w0 w1 w2 : Int => 0 ≤ w0 ∧ w0 ≠ w2 ∧ v 56 w0 = w1) (l_e1 x 1) (l_e1 x 2) (l_e1 x 3) (h.2.2.2.1)) (l_cc (l_q5 x 0 4) (h.2.1.1)) (l_ff (f := v 56) (L := j_len 56) (l_e1 x 1) (l_e1 x 4) (G1.1.1))
    refine l_outH rfl (And.intro h.1 ?_)
    exact l_o1 (fun w0 : Int => (0 ≤ w0 ∧ True) ∧ (True)) (l_q5 x 0 2) K
  | skip
    intro v x h
    have G0 := h.2.2.1
    have G1 := G0.2
    have C0 : (0 : Int) ≤ x 0 - x 4 := l_cc (a := y_ev x (0, [(0, 1), (4, (-1))])) (by show ((0) : Int) + ((1) * x 0 + ((-1) * x 4 + 0)) = x 0 - x 4; omega) (h.2.1.1)
    have F0 : (0 : Int) ≤ x 1 ∧ (x 1 : Int) < j_len 56 ∧ v 56 (x 1) = x 4 := l_ff (f := v 56) (L := j_len 56) (a := y_ev x (0, [(1, 1)])) (b := y_ev x (0, [(4, 1)])) (l_e1 _ _) (l_e1 _ _) (G1.1.1)
    have E0 : y_ev x (0, [(1, 1)]) = x 1 := (l_e1 _ _)
    have E1 : y_ev x (0, [(2, 1)]) = x 2 := (l_e1 _ _)
    have E2 : y_ev x (0, [(3, 1)]) = x 3 := (l_e1 _ _)
    have T0 : 0 ≤ (y_ev x (0, [(1, 1)])) ∧ (y_ev x (0, [(1, 1)])) ≠ (y_ev x (0, [(3, 1)])) ∧ v 56 (y_ev x (0, [(1, 1)])) = (y_ev x (0, [(2, 1)])) := h.2.2.2.1
    (try rw [E0] at T0); (try rw [E1] at T0); (try rw [E2] at T0)
    have K := k_houA (V := v) (h := x 0) (l := x 1) (H := x 2) (s := x 3) (u := x 4) T0 C0 F0
    refine l_outH rfl (And.intro h.1 ?_)
    have O0 : y_ev x (0, [(0, 1), (2, (-1))]) = x 0 - x 2 := by show ((0) : Int) + ((1) * x 0 + ((-1) * x 2 + 0)) = _; omega
    show (0 ≤ y_ev x (0, [(0, 1), (2, (-1))]) ∧ True) ∧ (True)
    (try rw [O0])
    exact K
def lm_515 : zLem := (([((-2147483648), 2147483647), ((-2147483648), 2147483647), ((-2147483648), 2147483647), ((-2147483648), 2147483647), ((-2147483648), 2147483647)], [(12, false), (56, false)], [((-1), [(0, (-1)), (4, 1)])], [], [(0, 0, 0, [(0, 1)])], [(0, (false, 18, 0, []), 0, 0, 0, [(1, 1)]), (1, (true, 0, 0, [(1, 1)]), 0, 0, 0, [(4, 1)])], [(85, [(0, [(1, 1)]), (0, [(2, 1)]), (0, [(3, 1)])])]), [([((-2147483648), 2147483647), ((-2147483648), 2147483647), ((-2147483648), 2147483647), ((-2147483648), 2147483647), ((-2147483648), 2147483647)], [(12, false), (56, false)], [((-1), [(0, (-1)), (2, 1)])], [], [], [], [])])
theorem lk_515 : l_core lm_515 := by
  first
  | skip
    intro v x h
    have G0 := h.2.2.1
    have G1 := G0.2
    have K := k_houB (V := v) (h := x 0) (l := x 1) (H := x 2) (s := x 3) (u := x 4) (l_c3 (fun w0 w1 w2 : Int => 0 ≤ w0 ∧ w0 ≠ w2 ∧ v 56 w0 = w1) (l_e1 x 1) (l_e1 x 2) (l_e1 x 3) (h.2.2.2.1)) (l_cc (l_q6 1 x 0 4) (h.2.1.1)) (l_ff (f := v 56) (L := j_len 56) (l_e1 x 1) (l_e1 x 4) (G1.1.1))
    refine l_outH rfl (And.intro h.1 ?_)
    exact l_o1 (fun w0 : Int => (0 ≤ w0 ∧ True) ∧ (True)) (l_q6 1 x 0 2) K
  | skip
    intro v x h
    have G0 := h.2.2.1
    have G1 := G0.2
    have C0 : (0 : Int) ≤ x 4 - x 0 - 1 := l_cc (a := y_ev x ((-1), [(0, (-1)), (4, 1)])) (by show ((-1) : Int) + ((-1) * x 0 + ((1) * x 4 + 0)) = x 4 - x 0 - 1; omega) (h.2.1.1)
    have F0 : (0 : Int) ≤ x 1 ∧ (x 1 : Int) < j_len 56 ∧ v 56 (x 1) = x 4 := l_ff (f := v 56) (L := j_len 56) (a := y_ev x (0, [(1, 1)])) (b := y_ev x (0, [(4, 1)])) (l_e1 _ _) (l_e1 _ _) (G1.1.1)
    have E0 : y_ev x (0, [(1, 1)]) = x 1 := (l_e1 _ _)
    have E1 : y_ev x (0, [(2, 1)]) = x 2 := (l_e1 _ _)
    have E2 : y_ev x (0, [(3, 1)]) = x 3 := (l_e1 _ _)
    have T0 : 0 ≤ (y_ev x (0, [(1, 1)])) ∧ (y_ev x (0, [(1, 1)])) ≠ (y_ev x (0, [(3, 1)])) ∧ v 56 (y_ev x (0, [(1, 1)])) = (y_ev x (0, [(2, 1)])) := h.2.2.2.1
    (try rw [E0] at T0); (try rw [E1] at T0); (try rw [E2] at T0)
    have K := k_houB (V := v) (h := x 0) (l := x 1) (H := x 2) (s := x 3) (u := x 4) T0 C0 F0
    refine l_outH rfl (And.intro h.1 ?_)
    have O0 : y_ev x ((-1), [(0, (-1)), (2, 1)]) = x 2 - x 0 - 1 := by show ((-1) : Int) + ((-1) * x 0 + ((1) * x 2 + 0)) = _; omega
    show (0 ≤ y_ev x ((-1), [(0, (-1)), (2, 1)]) ∧ True) ∧ (True)
    (try rw [O0])
    exact K
def lm_516 : zLem := (([((-2147483648), 2147483647), ((-2147483648), 2147483647), ((-2147483648), 2147483647)], [(18, false)], [], [], [(0, 0, 0, [(0, 1)]), (0, 0, 0, [(1, 1)]), (0, 0, 0, [(2, 1)])], [(0, (true, 0, 0, [(0, 6), (1, 1)]), 0, 0, 0, [(2, 1)])], []), [([((-2147483648), 2147483647), ((-2147483648), 2147483647), ((-2147483648), 2147483647)], [(18, false)], [], [], [], [], [(83, [(0, [(0, 6), (1, 1)]), (0, [(2, 1)])])])])
theorem lk_516 : l_core lm_516 := by
  first
  | skip
    intro v x h
    have G0 := h.2.2.1
    have K := k_clv (V := v) (h := x 0) (o := x 1) (u := x 2) (l_ff (f := v 18) (L := j_len 18) (l_q10 6 x 0 1) (l_e1 x 2) (G0.1.1))
    refine l_outH rfl (And.intro h.1 ?_)
    exact l_o2 (fun w0 w1 : Int => (True) ∧ ((v 18 w0 = w1) ∧ True)) (l_q10 6 x 0 1) (l_e1 x 2) K
  | skip
    intro v x h
    have G0 := h.2.2.1
    have F0 : (0 : Int) ≤ 6 * x 0 + x 1 ∧ (6 * x 0 + x 1 : Int) < j_len 18 ∧ v 18 (6 * x 0 + x 1) = x 2 := l_ff (f := v 18) (L := j_len 18) (a := y_ev x (0, [(0, 6), (1, 1)])) (b := y_ev x (0, [(2, 1)])) (by show ((0) : Int) + ((6) * x 0 + ((1) * x 1 + 0)) = 6 * x 0 + x 1; omega) (l_e1 _ _) (G0.1.1)
    have K := k_clv (V := v) (h := x 0) (o := x 1) (u := x 2) F0
    refine l_outH rfl (And.intro h.1 ?_)
    have O0 : y_ev x (0, [(0, 6), (1, 1)]) = 6 * x 0 + x 1 := by show ((0) : Int) + ((6) * x 0 + ((1) * x 1 + 0)) = _; omega
    have O1 : y_ev x (0, [(2, 1)]) = x 2 := l_e1 _ _
    show (True) ∧ ((v 18 (y_ev x (0, [(0, 6), (1, 1)])) = (y_ev x (0, [(2, 1)]))) ∧ True)
    (try rw [O0]); (try rw [O1])
    exact K
def lm_517 : zLem := (([((-2147483648), 2147483647), ((-2147483648), 2147483647), ((-2147483648), 2147483647), ((-2147483648), 2147483647)], [(12, false), (60, false)], [], [], [(0, 0, 0, [(1, 1)]), (0, 0, 0, [(2, 1)]), (0, 0, 0, [(3, 1)])], [(0, (false, 18, 0, []), 0, 0, 0, [(0, 1)]), (1, (true, 0, 0, [(0, 36), (1, 6), (2, 1)]), 0, 0, 0, [(3, 1)])], []), [([((-2147483648), 2147483647), ((-2147483648), 2147483647), ((-2147483648), 2147483647), ((-2147483648), 2147483647)], [(12, false), (60, false)], [], [], [], [], [(84, [(0, [(0, 36), (1, 6), (2, 1)]), (0, [(3, 1)])])])])
theorem lk_517 : l_core lm_517 := by
  first
  | skip
    intro v x h
    have G0 := h.2.2.1
    have G1 := G0.2
    have K := k_mlv (V := v) (l := x 0) (h := x 1) (o := x 2) (u := x 3) (l_ff (f := v 60) (L := j_len 60) (show y_ev x (0, [(0, 36), (1, 6), (2, 1)]) = 36 * x 0 + 6 * x 1 + x 2 by show ((0) : Int) + ((36) * x 0 + ((6) * x 1 + ((1) * x 2 + 0))) = _; omega) (l_e1 x 3) (G1.1.1))
    refine l_outH rfl (And.intro h.1 ?_)
    exact l_o2 (fun w0 w1 : Int => (True) ∧ ((v 60 w0 = w1) ∧ True)) (show y_ev x (0, [(0, 36), (1, 6), (2, 1)]) = 36 * x 0 + 6 * x 1 + x 2 by show ((0) : Int) + ((36) * x 0 + ((6) * x 1 + ((1) * x 2 + 0))) = _; omega) (l_e1 x 3) K
  | skip
    intro v x h
    have G0 := h.2.2.1
    have G1 := G0.2
    have F0 : (0 : Int) ≤ 36 * x 0 + 6 * x 1 + x 2 ∧ (36 * x 0 + 6 * x 1 + x 2 : Int) < j_len 60 ∧ v 60 (36 * x 0 + 6 * x 1 + x 2) = x 3 := l_ff (f := v 60) (L := j_len 60) (a := y_ev x (0, [(0, 36), (1, 6), (2, 1)])) (b := y_ev x (0, [(3, 1)])) (by show ((0) : Int) + ((36) * x 0 + ((6) * x 1 + ((1) * x 2 + 0))) = 36 * x 0 + 6 * x 1 + x 2; omega) (l_e1 _ _) (G1.1.1)
    have K := k_mlv (V := v) (l := x 0) (h := x 1) (o := x 2) (u := x 3) F0
    refine l_outH rfl (And.intro h.1 ?_)
    have O0 : y_ev x (0, [(0, 36), (1, 6), (2, 1)]) = 36 * x 0 + 6 * x 1 + x 2 := by show ((0) : Int) + ((36) * x 0 + ((6) * x 1 + ((1) * x 2 + 0))) = _; omega
    have O1 : y_ev x (0, [(3, 1)]) = x 3 := l_e1 _ _
    show (True) ∧ ((v 60 (y_ev x (0, [(0, 36), (1, 6), (2, 1)])) = (y_ev x (0, [(3, 1)]))) ∧ True)
    (try rw [O0]); (try rw [O1])
    exact K
def lm_518 : zLem := (([((-2147483648), 2147483647), ((-2147483648), 2147483647), ((-2147483648), 2147483647), ((-2147483648), 2147483647), ((-2147483648), 2147483647), ((-2147483648), 2147483647)], [], [(0, [(2, 1)]), (35, [(2, (-1))]), (0, [(0, (-36)), (2, (-1)), (3, 1)]), (0, [(0, 36), (2, 1), (3, (-1))])], [], [(0, 0, 0, [(5, 1)])], [], [(82, [(0, [(0, 1)]), (0, [(1, 1)]), (1, [])]), (83, [(0, [(2, 1)]), (0, [(4, 1)])]), (84, [(0, [(3, 1)]), (0, [(5, 1)])])]), [([((-2147483648), 2147483647), ((-2147483648), 2147483647), ((-2147483648), 2147483647), ((-2147483648), 2147483647), ((-2147483648), 2147483647), ((-2147483648), 2147483647)], [], [(0, [(4, 1), (5, (-1))]), (0, [(4, (-1)), (5, 1)])], [], [], [], [])])
theorem lk_518 : l_core lm_518 := by
  first
  | skip
    intro v x h
    have K := k_lkE (V := v) (l := x 0) (s := x 1) (j := x 2) (k := x 3) (u := x 4) (w := x 5) (l_c3 (fun w0 w1 w2 : Int => w2 = 1 → 0 ≤ w0 ∧ 0 ≤ w1 ∧ w0 + w1 = 1 ∧ q_66 fun a b => v 18 (6 * a + b) = v 60 (36 * w0 + (6 * a + b))) (l_e1 x 0) (l_e1 x 1) (l_e0 x (1)) (h.2.2.2.1)) (l_c2 (fun w0 w1 : Int => v 18 w0 = w1) (l_e1 x 2) (l_e1 x 4) (h.2.2.2.2.1)) (l_c2 (fun w0 w1 : Int => v 60 w0 = w1) (l_e1 x 3) (l_e1 x 5) (h.2.2.2.2.2.1)) (l_cc (l_e1 x 2) (h.2.1.1)) (l_cc (l_q1 35 x 2) (h.2.1.2.1)) (l_cc (show y_ev x (0, [(0, (-36)), (2, (-1)), (3, 1)]) = x 3 - 36 * x 0 - x 2 by show ((0) : Int) + ((-36) * x 0 + ((-1) * x 2 + ((1) * x 3 + 0))) = _; omega) (h.2.1.2.2.1)) (l_cc (show y_ev x (0, [(0, 36), (2, 1), (3, (-1))]) = 36 * x 0 + x 2 - x 3 by show ((0) : Int) + ((36) * x 0 + ((1) * x 2 + ((-1) * x 3 + 0))) = _; omega) (h.2.1.2.2.2.1))
    refine l_outH rfl (And.intro h.1 ?_)
    exact l_o2 (fun w0 w1 : Int => (0 ≤ w0 ∧ 0 ≤ w1 ∧ True) ∧ (True)) (l_q5 x 4 5) (l_q4 x 4 5) K
  | skip
    intro v x h
    have C0 : (0 : Int) ≤ x 2 := l_cc (a := y_ev x (0, [(2, 1)])) (l_e1 _ _) (h.2.1.1)
    have C1 : (0 : Int) ≤ 35 - x 2 := l_cc (a := y_ev x (35, [(2, (-1))])) (by show ((35) : Int) + ((-1) * x 2 + 0) = 35 - x 2; omega) (h.2.1.2.1)
    have C2 : (0 : Int) ≤ x 3 - 36 * x 0 - x 2 := l_cc (a := y_ev x (0, [(0, (-36)), (2, (-1)), (3, 1)])) (by show ((0) : Int) + ((-36) * x 0 + ((-1) * x 2 + ((1) * x 3 + 0))) = x 3 - 36 * x 0 - x 2; omega) (h.2.1.2.2.1)
    have C3 : (0 : Int) ≤ 36 * x 0 + x 2 - x 3 := l_cc (a := y_ev x (0, [(0, 36), (2, 1), (3, (-1))])) (by show ((0) : Int) + ((36) * x 0 + ((1) * x 2 + ((-1) * x 3 + 0))) = 36 * x 0 + x 2 - x 3; omega) (h.2.1.2.2.2.1)
    have E0 : y_ev x (0, [(0, 1)]) = x 0 := (l_e1 _ _)
    have E1 : y_ev x (0, [(1, 1)]) = x 1 := (l_e1 _ _)
    have E2 : y_ev x (1, []) = 1 := (l_e0 _ _)
    have E3 : y_ev x (0, [(2, 1)]) = x 2 := (l_e1 _ _)
    have E4 : y_ev x (0, [(4, 1)]) = x 4 := (l_e1 _ _)
    have E5 : y_ev x (0, [(3, 1)]) = x 3 := (l_e1 _ _)
    have E6 : y_ev x (0, [(5, 1)]) = x 5 := (l_e1 _ _)
    have T0 : (y_ev x (1, [])) = 1 → 0 ≤ (y_ev x (0, [(0, 1)])) ∧ 0 ≤ (y_ev x (0, [(1, 1)])) ∧ (y_ev x (0, [(0, 1)])) + (y_ev x (0, [(1, 1)])) = 1 ∧ q_66 fun a b => v 18 (6 * a + b) = v 60 (36 * (y_ev x (0, [(0, 1)])) + (6 * a + b)) := h.2.2.2.1
    (try rw [E0] at T0); (try rw [E1] at T0); (try rw [E2] at T0)
    have T1 : v 18 (y_ev x (0, [(2, 1)])) = (y_ev x (0, [(4, 1)])) := h.2.2.2.2.1
    (try rw [E3] at T1); (try rw [E4] at T1)
    have T2 : v 60 (y_ev x (0, [(3, 1)])) = (y_ev x (0, [(5, 1)])) := h.2.2.2.2.2.1
    (try rw [E5] at T2); (try rw [E6] at T2)
    have K := k_lkE (V := v) (l := x 0) (s := x 1) (j := x 2) (k := x 3) (u := x 4) (w := x 5) T0 T1 T2 C0 C1 C2 C3
    refine l_outH rfl (And.intro h.1 ?_)
    have O0 : y_ev x (0, [(4, 1), (5, (-1))]) = x 4 - x 5 := by show ((0) : Int) + ((1) * x 4 + ((-1) * x 5 + 0)) = _; omega
    have O1 : y_ev x (0, [(4, (-1)), (5, 1)]) = x 5 - x 4 := by show ((0) : Int) + ((-1) * x 4 + ((1) * x 5 + 0)) = _; omega
    show (0 ≤ y_ev x (0, [(4, 1), (5, (-1))]) ∧ 0 ≤ y_ev x (0, [(4, (-1)), (5, 1)]) ∧ True) ∧ (True)
    (try rw [O0]); (try rw [O1])
    exact K
def lm_519 : zLem := (([((-2147483648), 2147483647), ((-2147483648), 2147483647), ((-2147483648), 2147483647), ((-2147483648), 2147483647), ((-2147483648), 2147483647), ((-2147483648), 2147483647)], [], [], [], [], [], [(40, [(0, [(0, 1)]), (0, []), (0, []), (0, []), (0, []), (0, [(1, 1)]), (0, [(2, 1)]), (0, [(3, 1)]), (0, [(4, 1)]), (0, [(5, 1)])])]), [([((-2147483648), 2147483647), ((-2147483648), 2147483647), ((-2147483648), 2147483647), ((-2147483648), 2147483647), ((-2147483648), 2147483647), ((-2147483648), 2147483647)], [], [], [], [], [], [(86, [(0, [(0, 1)]), (0, []), (9, []), (20, [])])])])
theorem lk_519 : l_core lm_519 := by
  first
  | skip
    intro v x h
    have K := k_num0_9 (V := v) (n := x 0) (H := x 1) (L := x 2) (W := x 3) (P := x 4) (S := x 5) (l_c7 (fun w0 w1 w2 w3 w4 w5 w6 : Int => q_run2 (t_b v) w0 w1 w1 w1 w1 w2 w3 w4 w5 w6) (l_e1 x 0) (l_e0 x (0)) (l_e1 x 1) (l_e1 x 2) (l_e1 x 3) (l_e1 x 4) (l_e1 x 5) (h.2.2.2.1))
    refine l_outH rfl (And.intro h.1 ?_)
    exact l_o4 (fun w0 w1 w2 w3 : Int => (True) ∧ ((0 ≤ w1 ∧ w3 = a_nu (t_b v) w0 w1.toNat w2) ∧ True)) (l_e1 x 0) (l_e0 x (0)) (l_e0 x (9)) (l_e0 x (20)) K
  | skip
    intro v x h
    have E0 : y_ev x (0, [(0, 1)]) = x 0 := (l_e1 _ _)
    have E1 : y_ev x (0, []) = 0 := (l_e0 _ _)
    have E2 : y_ev x (0, [(1, 1)]) = x 1 := (l_e1 _ _)
    have E3 : y_ev x (0, [(2, 1)]) = x 2 := (l_e1 _ _)
    have E4 : y_ev x (0, [(3, 1)]) = x 3 := (l_e1 _ _)
    have E5 : y_ev x (0, [(4, 1)]) = x 4 := (l_e1 _ _)
    have E6 : y_ev x (0, [(5, 1)]) = x 5 := (l_e1 _ _)
    have T0 : q_run2 (t_b v) (y_ev x (0, [(0, 1)])) (y_ev x (0, [])) (y_ev x (0, [])) (y_ev x (0, [])) (y_ev x (0, [])) (y_ev x (0, [(1, 1)])) (y_ev x (0, [(2, 1)])) (y_ev x (0, [(3, 1)])) (y_ev x (0, [(4, 1)])) (y_ev x (0, [(5, 1)])) := h.2.2.2.1
    (try rw [E0] at T0); (try rw [E1] at T0); (try rw [E2] at T0); (try rw [E3] at T0); (try rw [E4] at T0); (try rw [E5] at T0); (try rw [E6] at T0)
    have K := k_num0_9 (V := v) (n := x 0) (H := x 1) (L := x 2) (W := x 3) (P := x 4) (S := x 5) T0
    refine l_outH rfl (And.intro h.1 ?_)
    have O0 : y_ev x (0, [(0, 1)]) = x 0 := l_e1 _ _
    have O1 : y_ev x (0, []) = 0 := l_e0 _ _
    have O2 : y_ev x (9, []) = 9 := l_e0 _ _
    have O3 : y_ev x (20, []) = 20 := l_e0 _ _
    show (True) ∧ ((0 ≤ (y_ev x (0, [])) ∧ (y_ev x (20, [])) = a_nu (t_b v) (y_ev x (0, [(0, 1)])) (y_ev x (0, [])).toNat (y_ev x (9, []))) ∧ True)
    (try rw [O0]); (try rw [O1]); (try rw [O2]); (try rw [O3])
    exact K
def lm_520pi_0 (t : List (Int × Int)) : List (Int × Int) := ((-2147483648), 2147483647) :: ((-2147483648), 2147483647) :: ((-2147483648), 2147483647) :: ((-2147483648), 2147483647) :: ((-2147483648), 2147483647) :: ((-2147483648), 2147483647) :: ((-2147483648), 2147483647) :: ((-2147483648), 2147483647) :: t
def lm_520pi_1 (t : List (Int × Int)) : List (Int × Int) := ((-2147483648), 2147483647) :: ((-2147483648), 2147483647) :: ((-2147483648), 2147483647) :: ((-9223372036854775808), 9223372036854775807) :: ((-2147483648), 2147483647) :: ((-2147483648), 2147483647) :: ((-2147483648), 2147483647) :: t
def lm_520pg_0 (t : List zTg) : List zTg := (40, [(0, [(0, 1)]), ((-1), [(1, 1)]), (13, []), (0, []), (0, []), (0, [(2, 1)]), (0, [(3, 1)]), (0, [(4, 1)]), (0, [(5, 1)]), (0, [(13, 1)])]) :: (40, [(0, [(0, 1)]), ((-3), [(1, 1)]), (0, []), (0, []), (0, []), (0, [(6, 1)]), (0, [(7, 1)]), (0, [(8, 1)]), (0, [(9, 1)]), (0, [(14, 1)])]) :: (36, [(0, [(0, 1)]), ((-3), [(1, 1)]), (258, []), (0, [(10, 1)]), (0, [(11, 1)])]) :: (61, [(0, [(0, 1)]), ((-2), [(1, 1)]), (0, [(12, 1)])]) :: t
def lm_520p : zS := ((lm_520pi_0 (lm_520pi_1 [])), [(1, false)], [(400, [(1, (-1))]), ((-3), [(1, 1)])], [], [], [(0, (false, 4, 0, []), 0, 0, 0, [(1, 1)])], (lm_520pg_0 []))
def lm_520 : zLem := (lm_520p, [([((-2147483648), 2147483647), ((-2147483648), 2147483647), ((-2147483648), 2147483647), ((-2147483648), 2147483647), ((-2147483648), 2147483647), ((-2147483648), 2147483647), ((-2147483648), 2147483647), ((-2147483648), 2147483647), ((-2147483648), 2147483647), ((-2147483648), 2147483647), ((-2147483648), 2147483647), ((-9223372036854775808), 9223372036854775807), ((-2147483648), 2147483647), ((-2147483648), 2147483647), ((-2147483648), 2147483647)], [(1, false)], [], [], [], [], [(86, [(0, [(0, 1)]), (0, [(1, 1)]), (9, []), (0, [(12, 1)])])])])
theorem lk_520 : l_core lm_520 := by
  first
  | skip
    intro v x h
    have K := k_numS_9 (V := v) (n := x 0) (d := x 1) (H := x 2) (L := x 3) (W := x 4) (P := x 5) (H2 := x 6) (L2 := x 7) (W2 := x 8) (P2 := x 9) (s := x 10) (v := x 11) (u := x 12) (S := x 13) (S2 := x 14) (l_c9 (fun w0 w1 w2 w3 w4 w5 w6 w7 w8 : Int => q_run2 (t_b v) w0 w1 w2 w3 w3 w4 w5 w6 w7 w8) (l_e1 x 0) (l_q2 1 x 1) (l_e0 x (13)) (l_e0 x (0)) (l_e1 x 2) (l_e1 x 3) (l_e1 x 4) (l_e1 x 5) (l_e1 x 13) (h.2.2.2.1)) (l_c8 (fun w0 w1 w2 w3 w4 w5 w6 w7 : Int => q_run2 (t_b v) w0 w1 w2 w2 w2 w3 w4 w5 w6 w7) (l_e1 x 0) (l_q2 3 x 1) (l_e0 x (0)) (l_e1 x 6) (l_e1 x 7) (l_e1 x 8) (l_e1 x 9) (l_e1 x 14) (h.2.2.2.2.1)) (l_c5 (fun w0 w1 w2 w3 w4 : Int => q_tok (t_b v) w0 w1 w2 w3 w4) (l_e1 x 0) (l_q2 3 x 1) (l_e0 x (258)) (l_e1 x 10) (l_e1 x 11) (h.2.2.2.2.2.1)) (l_c3 (fun w0 w1 w2 : Int => tk (t_b v) w0 w1.toNat = 3 ∧ w2 = tx (t_b v) w0 w1.toNat) (l_e1 x 0) (l_q2 2 x 1) (l_e1 x 12) (h.2.2.2.2.2.2.1)) (l_cc (l_q1 400 x 1) (h.2.1.1)) (l_cc (l_q2 3 x 1) (h.2.1.2.1))
    refine l_outH rfl (And.intro h.1 ?_)
    exact l_o4 (fun w0 w1 w2 w3 : Int => (True) ∧ ((0 ≤ w1 ∧ w3 = a_nu (t_b v) w0 w1.toNat w2) ∧ True)) (l_e1 x 0) (l_e1 x 1) (l_e0 x (9)) (l_e1 x 12) K
  | skip
    intro v x h
    have C0 : (0 : Int) ≤ 400 - x 1 := l_cc (a := y_ev x (400, [(1, (-1))])) (by show ((400) : Int) + ((-1) * x 1 + 0) = 400 - x 1; omega) (h.2.1.1)
    have C1 : (0 : Int) ≤ x 1 - 3 := l_cc (a := y_ev x ((-3), [(1, 1)])) (by show ((-3) : Int) + ((1) * x 1 + 0) = x 1 - 3; omega) (h.2.1.2.1)
    have E0 : y_ev x (0, [(0, 1)]) = x 0 := (l_e1 _ _)
    have E1 : y_ev x ((-1), [(1, 1)]) = x 1 - 1 := (by show ((-1) : Int) + ((1) * x 1 + 0) = x 1 - 1; omega)
    have E2 : y_ev x (13, []) = 13 := (l_e0 _ _)
    have E3 : y_ev x (0, []) = 0 := (l_e0 _ _)
    have E4 : y_ev x (0, [(2, 1)]) = x 2 := (l_e1 _ _)
    have E5 : y_ev x (0, [(3, 1)]) = x 3 := (l_e1 _ _)
    have E6 : y_ev x (0, [(4, 1)]) = x 4 := (l_e1 _ _)
    have E7 : y_ev x (0, [(5, 1)]) = x 5 := (l_e1 _ _)
    have E8 : y_ev x (0, [(13, 1)]) = x 13 := (l_e1 _ _)
    have E9 : y_ev x ((-3), [(1, 1)]) = x 1 - 3 := (by show ((-3) : Int) + ((1) * x 1 + 0) = x 1 - 3; omega)
    have E10 : y_ev x (0, [(6, 1)]) = x 6 := (l_e1 _ _)
    have E11 : y_ev x (0, [(7, 1)]) = x 7 := (l_e1 _ _)
    have E12 : y_ev x (0, [(8, 1)]) = x 8 := (l_e1 _ _)
    have E13 : y_ev x (0, [(9, 1)]) = x 9 := (l_e1 _ _)
    have E14 : y_ev x (0, [(14, 1)]) = x 14 := (l_e1 _ _)
    have E15 : y_ev x (258, []) = 258 := (l_e0 _ _)
    have E16 : y_ev x (0, [(10, 1)]) = x 10 := (l_e1 _ _)
    have E17 : y_ev x (0, [(11, 1)]) = x 11 := (l_e1 _ _)
    have E18 : y_ev x ((-2), [(1, 1)]) = x 1 - 2 := (by show ((-2) : Int) + ((1) * x 1 + 0) = x 1 - 2; omega)
    have E19 : y_ev x (0, [(12, 1)]) = x 12 := (l_e1 _ _)
    have T0 : q_run2 (t_b v) (y_ev x (0, [(0, 1)])) (y_ev x ((-1), [(1, 1)])) (y_ev x (13, [])) (y_ev x (0, [])) (y_ev x (0, [])) (y_ev x (0, [(2, 1)])) (y_ev x (0, [(3, 1)])) (y_ev x (0, [(4, 1)])) (y_ev x (0, [(5, 1)])) (y_ev x (0, [(13, 1)])) := h.2.2.2.1
    (try rw [E0] at T0); (try rw [E1] at T0); (try rw [E2] at T0); (try rw [E3] at T0); (try rw [E4] at T0); (try rw [E5] at T0); (try rw [E6] at T0); (try rw [E7] at T0); (try rw [E8] at T0)
    have T1 : q_run2 (t_b v) (y_ev x (0, [(0, 1)])) (y_ev x ((-3), [(1, 1)])) (y_ev x (0, [])) (y_ev x (0, [])) (y_ev x (0, [])) (y_ev x (0, [(6, 1)])) (y_ev x (0, [(7, 1)])) (y_ev x (0, [(8, 1)])) (y_ev x (0, [(9, 1)])) (y_ev x (0, [(14, 1)])) := h.2.2.2.2.1
    (try rw [E0] at T1); (try rw [E9] at T1); (try rw [E3] at T1); (try rw [E10] at T1); (try rw [E11] at T1); (try rw [E12] at T1); (try rw [E13] at T1); (try rw [E14] at T1)
    have T2 : q_tok (t_b v) (y_ev x (0, [(0, 1)])) (y_ev x ((-3), [(1, 1)])) (y_ev x (258, [])) (y_ev x (0, [(10, 1)])) (y_ev x (0, [(11, 1)])) := h.2.2.2.2.2.1
    (try rw [E0] at T2); (try rw [E9] at T2); (try rw [E15] at T2); (try rw [E16] at T2); (try rw [E17] at T2)
    have T3 : tk (t_b v) (y_ev x (0, [(0, 1)])) (y_ev x ((-2), [(1, 1)])).toNat = 3 ∧ (y_ev x (0, [(12, 1)])) = tx (t_b v) (y_ev x (0, [(0, 1)])) (y_ev x ((-2), [(1, 1)])).toNat := h.2.2.2.2.2.2.1
    (try rw [E0] at T3); (try rw [E18] at T3); (try rw [E19] at T3)
    have K := k_numS_9 (V := v) (n := x 0) (d := x 1) (H := x 2) (L := x 3) (W := x 4) (P := x 5) (H2 := x 6) (L2 := x 7) (W2 := x 8) (P2 := x 9) (s := x 10) (v := x 11) (u := x 12) (S := x 13) (S2 := x 14) T0 T1 T2 T3 C0 C1
    refine l_outH rfl (And.intro h.1 ?_)
    have O0 : y_ev x (0, [(0, 1)]) = x 0 := l_e1 _ _
    have O1 : y_ev x (0, [(1, 1)]) = x 1 := l_e1 _ _
    have O2 : y_ev x (9, []) = 9 := l_e0 _ _
    have O3 : y_ev x (0, [(12, 1)]) = x 12 := l_e1 _ _
    show (True) ∧ ((0 ≤ (y_ev x (0, [(1, 1)])) ∧ (y_ev x (0, [(12, 1)])) = a_nu (t_b v) (y_ev x (0, [(0, 1)])) (y_ev x (0, [(1, 1)])).toNat (y_ev x (9, []))) ∧ True)
    (try rw [O0]); (try rw [O1]); (try rw [O2]); (try rw [O3])
    exact K
def lm_521pi_0 (t : List (Int × Int)) : List (Int × Int) := ((-2147483648), 2147483647) :: ((-2147483648), 2147483647) :: ((-2147483648), 2147483647) :: ((-2147483648), 2147483647) :: ((-2147483648), 2147483647) :: ((-2147483648), 2147483647) :: ((-2147483648), 2147483647) :: ((-2147483648), 2147483647) :: t
def lm_521pi_1 (t : List (Int × Int)) : List (Int × Int) := ((-2147483648), 2147483647) :: ((-2147483648), 2147483647) :: ((-2147483648), 2147483647) :: ((-2147483648), 2147483647) :: ((-2147483648), 2147483647) :: ((-9223372036854775808), 9223372036854775807) :: ((-2147483648), 2147483647) :: ((-2147483648), 2147483647) :: t
def lm_521pi_2 (t : List (Int × Int)) : List (Int × Int) := ((-2147483648), 2147483647) :: t
def lm_521pg_0 (t : List zTg) : List zTg := (86, [(0, [(0, 1)]), (0, [(1, 1)]), (9, []), (0, [(14, 1)])]) :: (40, [(0, [(0, 1)]), (0, [(1, 1)]), (0, []), (0, []), (0, []), (0, [(3, 1)]), (0, [(4, 1)]), (0, [(5, 1)]), (0, [(6, 1)]), (0, [(15, 1)])]) :: (40, [(0, [(0, 1)]), (0, [(2, 1)]), (0, []), (0, []), (0, []), (0, [(7, 1)]), (0, [(8, 1)]), (0, [(9, 1)]), (0, [(10, 1)]), (0, [(16, 1)])]) :: (36, [(0, [(0, 1)]), (0, [(1, 1)]), (0, [(11, 1)]), (0, [(12, 1)]), (0, [(13, 1)])]) :: t
def lm_521p : zS := ((lm_521pi_0 (lm_521pi_1 (lm_521pi_2 []))), [(1, false)], [(0, [(1, (-1)), (2, 1)]), (1, [(15, 1), (16, (-1))]), ((-1), [(15, (-1)), (16, 1)]), (257, [(11, (-1))])], [], [], [(0, (false, 4, 0, []), 0, 0, 0, [(2, 1)])], (lm_521pg_0 []))
def lm_521 : zLem := (lm_521p, [([((-2147483648), 2147483647), ((-2147483648), 2147483647), ((-2147483648), 2147483647), ((-2147483648), 2147483647), ((-2147483648), 2147483647), ((-2147483648), 2147483647), ((-2147483648), 2147483647), ((-2147483648), 2147483647), ((-2147483648), 2147483647), ((-2147483648), 2147483647), ((-2147483648), 2147483647), ((-2147483648), 2147483647), ((-2147483648), 2147483647), ((-9223372036854775808), 9223372036854775807), ((-2147483648), 2147483647), ((-2147483648), 2147483647), ((-2147483648), 2147483647)], [(1, false)], [], [], [], [], [(86, [(0, [(0, 1)]), (0, [(2, 1)]), (9, []), (0, [(14, 1)])])])])
theorem lk_521 : l_core lm_521 := by
  first
  | skip
    intro v x h
    have K := k_numMa_9 (V := v) (n := x 0) (c := x 1) (d := x 2) (H := x 3) (L := x 4) (W := x 5) (P := x 6) (H2 := x 7) (L2 := x 8) (W2 := x 9) (P2 := x 10) (kd := x 11) (s := x 12) (v := x 13) (w := x 14) (S := x 15) (S2 := x 16) (l_c4 (fun w0 w1 w2 w3 : Int => 0 ≤ w1 ∧ w3 = a_nu (t_b v) w0 w1.toNat w2) (l_e1 x 0) (l_e1 x 1) (l_e0 x (9)) (l_e1 x 14) (h.2.2.2.1)) (l_c8 (fun w0 w1 w2 w3 w4 w5 w6 w7 : Int => q_run2 (t_b v) w0 w1 w2 w2 w2 w3 w4 w5 w6 w7) (l_e1 x 0) (l_e1 x 1) (l_e0 x (0)) (l_e1 x 3) (l_e1 x 4) (l_e1 x 5) (l_e1 x 6) (l_e1 x 15) (h.2.2.2.2.1)) (l_c8 (fun w0 w1 w2 w3 w4 w5 w6 w7 : Int => q_run2 (t_b v) w0 w1 w2 w2 w2 w3 w4 w5 w6 w7) (l_e1 x 0) (l_e1 x 2) (l_e0 x (0)) (l_e1 x 7) (l_e1 x 8) (l_e1 x 9) (l_e1 x 10) (l_e1 x 16) (h.2.2.2.2.2.1)) (l_c5 (fun w0 w1 w2 w3 w4 : Int => q_tok (t_b v) w0 w1 w2 w3 w4) (l_e1 x 0) (l_e1 x 1) (l_e1 x 11) (l_e1 x 12) (l_e1 x 13) (h.2.2.2.2.2.2.1)) (l_cc (l_q4 x 1 2) (h.2.1.1)) (l_cc (l_q13 1 x 15 16) (h.2.1.2.1)) (l_cc (l_q6 1 x 15 16) (h.2.1.2.2.1)) (l_cc (l_q1 257 x 11) (h.2.1.2.2.2.1))
    refine l_outH rfl (And.intro h.1 ?_)
    exact l_o4 (fun w0 w1 w2 w3 : Int => (True) ∧ ((0 ≤ w1 ∧ w3 = a_nu (t_b v) w0 w1.toNat w2) ∧ True)) (l_e1 x 0) (l_e1 x 2) (l_e0 x (9)) (l_e1 x 14) K
  | skip
    intro v x h
    have C0 : (0 : Int) ≤ x 2 - x 1 := l_cc (a := y_ev x (0, [(1, (-1)), (2, 1)])) (by show ((0) : Int) + ((-1) * x 1 + ((1) * x 2 + 0)) = x 2 - x 1; omega) (h.2.1.1)
    have C1 : (0 : Int) ≤ x 15 - x 16 + 1 := l_cc (a := y_ev x (1, [(15, 1), (16, (-1))])) (by show ((1) : Int) + ((1) * x 15 + ((-1) * x 16 + 0)) = x 15 - x 16 + 1; omega) (h.2.1.2.1)
    have C2 : (0 : Int) ≤ x 16 - x 15 - 1 := l_cc (a := y_ev x ((-1), [(15, (-1)), (16, 1)])) (by show ((-1) : Int) + ((-1) * x 15 + ((1) * x 16 + 0)) = x 16 - x 15 - 1; omega) (h.2.1.2.2.1)
    have C3 : (0 : Int) ≤ 257 - x 11 := l_cc (a := y_ev x (257, [(11, (-1))])) (by show ((257) : Int) + ((-1) * x 11 + 0) = 257 - x 11; omega) (h.2.1.2.2.2.1)
    have E0 : y_ev x (0, [(0, 1)]) = x 0 := (l_e1 _ _)
    have E1 : y_ev x (0, [(1, 1)]) = x 1 := (l_e1 _ _)
    have E2 : y_ev x (9, []) = 9 := (l_e0 _ _)
    have E3 : y_ev x (0, [(14, 1)]) = x 14 := (l_e1 _ _)
    have E4 : y_ev x (0, []) = 0 := (l_e0 _ _)
    have E5 : y_ev x (0, [(3, 1)]) = x 3 := (l_e1 _ _)
    have E6 : y_ev x (0, [(4, 1)]) = x 4 := (l_e1 _ _)
    have E7 : y_ev x (0, [(5, 1)]) = x 5 := (l_e1 _ _)
    have E8 : y_ev x (0, [(6, 1)]) = x 6 := (l_e1 _ _)
    have E9 : y_ev x (0, [(15, 1)]) = x 15 := (l_e1 _ _)
    have E10 : y_ev x (0, [(2, 1)]) = x 2 := (l_e1 _ _)
    have E11 : y_ev x (0, [(7, 1)]) = x 7 := (l_e1 _ _)
    have E12 : y_ev x (0, [(8, 1)]) = x 8 := (l_e1 _ _)
    have E13 : y_ev x (0, [(9, 1)]) = x 9 := (l_e1 _ _)
    have E14 : y_ev x (0, [(10, 1)]) = x 10 := (l_e1 _ _)
    have E15 : y_ev x (0, [(16, 1)]) = x 16 := (l_e1 _ _)
    have E16 : y_ev x (0, [(11, 1)]) = x 11 := (l_e1 _ _)
    have E17 : y_ev x (0, [(12, 1)]) = x 12 := (l_e1 _ _)
    have E18 : y_ev x (0, [(13, 1)]) = x 13 := (l_e1 _ _)
    have T0 : 0 ≤ (y_ev x (0, [(1, 1)])) ∧ (y_ev x (0, [(14, 1)])) = a_nu (t_b v) (y_ev x (0, [(0, 1)])) (y_ev x (0, [(1, 1)])).toNat (y_ev x (9, [])) := h.2.2.2.1
    (try rw [E0] at T0); (try rw [E1] at T0); (try rw [E2] at T0); (try rw [E3] at T0)
    have T1 : q_run2 (t_b v) (y_ev x (0, [(0, 1)])) (y_ev x (0, [(1, 1)])) (y_ev x (0, [])) (y_ev x (0, [])) (y_ev x (0, [])) (y_ev x (0, [(3, 1)])) (y_ev x (0, [(4, 1)])) (y_ev x (0, [(5, 1)])) (y_ev x (0, [(6, 1)])) (y_ev x (0, [(15, 1)])) := h.2.2.2.2.1
    (try rw [E0] at T1); (try rw [E1] at T1); (try rw [E4] at T1); (try rw [E5] at T1); (try rw [E6] at T1); (try rw [E7] at T1); (try rw [E8] at T1); (try rw [E9] at T1)
    have T2 : q_run2 (t_b v) (y_ev x (0, [(0, 1)])) (y_ev x (0, [(2, 1)])) (y_ev x (0, [])) (y_ev x (0, [])) (y_ev x (0, [])) (y_ev x (0, [(7, 1)])) (y_ev x (0, [(8, 1)])) (y_ev x (0, [(9, 1)])) (y_ev x (0, [(10, 1)])) (y_ev x (0, [(16, 1)])) := h.2.2.2.2.2.1
    (try rw [E0] at T2); (try rw [E10] at T2); (try rw [E4] at T2); (try rw [E11] at T2); (try rw [E12] at T2); (try rw [E13] at T2); (try rw [E14] at T2); (try rw [E15] at T2)
    have T3 : q_tok (t_b v) (y_ev x (0, [(0, 1)])) (y_ev x (0, [(1, 1)])) (y_ev x (0, [(11, 1)])) (y_ev x (0, [(12, 1)])) (y_ev x (0, [(13, 1)])) := h.2.2.2.2.2.2.1
    (try rw [E0] at T3); (try rw [E1] at T3); (try rw [E16] at T3); (try rw [E17] at T3); (try rw [E18] at T3)
    have K := k_numMa_9 (V := v) (n := x 0) (c := x 1) (d := x 2) (H := x 3) (L := x 4) (W := x 5) (P := x 6) (H2 := x 7) (L2 := x 8) (W2 := x 9) (P2 := x 10) (kd := x 11) (s := x 12) (v := x 13) (w := x 14) (S := x 15) (S2 := x 16) T0 T1 T2 T3 C0 C1 C2 C3
    refine l_outH rfl (And.intro h.1 ?_)
    have O0 : y_ev x (0, [(0, 1)]) = x 0 := l_e1 _ _
    have O1 : y_ev x (0, [(2, 1)]) = x 2 := l_e1 _ _
    have O2 : y_ev x (9, []) = 9 := l_e0 _ _
    have O3 : y_ev x (0, [(14, 1)]) = x 14 := l_e1 _ _
    show (True) ∧ ((0 ≤ (y_ev x (0, [(2, 1)])) ∧ (y_ev x (0, [(14, 1)])) = a_nu (t_b v) (y_ev x (0, [(0, 1)])) (y_ev x (0, [(2, 1)])).toNat (y_ev x (9, []))) ∧ True)
    (try rw [O0]); (try rw [O1]); (try rw [O2]); (try rw [O3])
    exact K
def lm_522p : zS := ((lm_521pi_0 (lm_521pi_1 (lm_521pi_2 []))), [(1, false)], [(0, [(1, (-1)), (2, 1)]), (1, [(15, 1), (16, (-1))]), ((-1), [(15, (-1)), (16, 1)]), ((-259), [(11, 1)])], [], [], [(0, (false, 4, 0, []), 0, 0, 0, [(2, 1)])], (lm_521pg_0 []))
def lm_522 : zLem := (lm_522p, [([((-2147483648), 2147483647), ((-2147483648), 2147483647), ((-2147483648), 2147483647), ((-2147483648), 2147483647), ((-2147483648), 2147483647), ((-2147483648), 2147483647), ((-2147483648), 2147483647), ((-2147483648), 2147483647), ((-2147483648), 2147483647), ((-2147483648), 2147483647), ((-2147483648), 2147483647), ((-2147483648), 2147483647), ((-2147483648), 2147483647), ((-9223372036854775808), 9223372036854775807), ((-2147483648), 2147483647), ((-2147483648), 2147483647), ((-2147483648), 2147483647)], [(1, false)], [], [], [], [], [(86, [(0, [(0, 1)]), (0, [(2, 1)]), (9, []), (0, [(14, 1)])])])])
theorem lk_522 : l_core lm_522 := by
  first
  | skip
    intro v x h
    have K := k_numMb_9 (V := v) (n := x 0) (c := x 1) (d := x 2) (H := x 3) (L := x 4) (W := x 5) (P := x 6) (H2 := x 7) (L2 := x 8) (W2 := x 9) (P2 := x 10) (kd := x 11) (s := x 12) (v := x 13) (w := x 14) (S := x 15) (S2 := x 16) (l_c4 (fun w0 w1 w2 w3 : Int => 0 ≤ w1 ∧ w3 = a_nu (t_b v) w0 w1.toNat w2) (l_e1 x 0) (l_e1 x 1) (l_e0 x (9)) (l_e1 x 14) (h.2.2.2.1)) (l_c8 (fun w0 w1 w2 w3 w4 w5 w6 w7 : Int => q_run2 (t_b v) w0 w1 w2 w2 w2 w3 w4 w5 w6 w7) (l_e1 x 0) (l_e1 x 1) (l_e0 x (0)) (l_e1 x 3) (l_e1 x 4) (l_e1 x 5) (l_e1 x 6) (l_e1 x 15) (h.2.2.2.2.1)) (l_c8 (fun w0 w1 w2 w3 w4 w5 w6 w7 : Int => q_run2 (t_b v) w0 w1 w2 w2 w2 w3 w4 w5 w6 w7) (l_e1 x 0) (l_e1 x 2) (l_e0 x (0)) (l_e1 x 7) (l_e1 x 8) (l_e1 x 9) (l_e1 x 10) (l_e1 x 16) (h.2.2.2.2.2.1)) (l_c5 (fun w0 w1 w2 w3 w4 : Int => q_tok (t_b v) w0 w1 w2 w3 w4) (l_e1 x 0) (l_e1 x 1) (l_e1 x 11) (l_e1 x 12) (l_e1 x 13) (h.2.2.2.2.2.2.1)) (l_cc (l_q4 x 1 2) (h.2.1.1)) (l_cc (l_q13 1 x 15 16) (h.2.1.2.1)) (l_cc (l_q6 1 x 15 16) (h.2.1.2.2.1)) (l_cc (l_q2 259 x 11) (h.2.1.2.2.2.1))
    refine l_outH rfl (And.intro h.1 ?_)
    exact l_o4 (fun w0 w1 w2 w3 : Int => (True) ∧ ((0 ≤ w1 ∧ w3 = a_nu (t_b v) w0 w1.toNat w2) ∧ True)) (l_e1 x 0) (l_e1 x 2) (l_e0 x (9)) (l_e1 x 14) K
  | skip
    intro v x h
    have C0 : (0 : Int) ≤ x 2 - x 1 := l_cc (a := y_ev x (0, [(1, (-1)), (2, 1)])) (by show ((0) : Int) + ((-1) * x 1 + ((1) * x 2 + 0)) = x 2 - x 1; omega) (h.2.1.1)
    have C1 : (0 : Int) ≤ x 15 - x 16 + 1 := l_cc (a := y_ev x (1, [(15, 1), (16, (-1))])) (by show ((1) : Int) + ((1) * x 15 + ((-1) * x 16 + 0)) = x 15 - x 16 + 1; omega) (h.2.1.2.1)
    have C2 : (0 : Int) ≤ x 16 - x 15 - 1 := l_cc (a := y_ev x ((-1), [(15, (-1)), (16, 1)])) (by show ((-1) : Int) + ((-1) * x 15 + ((1) * x 16 + 0)) = x 16 - x 15 - 1; omega) (h.2.1.2.2.1)
    have C3 : (0 : Int) ≤ x 11 - 259 := l_cc (a := y_ev x ((-259), [(11, 1)])) (by show ((-259) : Int) + ((1) * x 11 + 0) = x 11 - 259; omega) (h.2.1.2.2.2.1)
    have E0 : y_ev x (0, [(0, 1)]) = x 0 := (l_e1 _ _)
    have E1 : y_ev x (0, [(1, 1)]) = x 1 := (l_e1 _ _)
    have E2 : y_ev x (9, []) = 9 := (l_e0 _ _)
    have E3 : y_ev x (0, [(14, 1)]) = x 14 := (l_e1 _ _)
    have E4 : y_ev x (0, []) = 0 := (l_e0 _ _)
    have E5 : y_ev x (0, [(3, 1)]) = x 3 := (l_e1 _ _)
    have E6 : y_ev x (0, [(4, 1)]) = x 4 := (l_e1 _ _)
    have E7 : y_ev x (0, [(5, 1)]) = x 5 := (l_e1 _ _)
    have E8 : y_ev x (0, [(6, 1)]) = x 6 := (l_e1 _ _)
    have E9 : y_ev x (0, [(15, 1)]) = x 15 := (l_e1 _ _)
    have E10 : y_ev x (0, [(2, 1)]) = x 2 := (l_e1 _ _)
    have E11 : y_ev x (0, [(7, 1)]) = x 7 := (l_e1 _ _)
    have E12 : y_ev x (0, [(8, 1)]) = x 8 := (l_e1 _ _)
    have E13 : y_ev x (0, [(9, 1)]) = x 9 := (l_e1 _ _)
    have E14 : y_ev x (0, [(10, 1)]) = x 10 := (l_e1 _ _)
    have E15 : y_ev x (0, [(16, 1)]) = x 16 := (l_e1 _ _)
    have E16 : y_ev x (0, [(11, 1)]) = x 11 := (l_e1 _ _)
    have E17 : y_ev x (0, [(12, 1)]) = x 12 := (l_e1 _ _)
    have E18 : y_ev x (0, [(13, 1)]) = x 13 := (l_e1 _ _)
    have T0 : 0 ≤ (y_ev x (0, [(1, 1)])) ∧ (y_ev x (0, [(14, 1)])) = a_nu (t_b v) (y_ev x (0, [(0, 1)])) (y_ev x (0, [(1, 1)])).toNat (y_ev x (9, [])) := h.2.2.2.1
    (try rw [E0] at T0); (try rw [E1] at T0); (try rw [E2] at T0); (try rw [E3] at T0)
    have T1 : q_run2 (t_b v) (y_ev x (0, [(0, 1)])) (y_ev x (0, [(1, 1)])) (y_ev x (0, [])) (y_ev x (0, [])) (y_ev x (0, [])) (y_ev x (0, [(3, 1)])) (y_ev x (0, [(4, 1)])) (y_ev x (0, [(5, 1)])) (y_ev x (0, [(6, 1)])) (y_ev x (0, [(15, 1)])) := h.2.2.2.2.1
    (try rw [E0] at T1); (try rw [E1] at T1); (try rw [E4] at T1); (try rw [E5] at T1); (try rw [E6] at T1); (try rw [E7] at T1); (try rw [E8] at T1); (try rw [E9] at T1)
    have T2 : q_run2 (t_b v) (y_ev x (0, [(0, 1)])) (y_ev x (0, [(2, 1)])) (y_ev x (0, [])) (y_ev x (0, [])) (y_ev x (0, [])) (y_ev x (0, [(7, 1)])) (y_ev x (0, [(8, 1)])) (y_ev x (0, [(9, 1)])) (y_ev x (0, [(10, 1)])) (y_ev x (0, [(16, 1)])) := h.2.2.2.2.2.1
    (try rw [E0] at T2); (try rw [E10] at T2); (try rw [E4] at T2); (try rw [E11] at T2); (try rw [E12] at T2); (try rw [E13] at T2); (try rw [E14] at T2); (try rw [E15] at T2)
    have T3 : q_tok (t_b v) (y_ev x (0, [(0, 1)])) (y_ev x (0, [(1, 1)])) (y_ev x (0, [(11, 1)])) (y_ev x (0, [(12, 1)])) (y_ev x (0, [(13, 1)])) := h.2.2.2.2.2.2.1
    (try rw [E0] at T3); (try rw [E1] at T3); (try rw [E16] at T3); (try rw [E17] at T3); (try rw [E18] at T3)
    have K := k_numMb_9 (V := v) (n := x 0) (c := x 1) (d := x 2) (H := x 3) (L := x 4) (W := x 5) (P := x 6) (H2 := x 7) (L2 := x 8) (W2 := x 9) (P2 := x 10) (kd := x 11) (s := x 12) (v := x 13) (w := x 14) (S := x 15) (S2 := x 16) T0 T1 T2 T3 C0 C1 C2 C3
    refine l_outH rfl (And.intro h.1 ?_)
    have O0 : y_ev x (0, [(0, 1)]) = x 0 := l_e1 _ _
    have O1 : y_ev x (0, [(2, 1)]) = x 2 := l_e1 _ _
    have O2 : y_ev x (9, []) = 9 := l_e0 _ _
    have O3 : y_ev x (0, [(14, 1)]) = x 14 := l_e1 _ _
    show (True) ∧ ((0 ≤ (y_ev x (0, [(2, 1)])) ∧ (y_ev x (0, [(14, 1)])) = a_nu (t_b v) (y_ev x (0, [(0, 1)])) (y_ev x (0, [(2, 1)])).toNat (y_ev x (9, []))) ∧ True)
    (try rw [O0]); (try rw [O1]); (try rw [O2]); (try rw [O3])
    exact K
def lm_523 : zLem := (([((-2147483648), 2147483647), ((-2147483648), 2147483647), ((-2147483648), 2147483647), ((-2147483648), 2147483647), ((-2147483648), 2147483647), ((-2147483648), 2147483647), ((-2147483648), 2147483647), ((-9223372036854775808), 9223372036854775807), ((-2147483648), 2147483647), ((-2147483648), 2147483647)], [(1, false)], [], [], [], [(0, (false, 4, 0, []), 0, 0, 0, [(1, 1)])], [(86, [(0, [(0, 1)]), (0, [(1, 1)]), (9, []), (0, [(8, 1)])]), (40, [(0, [(0, 1)]), (0, [(1, 1)]), (0, []), (0, []), (0, []), (0, [(2, 1)]), (0, [(3, 1)]), (0, [(4, 1)]), (0, [(5, 1)]), (0, [(9, 1)])]), (36, [(0, [(0, 1)]), (0, [(1, 1)]), (0, []), (0, [(6, 1)]), (0, [(7, 1)])])]), [([((-2147483648), 2147483647), ((-2147483648), 2147483647), ((-2147483648), 2147483647), ((-2147483648), 2147483647), ((-2147483648), 2147483647), ((-2147483648), 2147483647), ((-2147483648), 2147483647), ((-9223372036854775808), 9223372036854775807), ((-2147483648), 2147483647), ((-2147483648), 2147483647)], [(1, false)], [], [], [], [], [(87, [(0, [(0, 1)]), (9, []), (0, [(8, 1)])])])])
theorem lk_523 : l_core lm_523 := by
  first
  | skip
    intro v x h
    have K := k_fnm_9 (V := v) (n := x 0) (c := x 1) (H := x 2) (L := x 3) (W := x 4) (P := x 5) (s := x 6) (v := x 7) (w := x 8) (S := x 9) (l_c4 (fun w0 w1 w2 w3 : Int => 0 ≤ w1 ∧ w3 = a_nu (t_b v) w0 w1.toNat w2) (l_e1 x 0) (l_e1 x 1) (l_e0 x (9)) (l_e1 x 8) (h.2.2.2.1)) (l_c8 (fun w0 w1 w2 w3 w4 w5 w6 w7 : Int => q_run2 (t_b v) w0 w1 w2 w2 w2 w3 w4 w5 w6 w7) (l_e1 x 0) (l_e1 x 1) (l_e0 x (0)) (l_e1 x 2) (l_e1 x 3) (l_e1 x 4) (l_e1 x 5) (l_e1 x 9) (h.2.2.2.2.1)) (l_c5 (fun w0 w1 w2 w3 w4 : Int => q_tok (t_b v) w0 w1 w2 w3 w4) (l_e1 x 0) (l_e1 x 1) (l_e0 x (0)) (l_e1 x 6) (l_e1 x 7) (h.2.2.2.2.2.1))
    refine l_outH rfl (And.intro h.1 ?_)
    exact l_o3 (fun w0 w1 w2 : Int => (True) ∧ ((∃ c : Nat, q_end (t_b v) w0 c ∧ w2 = a_nu (t_b v) w0 c w1) ∧ True)) (l_e1 x 0) (l_e0 x (9)) (l_e1 x 8) K
  | skip
    intro v x h
    have E0 : y_ev x (0, [(0, 1)]) = x 0 := (l_e1 _ _)
    have E1 : y_ev x (0, [(1, 1)]) = x 1 := (l_e1 _ _)
    have E2 : y_ev x (9, []) = 9 := (l_e0 _ _)
    have E3 : y_ev x (0, [(8, 1)]) = x 8 := (l_e1 _ _)
    have E4 : y_ev x (0, []) = 0 := (l_e0 _ _)
    have E5 : y_ev x (0, [(2, 1)]) = x 2 := (l_e1 _ _)
    have E6 : y_ev x (0, [(3, 1)]) = x 3 := (l_e1 _ _)
    have E7 : y_ev x (0, [(4, 1)]) = x 4 := (l_e1 _ _)
    have E8 : y_ev x (0, [(5, 1)]) = x 5 := (l_e1 _ _)
    have E9 : y_ev x (0, [(9, 1)]) = x 9 := (l_e1 _ _)
    have E10 : y_ev x (0, [(6, 1)]) = x 6 := (l_e1 _ _)
    have E11 : y_ev x (0, [(7, 1)]) = x 7 := (l_e1 _ _)
    have T0 : 0 ≤ (y_ev x (0, [(1, 1)])) ∧ (y_ev x (0, [(8, 1)])) = a_nu (t_b v) (y_ev x (0, [(0, 1)])) (y_ev x (0, [(1, 1)])).toNat (y_ev x (9, [])) := h.2.2.2.1
    (try rw [E0] at T0); (try rw [E1] at T0); (try rw [E2] at T0); (try rw [E3] at T0)
    have T1 : q_run2 (t_b v) (y_ev x (0, [(0, 1)])) (y_ev x (0, [(1, 1)])) (y_ev x (0, [])) (y_ev x (0, [])) (y_ev x (0, [])) (y_ev x (0, [(2, 1)])) (y_ev x (0, [(3, 1)])) (y_ev x (0, [(4, 1)])) (y_ev x (0, [(5, 1)])) (y_ev x (0, [(9, 1)])) := h.2.2.2.2.1
    (try rw [E0] at T1); (try rw [E1] at T1); (try rw [E4] at T1); (try rw [E5] at T1); (try rw [E6] at T1); (try rw [E7] at T1); (try rw [E8] at T1); (try rw [E9] at T1)
    have T2 : q_tok (t_b v) (y_ev x (0, [(0, 1)])) (y_ev x (0, [(1, 1)])) (y_ev x (0, [])) (y_ev x (0, [(6, 1)])) (y_ev x (0, [(7, 1)])) := h.2.2.2.2.2.1
    (try rw [E0] at T2); (try rw [E1] at T2); (try rw [E4] at T2); (try rw [E10] at T2); (try rw [E11] at T2)
    have K := k_fnm_9 (V := v) (n := x 0) (c := x 1) (H := x 2) (L := x 3) (W := x 4) (P := x 5) (s := x 6) (v := x 7) (w := x 8) (S := x 9) T0 T1 T2
    refine l_outH rfl (And.intro h.1 ?_)
    have O0 : y_ev x (0, [(0, 1)]) = x 0 := l_e1 _ _
    have O1 : y_ev x (9, []) = 9 := l_e0 _ _
    have O2 : y_ev x (0, [(8, 1)]) = x 8 := l_e1 _ _
    show (True) ∧ ((∃ c : Nat, q_end (t_b v) (y_ev x (0, [(0, 1)])) c ∧ (y_ev x (0, [(8, 1)])) = a_nu (t_b v) (y_ev x (0, [(0, 1)])) c (y_ev x (9, []))) ∧ True)
    (try rw [O0]); (try rw [O1]); (try rw [O2])
    exact K
def lm_524 : zLem := (([((-2147483648), 2147483647), ((-2147483648), 2147483647), ((-2147483648), 2147483647), ((-2147483648), 2147483647), ((-2147483648), 2147483647), ((-2147483648), 2147483647)], [], [], [], [], [], [(40, [(0, [(0, 1)]), (0, []), (0, []), (0, []), (0, []), (0, [(1, 1)]), (0, [(2, 1)]), (0, [(3, 1)]), (0, [(4, 1)]), (0, [(5, 1)])])]), [([((-2147483648), 2147483647), ((-2147483648), 2147483647), ((-2147483648), 2147483647), ((-2147483648), 2147483647), ((-2147483648), 2147483647), ((-2147483648), 2147483647)], [], [], [], [], [], [(86, [(0, [(0, 1)]), (0, []), (10, []), (10, [])])])])
theorem lk_524 : l_core lm_524 := by
  first
  | skip
    intro v x h
    have K := k_num0_10 (V := v) (n := x 0) (H := x 1) (L := x 2) (W := x 3) (P := x 4) (S := x 5) (l_c7 (fun w0 w1 w2 w3 w4 w5 w6 : Int => q_run2 (t_b v) w0 w1 w1 w1 w1 w2 w3 w4 w5 w6) (l_e1 x 0) (l_e0 x (0)) (l_e1 x 1) (l_e1 x 2) (l_e1 x 3) (l_e1 x 4) (l_e1 x 5) (h.2.2.2.1))
    refine l_outH rfl (And.intro h.1 ?_)
    exact l_o3 (fun w0 w1 w2 : Int => (True) ∧ ((0 ≤ w1 ∧ w2 = a_nu (t_b v) w0 w1.toNat w2) ∧ True)) (l_e1 x 0) (l_e0 x (0)) (l_e0 x (10)) K
  | skip
    intro v x h
    have E0 : y_ev x (0, [(0, 1)]) = x 0 := (l_e1 _ _)
    have E1 : y_ev x (0, []) = 0 := (l_e0 _ _)
    have E2 : y_ev x (0, [(1, 1)]) = x 1 := (l_e1 _ _)
    have E3 : y_ev x (0, [(2, 1)]) = x 2 := (l_e1 _ _)
    have E4 : y_ev x (0, [(3, 1)]) = x 3 := (l_e1 _ _)
    have E5 : y_ev x (0, [(4, 1)]) = x 4 := (l_e1 _ _)
    have E6 : y_ev x (0, [(5, 1)]) = x 5 := (l_e1 _ _)
    have T0 : q_run2 (t_b v) (y_ev x (0, [(0, 1)])) (y_ev x (0, [])) (y_ev x (0, [])) (y_ev x (0, [])) (y_ev x (0, [])) (y_ev x (0, [(1, 1)])) (y_ev x (0, [(2, 1)])) (y_ev x (0, [(3, 1)])) (y_ev x (0, [(4, 1)])) (y_ev x (0, [(5, 1)])) := h.2.2.2.1
    (try rw [E0] at T0); (try rw [E1] at T0); (try rw [E2] at T0); (try rw [E3] at T0); (try rw [E4] at T0); (try rw [E5] at T0); (try rw [E6] at T0)
    have K := k_num0_10 (V := v) (n := x 0) (H := x 1) (L := x 2) (W := x 3) (P := x 4) (S := x 5) T0
    refine l_outH rfl (And.intro h.1 ?_)
    have O0 : y_ev x (0, [(0, 1)]) = x 0 := l_e1 _ _
    have O1 : y_ev x (0, []) = 0 := l_e0 _ _
    have O2 : y_ev x (10, []) = 10 := l_e0 _ _
    show (True) ∧ ((0 ≤ (y_ev x (0, [])) ∧ (y_ev x (10, [])) = a_nu (t_b v) (y_ev x (0, [(0, 1)])) (y_ev x (0, [])).toNat (y_ev x (10, []))) ∧ True)
    (try rw [O0]); (try rw [O1]); (try rw [O2])
    exact K
def lm_525pg_0 (t : List zTg) : List zTg := (40, [(0, [(0, 1)]), ((-1), [(1, 1)]), (13, []), (0, []), (0, []), (0, [(2, 1)]), (0, [(3, 1)]), (0, [(4, 1)]), (0, [(5, 1)]), (0, [(13, 1)])]) :: (40, [(0, [(0, 1)]), ((-3), [(1, 1)]), (0, []), (0, []), (0, []), (0, [(6, 1)]), (0, [(7, 1)]), (0, [(8, 1)]), (0, [(9, 1)]), (0, [(14, 1)])]) :: (36, [(0, [(0, 1)]), ((-3), [(1, 1)]), (259, []), (0, [(10, 1)]), (0, [(11, 1)])]) :: (61, [(0, [(0, 1)]), ((-2), [(1, 1)]), (0, [(12, 1)])]) :: t
def lm_525p : zS := ((lm_520pi_0 (lm_520pi_1 [])), [(1, false)], [(400, [(1, (-1))]), ((-3), [(1, 1)])], [], [], [(0, (false, 4, 0, []), 0, 0, 0, [(1, 1)])], (lm_525pg_0 []))
def lm_525 : zLem := (lm_525p, [([((-2147483648), 2147483647), ((-2147483648), 2147483647), ((-2147483648), 2147483647), ((-2147483648), 2147483647), ((-2147483648), 2147483647), ((-2147483648), 2147483647), ((-2147483648), 2147483647), ((-2147483648), 2147483647), ((-2147483648), 2147483647), ((-2147483648), 2147483647), ((-2147483648), 2147483647), ((-9223372036854775808), 9223372036854775807), ((-2147483648), 2147483647), ((-2147483648), 2147483647), ((-2147483648), 2147483647)], [(1, false)], [], [], [], [], [(86, [(0, [(0, 1)]), (0, [(1, 1)]), (10, []), (0, [(12, 1)])])])])
theorem lk_525 : l_core lm_525 := by
  first
  | skip
    intro v x h
    have K := k_numS_10 (V := v) (n := x 0) (d := x 1) (H := x 2) (L := x 3) (W := x 4) (P := x 5) (H2 := x 6) (L2 := x 7) (W2 := x 8) (P2 := x 9) (s := x 10) (v := x 11) (u := x 12) (S := x 13) (S2 := x 14) (l_c9 (fun w0 w1 w2 w3 w4 w5 w6 w7 w8 : Int => q_run2 (t_b v) w0 w1 w2 w3 w3 w4 w5 w6 w7 w8) (l_e1 x 0) (l_q2 1 x 1) (l_e0 x (13)) (l_e0 x (0)) (l_e1 x 2) (l_e1 x 3) (l_e1 x 4) (l_e1 x 5) (l_e1 x 13) (h.2.2.2.1)) (l_c8 (fun w0 w1 w2 w3 w4 w5 w6 w7 : Int => q_run2 (t_b v) w0 w1 w2 w2 w2 w3 w4 w5 w6 w7) (l_e1 x 0) (l_q2 3 x 1) (l_e0 x (0)) (l_e1 x 6) (l_e1 x 7) (l_e1 x 8) (l_e1 x 9) (l_e1 x 14) (h.2.2.2.2.1)) (l_c5 (fun w0 w1 w2 w3 w4 : Int => q_tok (t_b v) w0 w1 w2 w3 w4) (l_e1 x 0) (l_q2 3 x 1) (l_e0 x (259)) (l_e1 x 10) (l_e1 x 11) (h.2.2.2.2.2.1)) (l_c3 (fun w0 w1 w2 : Int => tk (t_b v) w0 w1.toNat = 3 ∧ w2 = tx (t_b v) w0 w1.toNat) (l_e1 x 0) (l_q2 2 x 1) (l_e1 x 12) (h.2.2.2.2.2.2.1)) (l_cc (l_q1 400 x 1) (h.2.1.1)) (l_cc (l_q2 3 x 1) (h.2.1.2.1))
    refine l_outH rfl (And.intro h.1 ?_)
    exact l_o4 (fun w0 w1 w2 w3 : Int => (True) ∧ ((0 ≤ w1 ∧ w3 = a_nu (t_b v) w0 w1.toNat w2) ∧ True)) (l_e1 x 0) (l_e1 x 1) (l_e0 x (10)) (l_e1 x 12) K
  | skip
    intro v x h
    have C0 : (0 : Int) ≤ 400 - x 1 := l_cc (a := y_ev x (400, [(1, (-1))])) (by show ((400) : Int) + ((-1) * x 1 + 0) = 400 - x 1; omega) (h.2.1.1)
    have C1 : (0 : Int) ≤ x 1 - 3 := l_cc (a := y_ev x ((-3), [(1, 1)])) (by show ((-3) : Int) + ((1) * x 1 + 0) = x 1 - 3; omega) (h.2.1.2.1)
    have E0 : y_ev x (0, [(0, 1)]) = x 0 := (l_e1 _ _)
    have E1 : y_ev x ((-1), [(1, 1)]) = x 1 - 1 := (by show ((-1) : Int) + ((1) * x 1 + 0) = x 1 - 1; omega)
    have E2 : y_ev x (13, []) = 13 := (l_e0 _ _)
    have E3 : y_ev x (0, []) = 0 := (l_e0 _ _)
    have E4 : y_ev x (0, [(2, 1)]) = x 2 := (l_e1 _ _)
    have E5 : y_ev x (0, [(3, 1)]) = x 3 := (l_e1 _ _)
    have E6 : y_ev x (0, [(4, 1)]) = x 4 := (l_e1 _ _)
    have E7 : y_ev x (0, [(5, 1)]) = x 5 := (l_e1 _ _)
    have E8 : y_ev x (0, [(13, 1)]) = x 13 := (l_e1 _ _)
    have E9 : y_ev x ((-3), [(1, 1)]) = x 1 - 3 := (by show ((-3) : Int) + ((1) * x 1 + 0) = x 1 - 3; omega)
    have E10 : y_ev x (0, [(6, 1)]) = x 6 := (l_e1 _ _)
    have E11 : y_ev x (0, [(7, 1)]) = x 7 := (l_e1 _ _)
    have E12 : y_ev x (0, [(8, 1)]) = x 8 := (l_e1 _ _)
    have E13 : y_ev x (0, [(9, 1)]) = x 9 := (l_e1 _ _)
    have E14 : y_ev x (0, [(14, 1)]) = x 14 := (l_e1 _ _)
    have E15 : y_ev x (259, []) = 259 := (l_e0 _ _)
    have E16 : y_ev x (0, [(10, 1)]) = x 10 := (l_e1 _ _)
    have E17 : y_ev x (0, [(11, 1)]) = x 11 := (l_e1 _ _)
    have E18 : y_ev x ((-2), [(1, 1)]) = x 1 - 2 := (by show ((-2) : Int) + ((1) * x 1 + 0) = x 1 - 2; omega)
    have E19 : y_ev x (0, [(12, 1)]) = x 12 := (l_e1 _ _)
    have T0 : q_run2 (t_b v) (y_ev x (0, [(0, 1)])) (y_ev x ((-1), [(1, 1)])) (y_ev x (13, [])) (y_ev x (0, [])) (y_ev x (0, [])) (y_ev x (0, [(2, 1)])) (y_ev x (0, [(3, 1)])) (y_ev x (0, [(4, 1)])) (y_ev x (0, [(5, 1)])) (y_ev x (0, [(13, 1)])) := h.2.2.2.1
    (try rw [E0] at T0); (try rw [E1] at T0); (try rw [E2] at T0); (try rw [E3] at T0); (try rw [E4] at T0); (try rw [E5] at T0); (try rw [E6] at T0); (try rw [E7] at T0); (try rw [E8] at T0)
    have T1 : q_run2 (t_b v) (y_ev x (0, [(0, 1)])) (y_ev x ((-3), [(1, 1)])) (y_ev x (0, [])) (y_ev x (0, [])) (y_ev x (0, [])) (y_ev x (0, [(6, 1)])) (y_ev x (0, [(7, 1)])) (y_ev x (0, [(8, 1)])) (y_ev x (0, [(9, 1)])) (y_ev x (0, [(14, 1)])) := h.2.2.2.2.1
    (try rw [E0] at T1); (try rw [E9] at T1); (try rw [E3] at T1); (try rw [E10] at T1); (try rw [E11] at T1); (try rw [E12] at T1); (try rw [E13] at T1); (try rw [E14] at T1)
    have T2 : q_tok (t_b v) (y_ev x (0, [(0, 1)])) (y_ev x ((-3), [(1, 1)])) (y_ev x (259, [])) (y_ev x (0, [(10, 1)])) (y_ev x (0, [(11, 1)])) := h.2.2.2.2.2.1
    (try rw [E0] at T2); (try rw [E9] at T2); (try rw [E15] at T2); (try rw [E16] at T2); (try rw [E17] at T2)
    have T3 : tk (t_b v) (y_ev x (0, [(0, 1)])) (y_ev x ((-2), [(1, 1)])).toNat = 3 ∧ (y_ev x (0, [(12, 1)])) = tx (t_b v) (y_ev x (0, [(0, 1)])) (y_ev x ((-2), [(1, 1)])).toNat := h.2.2.2.2.2.2.1
    (try rw [E0] at T3); (try rw [E18] at T3); (try rw [E19] at T3)
    have K := k_numS_10 (V := v) (n := x 0) (d := x 1) (H := x 2) (L := x 3) (W := x 4) (P := x 5) (H2 := x 6) (L2 := x 7) (W2 := x 8) (P2 := x 9) (s := x 10) (v := x 11) (u := x 12) (S := x 13) (S2 := x 14) T0 T1 T2 T3 C0 C1
    refine l_outH rfl (And.intro h.1 ?_)
    have O0 : y_ev x (0, [(0, 1)]) = x 0 := l_e1 _ _
    have O1 : y_ev x (0, [(1, 1)]) = x 1 := l_e1 _ _
    have O2 : y_ev x (10, []) = 10 := l_e0 _ _
    have O3 : y_ev x (0, [(12, 1)]) = x 12 := l_e1 _ _
    show (True) ∧ ((0 ≤ (y_ev x (0, [(1, 1)])) ∧ (y_ev x (0, [(12, 1)])) = a_nu (t_b v) (y_ev x (0, [(0, 1)])) (y_ev x (0, [(1, 1)])).toNat (y_ev x (10, []))) ∧ True)
    (try rw [O0]); (try rw [O1]); (try rw [O2]); (try rw [O3])
    exact K
def lm_526pg_0 (t : List zTg) : List zTg := (86, [(0, [(0, 1)]), (0, [(1, 1)]), (10, []), (0, [(14, 1)])]) :: (40, [(0, [(0, 1)]), (0, [(1, 1)]), (0, []), (0, []), (0, []), (0, [(3, 1)]), (0, [(4, 1)]), (0, [(5, 1)]), (0, [(6, 1)]), (0, [(15, 1)])]) :: (40, [(0, [(0, 1)]), (0, [(2, 1)]), (0, []), (0, []), (0, []), (0, [(7, 1)]), (0, [(8, 1)]), (0, [(9, 1)]), (0, [(10, 1)]), (0, [(16, 1)])]) :: (36, [(0, [(0, 1)]), (0, [(1, 1)]), (0, [(11, 1)]), (0, [(12, 1)]), (0, [(13, 1)])]) :: t
def lm_526p : zS := ((lm_521pi_0 (lm_521pi_1 (lm_521pi_2 []))), [(1, false)], [(0, [(1, (-1)), (2, 1)]), (1, [(15, 1), (16, (-1))]), ((-1), [(15, (-1)), (16, 1)]), (258, [(11, (-1))])], [], [], [(0, (false, 4, 0, []), 0, 0, 0, [(2, 1)])], (lm_526pg_0 []))
def lm_526 : zLem := (lm_526p, [([((-2147483648), 2147483647), ((-2147483648), 2147483647), ((-2147483648), 2147483647), ((-2147483648), 2147483647), ((-2147483648), 2147483647), ((-2147483648), 2147483647), ((-2147483648), 2147483647), ((-2147483648), 2147483647), ((-2147483648), 2147483647), ((-2147483648), 2147483647), ((-2147483648), 2147483647), ((-2147483648), 2147483647), ((-2147483648), 2147483647), ((-9223372036854775808), 9223372036854775807), ((-2147483648), 2147483647), ((-2147483648), 2147483647), ((-2147483648), 2147483647)], [(1, false)], [], [], [], [], [(86, [(0, [(0, 1)]), (0, [(2, 1)]), (10, []), (0, [(14, 1)])])])])
theorem lk_526 : l_core lm_526 := by
  first
  | skip
    intro v x h
    have K := k_numMa_10 (V := v) (n := x 0) (c := x 1) (d := x 2) (H := x 3) (L := x 4) (W := x 5) (P := x 6) (H2 := x 7) (L2 := x 8) (W2 := x 9) (P2 := x 10) (kd := x 11) (s := x 12) (v := x 13) (w := x 14) (S := x 15) (S2 := x 16) (l_c4 (fun w0 w1 w2 w3 : Int => 0 ≤ w1 ∧ w3 = a_nu (t_b v) w0 w1.toNat w2) (l_e1 x 0) (l_e1 x 1) (l_e0 x (10)) (l_e1 x 14) (h.2.2.2.1)) (l_c8 (fun w0 w1 w2 w3 w4 w5 w6 w7 : Int => q_run2 (t_b v) w0 w1 w2 w2 w2 w3 w4 w5 w6 w7) (l_e1 x 0) (l_e1 x 1) (l_e0 x (0)) (l_e1 x 3) (l_e1 x 4) (l_e1 x 5) (l_e1 x 6) (l_e1 x 15) (h.2.2.2.2.1)) (l_c8 (fun w0 w1 w2 w3 w4 w5 w6 w7 : Int => q_run2 (t_b v) w0 w1 w2 w2 w2 w3 w4 w5 w6 w7) (l_e1 x 0) (l_e1 x 2) (l_e0 x (0)) (l_e1 x 7) (l_e1 x 8) (l_e1 x 9) (l_e1 x 10) (l_e1 x 16) (h.2.2.2.2.2.1)) (l_c5 (fun w0 w1 w2 w3 w4 : Int => q_tok (t_b v) w0 w1 w2 w3 w4) (l_e1 x 0) (l_e1 x 1) (l_e1 x 11) (l_e1 x 12) (l_e1 x 13) (h.2.2.2.2.2.2.1)) (l_cc (l_q4 x 1 2) (h.2.1.1)) (l_cc (l_q13 1 x 15 16) (h.2.1.2.1)) (l_cc (l_q6 1 x 15 16) (h.2.1.2.2.1)) (l_cc (l_q1 258 x 11) (h.2.1.2.2.2.1))
    refine l_outH rfl (And.intro h.1 ?_)
    exact l_o4 (fun w0 w1 w2 w3 : Int => (True) ∧ ((0 ≤ w1 ∧ w3 = a_nu (t_b v) w0 w1.toNat w2) ∧ True)) (l_e1 x 0) (l_e1 x 2) (l_e0 x (10)) (l_e1 x 14) K
  | skip
    intro v x h
    have C0 : (0 : Int) ≤ x 2 - x 1 := l_cc (a := y_ev x (0, [(1, (-1)), (2, 1)])) (by show ((0) : Int) + ((-1) * x 1 + ((1) * x 2 + 0)) = x 2 - x 1; omega) (h.2.1.1)
    have C1 : (0 : Int) ≤ x 15 - x 16 + 1 := l_cc (a := y_ev x (1, [(15, 1), (16, (-1))])) (by show ((1) : Int) + ((1) * x 15 + ((-1) * x 16 + 0)) = x 15 - x 16 + 1; omega) (h.2.1.2.1)
    have C2 : (0 : Int) ≤ x 16 - x 15 - 1 := l_cc (a := y_ev x ((-1), [(15, (-1)), (16, 1)])) (by show ((-1) : Int) + ((-1) * x 15 + ((1) * x 16 + 0)) = x 16 - x 15 - 1; omega) (h.2.1.2.2.1)
    have C3 : (0 : Int) ≤ 258 - x 11 := l_cc (a := y_ev x (258, [(11, (-1))])) (by show ((258) : Int) + ((-1) * x 11 + 0) = 258 - x 11; omega) (h.2.1.2.2.2.1)
    have E0 : y_ev x (0, [(0, 1)]) = x 0 := (l_e1 _ _)
    have E1 : y_ev x (0, [(1, 1)]) = x 1 := (l_e1 _ _)
    have E2 : y_ev x (10, []) = 10 := (l_e0 _ _)
    have E3 : y_ev x (0, [(14, 1)]) = x 14 := (l_e1 _ _)
    have E4 : y_ev x (0, []) = 0 := (l_e0 _ _)
    have E5 : y_ev x (0, [(3, 1)]) = x 3 := (l_e1 _ _)
    have E6 : y_ev x (0, [(4, 1)]) = x 4 := (l_e1 _ _)
    have E7 : y_ev x (0, [(5, 1)]) = x 5 := (l_e1 _ _)
    have E8 : y_ev x (0, [(6, 1)]) = x 6 := (l_e1 _ _)
    have E9 : y_ev x (0, [(15, 1)]) = x 15 := (l_e1 _ _)
    have E10 : y_ev x (0, [(2, 1)]) = x 2 := (l_e1 _ _)
    have E11 : y_ev x (0, [(7, 1)]) = x 7 := (l_e1 _ _)
    have E12 : y_ev x (0, [(8, 1)]) = x 8 := (l_e1 _ _)
    have E13 : y_ev x (0, [(9, 1)]) = x 9 := (l_e1 _ _)
    have E14 : y_ev x (0, [(10, 1)]) = x 10 := (l_e1 _ _)
    have E15 : y_ev x (0, [(16, 1)]) = x 16 := (l_e1 _ _)
    have E16 : y_ev x (0, [(11, 1)]) = x 11 := (l_e1 _ _)
    have E17 : y_ev x (0, [(12, 1)]) = x 12 := (l_e1 _ _)
    have E18 : y_ev x (0, [(13, 1)]) = x 13 := (l_e1 _ _)
    have T0 : 0 ≤ (y_ev x (0, [(1, 1)])) ∧ (y_ev x (0, [(14, 1)])) = a_nu (t_b v) (y_ev x (0, [(0, 1)])) (y_ev x (0, [(1, 1)])).toNat (y_ev x (10, [])) := h.2.2.2.1
    (try rw [E0] at T0); (try rw [E1] at T0); (try rw [E2] at T0); (try rw [E3] at T0)
    have T1 : q_run2 (t_b v) (y_ev x (0, [(0, 1)])) (y_ev x (0, [(1, 1)])) (y_ev x (0, [])) (y_ev x (0, [])) (y_ev x (0, [])) (y_ev x (0, [(3, 1)])) (y_ev x (0, [(4, 1)])) (y_ev x (0, [(5, 1)])) (y_ev x (0, [(6, 1)])) (y_ev x (0, [(15, 1)])) := h.2.2.2.2.1
    (try rw [E0] at T1); (try rw [E1] at T1); (try rw [E4] at T1); (try rw [E5] at T1); (try rw [E6] at T1); (try rw [E7] at T1); (try rw [E8] at T1); (try rw [E9] at T1)
    have T2 : q_run2 (t_b v) (y_ev x (0, [(0, 1)])) (y_ev x (0, [(2, 1)])) (y_ev x (0, [])) (y_ev x (0, [])) (y_ev x (0, [])) (y_ev x (0, [(7, 1)])) (y_ev x (0, [(8, 1)])) (y_ev x (0, [(9, 1)])) (y_ev x (0, [(10, 1)])) (y_ev x (0, [(16, 1)])) := h.2.2.2.2.2.1
    (try rw [E0] at T2); (try rw [E10] at T2); (try rw [E4] at T2); (try rw [E11] at T2); (try rw [E12] at T2); (try rw [E13] at T2); (try rw [E14] at T2); (try rw [E15] at T2)
    have T3 : q_tok (t_b v) (y_ev x (0, [(0, 1)])) (y_ev x (0, [(1, 1)])) (y_ev x (0, [(11, 1)])) (y_ev x (0, [(12, 1)])) (y_ev x (0, [(13, 1)])) := h.2.2.2.2.2.2.1
    (try rw [E0] at T3); (try rw [E1] at T3); (try rw [E16] at T3); (try rw [E17] at T3); (try rw [E18] at T3)
    have K := k_numMa_10 (V := v) (n := x 0) (c := x 1) (d := x 2) (H := x 3) (L := x 4) (W := x 5) (P := x 6) (H2 := x 7) (L2 := x 8) (W2 := x 9) (P2 := x 10) (kd := x 11) (s := x 12) (v := x 13) (w := x 14) (S := x 15) (S2 := x 16) T0 T1 T2 T3 C0 C1 C2 C3
    refine l_outH rfl (And.intro h.1 ?_)
    have O0 : y_ev x (0, [(0, 1)]) = x 0 := l_e1 _ _
    have O1 : y_ev x (0, [(2, 1)]) = x 2 := l_e1 _ _
    have O2 : y_ev x (10, []) = 10 := l_e0 _ _
    have O3 : y_ev x (0, [(14, 1)]) = x 14 := l_e1 _ _
    show (True) ∧ ((0 ≤ (y_ev x (0, [(2, 1)])) ∧ (y_ev x (0, [(14, 1)])) = a_nu (t_b v) (y_ev x (0, [(0, 1)])) (y_ev x (0, [(2, 1)])).toNat (y_ev x (10, []))) ∧ True)
    (try rw [O0]); (try rw [O1]); (try rw [O2]); (try rw [O3])
    exact K
def lm_527p : zS := ((lm_521pi_0 (lm_521pi_1 (lm_521pi_2 []))), [(1, false)], [(0, [(1, (-1)), (2, 1)]), (1, [(15, 1), (16, (-1))]), ((-1), [(15, (-1)), (16, 1)]), ((-260), [(11, 1)])], [], [], [(0, (false, 4, 0, []), 0, 0, 0, [(2, 1)])], (lm_526pg_0 []))
def lm_527 : zLem := (lm_527p, [([((-2147483648), 2147483647), ((-2147483648), 2147483647), ((-2147483648), 2147483647), ((-2147483648), 2147483647), ((-2147483648), 2147483647), ((-2147483648), 2147483647), ((-2147483648), 2147483647), ((-2147483648), 2147483647), ((-2147483648), 2147483647), ((-2147483648), 2147483647), ((-2147483648), 2147483647), ((-2147483648), 2147483647), ((-2147483648), 2147483647), ((-9223372036854775808), 9223372036854775807), ((-2147483648), 2147483647), ((-2147483648), 2147483647), ((-2147483648), 2147483647)], [(1, false)], [], [], [], [], [(86, [(0, [(0, 1)]), (0, [(2, 1)]), (10, []), (0, [(14, 1)])])])])
theorem lk_527 : l_core lm_527 := by
  first
  | skip
    intro v x h
    have K := k_numMb_10 (V := v) (n := x 0) (c := x 1) (d := x 2) (H := x 3) (L := x 4) (W := x 5) (P := x 6) (H2 := x 7) (L2 := x 8) (W2 := x 9) (P2 := x 10) (kd := x 11) (s := x 12) (v := x 13) (w := x 14) (S := x 15) (S2 := x 16) (l_c4 (fun w0 w1 w2 w3 : Int => 0 ≤ w1 ∧ w3 = a_nu (t_b v) w0 w1.toNat w2) (l_e1 x 0) (l_e1 x 1) (l_e0 x (10)) (l_e1 x 14) (h.2.2.2.1)) (l_c8 (fun w0 w1 w2 w3 w4 w5 w6 w7 : Int => q_run2 (t_b v) w0 w1 w2 w2 w2 w3 w4 w5 w6 w7) (l_e1 x 0) (l_e1 x 1) (l_e0 x (0)) (l_e1 x 3) (l_e1 x 4) (l_e1 x 5) (l_e1 x 6) (l_e1 x 15) (h.2.2.2.2.1)) (l_c8 (fun w0 w1 w2 w3 w4 w5 w6 w7 : Int => q_run2 (t_b v) w0 w1 w2 w2 w2 w3 w4 w5 w6 w7) (l_e1 x 0) (l_e1 x 2) (l_e0 x (0)) (l_e1 x 7) (l_e1 x 8) (l_e1 x 9) (l_e1 x 10) (l_e1 x 16) (h.2.2.2.2.2.1)) (l_c5 (fun w0 w1 w2 w3 w4 : Int => q_tok (t_b v) w0 w1 w2 w3 w4) (l_e1 x 0) (l_e1 x 1) (l_e1 x 11) (l_e1 x 12) (l_e1 x 13) (h.2.2.2.2.2.2.1)) (l_cc (l_q4 x 1 2) (h.2.1.1)) (l_cc (l_q13 1 x 15 16) (h.2.1.2.1)) (l_cc (l_q6 1 x 15 16) (h.2.1.2.2.1)) (l_cc (l_q2 260 x 11) (h.2.1.2.2.2.1))
    refine l_outH rfl (And.intro h.1 ?_)
    exact l_o4 (fun w0 w1 w2 w3 : Int => (True) ∧ ((0 ≤ w1 ∧ w3 = a_nu (t_b v) w0 w1.toNat w2) ∧ True)) (l_e1 x 0) (l_e1 x 2) (l_e0 x (10)) (l_e1 x 14) K
  | skip
    intro v x h
    have C0 : (0 : Int) ≤ x 2 - x 1 := l_cc (a := y_ev x (0, [(1, (-1)), (2, 1)])) (by show ((0) : Int) + ((-1) * x 1 + ((1) * x 2 + 0)) = x 2 - x 1; omega) (h.2.1.1)
    have C1 : (0 : Int) ≤ x 15 - x 16 + 1 := l_cc (a := y_ev x (1, [(15, 1), (16, (-1))])) (by show ((1) : Int) + ((1) * x 15 + ((-1) * x 16 + 0)) = x 15 - x 16 + 1; omega) (h.2.1.2.1)
    have C2 : (0 : Int) ≤ x 16 - x 15 - 1 := l_cc (a := y_ev x ((-1), [(15, (-1)), (16, 1)])) (by show ((-1) : Int) + ((-1) * x 15 + ((1) * x 16 + 0)) = x 16 - x 15 - 1; omega) (h.2.1.2.2.1)
    have C3 : (0 : Int) ≤ x 11 - 260 := l_cc (a := y_ev x ((-260), [(11, 1)])) (by show ((-260) : Int) + ((1) * x 11 + 0) = x 11 - 260; omega) (h.2.1.2.2.2.1)
    have E0 : y_ev x (0, [(0, 1)]) = x 0 := (l_e1 _ _)
    have E1 : y_ev x (0, [(1, 1)]) = x 1 := (l_e1 _ _)
    have E2 : y_ev x (10, []) = 10 := (l_e0 _ _)
    have E3 : y_ev x (0, [(14, 1)]) = x 14 := (l_e1 _ _)
    have E4 : y_ev x (0, []) = 0 := (l_e0 _ _)
    have E5 : y_ev x (0, [(3, 1)]) = x 3 := (l_e1 _ _)
    have E6 : y_ev x (0, [(4, 1)]) = x 4 := (l_e1 _ _)
    have E7 : y_ev x (0, [(5, 1)]) = x 5 := (l_e1 _ _)
    have E8 : y_ev x (0, [(6, 1)]) = x 6 := (l_e1 _ _)
    have E9 : y_ev x (0, [(15, 1)]) = x 15 := (l_e1 _ _)
    have E10 : y_ev x (0, [(2, 1)]) = x 2 := (l_e1 _ _)
    have E11 : y_ev x (0, [(7, 1)]) = x 7 := (l_e1 _ _)
    have E12 : y_ev x (0, [(8, 1)]) = x 8 := (l_e1 _ _)
    have E13 : y_ev x (0, [(9, 1)]) = x 9 := (l_e1 _ _)
    have E14 : y_ev x (0, [(10, 1)]) = x 10 := (l_e1 _ _)
    have E15 : y_ev x (0, [(16, 1)]) = x 16 := (l_e1 _ _)
    have E16 : y_ev x (0, [(11, 1)]) = x 11 := (l_e1 _ _)
    have E17 : y_ev x (0, [(12, 1)]) = x 12 := (l_e1 _ _)
    have E18 : y_ev x (0, [(13, 1)]) = x 13 := (l_e1 _ _)
    have T0 : 0 ≤ (y_ev x (0, [(1, 1)])) ∧ (y_ev x (0, [(14, 1)])) = a_nu (t_b v) (y_ev x (0, [(0, 1)])) (y_ev x (0, [(1, 1)])).toNat (y_ev x (10, [])) := h.2.2.2.1
    (try rw [E0] at T0); (try rw [E1] at T0); (try rw [E2] at T0); (try rw [E3] at T0)
    have T1 : q_run2 (t_b v) (y_ev x (0, [(0, 1)])) (y_ev x (0, [(1, 1)])) (y_ev x (0, [])) (y_ev x (0, [])) (y_ev x (0, [])) (y_ev x (0, [(3, 1)])) (y_ev x (0, [(4, 1)])) (y_ev x (0, [(5, 1)])) (y_ev x (0, [(6, 1)])) (y_ev x (0, [(15, 1)])) := h.2.2.2.2.1
    (try rw [E0] at T1); (try rw [E1] at T1); (try rw [E4] at T1); (try rw [E5] at T1); (try rw [E6] at T1); (try rw [E7] at T1); (try rw [E8] at T1); (try rw [E9] at T1)
    have T2 : q_run2 (t_b v) (y_ev x (0, [(0, 1)])) (y_ev x (0, [(2, 1)])) (y_ev x (0, [])) (y_ev x (0, [])) (y_ev x (0, [])) (y_ev x (0, [(7, 1)])) (y_ev x (0, [(8, 1)])) (y_ev x (0, [(9, 1)])) (y_ev x (0, [(10, 1)])) (y_ev x (0, [(16, 1)])) := h.2.2.2.2.2.1
    (try rw [E0] at T2); (try rw [E10] at T2); (try rw [E4] at T2); (try rw [E11] at T2); (try rw [E12] at T2); (try rw [E13] at T2); (try rw [E14] at T2); (try rw [E15] at T2)
    have T3 : q_tok (t_b v) (y_ev x (0, [(0, 1)])) (y_ev x (0, [(1, 1)])) (y_ev x (0, [(11, 1)])) (y_ev x (0, [(12, 1)])) (y_ev x (0, [(13, 1)])) := h.2.2.2.2.2.2.1
    (try rw [E0] at T3); (try rw [E1] at T3); (try rw [E16] at T3); (try rw [E17] at T3); (try rw [E18] at T3)
    have K := k_numMb_10 (V := v) (n := x 0) (c := x 1) (d := x 2) (H := x 3) (L := x 4) (W := x 5) (P := x 6) (H2 := x 7) (L2 := x 8) (W2 := x 9) (P2 := x 10) (kd := x 11) (s := x 12) (v := x 13) (w := x 14) (S := x 15) (S2 := x 16) T0 T1 T2 T3 C0 C1 C2 C3
    refine l_outH rfl (And.intro h.1 ?_)
    have O0 : y_ev x (0, [(0, 1)]) = x 0 := l_e1 _ _
    have O1 : y_ev x (0, [(2, 1)]) = x 2 := l_e1 _ _
    have O2 : y_ev x (10, []) = 10 := l_e0 _ _
    have O3 : y_ev x (0, [(14, 1)]) = x 14 := l_e1 _ _
    show (True) ∧ ((0 ≤ (y_ev x (0, [(2, 1)])) ∧ (y_ev x (0, [(14, 1)])) = a_nu (t_b v) (y_ev x (0, [(0, 1)])) (y_ev x (0, [(2, 1)])).toNat (y_ev x (10, []))) ∧ True)
    (try rw [O0]); (try rw [O1]); (try rw [O2]); (try rw [O3])
    exact K
def lm_528 : zLem := (([((-2147483648), 2147483647), ((-2147483648), 2147483647), ((-2147483648), 2147483647), ((-2147483648), 2147483647), ((-2147483648), 2147483647), ((-2147483648), 2147483647), ((-2147483648), 2147483647), ((-9223372036854775808), 9223372036854775807), ((-2147483648), 2147483647), ((-2147483648), 2147483647)], [(1, false)], [], [], [], [(0, (false, 4, 0, []), 0, 0, 0, [(1, 1)])], [(86, [(0, [(0, 1)]), (0, [(1, 1)]), (10, []), (0, [(8, 1)])]), (40, [(0, [(0, 1)]), (0, [(1, 1)]), (0, []), (0, []), (0, []), (0, [(2, 1)]), (0, [(3, 1)]), (0, [(4, 1)]), (0, [(5, 1)]), (0, [(9, 1)])]), (36, [(0, [(0, 1)]), (0, [(1, 1)]), (0, []), (0, [(6, 1)]), (0, [(7, 1)])])]), [([((-2147483648), 2147483647), ((-2147483648), 2147483647), ((-2147483648), 2147483647), ((-2147483648), 2147483647), ((-2147483648), 2147483647), ((-2147483648), 2147483647), ((-2147483648), 2147483647), ((-9223372036854775808), 9223372036854775807), ((-2147483648), 2147483647), ((-2147483648), 2147483647)], [(1, false)], [], [], [], [], [(87, [(0, [(0, 1)]), (10, []), (0, [(8, 1)])])])])
theorem lk_528 : l_core lm_528 := by
  first
  | skip
    intro v x h
    have K := k_fnm_10 (V := v) (n := x 0) (c := x 1) (H := x 2) (L := x 3) (W := x 4) (P := x 5) (s := x 6) (v := x 7) (w := x 8) (S := x 9) (l_c4 (fun w0 w1 w2 w3 : Int => 0 ≤ w1 ∧ w3 = a_nu (t_b v) w0 w1.toNat w2) (l_e1 x 0) (l_e1 x 1) (l_e0 x (10)) (l_e1 x 8) (h.2.2.2.1)) (l_c8 (fun w0 w1 w2 w3 w4 w5 w6 w7 : Int => q_run2 (t_b v) w0 w1 w2 w2 w2 w3 w4 w5 w6 w7) (l_e1 x 0) (l_e1 x 1) (l_e0 x (0)) (l_e1 x 2) (l_e1 x 3) (l_e1 x 4) (l_e1 x 5) (l_e1 x 9) (h.2.2.2.2.1)) (l_c5 (fun w0 w1 w2 w3 w4 : Int => q_tok (t_b v) w0 w1 w2 w3 w4) (l_e1 x 0) (l_e1 x 1) (l_e0 x (0)) (l_e1 x 6) (l_e1 x 7) (h.2.2.2.2.2.1))
    refine l_outH rfl (And.intro h.1 ?_)
    exact l_o3 (fun w0 w1 w2 : Int => (True) ∧ ((∃ c : Nat, q_end (t_b v) w0 c ∧ w2 = a_nu (t_b v) w0 c w1) ∧ True)) (l_e1 x 0) (l_e0 x (10)) (l_e1 x 8) K
  | skip
    intro v x h
    have E0 : y_ev x (0, [(0, 1)]) = x 0 := (l_e1 _ _)
    have E1 : y_ev x (0, [(1, 1)]) = x 1 := (l_e1 _ _)
    have E2 : y_ev x (10, []) = 10 := (l_e0 _ _)
    have E3 : y_ev x (0, [(8, 1)]) = x 8 := (l_e1 _ _)
    have E4 : y_ev x (0, []) = 0 := (l_e0 _ _)
    have E5 : y_ev x (0, [(2, 1)]) = x 2 := (l_e1 _ _)
    have E6 : y_ev x (0, [(3, 1)]) = x 3 := (l_e1 _ _)
    have E7 : y_ev x (0, [(4, 1)]) = x 4 := (l_e1 _ _)
    have E8 : y_ev x (0, [(5, 1)]) = x 5 := (l_e1 _ _)
    have E9 : y_ev x (0, [(9, 1)]) = x 9 := (l_e1 _ _)
    have E10 : y_ev x (0, [(6, 1)]) = x 6 := (l_e1 _ _)
    have E11 : y_ev x (0, [(7, 1)]) = x 7 := (l_e1 _ _)
    have T0 : 0 ≤ (y_ev x (0, [(1, 1)])) ∧ (y_ev x (0, [(8, 1)])) = a_nu (t_b v) (y_ev x (0, [(0, 1)])) (y_ev x (0, [(1, 1)])).toNat (y_ev x (10, [])) := h.2.2.2.1
    (try rw [E0] at T0); (try rw [E1] at T0); (try rw [E2] at T0); (try rw [E3] at T0)
    have T1 : q_run2 (t_b v) (y_ev x (0, [(0, 1)])) (y_ev x (0, [(1, 1)])) (y_ev x (0, [])) (y_ev x (0, [])) (y_ev x (0, [])) (y_ev x (0, [(2, 1)])) (y_ev x (0, [(3, 1)])) (y_ev x (0, [(4, 1)])) (y_ev x (0, [(5, 1)])) (y_ev x (0, [(9, 1)])) := h.2.2.2.2.1
    (try rw [E0] at T1); (try rw [E1] at T1); (try rw [E4] at T1); (try rw [E5] at T1); (try rw [E6] at T1); (try rw [E7] at T1); (try rw [E8] at T1); (try rw [E9] at T1)
    have T2 : q_tok (t_b v) (y_ev x (0, [(0, 1)])) (y_ev x (0, [(1, 1)])) (y_ev x (0, [])) (y_ev x (0, [(6, 1)])) (y_ev x (0, [(7, 1)])) := h.2.2.2.2.2.1
    (try rw [E0] at T2); (try rw [E1] at T2); (try rw [E4] at T2); (try rw [E10] at T2); (try rw [E11] at T2)
    have K := k_fnm_10 (V := v) (n := x 0) (c := x 1) (H := x 2) (L := x 3) (W := x 4) (P := x 5) (s := x 6) (v := x 7) (w := x 8) (S := x 9) T0 T1 T2
    refine l_outH rfl (And.intro h.1 ?_)
    have O0 : y_ev x (0, [(0, 1)]) = x 0 := l_e1 _ _
    have O1 : y_ev x (10, []) = 10 := l_e0 _ _
    have O2 : y_ev x (0, [(8, 1)]) = x 8 := l_e1 _ _
    show (True) ∧ ((∃ c : Nat, q_end (t_b v) (y_ev x (0, [(0, 1)])) c ∧ (y_ev x (0, [(8, 1)])) = a_nu (t_b v) (y_ev x (0, [(0, 1)])) c (y_ev x (10, []))) ∧ True)
    (try rw [O0]); (try rw [O1]); (try rw [O2])
    exact K
def lm_529 : zLem := (([((-2147483648), 2147483647), ((-2147483648), 2147483647), ((-2147483648), 2147483647), ((-2147483648), 2147483647), ((-2147483648), 2147483647), ((-2147483648), 2147483647)], [], [], [], [], [], [(40, [(0, [(0, 1)]), (0, []), (0, []), (0, []), (0, []), (0, [(1, 1)]), (0, [(2, 1)]), (0, [(3, 1)]), (0, [(4, 1)]), (0, [(5, 1)])])]), [([((-2147483648), 2147483647), ((-2147483648), 2147483647), ((-2147483648), 2147483647), ((-2147483648), 2147483647), ((-2147483648), 2147483647), ((-2147483648), 2147483647)], [], [], [], [], [], [(86, [(0, [(0, 1)]), (0, []), (11, []), (0, [])])])])
theorem lk_529 : l_core lm_529 := by
  first
  | skip
    intro v x h
    have K := k_num0_11 (V := v) (n := x 0) (H := x 1) (L := x 2) (W := x 3) (P := x 4) (S := x 5) (l_c7 (fun w0 w1 w2 w3 w4 w5 w6 : Int => q_run2 (t_b v) w0 w1 w1 w1 w1 w2 w3 w4 w5 w6) (l_e1 x 0) (l_e0 x (0)) (l_e1 x 1) (l_e1 x 2) (l_e1 x 3) (l_e1 x 4) (l_e1 x 5) (h.2.2.2.1))
    refine l_outH rfl (And.intro h.1 ?_)
    exact l_o3 (fun w0 w1 w2 : Int => (True) ∧ ((0 ≤ w1 ∧ w1 = a_nu (t_b v) w0 w1.toNat w2) ∧ True)) (l_e1 x 0) (l_e0 x (0)) (l_e0 x (11)) K
  | skip
    intro v x h
    have E0 : y_ev x (0, [(0, 1)]) = x 0 := (l_e1 _ _)
    have E1 : y_ev x (0, []) = 0 := (l_e0 _ _)
    have E2 : y_ev x (0, [(1, 1)]) = x 1 := (l_e1 _ _)
    have E3 : y_ev x (0, [(2, 1)]) = x 2 := (l_e1 _ _)
    have E4 : y_ev x (0, [(3, 1)]) = x 3 := (l_e1 _ _)
    have E5 : y_ev x (0, [(4, 1)]) = x 4 := (l_e1 _ _)
    have E6 : y_ev x (0, [(5, 1)]) = x 5 := (l_e1 _ _)
    have T0 : q_run2 (t_b v) (y_ev x (0, [(0, 1)])) (y_ev x (0, [])) (y_ev x (0, [])) (y_ev x (0, [])) (y_ev x (0, [])) (y_ev x (0, [(1, 1)])) (y_ev x (0, [(2, 1)])) (y_ev x (0, [(3, 1)])) (y_ev x (0, [(4, 1)])) (y_ev x (0, [(5, 1)])) := h.2.2.2.1
    (try rw [E0] at T0); (try rw [E1] at T0); (try rw [E2] at T0); (try rw [E3] at T0); (try rw [E4] at T0); (try rw [E5] at T0); (try rw [E6] at T0)
    have K := k_num0_11 (V := v) (n := x 0) (H := x 1) (L := x 2) (W := x 3) (P := x 4) (S := x 5) T0
    refine l_outH rfl (And.intro h.1 ?_)
    have O0 : y_ev x (0, [(0, 1)]) = x 0 := l_e1 _ _
    have O1 : y_ev x (0, []) = 0 := l_e0 _ _
    have O2 : y_ev x (11, []) = 11 := l_e0 _ _
    show (True) ∧ ((0 ≤ (y_ev x (0, [])) ∧ (y_ev x (0, [])) = a_nu (t_b v) (y_ev x (0, [(0, 1)])) (y_ev x (0, [])).toNat (y_ev x (11, []))) ∧ True)
    (try rw [O0]); (try rw [O1]); (try rw [O2])
    exact K
def lm_530pg_0 (t : List zTg) : List zTg := (40, [(0, [(0, 1)]), ((-1), [(1, 1)]), (13, []), (0, []), (0, []), (0, [(2, 1)]), (0, [(3, 1)]), (0, [(4, 1)]), (0, [(5, 1)]), (0, [(13, 1)])]) :: (40, [(0, [(0, 1)]), ((-3), [(1, 1)]), (0, []), (0, []), (0, []), (0, [(6, 1)]), (0, [(7, 1)]), (0, [(8, 1)]), (0, [(9, 1)]), (0, [(14, 1)])]) :: (36, [(0, [(0, 1)]), ((-3), [(1, 1)]), (264, []), (0, [(10, 1)]), (0, [(11, 1)])]) :: (61, [(0, [(0, 1)]), ((-2), [(1, 1)]), (0, [(12, 1)])]) :: t
def lm_530p : zS := ((lm_520pi_0 (lm_520pi_1 [])), [(1, false)], [(400, [(1, (-1))]), ((-3), [(1, 1)])], [], [], [(0, (false, 4, 0, []), 0, 0, 0, [(1, 1)])], (lm_530pg_0 []))
def lm_530 : zLem := (lm_530p, [([((-2147483648), 2147483647), ((-2147483648), 2147483647), ((-2147483648), 2147483647), ((-2147483648), 2147483647), ((-2147483648), 2147483647), ((-2147483648), 2147483647), ((-2147483648), 2147483647), ((-2147483648), 2147483647), ((-2147483648), 2147483647), ((-2147483648), 2147483647), ((-2147483648), 2147483647), ((-9223372036854775808), 9223372036854775807), ((-2147483648), 2147483647), ((-2147483648), 2147483647), ((-2147483648), 2147483647)], [(1, false)], [], [], [], [], [(86, [(0, [(0, 1)]), (0, [(1, 1)]), (11, []), (0, [(12, 1)])])])])
theorem lk_530 : l_core lm_530 := by
  first
  | skip
    intro v x h
    have K := k_numS_11 (V := v) (n := x 0) (d := x 1) (H := x 2) (L := x 3) (W := x 4) (P := x 5) (H2 := x 6) (L2 := x 7) (W2 := x 8) (P2 := x 9) (s := x 10) (v := x 11) (u := x 12) (S := x 13) (S2 := x 14) (l_c9 (fun w0 w1 w2 w3 w4 w5 w6 w7 w8 : Int => q_run2 (t_b v) w0 w1 w2 w3 w3 w4 w5 w6 w7 w8) (l_e1 x 0) (l_q2 1 x 1) (l_e0 x (13)) (l_e0 x (0)) (l_e1 x 2) (l_e1 x 3) (l_e1 x 4) (l_e1 x 5) (l_e1 x 13) (h.2.2.2.1)) (l_c8 (fun w0 w1 w2 w3 w4 w5 w6 w7 : Int => q_run2 (t_b v) w0 w1 w2 w2 w2 w3 w4 w5 w6 w7) (l_e1 x 0) (l_q2 3 x 1) (l_e0 x (0)) (l_e1 x 6) (l_e1 x 7) (l_e1 x 8) (l_e1 x 9) (l_e1 x 14) (h.2.2.2.2.1)) (l_c5 (fun w0 w1 w2 w3 w4 : Int => q_tok (t_b v) w0 w1 w2 w3 w4) (l_e1 x 0) (l_q2 3 x 1) (l_e0 x (264)) (l_e1 x 10) (l_e1 x 11) (h.2.2.2.2.2.1)) (l_c3 (fun w0 w1 w2 : Int => tk (t_b v) w0 w1.toNat = 3 ∧ w2 = tx (t_b v) w0 w1.toNat) (l_e1 x 0) (l_q2 2 x 1) (l_e1 x 12) (h.2.2.2.2.2.2.1)) (l_cc (l_q1 400 x 1) (h.2.1.1)) (l_cc (l_q2 3 x 1) (h.2.1.2.1))
    refine l_outH rfl (And.intro h.1 ?_)
    exact l_o4 (fun w0 w1 w2 w3 : Int => (True) ∧ ((0 ≤ w1 ∧ w3 = a_nu (t_b v) w0 w1.toNat w2) ∧ True)) (l_e1 x 0) (l_e1 x 1) (l_e0 x (11)) (l_e1 x 12) K
  | skip
    intro v x h
    have C0 : (0 : Int) ≤ 400 - x 1 := l_cc (a := y_ev x (400, [(1, (-1))])) (by show ((400) : Int) + ((-1) * x 1 + 0) = 400 - x 1; omega) (h.2.1.1)
    have C1 : (0 : Int) ≤ x 1 - 3 := l_cc (a := y_ev x ((-3), [(1, 1)])) (by show ((-3) : Int) + ((1) * x 1 + 0) = x 1 - 3; omega) (h.2.1.2.1)
    have E0 : y_ev x (0, [(0, 1)]) = x 0 := (l_e1 _ _)
    have E1 : y_ev x ((-1), [(1, 1)]) = x 1 - 1 := (by show ((-1) : Int) + ((1) * x 1 + 0) = x 1 - 1; omega)
    have E2 : y_ev x (13, []) = 13 := (l_e0 _ _)
    have E3 : y_ev x (0, []) = 0 := (l_e0 _ _)
    have E4 : y_ev x (0, [(2, 1)]) = x 2 := (l_e1 _ _)
    have E5 : y_ev x (0, [(3, 1)]) = x 3 := (l_e1 _ _)
    have E6 : y_ev x (0, [(4, 1)]) = x 4 := (l_e1 _ _)
    have E7 : y_ev x (0, [(5, 1)]) = x 5 := (l_e1 _ _)
    have E8 : y_ev x (0, [(13, 1)]) = x 13 := (l_e1 _ _)
    have E9 : y_ev x ((-3), [(1, 1)]) = x 1 - 3 := (by show ((-3) : Int) + ((1) * x 1 + 0) = x 1 - 3; omega)
    have E10 : y_ev x (0, [(6, 1)]) = x 6 := (l_e1 _ _)
    have E11 : y_ev x (0, [(7, 1)]) = x 7 := (l_e1 _ _)
    have E12 : y_ev x (0, [(8, 1)]) = x 8 := (l_e1 _ _)
    have E13 : y_ev x (0, [(9, 1)]) = x 9 := (l_e1 _ _)
    have E14 : y_ev x (0, [(14, 1)]) = x 14 := (l_e1 _ _)
    have E15 : y_ev x (264, []) = 264 := (l_e0 _ _)
    have E16 : y_ev x (0, [(10, 1)]) = x 10 := (l_e1 _ _)
    have E17 : y_ev x (0, [(11, 1)]) = x 11 := (l_e1 _ _)
    have E18 : y_ev x ((-2), [(1, 1)]) = x 1 - 2 := (by show ((-2) : Int) + ((1) * x 1 + 0) = x 1 - 2; omega)
    have E19 : y_ev x (0, [(12, 1)]) = x 12 := (l_e1 _ _)
    have T0 : q_run2 (t_b v) (y_ev x (0, [(0, 1)])) (y_ev x ((-1), [(1, 1)])) (y_ev x (13, [])) (y_ev x (0, [])) (y_ev x (0, [])) (y_ev x (0, [(2, 1)])) (y_ev x (0, [(3, 1)])) (y_ev x (0, [(4, 1)])) (y_ev x (0, [(5, 1)])) (y_ev x (0, [(13, 1)])) := h.2.2.2.1
    (try rw [E0] at T0); (try rw [E1] at T0); (try rw [E2] at T0); (try rw [E3] at T0); (try rw [E4] at T0); (try rw [E5] at T0); (try rw [E6] at T0); (try rw [E7] at T0); (try rw [E8] at T0)
    have T1 : q_run2 (t_b v) (y_ev x (0, [(0, 1)])) (y_ev x ((-3), [(1, 1)])) (y_ev x (0, [])) (y_ev x (0, [])) (y_ev x (0, [])) (y_ev x (0, [(6, 1)])) (y_ev x (0, [(7, 1)])) (y_ev x (0, [(8, 1)])) (y_ev x (0, [(9, 1)])) (y_ev x (0, [(14, 1)])) := h.2.2.2.2.1
    (try rw [E0] at T1); (try rw [E9] at T1); (try rw [E3] at T1); (try rw [E10] at T1); (try rw [E11] at T1); (try rw [E12] at T1); (try rw [E13] at T1); (try rw [E14] at T1)
    have T2 : q_tok (t_b v) (y_ev x (0, [(0, 1)])) (y_ev x ((-3), [(1, 1)])) (y_ev x (264, [])) (y_ev x (0, [(10, 1)])) (y_ev x (0, [(11, 1)])) := h.2.2.2.2.2.1
    (try rw [E0] at T2); (try rw [E9] at T2); (try rw [E15] at T2); (try rw [E16] at T2); (try rw [E17] at T2)
    have T3 : tk (t_b v) (y_ev x (0, [(0, 1)])) (y_ev x ((-2), [(1, 1)])).toNat = 3 ∧ (y_ev x (0, [(12, 1)])) = tx (t_b v) (y_ev x (0, [(0, 1)])) (y_ev x ((-2), [(1, 1)])).toNat := h.2.2.2.2.2.2.1
    (try rw [E0] at T3); (try rw [E18] at T3); (try rw [E19] at T3)
    have K := k_numS_11 (V := v) (n := x 0) (d := x 1) (H := x 2) (L := x 3) (W := x 4) (P := x 5) (H2 := x 6) (L2 := x 7) (W2 := x 8) (P2 := x 9) (s := x 10) (v := x 11) (u := x 12) (S := x 13) (S2 := x 14) T0 T1 T2 T3 C0 C1
    refine l_outH rfl (And.intro h.1 ?_)
    have O0 : y_ev x (0, [(0, 1)]) = x 0 := l_e1 _ _
    have O1 : y_ev x (0, [(1, 1)]) = x 1 := l_e1 _ _
    have O2 : y_ev x (11, []) = 11 := l_e0 _ _
    have O3 : y_ev x (0, [(12, 1)]) = x 12 := l_e1 _ _
    show (True) ∧ ((0 ≤ (y_ev x (0, [(1, 1)])) ∧ (y_ev x (0, [(12, 1)])) = a_nu (t_b v) (y_ev x (0, [(0, 1)])) (y_ev x (0, [(1, 1)])).toNat (y_ev x (11, []))) ∧ True)
    (try rw [O0]); (try rw [O1]); (try rw [O2]); (try rw [O3])
    exact K
def lm_531pg_0 (t : List zTg) : List zTg := (86, [(0, [(0, 1)]), (0, [(1, 1)]), (11, []), (0, [(14, 1)])]) :: (40, [(0, [(0, 1)]), (0, [(1, 1)]), (0, []), (0, []), (0, []), (0, [(3, 1)]), (0, [(4, 1)]), (0, [(5, 1)]), (0, [(6, 1)]), (0, [(15, 1)])]) :: (40, [(0, [(0, 1)]), (0, [(2, 1)]), (0, []), (0, []), (0, []), (0, [(7, 1)]), (0, [(8, 1)]), (0, [(9, 1)]), (0, [(10, 1)]), (0, [(16, 1)])]) :: (36, [(0, [(0, 1)]), (0, [(1, 1)]), (0, [(11, 1)]), (0, [(12, 1)]), (0, [(13, 1)])]) :: t
def lm_531p : zS := ((lm_521pi_0 (lm_521pi_1 (lm_521pi_2 []))), [(1, false)], [(0, [(1, (-1)), (2, 1)]), (1, [(15, 1), (16, (-1))]), ((-1), [(15, (-1)), (16, 1)]), (263, [(11, (-1))])], [], [], [(0, (false, 4, 0, []), 0, 0, 0, [(2, 1)])], (lm_531pg_0 []))
def lm_531 : zLem := (lm_531p, [([((-2147483648), 2147483647), ((-2147483648), 2147483647), ((-2147483648), 2147483647), ((-2147483648), 2147483647), ((-2147483648), 2147483647), ((-2147483648), 2147483647), ((-2147483648), 2147483647), ((-2147483648), 2147483647), ((-2147483648), 2147483647), ((-2147483648), 2147483647), ((-2147483648), 2147483647), ((-2147483648), 2147483647), ((-2147483648), 2147483647), ((-9223372036854775808), 9223372036854775807), ((-2147483648), 2147483647), ((-2147483648), 2147483647), ((-2147483648), 2147483647)], [(1, false)], [], [], [], [], [(86, [(0, [(0, 1)]), (0, [(2, 1)]), (11, []), (0, [(14, 1)])])])])
theorem lk_531 : l_core lm_531 := by
  first
  | skip
    intro v x h
    have K := k_numMa_11 (V := v) (n := x 0) (c := x 1) (d := x 2) (H := x 3) (L := x 4) (W := x 5) (P := x 6) (H2 := x 7) (L2 := x 8) (W2 := x 9) (P2 := x 10) (kd := x 11) (s := x 12) (v := x 13) (w := x 14) (S := x 15) (S2 := x 16) (l_c4 (fun w0 w1 w2 w3 : Int => 0 ≤ w1 ∧ w3 = a_nu (t_b v) w0 w1.toNat w2) (l_e1 x 0) (l_e1 x 1) (l_e0 x (11)) (l_e1 x 14) (h.2.2.2.1)) (l_c8 (fun w0 w1 w2 w3 w4 w5 w6 w7 : Int => q_run2 (t_b v) w0 w1 w2 w2 w2 w3 w4 w5 w6 w7) (l_e1 x 0) (l_e1 x 1) (l_e0 x (0)) (l_e1 x 3) (l_e1 x 4) (l_e1 x 5) (l_e1 x 6) (l_e1 x 15) (h.2.2.2.2.1)) (l_c8 (fun w0 w1 w2 w3 w4 w5 w6 w7 : Int => q_run2 (t_b v) w0 w1 w2 w2 w2 w3 w4 w5 w6 w7) (l_e1 x 0) (l_e1 x 2) (l_e0 x (0)) (l_e1 x 7) (l_e1 x 8) (l_e1 x 9) (l_e1 x 10) (l_e1 x 16) (h.2.2.2.2.2.1)) (l_c5 (fun w0 w1 w2 w3 w4 : Int => q_tok (t_b v) w0 w1 w2 w3 w4) (l_e1 x 0) (l_e1 x 1) (l_e1 x 11) (l_e1 x 12) (l_e1 x 13) (h.2.2.2.2.2.2.1)) (l_cc (l_q4 x 1 2) (h.2.1.1)) (l_cc (l_q13 1 x 15 16) (h.2.1.2.1)) (l_cc (l_q6 1 x 15 16) (h.2.1.2.2.1)) (l_cc (l_q1 263 x 11) (h.2.1.2.2.2.1))
    refine l_outH rfl (And.intro h.1 ?_)
    exact l_o4 (fun w0 w1 w2 w3 : Int => (True) ∧ ((0 ≤ w1 ∧ w3 = a_nu (t_b v) w0 w1.toNat w2) ∧ True)) (l_e1 x 0) (l_e1 x 2) (l_e0 x (11)) (l_e1 x 14) K
  | skip
    intro v x h
    have C0 : (0 : Int) ≤ x 2 - x 1 := l_cc (a := y_ev x (0, [(1, (-1)), (2, 1)])) (by show ((0) : Int) + ((-1) * x 1 + ((1) * x 2 + 0)) = x 2 - x 1; omega) (h.2.1.1)
    have C1 : (0 : Int) ≤ x 15 - x 16 + 1 := l_cc (a := y_ev x (1, [(15, 1), (16, (-1))])) (by show ((1) : Int) + ((1) * x 15 + ((-1) * x 16 + 0)) = x 15 - x 16 + 1; omega) (h.2.1.2.1)
    have C2 : (0 : Int) ≤ x 16 - x 15 - 1 := l_cc (a := y_ev x ((-1), [(15, (-1)), (16, 1)])) (by show ((-1) : Int) + ((-1) * x 15 + ((1) * x 16 + 0)) = x 16 - x 15 - 1; omega) (h.2.1.2.2.1)
    have C3 : (0 : Int) ≤ 263 - x 11 := l_cc (a := y_ev x (263, [(11, (-1))])) (by show ((263) : Int) + ((-1) * x 11 + 0) = 263 - x 11; omega) (h.2.1.2.2.2.1)
    have E0 : y_ev x (0, [(0, 1)]) = x 0 := (l_e1 _ _)
    have E1 : y_ev x (0, [(1, 1)]) = x 1 := (l_e1 _ _)
    have E2 : y_ev x (11, []) = 11 := (l_e0 _ _)
    have E3 : y_ev x (0, [(14, 1)]) = x 14 := (l_e1 _ _)
    have E4 : y_ev x (0, []) = 0 := (l_e0 _ _)
    have E5 : y_ev x (0, [(3, 1)]) = x 3 := (l_e1 _ _)
    have E6 : y_ev x (0, [(4, 1)]) = x 4 := (l_e1 _ _)
    have E7 : y_ev x (0, [(5, 1)]) = x 5 := (l_e1 _ _)
    have E8 : y_ev x (0, [(6, 1)]) = x 6 := (l_e1 _ _)
    have E9 : y_ev x (0, [(15, 1)]) = x 15 := (l_e1 _ _)
    have E10 : y_ev x (0, [(2, 1)]) = x 2 := (l_e1 _ _)
    have E11 : y_ev x (0, [(7, 1)]) = x 7 := (l_e1 _ _)
    have E12 : y_ev x (0, [(8, 1)]) = x 8 := (l_e1 _ _)
    have E13 : y_ev x (0, [(9, 1)]) = x 9 := (l_e1 _ _)
    have E14 : y_ev x (0, [(10, 1)]) = x 10 := (l_e1 _ _)
    have E15 : y_ev x (0, [(16, 1)]) = x 16 := (l_e1 _ _)
    have E16 : y_ev x (0, [(11, 1)]) = x 11 := (l_e1 _ _)
    have E17 : y_ev x (0, [(12, 1)]) = x 12 := (l_e1 _ _)
    have E18 : y_ev x (0, [(13, 1)]) = x 13 := (l_e1 _ _)
    have T0 : 0 ≤ (y_ev x (0, [(1, 1)])) ∧ (y_ev x (0, [(14, 1)])) = a_nu (t_b v) (y_ev x (0, [(0, 1)])) (y_ev x (0, [(1, 1)])).toNat (y_ev x (11, [])) := h.2.2.2.1
    (try rw [E0] at T0); (try rw [E1] at T0); (try rw [E2] at T0); (try rw [E3] at T0)
    have T1 : q_run2 (t_b v) (y_ev x (0, [(0, 1)])) (y_ev x (0, [(1, 1)])) (y_ev x (0, [])) (y_ev x (0, [])) (y_ev x (0, [])) (y_ev x (0, [(3, 1)])) (y_ev x (0, [(4, 1)])) (y_ev x (0, [(5, 1)])) (y_ev x (0, [(6, 1)])) (y_ev x (0, [(15, 1)])) := h.2.2.2.2.1
    (try rw [E0] at T1); (try rw [E1] at T1); (try rw [E4] at T1); (try rw [E5] at T1); (try rw [E6] at T1); (try rw [E7] at T1); (try rw [E8] at T1); (try rw [E9] at T1)
    have T2 : q_run2 (t_b v) (y_ev x (0, [(0, 1)])) (y_ev x (0, [(2, 1)])) (y_ev x (0, [])) (y_ev x (0, [])) (y_ev x (0, [])) (y_ev x (0, [(7, 1)])) (y_ev x (0, [(8, 1)])) (y_ev x (0, [(9, 1)])) (y_ev x (0, [(10, 1)])) (y_ev x (0, [(16, 1)])) := h.2.2.2.2.2.1
    (try rw [E0] at T2); (try rw [E10] at T2); (try rw [E4] at T2); (try rw [E11] at T2); (try rw [E12] at T2); (try rw [E13] at T2); (try rw [E14] at T2); (try rw [E15] at T2)
    have T3 : q_tok (t_b v) (y_ev x (0, [(0, 1)])) (y_ev x (0, [(1, 1)])) (y_ev x (0, [(11, 1)])) (y_ev x (0, [(12, 1)])) (y_ev x (0, [(13, 1)])) := h.2.2.2.2.2.2.1
    (try rw [E0] at T3); (try rw [E1] at T3); (try rw [E16] at T3); (try rw [E17] at T3); (try rw [E18] at T3)
    have K := k_numMa_11 (V := v) (n := x 0) (c := x 1) (d := x 2) (H := x 3) (L := x 4) (W := x 5) (P := x 6) (H2 := x 7) (L2 := x 8) (W2 := x 9) (P2 := x 10) (kd := x 11) (s := x 12) (v := x 13) (w := x 14) (S := x 15) (S2 := x 16) T0 T1 T2 T3 C0 C1 C2 C3
    refine l_outH rfl (And.intro h.1 ?_)
    have O0 : y_ev x (0, [(0, 1)]) = x 0 := l_e1 _ _
    have O1 : y_ev x (0, [(2, 1)]) = x 2 := l_e1 _ _
    have O2 : y_ev x (11, []) = 11 := l_e0 _ _
    have O3 : y_ev x (0, [(14, 1)]) = x 14 := l_e1 _ _
    show (True) ∧ ((0 ≤ (y_ev x (0, [(2, 1)])) ∧ (y_ev x (0, [(14, 1)])) = a_nu (t_b v) (y_ev x (0, [(0, 1)])) (y_ev x (0, [(2, 1)])).toNat (y_ev x (11, []))) ∧ True)
    (try rw [O0]); (try rw [O1]); (try rw [O2]); (try rw [O3])
    exact K
def lm_532p : zS := ((lm_521pi_0 (lm_521pi_1 (lm_521pi_2 []))), [(1, false)], [(0, [(1, (-1)), (2, 1)]), (1, [(15, 1), (16, (-1))]), ((-1), [(15, (-1)), (16, 1)]), ((-265), [(11, 1)])], [], [], [(0, (false, 4, 0, []), 0, 0, 0, [(2, 1)])], (lm_531pg_0 []))
def lm_532 : zLem := (lm_532p, [([((-2147483648), 2147483647), ((-2147483648), 2147483647), ((-2147483648), 2147483647), ((-2147483648), 2147483647), ((-2147483648), 2147483647), ((-2147483648), 2147483647), ((-2147483648), 2147483647), ((-2147483648), 2147483647), ((-2147483648), 2147483647), ((-2147483648), 2147483647), ((-2147483648), 2147483647), ((-2147483648), 2147483647), ((-2147483648), 2147483647), ((-9223372036854775808), 9223372036854775807), ((-2147483648), 2147483647), ((-2147483648), 2147483647), ((-2147483648), 2147483647)], [(1, false)], [], [], [], [], [(86, [(0, [(0, 1)]), (0, [(2, 1)]), (11, []), (0, [(14, 1)])])])])
theorem lk_532 : l_core lm_532 := by
  first
  | skip
    intro v x h
    have K := k_numMb_11 (V := v) (n := x 0) (c := x 1) (d := x 2) (H := x 3) (L := x 4) (W := x 5) (P := x 6) (H2 := x 7) (L2 := x 8) (W2 := x 9) (P2 := x 10) (kd := x 11) (s := x 12) (v := x 13) (w := x 14) (S := x 15) (S2 := x 16) (l_c4 (fun w0 w1 w2 w3 : Int => 0 ≤ w1 ∧ w3 = a_nu (t_b v) w0 w1.toNat w2) (l_e1 x 0) (l_e1 x 1) (l_e0 x (11)) (l_e1 x 14) (h.2.2.2.1)) (l_c8 (fun w0 w1 w2 w3 w4 w5 w6 w7 : Int => q_run2 (t_b v) w0 w1 w2 w2 w2 w3 w4 w5 w6 w7) (l_e1 x 0) (l_e1 x 1) (l_e0 x (0)) (l_e1 x 3) (l_e1 x 4) (l_e1 x 5) (l_e1 x 6) (l_e1 x 15) (h.2.2.2.2.1)) (l_c8 (fun w0 w1 w2 w3 w4 w5 w6 w7 : Int => q_run2 (t_b v) w0 w1 w2 w2 w2 w3 w4 w5 w6 w7) (l_e1 x 0) (l_e1 x 2) (l_e0 x (0)) (l_e1 x 7) (l_e1 x 8) (l_e1 x 9) (l_e1 x 10) (l_e1 x 16) (h.2.2.2.2.2.1)) (l_c5 (fun w0 w1 w2 w3 w4 : Int => q_tok (t_b v) w0 w1 w2 w3 w4) (l_e1 x 0) (l_e1 x 1) (l_e1 x 11) (l_e1 x 12) (l_e1 x 13) (h.2.2.2.2.2.2.1)) (l_cc (l_q4 x 1 2) (h.2.1.1)) (l_cc (l_q13 1 x 15 16) (h.2.1.2.1)) (l_cc (l_q6 1 x 15 16) (h.2.1.2.2.1)) (l_cc (l_q2 265 x 11) (h.2.1.2.2.2.1))
    refine l_outH rfl (And.intro h.1 ?_)
    exact l_o4 (fun w0 w1 w2 w3 : Int => (True) ∧ ((0 ≤ w1 ∧ w3 = a_nu (t_b v) w0 w1.toNat w2) ∧ True)) (l_e1 x 0) (l_e1 x 2) (l_e0 x (11)) (l_e1 x 14) K
  | skip
    intro v x h
    have C0 : (0 : Int) ≤ x 2 - x 1 := l_cc (a := y_ev x (0, [(1, (-1)), (2, 1)])) (by show ((0) : Int) + ((-1) * x 1 + ((1) * x 2 + 0)) = x 2 - x 1; omega) (h.2.1.1)
    have C1 : (0 : Int) ≤ x 15 - x 16 + 1 := l_cc (a := y_ev x (1, [(15, 1), (16, (-1))])) (by show ((1) : Int) + ((1) * x 15 + ((-1) * x 16 + 0)) = x 15 - x 16 + 1; omega) (h.2.1.2.1)
    have C2 : (0 : Int) ≤ x 16 - x 15 - 1 := l_cc (a := y_ev x ((-1), [(15, (-1)), (16, 1)])) (by show ((-1) : Int) + ((-1) * x 15 + ((1) * x 16 + 0)) = x 16 - x 15 - 1; omega) (h.2.1.2.2.1)
    have C3 : (0 : Int) ≤ x 11 - 265 := l_cc (a := y_ev x ((-265), [(11, 1)])) (by show ((-265) : Int) + ((1) * x 11 + 0) = x 11 - 265; omega) (h.2.1.2.2.2.1)
    have E0 : y_ev x (0, [(0, 1)]) = x 0 := (l_e1 _ _)
    have E1 : y_ev x (0, [(1, 1)]) = x 1 := (l_e1 _ _)
    have E2 : y_ev x (11, []) = 11 := (l_e0 _ _)
    have E3 : y_ev x (0, [(14, 1)]) = x 14 := (l_e1 _ _)
    have E4 : y_ev x (0, []) = 0 := (l_e0 _ _)
    have E5 : y_ev x (0, [(3, 1)]) = x 3 := (l_e1 _ _)
    have E6 : y_ev x (0, [(4, 1)]) = x 4 := (l_e1 _ _)
    have E7 : y_ev x (0, [(5, 1)]) = x 5 := (l_e1 _ _)
    have E8 : y_ev x (0, [(6, 1)]) = x 6 := (l_e1 _ _)
    have E9 : y_ev x (0, [(15, 1)]) = x 15 := (l_e1 _ _)
    have E10 : y_ev x (0, [(2, 1)]) = x 2 := (l_e1 _ _)
    have E11 : y_ev x (0, [(7, 1)]) = x 7 := (l_e1 _ _)
    have E12 : y_ev x (0, [(8, 1)]) = x 8 := (l_e1 _ _)
    have E13 : y_ev x (0, [(9, 1)]) = x 9 := (l_e1 _ _)
    have E14 : y_ev x (0, [(10, 1)]) = x 10 := (l_e1 _ _)
    have E15 : y_ev x (0, [(16, 1)]) = x 16 := (l_e1 _ _)
    have E16 : y_ev x (0, [(11, 1)]) = x 11 := (l_e1 _ _)
    have E17 : y_ev x (0, [(12, 1)]) = x 12 := (l_e1 _ _)
    have E18 : y_ev x (0, [(13, 1)]) = x 13 := (l_e1 _ _)
    have T0 : 0 ≤ (y_ev x (0, [(1, 1)])) ∧ (y_ev x (0, [(14, 1)])) = a_nu (t_b v) (y_ev x (0, [(0, 1)])) (y_ev x (0, [(1, 1)])).toNat (y_ev x (11, [])) := h.2.2.2.1
    (try rw [E0] at T0); (try rw [E1] at T0); (try rw [E2] at T0); (try rw [E3] at T0)
    have T1 : q_run2 (t_b v) (y_ev x (0, [(0, 1)])) (y_ev x (0, [(1, 1)])) (y_ev x (0, [])) (y_ev x (0, [])) (y_ev x (0, [])) (y_ev x (0, [(3, 1)])) (y_ev x (0, [(4, 1)])) (y_ev x (0, [(5, 1)])) (y_ev x (0, [(6, 1)])) (y_ev x (0, [(15, 1)])) := h.2.2.2.2.1
    (try rw [E0] at T1); (try rw [E1] at T1); (try rw [E4] at T1); (try rw [E5] at T1); (try rw [E6] at T1); (try rw [E7] at T1); (try rw [E8] at T1); (try rw [E9] at T1)
    have T2 : q_run2 (t_b v) (y_ev x (0, [(0, 1)])) (y_ev x (0, [(2, 1)])) (y_ev x (0, [])) (y_ev x (0, [])) (y_ev x (0, [])) (y_ev x (0, [(7, 1)])) (y_ev x (0, [(8, 1)])) (y_ev x (0, [(9, 1)])) (y_ev x (0, [(10, 1)])) (y_ev x (0, [(16, 1)])) := h.2.2.2.2.2.1
    (try rw [E0] at T2); (try rw [E10] at T2); (try rw [E4] at T2); (try rw [E11] at T2); (try rw [E12] at T2); (try rw [E13] at T2); (try rw [E14] at T2); (try rw [E15] at T2)
    have T3 : q_tok (t_b v) (y_ev x (0, [(0, 1)])) (y_ev x (0, [(1, 1)])) (y_ev x (0, [(11, 1)])) (y_ev x (0, [(12, 1)])) (y_ev x (0, [(13, 1)])) := h.2.2.2.2.2.2.1
    (try rw [E0] at T3); (try rw [E1] at T3); (try rw [E16] at T3); (try rw [E17] at T3); (try rw [E18] at T3)
    have K := k_numMb_11 (V := v) (n := x 0) (c := x 1) (d := x 2) (H := x 3) (L := x 4) (W := x 5) (P := x 6) (H2 := x 7) (L2 := x 8) (W2 := x 9) (P2 := x 10) (kd := x 11) (s := x 12) (v := x 13) (w := x 14) (S := x 15) (S2 := x 16) T0 T1 T2 T3 C0 C1 C2 C3
    refine l_outH rfl (And.intro h.1 ?_)
    have O0 : y_ev x (0, [(0, 1)]) = x 0 := l_e1 _ _
    have O1 : y_ev x (0, [(2, 1)]) = x 2 := l_e1 _ _
    have O2 : y_ev x (11, []) = 11 := l_e0 _ _
    have O3 : y_ev x (0, [(14, 1)]) = x 14 := l_e1 _ _
    show (True) ∧ ((0 ≤ (y_ev x (0, [(2, 1)])) ∧ (y_ev x (0, [(14, 1)])) = a_nu (t_b v) (y_ev x (0, [(0, 1)])) (y_ev x (0, [(2, 1)])).toNat (y_ev x (11, []))) ∧ True)
    (try rw [O0]); (try rw [O1]); (try rw [O2]); (try rw [O3])
    exact K
def lm_533 : zLem := (([((-2147483648), 2147483647), ((-2147483648), 2147483647), ((-2147483648), 2147483647), ((-2147483648), 2147483647), ((-2147483648), 2147483647), ((-2147483648), 2147483647), ((-2147483648), 2147483647), ((-9223372036854775808), 9223372036854775807), ((-2147483648), 2147483647), ((-2147483648), 2147483647)], [(1, false)], [], [], [], [(0, (false, 4, 0, []), 0, 0, 0, [(1, 1)])], [(86, [(0, [(0, 1)]), (0, [(1, 1)]), (11, []), (0, [(8, 1)])]), (40, [(0, [(0, 1)]), (0, [(1, 1)]), (0, []), (0, []), (0, []), (0, [(2, 1)]), (0, [(3, 1)]), (0, [(4, 1)]), (0, [(5, 1)]), (0, [(9, 1)])]), (36, [(0, [(0, 1)]), (0, [(1, 1)]), (0, []), (0, [(6, 1)]), (0, [(7, 1)])])]), [([((-2147483648), 2147483647), ((-2147483648), 2147483647), ((-2147483648), 2147483647), ((-2147483648), 2147483647), ((-2147483648), 2147483647), ((-2147483648), 2147483647), ((-2147483648), 2147483647), ((-9223372036854775808), 9223372036854775807), ((-2147483648), 2147483647), ((-2147483648), 2147483647)], [(1, false)], [], [], [], [], [(87, [(0, [(0, 1)]), (11, []), (0, [(8, 1)])])])])
theorem lk_533 : l_core lm_533 := by
  first
  | skip
    intro v x h
    have K := k_fnm_11 (V := v) (n := x 0) (c := x 1) (H := x 2) (L := x 3) (W := x 4) (P := x 5) (s := x 6) (v := x 7) (w := x 8) (S := x 9) (l_c4 (fun w0 w1 w2 w3 : Int => 0 ≤ w1 ∧ w3 = a_nu (t_b v) w0 w1.toNat w2) (l_e1 x 0) (l_e1 x 1) (l_e0 x (11)) (l_e1 x 8) (h.2.2.2.1)) (l_c8 (fun w0 w1 w2 w3 w4 w5 w6 w7 : Int => q_run2 (t_b v) w0 w1 w2 w2 w2 w3 w4 w5 w6 w7) (l_e1 x 0) (l_e1 x 1) (l_e0 x (0)) (l_e1 x 2) (l_e1 x 3) (l_e1 x 4) (l_e1 x 5) (l_e1 x 9) (h.2.2.2.2.1)) (l_c5 (fun w0 w1 w2 w3 w4 : Int => q_tok (t_b v) w0 w1 w2 w3 w4) (l_e1 x 0) (l_e1 x 1) (l_e0 x (0)) (l_e1 x 6) (l_e1 x 7) (h.2.2.2.2.2.1))
    refine l_outH rfl (And.intro h.1 ?_)
    exact l_o3 (fun w0 w1 w2 : Int => (True) ∧ ((∃ c : Nat, q_end (t_b v) w0 c ∧ w2 = a_nu (t_b v) w0 c w1) ∧ True)) (l_e1 x 0) (l_e0 x (11)) (l_e1 x 8) K
  | skip
    intro v x h
    have E0 : y_ev x (0, [(0, 1)]) = x 0 := (l_e1 _ _)
    have E1 : y_ev x (0, [(1, 1)]) = x 1 := (l_e1 _ _)
    have E2 : y_ev x (11, []) = 11 := (l_e0 _ _)
    have E3 : y_ev x (0, [(8, 1)]) = x 8 := (l_e1 _ _)
    have E4 : y_ev x (0, []) = 0 := (l_e0 _ _)
    have E5 : y_ev x (0, [(2, 1)]) = x 2 := (l_e1 _ _)
    have E6 : y_ev x (0, [(3, 1)]) = x 3 := (l_e1 _ _)
    have E7 : y_ev x (0, [(4, 1)]) = x 4 := (l_e1 _ _)
    have E8 : y_ev x (0, [(5, 1)]) = x 5 := (l_e1 _ _)
    have E9 : y_ev x (0, [(9, 1)]) = x 9 := (l_e1 _ _)
    have E10 : y_ev x (0, [(6, 1)]) = x 6 := (l_e1 _ _)
    have E11 : y_ev x (0, [(7, 1)]) = x 7 := (l_e1 _ _)
    have T0 : 0 ≤ (y_ev x (0, [(1, 1)])) ∧ (y_ev x (0, [(8, 1)])) = a_nu (t_b v) (y_ev x (0, [(0, 1)])) (y_ev x (0, [(1, 1)])).toNat (y_ev x (11, [])) := h.2.2.2.1
    (try rw [E0] at T0); (try rw [E1] at T0); (try rw [E2] at T0); (try rw [E3] at T0)
    have T1 : q_run2 (t_b v) (y_ev x (0, [(0, 1)])) (y_ev x (0, [(1, 1)])) (y_ev x (0, [])) (y_ev x (0, [])) (y_ev x (0, [])) (y_ev x (0, [(2, 1)])) (y_ev x (0, [(3, 1)])) (y_ev x (0, [(4, 1)])) (y_ev x (0, [(5, 1)])) (y_ev x (0, [(9, 1)])) := h.2.2.2.2.1
    (try rw [E0] at T1); (try rw [E1] at T1); (try rw [E4] at T1); (try rw [E5] at T1); (try rw [E6] at T1); (try rw [E7] at T1); (try rw [E8] at T1); (try rw [E9] at T1)
    have T2 : q_tok (t_b v) (y_ev x (0, [(0, 1)])) (y_ev x (0, [(1, 1)])) (y_ev x (0, [])) (y_ev x (0, [(6, 1)])) (y_ev x (0, [(7, 1)])) := h.2.2.2.2.2.1
    (try rw [E0] at T2); (try rw [E1] at T2); (try rw [E4] at T2); (try rw [E10] at T2); (try rw [E11] at T2)
    have K := k_fnm_11 (V := v) (n := x 0) (c := x 1) (H := x 2) (L := x 3) (W := x 4) (P := x 5) (s := x 6) (v := x 7) (w := x 8) (S := x 9) T0 T1 T2
    refine l_outH rfl (And.intro h.1 ?_)
    have O0 : y_ev x (0, [(0, 1)]) = x 0 := l_e1 _ _
    have O1 : y_ev x (11, []) = 11 := l_e0 _ _
    have O2 : y_ev x (0, [(8, 1)]) = x 8 := l_e1 _ _
    show (True) ∧ ((∃ c : Nat, q_end (t_b v) (y_ev x (0, [(0, 1)])) c ∧ (y_ev x (0, [(8, 1)])) = a_nu (t_b v) (y_ev x (0, [(0, 1)])) c (y_ev x (11, []))) ∧ True)
    (try rw [O0]); (try rw [O1]); (try rw [O2])
    exact K
def lm_534 : zLem := (([((-2147483648), 2147483647), ((-2147483648), 2147483647), ((-2147483648), 2147483647), ((-2147483648), 2147483647), ((-2147483648), 2147483647), ((-2147483648), 2147483647)], [], [], [], [], [], [(40, [(0, [(0, 1)]), (0, []), (0, []), (0, []), (0, []), (0, [(1, 1)]), (0, [(2, 1)]), (0, [(3, 1)]), (0, [(4, 1)]), (0, [(5, 1)])])]), [([((-2147483648), 2147483647), ((-2147483648), 2147483647), ((-2147483648), 2147483647), ((-2147483648), 2147483647), ((-2147483648), 2147483647), ((-2147483648), 2147483647)], [], [], [], [], [], [(86, [(0, [(0, 1)]), (0, []), (12, []), (0, [])])])])
theorem lk_534 : l_core lm_534 := by
  first
  | skip
    intro v x h
    have K := k_num0_12 (V := v) (n := x 0) (H := x 1) (L := x 2) (W := x 3) (P := x 4) (S := x 5) (l_c7 (fun w0 w1 w2 w3 w4 w5 w6 : Int => q_run2 (t_b v) w0 w1 w1 w1 w1 w2 w3 w4 w5 w6) (l_e1 x 0) (l_e0 x (0)) (l_e1 x 1) (l_e1 x 2) (l_e1 x 3) (l_e1 x 4) (l_e1 x 5) (h.2.2.2.1))
    refine l_outH rfl (And.intro h.1 ?_)
    exact l_o3 (fun w0 w1 w2 : Int => (True) ∧ ((0 ≤ w1 ∧ w1 = a_nu (t_b v) w0 w1.toNat w2) ∧ True)) (l_e1 x 0) (l_e0 x (0)) (l_e0 x (12)) K
  | skip
    intro v x h
    have E0 : y_ev x (0, [(0, 1)]) = x 0 := (l_e1 _ _)
    have E1 : y_ev x (0, []) = 0 := (l_e0 _ _)
    have E2 : y_ev x (0, [(1, 1)]) = x 1 := (l_e1 _ _)
    have E3 : y_ev x (0, [(2, 1)]) = x 2 := (l_e1 _ _)
    have E4 : y_ev x (0, [(3, 1)]) = x 3 := (l_e1 _ _)
    have E5 : y_ev x (0, [(4, 1)]) = x 4 := (l_e1 _ _)
    have E6 : y_ev x (0, [(5, 1)]) = x 5 := (l_e1 _ _)
    have T0 : q_run2 (t_b v) (y_ev x (0, [(0, 1)])) (y_ev x (0, [])) (y_ev x (0, [])) (y_ev x (0, [])) (y_ev x (0, [])) (y_ev x (0, [(1, 1)])) (y_ev x (0, [(2, 1)])) (y_ev x (0, [(3, 1)])) (y_ev x (0, [(4, 1)])) (y_ev x (0, [(5, 1)])) := h.2.2.2.1
    (try rw [E0] at T0); (try rw [E1] at T0); (try rw [E2] at T0); (try rw [E3] at T0); (try rw [E4] at T0); (try rw [E5] at T0); (try rw [E6] at T0)
    have K := k_num0_12 (V := v) (n := x 0) (H := x 1) (L := x 2) (W := x 3) (P := x 4) (S := x 5) T0
    refine l_outH rfl (And.intro h.1 ?_)
    have O0 : y_ev x (0, [(0, 1)]) = x 0 := l_e1 _ _
    have O1 : y_ev x (0, []) = 0 := l_e0 _ _
    have O2 : y_ev x (12, []) = 12 := l_e0 _ _
    show (True) ∧ ((0 ≤ (y_ev x (0, [])) ∧ (y_ev x (0, [])) = a_nu (t_b v) (y_ev x (0, [(0, 1)])) (y_ev x (0, [])).toNat (y_ev x (12, []))) ∧ True)
    (try rw [O0]); (try rw [O1]); (try rw [O2])
    exact K
def lm_535pg_0 (t : List zTg) : List zTg := (40, [(0, [(0, 1)]), ((-1), [(1, 1)]), (13, []), (0, []), (0, []), (0, [(2, 1)]), (0, [(3, 1)]), (0, [(4, 1)]), (0, [(5, 1)]), (0, [(13, 1)])]) :: (40, [(0, [(0, 1)]), ((-3), [(1, 1)]), (0, []), (0, []), (0, []), (0, [(6, 1)]), (0, [(7, 1)]), (0, [(8, 1)]), (0, [(9, 1)]), (0, [(14, 1)])]) :: (36, [(0, [(0, 1)]), ((-3), [(1, 1)]), (265, []), (0, [(10, 1)]), (0, [(11, 1)])]) :: (61, [(0, [(0, 1)]), ((-2), [(1, 1)]), (0, [(12, 1)])]) :: t
def lm_535p : zS := ((lm_520pi_0 (lm_520pi_1 [])), [(1, false)], [(400, [(1, (-1))]), ((-3), [(1, 1)])], [], [], [(0, (false, 4, 0, []), 0, 0, 0, [(1, 1)])], (lm_535pg_0 []))
def lm_535 : zLem := (lm_535p, [([((-2147483648), 2147483647), ((-2147483648), 2147483647), ((-2147483648), 2147483647), ((-2147483648), 2147483647), ((-2147483648), 2147483647), ((-2147483648), 2147483647), ((-2147483648), 2147483647), ((-2147483648), 2147483647), ((-2147483648), 2147483647), ((-2147483648), 2147483647), ((-2147483648), 2147483647), ((-9223372036854775808), 9223372036854775807), ((-2147483648), 2147483647), ((-2147483648), 2147483647), ((-2147483648), 2147483647)], [(1, false)], [], [], [], [], [(86, [(0, [(0, 1)]), (0, [(1, 1)]), (12, []), (0, [(12, 1)])])])])
theorem lk_535 : l_core lm_535 := by
  first
  | skip
    intro v x h
    have K := k_numS_12 (V := v) (n := x 0) (d := x 1) (H := x 2) (L := x 3) (W := x 4) (P := x 5) (H2 := x 6) (L2 := x 7) (W2 := x 8) (P2 := x 9) (s := x 10) (v := x 11) (u := x 12) (S := x 13) (S2 := x 14) (l_c9 (fun w0 w1 w2 w3 w4 w5 w6 w7 w8 : Int => q_run2 (t_b v) w0 w1 w2 w3 w3 w4 w5 w6 w7 w8) (l_e1 x 0) (l_q2 1 x 1) (l_e0 x (13)) (l_e0 x (0)) (l_e1 x 2) (l_e1 x 3) (l_e1 x 4) (l_e1 x 5) (l_e1 x 13) (h.2.2.2.1)) (l_c8 (fun w0 w1 w2 w3 w4 w5 w6 w7 : Int => q_run2 (t_b v) w0 w1 w2 w2 w2 w3 w4 w5 w6 w7) (l_e1 x 0) (l_q2 3 x 1) (l_e0 x (0)) (l_e1 x 6) (l_e1 x 7) (l_e1 x 8) (l_e1 x 9) (l_e1 x 14) (h.2.2.2.2.1)) (l_c5 (fun w0 w1 w2 w3 w4 : Int => q_tok (t_b v) w0 w1 w2 w3 w4) (l_e1 x 0) (l_q2 3 x 1) (l_e0 x (265)) (l_e1 x 10) (l_e1 x 11) (h.2.2.2.2.2.1)) (l_c3 (fun w0 w1 w2 : Int => tk (t_b v) w0 w1.toNat = 3 ∧ w2 = tx (t_b v) w0 w1.toNat) (l_e1 x 0) (l_q2 2 x 1) (l_e1 x 12) (h.2.2.2.2.2.2.1)) (l_cc (l_q1 400 x 1) (h.2.1.1)) (l_cc (l_q2 3 x 1) (h.2.1.2.1))
    refine l_outH rfl (And.intro h.1 ?_)
    exact l_o4 (fun w0 w1 w2 w3 : Int => (True) ∧ ((0 ≤ w1 ∧ w3 = a_nu (t_b v) w0 w1.toNat w2) ∧ True)) (l_e1 x 0) (l_e1 x 1) (l_e0 x (12)) (l_e1 x 12) K
  | skip
    intro v x h
    have C0 : (0 : Int) ≤ 400 - x 1 := l_cc (a := y_ev x (400, [(1, (-1))])) (by show ((400) : Int) + ((-1) * x 1 + 0) = 400 - x 1; omega) (h.2.1.1)
    have C1 : (0 : Int) ≤ x 1 - 3 := l_cc (a := y_ev x ((-3), [(1, 1)])) (by show ((-3) : Int) + ((1) * x 1 + 0) = x 1 - 3; omega) (h.2.1.2.1)
    have E0 : y_ev x (0, [(0, 1)]) = x 0 := (l_e1 _ _)
    have E1 : y_ev x ((-1), [(1, 1)]) = x 1 - 1 := (by show ((-1) : Int) + ((1) * x 1 + 0) = x 1 - 1; omega)
    have E2 : y_ev x (13, []) = 13 := (l_e0 _ _)
    have E3 : y_ev x (0, []) = 0 := (l_e0 _ _)
    have E4 : y_ev x (0, [(2, 1)]) = x 2 := (l_e1 _ _)
    have E5 : y_ev x (0, [(3, 1)]) = x 3 := (l_e1 _ _)
    have E6 : y_ev x (0, [(4, 1)]) = x 4 := (l_e1 _ _)
    have E7 : y_ev x (0, [(5, 1)]) = x 5 := (l_e1 _ _)
    have E8 : y_ev x (0, [(13, 1)]) = x 13 := (l_e1 _ _)
    have E9 : y_ev x ((-3), [(1, 1)]) = x 1 - 3 := (by show ((-3) : Int) + ((1) * x 1 + 0) = x 1 - 3; omega)
    have E10 : y_ev x (0, [(6, 1)]) = x 6 := (l_e1 _ _)
    have E11 : y_ev x (0, [(7, 1)]) = x 7 := (l_e1 _ _)
    have E12 : y_ev x (0, [(8, 1)]) = x 8 := (l_e1 _ _)
    have E13 : y_ev x (0, [(9, 1)]) = x 9 := (l_e1 _ _)
    have E14 : y_ev x (0, [(14, 1)]) = x 14 := (l_e1 _ _)
    have E15 : y_ev x (265, []) = 265 := (l_e0 _ _)
    have E16 : y_ev x (0, [(10, 1)]) = x 10 := (l_e1 _ _)
    have E17 : y_ev x (0, [(11, 1)]) = x 11 := (l_e1 _ _)
    have E18 : y_ev x ((-2), [(1, 1)]) = x 1 - 2 := (by show ((-2) : Int) + ((1) * x 1 + 0) = x 1 - 2; omega)
    have E19 : y_ev x (0, [(12, 1)]) = x 12 := (l_e1 _ _)
    have T0 : q_run2 (t_b v) (y_ev x (0, [(0, 1)])) (y_ev x ((-1), [(1, 1)])) (y_ev x (13, [])) (y_ev x (0, [])) (y_ev x (0, [])) (y_ev x (0, [(2, 1)])) (y_ev x (0, [(3, 1)])) (y_ev x (0, [(4, 1)])) (y_ev x (0, [(5, 1)])) (y_ev x (0, [(13, 1)])) := h.2.2.2.1
    (try rw [E0] at T0); (try rw [E1] at T0); (try rw [E2] at T0); (try rw [E3] at T0); (try rw [E4] at T0); (try rw [E5] at T0); (try rw [E6] at T0); (try rw [E7] at T0); (try rw [E8] at T0)
    have T1 : q_run2 (t_b v) (y_ev x (0, [(0, 1)])) (y_ev x ((-3), [(1, 1)])) (y_ev x (0, [])) (y_ev x (0, [])) (y_ev x (0, [])) (y_ev x (0, [(6, 1)])) (y_ev x (0, [(7, 1)])) (y_ev x (0, [(8, 1)])) (y_ev x (0, [(9, 1)])) (y_ev x (0, [(14, 1)])) := h.2.2.2.2.1
    (try rw [E0] at T1); (try rw [E9] at T1); (try rw [E3] at T1); (try rw [E10] at T1); (try rw [E11] at T1); (try rw [E12] at T1); (try rw [E13] at T1); (try rw [E14] at T1)
    have T2 : q_tok (t_b v) (y_ev x (0, [(0, 1)])) (y_ev x ((-3), [(1, 1)])) (y_ev x (265, [])) (y_ev x (0, [(10, 1)])) (y_ev x (0, [(11, 1)])) := h.2.2.2.2.2.1
    (try rw [E0] at T2); (try rw [E9] at T2); (try rw [E15] at T2); (try rw [E16] at T2); (try rw [E17] at T2)
    have T3 : tk (t_b v) (y_ev x (0, [(0, 1)])) (y_ev x ((-2), [(1, 1)])).toNat = 3 ∧ (y_ev x (0, [(12, 1)])) = tx (t_b v) (y_ev x (0, [(0, 1)])) (y_ev x ((-2), [(1, 1)])).toNat := h.2.2.2.2.2.2.1
    (try rw [E0] at T3); (try rw [E18] at T3); (try rw [E19] at T3)
    have K := k_numS_12 (V := v) (n := x 0) (d := x 1) (H := x 2) (L := x 3) (W := x 4) (P := x 5) (H2 := x 6) (L2 := x 7) (W2 := x 8) (P2 := x 9) (s := x 10) (v := x 11) (u := x 12) (S := x 13) (S2 := x 14) T0 T1 T2 T3 C0 C1
    refine l_outH rfl (And.intro h.1 ?_)
    have O0 : y_ev x (0, [(0, 1)]) = x 0 := l_e1 _ _
    have O1 : y_ev x (0, [(1, 1)]) = x 1 := l_e1 _ _
    have O2 : y_ev x (12, []) = 12 := l_e0 _ _
    have O3 : y_ev x (0, [(12, 1)]) = x 12 := l_e1 _ _
    show (True) ∧ ((0 ≤ (y_ev x (0, [(1, 1)])) ∧ (y_ev x (0, [(12, 1)])) = a_nu (t_b v) (y_ev x (0, [(0, 1)])) (y_ev x (0, [(1, 1)])).toNat (y_ev x (12, []))) ∧ True)
    (try rw [O0]); (try rw [O1]); (try rw [O2]); (try rw [O3])
    exact K
def lm_536pg_0 (t : List zTg) : List zTg := (86, [(0, [(0, 1)]), (0, [(1, 1)]), (12, []), (0, [(14, 1)])]) :: (40, [(0, [(0, 1)]), (0, [(1, 1)]), (0, []), (0, []), (0, []), (0, [(3, 1)]), (0, [(4, 1)]), (0, [(5, 1)]), (0, [(6, 1)]), (0, [(15, 1)])]) :: (40, [(0, [(0, 1)]), (0, [(2, 1)]), (0, []), (0, []), (0, []), (0, [(7, 1)]), (0, [(8, 1)]), (0, [(9, 1)]), (0, [(10, 1)]), (0, [(16, 1)])]) :: (36, [(0, [(0, 1)]), (0, [(1, 1)]), (0, [(11, 1)]), (0, [(12, 1)]), (0, [(13, 1)])]) :: t
def lm_536p : zS := ((lm_521pi_0 (lm_521pi_1 (lm_521pi_2 []))), [(1, false)], [(0, [(1, (-1)), (2, 1)]), (1, [(15, 1), (16, (-1))]), ((-1), [(15, (-1)), (16, 1)]), (264, [(11, (-1))])], [], [], [(0, (false, 4, 0, []), 0, 0, 0, [(2, 1)])], (lm_536pg_0 []))
def lm_536 : zLem := (lm_536p, [([((-2147483648), 2147483647), ((-2147483648), 2147483647), ((-2147483648), 2147483647), ((-2147483648), 2147483647), ((-2147483648), 2147483647), ((-2147483648), 2147483647), ((-2147483648), 2147483647), ((-2147483648), 2147483647), ((-2147483648), 2147483647), ((-2147483648), 2147483647), ((-2147483648), 2147483647), ((-2147483648), 2147483647), ((-2147483648), 2147483647), ((-9223372036854775808), 9223372036854775807), ((-2147483648), 2147483647), ((-2147483648), 2147483647), ((-2147483648), 2147483647)], [(1, false)], [], [], [], [], [(86, [(0, [(0, 1)]), (0, [(2, 1)]), (12, []), (0, [(14, 1)])])])])
theorem lk_536 : l_core lm_536 := by
  first
  | skip
    intro v x h
    have K := k_numMa_12 (V := v) (n := x 0) (c := x 1) (d := x 2) (H := x 3) (L := x 4) (W := x 5) (P := x 6) (H2 := x 7) (L2 := x 8) (W2 := x 9) (P2 := x 10) (kd := x 11) (s := x 12) (v := x 13) (w := x 14) (S := x 15) (S2 := x 16) (l_c4 (fun w0 w1 w2 w3 : Int => 0 ≤ w1 ∧ w3 = a_nu (t_b v) w0 w1.toNat w2) (l_e1 x 0) (l_e1 x 1) (l_e0 x (12)) (l_e1 x 14) (h.2.2.2.1)) (l_c8 (fun w0 w1 w2 w3 w4 w5 w6 w7 : Int => q_run2 (t_b v) w0 w1 w2 w2 w2 w3 w4 w5 w6 w7) (l_e1 x 0) (l_e1 x 1) (l_e0 x (0)) (l_e1 x 3) (l_e1 x 4) (l_e1 x 5) (l_e1 x 6) (l_e1 x 15) (h.2.2.2.2.1)) (l_c8 (fun w0 w1 w2 w3 w4 w5 w6 w7 : Int => q_run2 (t_b v) w0 w1 w2 w2 w2 w3 w4 w5 w6 w7) (l_e1 x 0) (l_e1 x 2) (l_e0 x (0)) (l_e1 x 7) (l_e1 x 8) (l_e1 x 9) (l_e1 x 10) (l_e1 x 16) (h.2.2.2.2.2.1)) (l_c5 (fun w0 w1 w2 w3 w4 : Int => q_tok (t_b v) w0 w1 w2 w3 w4) (l_e1 x 0) (l_e1 x 1) (l_e1 x 11) (l_e1 x 12) (l_e1 x 13) (h.2.2.2.2.2.2.1)) (l_cc (l_q4 x 1 2) (h.2.1.1)) (l_cc (l_q13 1 x 15 16) (h.2.1.2.1)) (l_cc (l_q6 1 x 15 16) (h.2.1.2.2.1)) (l_cc (l_q1 264 x 11) (h.2.1.2.2.2.1))
    refine l_outH rfl (And.intro h.1 ?_)
    exact l_o4 (fun w0 w1 w2 w3 : Int => (True) ∧ ((0 ≤ w1 ∧ w3 = a_nu (t_b v) w0 w1.toNat w2) ∧ True)) (l_e1 x 0) (l_e1 x 2) (l_e0 x (12)) (l_e1 x 14) K
  | skip
    intro v x h
    have C0 : (0 : Int) ≤ x 2 - x 1 := l_cc (a := y_ev x (0, [(1, (-1)), (2, 1)])) (by show ((0) : Int) + ((-1) * x 1 + ((1) * x 2 + 0)) = x 2 - x 1; omega) (h.2.1.1)
    have C1 : (0 : Int) ≤ x 15 - x 16 + 1 := l_cc (a := y_ev x (1, [(15, 1), (16, (-1))])) (by show ((1) : Int) + ((1) * x 15 + ((-1) * x 16 + 0)) = x 15 - x 16 + 1; omega) (h.2.1.2.1)
    have C2 : (0 : Int) ≤ x 16 - x 15 - 1 := l_cc (a := y_ev x ((-1), [(15, (-1)), (16, 1)])) (by show ((-1) : Int) + ((-1) * x 15 + ((1) * x 16 + 0)) = x 16 - x 15 - 1; omega) (h.2.1.2.2.1)
    have C3 : (0 : Int) ≤ 264 - x 11 := l_cc (a := y_ev x (264, [(11, (-1))])) (by show ((264) : Int) + ((-1) * x 11 + 0) = 264 - x 11; omega) (h.2.1.2.2.2.1)
    have E0 : y_ev x (0, [(0, 1)]) = x 0 := (l_e1 _ _)
    have E1 : y_ev x (0, [(1, 1)]) = x 1 := (l_e1 _ _)
    have E2 : y_ev x (12, []) = 12 := (l_e0 _ _)
    have E3 : y_ev x (0, [(14, 1)]) = x 14 := (l_e1 _ _)
    have E4 : y_ev x (0, []) = 0 := (l_e0 _ _)
    have E5 : y_ev x (0, [(3, 1)]) = x 3 := (l_e1 _ _)
    have E6 : y_ev x (0, [(4, 1)]) = x 4 := (l_e1 _ _)
    have E7 : y_ev x (0, [(5, 1)]) = x 5 := (l_e1 _ _)
    have E8 : y_ev x (0, [(6, 1)]) = x 6 := (l_e1 _ _)
    have E9 : y_ev x (0, [(15, 1)]) = x 15 := (l_e1 _ _)
    have E10 : y_ev x (0, [(2, 1)]) = x 2 := (l_e1 _ _)
    have E11 : y_ev x (0, [(7, 1)]) = x 7 := (l_e1 _ _)
    have E12 : y_ev x (0, [(8, 1)]) = x 8 := (l_e1 _ _)
    have E13 : y_ev x (0, [(9, 1)]) = x 9 := (l_e1 _ _)
    have E14 : y_ev x (0, [(10, 1)]) = x 10 := (l_e1 _ _)
    have E15 : y_ev x (0, [(16, 1)]) = x 16 := (l_e1 _ _)
    have E16 : y_ev x (0, [(11, 1)]) = x 11 := (l_e1 _ _)
    have E17 : y_ev x (0, [(12, 1)]) = x 12 := (l_e1 _ _)
    have E18 : y_ev x (0, [(13, 1)]) = x 13 := (l_e1 _ _)
    have T0 : 0 ≤ (y_ev x (0, [(1, 1)])) ∧ (y_ev x (0, [(14, 1)])) = a_nu (t_b v) (y_ev x (0, [(0, 1)])) (y_ev x (0, [(1, 1)])).toNat (y_ev x (12, [])) := h.2.2.2.1
    (try rw [E0] at T0); (try rw [E1] at T0); (try rw [E2] at T0); (try rw [E3] at T0)
    have T1 : q_run2 (t_b v) (y_ev x (0, [(0, 1)])) (y_ev x (0, [(1, 1)])) (y_ev x (0, [])) (y_ev x (0, [])) (y_ev x (0, [])) (y_ev x (0, [(3, 1)])) (y_ev x (0, [(4, 1)])) (y_ev x (0, [(5, 1)])) (y_ev x (0, [(6, 1)])) (y_ev x (0, [(15, 1)])) := h.2.2.2.2.1
    (try rw [E0] at T1); (try rw [E1] at T1); (try rw [E4] at T1); (try rw [E5] at T1); (try rw [E6] at T1); (try rw [E7] at T1); (try rw [E8] at T1); (try rw [E9] at T1)
    have T2 : q_run2 (t_b v) (y_ev x (0, [(0, 1)])) (y_ev x (0, [(2, 1)])) (y_ev x (0, [])) (y_ev x (0, [])) (y_ev x (0, [])) (y_ev x (0, [(7, 1)])) (y_ev x (0, [(8, 1)])) (y_ev x (0, [(9, 1)])) (y_ev x (0, [(10, 1)])) (y_ev x (0, [(16, 1)])) := h.2.2.2.2.2.1
    (try rw [E0] at T2); (try rw [E10] at T2); (try rw [E4] at T2); (try rw [E11] at T2); (try rw [E12] at T2); (try rw [E13] at T2); (try rw [E14] at T2); (try rw [E15] at T2)
    have T3 : q_tok (t_b v) (y_ev x (0, [(0, 1)])) (y_ev x (0, [(1, 1)])) (y_ev x (0, [(11, 1)])) (y_ev x (0, [(12, 1)])) (y_ev x (0, [(13, 1)])) := h.2.2.2.2.2.2.1
    (try rw [E0] at T3); (try rw [E1] at T3); (try rw [E16] at T3); (try rw [E17] at T3); (try rw [E18] at T3)
    have K := k_numMa_12 (V := v) (n := x 0) (c := x 1) (d := x 2) (H := x 3) (L := x 4) (W := x 5) (P := x 6) (H2 := x 7) (L2 := x 8) (W2 := x 9) (P2 := x 10) (kd := x 11) (s := x 12) (v := x 13) (w := x 14) (S := x 15) (S2 := x 16) T0 T1 T2 T3 C0 C1 C2 C3
    refine l_outH rfl (And.intro h.1 ?_)
    have O0 : y_ev x (0, [(0, 1)]) = x 0 := l_e1 _ _
    have O1 : y_ev x (0, [(2, 1)]) = x 2 := l_e1 _ _
    have O2 : y_ev x (12, []) = 12 := l_e0 _ _
    have O3 : y_ev x (0, [(14, 1)]) = x 14 := l_e1 _ _
    show (True) ∧ ((0 ≤ (y_ev x (0, [(2, 1)])) ∧ (y_ev x (0, [(14, 1)])) = a_nu (t_b v) (y_ev x (0, [(0, 1)])) (y_ev x (0, [(2, 1)])).toNat (y_ev x (12, []))) ∧ True)
    (try rw [O0]); (try rw [O1]); (try rw [O2]); (try rw [O3])
    exact K
def lm_537p : zS := ((lm_521pi_0 (lm_521pi_1 (lm_521pi_2 []))), [(1, false)], [(0, [(1, (-1)), (2, 1)]), (1, [(15, 1), (16, (-1))]), ((-1), [(15, (-1)), (16, 1)]), ((-266), [(11, 1)])], [], [], [(0, (false, 4, 0, []), 0, 0, 0, [(2, 1)])], (lm_536pg_0 []))
def lm_537 : zLem := (lm_537p, [([((-2147483648), 2147483647), ((-2147483648), 2147483647), ((-2147483648), 2147483647), ((-2147483648), 2147483647), ((-2147483648), 2147483647), ((-2147483648), 2147483647), ((-2147483648), 2147483647), ((-2147483648), 2147483647), ((-2147483648), 2147483647), ((-2147483648), 2147483647), ((-2147483648), 2147483647), ((-2147483648), 2147483647), ((-2147483648), 2147483647), ((-9223372036854775808), 9223372036854775807), ((-2147483648), 2147483647), ((-2147483648), 2147483647), ((-2147483648), 2147483647)], [(1, false)], [], [], [], [], [(86, [(0, [(0, 1)]), (0, [(2, 1)]), (12, []), (0, [(14, 1)])])])])
theorem lk_537 : l_core lm_537 := by
  first
  | skip
    intro v x h
    have K := k_numMb_12 (V := v) (n := x 0) (c := x 1) (d := x 2) (H := x 3) (L := x 4) (W := x 5) (P := x 6) (H2 := x 7) (L2 := x 8) (W2 := x 9) (P2 := x 10) (kd := x 11) (s := x 12) (v := x 13) (w := x 14) (S := x 15) (S2 := x 16) (l_c4 (fun w0 w1 w2 w3 : Int => 0 ≤ w1 ∧ w3 = a_nu (t_b v) w0 w1.toNat w2) (l_e1 x 0) (l_e1 x 1) (l_e0 x (12)) (l_e1 x 14) (h.2.2.2.1)) (l_c8 (fun w0 w1 w2 w3 w4 w5 w6 w7 : Int => q_run2 (t_b v) w0 w1 w2 w2 w2 w3 w4 w5 w6 w7) (l_e1 x 0) (l_e1 x 1) (l_e0 x (0)) (l_e1 x 3) (l_e1 x 4) (l_e1 x 5) (l_e1 x 6) (l_e1 x 15) (h.2.2.2.2.1)) (l_c8 (fun w0 w1 w2 w3 w4 w5 w6 w7 : Int => q_run2 (t_b v) w0 w1 w2 w2 w2 w3 w4 w5 w6 w7) (l_e1 x 0) (l_e1 x 2) (l_e0 x (0)) (l_e1 x 7) (l_e1 x 8) (l_e1 x 9) (l_e1 x 10) (l_e1 x 16) (h.2.2.2.2.2.1)) (l_c5 (fun w0 w1 w2 w3 w4 : Int => q_tok (t_b v) w0 w1 w2 w3 w4) (l_e1 x 0) (l_e1 x 1) (l_e1 x 11) (l_e1 x 12) (l_e1 x 13) (h.2.2.2.2.2.2.1)) (l_cc (l_q4 x 1 2) (h.2.1.1)) (l_cc (l_q13 1 x 15 16) (h.2.1.2.1)) (l_cc (l_q6 1 x 15 16) (h.2.1.2.2.1)) (l_cc (l_q2 266 x 11) (h.2.1.2.2.2.1))
    refine l_outH rfl (And.intro h.1 ?_)
    exact l_o4 (fun w0 w1 w2 w3 : Int => (True) ∧ ((0 ≤ w1 ∧ w3 = a_nu (t_b v) w0 w1.toNat w2) ∧ True)) (l_e1 x 0) (l_e1 x 2) (l_e0 x (12)) (l_e1 x 14) K
  | skip
    intro v x h
    have C0 : (0 : Int) ≤ x 2 - x 1 := l_cc (a := y_ev x (0, [(1, (-1)), (2, 1)])) (by show ((0) : Int) + ((-1) * x 1 + ((1) * x 2 + 0)) = x 2 - x 1; omega) (h.2.1.1)
    have C1 : (0 : Int) ≤ x 15 - x 16 + 1 := l_cc (a := y_ev x (1, [(15, 1), (16, (-1))])) (by show ((1) : Int) + ((1) * x 15 + ((-1) * x 16 + 0)) = x 15 - x 16 + 1; omega) (h.2.1.2.1)
    have C2 : (0 : Int) ≤ x 16 - x 15 - 1 := l_cc (a := y_ev x ((-1), [(15, (-1)), (16, 1)])) (by show ((-1) : Int) + ((-1) * x 15 + ((1) * x 16 + 0)) = x 16 - x 15 - 1; omega) (h.2.1.2.2.1)
    have C3 : (0 : Int) ≤ x 11 - 266 := l_cc (a := y_ev x ((-266), [(11, 1)])) (by show ((-266) : Int) + ((1) * x 11 + 0) = x 11 - 266; omega) (h.2.1.2.2.2.1)
    have E0 : y_ev x (0, [(0, 1)]) = x 0 := (l_e1 _ _)
    have E1 : y_ev x (0, [(1, 1)]) = x 1 := (l_e1 _ _)
    have E2 : y_ev x (12, []) = 12 := (l_e0 _ _)
    have E3 : y_ev x (0, [(14, 1)]) = x 14 := (l_e1 _ _)
    have E4 : y_ev x (0, []) = 0 := (l_e0 _ _)
    have E5 : y_ev x (0, [(3, 1)]) = x 3 := (l_e1 _ _)
    have E6 : y_ev x (0, [(4, 1)]) = x 4 := (l_e1 _ _)
    have E7 : y_ev x (0, [(5, 1)]) = x 5 := (l_e1 _ _)
    have E8 : y_ev x (0, [(6, 1)]) = x 6 := (l_e1 _ _)
    have E9 : y_ev x (0, [(15, 1)]) = x 15 := (l_e1 _ _)
    have E10 : y_ev x (0, [(2, 1)]) = x 2 := (l_e1 _ _)
    have E11 : y_ev x (0, [(7, 1)]) = x 7 := (l_e1 _ _)
    have E12 : y_ev x (0, [(8, 1)]) = x 8 := (l_e1 _ _)
    have E13 : y_ev x (0, [(9, 1)]) = x 9 := (l_e1 _ _)
    have E14 : y_ev x (0, [(10, 1)]) = x 10 := (l_e1 _ _)
    have E15 : y_ev x (0, [(16, 1)]) = x 16 := (l_e1 _ _)
    have E16 : y_ev x (0, [(11, 1)]) = x 11 := (l_e1 _ _)
    have E17 : y_ev x (0, [(12, 1)]) = x 12 := (l_e1 _ _)
    have E18 : y_ev x (0, [(13, 1)]) = x 13 := (l_e1 _ _)
    have T0 : 0 ≤ (y_ev x (0, [(1, 1)])) ∧ (y_ev x (0, [(14, 1)])) = a_nu (t_b v) (y_ev x (0, [(0, 1)])) (y_ev x (0, [(1, 1)])).toNat (y_ev x (12, [])) := h.2.2.2.1
    (try rw [E0] at T0); (try rw [E1] at T0); (try rw [E2] at T0); (try rw [E3] at T0)
    have T1 : q_run2 (t_b v) (y_ev x (0, [(0, 1)])) (y_ev x (0, [(1, 1)])) (y_ev x (0, [])) (y_ev x (0, [])) (y_ev x (0, [])) (y_ev x (0, [(3, 1)])) (y_ev x (0, [(4, 1)])) (y_ev x (0, [(5, 1)])) (y_ev x (0, [(6, 1)])) (y_ev x (0, [(15, 1)])) := h.2.2.2.2.1
    (try rw [E0] at T1); (try rw [E1] at T1); (try rw [E4] at T1); (try rw [E5] at T1); (try rw [E6] at T1); (try rw [E7] at T1); (try rw [E8] at T1); (try rw [E9] at T1)
    have T2 : q_run2 (t_b v) (y_ev x (0, [(0, 1)])) (y_ev x (0, [(2, 1)])) (y_ev x (0, [])) (y_ev x (0, [])) (y_ev x (0, [])) (y_ev x (0, [(7, 1)])) (y_ev x (0, [(8, 1)])) (y_ev x (0, [(9, 1)])) (y_ev x (0, [(10, 1)])) (y_ev x (0, [(16, 1)])) := h.2.2.2.2.2.1
    (try rw [E0] at T2); (try rw [E10] at T2); (try rw [E4] at T2); (try rw [E11] at T2); (try rw [E12] at T2); (try rw [E13] at T2); (try rw [E14] at T2); (try rw [E15] at T2)
    have T3 : q_tok (t_b v) (y_ev x (0, [(0, 1)])) (y_ev x (0, [(1, 1)])) (y_ev x (0, [(11, 1)])) (y_ev x (0, [(12, 1)])) (y_ev x (0, [(13, 1)])) := h.2.2.2.2.2.2.1
    (try rw [E0] at T3); (try rw [E1] at T3); (try rw [E16] at T3); (try rw [E17] at T3); (try rw [E18] at T3)
    have K := k_numMb_12 (V := v) (n := x 0) (c := x 1) (d := x 2) (H := x 3) (L := x 4) (W := x 5) (P := x 6) (H2 := x 7) (L2 := x 8) (W2 := x 9) (P2 := x 10) (kd := x 11) (s := x 12) (v := x 13) (w := x 14) (S := x 15) (S2 := x 16) T0 T1 T2 T3 C0 C1 C2 C3
    refine l_outH rfl (And.intro h.1 ?_)
    have O0 : y_ev x (0, [(0, 1)]) = x 0 := l_e1 _ _
    have O1 : y_ev x (0, [(2, 1)]) = x 2 := l_e1 _ _
    have O2 : y_ev x (12, []) = 12 := l_e0 _ _
    have O3 : y_ev x (0, [(14, 1)]) = x 14 := l_e1 _ _
    show (True) ∧ ((0 ≤ (y_ev x (0, [(2, 1)])) ∧ (y_ev x (0, [(14, 1)])) = a_nu (t_b v) (y_ev x (0, [(0, 1)])) (y_ev x (0, [(2, 1)])).toNat (y_ev x (12, []))) ∧ True)
    (try rw [O0]); (try rw [O1]); (try rw [O2]); (try rw [O3])
    exact K
def lm_538 : zLem := (([((-2147483648), 2147483647), ((-2147483648), 2147483647), ((-2147483648), 2147483647), ((-2147483648), 2147483647), ((-2147483648), 2147483647), ((-2147483648), 2147483647), ((-2147483648), 2147483647), ((-9223372036854775808), 9223372036854775807), ((-2147483648), 2147483647), ((-2147483648), 2147483647)], [(1, false)], [], [], [], [(0, (false, 4, 0, []), 0, 0, 0, [(1, 1)])], [(86, [(0, [(0, 1)]), (0, [(1, 1)]), (12, []), (0, [(8, 1)])]), (40, [(0, [(0, 1)]), (0, [(1, 1)]), (0, []), (0, []), (0, []), (0, [(2, 1)]), (0, [(3, 1)]), (0, [(4, 1)]), (0, [(5, 1)]), (0, [(9, 1)])]), (36, [(0, [(0, 1)]), (0, [(1, 1)]), (0, []), (0, [(6, 1)]), (0, [(7, 1)])])]), [([((-2147483648), 2147483647), ((-2147483648), 2147483647), ((-2147483648), 2147483647), ((-2147483648), 2147483647), ((-2147483648), 2147483647), ((-2147483648), 2147483647), ((-2147483648), 2147483647), ((-9223372036854775808), 9223372036854775807), ((-2147483648), 2147483647), ((-2147483648), 2147483647)], [(1, false)], [], [], [], [], [(87, [(0, [(0, 1)]), (12, []), (0, [(8, 1)])])])])
theorem lk_538 : l_core lm_538 := by
  first
  | skip
    intro v x h
    have K := k_fnm_12 (V := v) (n := x 0) (c := x 1) (H := x 2) (L := x 3) (W := x 4) (P := x 5) (s := x 6) (v := x 7) (w := x 8) (S := x 9) (l_c4 (fun w0 w1 w2 w3 : Int => 0 ≤ w1 ∧ w3 = a_nu (t_b v) w0 w1.toNat w2) (l_e1 x 0) (l_e1 x 1) (l_e0 x (12)) (l_e1 x 8) (h.2.2.2.1)) (l_c8 (fun w0 w1 w2 w3 w4 w5 w6 w7 : Int => q_run2 (t_b v) w0 w1 w2 w2 w2 w3 w4 w5 w6 w7) (l_e1 x 0) (l_e1 x 1) (l_e0 x (0)) (l_e1 x 2) (l_e1 x 3) (l_e1 x 4) (l_e1 x 5) (l_e1 x 9) (h.2.2.2.2.1)) (l_c5 (fun w0 w1 w2 w3 w4 : Int => q_tok (t_b v) w0 w1 w2 w3 w4) (l_e1 x 0) (l_e1 x 1) (l_e0 x (0)) (l_e1 x 6) (l_e1 x 7) (h.2.2.2.2.2.1))
    refine l_outH rfl (And.intro h.1 ?_)
    exact l_o3 (fun w0 w1 w2 : Int => (True) ∧ ((∃ c : Nat, q_end (t_b v) w0 c ∧ w2 = a_nu (t_b v) w0 c w1) ∧ True)) (l_e1 x 0) (l_e0 x (12)) (l_e1 x 8) K
  | skip
    intro v x h
    have E0 : y_ev x (0, [(0, 1)]) = x 0 := (l_e1 _ _)
    have E1 : y_ev x (0, [(1, 1)]) = x 1 := (l_e1 _ _)
    have E2 : y_ev x (12, []) = 12 := (l_e0 _ _)
    have E3 : y_ev x (0, [(8, 1)]) = x 8 := (l_e1 _ _)
    have E4 : y_ev x (0, []) = 0 := (l_e0 _ _)
    have E5 : y_ev x (0, [(2, 1)]) = x 2 := (l_e1 _ _)
    have E6 : y_ev x (0, [(3, 1)]) = x 3 := (l_e1 _ _)
    have E7 : y_ev x (0, [(4, 1)]) = x 4 := (l_e1 _ _)
    have E8 : y_ev x (0, [(5, 1)]) = x 5 := (l_e1 _ _)
    have E9 : y_ev x (0, [(9, 1)]) = x 9 := (l_e1 _ _)
    have E10 : y_ev x (0, [(6, 1)]) = x 6 := (l_e1 _ _)
    have E11 : y_ev x (0, [(7, 1)]) = x 7 := (l_e1 _ _)
    have T0 : 0 ≤ (y_ev x (0, [(1, 1)])) ∧ (y_ev x (0, [(8, 1)])) = a_nu (t_b v) (y_ev x (0, [(0, 1)])) (y_ev x (0, [(1, 1)])).toNat (y_ev x (12, [])) := h.2.2.2.1
    (try rw [E0] at T0); (try rw [E1] at T0); (try rw [E2] at T0); (try rw [E3] at T0)
    have T1 : q_run2 (t_b v) (y_ev x (0, [(0, 1)])) (y_ev x (0, [(1, 1)])) (y_ev x (0, [])) (y_ev x (0, [])) (y_ev x (0, [])) (y_ev x (0, [(2, 1)])) (y_ev x (0, [(3, 1)])) (y_ev x (0, [(4, 1)])) (y_ev x (0, [(5, 1)])) (y_ev x (0, [(9, 1)])) := h.2.2.2.2.1
    (try rw [E0] at T1); (try rw [E1] at T1); (try rw [E4] at T1); (try rw [E5] at T1); (try rw [E6] at T1); (try rw [E7] at T1); (try rw [E8] at T1); (try rw [E9] at T1)
    have T2 : q_tok (t_b v) (y_ev x (0, [(0, 1)])) (y_ev x (0, [(1, 1)])) (y_ev x (0, [])) (y_ev x (0, [(6, 1)])) (y_ev x (0, [(7, 1)])) := h.2.2.2.2.2.1
    (try rw [E0] at T2); (try rw [E1] at T2); (try rw [E4] at T2); (try rw [E10] at T2); (try rw [E11] at T2)
    have K := k_fnm_12 (V := v) (n := x 0) (c := x 1) (H := x 2) (L := x 3) (W := x 4) (P := x 5) (s := x 6) (v := x 7) (w := x 8) (S := x 9) T0 T1 T2
    refine l_outH rfl (And.intro h.1 ?_)
    have O0 : y_ev x (0, [(0, 1)]) = x 0 := l_e1 _ _
    have O1 : y_ev x (12, []) = 12 := l_e0 _ _
    have O2 : y_ev x (0, [(8, 1)]) = x 8 := l_e1 _ _
    show (True) ∧ ((∃ c : Nat, q_end (t_b v) (y_ev x (0, [(0, 1)])) c ∧ (y_ev x (0, [(8, 1)])) = a_nu (t_b v) (y_ev x (0, [(0, 1)])) c (y_ev x (12, []))) ∧ True)
    (try rw [O0]); (try rw [O1]); (try rw [O2])
    exact K
def lm_539 : zLem := (([((-2147483648), 2147483647), ((-2147483648), 2147483647), ((-2147483648), 2147483647), ((-2147483648), 2147483647), ((-2147483648), 2147483647), ((-2147483648), 2147483647), ((-2147483648), 2147483647)], [(12, false)], [(0, [(5, 1)]), (0, [(5, (-1))])], [], [], [(0, (false, 11, 0, []), 0, 0, 0, [(5, 1)])], [(40, [(0, [(0, 1)]), (0, [(5, 1)]), (0, []), (0, []), (0, []), (0, [(1, 1)]), (0, [(2, 1)]), (0, [(3, 1)]), (0, [(4, 1)]), (0, [(6, 1)])])]), [([((-2147483648), 2147483647), ((-2147483648), 2147483647), ((-2147483648), 2147483647), ((-2147483648), 2147483647), ((-2147483648), 2147483647), ((-2147483648), 2147483647), ((-2147483648), 2147483647)], [(12, false)], [], [], [], [], [(86, [(0, [(0, 1)]), (0, [(5, 1)]), (9, []), (20, [])])])])
theorem lk_539 : l_core lm_539 := by
  first
  | skip
    intro v x h
    have K := k_mnum0_9 (V := v) (n := x 0) (H := x 1) (L := x 2) (W := x 3) (P := x 4) (c := x 5) (S := x 6) (l_c8 (fun w0 w1 w2 w3 w4 w5 w6 w7 : Int => q_run2 (t_b v) w0 w1 w2 w2 w2 w3 w4 w5 w6 w7) (l_e1 x 0) (l_e1 x 5) (l_e0 x (0)) (l_e1 x 1) (l_e1 x 2) (l_e1 x 3) (l_e1 x 4) (l_e1 x 6) (h.2.2.2.1)) (l_cc (l_e1 x 5) (h.2.1.1)) (l_cc (l_q7 x 5) (h.2.1.2.1))
    refine l_outH rfl (And.intro h.1 ?_)
    exact l_o4 (fun w0 w1 w2 w3 : Int => (True) ∧ ((0 ≤ w1 ∧ w3 = a_nu (t_b v) w0 w1.toNat w2) ∧ True)) (l_e1 x 0) (l_e1 x 5) (l_e0 x (9)) (l_e0 x (20)) K
  | skip
    intro v x h
    have C0 : (0 : Int) ≤ x 5 := l_cc (a := y_ev x (0, [(5, 1)])) (l_e1 _ _) (h.2.1.1)
    have C1 : (0 : Int) ≤ -x 5 := l_cc (a := y_ev x (0, [(5, (-1))])) (by show ((0) : Int) + ((-1) * x 5 + 0) = -x 5; omega) (h.2.1.2.1)
    have E0 : y_ev x (0, [(0, 1)]) = x 0 := (l_e1 _ _)
    have E1 : y_ev x (0, [(5, 1)]) = x 5 := (l_e1 _ _)
    have E2 : y_ev x (0, []) = 0 := (l_e0 _ _)
    have E3 : y_ev x (0, [(1, 1)]) = x 1 := (l_e1 _ _)
    have E4 : y_ev x (0, [(2, 1)]) = x 2 := (l_e1 _ _)
    have E5 : y_ev x (0, [(3, 1)]) = x 3 := (l_e1 _ _)
    have E6 : y_ev x (0, [(4, 1)]) = x 4 := (l_e1 _ _)
    have E7 : y_ev x (0, [(6, 1)]) = x 6 := (l_e1 _ _)
    have T0 : q_run2 (t_b v) (y_ev x (0, [(0, 1)])) (y_ev x (0, [(5, 1)])) (y_ev x (0, [])) (y_ev x (0, [])) (y_ev x (0, [])) (y_ev x (0, [(1, 1)])) (y_ev x (0, [(2, 1)])) (y_ev x (0, [(3, 1)])) (y_ev x (0, [(4, 1)])) (y_ev x (0, [(6, 1)])) := h.2.2.2.1
    (try rw [E0] at T0); (try rw [E1] at T0); (try rw [E2] at T0); (try rw [E3] at T0); (try rw [E4] at T0); (try rw [E5] at T0); (try rw [E6] at T0); (try rw [E7] at T0)
    have K := k_mnum0_9 (V := v) (n := x 0) (H := x 1) (L := x 2) (W := x 3) (P := x 4) (c := x 5) (S := x 6) T0 C0 C1
    refine l_outH rfl (And.intro h.1 ?_)
    have O0 : y_ev x (0, [(0, 1)]) = x 0 := l_e1 _ _
    have O1 : y_ev x (0, [(5, 1)]) = x 5 := l_e1 _ _
    have O2 : y_ev x (9, []) = 9 := l_e0 _ _
    have O3 : y_ev x (20, []) = 20 := l_e0 _ _
    show (True) ∧ ((0 ≤ (y_ev x (0, [(5, 1)])) ∧ (y_ev x (20, [])) = a_nu (t_b v) (y_ev x (0, [(0, 1)])) (y_ev x (0, [(5, 1)])).toNat (y_ev x (9, []))) ∧ True)
    (try rw [O0]); (try rw [O1]); (try rw [O2]); (try rw [O3])
    exact K
def lm_540p : zS := ((lm_520pi_0 (lm_520pi_1 [])), [(12, false)], [(400, [(1, (-1))]), ((-3), [(1, 1)])], [], [], [(0, (false, 11, 0, []), 0, 0, 0, [(1, 1)])], (lm_520pg_0 []))
def lm_540 : zLem := (lm_540p, [([((-2147483648), 2147483647), ((-2147483648), 2147483647), ((-2147483648), 2147483647), ((-2147483648), 2147483647), ((-2147483648), 2147483647), ((-2147483648), 2147483647), ((-2147483648), 2147483647), ((-2147483648), 2147483647), ((-2147483648), 2147483647), ((-2147483648), 2147483647), ((-2147483648), 2147483647), ((-9223372036854775808), 9223372036854775807), ((-2147483648), 2147483647), ((-2147483648), 2147483647), ((-2147483648), 2147483647)], [(12, false)], [], [], [], [], [(86, [(0, [(0, 1)]), (0, [(1, 1)]), (9, []), (0, [(12, 1)])])])])
theorem lk_540 : l_core lm_540 := by
  first
  | skip
    intro v x h
    have K := k_numS_9 (V := v) (n := x 0) (d := x 1) (H := x 2) (L := x 3) (W := x 4) (P := x 5) (H2 := x 6) (L2 := x 7) (W2 := x 8) (P2 := x 9) (s := x 10) (v := x 11) (u := x 12) (S := x 13) (S2 := x 14) (l_c9 (fun w0 w1 w2 w3 w4 w5 w6 w7 w8 : Int => q_run2 (t_b v) w0 w1 w2 w3 w3 w4 w5 w6 w7 w8) (l_e1 x 0) (l_q2 1 x 1) (l_e0 x (13)) (l_e0 x (0)) (l_e1 x 2) (l_e1 x 3) (l_e1 x 4) (l_e1 x 5) (l_e1 x 13) (h.2.2.2.1)) (l_c8 (fun w0 w1 w2 w3 w4 w5 w6 w7 : Int => q_run2 (t_b v) w0 w1 w2 w2 w2 w3 w4 w5 w6 w7) (l_e1 x 0) (l_q2 3 x 1) (l_e0 x (0)) (l_e1 x 6) (l_e1 x 7) (l_e1 x 8) (l_e1 x 9) (l_e1 x 14) (h.2.2.2.2.1)) (l_c5 (fun w0 w1 w2 w3 w4 : Int => q_tok (t_b v) w0 w1 w2 w3 w4) (l_e1 x 0) (l_q2 3 x 1) (l_e0 x (258)) (l_e1 x 10) (l_e1 x 11) (h.2.2.2.2.2.1)) (l_c3 (fun w0 w1 w2 : Int => tk (t_b v) w0 w1.toNat = 3 ∧ w2 = tx (t_b v) w0 w1.toNat) (l_e1 x 0) (l_q2 2 x 1) (l_e1 x 12) (h.2.2.2.2.2.2.1)) (l_cc (l_q1 400 x 1) (h.2.1.1)) (l_cc (l_q2 3 x 1) (h.2.1.2.1))
    refine l_outH rfl (And.intro h.1 ?_)
    exact l_o4 (fun w0 w1 w2 w3 : Int => (True) ∧ ((0 ≤ w1 ∧ w3 = a_nu (t_b v) w0 w1.toNat w2) ∧ True)) (l_e1 x 0) (l_e1 x 1) (l_e0 x (9)) (l_e1 x 12) K
  | skip
    intro v x h
    have C0 : (0 : Int) ≤ 400 - x 1 := l_cc (a := y_ev x (400, [(1, (-1))])) (by show ((400) : Int) + ((-1) * x 1 + 0) = 400 - x 1; omega) (h.2.1.1)
    have C1 : (0 : Int) ≤ x 1 - 3 := l_cc (a := y_ev x ((-3), [(1, 1)])) (by show ((-3) : Int) + ((1) * x 1 + 0) = x 1 - 3; omega) (h.2.1.2.1)
    have E0 : y_ev x (0, [(0, 1)]) = x 0 := (l_e1 _ _)
    have E1 : y_ev x ((-1), [(1, 1)]) = x 1 - 1 := (by show ((-1) : Int) + ((1) * x 1 + 0) = x 1 - 1; omega)
    have E2 : y_ev x (13, []) = 13 := (l_e0 _ _)
    have E3 : y_ev x (0, []) = 0 := (l_e0 _ _)
    have E4 : y_ev x (0, [(2, 1)]) = x 2 := (l_e1 _ _)
    have E5 : y_ev x (0, [(3, 1)]) = x 3 := (l_e1 _ _)
    have E6 : y_ev x (0, [(4, 1)]) = x 4 := (l_e1 _ _)
    have E7 : y_ev x (0, [(5, 1)]) = x 5 := (l_e1 _ _)
    have E8 : y_ev x (0, [(13, 1)]) = x 13 := (l_e1 _ _)
    have E9 : y_ev x ((-3), [(1, 1)]) = x 1 - 3 := (by show ((-3) : Int) + ((1) * x 1 + 0) = x 1 - 3; omega)
    have E10 : y_ev x (0, [(6, 1)]) = x 6 := (l_e1 _ _)
    have E11 : y_ev x (0, [(7, 1)]) = x 7 := (l_e1 _ _)
    have E12 : y_ev x (0, [(8, 1)]) = x 8 := (l_e1 _ _)
    have E13 : y_ev x (0, [(9, 1)]) = x 9 := (l_e1 _ _)
    have E14 : y_ev x (0, [(14, 1)]) = x 14 := (l_e1 _ _)
    have E15 : y_ev x (258, []) = 258 := (l_e0 _ _)
    have E16 : y_ev x (0, [(10, 1)]) = x 10 := (l_e1 _ _)
    have E17 : y_ev x (0, [(11, 1)]) = x 11 := (l_e1 _ _)
    have E18 : y_ev x ((-2), [(1, 1)]) = x 1 - 2 := (by show ((-2) : Int) + ((1) * x 1 + 0) = x 1 - 2; omega)
    have E19 : y_ev x (0, [(12, 1)]) = x 12 := (l_e1 _ _)
    have T0 : q_run2 (t_b v) (y_ev x (0, [(0, 1)])) (y_ev x ((-1), [(1, 1)])) (y_ev x (13, [])) (y_ev x (0, [])) (y_ev x (0, [])) (y_ev x (0, [(2, 1)])) (y_ev x (0, [(3, 1)])) (y_ev x (0, [(4, 1)])) (y_ev x (0, [(5, 1)])) (y_ev x (0, [(13, 1)])) := h.2.2.2.1
    (try rw [E0] at T0); (try rw [E1] at T0); (try rw [E2] at T0); (try rw [E3] at T0); (try rw [E4] at T0); (try rw [E5] at T0); (try rw [E6] at T0); (try rw [E7] at T0); (try rw [E8] at T0)
    have T1 : q_run2 (t_b v) (y_ev x (0, [(0, 1)])) (y_ev x ((-3), [(1, 1)])) (y_ev x (0, [])) (y_ev x (0, [])) (y_ev x (0, [])) (y_ev x (0, [(6, 1)])) (y_ev x (0, [(7, 1)])) (y_ev x (0, [(8, 1)])) (y_ev x (0, [(9, 1)])) (y_ev x (0, [(14, 1)])) := h.2.2.2.2.1
    (try rw [E0] at T1); (try rw [E9] at T1); (try rw [E3] at T1); (try rw [E10] at T1); (try rw [E11] at T1); (try rw [E12] at T1); (try rw [E13] at T1); (try rw [E14] at T1)
    have T2 : q_tok (t_b v) (y_ev x (0, [(0, 1)])) (y_ev x ((-3), [(1, 1)])) (y_ev x (258, [])) (y_ev x (0, [(10, 1)])) (y_ev x (0, [(11, 1)])) := h.2.2.2.2.2.1
    (try rw [E0] at T2); (try rw [E9] at T2); (try rw [E15] at T2); (try rw [E16] at T2); (try rw [E17] at T2)
    have T3 : tk (t_b v) (y_ev x (0, [(0, 1)])) (y_ev x ((-2), [(1, 1)])).toNat = 3 ∧ (y_ev x (0, [(12, 1)])) = tx (t_b v) (y_ev x (0, [(0, 1)])) (y_ev x ((-2), [(1, 1)])).toNat := h.2.2.2.2.2.2.1
    (try rw [E0] at T3); (try rw [E18] at T3); (try rw [E19] at T3)
    have K := k_numS_9 (V := v) (n := x 0) (d := x 1) (H := x 2) (L := x 3) (W := x 4) (P := x 5) (H2 := x 6) (L2 := x 7) (W2 := x 8) (P2 := x 9) (s := x 10) (v := x 11) (u := x 12) (S := x 13) (S2 := x 14) T0 T1 T2 T3 C0 C1
    refine l_outH rfl (And.intro h.1 ?_)
    have O0 : y_ev x (0, [(0, 1)]) = x 0 := l_e1 _ _
    have O1 : y_ev x (0, [(1, 1)]) = x 1 := l_e1 _ _
    have O2 : y_ev x (9, []) = 9 := l_e0 _ _
    have O3 : y_ev x (0, [(12, 1)]) = x 12 := l_e1 _ _
    show (True) ∧ ((0 ≤ (y_ev x (0, [(1, 1)])) ∧ (y_ev x (0, [(12, 1)])) = a_nu (t_b v) (y_ev x (0, [(0, 1)])) (y_ev x (0, [(1, 1)])).toNat (y_ev x (9, []))) ∧ True)
    (try rw [O0]); (try rw [O1]); (try rw [O2]); (try rw [O3])
    exact K
def lm_541pi_0 (t : List (Int × Int)) : List (Int × Int) := ((-2147483648), 2147483647) :: ((-2147483648), 2147483647) :: ((-2147483648), 2147483647) :: ((-2147483648), 2147483647) :: ((-2147483648), 2147483647) :: ((-2147483648), 2147483647) :: ((-2147483648), 2147483647) :: ((-2147483648), 2147483647) :: t
def lm_541pi_1 (t : List (Int × Int)) : List (Int × Int) := ((-2147483648), 2147483647) :: ((-2147483648), 2147483647) :: ((-2147483648), 2147483647) :: ((-2147483648), 2147483647) :: ((-2147483648), 2147483647) :: ((-2147483648), 2147483647) :: ((-2147483648), 2147483647) :: ((-2147483648), 2147483647) :: t
def lm_541pg_0 (t : List zTg) : List zTg := (86, [(0, [(0, 1)]), (0, [(1, 1)]), (9, []), (0, [(13, 1)])]) :: (40, [(0, [(0, 1)]), (0, [(1, 1)]), (0, []), (0, []), (0, []), (0, [(3, 1)]), (0, [(4, 1)]), (0, [(5, 1)]), (0, [(6, 1)]), (0, [(14, 1)])]) :: (40, [(0, [(0, 1)]), (0, [(2, 1)]), (0, []), (0, []), (0, []), (0, [(7, 1)]), (0, [(8, 1)]), (0, [(9, 1)]), (0, [(10, 1)]), (0, [(15, 1)])]) :: (59, [(0, [(0, 1)]), (0, [(1, 1)]), (0, [(11, 1)]), (0, [(12, 1)])]) :: t
def lm_541p : zS := ((lm_541pi_0 (lm_541pi_1 [])), [(12, false)], [(0, [(1, (-1)), (2, 1)]), (1, [(14, 1), (15, (-1))]), ((-1), [(14, (-1)), (15, 1)]), (21, [(11, (-1))])], [], [], [(0, (false, 11, 0, []), 0, 0, 0, [(2, 1)])], (lm_541pg_0 []))
def lm_541 : zLem := (lm_541p, [([((-2147483648), 2147483647), ((-2147483648), 2147483647), ((-2147483648), 2147483647), ((-2147483648), 2147483647), ((-2147483648), 2147483647), ((-2147483648), 2147483647), ((-2147483648), 2147483647), ((-2147483648), 2147483647), ((-2147483648), 2147483647), ((-2147483648), 2147483647), ((-2147483648), 2147483647), ((-2147483648), 2147483647), ((-2147483648), 2147483647), ((-2147483648), 2147483647), ((-2147483648), 2147483647), ((-2147483648), 2147483647)], [(12, false)], [], [], [], [], [(86, [(0, [(0, 1)]), (0, [(2, 1)]), (9, []), (0, [(13, 1)])])])])
theorem lk_541 : l_core lm_541 := by
  first
  | skip
    intro v x h
    have K := k_mnumMa_9 (V := v) (n := x 0) (c := x 1) (d := x 2) (H := x 3) (L := x 4) (W := x 5) (P := x 6) (H2 := x 7) (L2 := x 8) (W2 := x 9) (P2 := x 10) (u := x 11) (s := x 12) (w := x 13) (S := x 14) (S2 := x 15) (l_c4 (fun w0 w1 w2 w3 : Int => 0 ≤ w1 ∧ w3 = a_nu (t_b v) w0 w1.toNat w2) (l_e1 x 0) (l_e1 x 1) (l_e0 x (9)) (l_e1 x 13) (h.2.2.2.1)) (l_c8 (fun w0 w1 w2 w3 w4 w5 w6 w7 : Int => q_run2 (t_b v) w0 w1 w2 w2 w2 w3 w4 w5 w6 w7) (l_e1 x 0) (l_e1 x 1) (l_e0 x (0)) (l_e1 x 3) (l_e1 x 4) (l_e1 x 5) (l_e1 x 6) (l_e1 x 14) (h.2.2.2.2.1)) (l_c8 (fun w0 w1 w2 w3 w4 w5 w6 w7 : Int => q_run2 (t_b v) w0 w1 w2 w2 w2 w3 w4 w5 w6 w7) (l_e1 x 0) (l_e1 x 2) (l_e0 x (0)) (l_e1 x 7) (l_e1 x 8) (l_e1 x 9) (l_e1 x 10) (l_e1 x 15) (h.2.2.2.2.2.1)) (l_c4 (fun w0 w1 w2 w3 : Int => 0 ≤ w1 ∧ 0 ≤ w2 ∧ w2 ≤ 41 ∧ t_km w2 = tk (t_b v) w0 w1.toNat ∧ w3 = t_s (t_b v) w0 w1.toNat) (l_e1 x 0) (l_e1 x 1) (l_e1 x 11) (l_e1 x 12) (h.2.2.2.2.2.2.1)) (l_cc (l_q4 x 1 2) (h.2.1.1)) (l_cc (l_q13 1 x 14 15) (h.2.1.2.1)) (l_cc (l_q6 1 x 14 15) (h.2.1.2.2.1)) (l_cc (l_q1 21 x 11) (h.2.1.2.2.2.1))
    refine l_outH rfl (And.intro h.1 ?_)
    exact l_o4 (fun w0 w1 w2 w3 : Int => (True) ∧ ((0 ≤ w1 ∧ w3 = a_nu (t_b v) w0 w1.toNat w2) ∧ True)) (l_e1 x 0) (l_e1 x 2) (l_e0 x (9)) (l_e1 x 13) K
  | skip
    intro v x h
    have C0 : (0 : Int) ≤ x 2 - x 1 := l_cc (a := y_ev x (0, [(1, (-1)), (2, 1)])) (by show ((0) : Int) + ((-1) * x 1 + ((1) * x 2 + 0)) = x 2 - x 1; omega) (h.2.1.1)
    have C1 : (0 : Int) ≤ x 14 - x 15 + 1 := l_cc (a := y_ev x (1, [(14, 1), (15, (-1))])) (by show ((1) : Int) + ((1) * x 14 + ((-1) * x 15 + 0)) = x 14 - x 15 + 1; omega) (h.2.1.2.1)
    have C2 : (0 : Int) ≤ x 15 - x 14 - 1 := l_cc (a := y_ev x ((-1), [(14, (-1)), (15, 1)])) (by show ((-1) : Int) + ((-1) * x 14 + ((1) * x 15 + 0)) = x 15 - x 14 - 1; omega) (h.2.1.2.2.1)
    have C3 : (0 : Int) ≤ 21 - x 11 := l_cc (a := y_ev x (21, [(11, (-1))])) (by show ((21) : Int) + ((-1) * x 11 + 0) = 21 - x 11; omega) (h.2.1.2.2.2.1)
    have E0 : y_ev x (0, [(0, 1)]) = x 0 := (l_e1 _ _)
    have E1 : y_ev x (0, [(1, 1)]) = x 1 := (l_e1 _ _)
    have E2 : y_ev x (9, []) = 9 := (l_e0 _ _)
    have E3 : y_ev x (0, [(13, 1)]) = x 13 := (l_e1 _ _)
    have E4 : y_ev x (0, []) = 0 := (l_e0 _ _)
    have E5 : y_ev x (0, [(3, 1)]) = x 3 := (l_e1 _ _)
    have E6 : y_ev x (0, [(4, 1)]) = x 4 := (l_e1 _ _)
    have E7 : y_ev x (0, [(5, 1)]) = x 5 := (l_e1 _ _)
    have E8 : y_ev x (0, [(6, 1)]) = x 6 := (l_e1 _ _)
    have E9 : y_ev x (0, [(14, 1)]) = x 14 := (l_e1 _ _)
    have E10 : y_ev x (0, [(2, 1)]) = x 2 := (l_e1 _ _)
    have E11 : y_ev x (0, [(7, 1)]) = x 7 := (l_e1 _ _)
    have E12 : y_ev x (0, [(8, 1)]) = x 8 := (l_e1 _ _)
    have E13 : y_ev x (0, [(9, 1)]) = x 9 := (l_e1 _ _)
    have E14 : y_ev x (0, [(10, 1)]) = x 10 := (l_e1 _ _)
    have E15 : y_ev x (0, [(15, 1)]) = x 15 := (l_e1 _ _)
    have E16 : y_ev x (0, [(11, 1)]) = x 11 := (l_e1 _ _)
    have E17 : y_ev x (0, [(12, 1)]) = x 12 := (l_e1 _ _)
    have T0 : 0 ≤ (y_ev x (0, [(1, 1)])) ∧ (y_ev x (0, [(13, 1)])) = a_nu (t_b v) (y_ev x (0, [(0, 1)])) (y_ev x (0, [(1, 1)])).toNat (y_ev x (9, [])) := h.2.2.2.1
    (try rw [E0] at T0); (try rw [E1] at T0); (try rw [E2] at T0); (try rw [E3] at T0)
    have T1 : q_run2 (t_b v) (y_ev x (0, [(0, 1)])) (y_ev x (0, [(1, 1)])) (y_ev x (0, [])) (y_ev x (0, [])) (y_ev x (0, [])) (y_ev x (0, [(3, 1)])) (y_ev x (0, [(4, 1)])) (y_ev x (0, [(5, 1)])) (y_ev x (0, [(6, 1)])) (y_ev x (0, [(14, 1)])) := h.2.2.2.2.1
    (try rw [E0] at T1); (try rw [E1] at T1); (try rw [E4] at T1); (try rw [E5] at T1); (try rw [E6] at T1); (try rw [E7] at T1); (try rw [E8] at T1); (try rw [E9] at T1)
    have T2 : q_run2 (t_b v) (y_ev x (0, [(0, 1)])) (y_ev x (0, [(2, 1)])) (y_ev x (0, [])) (y_ev x (0, [])) (y_ev x (0, [])) (y_ev x (0, [(7, 1)])) (y_ev x (0, [(8, 1)])) (y_ev x (0, [(9, 1)])) (y_ev x (0, [(10, 1)])) (y_ev x (0, [(15, 1)])) := h.2.2.2.2.2.1
    (try rw [E0] at T2); (try rw [E10] at T2); (try rw [E4] at T2); (try rw [E11] at T2); (try rw [E12] at T2); (try rw [E13] at T2); (try rw [E14] at T2); (try rw [E15] at T2)
    have T3 : 0 ≤ (y_ev x (0, [(1, 1)])) ∧ 0 ≤ (y_ev x (0, [(11, 1)])) ∧ (y_ev x (0, [(11, 1)])) ≤ 41 ∧ t_km (y_ev x (0, [(11, 1)])) = tk (t_b v) (y_ev x (0, [(0, 1)])) (y_ev x (0, [(1, 1)])).toNat ∧ (y_ev x (0, [(12, 1)])) = t_s (t_b v) (y_ev x (0, [(0, 1)])) (y_ev x (0, [(1, 1)])).toNat := h.2.2.2.2.2.2.1
    (try rw [E0] at T3); (try rw [E1] at T3); (try rw [E16] at T3); (try rw [E17] at T3)
    have K := k_mnumMa_9 (V := v) (n := x 0) (c := x 1) (d := x 2) (H := x 3) (L := x 4) (W := x 5) (P := x 6) (H2 := x 7) (L2 := x 8) (W2 := x 9) (P2 := x 10) (u := x 11) (s := x 12) (w := x 13) (S := x 14) (S2 := x 15) T0 T1 T2 T3 C0 C1 C2 C3
    refine l_outH rfl (And.intro h.1 ?_)
    have O0 : y_ev x (0, [(0, 1)]) = x 0 := l_e1 _ _
    have O1 : y_ev x (0, [(2, 1)]) = x 2 := l_e1 _ _
    have O2 : y_ev x (9, []) = 9 := l_e0 _ _
    have O3 : y_ev x (0, [(13, 1)]) = x 13 := l_e1 _ _
    show (True) ∧ ((0 ≤ (y_ev x (0, [(2, 1)])) ∧ (y_ev x (0, [(13, 1)])) = a_nu (t_b v) (y_ev x (0, [(0, 1)])) (y_ev x (0, [(2, 1)])).toNat (y_ev x (9, []))) ∧ True)
    (try rw [O0]); (try rw [O1]); (try rw [O2]); (try rw [O3])
    exact K
def lm_542p : zS := ((lm_541pi_0 (lm_541pi_1 [])), [(12, false)], [(0, [(1, (-1)), (2, 1)]), (1, [(14, 1), (15, (-1))]), ((-1), [(14, (-1)), (15, 1)]), ((-23), [(11, 1)])], [], [], [(0, (false, 11, 0, []), 0, 0, 0, [(2, 1)])], (lm_541pg_0 []))
def lm_542 : zLem := (lm_542p, [([((-2147483648), 2147483647), ((-2147483648), 2147483647), ((-2147483648), 2147483647), ((-2147483648), 2147483647), ((-2147483648), 2147483647), ((-2147483648), 2147483647), ((-2147483648), 2147483647), ((-2147483648), 2147483647), ((-2147483648), 2147483647), ((-2147483648), 2147483647), ((-2147483648), 2147483647), ((-2147483648), 2147483647), ((-2147483648), 2147483647), ((-2147483648), 2147483647), ((-2147483648), 2147483647), ((-2147483648), 2147483647)], [(12, false)], [], [], [], [], [(86, [(0, [(0, 1)]), (0, [(2, 1)]), (9, []), (0, [(13, 1)])])])])
theorem lk_542 : l_core lm_542 := by
  first
  | skip
    intro v x h
    have K := k_mnumMb_9 (V := v) (n := x 0) (c := x 1) (d := x 2) (H := x 3) (L := x 4) (W := x 5) (P := x 6) (H2 := x 7) (L2 := x 8) (W2 := x 9) (P2 := x 10) (u := x 11) (s := x 12) (w := x 13) (S := x 14) (S2 := x 15) (l_c4 (fun w0 w1 w2 w3 : Int => 0 ≤ w1 ∧ w3 = a_nu (t_b v) w0 w1.toNat w2) (l_e1 x 0) (l_e1 x 1) (l_e0 x (9)) (l_e1 x 13) (h.2.2.2.1)) (l_c8 (fun w0 w1 w2 w3 w4 w5 w6 w7 : Int => q_run2 (t_b v) w0 w1 w2 w2 w2 w3 w4 w5 w6 w7) (l_e1 x 0) (l_e1 x 1) (l_e0 x (0)) (l_e1 x 3) (l_e1 x 4) (l_e1 x 5) (l_e1 x 6) (l_e1 x 14) (h.2.2.2.2.1)) (l_c8 (fun w0 w1 w2 w3 w4 w5 w6 w7 : Int => q_run2 (t_b v) w0 w1 w2 w2 w2 w3 w4 w5 w6 w7) (l_e1 x 0) (l_e1 x 2) (l_e0 x (0)) (l_e1 x 7) (l_e1 x 8) (l_e1 x 9) (l_e1 x 10) (l_e1 x 15) (h.2.2.2.2.2.1)) (l_c4 (fun w0 w1 w2 w3 : Int => 0 ≤ w1 ∧ 0 ≤ w2 ∧ w2 ≤ 41 ∧ t_km w2 = tk (t_b v) w0 w1.toNat ∧ w3 = t_s (t_b v) w0 w1.toNat) (l_e1 x 0) (l_e1 x 1) (l_e1 x 11) (l_e1 x 12) (h.2.2.2.2.2.2.1)) (l_cc (l_q4 x 1 2) (h.2.1.1)) (l_cc (l_q13 1 x 14 15) (h.2.1.2.1)) (l_cc (l_q6 1 x 14 15) (h.2.1.2.2.1)) (l_cc (l_q2 23 x 11) (h.2.1.2.2.2.1))
    refine l_outH rfl (And.intro h.1 ?_)
    exact l_o4 (fun w0 w1 w2 w3 : Int => (True) ∧ ((0 ≤ w1 ∧ w3 = a_nu (t_b v) w0 w1.toNat w2) ∧ True)) (l_e1 x 0) (l_e1 x 2) (l_e0 x (9)) (l_e1 x 13) K
  | skip
    intro v x h
    have C0 : (0 : Int) ≤ x 2 - x 1 := l_cc (a := y_ev x (0, [(1, (-1)), (2, 1)])) (by show ((0) : Int) + ((-1) * x 1 + ((1) * x 2 + 0)) = x 2 - x 1; omega) (h.2.1.1)
    have C1 : (0 : Int) ≤ x 14 - x 15 + 1 := l_cc (a := y_ev x (1, [(14, 1), (15, (-1))])) (by show ((1) : Int) + ((1) * x 14 + ((-1) * x 15 + 0)) = x 14 - x 15 + 1; omega) (h.2.1.2.1)
    have C2 : (0 : Int) ≤ x 15 - x 14 - 1 := l_cc (a := y_ev x ((-1), [(14, (-1)), (15, 1)])) (by show ((-1) : Int) + ((-1) * x 14 + ((1) * x 15 + 0)) = x 15 - x 14 - 1; omega) (h.2.1.2.2.1)
    have C3 : (0 : Int) ≤ x 11 - 23 := l_cc (a := y_ev x ((-23), [(11, 1)])) (by show ((-23) : Int) + ((1) * x 11 + 0) = x 11 - 23; omega) (h.2.1.2.2.2.1)
    have E0 : y_ev x (0, [(0, 1)]) = x 0 := (l_e1 _ _)
    have E1 : y_ev x (0, [(1, 1)]) = x 1 := (l_e1 _ _)
    have E2 : y_ev x (9, []) = 9 := (l_e0 _ _)
    have E3 : y_ev x (0, [(13, 1)]) = x 13 := (l_e1 _ _)
    have E4 : y_ev x (0, []) = 0 := (l_e0 _ _)
    have E5 : y_ev x (0, [(3, 1)]) = x 3 := (l_e1 _ _)
    have E6 : y_ev x (0, [(4, 1)]) = x 4 := (l_e1 _ _)
    have E7 : y_ev x (0, [(5, 1)]) = x 5 := (l_e1 _ _)
    have E8 : y_ev x (0, [(6, 1)]) = x 6 := (l_e1 _ _)
    have E9 : y_ev x (0, [(14, 1)]) = x 14 := (l_e1 _ _)
    have E10 : y_ev x (0, [(2, 1)]) = x 2 := (l_e1 _ _)
    have E11 : y_ev x (0, [(7, 1)]) = x 7 := (l_e1 _ _)
    have E12 : y_ev x (0, [(8, 1)]) = x 8 := (l_e1 _ _)
    have E13 : y_ev x (0, [(9, 1)]) = x 9 := (l_e1 _ _)
    have E14 : y_ev x (0, [(10, 1)]) = x 10 := (l_e1 _ _)
    have E15 : y_ev x (0, [(15, 1)]) = x 15 := (l_e1 _ _)
    have E16 : y_ev x (0, [(11, 1)]) = x 11 := (l_e1 _ _)
    have E17 : y_ev x (0, [(12, 1)]) = x 12 := (l_e1 _ _)
    have T0 : 0 ≤ (y_ev x (0, [(1, 1)])) ∧ (y_ev x (0, [(13, 1)])) = a_nu (t_b v) (y_ev x (0, [(0, 1)])) (y_ev x (0, [(1, 1)])).toNat (y_ev x (9, [])) := h.2.2.2.1
    (try rw [E0] at T0); (try rw [E1] at T0); (try rw [E2] at T0); (try rw [E3] at T0)
    have T1 : q_run2 (t_b v) (y_ev x (0, [(0, 1)])) (y_ev x (0, [(1, 1)])) (y_ev x (0, [])) (y_ev x (0, [])) (y_ev x (0, [])) (y_ev x (0, [(3, 1)])) (y_ev x (0, [(4, 1)])) (y_ev x (0, [(5, 1)])) (y_ev x (0, [(6, 1)])) (y_ev x (0, [(14, 1)])) := h.2.2.2.2.1
    (try rw [E0] at T1); (try rw [E1] at T1); (try rw [E4] at T1); (try rw [E5] at T1); (try rw [E6] at T1); (try rw [E7] at T1); (try rw [E8] at T1); (try rw [E9] at T1)
    have T2 : q_run2 (t_b v) (y_ev x (0, [(0, 1)])) (y_ev x (0, [(2, 1)])) (y_ev x (0, [])) (y_ev x (0, [])) (y_ev x (0, [])) (y_ev x (0, [(7, 1)])) (y_ev x (0, [(8, 1)])) (y_ev x (0, [(9, 1)])) (y_ev x (0, [(10, 1)])) (y_ev x (0, [(15, 1)])) := h.2.2.2.2.2.1
    (try rw [E0] at T2); (try rw [E10] at T2); (try rw [E4] at T2); (try rw [E11] at T2); (try rw [E12] at T2); (try rw [E13] at T2); (try rw [E14] at T2); (try rw [E15] at T2)
    have T3 : 0 ≤ (y_ev x (0, [(1, 1)])) ∧ 0 ≤ (y_ev x (0, [(11, 1)])) ∧ (y_ev x (0, [(11, 1)])) ≤ 41 ∧ t_km (y_ev x (0, [(11, 1)])) = tk (t_b v) (y_ev x (0, [(0, 1)])) (y_ev x (0, [(1, 1)])).toNat ∧ (y_ev x (0, [(12, 1)])) = t_s (t_b v) (y_ev x (0, [(0, 1)])) (y_ev x (0, [(1, 1)])).toNat := h.2.2.2.2.2.2.1
    (try rw [E0] at T3); (try rw [E1] at T3); (try rw [E16] at T3); (try rw [E17] at T3)
    have K := k_mnumMb_9 (V := v) (n := x 0) (c := x 1) (d := x 2) (H := x 3) (L := x 4) (W := x 5) (P := x 6) (H2 := x 7) (L2 := x 8) (W2 := x 9) (P2 := x 10) (u := x 11) (s := x 12) (w := x 13) (S := x 14) (S2 := x 15) T0 T1 T2 T3 C0 C1 C2 C3
    refine l_outH rfl (And.intro h.1 ?_)
    have O0 : y_ev x (0, [(0, 1)]) = x 0 := l_e1 _ _
    have O1 : y_ev x (0, [(2, 1)]) = x 2 := l_e1 _ _
    have O2 : y_ev x (9, []) = 9 := l_e0 _ _
    have O3 : y_ev x (0, [(13, 1)]) = x 13 := l_e1 _ _
    show (True) ∧ ((0 ≤ (y_ev x (0, [(2, 1)])) ∧ (y_ev x (0, [(13, 1)])) = a_nu (t_b v) (y_ev x (0, [(0, 1)])) (y_ev x (0, [(2, 1)])).toNat (y_ev x (9, []))) ∧ True)
    (try rw [O0]); (try rw [O1]); (try rw [O2]); (try rw [O3])
    exact K
def lm_543 : zLem := (([((-2147483648), 2147483647), ((-2147483648), 2147483647), ((-2147483648), 2147483647), ((-2147483648), 2147483647), ((-2147483648), 2147483647), ((-2147483648), 2147483647), ((-2147483648), 2147483647), ((-2147483648), 2147483647), ((-2147483648), 2147483647)], [(12, false)], [], [], [], [(0, (false, 11, 0, []), 0, 0, 0, [(1, 1)])], [(86, [(0, [(0, 1)]), (0, [(1, 1)]), (9, []), (0, [(7, 1)])]), (40, [(0, [(0, 1)]), (0, [(1, 1)]), (0, []), (0, []), (0, []), (0, [(2, 1)]), (0, [(3, 1)]), (0, [(4, 1)]), (0, [(5, 1)]), (0, [(8, 1)])]), (59, [(0, [(0, 1)]), (0, [(1, 1)]), (0, []), (0, [(6, 1)])])]), [([((-2147483648), 2147483647), ((-2147483648), 2147483647), ((-2147483648), 2147483647), ((-2147483648), 2147483647), ((-2147483648), 2147483647), ((-2147483648), 2147483647), ((-2147483648), 2147483647), ((-2147483648), 2147483647), ((-2147483648), 2147483647)], [(12, false)], [], [], [], [], [(87, [(0, [(0, 1)]), (9, []), (0, [(7, 1)])])])])
theorem lk_543 : l_core lm_543 := by
  first
  | skip
    intro v x h
    have K := k_mfnm_9 (V := v) (n := x 0) (c := x 1) (H := x 2) (L := x 3) (W := x 4) (P := x 5) (z := x 6) (w := x 7) (S := x 8) (l_c4 (fun w0 w1 w2 w3 : Int => 0 ≤ w1 ∧ w3 = a_nu (t_b v) w0 w1.toNat w2) (l_e1 x 0) (l_e1 x 1) (l_e0 x (9)) (l_e1 x 7) (h.2.2.2.1)) (l_c8 (fun w0 w1 w2 w3 w4 w5 w6 w7 : Int => q_run2 (t_b v) w0 w1 w2 w2 w2 w3 w4 w5 w6 w7) (l_e1 x 0) (l_e1 x 1) (l_e0 x (0)) (l_e1 x 2) (l_e1 x 3) (l_e1 x 4) (l_e1 x 5) (l_e1 x 8) (h.2.2.2.2.1)) (l_c4 (fun w0 w1 w2 w3 : Int => 0 ≤ w1 ∧ 0 ≤ w2 ∧ w2 ≤ 41 ∧ t_km w2 = tk (t_b v) w0 w1.toNat ∧ w3 = t_s (t_b v) w0 w1.toNat) (l_e1 x 0) (l_e1 x 1) (l_e0 x (0)) (l_e1 x 6) (h.2.2.2.2.2.1))
    refine l_outH rfl (And.intro h.1 ?_)
    exact l_o3 (fun w0 w1 w2 : Int => (True) ∧ ((∃ c : Nat, q_end (t_b v) w0 c ∧ w2 = a_nu (t_b v) w0 c w1) ∧ True)) (l_e1 x 0) (l_e0 x (9)) (l_e1 x 7) K
  | skip
    intro v x h
    have E0 : y_ev x (0, [(0, 1)]) = x 0 := (l_e1 _ _)
    have E1 : y_ev x (0, [(1, 1)]) = x 1 := (l_e1 _ _)
    have E2 : y_ev x (9, []) = 9 := (l_e0 _ _)
    have E3 : y_ev x (0, [(7, 1)]) = x 7 := (l_e1 _ _)
    have E4 : y_ev x (0, []) = 0 := (l_e0 _ _)
    have E5 : y_ev x (0, [(2, 1)]) = x 2 := (l_e1 _ _)
    have E6 : y_ev x (0, [(3, 1)]) = x 3 := (l_e1 _ _)
    have E7 : y_ev x (0, [(4, 1)]) = x 4 := (l_e1 _ _)
    have E8 : y_ev x (0, [(5, 1)]) = x 5 := (l_e1 _ _)
    have E9 : y_ev x (0, [(8, 1)]) = x 8 := (l_e1 _ _)
    have E10 : y_ev x (0, [(6, 1)]) = x 6 := (l_e1 _ _)
    have T0 : 0 ≤ (y_ev x (0, [(1, 1)])) ∧ (y_ev x (0, [(7, 1)])) = a_nu (t_b v) (y_ev x (0, [(0, 1)])) (y_ev x (0, [(1, 1)])).toNat (y_ev x (9, [])) := h.2.2.2.1
    (try rw [E0] at T0); (try rw [E1] at T0); (try rw [E2] at T0); (try rw [E3] at T0)
    have T1 : q_run2 (t_b v) (y_ev x (0, [(0, 1)])) (y_ev x (0, [(1, 1)])) (y_ev x (0, [])) (y_ev x (0, [])) (y_ev x (0, [])) (y_ev x (0, [(2, 1)])) (y_ev x (0, [(3, 1)])) (y_ev x (0, [(4, 1)])) (y_ev x (0, [(5, 1)])) (y_ev x (0, [(8, 1)])) := h.2.2.2.2.1
    (try rw [E0] at T1); (try rw [E1] at T1); (try rw [E4] at T1); (try rw [E5] at T1); (try rw [E6] at T1); (try rw [E7] at T1); (try rw [E8] at T1); (try rw [E9] at T1)
    have T2 : 0 ≤ (y_ev x (0, [(1, 1)])) ∧ 0 ≤ (y_ev x (0, [])) ∧ (y_ev x (0, [])) ≤ 41 ∧ t_km (y_ev x (0, [])) = tk (t_b v) (y_ev x (0, [(0, 1)])) (y_ev x (0, [(1, 1)])).toNat ∧ (y_ev x (0, [(6, 1)])) = t_s (t_b v) (y_ev x (0, [(0, 1)])) (y_ev x (0, [(1, 1)])).toNat := h.2.2.2.2.2.1
    (try rw [E0] at T2); (try rw [E1] at T2); (try rw [E4] at T2); (try rw [E10] at T2)
    have K := k_mfnm_9 (V := v) (n := x 0) (c := x 1) (H := x 2) (L := x 3) (W := x 4) (P := x 5) (z := x 6) (w := x 7) (S := x 8) T0 T1 T2
    refine l_outH rfl (And.intro h.1 ?_)
    have O0 : y_ev x (0, [(0, 1)]) = x 0 := l_e1 _ _
    have O1 : y_ev x (9, []) = 9 := l_e0 _ _
    have O2 : y_ev x (0, [(7, 1)]) = x 7 := l_e1 _ _
    show (True) ∧ ((∃ c : Nat, q_end (t_b v) (y_ev x (0, [(0, 1)])) c ∧ (y_ev x (0, [(7, 1)])) = a_nu (t_b v) (y_ev x (0, [(0, 1)])) c (y_ev x (9, []))) ∧ True)
    (try rw [O0]); (try rw [O1]); (try rw [O2])
    exact K
def lm_544 : zLem := (([((-2147483648), 2147483647), ((-2147483648), 2147483647), ((-2147483648), 2147483647), ((-2147483648), 2147483647), ((-2147483648), 2147483647), ((-2147483648), 2147483647), ((-2147483648), 2147483647)], [(12, false)], [(0, [(5, 1)]), (0, [(5, (-1))])], [], [], [(0, (false, 11, 0, []), 0, 0, 0, [(5, 1)])], [(40, [(0, [(0, 1)]), (0, [(5, 1)]), (0, []), (0, []), (0, []), (0, [(1, 1)]), (0, [(2, 1)]), (0, [(3, 1)]), (0, [(4, 1)]), (0, [(6, 1)])])]), [([((-2147483648), 2147483647), ((-2147483648), 2147483647), ((-2147483648), 2147483647), ((-2147483648), 2147483647), ((-2147483648), 2147483647), ((-2147483648), 2147483647), ((-2147483648), 2147483647)], [(12, false)], [], [], [], [], [(86, [(0, [(0, 1)]), (0, [(5, 1)]), (10, []), (10, [])])])])
theorem lk_544 : l_core lm_544 := by
  first
  | skip
    intro v x h
    have K := k_mnum0_10 (V := v) (n := x 0) (H := x 1) (L := x 2) (W := x 3) (P := x 4) (c := x 5) (S := x 6) (l_c8 (fun w0 w1 w2 w3 w4 w5 w6 w7 : Int => q_run2 (t_b v) w0 w1 w2 w2 w2 w3 w4 w5 w6 w7) (l_e1 x 0) (l_e1 x 5) (l_e0 x (0)) (l_e1 x 1) (l_e1 x 2) (l_e1 x 3) (l_e1 x 4) (l_e1 x 6) (h.2.2.2.1)) (l_cc (l_e1 x 5) (h.2.1.1)) (l_cc (l_q7 x 5) (h.2.1.2.1))
    refine l_outH rfl (And.intro h.1 ?_)
    exact l_o3 (fun w0 w1 w2 : Int => (True) ∧ ((0 ≤ w1 ∧ w2 = a_nu (t_b v) w0 w1.toNat w2) ∧ True)) (l_e1 x 0) (l_e1 x 5) (l_e0 x (10)) K
  | skip
    intro v x h
    have C0 : (0 : Int) ≤ x 5 := l_cc (a := y_ev x (0, [(5, 1)])) (l_e1 _ _) (h.2.1.1)
    have C1 : (0 : Int) ≤ -x 5 := l_cc (a := y_ev x (0, [(5, (-1))])) (by show ((0) : Int) + ((-1) * x 5 + 0) = -x 5; omega) (h.2.1.2.1)
    have E0 : y_ev x (0, [(0, 1)]) = x 0 := (l_e1 _ _)
    have E1 : y_ev x (0, [(5, 1)]) = x 5 := (l_e1 _ _)
    have E2 : y_ev x (0, []) = 0 := (l_e0 _ _)
    have E3 : y_ev x (0, [(1, 1)]) = x 1 := (l_e1 _ _)
    have E4 : y_ev x (0, [(2, 1)]) = x 2 := (l_e1 _ _)
    have E5 : y_ev x (0, [(3, 1)]) = x 3 := (l_e1 _ _)
    have E6 : y_ev x (0, [(4, 1)]) = x 4 := (l_e1 _ _)
    have E7 : y_ev x (0, [(6, 1)]) = x 6 := (l_e1 _ _)
    have T0 : q_run2 (t_b v) (y_ev x (0, [(0, 1)])) (y_ev x (0, [(5, 1)])) (y_ev x (0, [])) (y_ev x (0, [])) (y_ev x (0, [])) (y_ev x (0, [(1, 1)])) (y_ev x (0, [(2, 1)])) (y_ev x (0, [(3, 1)])) (y_ev x (0, [(4, 1)])) (y_ev x (0, [(6, 1)])) := h.2.2.2.1
    (try rw [E0] at T0); (try rw [E1] at T0); (try rw [E2] at T0); (try rw [E3] at T0); (try rw [E4] at T0); (try rw [E5] at T0); (try rw [E6] at T0); (try rw [E7] at T0)
    have K := k_mnum0_10 (V := v) (n := x 0) (H := x 1) (L := x 2) (W := x 3) (P := x 4) (c := x 5) (S := x 6) T0 C0 C1
    refine l_outH rfl (And.intro h.1 ?_)
    have O0 : y_ev x (0, [(0, 1)]) = x 0 := l_e1 _ _
    have O1 : y_ev x (0, [(5, 1)]) = x 5 := l_e1 _ _
    have O2 : y_ev x (10, []) = 10 := l_e0 _ _
    show (True) ∧ ((0 ≤ (y_ev x (0, [(5, 1)])) ∧ (y_ev x (10, [])) = a_nu (t_b v) (y_ev x (0, [(0, 1)])) (y_ev x (0, [(5, 1)])).toNat (y_ev x (10, []))) ∧ True)
    (try rw [O0]); (try rw [O1]); (try rw [O2])
    exact K
def lm_545p : zS := ((lm_520pi_0 (lm_520pi_1 [])), [(12, false)], [(400, [(1, (-1))]), ((-3), [(1, 1)])], [], [], [(0, (false, 11, 0, []), 0, 0, 0, [(1, 1)])], (lm_525pg_0 []))
def lm_545 : zLem := (lm_545p, [([((-2147483648), 2147483647), ((-2147483648), 2147483647), ((-2147483648), 2147483647), ((-2147483648), 2147483647), ((-2147483648), 2147483647), ((-2147483648), 2147483647), ((-2147483648), 2147483647), ((-2147483648), 2147483647), ((-2147483648), 2147483647), ((-2147483648), 2147483647), ((-2147483648), 2147483647), ((-9223372036854775808), 9223372036854775807), ((-2147483648), 2147483647), ((-2147483648), 2147483647), ((-2147483648), 2147483647)], [(12, false)], [], [], [], [], [(86, [(0, [(0, 1)]), (0, [(1, 1)]), (10, []), (0, [(12, 1)])])])])
theorem lk_545 : l_core lm_545 := by
  first
  | skip
    intro v x h
    have K := k_numS_10 (V := v) (n := x 0) (d := x 1) (H := x 2) (L := x 3) (W := x 4) (P := x 5) (H2 := x 6) (L2 := x 7) (W2 := x 8) (P2 := x 9) (s := x 10) (v := x 11) (u := x 12) (S := x 13) (S2 := x 14) (l_c9 (fun w0 w1 w2 w3 w4 w5 w6 w7 w8 : Int => q_run2 (t_b v) w0 w1 w2 w3 w3 w4 w5 w6 w7 w8) (l_e1 x 0) (l_q2 1 x 1) (l_e0 x (13)) (l_e0 x (0)) (l_e1 x 2) (l_e1 x 3) (l_e1 x 4) (l_e1 x 5) (l_e1 x 13) (h.2.2.2.1)) (l_c8 (fun w0 w1 w2 w3 w4 w5 w6 w7 : Int => q_run2 (t_b v) w0 w1 w2 w2 w2 w3 w4 w5 w6 w7) (l_e1 x 0) (l_q2 3 x 1) (l_e0 x (0)) (l_e1 x 6) (l_e1 x 7) (l_e1 x 8) (l_e1 x 9) (l_e1 x 14) (h.2.2.2.2.1)) (l_c5 (fun w0 w1 w2 w3 w4 : Int => q_tok (t_b v) w0 w1 w2 w3 w4) (l_e1 x 0) (l_q2 3 x 1) (l_e0 x (259)) (l_e1 x 10) (l_e1 x 11) (h.2.2.2.2.2.1)) (l_c3 (fun w0 w1 w2 : Int => tk (t_b v) w0 w1.toNat = 3 ∧ w2 = tx (t_b v) w0 w1.toNat) (l_e1 x 0) (l_q2 2 x 1) (l_e1 x 12) (h.2.2.2.2.2.2.1)) (l_cc (l_q1 400 x 1) (h.2.1.1)) (l_cc (l_q2 3 x 1) (h.2.1.2.1))
    refine l_outH rfl (And.intro h.1 ?_)
    exact l_o4 (fun w0 w1 w2 w3 : Int => (True) ∧ ((0 ≤ w1 ∧ w3 = a_nu (t_b v) w0 w1.toNat w2) ∧ True)) (l_e1 x 0) (l_e1 x 1) (l_e0 x (10)) (l_e1 x 12) K
  | skip
    intro v x h
    have C0 : (0 : Int) ≤ 400 - x 1 := l_cc (a := y_ev x (400, [(1, (-1))])) (by show ((400) : Int) + ((-1) * x 1 + 0) = 400 - x 1; omega) (h.2.1.1)
    have C1 : (0 : Int) ≤ x 1 - 3 := l_cc (a := y_ev x ((-3), [(1, 1)])) (by show ((-3) : Int) + ((1) * x 1 + 0) = x 1 - 3; omega) (h.2.1.2.1)
    have E0 : y_ev x (0, [(0, 1)]) = x 0 := (l_e1 _ _)
    have E1 : y_ev x ((-1), [(1, 1)]) = x 1 - 1 := (by show ((-1) : Int) + ((1) * x 1 + 0) = x 1 - 1; omega)
    have E2 : y_ev x (13, []) = 13 := (l_e0 _ _)
    have E3 : y_ev x (0, []) = 0 := (l_e0 _ _)
    have E4 : y_ev x (0, [(2, 1)]) = x 2 := (l_e1 _ _)
    have E5 : y_ev x (0, [(3, 1)]) = x 3 := (l_e1 _ _)
    have E6 : y_ev x (0, [(4, 1)]) = x 4 := (l_e1 _ _)
    have E7 : y_ev x (0, [(5, 1)]) = x 5 := (l_e1 _ _)
    have E8 : y_ev x (0, [(13, 1)]) = x 13 := (l_e1 _ _)
    have E9 : y_ev x ((-3), [(1, 1)]) = x 1 - 3 := (by show ((-3) : Int) + ((1) * x 1 + 0) = x 1 - 3; omega)
    have E10 : y_ev x (0, [(6, 1)]) = x 6 := (l_e1 _ _)
    have E11 : y_ev x (0, [(7, 1)]) = x 7 := (l_e1 _ _)
    have E12 : y_ev x (0, [(8, 1)]) = x 8 := (l_e1 _ _)
    have E13 : y_ev x (0, [(9, 1)]) = x 9 := (l_e1 _ _)
    have E14 : y_ev x (0, [(14, 1)]) = x 14 := (l_e1 _ _)
    have E15 : y_ev x (259, []) = 259 := (l_e0 _ _)
    have E16 : y_ev x (0, [(10, 1)]) = x 10 := (l_e1 _ _)
    have E17 : y_ev x (0, [(11, 1)]) = x 11 := (l_e1 _ _)
    have E18 : y_ev x ((-2), [(1, 1)]) = x 1 - 2 := (by show ((-2) : Int) + ((1) * x 1 + 0) = x 1 - 2; omega)
    have E19 : y_ev x (0, [(12, 1)]) = x 12 := (l_e1 _ _)
    have T0 : q_run2 (t_b v) (y_ev x (0, [(0, 1)])) (y_ev x ((-1), [(1, 1)])) (y_ev x (13, [])) (y_ev x (0, [])) (y_ev x (0, [])) (y_ev x (0, [(2, 1)])) (y_ev x (0, [(3, 1)])) (y_ev x (0, [(4, 1)])) (y_ev x (0, [(5, 1)])) (y_ev x (0, [(13, 1)])) := h.2.2.2.1
    (try rw [E0] at T0); (try rw [E1] at T0); (try rw [E2] at T0); (try rw [E3] at T0); (try rw [E4] at T0); (try rw [E5] at T0); (try rw [E6] at T0); (try rw [E7] at T0); (try rw [E8] at T0)
    have T1 : q_run2 (t_b v) (y_ev x (0, [(0, 1)])) (y_ev x ((-3), [(1, 1)])) (y_ev x (0, [])) (y_ev x (0, [])) (y_ev x (0, [])) (y_ev x (0, [(6, 1)])) (y_ev x (0, [(7, 1)])) (y_ev x (0, [(8, 1)])) (y_ev x (0, [(9, 1)])) (y_ev x (0, [(14, 1)])) := h.2.2.2.2.1
    (try rw [E0] at T1); (try rw [E9] at T1); (try rw [E3] at T1); (try rw [E10] at T1); (try rw [E11] at T1); (try rw [E12] at T1); (try rw [E13] at T1); (try rw [E14] at T1)
    have T2 : q_tok (t_b v) (y_ev x (0, [(0, 1)])) (y_ev x ((-3), [(1, 1)])) (y_ev x (259, [])) (y_ev x (0, [(10, 1)])) (y_ev x (0, [(11, 1)])) := h.2.2.2.2.2.1
    (try rw [E0] at T2); (try rw [E9] at T2); (try rw [E15] at T2); (try rw [E16] at T2); (try rw [E17] at T2)
    have T3 : tk (t_b v) (y_ev x (0, [(0, 1)])) (y_ev x ((-2), [(1, 1)])).toNat = 3 ∧ (y_ev x (0, [(12, 1)])) = tx (t_b v) (y_ev x (0, [(0, 1)])) (y_ev x ((-2), [(1, 1)])).toNat := h.2.2.2.2.2.2.1
    (try rw [E0] at T3); (try rw [E18] at T3); (try rw [E19] at T3)
    have K := k_numS_10 (V := v) (n := x 0) (d := x 1) (H := x 2) (L := x 3) (W := x 4) (P := x 5) (H2 := x 6) (L2 := x 7) (W2 := x 8) (P2 := x 9) (s := x 10) (v := x 11) (u := x 12) (S := x 13) (S2 := x 14) T0 T1 T2 T3 C0 C1
    refine l_outH rfl (And.intro h.1 ?_)
    have O0 : y_ev x (0, [(0, 1)]) = x 0 := l_e1 _ _
    have O1 : y_ev x (0, [(1, 1)]) = x 1 := l_e1 _ _
    have O2 : y_ev x (10, []) = 10 := l_e0 _ _
    have O3 : y_ev x (0, [(12, 1)]) = x 12 := l_e1 _ _
    show (True) ∧ ((0 ≤ (y_ev x (0, [(1, 1)])) ∧ (y_ev x (0, [(12, 1)])) = a_nu (t_b v) (y_ev x (0, [(0, 1)])) (y_ev x (0, [(1, 1)])).toNat (y_ev x (10, []))) ∧ True)
    (try rw [O0]); (try rw [O1]); (try rw [O2]); (try rw [O3])
    exact K
def lm_546pg_0 (t : List zTg) : List zTg := (86, [(0, [(0, 1)]), (0, [(1, 1)]), (10, []), (0, [(13, 1)])]) :: (40, [(0, [(0, 1)]), (0, [(1, 1)]), (0, []), (0, []), (0, []), (0, [(3, 1)]), (0, [(4, 1)]), (0, [(5, 1)]), (0, [(6, 1)]), (0, [(14, 1)])]) :: (40, [(0, [(0, 1)]), (0, [(2, 1)]), (0, []), (0, []), (0, []), (0, [(7, 1)]), (0, [(8, 1)]), (0, [(9, 1)]), (0, [(10, 1)]), (0, [(15, 1)])]) :: (59, [(0, [(0, 1)]), (0, [(1, 1)]), (0, [(11, 1)]), (0, [(12, 1)])]) :: t
def lm_546p : zS := ((lm_541pi_0 (lm_541pi_1 [])), [(12, false)], [(0, [(1, (-1)), (2, 1)]), (1, [(14, 1), (15, (-1))]), ((-1), [(14, (-1)), (15, 1)]), (22, [(11, (-1))])], [], [], [(0, (false, 11, 0, []), 0, 0, 0, [(2, 1)])], (lm_546pg_0 []))
def lm_546 : zLem := (lm_546p, [([((-2147483648), 2147483647), ((-2147483648), 2147483647), ((-2147483648), 2147483647), ((-2147483648), 2147483647), ((-2147483648), 2147483647), ((-2147483648), 2147483647), ((-2147483648), 2147483647), ((-2147483648), 2147483647), ((-2147483648), 2147483647), ((-2147483648), 2147483647), ((-2147483648), 2147483647), ((-2147483648), 2147483647), ((-2147483648), 2147483647), ((-2147483648), 2147483647), ((-2147483648), 2147483647), ((-2147483648), 2147483647)], [(12, false)], [], [], [], [], [(86, [(0, [(0, 1)]), (0, [(2, 1)]), (10, []), (0, [(13, 1)])])])])
theorem lk_546 : l_core lm_546 := by
  first
  | skip
    intro v x h
    have K := k_mnumMa_10 (V := v) (n := x 0) (c := x 1) (d := x 2) (H := x 3) (L := x 4) (W := x 5) (P := x 6) (H2 := x 7) (L2 := x 8) (W2 := x 9) (P2 := x 10) (u := x 11) (s := x 12) (w := x 13) (S := x 14) (S2 := x 15) (l_c4 (fun w0 w1 w2 w3 : Int => 0 ≤ w1 ∧ w3 = a_nu (t_b v) w0 w1.toNat w2) (l_e1 x 0) (l_e1 x 1) (l_e0 x (10)) (l_e1 x 13) (h.2.2.2.1)) (l_c8 (fun w0 w1 w2 w3 w4 w5 w6 w7 : Int => q_run2 (t_b v) w0 w1 w2 w2 w2 w3 w4 w5 w6 w7) (l_e1 x 0) (l_e1 x 1) (l_e0 x (0)) (l_e1 x 3) (l_e1 x 4) (l_e1 x 5) (l_e1 x 6) (l_e1 x 14) (h.2.2.2.2.1)) (l_c8 (fun w0 w1 w2 w3 w4 w5 w6 w7 : Int => q_run2 (t_b v) w0 w1 w2 w2 w2 w3 w4 w5 w6 w7) (l_e1 x 0) (l_e1 x 2) (l_e0 x (0)) (l_e1 x 7) (l_e1 x 8) (l_e1 x 9) (l_e1 x 10) (l_e1 x 15) (h.2.2.2.2.2.1)) (l_c4 (fun w0 w1 w2 w3 : Int => 0 ≤ w1 ∧ 0 ≤ w2 ∧ w2 ≤ 41 ∧ t_km w2 = tk (t_b v) w0 w1.toNat ∧ w3 = t_s (t_b v) w0 w1.toNat) (l_e1 x 0) (l_e1 x 1) (l_e1 x 11) (l_e1 x 12) (h.2.2.2.2.2.2.1)) (l_cc (l_q4 x 1 2) (h.2.1.1)) (l_cc (l_q13 1 x 14 15) (h.2.1.2.1)) (l_cc (l_q6 1 x 14 15) (h.2.1.2.2.1)) (l_cc (l_q1 22 x 11) (h.2.1.2.2.2.1))
    refine l_outH rfl (And.intro h.1 ?_)
    exact l_o4 (fun w0 w1 w2 w3 : Int => (True) ∧ ((0 ≤ w1 ∧ w3 = a_nu (t_b v) w0 w1.toNat w2) ∧ True)) (l_e1 x 0) (l_e1 x 2) (l_e0 x (10)) (l_e1 x 13) K
  | skip
    intro v x h
    have C0 : (0 : Int) ≤ x 2 - x 1 := l_cc (a := y_ev x (0, [(1, (-1)), (2, 1)])) (by show ((0) : Int) + ((-1) * x 1 + ((1) * x 2 + 0)) = x 2 - x 1; omega) (h.2.1.1)
    have C1 : (0 : Int) ≤ x 14 - x 15 + 1 := l_cc (a := y_ev x (1, [(14, 1), (15, (-1))])) (by show ((1) : Int) + ((1) * x 14 + ((-1) * x 15 + 0)) = x 14 - x 15 + 1; omega) (h.2.1.2.1)
    have C2 : (0 : Int) ≤ x 15 - x 14 - 1 := l_cc (a := y_ev x ((-1), [(14, (-1)), (15, 1)])) (by show ((-1) : Int) + ((-1) * x 14 + ((1) * x 15 + 0)) = x 15 - x 14 - 1; omega) (h.2.1.2.2.1)
    have C3 : (0 : Int) ≤ 22 - x 11 := l_cc (a := y_ev x (22, [(11, (-1))])) (by show ((22) : Int) + ((-1) * x 11 + 0) = 22 - x 11; omega) (h.2.1.2.2.2.1)
    have E0 : y_ev x (0, [(0, 1)]) = x 0 := (l_e1 _ _)
    have E1 : y_ev x (0, [(1, 1)]) = x 1 := (l_e1 _ _)
    have E2 : y_ev x (10, []) = 10 := (l_e0 _ _)
    have E3 : y_ev x (0, [(13, 1)]) = x 13 := (l_e1 _ _)
    have E4 : y_ev x (0, []) = 0 := (l_e0 _ _)
    have E5 : y_ev x (0, [(3, 1)]) = x 3 := (l_e1 _ _)
    have E6 : y_ev x (0, [(4, 1)]) = x 4 := (l_e1 _ _)
    have E7 : y_ev x (0, [(5, 1)]) = x 5 := (l_e1 _ _)
    have E8 : y_ev x (0, [(6, 1)]) = x 6 := (l_e1 _ _)
    have E9 : y_ev x (0, [(14, 1)]) = x 14 := (l_e1 _ _)
    have E10 : y_ev x (0, [(2, 1)]) = x 2 := (l_e1 _ _)
    have E11 : y_ev x (0, [(7, 1)]) = x 7 := (l_e1 _ _)
    have E12 : y_ev x (0, [(8, 1)]) = x 8 := (l_e1 _ _)
    have E13 : y_ev x (0, [(9, 1)]) = x 9 := (l_e1 _ _)
    have E14 : y_ev x (0, [(10, 1)]) = x 10 := (l_e1 _ _)
    have E15 : y_ev x (0, [(15, 1)]) = x 15 := (l_e1 _ _)
    have E16 : y_ev x (0, [(11, 1)]) = x 11 := (l_e1 _ _)
    have E17 : y_ev x (0, [(12, 1)]) = x 12 := (l_e1 _ _)
    have T0 : 0 ≤ (y_ev x (0, [(1, 1)])) ∧ (y_ev x (0, [(13, 1)])) = a_nu (t_b v) (y_ev x (0, [(0, 1)])) (y_ev x (0, [(1, 1)])).toNat (y_ev x (10, [])) := h.2.2.2.1
    (try rw [E0] at T0); (try rw [E1] at T0); (try rw [E2] at T0); (try rw [E3] at T0)
    have T1 : q_run2 (t_b v) (y_ev x (0, [(0, 1)])) (y_ev x (0, [(1, 1)])) (y_ev x (0, [])) (y_ev x (0, [])) (y_ev x (0, [])) (y_ev x (0, [(3, 1)])) (y_ev x (0, [(4, 1)])) (y_ev x (0, [(5, 1)])) (y_ev x (0, [(6, 1)])) (y_ev x (0, [(14, 1)])) := h.2.2.2.2.1
    (try rw [E0] at T1); (try rw [E1] at T1); (try rw [E4] at T1); (try rw [E5] at T1); (try rw [E6] at T1); (try rw [E7] at T1); (try rw [E8] at T1); (try rw [E9] at T1)
    have T2 : q_run2 (t_b v) (y_ev x (0, [(0, 1)])) (y_ev x (0, [(2, 1)])) (y_ev x (0, [])) (y_ev x (0, [])) (y_ev x (0, [])) (y_ev x (0, [(7, 1)])) (y_ev x (0, [(8, 1)])) (y_ev x (0, [(9, 1)])) (y_ev x (0, [(10, 1)])) (y_ev x (0, [(15, 1)])) := h.2.2.2.2.2.1
    (try rw [E0] at T2); (try rw [E10] at T2); (try rw [E4] at T2); (try rw [E11] at T2); (try rw [E12] at T2); (try rw [E13] at T2); (try rw [E14] at T2); (try rw [E15] at T2)
    have T3 : 0 ≤ (y_ev x (0, [(1, 1)])) ∧ 0 ≤ (y_ev x (0, [(11, 1)])) ∧ (y_ev x (0, [(11, 1)])) ≤ 41 ∧ t_km (y_ev x (0, [(11, 1)])) = tk (t_b v) (y_ev x (0, [(0, 1)])) (y_ev x (0, [(1, 1)])).toNat ∧ (y_ev x (0, [(12, 1)])) = t_s (t_b v) (y_ev x (0, [(0, 1)])) (y_ev x (0, [(1, 1)])).toNat := h.2.2.2.2.2.2.1
    (try rw [E0] at T3); (try rw [E1] at T3); (try rw [E16] at T3); (try rw [E17] at T3)
    have K := k_mnumMa_10 (V := v) (n := x 0) (c := x 1) (d := x 2) (H := x 3) (L := x 4) (W := x 5) (P := x 6) (H2 := x 7) (L2 := x 8) (W2 := x 9) (P2 := x 10) (u := x 11) (s := x 12) (w := x 13) (S := x 14) (S2 := x 15) T0 T1 T2 T3 C0 C1 C2 C3
    refine l_outH rfl (And.intro h.1 ?_)
    have O0 : y_ev x (0, [(0, 1)]) = x 0 := l_e1 _ _
    have O1 : y_ev x (0, [(2, 1)]) = x 2 := l_e1 _ _
    have O2 : y_ev x (10, []) = 10 := l_e0 _ _
    have O3 : y_ev x (0, [(13, 1)]) = x 13 := l_e1 _ _
    show (True) ∧ ((0 ≤ (y_ev x (0, [(2, 1)])) ∧ (y_ev x (0, [(13, 1)])) = a_nu (t_b v) (y_ev x (0, [(0, 1)])) (y_ev x (0, [(2, 1)])).toNat (y_ev x (10, []))) ∧ True)
    (try rw [O0]); (try rw [O1]); (try rw [O2]); (try rw [O3])
    exact K
def lm_547p : zS := ((lm_541pi_0 (lm_541pi_1 [])), [(12, false)], [(0, [(1, (-1)), (2, 1)]), (1, [(14, 1), (15, (-1))]), ((-1), [(14, (-1)), (15, 1)]), ((-24), [(11, 1)])], [], [], [(0, (false, 11, 0, []), 0, 0, 0, [(2, 1)])], (lm_546pg_0 []))
def lm_547 : zLem := (lm_547p, [([((-2147483648), 2147483647), ((-2147483648), 2147483647), ((-2147483648), 2147483647), ((-2147483648), 2147483647), ((-2147483648), 2147483647), ((-2147483648), 2147483647), ((-2147483648), 2147483647), ((-2147483648), 2147483647), ((-2147483648), 2147483647), ((-2147483648), 2147483647), ((-2147483648), 2147483647), ((-2147483648), 2147483647), ((-2147483648), 2147483647), ((-2147483648), 2147483647), ((-2147483648), 2147483647), ((-2147483648), 2147483647)], [(12, false)], [], [], [], [], [(86, [(0, [(0, 1)]), (0, [(2, 1)]), (10, []), (0, [(13, 1)])])])])
theorem lk_547 : l_core lm_547 := by
  first
  | skip
    intro v x h
    have K := k_mnumMb_10 (V := v) (n := x 0) (c := x 1) (d := x 2) (H := x 3) (L := x 4) (W := x 5) (P := x 6) (H2 := x 7) (L2 := x 8) (W2 := x 9) (P2 := x 10) (u := x 11) (s := x 12) (w := x 13) (S := x 14) (S2 := x 15) (l_c4 (fun w0 w1 w2 w3 : Int => 0 ≤ w1 ∧ w3 = a_nu (t_b v) w0 w1.toNat w2) (l_e1 x 0) (l_e1 x 1) (l_e0 x (10)) (l_e1 x 13) (h.2.2.2.1)) (l_c8 (fun w0 w1 w2 w3 w4 w5 w6 w7 : Int => q_run2 (t_b v) w0 w1 w2 w2 w2 w3 w4 w5 w6 w7) (l_e1 x 0) (l_e1 x 1) (l_e0 x (0)) (l_e1 x 3) (l_e1 x 4) (l_e1 x 5) (l_e1 x 6) (l_e1 x 14) (h.2.2.2.2.1)) (l_c8 (fun w0 w1 w2 w3 w4 w5 w6 w7 : Int => q_run2 (t_b v) w0 w1 w2 w2 w2 w3 w4 w5 w6 w7) (l_e1 x 0) (l_e1 x 2) (l_e0 x (0)) (l_e1 x 7) (l_e1 x 8) (l_e1 x 9) (l_e1 x 10) (l_e1 x 15) (h.2.2.2.2.2.1)) (l_c4 (fun w0 w1 w2 w3 : Int => 0 ≤ w1 ∧ 0 ≤ w2 ∧ w2 ≤ 41 ∧ t_km w2 = tk (t_b v) w0 w1.toNat ∧ w3 = t_s (t_b v) w0 w1.toNat) (l_e1 x 0) (l_e1 x 1) (l_e1 x 11) (l_e1 x 12) (h.2.2.2.2.2.2.1)) (l_cc (l_q4 x 1 2) (h.2.1.1)) (l_cc (l_q13 1 x 14 15) (h.2.1.2.1)) (l_cc (l_q6 1 x 14 15) (h.2.1.2.2.1)) (l_cc (l_q2 24 x 11) (h.2.1.2.2.2.1))
    refine l_outH rfl (And.intro h.1 ?_)
    exact l_o4 (fun w0 w1 w2 w3 : Int => (True) ∧ ((0 ≤ w1 ∧ w3 = a_nu (t_b v) w0 w1.toNat w2) ∧ True)) (l_e1 x 0) (l_e1 x 2) (l_e0 x (10)) (l_e1 x 13) K
  | skip
    intro v x h
    have C0 : (0 : Int) ≤ x 2 - x 1 := l_cc (a := y_ev x (0, [(1, (-1)), (2, 1)])) (by show ((0) : Int) + ((-1) * x 1 + ((1) * x 2 + 0)) = x 2 - x 1; omega) (h.2.1.1)
    have C1 : (0 : Int) ≤ x 14 - x 15 + 1 := l_cc (a := y_ev x (1, [(14, 1), (15, (-1))])) (by show ((1) : Int) + ((1) * x 14 + ((-1) * x 15 + 0)) = x 14 - x 15 + 1; omega) (h.2.1.2.1)
    have C2 : (0 : Int) ≤ x 15 - x 14 - 1 := l_cc (a := y_ev x ((-1), [(14, (-1)), (15, 1)])) (by show ((-1) : Int) + ((-1) * x 14 + ((1) * x 15 + 0)) = x 15 - x 14 - 1; omega) (h.2.1.2.2.1)
    have C3 : (0 : Int) ≤ x 11 - 24 := l_cc (a := y_ev x ((-24), [(11, 1)])) (by show ((-24) : Int) + ((1) * x 11 + 0) = x 11 - 24; omega) (h.2.1.2.2.2.1)
    have E0 : y_ev x (0, [(0, 1)]) = x 0 := (l_e1 _ _)
    have E1 : y_ev x (0, [(1, 1)]) = x 1 := (l_e1 _ _)
    have E2 : y_ev x (10, []) = 10 := (l_e0 _ _)
    have E3 : y_ev x (0, [(13, 1)]) = x 13 := (l_e1 _ _)
    have E4 : y_ev x (0, []) = 0 := (l_e0 _ _)
    have E5 : y_ev x (0, [(3, 1)]) = x 3 := (l_e1 _ _)
    have E6 : y_ev x (0, [(4, 1)]) = x 4 := (l_e1 _ _)
    have E7 : y_ev x (0, [(5, 1)]) = x 5 := (l_e1 _ _)
    have E8 : y_ev x (0, [(6, 1)]) = x 6 := (l_e1 _ _)
    have E9 : y_ev x (0, [(14, 1)]) = x 14 := (l_e1 _ _)
    have E10 : y_ev x (0, [(2, 1)]) = x 2 := (l_e1 _ _)
    have E11 : y_ev x (0, [(7, 1)]) = x 7 := (l_e1 _ _)
    have E12 : y_ev x (0, [(8, 1)]) = x 8 := (l_e1 _ _)
    have E13 : y_ev x (0, [(9, 1)]) = x 9 := (l_e1 _ _)
    have E14 : y_ev x (0, [(10, 1)]) = x 10 := (l_e1 _ _)
    have E15 : y_ev x (0, [(15, 1)]) = x 15 := (l_e1 _ _)
    have E16 : y_ev x (0, [(11, 1)]) = x 11 := (l_e1 _ _)
    have E17 : y_ev x (0, [(12, 1)]) = x 12 := (l_e1 _ _)
    have T0 : 0 ≤ (y_ev x (0, [(1, 1)])) ∧ (y_ev x (0, [(13, 1)])) = a_nu (t_b v) (y_ev x (0, [(0, 1)])) (y_ev x (0, [(1, 1)])).toNat (y_ev x (10, [])) := h.2.2.2.1
    (try rw [E0] at T0); (try rw [E1] at T0); (try rw [E2] at T0); (try rw [E3] at T0)
    have T1 : q_run2 (t_b v) (y_ev x (0, [(0, 1)])) (y_ev x (0, [(1, 1)])) (y_ev x (0, [])) (y_ev x (0, [])) (y_ev x (0, [])) (y_ev x (0, [(3, 1)])) (y_ev x (0, [(4, 1)])) (y_ev x (0, [(5, 1)])) (y_ev x (0, [(6, 1)])) (y_ev x (0, [(14, 1)])) := h.2.2.2.2.1
    (try rw [E0] at T1); (try rw [E1] at T1); (try rw [E4] at T1); (try rw [E5] at T1); (try rw [E6] at T1); (try rw [E7] at T1); (try rw [E8] at T1); (try rw [E9] at T1)
    have T2 : q_run2 (t_b v) (y_ev x (0, [(0, 1)])) (y_ev x (0, [(2, 1)])) (y_ev x (0, [])) (y_ev x (0, [])) (y_ev x (0, [])) (y_ev x (0, [(7, 1)])) (y_ev x (0, [(8, 1)])) (y_ev x (0, [(9, 1)])) (y_ev x (0, [(10, 1)])) (y_ev x (0, [(15, 1)])) := h.2.2.2.2.2.1
    (try rw [E0] at T2); (try rw [E10] at T2); (try rw [E4] at T2); (try rw [E11] at T2); (try rw [E12] at T2); (try rw [E13] at T2); (try rw [E14] at T2); (try rw [E15] at T2)
    have T3 : 0 ≤ (y_ev x (0, [(1, 1)])) ∧ 0 ≤ (y_ev x (0, [(11, 1)])) ∧ (y_ev x (0, [(11, 1)])) ≤ 41 ∧ t_km (y_ev x (0, [(11, 1)])) = tk (t_b v) (y_ev x (0, [(0, 1)])) (y_ev x (0, [(1, 1)])).toNat ∧ (y_ev x (0, [(12, 1)])) = t_s (t_b v) (y_ev x (0, [(0, 1)])) (y_ev x (0, [(1, 1)])).toNat := h.2.2.2.2.2.2.1
    (try rw [E0] at T3); (try rw [E1] at T3); (try rw [E16] at T3); (try rw [E17] at T3)
    have K := k_mnumMb_10 (V := v) (n := x 0) (c := x 1) (d := x 2) (H := x 3) (L := x 4) (W := x 5) (P := x 6) (H2 := x 7) (L2 := x 8) (W2 := x 9) (P2 := x 10) (u := x 11) (s := x 12) (w := x 13) (S := x 14) (S2 := x 15) T0 T1 T2 T3 C0 C1 C2 C3
    refine l_outH rfl (And.intro h.1 ?_)
    have O0 : y_ev x (0, [(0, 1)]) = x 0 := l_e1 _ _
    have O1 : y_ev x (0, [(2, 1)]) = x 2 := l_e1 _ _
    have O2 : y_ev x (10, []) = 10 := l_e0 _ _
    have O3 : y_ev x (0, [(13, 1)]) = x 13 := l_e1 _ _
    show (True) ∧ ((0 ≤ (y_ev x (0, [(2, 1)])) ∧ (y_ev x (0, [(13, 1)])) = a_nu (t_b v) (y_ev x (0, [(0, 1)])) (y_ev x (0, [(2, 1)])).toNat (y_ev x (10, []))) ∧ True)
    (try rw [O0]); (try rw [O1]); (try rw [O2]); (try rw [O3])
    exact K
def lm_548 : zLem := (([((-2147483648), 2147483647), ((-2147483648), 2147483647), ((-2147483648), 2147483647), ((-2147483648), 2147483647), ((-2147483648), 2147483647), ((-2147483648), 2147483647), ((-2147483648), 2147483647), ((-2147483648), 2147483647), ((-2147483648), 2147483647)], [(12, false)], [], [], [], [(0, (false, 11, 0, []), 0, 0, 0, [(1, 1)])], [(86, [(0, [(0, 1)]), (0, [(1, 1)]), (10, []), (0, [(7, 1)])]), (40, [(0, [(0, 1)]), (0, [(1, 1)]), (0, []), (0, []), (0, []), (0, [(2, 1)]), (0, [(3, 1)]), (0, [(4, 1)]), (0, [(5, 1)]), (0, [(8, 1)])]), (59, [(0, [(0, 1)]), (0, [(1, 1)]), (0, []), (0, [(6, 1)])])]), [([((-2147483648), 2147483647), ((-2147483648), 2147483647), ((-2147483648), 2147483647), ((-2147483648), 2147483647), ((-2147483648), 2147483647), ((-2147483648), 2147483647), ((-2147483648), 2147483647), ((-2147483648), 2147483647), ((-2147483648), 2147483647)], [(12, false)], [], [], [], [], [(87, [(0, [(0, 1)]), (10, []), (0, [(7, 1)])])])])
theorem lk_548 : l_core lm_548 := by
  first
  | skip
    intro v x h
    have K := k_mfnm_10 (V := v) (n := x 0) (c := x 1) (H := x 2) (L := x 3) (W := x 4) (P := x 5) (z := x 6) (w := x 7) (S := x 8) (l_c4 (fun w0 w1 w2 w3 : Int => 0 ≤ w1 ∧ w3 = a_nu (t_b v) w0 w1.toNat w2) (l_e1 x 0) (l_e1 x 1) (l_e0 x (10)) (l_e1 x 7) (h.2.2.2.1)) (l_c8 (fun w0 w1 w2 w3 w4 w5 w6 w7 : Int => q_run2 (t_b v) w0 w1 w2 w2 w2 w3 w4 w5 w6 w7) (l_e1 x 0) (l_e1 x 1) (l_e0 x (0)) (l_e1 x 2) (l_e1 x 3) (l_e1 x 4) (l_e1 x 5) (l_e1 x 8) (h.2.2.2.2.1)) (l_c4 (fun w0 w1 w2 w3 : Int => 0 ≤ w1 ∧ 0 ≤ w2 ∧ w2 ≤ 41 ∧ t_km w2 = tk (t_b v) w0 w1.toNat ∧ w3 = t_s (t_b v) w0 w1.toNat) (l_e1 x 0) (l_e1 x 1) (l_e0 x (0)) (l_e1 x 6) (h.2.2.2.2.2.1))
    refine l_outH rfl (And.intro h.1 ?_)
    exact l_o3 (fun w0 w1 w2 : Int => (True) ∧ ((∃ c : Nat, q_end (t_b v) w0 c ∧ w2 = a_nu (t_b v) w0 c w1) ∧ True)) (l_e1 x 0) (l_e0 x (10)) (l_e1 x 7) K
  | skip
    intro v x h
    have E0 : y_ev x (0, [(0, 1)]) = x 0 := (l_e1 _ _)
    have E1 : y_ev x (0, [(1, 1)]) = x 1 := (l_e1 _ _)
    have E2 : y_ev x (10, []) = 10 := (l_e0 _ _)
    have E3 : y_ev x (0, [(7, 1)]) = x 7 := (l_e1 _ _)
    have E4 : y_ev x (0, []) = 0 := (l_e0 _ _)
    have E5 : y_ev x (0, [(2, 1)]) = x 2 := (l_e1 _ _)
    have E6 : y_ev x (0, [(3, 1)]) = x 3 := (l_e1 _ _)
    have E7 : y_ev x (0, [(4, 1)]) = x 4 := (l_e1 _ _)
    have E8 : y_ev x (0, [(5, 1)]) = x 5 := (l_e1 _ _)
    have E9 : y_ev x (0, [(8, 1)]) = x 8 := (l_e1 _ _)
    have E10 : y_ev x (0, [(6, 1)]) = x 6 := (l_e1 _ _)
    have T0 : 0 ≤ (y_ev x (0, [(1, 1)])) ∧ (y_ev x (0, [(7, 1)])) = a_nu (t_b v) (y_ev x (0, [(0, 1)])) (y_ev x (0, [(1, 1)])).toNat (y_ev x (10, [])) := h.2.2.2.1
    (try rw [E0] at T0); (try rw [E1] at T0); (try rw [E2] at T0); (try rw [E3] at T0)
    have T1 : q_run2 (t_b v) (y_ev x (0, [(0, 1)])) (y_ev x (0, [(1, 1)])) (y_ev x (0, [])) (y_ev x (0, [])) (y_ev x (0, [])) (y_ev x (0, [(2, 1)])) (y_ev x (0, [(3, 1)])) (y_ev x (0, [(4, 1)])) (y_ev x (0, [(5, 1)])) (y_ev x (0, [(8, 1)])) := h.2.2.2.2.1
    (try rw [E0] at T1); (try rw [E1] at T1); (try rw [E4] at T1); (try rw [E5] at T1); (try rw [E6] at T1); (try rw [E7] at T1); (try rw [E8] at T1); (try rw [E9] at T1)
    have T2 : 0 ≤ (y_ev x (0, [(1, 1)])) ∧ 0 ≤ (y_ev x (0, [])) ∧ (y_ev x (0, [])) ≤ 41 ∧ t_km (y_ev x (0, [])) = tk (t_b v) (y_ev x (0, [(0, 1)])) (y_ev x (0, [(1, 1)])).toNat ∧ (y_ev x (0, [(6, 1)])) = t_s (t_b v) (y_ev x (0, [(0, 1)])) (y_ev x (0, [(1, 1)])).toNat := h.2.2.2.2.2.1
    (try rw [E0] at T2); (try rw [E1] at T2); (try rw [E4] at T2); (try rw [E10] at T2)
    have K := k_mfnm_10 (V := v) (n := x 0) (c := x 1) (H := x 2) (L := x 3) (W := x 4) (P := x 5) (z := x 6) (w := x 7) (S := x 8) T0 T1 T2
    refine l_outH rfl (And.intro h.1 ?_)
    have O0 : y_ev x (0, [(0, 1)]) = x 0 := l_e1 _ _
    have O1 : y_ev x (10, []) = 10 := l_e0 _ _
    have O2 : y_ev x (0, [(7, 1)]) = x 7 := l_e1 _ _
    show (True) ∧ ((∃ c : Nat, q_end (t_b v) (y_ev x (0, [(0, 1)])) c ∧ (y_ev x (0, [(7, 1)])) = a_nu (t_b v) (y_ev x (0, [(0, 1)])) c (y_ev x (10, []))) ∧ True)
    (try rw [O0]); (try rw [O1]); (try rw [O2])
    exact K
def lm_549 : zLem := (([((-2147483648), 2147483647), ((-2147483648), 2147483647), ((-2147483648), 2147483647), ((-2147483648), 2147483647), ((-2147483648), 2147483647), ((-2147483648), 2147483647), ((-2147483648), 2147483647)], [(12, false)], [(0, [(5, 1)]), (0, [(5, (-1))])], [], [], [(0, (false, 11, 0, []), 0, 0, 0, [(5, 1)])], [(40, [(0, [(0, 1)]), (0, [(5, 1)]), (0, []), (0, []), (0, []), (0, [(1, 1)]), (0, [(2, 1)]), (0, [(3, 1)]), (0, [(4, 1)]), (0, [(6, 1)])])]), [([((-2147483648), 2147483647), ((-2147483648), 2147483647), ((-2147483648), 2147483647), ((-2147483648), 2147483647), ((-2147483648), 2147483647), ((-2147483648), 2147483647), ((-2147483648), 2147483647)], [(12, false)], [], [], [], [], [(86, [(0, [(0, 1)]), (0, [(5, 1)]), (11, []), (0, [])])])])
theorem lk_549 : l_core lm_549 := by
  first
  | skip
    intro v x h
    have K := k_mnum0_11 (V := v) (n := x 0) (H := x 1) (L := x 2) (W := x 3) (P := x 4) (c := x 5) (S := x 6) (l_c8 (fun w0 w1 w2 w3 w4 w5 w6 w7 : Int => q_run2 (t_b v) w0 w1 w2 w2 w2 w3 w4 w5 w6 w7) (l_e1 x 0) (l_e1 x 5) (l_e0 x (0)) (l_e1 x 1) (l_e1 x 2) (l_e1 x 3) (l_e1 x 4) (l_e1 x 6) (h.2.2.2.1)) (l_cc (l_e1 x 5) (h.2.1.1)) (l_cc (l_q7 x 5) (h.2.1.2.1))
    refine l_outH rfl (And.intro h.1 ?_)
    exact l_o4 (fun w0 w1 w2 w3 : Int => (True) ∧ ((0 ≤ w1 ∧ w3 = a_nu (t_b v) w0 w1.toNat w2) ∧ True)) (l_e1 x 0) (l_e1 x 5) (l_e0 x (11)) (l_e0 x (0)) K
  | skip
    intro v x h
    have C0 : (0 : Int) ≤ x 5 := l_cc (a := y_ev x (0, [(5, 1)])) (l_e1 _ _) (h.2.1.1)
    have C1 : (0 : Int) ≤ -x 5 := l_cc (a := y_ev x (0, [(5, (-1))])) (by show ((0) : Int) + ((-1) * x 5 + 0) = -x 5; omega) (h.2.1.2.1)
    have E0 : y_ev x (0, [(0, 1)]) = x 0 := (l_e1 _ _)
    have E1 : y_ev x (0, [(5, 1)]) = x 5 := (l_e1 _ _)
    have E2 : y_ev x (0, []) = 0 := (l_e0 _ _)
    have E3 : y_ev x (0, [(1, 1)]) = x 1 := (l_e1 _ _)
    have E4 : y_ev x (0, [(2, 1)]) = x 2 := (l_e1 _ _)
    have E5 : y_ev x (0, [(3, 1)]) = x 3 := (l_e1 _ _)
    have E6 : y_ev x (0, [(4, 1)]) = x 4 := (l_e1 _ _)
    have E7 : y_ev x (0, [(6, 1)]) = x 6 := (l_e1 _ _)
    have T0 : q_run2 (t_b v) (y_ev x (0, [(0, 1)])) (y_ev x (0, [(5, 1)])) (y_ev x (0, [])) (y_ev x (0, [])) (y_ev x (0, [])) (y_ev x (0, [(1, 1)])) (y_ev x (0, [(2, 1)])) (y_ev x (0, [(3, 1)])) (y_ev x (0, [(4, 1)])) (y_ev x (0, [(6, 1)])) := h.2.2.2.1
    (try rw [E0] at T0); (try rw [E1] at T0); (try rw [E2] at T0); (try rw [E3] at T0); (try rw [E4] at T0); (try rw [E5] at T0); (try rw [E6] at T0); (try rw [E7] at T0)
    have K := k_mnum0_11 (V := v) (n := x 0) (H := x 1) (L := x 2) (W := x 3) (P := x 4) (c := x 5) (S := x 6) T0 C0 C1
    refine l_outH rfl (And.intro h.1 ?_)
    have O0 : y_ev x (0, [(0, 1)]) = x 0 := l_e1 _ _
    have O1 : y_ev x (0, [(5, 1)]) = x 5 := l_e1 _ _
    have O2 : y_ev x (11, []) = 11 := l_e0 _ _
    have O3 : y_ev x (0, []) = 0 := l_e0 _ _
    show (True) ∧ ((0 ≤ (y_ev x (0, [(5, 1)])) ∧ (y_ev x (0, [])) = a_nu (t_b v) (y_ev x (0, [(0, 1)])) (y_ev x (0, [(5, 1)])).toNat (y_ev x (11, []))) ∧ True)
    (try rw [O0]); (try rw [O1]); (try rw [O2]); (try rw [O3])
    exact K
def lm_550p : zS := ((lm_520pi_0 (lm_520pi_1 [])), [(12, false)], [(400, [(1, (-1))]), ((-3), [(1, 1)])], [], [], [(0, (false, 11, 0, []), 0, 0, 0, [(1, 1)])], (lm_530pg_0 []))
def lm_550 : zLem := (lm_550p, [([((-2147483648), 2147483647), ((-2147483648), 2147483647), ((-2147483648), 2147483647), ((-2147483648), 2147483647), ((-2147483648), 2147483647), ((-2147483648), 2147483647), ((-2147483648), 2147483647), ((-2147483648), 2147483647), ((-2147483648), 2147483647), ((-2147483648), 2147483647), ((-2147483648), 2147483647), ((-9223372036854775808), 9223372036854775807), ((-2147483648), 2147483647), ((-2147483648), 2147483647), ((-2147483648), 2147483647)], [(12, false)], [], [], [], [], [(86, [(0, [(0, 1)]), (0, [(1, 1)]), (11, []), (0, [(12, 1)])])])])
theorem lk_550 : l_core lm_550 := by
  first
  | skip
    intro v x h
    have K := k_numS_11 (V := v) (n := x 0) (d := x 1) (H := x 2) (L := x 3) (W := x 4) (P := x 5) (H2 := x 6) (L2 := x 7) (W2 := x 8) (P2 := x 9) (s := x 10) (v := x 11) (u := x 12) (S := x 13) (S2 := x 14) (l_c9 (fun w0 w1 w2 w3 w4 w5 w6 w7 w8 : Int => q_run2 (t_b v) w0 w1 w2 w3 w3 w4 w5 w6 w7 w8) (l_e1 x 0) (l_q2 1 x 1) (l_e0 x (13)) (l_e0 x (0)) (l_e1 x 2) (l_e1 x 3) (l_e1 x 4) (l_e1 x 5) (l_e1 x 13) (h.2.2.2.1)) (l_c8 (fun w0 w1 w2 w3 w4 w5 w6 w7 : Int => q_run2 (t_b v) w0 w1 w2 w2 w2 w3 w4 w5 w6 w7) (l_e1 x 0) (l_q2 3 x 1) (l_e0 x (0)) (l_e1 x 6) (l_e1 x 7) (l_e1 x 8) (l_e1 x 9) (l_e1 x 14) (h.2.2.2.2.1)) (l_c5 (fun w0 w1 w2 w3 w4 : Int => q_tok (t_b v) w0 w1 w2 w3 w4) (l_e1 x 0) (l_q2 3 x 1) (l_e0 x (264)) (l_e1 x 10) (l_e1 x 11) (h.2.2.2.2.2.1)) (l_c3 (fun w0 w1 w2 : Int => tk (t_b v) w0 w1.toNat = 3 ∧ w2 = tx (t_b v) w0 w1.toNat) (l_e1 x 0) (l_q2 2 x 1) (l_e1 x 12) (h.2.2.2.2.2.2.1)) (l_cc (l_q1 400 x 1) (h.2.1.1)) (l_cc (l_q2 3 x 1) (h.2.1.2.1))
    refine l_outH rfl (And.intro h.1 ?_)
    exact l_o4 (fun w0 w1 w2 w3 : Int => (True) ∧ ((0 ≤ w1 ∧ w3 = a_nu (t_b v) w0 w1.toNat w2) ∧ True)) (l_e1 x 0) (l_e1 x 1) (l_e0 x (11)) (l_e1 x 12) K
  | skip
    intro v x h
    have C0 : (0 : Int) ≤ 400 - x 1 := l_cc (a := y_ev x (400, [(1, (-1))])) (by show ((400) : Int) + ((-1) * x 1 + 0) = 400 - x 1; omega) (h.2.1.1)
    have C1 : (0 : Int) ≤ x 1 - 3 := l_cc (a := y_ev x ((-3), [(1, 1)])) (by show ((-3) : Int) + ((1) * x 1 + 0) = x 1 - 3; omega) (h.2.1.2.1)
    have E0 : y_ev x (0, [(0, 1)]) = x 0 := (l_e1 _ _)
    have E1 : y_ev x ((-1), [(1, 1)]) = x 1 - 1 := (by show ((-1) : Int) + ((1) * x 1 + 0) = x 1 - 1; omega)
    have E2 : y_ev x (13, []) = 13 := (l_e0 _ _)
    have E3 : y_ev x (0, []) = 0 := (l_e0 _ _)
    have E4 : y_ev x (0, [(2, 1)]) = x 2 := (l_e1 _ _)
    have E5 : y_ev x (0, [(3, 1)]) = x 3 := (l_e1 _ _)
    have E6 : y_ev x (0, [(4, 1)]) = x 4 := (l_e1 _ _)
    have E7 : y_ev x (0, [(5, 1)]) = x 5 := (l_e1 _ _)
    have E8 : y_ev x (0, [(13, 1)]) = x 13 := (l_e1 _ _)
    have E9 : y_ev x ((-3), [(1, 1)]) = x 1 - 3 := (by show ((-3) : Int) + ((1) * x 1 + 0) = x 1 - 3; omega)
    have E10 : y_ev x (0, [(6, 1)]) = x 6 := (l_e1 _ _)
    have E11 : y_ev x (0, [(7, 1)]) = x 7 := (l_e1 _ _)
    have E12 : y_ev x (0, [(8, 1)]) = x 8 := (l_e1 _ _)
    have E13 : y_ev x (0, [(9, 1)]) = x 9 := (l_e1 _ _)
    have E14 : y_ev x (0, [(14, 1)]) = x 14 := (l_e1 _ _)
    have E15 : y_ev x (264, []) = 264 := (l_e0 _ _)
    have E16 : y_ev x (0, [(10, 1)]) = x 10 := (l_e1 _ _)
    have E17 : y_ev x (0, [(11, 1)]) = x 11 := (l_e1 _ _)
    have E18 : y_ev x ((-2), [(1, 1)]) = x 1 - 2 := (by show ((-2) : Int) + ((1) * x 1 + 0) = x 1 - 2; omega)
    have E19 : y_ev x (0, [(12, 1)]) = x 12 := (l_e1 _ _)
    have T0 : q_run2 (t_b v) (y_ev x (0, [(0, 1)])) (y_ev x ((-1), [(1, 1)])) (y_ev x (13, [])) (y_ev x (0, [])) (y_ev x (0, [])) (y_ev x (0, [(2, 1)])) (y_ev x (0, [(3, 1)])) (y_ev x (0, [(4, 1)])) (y_ev x (0, [(5, 1)])) (y_ev x (0, [(13, 1)])) := h.2.2.2.1
    (try rw [E0] at T0); (try rw [E1] at T0); (try rw [E2] at T0); (try rw [E3] at T0); (try rw [E4] at T0); (try rw [E5] at T0); (try rw [E6] at T0); (try rw [E7] at T0); (try rw [E8] at T0)
    have T1 : q_run2 (t_b v) (y_ev x (0, [(0, 1)])) (y_ev x ((-3), [(1, 1)])) (y_ev x (0, [])) (y_ev x (0, [])) (y_ev x (0, [])) (y_ev x (0, [(6, 1)])) (y_ev x (0, [(7, 1)])) (y_ev x (0, [(8, 1)])) (y_ev x (0, [(9, 1)])) (y_ev x (0, [(14, 1)])) := h.2.2.2.2.1
    (try rw [E0] at T1); (try rw [E9] at T1); (try rw [E3] at T1); (try rw [E10] at T1); (try rw [E11] at T1); (try rw [E12] at T1); (try rw [E13] at T1); (try rw [E14] at T1)
    have T2 : q_tok (t_b v) (y_ev x (0, [(0, 1)])) (y_ev x ((-3), [(1, 1)])) (y_ev x (264, [])) (y_ev x (0, [(10, 1)])) (y_ev x (0, [(11, 1)])) := h.2.2.2.2.2.1
    (try rw [E0] at T2); (try rw [E9] at T2); (try rw [E15] at T2); (try rw [E16] at T2); (try rw [E17] at T2)
    have T3 : tk (t_b v) (y_ev x (0, [(0, 1)])) (y_ev x ((-2), [(1, 1)])).toNat = 3 ∧ (y_ev x (0, [(12, 1)])) = tx (t_b v) (y_ev x (0, [(0, 1)])) (y_ev x ((-2), [(1, 1)])).toNat := h.2.2.2.2.2.2.1
    (try rw [E0] at T3); (try rw [E18] at T3); (try rw [E19] at T3)
    have K := k_numS_11 (V := v) (n := x 0) (d := x 1) (H := x 2) (L := x 3) (W := x 4) (P := x 5) (H2 := x 6) (L2 := x 7) (W2 := x 8) (P2 := x 9) (s := x 10) (v := x 11) (u := x 12) (S := x 13) (S2 := x 14) T0 T1 T2 T3 C0 C1
    refine l_outH rfl (And.intro h.1 ?_)
    have O0 : y_ev x (0, [(0, 1)]) = x 0 := l_e1 _ _
    have O1 : y_ev x (0, [(1, 1)]) = x 1 := l_e1 _ _
    have O2 : y_ev x (11, []) = 11 := l_e0 _ _
    have O3 : y_ev x (0, [(12, 1)]) = x 12 := l_e1 _ _
    show (True) ∧ ((0 ≤ (y_ev x (0, [(1, 1)])) ∧ (y_ev x (0, [(12, 1)])) = a_nu (t_b v) (y_ev x (0, [(0, 1)])) (y_ev x (0, [(1, 1)])).toNat (y_ev x (11, []))) ∧ True)
    (try rw [O0]); (try rw [O1]); (try rw [O2]); (try rw [O3])
    exact K
def lm_551pg_0 (t : List zTg) : List zTg := (86, [(0, [(0, 1)]), (0, [(1, 1)]), (11, []), (0, [(13, 1)])]) :: (40, [(0, [(0, 1)]), (0, [(1, 1)]), (0, []), (0, []), (0, []), (0, [(3, 1)]), (0, [(4, 1)]), (0, [(5, 1)]), (0, [(6, 1)]), (0, [(14, 1)])]) :: (40, [(0, [(0, 1)]), (0, [(2, 1)]), (0, []), (0, []), (0, []), (0, [(7, 1)]), (0, [(8, 1)]), (0, [(9, 1)]), (0, [(10, 1)]), (0, [(15, 1)])]) :: (59, [(0, [(0, 1)]), (0, [(1, 1)]), (0, [(11, 1)]), (0, [(12, 1)])]) :: t
def lm_551p : zS := ((lm_541pi_0 (lm_541pi_1 [])), [(12, false)], [(0, [(1, (-1)), (2, 1)]), (1, [(14, 1), (15, (-1))]), ((-1), [(14, (-1)), (15, 1)]), (27, [(11, (-1))])], [], [], [(0, (false, 11, 0, []), 0, 0, 0, [(2, 1)])], (lm_551pg_0 []))
def lm_551 : zLem := (lm_551p, [([((-2147483648), 2147483647), ((-2147483648), 2147483647), ((-2147483648), 2147483647), ((-2147483648), 2147483647), ((-2147483648), 2147483647), ((-2147483648), 2147483647), ((-2147483648), 2147483647), ((-2147483648), 2147483647), ((-2147483648), 2147483647), ((-2147483648), 2147483647), ((-2147483648), 2147483647), ((-2147483648), 2147483647), ((-2147483648), 2147483647), ((-2147483648), 2147483647), ((-2147483648), 2147483647), ((-2147483648), 2147483647)], [(12, false)], [], [], [], [], [(86, [(0, [(0, 1)]), (0, [(2, 1)]), (11, []), (0, [(13, 1)])])])])
theorem lk_551 : l_core lm_551 := by
  first
  | skip
    intro v x h
    have K := k_mnumMa_11 (V := v) (n := x 0) (c := x 1) (d := x 2) (H := x 3) (L := x 4) (W := x 5) (P := x 6) (H2 := x 7) (L2 := x 8) (W2 := x 9) (P2 := x 10) (u := x 11) (s := x 12) (w := x 13) (S := x 14) (S2 := x 15) (l_c4 (fun w0 w1 w2 w3 : Int => 0 ≤ w1 ∧ w3 = a_nu (t_b v) w0 w1.toNat w2) (l_e1 x 0) (l_e1 x 1) (l_e0 x (11)) (l_e1 x 13) (h.2.2.2.1)) (l_c8 (fun w0 w1 w2 w3 w4 w5 w6 w7 : Int => q_run2 (t_b v) w0 w1 w2 w2 w2 w3 w4 w5 w6 w7) (l_e1 x 0) (l_e1 x 1) (l_e0 x (0)) (l_e1 x 3) (l_e1 x 4) (l_e1 x 5) (l_e1 x 6) (l_e1 x 14) (h.2.2.2.2.1)) (l_c8 (fun w0 w1 w2 w3 w4 w5 w6 w7 : Int => q_run2 (t_b v) w0 w1 w2 w2 w2 w3 w4 w5 w6 w7) (l_e1 x 0) (l_e1 x 2) (l_e0 x (0)) (l_e1 x 7) (l_e1 x 8) (l_e1 x 9) (l_e1 x 10) (l_e1 x 15) (h.2.2.2.2.2.1)) (l_c4 (fun w0 w1 w2 w3 : Int => 0 ≤ w1 ∧ 0 ≤ w2 ∧ w2 ≤ 41 ∧ t_km w2 = tk (t_b v) w0 w1.toNat ∧ w3 = t_s (t_b v) w0 w1.toNat) (l_e1 x 0) (l_e1 x 1) (l_e1 x 11) (l_e1 x 12) (h.2.2.2.2.2.2.1)) (l_cc (l_q4 x 1 2) (h.2.1.1)) (l_cc (l_q13 1 x 14 15) (h.2.1.2.1)) (l_cc (l_q6 1 x 14 15) (h.2.1.2.2.1)) (l_cc (l_q1 27 x 11) (h.2.1.2.2.2.1))
    refine l_outH rfl (And.intro h.1 ?_)
    exact l_o4 (fun w0 w1 w2 w3 : Int => (True) ∧ ((0 ≤ w1 ∧ w3 = a_nu (t_b v) w0 w1.toNat w2) ∧ True)) (l_e1 x 0) (l_e1 x 2) (l_e0 x (11)) (l_e1 x 13) K
  | skip
    intro v x h
    have C0 : (0 : Int) ≤ x 2 - x 1 := l_cc (a := y_ev x (0, [(1, (-1)), (2, 1)])) (by show ((0) : Int) + ((-1) * x 1 + ((1) * x 2 + 0)) = x 2 - x 1; omega) (h.2.1.1)
    have C1 : (0 : Int) ≤ x 14 - x 15 + 1 := l_cc (a := y_ev x (1, [(14, 1), (15, (-1))])) (by show ((1) : Int) + ((1) * x 14 + ((-1) * x 15 + 0)) = x 14 - x 15 + 1; omega) (h.2.1.2.1)
    have C2 : (0 : Int) ≤ x 15 - x 14 - 1 := l_cc (a := y_ev x ((-1), [(14, (-1)), (15, 1)])) (by show ((-1) : Int) + ((-1) * x 14 + ((1) * x 15 + 0)) = x 15 - x 14 - 1; omega) (h.2.1.2.2.1)
    have C3 : (0 : Int) ≤ 27 - x 11 := l_cc (a := y_ev x (27, [(11, (-1))])) (by show ((27) : Int) + ((-1) * x 11 + 0) = 27 - x 11; omega) (h.2.1.2.2.2.1)
    have E0 : y_ev x (0, [(0, 1)]) = x 0 := (l_e1 _ _)
    have E1 : y_ev x (0, [(1, 1)]) = x 1 := (l_e1 _ _)
    have E2 : y_ev x (11, []) = 11 := (l_e0 _ _)
    have E3 : y_ev x (0, [(13, 1)]) = x 13 := (l_e1 _ _)
    have E4 : y_ev x (0, []) = 0 := (l_e0 _ _)
    have E5 : y_ev x (0, [(3, 1)]) = x 3 := (l_e1 _ _)
    have E6 : y_ev x (0, [(4, 1)]) = x 4 := (l_e1 _ _)
    have E7 : y_ev x (0, [(5, 1)]) = x 5 := (l_e1 _ _)
    have E8 : y_ev x (0, [(6, 1)]) = x 6 := (l_e1 _ _)
    have E9 : y_ev x (0, [(14, 1)]) = x 14 := (l_e1 _ _)
    have E10 : y_ev x (0, [(2, 1)]) = x 2 := (l_e1 _ _)
    have E11 : y_ev x (0, [(7, 1)]) = x 7 := (l_e1 _ _)
    have E12 : y_ev x (0, [(8, 1)]) = x 8 := (l_e1 _ _)
    have E13 : y_ev x (0, [(9, 1)]) = x 9 := (l_e1 _ _)
    have E14 : y_ev x (0, [(10, 1)]) = x 10 := (l_e1 _ _)
    have E15 : y_ev x (0, [(15, 1)]) = x 15 := (l_e1 _ _)
    have E16 : y_ev x (0, [(11, 1)]) = x 11 := (l_e1 _ _)
    have E17 : y_ev x (0, [(12, 1)]) = x 12 := (l_e1 _ _)
    have T0 : 0 ≤ (y_ev x (0, [(1, 1)])) ∧ (y_ev x (0, [(13, 1)])) = a_nu (t_b v) (y_ev x (0, [(0, 1)])) (y_ev x (0, [(1, 1)])).toNat (y_ev x (11, [])) := h.2.2.2.1
    (try rw [E0] at T0); (try rw [E1] at T0); (try rw [E2] at T0); (try rw [E3] at T0)
    have T1 : q_run2 (t_b v) (y_ev x (0, [(0, 1)])) (y_ev x (0, [(1, 1)])) (y_ev x (0, [])) (y_ev x (0, [])) (y_ev x (0, [])) (y_ev x (0, [(3, 1)])) (y_ev x (0, [(4, 1)])) (y_ev x (0, [(5, 1)])) (y_ev x (0, [(6, 1)])) (y_ev x (0, [(14, 1)])) := h.2.2.2.2.1
    (try rw [E0] at T1); (try rw [E1] at T1); (try rw [E4] at T1); (try rw [E5] at T1); (try rw [E6] at T1); (try rw [E7] at T1); (try rw [E8] at T1); (try rw [E9] at T1)
    have T2 : q_run2 (t_b v) (y_ev x (0, [(0, 1)])) (y_ev x (0, [(2, 1)])) (y_ev x (0, [])) (y_ev x (0, [])) (y_ev x (0, [])) (y_ev x (0, [(7, 1)])) (y_ev x (0, [(8, 1)])) (y_ev x (0, [(9, 1)])) (y_ev x (0, [(10, 1)])) (y_ev x (0, [(15, 1)])) := h.2.2.2.2.2.1
    (try rw [E0] at T2); (try rw [E10] at T2); (try rw [E4] at T2); (try rw [E11] at T2); (try rw [E12] at T2); (try rw [E13] at T2); (try rw [E14] at T2); (try rw [E15] at T2)
    have T3 : 0 ≤ (y_ev x (0, [(1, 1)])) ∧ 0 ≤ (y_ev x (0, [(11, 1)])) ∧ (y_ev x (0, [(11, 1)])) ≤ 41 ∧ t_km (y_ev x (0, [(11, 1)])) = tk (t_b v) (y_ev x (0, [(0, 1)])) (y_ev x (0, [(1, 1)])).toNat ∧ (y_ev x (0, [(12, 1)])) = t_s (t_b v) (y_ev x (0, [(0, 1)])) (y_ev x (0, [(1, 1)])).toNat := h.2.2.2.2.2.2.1
    (try rw [E0] at T3); (try rw [E1] at T3); (try rw [E16] at T3); (try rw [E17] at T3)
    have K := k_mnumMa_11 (V := v) (n := x 0) (c := x 1) (d := x 2) (H := x 3) (L := x 4) (W := x 5) (P := x 6) (H2 := x 7) (L2 := x 8) (W2 := x 9) (P2 := x 10) (u := x 11) (s := x 12) (w := x 13) (S := x 14) (S2 := x 15) T0 T1 T2 T3 C0 C1 C2 C3
    refine l_outH rfl (And.intro h.1 ?_)
    have O0 : y_ev x (0, [(0, 1)]) = x 0 := l_e1 _ _
    have O1 : y_ev x (0, [(2, 1)]) = x 2 := l_e1 _ _
    have O2 : y_ev x (11, []) = 11 := l_e0 _ _
    have O3 : y_ev x (0, [(13, 1)]) = x 13 := l_e1 _ _
    show (True) ∧ ((0 ≤ (y_ev x (0, [(2, 1)])) ∧ (y_ev x (0, [(13, 1)])) = a_nu (t_b v) (y_ev x (0, [(0, 1)])) (y_ev x (0, [(2, 1)])).toNat (y_ev x (11, []))) ∧ True)
    (try rw [O0]); (try rw [O1]); (try rw [O2]); (try rw [O3])
    exact K
def lm_552p : zS := ((lm_541pi_0 (lm_541pi_1 [])), [(12, false)], [(0, [(1, (-1)), (2, 1)]), (1, [(14, 1), (15, (-1))]), ((-1), [(14, (-1)), (15, 1)]), ((-29), [(11, 1)])], [], [], [(0, (false, 11, 0, []), 0, 0, 0, [(2, 1)])], (lm_551pg_0 []))
def lm_552 : zLem := (lm_552p, [([((-2147483648), 2147483647), ((-2147483648), 2147483647), ((-2147483648), 2147483647), ((-2147483648), 2147483647), ((-2147483648), 2147483647), ((-2147483648), 2147483647), ((-2147483648), 2147483647), ((-2147483648), 2147483647), ((-2147483648), 2147483647), ((-2147483648), 2147483647), ((-2147483648), 2147483647), ((-2147483648), 2147483647), ((-2147483648), 2147483647), ((-2147483648), 2147483647), ((-2147483648), 2147483647), ((-2147483648), 2147483647)], [(12, false)], [], [], [], [], [(86, [(0, [(0, 1)]), (0, [(2, 1)]), (11, []), (0, [(13, 1)])])])])
theorem lk_552 : l_core lm_552 := by
  first
  | skip
    intro v x h
    have K := k_mnumMb_11 (V := v) (n := x 0) (c := x 1) (d := x 2) (H := x 3) (L := x 4) (W := x 5) (P := x 6) (H2 := x 7) (L2 := x 8) (W2 := x 9) (P2 := x 10) (u := x 11) (s := x 12) (w := x 13) (S := x 14) (S2 := x 15) (l_c4 (fun w0 w1 w2 w3 : Int => 0 ≤ w1 ∧ w3 = a_nu (t_b v) w0 w1.toNat w2) (l_e1 x 0) (l_e1 x 1) (l_e0 x (11)) (l_e1 x 13) (h.2.2.2.1)) (l_c8 (fun w0 w1 w2 w3 w4 w5 w6 w7 : Int => q_run2 (t_b v) w0 w1 w2 w2 w2 w3 w4 w5 w6 w7) (l_e1 x 0) (l_e1 x 1) (l_e0 x (0)) (l_e1 x 3) (l_e1 x 4) (l_e1 x 5) (l_e1 x 6) (l_e1 x 14) (h.2.2.2.2.1)) (l_c8 (fun w0 w1 w2 w3 w4 w5 w6 w7 : Int => q_run2 (t_b v) w0 w1 w2 w2 w2 w3 w4 w5 w6 w7) (l_e1 x 0) (l_e1 x 2) (l_e0 x (0)) (l_e1 x 7) (l_e1 x 8) (l_e1 x 9) (l_e1 x 10) (l_e1 x 15) (h.2.2.2.2.2.1)) (l_c4 (fun w0 w1 w2 w3 : Int => 0 ≤ w1 ∧ 0 ≤ w2 ∧ w2 ≤ 41 ∧ t_km w2 = tk (t_b v) w0 w1.toNat ∧ w3 = t_s (t_b v) w0 w1.toNat) (l_e1 x 0) (l_e1 x 1) (l_e1 x 11) (l_e1 x 12) (h.2.2.2.2.2.2.1)) (l_cc (l_q4 x 1 2) (h.2.1.1)) (l_cc (l_q13 1 x 14 15) (h.2.1.2.1)) (l_cc (l_q6 1 x 14 15) (h.2.1.2.2.1)) (l_cc (l_q2 29 x 11) (h.2.1.2.2.2.1))
    refine l_outH rfl (And.intro h.1 ?_)
    exact l_o4 (fun w0 w1 w2 w3 : Int => (True) ∧ ((0 ≤ w1 ∧ w3 = a_nu (t_b v) w0 w1.toNat w2) ∧ True)) (l_e1 x 0) (l_e1 x 2) (l_e0 x (11)) (l_e1 x 13) K
  | skip
    intro v x h
    have C0 : (0 : Int) ≤ x 2 - x 1 := l_cc (a := y_ev x (0, [(1, (-1)), (2, 1)])) (by show ((0) : Int) + ((-1) * x 1 + ((1) * x 2 + 0)) = x 2 - x 1; omega) (h.2.1.1)
    have C1 : (0 : Int) ≤ x 14 - x 15 + 1 := l_cc (a := y_ev x (1, [(14, 1), (15, (-1))])) (by show ((1) : Int) + ((1) * x 14 + ((-1) * x 15 + 0)) = x 14 - x 15 + 1; omega) (h.2.1.2.1)
    have C2 : (0 : Int) ≤ x 15 - x 14 - 1 := l_cc (a := y_ev x ((-1), [(14, (-1)), (15, 1)])) (by show ((-1) : Int) + ((-1) * x 14 + ((1) * x 15 + 0)) = x 15 - x 14 - 1; omega) (h.2.1.2.2.1)
    have C3 : (0 : Int) ≤ x 11 - 29 := l_cc (a := y_ev x ((-29), [(11, 1)])) (by show ((-29) : Int) + ((1) * x 11 + 0) = x 11 - 29; omega) (h.2.1.2.2.2.1)
    have E0 : y_ev x (0, [(0, 1)]) = x 0 := (l_e1 _ _)
    have E1 : y_ev x (0, [(1, 1)]) = x 1 := (l_e1 _ _)
    have E2 : y_ev x (11, []) = 11 := (l_e0 _ _)
    have E3 : y_ev x (0, [(13, 1)]) = x 13 := (l_e1 _ _)
    have E4 : y_ev x (0, []) = 0 := (l_e0 _ _)
    have E5 : y_ev x (0, [(3, 1)]) = x 3 := (l_e1 _ _)
    have E6 : y_ev x (0, [(4, 1)]) = x 4 := (l_e1 _ _)
    have E7 : y_ev x (0, [(5, 1)]) = x 5 := (l_e1 _ _)
    have E8 : y_ev x (0, [(6, 1)]) = x 6 := (l_e1 _ _)
    have E9 : y_ev x (0, [(14, 1)]) = x 14 := (l_e1 _ _)
    have E10 : y_ev x (0, [(2, 1)]) = x 2 := (l_e1 _ _)
    have E11 : y_ev x (0, [(7, 1)]) = x 7 := (l_e1 _ _)
    have E12 : y_ev x (0, [(8, 1)]) = x 8 := (l_e1 _ _)
    have E13 : y_ev x (0, [(9, 1)]) = x 9 := (l_e1 _ _)
    have E14 : y_ev x (0, [(10, 1)]) = x 10 := (l_e1 _ _)
    have E15 : y_ev x (0, [(15, 1)]) = x 15 := (l_e1 _ _)
    have E16 : y_ev x (0, [(11, 1)]) = x 11 := (l_e1 _ _)
    have E17 : y_ev x (0, [(12, 1)]) = x 12 := (l_e1 _ _)
    have T0 : 0 ≤ (y_ev x (0, [(1, 1)])) ∧ (y_ev x (0, [(13, 1)])) = a_nu (t_b v) (y_ev x (0, [(0, 1)])) (y_ev x (0, [(1, 1)])).toNat (y_ev x (11, [])) := h.2.2.2.1
    (try rw [E0] at T0); (try rw [E1] at T0); (try rw [E2] at T0); (try rw [E3] at T0)
    have T1 : q_run2 (t_b v) (y_ev x (0, [(0, 1)])) (y_ev x (0, [(1, 1)])) (y_ev x (0, [])) (y_ev x (0, [])) (y_ev x (0, [])) (y_ev x (0, [(3, 1)])) (y_ev x (0, [(4, 1)])) (y_ev x (0, [(5, 1)])) (y_ev x (0, [(6, 1)])) (y_ev x (0, [(14, 1)])) := h.2.2.2.2.1
    (try rw [E0] at T1); (try rw [E1] at T1); (try rw [E4] at T1); (try rw [E5] at T1); (try rw [E6] at T1); (try rw [E7] at T1); (try rw [E8] at T1); (try rw [E9] at T1)
    have T2 : q_run2 (t_b v) (y_ev x (0, [(0, 1)])) (y_ev x (0, [(2, 1)])) (y_ev x (0, [])) (y_ev x (0, [])) (y_ev x (0, [])) (y_ev x (0, [(7, 1)])) (y_ev x (0, [(8, 1)])) (y_ev x (0, [(9, 1)])) (y_ev x (0, [(10, 1)])) (y_ev x (0, [(15, 1)])) := h.2.2.2.2.2.1
    (try rw [E0] at T2); (try rw [E10] at T2); (try rw [E4] at T2); (try rw [E11] at T2); (try rw [E12] at T2); (try rw [E13] at T2); (try rw [E14] at T2); (try rw [E15] at T2)
    have T3 : 0 ≤ (y_ev x (0, [(1, 1)])) ∧ 0 ≤ (y_ev x (0, [(11, 1)])) ∧ (y_ev x (0, [(11, 1)])) ≤ 41 ∧ t_km (y_ev x (0, [(11, 1)])) = tk (t_b v) (y_ev x (0, [(0, 1)])) (y_ev x (0, [(1, 1)])).toNat ∧ (y_ev x (0, [(12, 1)])) = t_s (t_b v) (y_ev x (0, [(0, 1)])) (y_ev x (0, [(1, 1)])).toNat := h.2.2.2.2.2.2.1
    (try rw [E0] at T3); (try rw [E1] at T3); (try rw [E16] at T3); (try rw [E17] at T3)
    have K := k_mnumMb_11 (V := v) (n := x 0) (c := x 1) (d := x 2) (H := x 3) (L := x 4) (W := x 5) (P := x 6) (H2 := x 7) (L2 := x 8) (W2 := x 9) (P2 := x 10) (u := x 11) (s := x 12) (w := x 13) (S := x 14) (S2 := x 15) T0 T1 T2 T3 C0 C1 C2 C3
    refine l_outH rfl (And.intro h.1 ?_)
    have O0 : y_ev x (0, [(0, 1)]) = x 0 := l_e1 _ _
    have O1 : y_ev x (0, [(2, 1)]) = x 2 := l_e1 _ _
    have O2 : y_ev x (11, []) = 11 := l_e0 _ _
    have O3 : y_ev x (0, [(13, 1)]) = x 13 := l_e1 _ _
    show (True) ∧ ((0 ≤ (y_ev x (0, [(2, 1)])) ∧ (y_ev x (0, [(13, 1)])) = a_nu (t_b v) (y_ev x (0, [(0, 1)])) (y_ev x (0, [(2, 1)])).toNat (y_ev x (11, []))) ∧ True)
    (try rw [O0]); (try rw [O1]); (try rw [O2]); (try rw [O3])
    exact K
def lm_553 : zLem := (([((-2147483648), 2147483647), ((-2147483648), 2147483647), ((-2147483648), 2147483647), ((-2147483648), 2147483647), ((-2147483648), 2147483647), ((-2147483648), 2147483647), ((-2147483648), 2147483647), ((-2147483648), 2147483647), ((-2147483648), 2147483647)], [(12, false)], [], [], [], [(0, (false, 11, 0, []), 0, 0, 0, [(1, 1)])], [(86, [(0, [(0, 1)]), (0, [(1, 1)]), (11, []), (0, [(7, 1)])]), (40, [(0, [(0, 1)]), (0, [(1, 1)]), (0, []), (0, []), (0, []), (0, [(2, 1)]), (0, [(3, 1)]), (0, [(4, 1)]), (0, [(5, 1)]), (0, [(8, 1)])]), (59, [(0, [(0, 1)]), (0, [(1, 1)]), (0, []), (0, [(6, 1)])])]), [([((-2147483648), 2147483647), ((-2147483648), 2147483647), ((-2147483648), 2147483647), ((-2147483648), 2147483647), ((-2147483648), 2147483647), ((-2147483648), 2147483647), ((-2147483648), 2147483647), ((-2147483648), 2147483647), ((-2147483648), 2147483647)], [(12, false)], [], [], [], [], [(87, [(0, [(0, 1)]), (11, []), (0, [(7, 1)])])])])
theorem lk_553 : l_core lm_553 := by
  first
  | skip
    intro v x h
    have K := k_mfnm_11 (V := v) (n := x 0) (c := x 1) (H := x 2) (L := x 3) (W := x 4) (P := x 5) (z := x 6) (w := x 7) (S := x 8) (l_c4 (fun w0 w1 w2 w3 : Int => 0 ≤ w1 ∧ w3 = a_nu (t_b v) w0 w1.toNat w2) (l_e1 x 0) (l_e1 x 1) (l_e0 x (11)) (l_e1 x 7) (h.2.2.2.1)) (l_c8 (fun w0 w1 w2 w3 w4 w5 w6 w7 : Int => q_run2 (t_b v) w0 w1 w2 w2 w2 w3 w4 w5 w6 w7) (l_e1 x 0) (l_e1 x 1) (l_e0 x (0)) (l_e1 x 2) (l_e1 x 3) (l_e1 x 4) (l_e1 x 5) (l_e1 x 8) (h.2.2.2.2.1)) (l_c4 (fun w0 w1 w2 w3 : Int => 0 ≤ w1 ∧ 0 ≤ w2 ∧ w2 ≤ 41 ∧ t_km w2 = tk (t_b v) w0 w1.toNat ∧ w3 = t_s (t_b v) w0 w1.toNat) (l_e1 x 0) (l_e1 x 1) (l_e0 x (0)) (l_e1 x 6) (h.2.2.2.2.2.1))
    refine l_outH rfl (And.intro h.1 ?_)
    exact l_o3 (fun w0 w1 w2 : Int => (True) ∧ ((∃ c : Nat, q_end (t_b v) w0 c ∧ w2 = a_nu (t_b v) w0 c w1) ∧ True)) (l_e1 x 0) (l_e0 x (11)) (l_e1 x 7) K
  | skip
    intro v x h
    have E0 : y_ev x (0, [(0, 1)]) = x 0 := (l_e1 _ _)
    have E1 : y_ev x (0, [(1, 1)]) = x 1 := (l_e1 _ _)
    have E2 : y_ev x (11, []) = 11 := (l_e0 _ _)
    have E3 : y_ev x (0, [(7, 1)]) = x 7 := (l_e1 _ _)
    have E4 : y_ev x (0, []) = 0 := (l_e0 _ _)
    have E5 : y_ev x (0, [(2, 1)]) = x 2 := (l_e1 _ _)
    have E6 : y_ev x (0, [(3, 1)]) = x 3 := (l_e1 _ _)
    have E7 : y_ev x (0, [(4, 1)]) = x 4 := (l_e1 _ _)
    have E8 : y_ev x (0, [(5, 1)]) = x 5 := (l_e1 _ _)
    have E9 : y_ev x (0, [(8, 1)]) = x 8 := (l_e1 _ _)
    have E10 : y_ev x (0, [(6, 1)]) = x 6 := (l_e1 _ _)
    have T0 : 0 ≤ (y_ev x (0, [(1, 1)])) ∧ (y_ev x (0, [(7, 1)])) = a_nu (t_b v) (y_ev x (0, [(0, 1)])) (y_ev x (0, [(1, 1)])).toNat (y_ev x (11, [])) := h.2.2.2.1
    (try rw [E0] at T0); (try rw [E1] at T0); (try rw [E2] at T0); (try rw [E3] at T0)
    have T1 : q_run2 (t_b v) (y_ev x (0, [(0, 1)])) (y_ev x (0, [(1, 1)])) (y_ev x (0, [])) (y_ev x (0, [])) (y_ev x (0, [])) (y_ev x (0, [(2, 1)])) (y_ev x (0, [(3, 1)])) (y_ev x (0, [(4, 1)])) (y_ev x (0, [(5, 1)])) (y_ev x (0, [(8, 1)])) := h.2.2.2.2.1
    (try rw [E0] at T1); (try rw [E1] at T1); (try rw [E4] at T1); (try rw [E5] at T1); (try rw [E6] at T1); (try rw [E7] at T1); (try rw [E8] at T1); (try rw [E9] at T1)
    have T2 : 0 ≤ (y_ev x (0, [(1, 1)])) ∧ 0 ≤ (y_ev x (0, [])) ∧ (y_ev x (0, [])) ≤ 41 ∧ t_km (y_ev x (0, [])) = tk (t_b v) (y_ev x (0, [(0, 1)])) (y_ev x (0, [(1, 1)])).toNat ∧ (y_ev x (0, [(6, 1)])) = t_s (t_b v) (y_ev x (0, [(0, 1)])) (y_ev x (0, [(1, 1)])).toNat := h.2.2.2.2.2.1
    (try rw [E0] at T2); (try rw [E1] at T2); (try rw [E4] at T2); (try rw [E10] at T2)
    have K := k_mfnm_11 (V := v) (n := x 0) (c := x 1) (H := x 2) (L := x 3) (W := x 4) (P := x 5) (z := x 6) (w := x 7) (S := x 8) T0 T1 T2
    refine l_outH rfl (And.intro h.1 ?_)
    have O0 : y_ev x (0, [(0, 1)]) = x 0 := l_e1 _ _
    have O1 : y_ev x (11, []) = 11 := l_e0 _ _
    have O2 : y_ev x (0, [(7, 1)]) = x 7 := l_e1 _ _
    show (True) ∧ ((∃ c : Nat, q_end (t_b v) (y_ev x (0, [(0, 1)])) c ∧ (y_ev x (0, [(7, 1)])) = a_nu (t_b v) (y_ev x (0, [(0, 1)])) c (y_ev x (11, []))) ∧ True)
    (try rw [O0]); (try rw [O1]); (try rw [O2])
    exact K
def lm_554 : zLem := (([((-2147483648), 2147483647), ((-2147483648), 2147483647), ((-2147483648), 2147483647), ((-2147483648), 2147483647), ((-2147483648), 2147483647), ((-2147483648), 2147483647), ((-2147483648), 2147483647)], [(12, false)], [(0, [(5, 1)]), (0, [(5, (-1))])], [], [], [(0, (false, 11, 0, []), 0, 0, 0, [(5, 1)])], [(40, [(0, [(0, 1)]), (0, [(5, 1)]), (0, []), (0, []), (0, []), (0, [(1, 1)]), (0, [(2, 1)]), (0, [(3, 1)]), (0, [(4, 1)]), (0, [(6, 1)])])]), [([((-2147483648), 2147483647), ((-2147483648), 2147483647), ((-2147483648), 2147483647), ((-2147483648), 2147483647), ((-2147483648), 2147483647), ((-2147483648), 2147483647), ((-2147483648), 2147483647)], [(12, false)], [], [], [], [], [(86, [(0, [(0, 1)]), (0, [(5, 1)]), (12, []), (0, [])])])])
theorem lk_554 : l_core lm_554 := by
  first
  | skip
    intro v x h
    have K := k_mnum0_12 (V := v) (n := x 0) (H := x 1) (L := x 2) (W := x 3) (P := x 4) (c := x 5) (S := x 6) (l_c8 (fun w0 w1 w2 w3 w4 w5 w6 w7 : Int => q_run2 (t_b v) w0 w1 w2 w2 w2 w3 w4 w5 w6 w7) (l_e1 x 0) (l_e1 x 5) (l_e0 x (0)) (l_e1 x 1) (l_e1 x 2) (l_e1 x 3) (l_e1 x 4) (l_e1 x 6) (h.2.2.2.1)) (l_cc (l_e1 x 5) (h.2.1.1)) (l_cc (l_q7 x 5) (h.2.1.2.1))
    refine l_outH rfl (And.intro h.1 ?_)
    exact l_o4 (fun w0 w1 w2 w3 : Int => (True) ∧ ((0 ≤ w1 ∧ w3 = a_nu (t_b v) w0 w1.toNat w2) ∧ True)) (l_e1 x 0) (l_e1 x 5) (l_e0 x (12)) (l_e0 x (0)) K
  | skip
    intro v x h
    have C0 : (0 : Int) ≤ x 5 := l_cc (a := y_ev x (0, [(5, 1)])) (l_e1 _ _) (h.2.1.1)
    have C1 : (0 : Int) ≤ -x 5 := l_cc (a := y_ev x (0, [(5, (-1))])) (by show ((0) : Int) + ((-1) * x 5 + 0) = -x 5; omega) (h.2.1.2.1)
    have E0 : y_ev x (0, [(0, 1)]) = x 0 := (l_e1 _ _)
    have E1 : y_ev x (0, [(5, 1)]) = x 5 := (l_e1 _ _)
    have E2 : y_ev x (0, []) = 0 := (l_e0 _ _)
    have E3 : y_ev x (0, [(1, 1)]) = x 1 := (l_e1 _ _)
    have E4 : y_ev x (0, [(2, 1)]) = x 2 := (l_e1 _ _)
    have E5 : y_ev x (0, [(3, 1)]) = x 3 := (l_e1 _ _)
    have E6 : y_ev x (0, [(4, 1)]) = x 4 := (l_e1 _ _)
    have E7 : y_ev x (0, [(6, 1)]) = x 6 := (l_e1 _ _)
    have T0 : q_run2 (t_b v) (y_ev x (0, [(0, 1)])) (y_ev x (0, [(5, 1)])) (y_ev x (0, [])) (y_ev x (0, [])) (y_ev x (0, [])) (y_ev x (0, [(1, 1)])) (y_ev x (0, [(2, 1)])) (y_ev x (0, [(3, 1)])) (y_ev x (0, [(4, 1)])) (y_ev x (0, [(6, 1)])) := h.2.2.2.1
    (try rw [E0] at T0); (try rw [E1] at T0); (try rw [E2] at T0); (try rw [E3] at T0); (try rw [E4] at T0); (try rw [E5] at T0); (try rw [E6] at T0); (try rw [E7] at T0)
    have K := k_mnum0_12 (V := v) (n := x 0) (H := x 1) (L := x 2) (W := x 3) (P := x 4) (c := x 5) (S := x 6) T0 C0 C1
    refine l_outH rfl (And.intro h.1 ?_)
    have O0 : y_ev x (0, [(0, 1)]) = x 0 := l_e1 _ _
    have O1 : y_ev x (0, [(5, 1)]) = x 5 := l_e1 _ _
    have O2 : y_ev x (12, []) = 12 := l_e0 _ _
    have O3 : y_ev x (0, []) = 0 := l_e0 _ _
    show (True) ∧ ((0 ≤ (y_ev x (0, [(5, 1)])) ∧ (y_ev x (0, [])) = a_nu (t_b v) (y_ev x (0, [(0, 1)])) (y_ev x (0, [(5, 1)])).toNat (y_ev x (12, []))) ∧ True)
    (try rw [O0]); (try rw [O1]); (try rw [O2]); (try rw [O3])
    exact K
def lm_555p : zS := ((lm_520pi_0 (lm_520pi_1 [])), [(12, false)], [(400, [(1, (-1))]), ((-3), [(1, 1)])], [], [], [(0, (false, 11, 0, []), 0, 0, 0, [(1, 1)])], (lm_535pg_0 []))
def lm_555 : zLem := (lm_555p, [([((-2147483648), 2147483647), ((-2147483648), 2147483647), ((-2147483648), 2147483647), ((-2147483648), 2147483647), ((-2147483648), 2147483647), ((-2147483648), 2147483647), ((-2147483648), 2147483647), ((-2147483648), 2147483647), ((-2147483648), 2147483647), ((-2147483648), 2147483647), ((-2147483648), 2147483647), ((-9223372036854775808), 9223372036854775807), ((-2147483648), 2147483647), ((-2147483648), 2147483647), ((-2147483648), 2147483647)], [(12, false)], [], [], [], [], [(86, [(0, [(0, 1)]), (0, [(1, 1)]), (12, []), (0, [(12, 1)])])])])
theorem lk_555 : l_core lm_555 := by
  first
  | skip
    intro v x h
    have K := k_numS_12 (V := v) (n := x 0) (d := x 1) (H := x 2) (L := x 3) (W := x 4) (P := x 5) (H2 := x 6) (L2 := x 7) (W2 := x 8) (P2 := x 9) (s := x 10) (v := x 11) (u := x 12) (S := x 13) (S2 := x 14) (l_c9 (fun w0 w1 w2 w3 w4 w5 w6 w7 w8 : Int => q_run2 (t_b v) w0 w1 w2 w3 w3 w4 w5 w6 w7 w8) (l_e1 x 0) (l_q2 1 x 1) (l_e0 x (13)) (l_e0 x (0)) (l_e1 x 2) (l_e1 x 3) (l_e1 x 4) (l_e1 x 5) (l_e1 x 13) (h.2.2.2.1)) (l_c8 (fun w0 w1 w2 w3 w4 w5 w6 w7 : Int => q_run2 (t_b v) w0 w1 w2 w2 w2 w3 w4 w5 w6 w7) (l_e1 x 0) (l_q2 3 x 1) (l_e0 x (0)) (l_e1 x 6) (l_e1 x 7) (l_e1 x 8) (l_e1 x 9) (l_e1 x 14) (h.2.2.2.2.1)) (l_c5 (fun w0 w1 w2 w3 w4 : Int => q_tok (t_b v) w0 w1 w2 w3 w4) (l_e1 x 0) (l_q2 3 x 1) (l_e0 x (265)) (l_e1 x 10) (l_e1 x 11) (h.2.2.2.2.2.1)) (l_c3 (fun w0 w1 w2 : Int => tk (t_b v) w0 w1.toNat = 3 ∧ w2 = tx (t_b v) w0 w1.toNat) (l_e1 x 0) (l_q2 2 x 1) (l_e1 x 12) (h.2.2.2.2.2.2.1)) (l_cc (l_q1 400 x 1) (h.2.1.1)) (l_cc (l_q2 3 x 1) (h.2.1.2.1))
    refine l_outH rfl (And.intro h.1 ?_)
    exact l_o4 (fun w0 w1 w2 w3 : Int => (True) ∧ ((0 ≤ w1 ∧ w3 = a_nu (t_b v) w0 w1.toNat w2) ∧ True)) (l_e1 x 0) (l_e1 x 1) (l_e0 x (12)) (l_e1 x 12) K
  | skip
    intro v x h
    have C0 : (0 : Int) ≤ 400 - x 1 := l_cc (a := y_ev x (400, [(1, (-1))])) (by show ((400) : Int) + ((-1) * x 1 + 0) = 400 - x 1; omega) (h.2.1.1)
    have C1 : (0 : Int) ≤ x 1 - 3 := l_cc (a := y_ev x ((-3), [(1, 1)])) (by show ((-3) : Int) + ((1) * x 1 + 0) = x 1 - 3; omega) (h.2.1.2.1)
    have E0 : y_ev x (0, [(0, 1)]) = x 0 := (l_e1 _ _)
    have E1 : y_ev x ((-1), [(1, 1)]) = x 1 - 1 := (by show ((-1) : Int) + ((1) * x 1 + 0) = x 1 - 1; omega)
    have E2 : y_ev x (13, []) = 13 := (l_e0 _ _)
    have E3 : y_ev x (0, []) = 0 := (l_e0 _ _)
    have E4 : y_ev x (0, [(2, 1)]) = x 2 := (l_e1 _ _)
    have E5 : y_ev x (0, [(3, 1)]) = x 3 := (l_e1 _ _)
    have E6 : y_ev x (0, [(4, 1)]) = x 4 := (l_e1 _ _)
    have E7 : y_ev x (0, [(5, 1)]) = x 5 := (l_e1 _ _)
    have E8 : y_ev x (0, [(13, 1)]) = x 13 := (l_e1 _ _)
    have E9 : y_ev x ((-3), [(1, 1)]) = x 1 - 3 := (by show ((-3) : Int) + ((1) * x 1 + 0) = x 1 - 3; omega)
    have E10 : y_ev x (0, [(6, 1)]) = x 6 := (l_e1 _ _)
    have E11 : y_ev x (0, [(7, 1)]) = x 7 := (l_e1 _ _)
    have E12 : y_ev x (0, [(8, 1)]) = x 8 := (l_e1 _ _)
    have E13 : y_ev x (0, [(9, 1)]) = x 9 := (l_e1 _ _)
    have E14 : y_ev x (0, [(14, 1)]) = x 14 := (l_e1 _ _)
    have E15 : y_ev x (265, []) = 265 := (l_e0 _ _)
    have E16 : y_ev x (0, [(10, 1)]) = x 10 := (l_e1 _ _)
    have E17 : y_ev x (0, [(11, 1)]) = x 11 := (l_e1 _ _)
    have E18 : y_ev x ((-2), [(1, 1)]) = x 1 - 2 := (by show ((-2) : Int) + ((1) * x 1 + 0) = x 1 - 2; omega)
    have E19 : y_ev x (0, [(12, 1)]) = x 12 := (l_e1 _ _)
    have T0 : q_run2 (t_b v) (y_ev x (0, [(0, 1)])) (y_ev x ((-1), [(1, 1)])) (y_ev x (13, [])) (y_ev x (0, [])) (y_ev x (0, [])) (y_ev x (0, [(2, 1)])) (y_ev x (0, [(3, 1)])) (y_ev x (0, [(4, 1)])) (y_ev x (0, [(5, 1)])) (y_ev x (0, [(13, 1)])) := h.2.2.2.1
    (try rw [E0] at T0); (try rw [E1] at T0); (try rw [E2] at T0); (try rw [E3] at T0); (try rw [E4] at T0); (try rw [E5] at T0); (try rw [E6] at T0); (try rw [E7] at T0); (try rw [E8] at T0)
    have T1 : q_run2 (t_b v) (y_ev x (0, [(0, 1)])) (y_ev x ((-3), [(1, 1)])) (y_ev x (0, [])) (y_ev x (0, [])) (y_ev x (0, [])) (y_ev x (0, [(6, 1)])) (y_ev x (0, [(7, 1)])) (y_ev x (0, [(8, 1)])) (y_ev x (0, [(9, 1)])) (y_ev x (0, [(14, 1)])) := h.2.2.2.2.1
    (try rw [E0] at T1); (try rw [E9] at T1); (try rw [E3] at T1); (try rw [E10] at T1); (try rw [E11] at T1); (try rw [E12] at T1); (try rw [E13] at T1); (try rw [E14] at T1)
    have T2 : q_tok (t_b v) (y_ev x (0, [(0, 1)])) (y_ev x ((-3), [(1, 1)])) (y_ev x (265, [])) (y_ev x (0, [(10, 1)])) (y_ev x (0, [(11, 1)])) := h.2.2.2.2.2.1
    (try rw [E0] at T2); (try rw [E9] at T2); (try rw [E15] at T2); (try rw [E16] at T2); (try rw [E17] at T2)
    have T3 : tk (t_b v) (y_ev x (0, [(0, 1)])) (y_ev x ((-2), [(1, 1)])).toNat = 3 ∧ (y_ev x (0, [(12, 1)])) = tx (t_b v) (y_ev x (0, [(0, 1)])) (y_ev x ((-2), [(1, 1)])).toNat := h.2.2.2.2.2.2.1
    (try rw [E0] at T3); (try rw [E18] at T3); (try rw [E19] at T3)
    have K := k_numS_12 (V := v) (n := x 0) (d := x 1) (H := x 2) (L := x 3) (W := x 4) (P := x 5) (H2 := x 6) (L2 := x 7) (W2 := x 8) (P2 := x 9) (s := x 10) (v := x 11) (u := x 12) (S := x 13) (S2 := x 14) T0 T1 T2 T3 C0 C1
    refine l_outH rfl (And.intro h.1 ?_)
    have O0 : y_ev x (0, [(0, 1)]) = x 0 := l_e1 _ _
    have O1 : y_ev x (0, [(1, 1)]) = x 1 := l_e1 _ _
    have O2 : y_ev x (12, []) = 12 := l_e0 _ _
    have O3 : y_ev x (0, [(12, 1)]) = x 12 := l_e1 _ _
    show (True) ∧ ((0 ≤ (y_ev x (0, [(1, 1)])) ∧ (y_ev x (0, [(12, 1)])) = a_nu (t_b v) (y_ev x (0, [(0, 1)])) (y_ev x (0, [(1, 1)])).toNat (y_ev x (12, []))) ∧ True)
    (try rw [O0]); (try rw [O1]); (try rw [O2]); (try rw [O3])
    exact K
def lm_556pg_0 (t : List zTg) : List zTg := (86, [(0, [(0, 1)]), (0, [(1, 1)]), (12, []), (0, [(13, 1)])]) :: (40, [(0, [(0, 1)]), (0, [(1, 1)]), (0, []), (0, []), (0, []), (0, [(3, 1)]), (0, [(4, 1)]), (0, [(5, 1)]), (0, [(6, 1)]), (0, [(14, 1)])]) :: (40, [(0, [(0, 1)]), (0, [(2, 1)]), (0, []), (0, []), (0, []), (0, [(7, 1)]), (0, [(8, 1)]), (0, [(9, 1)]), (0, [(10, 1)]), (0, [(15, 1)])]) :: (59, [(0, [(0, 1)]), (0, [(1, 1)]), (0, [(11, 1)]), (0, [(12, 1)])]) :: t
def lm_556p : zS := ((lm_541pi_0 (lm_541pi_1 [])), [(12, false)], [(0, [(1, (-1)), (2, 1)]), (1, [(14, 1), (15, (-1))]), ((-1), [(14, (-1)), (15, 1)]), (28, [(11, (-1))])], [], [], [(0, (false, 11, 0, []), 0, 0, 0, [(2, 1)])], (lm_556pg_0 []))
def lm_556 : zLem := (lm_556p, [([((-2147483648), 2147483647), ((-2147483648), 2147483647), ((-2147483648), 2147483647), ((-2147483648), 2147483647), ((-2147483648), 2147483647), ((-2147483648), 2147483647), ((-2147483648), 2147483647), ((-2147483648), 2147483647), ((-2147483648), 2147483647), ((-2147483648), 2147483647), ((-2147483648), 2147483647), ((-2147483648), 2147483647), ((-2147483648), 2147483647), ((-2147483648), 2147483647), ((-2147483648), 2147483647), ((-2147483648), 2147483647)], [(12, false)], [], [], [], [], [(86, [(0, [(0, 1)]), (0, [(2, 1)]), (12, []), (0, [(13, 1)])])])])
theorem lk_556 : l_core lm_556 := by
  first
  | skip
    intro v x h
    have K := k_mnumMa_12 (V := v) (n := x 0) (c := x 1) (d := x 2) (H := x 3) (L := x 4) (W := x 5) (P := x 6) (H2 := x 7) (L2 := x 8) (W2 := x 9) (P2 := x 10) (u := x 11) (s := x 12) (w := x 13) (S := x 14) (S2 := x 15) (l_c4 (fun w0 w1 w2 w3 : Int => 0 ≤ w1 ∧ w3 = a_nu (t_b v) w0 w1.toNat w2) (l_e1 x 0) (l_e1 x 1) (l_e0 x (12)) (l_e1 x 13) (h.2.2.2.1)) (l_c8 (fun w0 w1 w2 w3 w4 w5 w6 w7 : Int => q_run2 (t_b v) w0 w1 w2 w2 w2 w3 w4 w5 w6 w7) (l_e1 x 0) (l_e1 x 1) (l_e0 x (0)) (l_e1 x 3) (l_e1 x 4) (l_e1 x 5) (l_e1 x 6) (l_e1 x 14) (h.2.2.2.2.1)) (l_c8 (fun w0 w1 w2 w3 w4 w5 w6 w7 : Int => q_run2 (t_b v) w0 w1 w2 w2 w2 w3 w4 w5 w6 w7) (l_e1 x 0) (l_e1 x 2) (l_e0 x (0)) (l_e1 x 7) (l_e1 x 8) (l_e1 x 9) (l_e1 x 10) (l_e1 x 15) (h.2.2.2.2.2.1)) (l_c4 (fun w0 w1 w2 w3 : Int => 0 ≤ w1 ∧ 0 ≤ w2 ∧ w2 ≤ 41 ∧ t_km w2 = tk (t_b v) w0 w1.toNat ∧ w3 = t_s (t_b v) w0 w1.toNat) (l_e1 x 0) (l_e1 x 1) (l_e1 x 11) (l_e1 x 12) (h.2.2.2.2.2.2.1)) (l_cc (l_q4 x 1 2) (h.2.1.1)) (l_cc (l_q13 1 x 14 15) (h.2.1.2.1)) (l_cc (l_q6 1 x 14 15) (h.2.1.2.2.1)) (l_cc (l_q1 28 x 11) (h.2.1.2.2.2.1))
    refine l_outH rfl (And.intro h.1 ?_)
    exact l_o4 (fun w0 w1 w2 w3 : Int => (True) ∧ ((0 ≤ w1 ∧ w3 = a_nu (t_b v) w0 w1.toNat w2) ∧ True)) (l_e1 x 0) (l_e1 x 2) (l_e0 x (12)) (l_e1 x 13) K
  | skip
    intro v x h
    have C0 : (0 : Int) ≤ x 2 - x 1 := l_cc (a := y_ev x (0, [(1, (-1)), (2, 1)])) (by show ((0) : Int) + ((-1) * x 1 + ((1) * x 2 + 0)) = x 2 - x 1; omega) (h.2.1.1)
    have C1 : (0 : Int) ≤ x 14 - x 15 + 1 := l_cc (a := y_ev x (1, [(14, 1), (15, (-1))])) (by show ((1) : Int) + ((1) * x 14 + ((-1) * x 15 + 0)) = x 14 - x 15 + 1; omega) (h.2.1.2.1)
    have C2 : (0 : Int) ≤ x 15 - x 14 - 1 := l_cc (a := y_ev x ((-1), [(14, (-1)), (15, 1)])) (by show ((-1) : Int) + ((-1) * x 14 + ((1) * x 15 + 0)) = x 15 - x 14 - 1; omega) (h.2.1.2.2.1)
    have C3 : (0 : Int) ≤ 28 - x 11 := l_cc (a := y_ev x (28, [(11, (-1))])) (by show ((28) : Int) + ((-1) * x 11 + 0) = 28 - x 11; omega) (h.2.1.2.2.2.1)
    have E0 : y_ev x (0, [(0, 1)]) = x 0 := (l_e1 _ _)
    have E1 : y_ev x (0, [(1, 1)]) = x 1 := (l_e1 _ _)
    have E2 : y_ev x (12, []) = 12 := (l_e0 _ _)
    have E3 : y_ev x (0, [(13, 1)]) = x 13 := (l_e1 _ _)
    have E4 : y_ev x (0, []) = 0 := (l_e0 _ _)
    have E5 : y_ev x (0, [(3, 1)]) = x 3 := (l_e1 _ _)
    have E6 : y_ev x (0, [(4, 1)]) = x 4 := (l_e1 _ _)
    have E7 : y_ev x (0, [(5, 1)]) = x 5 := (l_e1 _ _)
    have E8 : y_ev x (0, [(6, 1)]) = x 6 := (l_e1 _ _)
    have E9 : y_ev x (0, [(14, 1)]) = x 14 := (l_e1 _ _)
    have E10 : y_ev x (0, [(2, 1)]) = x 2 := (l_e1 _ _)
    have E11 : y_ev x (0, [(7, 1)]) = x 7 := (l_e1 _ _)
    have E12 : y_ev x (0, [(8, 1)]) = x 8 := (l_e1 _ _)
    have E13 : y_ev x (0, [(9, 1)]) = x 9 := (l_e1 _ _)
    have E14 : y_ev x (0, [(10, 1)]) = x 10 := (l_e1 _ _)
    have E15 : y_ev x (0, [(15, 1)]) = x 15 := (l_e1 _ _)
    have E16 : y_ev x (0, [(11, 1)]) = x 11 := (l_e1 _ _)
    have E17 : y_ev x (0, [(12, 1)]) = x 12 := (l_e1 _ _)
    have T0 : 0 ≤ (y_ev x (0, [(1, 1)])) ∧ (y_ev x (0, [(13, 1)])) = a_nu (t_b v) (y_ev x (0, [(0, 1)])) (y_ev x (0, [(1, 1)])).toNat (y_ev x (12, [])) := h.2.2.2.1
    (try rw [E0] at T0); (try rw [E1] at T0); (try rw [E2] at T0); (try rw [E3] at T0)
    have T1 : q_run2 (t_b v) (y_ev x (0, [(0, 1)])) (y_ev x (0, [(1, 1)])) (y_ev x (0, [])) (y_ev x (0, [])) (y_ev x (0, [])) (y_ev x (0, [(3, 1)])) (y_ev x (0, [(4, 1)])) (y_ev x (0, [(5, 1)])) (y_ev x (0, [(6, 1)])) (y_ev x (0, [(14, 1)])) := h.2.2.2.2.1
    (try rw [E0] at T1); (try rw [E1] at T1); (try rw [E4] at T1); (try rw [E5] at T1); (try rw [E6] at T1); (try rw [E7] at T1); (try rw [E8] at T1); (try rw [E9] at T1)
    have T2 : q_run2 (t_b v) (y_ev x (0, [(0, 1)])) (y_ev x (0, [(2, 1)])) (y_ev x (0, [])) (y_ev x (0, [])) (y_ev x (0, [])) (y_ev x (0, [(7, 1)])) (y_ev x (0, [(8, 1)])) (y_ev x (0, [(9, 1)])) (y_ev x (0, [(10, 1)])) (y_ev x (0, [(15, 1)])) := h.2.2.2.2.2.1
    (try rw [E0] at T2); (try rw [E10] at T2); (try rw [E4] at T2); (try rw [E11] at T2); (try rw [E12] at T2); (try rw [E13] at T2); (try rw [E14] at T2); (try rw [E15] at T2)
    have T3 : 0 ≤ (y_ev x (0, [(1, 1)])) ∧ 0 ≤ (y_ev x (0, [(11, 1)])) ∧ (y_ev x (0, [(11, 1)])) ≤ 41 ∧ t_km (y_ev x (0, [(11, 1)])) = tk (t_b v) (y_ev x (0, [(0, 1)])) (y_ev x (0, [(1, 1)])).toNat ∧ (y_ev x (0, [(12, 1)])) = t_s (t_b v) (y_ev x (0, [(0, 1)])) (y_ev x (0, [(1, 1)])).toNat := h.2.2.2.2.2.2.1
    (try rw [E0] at T3); (try rw [E1] at T3); (try rw [E16] at T3); (try rw [E17] at T3)
    have K := k_mnumMa_12 (V := v) (n := x 0) (c := x 1) (d := x 2) (H := x 3) (L := x 4) (W := x 5) (P := x 6) (H2 := x 7) (L2 := x 8) (W2 := x 9) (P2 := x 10) (u := x 11) (s := x 12) (w := x 13) (S := x 14) (S2 := x 15) T0 T1 T2 T3 C0 C1 C2 C3
    refine l_outH rfl (And.intro h.1 ?_)
    have O0 : y_ev x (0, [(0, 1)]) = x 0 := l_e1 _ _
    have O1 : y_ev x (0, [(2, 1)]) = x 2 := l_e1 _ _
    have O2 : y_ev x (12, []) = 12 := l_e0 _ _
    have O3 : y_ev x (0, [(13, 1)]) = x 13 := l_e1 _ _
    show (True) ∧ ((0 ≤ (y_ev x (0, [(2, 1)])) ∧ (y_ev x (0, [(13, 1)])) = a_nu (t_b v) (y_ev x (0, [(0, 1)])) (y_ev x (0, [(2, 1)])).toNat (y_ev x (12, []))) ∧ True)
    (try rw [O0]); (try rw [O1]); (try rw [O2]); (try rw [O3])
    exact K
def lm_557p : zS := ((lm_541pi_0 (lm_541pi_1 [])), [(12, false)], [(0, [(1, (-1)), (2, 1)]), (1, [(14, 1), (15, (-1))]), ((-1), [(14, (-1)), (15, 1)]), ((-30), [(11, 1)])], [], [], [(0, (false, 11, 0, []), 0, 0, 0, [(2, 1)])], (lm_556pg_0 []))
def lm_557 : zLem := (lm_557p, [([((-2147483648), 2147483647), ((-2147483648), 2147483647), ((-2147483648), 2147483647), ((-2147483648), 2147483647), ((-2147483648), 2147483647), ((-2147483648), 2147483647), ((-2147483648), 2147483647), ((-2147483648), 2147483647), ((-2147483648), 2147483647), ((-2147483648), 2147483647), ((-2147483648), 2147483647), ((-2147483648), 2147483647), ((-2147483648), 2147483647), ((-2147483648), 2147483647), ((-2147483648), 2147483647), ((-2147483648), 2147483647)], [(12, false)], [], [], [], [], [(86, [(0, [(0, 1)]), (0, [(2, 1)]), (12, []), (0, [(13, 1)])])])])
theorem lk_557 : l_core lm_557 := by
  first
  | skip
    intro v x h
    have K := k_mnumMb_12 (V := v) (n := x 0) (c := x 1) (d := x 2) (H := x 3) (L := x 4) (W := x 5) (P := x 6) (H2 := x 7) (L2 := x 8) (W2 := x 9) (P2 := x 10) (u := x 11) (s := x 12) (w := x 13) (S := x 14) (S2 := x 15) (l_c4 (fun w0 w1 w2 w3 : Int => 0 ≤ w1 ∧ w3 = a_nu (t_b v) w0 w1.toNat w2) (l_e1 x 0) (l_e1 x 1) (l_e0 x (12)) (l_e1 x 13) (h.2.2.2.1)) (l_c8 (fun w0 w1 w2 w3 w4 w5 w6 w7 : Int => q_run2 (t_b v) w0 w1 w2 w2 w2 w3 w4 w5 w6 w7) (l_e1 x 0) (l_e1 x 1) (l_e0 x (0)) (l_e1 x 3) (l_e1 x 4) (l_e1 x 5) (l_e1 x 6) (l_e1 x 14) (h.2.2.2.2.1)) (l_c8 (fun w0 w1 w2 w3 w4 w5 w6 w7 : Int => q_run2 (t_b v) w0 w1 w2 w2 w2 w3 w4 w5 w6 w7) (l_e1 x 0) (l_e1 x 2) (l_e0 x (0)) (l_e1 x 7) (l_e1 x 8) (l_e1 x 9) (l_e1 x 10) (l_e1 x 15) (h.2.2.2.2.2.1)) (l_c4 (fun w0 w1 w2 w3 : Int => 0 ≤ w1 ∧ 0 ≤ w2 ∧ w2 ≤ 41 ∧ t_km w2 = tk (t_b v) w0 w1.toNat ∧ w3 = t_s (t_b v) w0 w1.toNat) (l_e1 x 0) (l_e1 x 1) (l_e1 x 11) (l_e1 x 12) (h.2.2.2.2.2.2.1)) (l_cc (l_q4 x 1 2) (h.2.1.1)) (l_cc (l_q13 1 x 14 15) (h.2.1.2.1)) (l_cc (l_q6 1 x 14 15) (h.2.1.2.2.1)) (l_cc (l_q2 30 x 11) (h.2.1.2.2.2.1))
    refine l_outH rfl (And.intro h.1 ?_)
    exact l_o4 (fun w0 w1 w2 w3 : Int => (True) ∧ ((0 ≤ w1 ∧ w3 = a_nu (t_b v) w0 w1.toNat w2) ∧ True)) (l_e1 x 0) (l_e1 x 2) (l_e0 x (12)) (l_e1 x 13) K
  | skip
    intro v x h
    have C0 : (0 : Int) ≤ x 2 - x 1 := l_cc (a := y_ev x (0, [(1, (-1)), (2, 1)])) (by show ((0) : Int) + ((-1) * x 1 + ((1) * x 2 + 0)) = x 2 - x 1; omega) (h.2.1.1)
    have C1 : (0 : Int) ≤ x 14 - x 15 + 1 := l_cc (a := y_ev x (1, [(14, 1), (15, (-1))])) (by show ((1) : Int) + ((1) * x 14 + ((-1) * x 15 + 0)) = x 14 - x 15 + 1; omega) (h.2.1.2.1)
    have C2 : (0 : Int) ≤ x 15 - x 14 - 1 := l_cc (a := y_ev x ((-1), [(14, (-1)), (15, 1)])) (by show ((-1) : Int) + ((-1) * x 14 + ((1) * x 15 + 0)) = x 15 - x 14 - 1; omega) (h.2.1.2.2.1)
    have C3 : (0 : Int) ≤ x 11 - 30 := l_cc (a := y_ev x ((-30), [(11, 1)])) (by show ((-30) : Int) + ((1) * x 11 + 0) = x 11 - 30; omega) (h.2.1.2.2.2.1)
    have E0 : y_ev x (0, [(0, 1)]) = x 0 := (l_e1 _ _)
    have E1 : y_ev x (0, [(1, 1)]) = x 1 := (l_e1 _ _)
    have E2 : y_ev x (12, []) = 12 := (l_e0 _ _)
    have E3 : y_ev x (0, [(13, 1)]) = x 13 := (l_e1 _ _)
    have E4 : y_ev x (0, []) = 0 := (l_e0 _ _)
    have E5 : y_ev x (0, [(3, 1)]) = x 3 := (l_e1 _ _)
    have E6 : y_ev x (0, [(4, 1)]) = x 4 := (l_e1 _ _)
    have E7 : y_ev x (0, [(5, 1)]) = x 5 := (l_e1 _ _)
    have E8 : y_ev x (0, [(6, 1)]) = x 6 := (l_e1 _ _)
    have E9 : y_ev x (0, [(14, 1)]) = x 14 := (l_e1 _ _)
    have E10 : y_ev x (0, [(2, 1)]) = x 2 := (l_e1 _ _)
    have E11 : y_ev x (0, [(7, 1)]) = x 7 := (l_e1 _ _)
    have E12 : y_ev x (0, [(8, 1)]) = x 8 := (l_e1 _ _)
    have E13 : y_ev x (0, [(9, 1)]) = x 9 := (l_e1 _ _)
    have E14 : y_ev x (0, [(10, 1)]) = x 10 := (l_e1 _ _)
    have E15 : y_ev x (0, [(15, 1)]) = x 15 := (l_e1 _ _)
    have E16 : y_ev x (0, [(11, 1)]) = x 11 := (l_e1 _ _)
    have E17 : y_ev x (0, [(12, 1)]) = x 12 := (l_e1 _ _)
    have T0 : 0 ≤ (y_ev x (0, [(1, 1)])) ∧ (y_ev x (0, [(13, 1)])) = a_nu (t_b v) (y_ev x (0, [(0, 1)])) (y_ev x (0, [(1, 1)])).toNat (y_ev x (12, [])) := h.2.2.2.1
    (try rw [E0] at T0); (try rw [E1] at T0); (try rw [E2] at T0); (try rw [E3] at T0)
    have T1 : q_run2 (t_b v) (y_ev x (0, [(0, 1)])) (y_ev x (0, [(1, 1)])) (y_ev x (0, [])) (y_ev x (0, [])) (y_ev x (0, [])) (y_ev x (0, [(3, 1)])) (y_ev x (0, [(4, 1)])) (y_ev x (0, [(5, 1)])) (y_ev x (0, [(6, 1)])) (y_ev x (0, [(14, 1)])) := h.2.2.2.2.1
    (try rw [E0] at T1); (try rw [E1] at T1); (try rw [E4] at T1); (try rw [E5] at T1); (try rw [E6] at T1); (try rw [E7] at T1); (try rw [E8] at T1); (try rw [E9] at T1)
    have T2 : q_run2 (t_b v) (y_ev x (0, [(0, 1)])) (y_ev x (0, [(2, 1)])) (y_ev x (0, [])) (y_ev x (0, [])) (y_ev x (0, [])) (y_ev x (0, [(7, 1)])) (y_ev x (0, [(8, 1)])) (y_ev x (0, [(9, 1)])) (y_ev x (0, [(10, 1)])) (y_ev x (0, [(15, 1)])) := h.2.2.2.2.2.1
    (try rw [E0] at T2); (try rw [E10] at T2); (try rw [E4] at T2); (try rw [E11] at T2); (try rw [E12] at T2); (try rw [E13] at T2); (try rw [E14] at T2); (try rw [E15] at T2)
    have T3 : 0 ≤ (y_ev x (0, [(1, 1)])) ∧ 0 ≤ (y_ev x (0, [(11, 1)])) ∧ (y_ev x (0, [(11, 1)])) ≤ 41 ∧ t_km (y_ev x (0, [(11, 1)])) = tk (t_b v) (y_ev x (0, [(0, 1)])) (y_ev x (0, [(1, 1)])).toNat ∧ (y_ev x (0, [(12, 1)])) = t_s (t_b v) (y_ev x (0, [(0, 1)])) (y_ev x (0, [(1, 1)])).toNat := h.2.2.2.2.2.2.1
    (try rw [E0] at T3); (try rw [E1] at T3); (try rw [E16] at T3); (try rw [E17] at T3)
    have K := k_mnumMb_12 (V := v) (n := x 0) (c := x 1) (d := x 2) (H := x 3) (L := x 4) (W := x 5) (P := x 6) (H2 := x 7) (L2 := x 8) (W2 := x 9) (P2 := x 10) (u := x 11) (s := x 12) (w := x 13) (S := x 14) (S2 := x 15) T0 T1 T2 T3 C0 C1 C2 C3
    refine l_outH rfl (And.intro h.1 ?_)
    have O0 : y_ev x (0, [(0, 1)]) = x 0 := l_e1 _ _
    have O1 : y_ev x (0, [(2, 1)]) = x 2 := l_e1 _ _
    have O2 : y_ev x (12, []) = 12 := l_e0 _ _
    have O3 : y_ev x (0, [(13, 1)]) = x 13 := l_e1 _ _
    show (True) ∧ ((0 ≤ (y_ev x (0, [(2, 1)])) ∧ (y_ev x (0, [(13, 1)])) = a_nu (t_b v) (y_ev x (0, [(0, 1)])) (y_ev x (0, [(2, 1)])).toNat (y_ev x (12, []))) ∧ True)
    (try rw [O0]); (try rw [O1]); (try rw [O2]); (try rw [O3])
    exact K
def lm_558 : zLem := (([((-2147483648), 2147483647), ((-2147483648), 2147483647), ((-2147483648), 2147483647), ((-2147483648), 2147483647), ((-2147483648), 2147483647), ((-2147483648), 2147483647), ((-2147483648), 2147483647), ((-2147483648), 2147483647), ((-2147483648), 2147483647)], [(12, false)], [], [], [], [(0, (false, 11, 0, []), 0, 0, 0, [(1, 1)])], [(86, [(0, [(0, 1)]), (0, [(1, 1)]), (12, []), (0, [(7, 1)])]), (40, [(0, [(0, 1)]), (0, [(1, 1)]), (0, []), (0, []), (0, []), (0, [(2, 1)]), (0, [(3, 1)]), (0, [(4, 1)]), (0, [(5, 1)]), (0, [(8, 1)])]), (59, [(0, [(0, 1)]), (0, [(1, 1)]), (0, []), (0, [(6, 1)])])]), [([((-2147483648), 2147483647), ((-2147483648), 2147483647), ((-2147483648), 2147483647), ((-2147483648), 2147483647), ((-2147483648), 2147483647), ((-2147483648), 2147483647), ((-2147483648), 2147483647), ((-2147483648), 2147483647), ((-2147483648), 2147483647)], [(12, false)], [], [], [], [], [(87, [(0, [(0, 1)]), (12, []), (0, [(7, 1)])])])])
theorem lk_558 : l_core lm_558 := by
  first
  | skip
    intro v x h
    have K := k_mfnm_12 (V := v) (n := x 0) (c := x 1) (H := x 2) (L := x 3) (W := x 4) (P := x 5) (z := x 6) (w := x 7) (S := x 8) (l_c4 (fun w0 w1 w2 w3 : Int => 0 ≤ w1 ∧ w3 = a_nu (t_b v) w0 w1.toNat w2) (l_e1 x 0) (l_e1 x 1) (l_e0 x (12)) (l_e1 x 7) (h.2.2.2.1)) (l_c8 (fun w0 w1 w2 w3 w4 w5 w6 w7 : Int => q_run2 (t_b v) w0 w1 w2 w2 w2 w3 w4 w5 w6 w7) (l_e1 x 0) (l_e1 x 1) (l_e0 x (0)) (l_e1 x 2) (l_e1 x 3) (l_e1 x 4) (l_e1 x 5) (l_e1 x 8) (h.2.2.2.2.1)) (l_c4 (fun w0 w1 w2 w3 : Int => 0 ≤ w1 ∧ 0 ≤ w2 ∧ w2 ≤ 41 ∧ t_km w2 = tk (t_b v) w0 w1.toNat ∧ w3 = t_s (t_b v) w0 w1.toNat) (l_e1 x 0) (l_e1 x 1) (l_e0 x (0)) (l_e1 x 6) (h.2.2.2.2.2.1))
    refine l_outH rfl (And.intro h.1 ?_)
    exact l_o3 (fun w0 w1 w2 : Int => (True) ∧ ((∃ c : Nat, q_end (t_b v) w0 c ∧ w2 = a_nu (t_b v) w0 c w1) ∧ True)) (l_e1 x 0) (l_e0 x (12)) (l_e1 x 7) K
  | skip
    intro v x h
    have E0 : y_ev x (0, [(0, 1)]) = x 0 := (l_e1 _ _)
    have E1 : y_ev x (0, [(1, 1)]) = x 1 := (l_e1 _ _)
    have E2 : y_ev x (12, []) = 12 := (l_e0 _ _)
    have E3 : y_ev x (0, [(7, 1)]) = x 7 := (l_e1 _ _)
    have E4 : y_ev x (0, []) = 0 := (l_e0 _ _)
    have E5 : y_ev x (0, [(2, 1)]) = x 2 := (l_e1 _ _)
    have E6 : y_ev x (0, [(3, 1)]) = x 3 := (l_e1 _ _)
    have E7 : y_ev x (0, [(4, 1)]) = x 4 := (l_e1 _ _)
    have E8 : y_ev x (0, [(5, 1)]) = x 5 := (l_e1 _ _)
    have E9 : y_ev x (0, [(8, 1)]) = x 8 := (l_e1 _ _)
    have E10 : y_ev x (0, [(6, 1)]) = x 6 := (l_e1 _ _)
    have T0 : 0 ≤ (y_ev x (0, [(1, 1)])) ∧ (y_ev x (0, [(7, 1)])) = a_nu (t_b v) (y_ev x (0, [(0, 1)])) (y_ev x (0, [(1, 1)])).toNat (y_ev x (12, [])) := h.2.2.2.1
    (try rw [E0] at T0); (try rw [E1] at T0); (try rw [E2] at T0); (try rw [E3] at T0)
    have T1 : q_run2 (t_b v) (y_ev x (0, [(0, 1)])) (y_ev x (0, [(1, 1)])) (y_ev x (0, [])) (y_ev x (0, [])) (y_ev x (0, [])) (y_ev x (0, [(2, 1)])) (y_ev x (0, [(3, 1)])) (y_ev x (0, [(4, 1)])) (y_ev x (0, [(5, 1)])) (y_ev x (0, [(8, 1)])) := h.2.2.2.2.1
    (try rw [E0] at T1); (try rw [E1] at T1); (try rw [E4] at T1); (try rw [E5] at T1); (try rw [E6] at T1); (try rw [E7] at T1); (try rw [E8] at T1); (try rw [E9] at T1)
    have T2 : 0 ≤ (y_ev x (0, [(1, 1)])) ∧ 0 ≤ (y_ev x (0, [])) ∧ (y_ev x (0, [])) ≤ 41 ∧ t_km (y_ev x (0, [])) = tk (t_b v) (y_ev x (0, [(0, 1)])) (y_ev x (0, [(1, 1)])).toNat ∧ (y_ev x (0, [(6, 1)])) = t_s (t_b v) (y_ev x (0, [(0, 1)])) (y_ev x (0, [(1, 1)])).toNat := h.2.2.2.2.2.1
    (try rw [E0] at T2); (try rw [E1] at T2); (try rw [E4] at T2); (try rw [E10] at T2)
    have K := k_mfnm_12 (V := v) (n := x 0) (c := x 1) (H := x 2) (L := x 3) (W := x 4) (P := x 5) (z := x 6) (w := x 7) (S := x 8) T0 T1 T2
    refine l_outH rfl (And.intro h.1 ?_)
    have O0 : y_ev x (0, [(0, 1)]) = x 0 := l_e1 _ _
    have O1 : y_ev x (12, []) = 12 := l_e0 _ _
    have O2 : y_ev x (0, [(7, 1)]) = x 7 := l_e1 _ _
    show (True) ∧ ((∃ c : Nat, q_end (t_b v) (y_ev x (0, [(0, 1)])) c ∧ (y_ev x (0, [(7, 1)])) = a_nu (t_b v) (y_ev x (0, [(0, 1)])) c (y_ev x (12, []))) ∧ True)
    (try rw [O0]); (try rw [O1]); (try rw [O2])
    exact K
end
