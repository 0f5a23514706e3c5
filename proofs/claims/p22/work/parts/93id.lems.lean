noncomputable section
/-! ===== the lemmas as data, by program ===== -/
def lm_215 : zLem := (([((-2147483648), 2147483647)], [], [], [], [(0, 0, 0, [(0, 1)])], [], []), [([((-2147483648), 2147483647)], [], [], [], [], [], [(26, [(0, [(0, 1)]), (0, [(0, 1)]), (0, [])])])])
theorem lk_215 : l_core lm_215 := by
  first
  | skip
    intro v x h
    have K := k_p27_0 (V := v) (a := x 0) 
    refine l_outH rfl (And.intro h.1 ?_)
    exact l_o2 (fun w0 w1 : Int => (True) ∧ ((w0 ≤ w0 ∧ w1 = t_num (t_b v) 27 96 w0 (min (w0 - w0) 8).toNat) ∧ True)) (l_e1 x 0) (l_e0 x (0)) K
  | skip
    intro v x h
    have K := k_p27_0 (V := v) (a := x 0) 
    refine l_outH rfl (And.intro h.1 ?_)
    have O0 : y_ev x (0, [(0, 1)]) = x 0 := l_e1 _ _
    have O1 : y_ev x (0, []) = 0 := l_e0 _ _
    show (True) ∧ (((y_ev x (0, [(0, 1)])) ≤ (y_ev x (0, [(0, 1)])) ∧ (y_ev x (0, [])) = t_num (t_b v) 27 96 (y_ev x (0, [(0, 1)])) (min ((y_ev x (0, [(0, 1)])) - (y_ev x (0, [(0, 1)]))) 8).toNat) ∧ True)
    (try rw [O0]); (try rw [O1])
    exact K
def lm_216 : zLem := (([((-2147483648), 2147483647), ((-2147483648), 2147483647), ((-2147483648), 2147483647), ((-9223372036854775808), 9223372036854775807)], [], [(7, [(2, (-1))])], [], [(0, 0, 0, [(1, 1)]), (0, 0, 0, [(2, 1)])], [], [(26, [(0, [(1, 1)]), (0, [(1, 1), (2, 1)]), (0, [(3, 1)])]), (22, [(1, []), (0, [(0, 1)]), (0, [(1, 1)]), (0, [(1, 1), (2, 1)])])]), [([((-2147483648), 2147483647), ((-2147483648), 2147483647), ((-2147483648), 2147483647), ((-9223372036854775808), 9223372036854775807)], [], [(0, [(3, 1)]), (10460353202, [(3, (-1))])], [], [], [], [])])
theorem lk_216 : l_core lm_216 := by
  first
  | skip
    intro v x h
    have K := k_p27_b (V := v) (n := x 0) (i := x 1) (k := x 2) (v := x 3) (l_c3 (fun w0 w1 w2 : Int => w0 ≤ w1 ∧ w2 = t_num (t_b v) 27 96 w0 (min (w1 - w0) 8).toNat) (l_e1 x 1) (l_q12 x 1 2) (l_e1 x 3) (h.2.2.2.1)) (l_c4 (fun w0 w1 w2 w3 : Int => q_runs (t_b v) w0 w1 w2 w3) (l_e0 x (1)) (l_e1 x 0) (l_e1 x 1) (l_q12 x 1 2) (h.2.2.2.2.1)) (l_cc (l_q1 7 x 2) (h.2.1.1))
    refine l_outH rfl (And.intro h.1 ?_)
    exact l_o2 (fun w0 w1 : Int => (0 ≤ w0 ∧ 0 ≤ w1 ∧ True) ∧ (True)) (l_e1 x 3) (l_q1 10460353202 x 3) K
  | skip
    intro v x h
    have C0 : (0 : Int) ≤ 7 - x 2 := l_cc (a := y_ev x (7, [(2, (-1))])) (by show ((7) : Int) + ((-1) * x 2 + 0) = 7 - x 2; omega) (h.2.1.1)
    have E0 : y_ev x (0, [(1, 1)]) = x 1 := (l_e1 _ _)
    have E1 : y_ev x (0, [(1, 1), (2, 1)]) = x 1 + x 2 := (by show ((0) : Int) + ((1) * x 1 + ((1) * x 2 + 0)) = x 1 + x 2; omega)
    have E2 : y_ev x (0, [(3, 1)]) = x 3 := (l_e1 _ _)
    have E3 : y_ev x (1, []) = 1 := (l_e0 _ _)
    have E4 : y_ev x (0, [(0, 1)]) = x 0 := (l_e1 _ _)
    have T0 : (y_ev x (0, [(1, 1)])) ≤ (y_ev x (0, [(1, 1), (2, 1)])) ∧ (y_ev x (0, [(3, 1)])) = t_num (t_b v) 27 96 (y_ev x (0, [(1, 1)])) (min ((y_ev x (0, [(1, 1), (2, 1)])) - (y_ev x (0, [(1, 1)]))) 8).toNat := h.2.2.2.1
    (try rw [E0] at T0); (try rw [E1] at T0); (try rw [E2] at T0)
    have T1 : q_runs (t_b v) (y_ev x (1, [])) (y_ev x (0, [(0, 1)])) (y_ev x (0, [(1, 1)])) (y_ev x (0, [(1, 1), (2, 1)])) := h.2.2.2.2.1
    (try rw [E3] at T1); (try rw [E4] at T1); (try rw [E0] at T1); (try rw [E1] at T1)
    have K := k_p27_b (V := v) (n := x 0) (i := x 1) (k := x 2) (v := x 3) T0 T1 C0
    refine l_outH rfl (And.intro h.1 ?_)
    have O0 : y_ev x (0, [(3, 1)]) = x 3 := l_e1 _ _
    have O1 : y_ev x (10460353202, [(3, (-1))]) = 10460353202 - x 3 := by show ((10460353202) : Int) + ((-1) * x 3 + 0) = _; omega
    show (0 ≤ y_ev x (0, [(3, 1)]) ∧ 0 ≤ y_ev x (10460353202, [(3, (-1))]) ∧ True) ∧ (True)
    (try rw [O0]); (try rw [O1])
    exact K
def lm_217 : zLem := (([((-2147483648), 2147483647), ((-2147483648), 2147483647), ((-9223372036854775808), 9223372036854775807), ((-9223372036854775808), 9223372036854775807), ((-2147483648), 2147483647)], [], [(7, [(1, (-1))]), (96, [(2, (-27)), (3, 1), (4, (-1))]), ((-96), [(2, 27), (3, (-1)), (4, 1)])], [], [(0, 0, 0, [(0, 1)]), (0, 0, 0, [(1, 1)]), (1, 0, 0, [(3, 1)])], [], [(26, [(0, [(0, 1)]), (0, [(0, 1), (1, 1)]), (0, [(2, 1)])]), (20, [(0, [(0, 1), (1, 1)]), (0, [(4, 1)])])]), [([((-2147483648), 2147483647), ((-2147483648), 2147483647), ((-9223372036854775808), 9223372036854775807), ((-9223372036854775808), 9223372036854775807), ((-2147483648), 2147483647)], [], [], [], [], [], [(26, [(0, [(0, 1)]), (1, [(0, 1), (1, 1)]), (0, [(3, 1)])])])])
theorem lk_217 : l_core lm_217 := by
  first
  | skip
    intro v x h
    have K := k_p27_s (V := v) (i := x 0) (k := x 1) (v := x 2) (w := x 3) (b := x 4) (l_c3 (fun w0 w1 w2 : Int => w0 ≤ w1 ∧ w2 = t_num (t_b v) 27 96 w0 (min (w1 - w0) 8).toNat) (l_e1 x 0) (l_q12 x 0 1) (l_e1 x 2) (h.2.2.2.1)) (l_c2 (fun w0 w1 : Int => t_b v w0 = w1) (l_q12 x 0 1) (l_e1 x 4) (h.2.2.2.2.1)) (l_cc (l_q1 7 x 1) (h.2.1.1)) (l_cc (show y_ev x (96, [(2, (-27)), (3, 1), (4, (-1))]) = x 3 - 27 * x 2 - x 4 + 96 by show ((96) : Int) + ((-27) * x 2 + ((1) * x 3 + ((-1) * x 4 + 0))) = _; omega) (h.2.1.2.1)) (l_cc (show y_ev x ((-96), [(2, 27), (3, (-1)), (4, 1)]) = 27 * x 2 + x 4 - x 3 - 96 by show ((-96) : Int) + ((27) * x 2 + ((-1) * x 3 + ((1) * x 4 + 0))) = _; omega) (h.2.1.2.2.1))
    refine l_outH rfl (And.intro h.1 ?_)
    exact l_o3 (fun w0 w1 w2 : Int => (True) ∧ ((w0 ≤ w1 ∧ w2 = t_num (t_b v) 27 96 w0 (min (w1 - w0) 8).toNat) ∧ True)) (l_e1 x 0) (show y_ev x (1, [(0, 1), (1, 1)]) = x 0 + x 1 + 1 by show ((1) : Int) + ((1) * x 0 + ((1) * x 1 + 0)) = _; omega) (l_e1 x 3) K
  | skip
    intro v x h
    have C0 : (0 : Int) ≤ 7 - x 1 := l_cc (a := y_ev x (7, [(1, (-1))])) (by show ((7) : Int) + ((-1) * x 1 + 0) = 7 - x 1; omega) (h.2.1.1)
    have C1 : (0 : Int) ≤ x 3 - 27 * x 2 - x 4 + 96 := l_cc (a := y_ev x (96, [(2, (-27)), (3, 1), (4, (-1))])) (by show ((96) : Int) + ((-27) * x 2 + ((1) * x 3 + ((-1) * x 4 + 0))) = x 3 - 27 * x 2 - x 4 + 96; omega) (h.2.1.2.1)
    have C2 : (0 : Int) ≤ 27 * x 2 + x 4 - x 3 - 96 := l_cc (a := y_ev x ((-96), [(2, 27), (3, (-1)), (4, 1)])) (by show ((-96) : Int) + ((27) * x 2 + ((-1) * x 3 + ((1) * x 4 + 0))) = 27 * x 2 + x 4 - x 3 - 96; omega) (h.2.1.2.2.1)
    have E0 : y_ev x (0, [(0, 1)]) = x 0 := (l_e1 _ _)
    have E1 : y_ev x (0, [(0, 1), (1, 1)]) = x 0 + x 1 := (by show ((0) : Int) + ((1) * x 0 + ((1) * x 1 + 0)) = x 0 + x 1; omega)
    have E2 : y_ev x (0, [(2, 1)]) = x 2 := (l_e1 _ _)
    have E3 : y_ev x (0, [(4, 1)]) = x 4 := (l_e1 _ _)
    have T0 : (y_ev x (0, [(0, 1)])) ≤ (y_ev x (0, [(0, 1), (1, 1)])) ∧ (y_ev x (0, [(2, 1)])) = t_num (t_b v) 27 96 (y_ev x (0, [(0, 1)])) (min ((y_ev x (0, [(0, 1), (1, 1)])) - (y_ev x (0, [(0, 1)]))) 8).toNat := h.2.2.2.1
    (try rw [E0] at T0); (try rw [E1] at T0); (try rw [E2] at T0)
    have T1 : t_b v (y_ev x (0, [(0, 1), (1, 1)])) = (y_ev x (0, [(4, 1)])) := h.2.2.2.2.1
    (try rw [E1] at T1); (try rw [E3] at T1)
    have K := k_p27_s (V := v) (i := x 0) (k := x 1) (v := x 2) (w := x 3) (b := x 4) T0 T1 C0 C1 C2
    refine l_outH rfl (And.intro h.1 ?_)
    have O0 : y_ev x (0, [(0, 1)]) = x 0 := l_e1 _ _
    have O1 : y_ev x (1, [(0, 1), (1, 1)]) = x 0 + x 1 + 1 := by show ((1) : Int) + ((1) * x 0 + ((1) * x 1 + 0)) = _; omega
    have O2 : y_ev x (0, [(3, 1)]) = x 3 := l_e1 _ _
    show (True) ∧ (((y_ev x (0, [(0, 1)])) ≤ (y_ev x (1, [(0, 1), (1, 1)])) ∧ (y_ev x (0, [(3, 1)])) = t_num (t_b v) 27 96 (y_ev x (0, [(0, 1)])) (min ((y_ev x (1, [(0, 1), (1, 1)])) - (y_ev x (0, [(0, 1)]))) 8).toNat) ∧ True)
    (try rw [O0]); (try rw [O1]); (try rw [O2])
    exact K
def lm_218 : zLem := (([((-2147483648), 2147483647), ((-2147483648), 2147483647), ((-9223372036854775808), 9223372036854775807)], [], [((-8), [(1, 1)])], [], [(0, 0, 0, [(0, 1)]), (0, 0, 0, [(1, 1)]), (1, 0, 0, [(2, 1)])], [], [(26, [(0, [(0, 1)]), (0, [(0, 1), (1, 1)]), (0, [(2, 1)])])]), [([((-2147483648), 2147483647), ((-2147483648), 2147483647), ((-9223372036854775808), 9223372036854775807)], [], [], [], [], [], [(26, [(0, [(0, 1)]), (1, [(0, 1), (1, 1)]), (0, [(2, 1)])])])])
theorem lk_218 : l_core lm_218 := by
  first
  | skip
    intro v x h
    have K := k_p27_x (V := v) (i := x 0) (k := x 1) (v := x 2) (l_c3 (fun w0 w1 w2 : Int => w0 ≤ w1 ∧ w2 = t_num (t_b v) 27 96 w0 (min (w1 - w0) 8).toNat) (l_e1 x 0) (l_q12 x 0 1) (l_e1 x 2) (h.2.2.2.1)) (l_cc (l_q2 8 x 1) (h.2.1.1))
    refine l_outH rfl (And.intro h.1 ?_)
    exact l_o3 (fun w0 w1 w2 : Int => (True) ∧ ((w0 ≤ w1 ∧ w2 = t_num (t_b v) 27 96 w0 (min (w1 - w0) 8).toNat) ∧ True)) (l_e1 x 0) (show y_ev x (1, [(0, 1), (1, 1)]) = x 0 + x 1 + 1 by show ((1) : Int) + ((1) * x 0 + ((1) * x 1 + 0)) = _; omega) (l_e1 x 2) K
  | skip
    intro v x h
    have C0 : (0 : Int) ≤ x 1 - 8 := l_cc (a := y_ev x ((-8), [(1, 1)])) (by show ((-8) : Int) + ((1) * x 1 + 0) = x 1 - 8; omega) (h.2.1.1)
    have E0 : y_ev x (0, [(0, 1)]) = x 0 := (l_e1 _ _)
    have E1 : y_ev x (0, [(0, 1), (1, 1)]) = x 0 + x 1 := (by show ((0) : Int) + ((1) * x 0 + ((1) * x 1 + 0)) = x 0 + x 1; omega)
    have E2 : y_ev x (0, [(2, 1)]) = x 2 := (l_e1 _ _)
    have T0 : (y_ev x (0, [(0, 1)])) ≤ (y_ev x (0, [(0, 1), (1, 1)])) ∧ (y_ev x (0, [(2, 1)])) = t_num (t_b v) 27 96 (y_ev x (0, [(0, 1)])) (min ((y_ev x (0, [(0, 1), (1, 1)])) - (y_ev x (0, [(0, 1)]))) 8).toNat := h.2.2.2.1
    (try rw [E0] at T0); (try rw [E1] at T0); (try rw [E2] at T0)
    have K := k_p27_x (V := v) (i := x 0) (k := x 1) (v := x 2) T0 C0
    refine l_outH rfl (And.intro h.1 ?_)
    have O0 : y_ev x (0, [(0, 1)]) = x 0 := l_e1 _ _
    have O1 : y_ev x (1, [(0, 1), (1, 1)]) = x 0 + x 1 + 1 := by show ((1) : Int) + ((1) * x 0 + ((1) * x 1 + 0)) = _; omega
    have O2 : y_ev x (0, [(2, 1)]) = x 2 := l_e1 _ _
    show (True) ∧ (((y_ev x (0, [(0, 1)])) ≤ (y_ev x (1, [(0, 1), (1, 1)])) ∧ (y_ev x (0, [(2, 1)])) = t_num (t_b v) 27 96 (y_ev x (0, [(0, 1)])) (min ((y_ev x (1, [(0, 1), (1, 1)])) - (y_ev x (0, [(0, 1)]))) 8).toNat) ∧ True)
    (try rw [O0]); (try rw [O1]); (try rw [O2])
    exact K
def lm_219 : zLem := (([((-2147483648), 2147483647)], [], [], [], [(0, 0, 0, [(0, 1)])], [], []), [([((-2147483648), 2147483647)], [], [], [], [], [], [(24, [(0, [(0, 1)]), (0, [(0, 1)]), (0, [])])])])
theorem lk_219 : l_core lm_219 := by
  first
  | skip
    intro v x h
    have K := k_dec_0 (V := v) (a := x 0) 
    refine l_outH rfl (And.intro h.1 ?_)
    exact l_o2 (fun w0 w1 : Int => (True) ∧ ((w0 ≤ w0 ∧ (w0 - w0 ≤ 4 → w1 = t_num (t_b v) 10 48 w0 (w0 - w0).toNat)) ∧ True)) (l_e1 x 0) (l_e0 x (0)) K
  | skip
    intro v x h
    have K := k_dec_0 (V := v) (a := x 0) 
    refine l_outH rfl (And.intro h.1 ?_)
    have O0 : y_ev x (0, [(0, 1)]) = x 0 := l_e1 _ _
    have O1 : y_ev x (0, []) = 0 := l_e0 _ _
    show (True) ∧ (((y_ev x (0, [(0, 1)])) ≤ (y_ev x (0, [(0, 1)])) ∧ ((y_ev x (0, [(0, 1)])) - (y_ev x (0, [(0, 1)])) ≤ 4 → (y_ev x (0, [])) = t_num (t_b v) 10 48 (y_ev x (0, [(0, 1)])) ((y_ev x (0, [(0, 1)])) - (y_ev x (0, [(0, 1)]))).toNat)) ∧ True)
    (try rw [O0]); (try rw [O1])
    exact K
def lm_220 : zLem := (([((-2147483648), 2147483647), ((-2147483648), 2147483647), ((-2147483648), 2147483647), ((-2147483648), 2147483647)], [], [(3, [(2, (-1))])], [], [(0, 0, 0, [(1, 1)]), (0, 0, 0, [(2, 1)])], [], [(24, [(0, [(1, 1)]), (0, [(1, 1), (2, 1)]), (0, [(3, 1)])]), (22, [(2, []), (0, [(0, 1)]), (0, [(1, 1)]), (0, [(1, 1), (2, 1)])])]), [([((-2147483648), 2147483647), ((-2147483648), 2147483647), ((-2147483648), 2147483647), ((-2147483648), 2147483647)], [], [(0, [(3, 1)]), (999, [(3, (-1))])], [], [], [], [])])
theorem lk_220 : l_core lm_220 := by
  first
  | skip
    intro v x h
    have K := k_mdec_b (V := v) (n := x 0) (i := x 1) (k := x 2) (v := x 3) (l_c3 (fun w0 w1 w2 : Int => w0 ≤ w1 ∧ (w1 - w0 ≤ 4 → w2 = t_num (t_b v) 10 48 w0 (w1 - w0).toNat)) (l_e1 x 1) (l_q12 x 1 2) (l_e1 x 3) (h.2.2.2.1)) (l_c4 (fun w0 w1 w2 w3 : Int => q_runs (t_b v) w0 w1 w2 w3) (l_e0 x (2)) (l_e1 x 0) (l_e1 x 1) (l_q12 x 1 2) (h.2.2.2.2.1)) (l_cc (l_q1 3 x 2) (h.2.1.1))
    refine l_outH rfl (And.intro h.1 ?_)
    exact l_o2 (fun w0 w1 : Int => (0 ≤ w0 ∧ 0 ≤ w1 ∧ True) ∧ (True)) (l_e1 x 3) (l_q1 999 x 3) K
  | skip
    intro v x h
    have C0 : (0 : Int) ≤ 3 - x 2 := l_cc (a := y_ev x (3, [(2, (-1))])) (by show ((3) : Int) + ((-1) * x 2 + 0) = 3 - x 2; omega) (h.2.1.1)
    have E0 : y_ev x (0, [(1, 1)]) = x 1 := (l_e1 _ _)
    have E1 : y_ev x (0, [(1, 1), (2, 1)]) = x 1 + x 2 := (by show ((0) : Int) + ((1) * x 1 + ((1) * x 2 + 0)) = x 1 + x 2; omega)
    have E2 : y_ev x (0, [(3, 1)]) = x 3 := (l_e1 _ _)
    have E3 : y_ev x (2, []) = 2 := (l_e0 _ _)
    have E4 : y_ev x (0, [(0, 1)]) = x 0 := (l_e1 _ _)
    have T0 : (y_ev x (0, [(1, 1)])) ≤ (y_ev x (0, [(1, 1), (2, 1)])) ∧ ((y_ev x (0, [(1, 1), (2, 1)])) - (y_ev x (0, [(1, 1)])) ≤ 4 → (y_ev x (0, [(3, 1)])) = t_num (t_b v) 10 48 (y_ev x (0, [(1, 1)])) ((y_ev x (0, [(1, 1), (2, 1)])) - (y_ev x (0, [(1, 1)]))).toNat) := h.2.2.2.1
    (try rw [E0] at T0); (try rw [E1] at T0); (try rw [E2] at T0)
    have T1 : q_runs (t_b v) (y_ev x (2, [])) (y_ev x (0, [(0, 1)])) (y_ev x (0, [(1, 1)])) (y_ev x (0, [(1, 1), (2, 1)])) := h.2.2.2.2.1
    (try rw [E3] at T1); (try rw [E4] at T1); (try rw [E0] at T1); (try rw [E1] at T1)
    have K := k_mdec_b (V := v) (n := x 0) (i := x 1) (k := x 2) (v := x 3) T0 T1 C0
    refine l_outH rfl (And.intro h.1 ?_)
    have O0 : y_ev x (0, [(3, 1)]) = x 3 := l_e1 _ _
    have O1 : y_ev x (999, [(3, (-1))]) = 999 - x 3 := by show ((999) : Int) + ((-1) * x 3 + 0) = _; omega
    show (0 ≤ y_ev x (0, [(3, 1)]) ∧ 0 ≤ y_ev x (999, [(3, (-1))]) ∧ True) ∧ (True)
    (try rw [O0]); (try rw [O1])
    exact K
def lm_221 : zLem := (([((-2147483648), 2147483647), ((-2147483648), 2147483647), ((-2147483648), 2147483647), ((-2147483648), 2147483647), ((-2147483648), 2147483647)], [], [(3, [(1, (-1))]), (48, [(2, (-10)), (3, 1), (4, (-1))]), ((-48), [(2, 10), (3, (-1)), (4, 1)])], [], [(0, 0, 0, [(0, 1)]), (0, 0, 0, [(1, 1)]), (0, 0, 0, [(3, 1)])], [], [(24, [(0, [(0, 1)]), (0, [(0, 1), (1, 1)]), (0, [(2, 1)])]), (20, [(0, [(0, 1), (1, 1)]), (0, [(4, 1)])])]), [([((-2147483648), 2147483647), ((-2147483648), 2147483647), ((-2147483648), 2147483647), ((-2147483648), 2147483647), ((-2147483648), 2147483647)], [], [], [], [], [], [(24, [(0, [(0, 1)]), (1, [(0, 1), (1, 1)]), (0, [(3, 1)])])])])
theorem lk_221 : l_core lm_221 := by
  first
  | skip
    intro v x h
    have K := k_mdec_s (V := v) (i := x 0) (k := x 1) (v := x 2) (w := x 3) (b := x 4) (l_c3 (fun w0 w1 w2 : Int => w0 ≤ w1 ∧ (w1 - w0 ≤ 4 → w2 = t_num (t_b v) 10 48 w0 (w1 - w0).toNat)) (l_e1 x 0) (l_q12 x 0 1) (l_e1 x 2) (h.2.2.2.1)) (l_c2 (fun w0 w1 : Int => t_b v w0 = w1) (l_q12 x 0 1) (l_e1 x 4) (h.2.2.2.2.1)) (l_cc (l_q1 3 x 1) (h.2.1.1)) (l_cc (show y_ev x (48, [(2, (-10)), (3, 1), (4, (-1))]) = x 3 - 10 * x 2 - x 4 + 48 by show ((48) : Int) + ((-10) * x 2 + ((1) * x 3 + ((-1) * x 4 + 0))) = _; omega) (h.2.1.2.1)) (l_cc (show y_ev x ((-48), [(2, 10), (3, (-1)), (4, 1)]) = 10 * x 2 + x 4 - x 3 - 48 by show ((-48) : Int) + ((10) * x 2 + ((-1) * x 3 + ((1) * x 4 + 0))) = _; omega) (h.2.1.2.2.1))
    refine l_outH rfl (And.intro h.1 ?_)
    exact l_o3 (fun w0 w1 w2 : Int => (True) ∧ ((w0 ≤ w1 ∧ (w1 - w0 ≤ 4 → w2 = t_num (t_b v) 10 48 w0 (w1 - w0).toNat)) ∧ True)) (l_e1 x 0) (show y_ev x (1, [(0, 1), (1, 1)]) = x 0 + x 1 + 1 by show ((1) : Int) + ((1) * x 0 + ((1) * x 1 + 0)) = _; omega) (l_e1 x 3) K
  | skip
    intro v x h
    have C0 : (0 : Int) ≤ 3 - x 1 := l_cc (a := y_ev x (3, [(1, (-1))])) (by show ((3) : Int) + ((-1) * x 1 + 0) = 3 - x 1; omega) (h.2.1.1)
    have C1 : (0 : Int) ≤ x 3 - 10 * x 2 - x 4 + 48 := l_cc (a := y_ev x (48, [(2, (-10)), (3, 1), (4, (-1))])) (by show ((48) : Int) + ((-10) * x 2 + ((1) * x 3 + ((-1) * x 4 + 0))) = x 3 - 10 * x 2 - x 4 + 48; omega) (h.2.1.2.1)
    have C2 : (0 : Int) ≤ 10 * x 2 + x 4 - x 3 - 48 := l_cc (a := y_ev x ((-48), [(2, 10), (3, (-1)), (4, 1)])) (by show ((-48) : Int) + ((10) * x 2 + ((-1) * x 3 + ((1) * x 4 + 0))) = 10 * x 2 + x 4 - x 3 - 48; omega) (h.2.1.2.2.1)
    have E0 : y_ev x (0, [(0, 1)]) = x 0 := (l_e1 _ _)
    have E1 : y_ev x (0, [(0, 1), (1, 1)]) = x 0 + x 1 := (by show ((0) : Int) + ((1) * x 0 + ((1) * x 1 + 0)) = x 0 + x 1; omega)
    have E2 : y_ev x (0, [(2, 1)]) = x 2 := (l_e1 _ _)
    have E3 : y_ev x (0, [(4, 1)]) = x 4 := (l_e1 _ _)
    have T0 : (y_ev x (0, [(0, 1)])) ≤ (y_ev x (0, [(0, 1), (1, 1)])) ∧ ((y_ev x (0, [(0, 1), (1, 1)])) - (y_ev x (0, [(0, 1)])) ≤ 4 → (y_ev x (0, [(2, 1)])) = t_num (t_b v) 10 48 (y_ev x (0, [(0, 1)])) ((y_ev x (0, [(0, 1), (1, 1)])) - (y_ev x (0, [(0, 1)]))).toNat) := h.2.2.2.1
    (try rw [E0] at T0); (try rw [E1] at T0); (try rw [E2] at T0)
    have T1 : t_b v (y_ev x (0, [(0, 1), (1, 1)])) = (y_ev x (0, [(4, 1)])) := h.2.2.2.2.1
    (try rw [E1] at T1); (try rw [E3] at T1)
    have K := k_mdec_s (V := v) (i := x 0) (k := x 1) (v := x 2) (w := x 3) (b := x 4) T0 T1 C0 C1 C2
    refine l_outH rfl (And.intro h.1 ?_)
    have O0 : y_ev x (0, [(0, 1)]) = x 0 := l_e1 _ _
    have O1 : y_ev x (1, [(0, 1), (1, 1)]) = x 0 + x 1 + 1 := by show ((1) : Int) + ((1) * x 0 + ((1) * x 1 + 0)) = _; omega
    have O2 : y_ev x (0, [(3, 1)]) = x 3 := l_e1 _ _
    show (True) ∧ (((y_ev x (0, [(0, 1)])) ≤ (y_ev x (1, [(0, 1), (1, 1)])) ∧ ((y_ev x (1, [(0, 1), (1, 1)])) - (y_ev x (0, [(0, 1)])) ≤ 4 → (y_ev x (0, [(3, 1)])) = t_num (t_b v) 10 48 (y_ev x (0, [(0, 1)])) ((y_ev x (1, [(0, 1), (1, 1)])) - (y_ev x (0, [(0, 1)]))).toNat)) ∧ True)
    (try rw [O0]); (try rw [O1]); (try rw [O2])
    exact K
def lm_222 : zLem := (([((-2147483648), 2147483647), ((-2147483648), 2147483647), ((-2147483648), 2147483647)], [], [((-4), [(1, 1)])], [], [(0, 0, 0, [(0, 1)]), (0, 0, 0, [(1, 1)]), (0, 0, 0, [(2, 1)])], [], [(24, [(0, [(0, 1)]), (0, [(0, 1), (1, 1)]), (0, [(2, 1)])])]), [([((-2147483648), 2147483647), ((-2147483648), 2147483647), ((-2147483648), 2147483647)], [], [], [], [], [], [(24, [(0, [(0, 1)]), (1, [(0, 1), (1, 1)]), (0, [(2, 1)])])])])
theorem lk_222 : l_core lm_222 := by
  first
  | skip
    intro v x h
    have K := k_mdec_x (V := v) (i := x 0) (k := x 1) (v := x 2) (l_c3 (fun w0 w1 w2 : Int => w0 ≤ w1 ∧ (w1 - w0 ≤ 4 → w2 = t_num (t_b v) 10 48 w0 (w1 - w0).toNat)) (l_e1 x 0) (l_q12 x 0 1) (l_e1 x 2) (h.2.2.2.1)) (l_cc (l_q2 4 x 1) (h.2.1.1))
    refine l_outH rfl (And.intro h.1 ?_)
    exact l_o3 (fun w0 w1 w2 : Int => (True) ∧ ((w0 ≤ w1 ∧ (w1 - w0 ≤ 4 → w2 = t_num (t_b v) 10 48 w0 (w1 - w0).toNat)) ∧ True)) (l_e1 x 0) (show y_ev x (1, [(0, 1), (1, 1)]) = x 0 + x 1 + 1 by show ((1) : Int) + ((1) * x 0 + ((1) * x 1 + 0)) = _; omega) (l_e1 x 2) K
  | skip
    intro v x h
    have C0 : (0 : Int) ≤ x 1 - 4 := l_cc (a := y_ev x ((-4), [(1, 1)])) (by show ((-4) : Int) + ((1) * x 1 + 0) = x 1 - 4; omega) (h.2.1.1)
    have E0 : y_ev x (0, [(0, 1)]) = x 0 := (l_e1 _ _)
    have E1 : y_ev x (0, [(0, 1), (1, 1)]) = x 0 + x 1 := (by show ((0) : Int) + ((1) * x 0 + ((1) * x 1 + 0)) = x 0 + x 1; omega)
    have E2 : y_ev x (0, [(2, 1)]) = x 2 := (l_e1 _ _)
    have T0 : (y_ev x (0, [(0, 1)])) ≤ (y_ev x (0, [(0, 1), (1, 1)])) ∧ ((y_ev x (0, [(0, 1), (1, 1)])) - (y_ev x (0, [(0, 1)])) ≤ 4 → (y_ev x (0, [(2, 1)])) = t_num (t_b v) 10 48 (y_ev x (0, [(0, 1)])) ((y_ev x (0, [(0, 1), (1, 1)])) - (y_ev x (0, [(0, 1)]))).toNat) := h.2.2.2.1
    (try rw [E0] at T0); (try rw [E1] at T0); (try rw [E2] at T0)
    have K := k_mdec_x (V := v) (i := x 0) (k := x 1) (v := x 2) T0 C0
    refine l_outH rfl (And.intro h.1 ?_)
    have O0 : y_ev x (0, [(0, 1)]) = x 0 := l_e1 _ _
    have O1 : y_ev x (1, [(0, 1), (1, 1)]) = x 0 + x 1 + 1 := by show ((1) : Int) + ((1) * x 0 + ((1) * x 1 + 0)) = _; omega
    have O2 : y_ev x (0, [(2, 1)]) = x 2 := l_e1 _ _
    show (True) ∧ (((y_ev x (0, [(0, 1)])) ≤ (y_ev x (1, [(0, 1), (1, 1)])) ∧ ((y_ev x (1, [(0, 1), (1, 1)])) - (y_ev x (0, [(0, 1)])) ≤ 4 → (y_ev x (0, [(2, 1)])) = t_num (t_b v) 10 48 (y_ev x (0, [(0, 1)])) ((y_ev x (1, [(0, 1), (1, 1)])) - (y_ev x (0, [(0, 1)]))).toNat)) ∧ True)
    (try rw [O0]); (try rw [O1]); (try rw [O2])
    exact K
def lm_223 : zLem := (([((-2147483648), 2147483647)], [], [], [], [(0, 0, 0, [(0, 1)])], [], []), [([((-2147483648), 2147483647)], [], [(7, [(0, (-1))])], [], [], [], []), ([((-2147483648), 2147483647)], [], [((-8), [(0, 1)])], [], [], [], [])])
theorem lk_223 : l_core lm_223 := by
  first
  | skip
    intro v x h
    have K := k_split_k8 (V := v) (k := x 0) 
    rcases K with K | K
    · refine l_outH rfl (And.intro h.1 ?_)
      exact l_o1 (fun w0 : Int => (0 ≤ w0 ∧ True) ∧ (True)) (l_q1 7 x 0) K
    · refine l_outT ?_
      refine l_outH rfl (And.intro h.1 ?_)
      exact l_o1 (fun w0 : Int => (0 ≤ w0 ∧ True) ∧ (True)) (l_q2 8 x 0) K
  | skip
    intro v x h
    have K := k_split_k8 (V := v) (k := x 0) 
    rcases K with K | K
    · refine l_outH rfl (And.intro h.1 ?_)
      have O0 : y_ev x (7, [(0, (-1))]) = 7 - x 0 := by show ((7) : Int) + ((-1) * x 0 + 0) = _; omega
      show (0 ≤ y_ev x (7, [(0, (-1))]) ∧ True) ∧ (True)
      (try rw [O0])
      exact K
    · refine l_outT ?_
      refine l_outH rfl (And.intro h.1 ?_)
      have O0 : y_ev x ((-8), [(0, 1)]) = x 0 - 8 := by show ((-8) : Int) + ((1) * x 0 + 0) = _; omega
      show (0 ≤ y_ev x ((-8), [(0, 1)]) ∧ True) ∧ (True)
      (try rw [O0])
      exact K
def lm_224 : zLem := (([((-2147483648), 2147483647)], [], [], [], [(0, 0, 0, [(0, 1)])], [], []), [([((-2147483648), 2147483647)], [], [(3, [(0, (-1))])], [], [], [], []), ([((-2147483648), 2147483647)], [], [((-4), [(0, 1)])], [], [], [], [])])
theorem lk_224 : l_core lm_224 := by
  first
  | skip
    intro v x h
    have K := k_split_k4 (V := v) (k := x 0) 
    rcases K with K | K
    · refine l_outH rfl (And.intro h.1 ?_)
      exact l_o1 (fun w0 : Int => (0 ≤ w0 ∧ True) ∧ (True)) (l_q1 3 x 0) K
    · refine l_outT ?_
      refine l_outH rfl (And.intro h.1 ?_)
      exact l_o1 (fun w0 : Int => (0 ≤ w0 ∧ True) ∧ (True)) (l_q2 4 x 0) K
  | skip
    intro v x h
    have K := k_split_k4 (V := v) (k := x 0) 
    rcases K with K | K
    · refine l_outH rfl (And.intro h.1 ?_)
      have O0 : y_ev x (3, [(0, (-1))]) = 3 - x 0 := by show ((3) : Int) + ((-1) * x 0 + 0) = _; omega
      show (0 ≤ y_ev x (3, [(0, (-1))]) ∧ True) ∧ (True)
      (try rw [O0])
      exact K
    · refine l_outT ?_
      refine l_outH rfl (And.intro h.1 ?_)
      have O0 : y_ev x ((-4), [(0, 1)]) = x 0 - 4 := by show ((-4) : Int) + ((1) * x 0 + 0) = _; omega
      show (0 ≤ y_ev x ((-4), [(0, 1)]) ∧ True) ∧ (True)
      (try rw [O0])
      exact K
def lm_225 : zLem := (([((-9223372036854775808), 9223372036854775807)], [], [], [], [(1, 0, 0, [(0, 1)])], [], []), [([((-9223372036854775808), 9223372036854775807)], [], [], [], [], [], [(60, [(0, [(0, 1)]), (0, []), (1, [])])])])
theorem lk_225 : l_core lm_225 := by
  first
  | skip
    intro v x h
    have K := k_kws0 (V := v) (v := x 0) 
    refine l_outH rfl (And.intro h.1 ?_)
    exact l_o3 (fun w0 w1 w2 : Int => (True) ∧ ((0 ≤ w1 ∧ w2 = t_kw w0 w1.toNat ∧ w1 ≤ 22) ∧ True)) (l_e1 x 0) (l_e0 x (0)) (l_e0 x (1)) K
  | skip
    intro v x h
    have K := k_kws0 (V := v) (v := x 0) 
    refine l_outH rfl (And.intro h.1 ?_)
    have O0 : y_ev x (0, [(0, 1)]) = x 0 := l_e1 _ _
    have O1 : y_ev x (0, []) = 0 := l_e0 _ _
    have O2 : y_ev x (1, []) = 1 := l_e0 _ _
    show (True) ∧ ((0 ≤ (y_ev x (0, [])) ∧ (y_ev x (1, [])) = t_kw (y_ev x (0, [(0, 1)])) (y_ev x (0, [])).toNat ∧ (y_ev x (0, [])) ≤ 22) ∧ True)
    (try rw [O0]); (try rw [O1]); (try rw [O2])
    exact K
def lm_226 : zLem := (([((-9223372036854775808), 9223372036854775807), ((-2147483648), 2147483647), ((-9223372036854775808), 9223372036854775807), ((-2147483648), 2147483647), ((-2147483648), 2147483647)], [(54, false)], [(0, [(0, (-1)), (2, 1)]), (0, [(0, 1), (2, (-1))]), ((-20), [(1, (-1)), (3, 1)]), (20, [(1, 1), (3, (-1))])], [], [(1, 0, 0, [(0, 1)]), (0, 0, 0, [(1, 1)]), (0, 0, 0, [(3, 1)])], [(0, (true, 0, 0, [(1, 1)]), 1, 0, 0, [(2, 1)])], [(55, []), (60, [(0, [(0, 1)]), (0, [(1, 1)]), (0, [(4, 1)])])]), [([((-9223372036854775808), 9223372036854775807), ((-2147483648), 2147483647), ((-9223372036854775808), 9223372036854775807), ((-2147483648), 2147483647), ((-2147483648), 2147483647)], [(54, false)], [], [], [], [], [(60, [(0, [(0, 1)]), (1, [(1, 1)]), (0, [(3, 1)])])])])
theorem lk_226 : l_core lm_226 := by
  first
  | skip
    intro v x h
    have G0 := h.2.2.1
    have K := k_kwsE (V := v) (v := x 0) (k := x 1) (u := x 2) (w := x 3) (x := x 4) (h.2.2.2.1) (l_c3 (fun w0 w1 w2 : Int => 0 ≤ w1 ∧ w2 = t_kw w0 w1.toNat ∧ w1 ≤ 22) (l_e1 x 0) (l_e1 x 1) (l_e1 x 4) (h.2.2.2.2.1)) (l_cc (l_q4 x 0 2) (h.2.1.1)) (l_cc (l_q5 x 0 2) (h.2.1.2.1)) (l_cc (l_q6 20 x 1 3) (h.2.1.2.2.1)) (l_cc (l_q13 20 x 1 3) (h.2.1.2.2.2.1)) (l_ff (f := v 54) (L := j_len 54) (l_e1 x 1) (l_e1 x 2) (G0.1.1))
    refine l_outH rfl (And.intro h.1 ?_)
    exact l_o3 (fun w0 w1 w2 : Int => (True) ∧ ((0 ≤ w1 ∧ w2 = t_kw w0 w1.toNat ∧ w1 ≤ 22) ∧ True)) (l_e1 x 0) (l_q3 1 x 1) (l_e1 x 3) K
  | skip
    intro v x h
    have G0 := h.2.2.1
    have C0 : (0 : Int) ≤ x 2 - x 0 := l_cc (a := y_ev x (0, [(0, (-1)), (2, 1)])) (by show ((0) : Int) + ((-1) * x 0 + ((1) * x 2 + 0)) = x 2 - x 0; omega) (h.2.1.1)
    have C1 : (0 : Int) ≤ x 0 - x 2 := l_cc (a := y_ev x (0, [(0, 1), (2, (-1))])) (by show ((0) : Int) + ((1) * x 0 + ((-1) * x 2 + 0)) = x 0 - x 2; omega) (h.2.1.2.1)
    have C2 : (0 : Int) ≤ x 3 - x 1 - 20 := l_cc (a := y_ev x ((-20), [(1, (-1)), (3, 1)])) (by show ((-20) : Int) + ((-1) * x 1 + ((1) * x 3 + 0)) = x 3 - x 1 - 20; omega) (h.2.1.2.2.1)
    have C3 : (0 : Int) ≤ x 1 - x 3 + 20 := l_cc (a := y_ev x (20, [(1, 1), (3, (-1))])) (by show ((20) : Int) + ((1) * x 1 + ((-1) * x 3 + 0)) = x 1 - x 3 + 20; omega) (h.2.1.2.2.2.1)
    have F0 : (0 : Int) ≤ x 1 ∧ (x 1 : Int) < j_len 54 ∧ v 54 (x 1) = x 2 := l_ff (f := v 54) (L := j_len 54) (a := y_ev x (0, [(1, 1)])) (b := y_ev x (0, [(2, 1)])) (l_e1 _ _) (l_e1 _ _) (G0.1.1)
    have E0 : y_ev x (0, [(0, 1)]) = x 0 := (l_e1 _ _)
    have E1 : y_ev x (0, [(1, 1)]) = x 1 := (l_e1 _ _)
    have E2 : y_ev x (0, [(4, 1)]) = x 4 := (l_e1 _ _)
    have T0 : ∀ k_ : Nat, k_ < 22 → v 54 k_ = t_key k_ := h.2.2.2.1
    have T1 : 0 ≤ (y_ev x (0, [(1, 1)])) ∧ (y_ev x (0, [(4, 1)])) = t_kw (y_ev x (0, [(0, 1)])) (y_ev x (0, [(1, 1)])).toNat ∧ (y_ev x (0, [(1, 1)])) ≤ 22 := h.2.2.2.2.1
    (try rw [E0] at T1); (try rw [E1] at T1); (try rw [E2] at T1)
    have K := k_kwsE (V := v) (v := x 0) (k := x 1) (u := x 2) (w := x 3) (x := x 4) T0 T1 C0 C1 C2 C3 F0
    refine l_outH rfl (And.intro h.1 ?_)
    have O0 : y_ev x (0, [(0, 1)]) = x 0 := l_e1 _ _
    have O1 : y_ev x (1, [(1, 1)]) = x 1 + 1 := by show ((1) : Int) + ((1) * x 1 + 0) = _; omega
    have O2 : y_ev x (0, [(3, 1)]) = x 3 := l_e1 _ _
    show (True) ∧ ((0 ≤ (y_ev x (1, [(1, 1)])) ∧ (y_ev x (0, [(3, 1)])) = t_kw (y_ev x (0, [(0, 1)])) (y_ev x (1, [(1, 1)])).toNat ∧ (y_ev x (1, [(1, 1)])) ≤ 22) ∧ True)
    (try rw [O0]); (try rw [O1]); (try rw [O2])
    exact K
def lm_227 : zLem := (([((-9223372036854775808), 9223372036854775807), ((-2147483648), 2147483647), ((-9223372036854775808), 9223372036854775807), ((-2147483648), 2147483647)], [(54, false)], [((-1), [(0, (-1)), (2, 1)])], [], [(1, 0, 0, [(0, 1)]), (0, 0, 0, [(1, 1)]), (0, 0, 0, [(3, 1)])], [(0, (true, 0, 0, [(1, 1)]), 1, 0, 0, [(2, 1)])], [(55, []), (60, [(0, [(0, 1)]), (0, [(1, 1)]), (0, [(3, 1)])])]), [([((-9223372036854775808), 9223372036854775807), ((-2147483648), 2147483647), ((-9223372036854775808), 9223372036854775807), ((-2147483648), 2147483647)], [(54, false)], [], [], [], [], [(60, [(0, [(0, 1)]), (1, [(1, 1)]), (0, [(3, 1)])])])])
theorem lk_227 : l_core lm_227 := by
  first
  | skip
    intro v x h
    have G0 := h.2.2.1
    have K := k_kwsN1 (V := v) (v := x 0) (k := x 1) (u := x 2) (w := x 3) (h.2.2.2.1) (l_c3 (fun w0 w1 w2 : Int => 0 ≤ w1 ∧ w2 = t_kw w0 w1.toNat ∧ w1 ≤ 22) (l_e1 x 0) (l_e1 x 1) (l_e1 x 3) (h.2.2.2.2.1)) (l_cc (l_q6 1 x 0 2) (h.2.1.1)) (l_ff (f := v 54) (L := j_len 54) (l_e1 x 1) (l_e1 x 2) (G0.1.1))
    refine l_outH rfl (And.intro h.1 ?_)
    exact l_o3 (fun w0 w1 w2 : Int => (True) ∧ ((0 ≤ w1 ∧ w2 = t_kw w0 w1.toNat ∧ w1 ≤ 22) ∧ True)) (l_e1 x 0) (l_q3 1 x 1) (l_e1 x 3) K
  | skip
    intro v x h
    have G0 := h.2.2.1
    have C0 : (0 : Int) ≤ x 2 - x 0 - 1 := l_cc (a := y_ev x ((-1), [(0, (-1)), (2, 1)])) (by show ((-1) : Int) + ((-1) * x 0 + ((1) * x 2 + 0)) = x 2 - x 0 - 1; omega) (h.2.1.1)
    have F0 : (0 : Int) ≤ x 1 ∧ (x 1 : Int) < j_len 54 ∧ v 54 (x 1) = x 2 := l_ff (f := v 54) (L := j_len 54) (a := y_ev x (0, [(1, 1)])) (b := y_ev x (0, [(2, 1)])) (l_e1 _ _) (l_e1 _ _) (G0.1.1)
    have E0 : y_ev x (0, [(0, 1)]) = x 0 := (l_e1 _ _)
    have E1 : y_ev x (0, [(1, 1)]) = x 1 := (l_e1 _ _)
    have E2 : y_ev x (0, [(3, 1)]) = x 3 := (l_e1 _ _)
    have T0 : ∀ k_ : Nat, k_ < 22 → v 54 k_ = t_key k_ := h.2.2.2.1
    have T1 : 0 ≤ (y_ev x (0, [(1, 1)])) ∧ (y_ev x (0, [(3, 1)])) = t_kw (y_ev x (0, [(0, 1)])) (y_ev x (0, [(1, 1)])).toNat ∧ (y_ev x (0, [(1, 1)])) ≤ 22 := h.2.2.2.2.1
    (try rw [E0] at T1); (try rw [E1] at T1); (try rw [E2] at T1)
    have K := k_kwsN1 (V := v) (v := x 0) (k := x 1) (u := x 2) (w := x 3) T0 T1 C0 F0
    refine l_outH rfl (And.intro h.1 ?_)
    have O0 : y_ev x (0, [(0, 1)]) = x 0 := l_e1 _ _
    have O1 : y_ev x (1, [(1, 1)]) = x 1 + 1 := by show ((1) : Int) + ((1) * x 1 + 0) = _; omega
    have O2 : y_ev x (0, [(3, 1)]) = x 3 := l_e1 _ _
    show (True) ∧ ((0 ≤ (y_ev x (1, [(1, 1)])) ∧ (y_ev x (0, [(3, 1)])) = t_kw (y_ev x (0, [(0, 1)])) (y_ev x (1, [(1, 1)])).toNat ∧ (y_ev x (1, [(1, 1)])) ≤ 22) ∧ True)
    (try rw [O0]); (try rw [O1]); (try rw [O2])
    exact K
def lm_228 : zLem := (([((-9223372036854775808), 9223372036854775807), ((-2147483648), 2147483647), ((-9223372036854775808), 9223372036854775807), ((-2147483648), 2147483647)], [(54, false)], [((-1), [(0, 1), (2, (-1))])], [], [(1, 0, 0, [(0, 1)]), (0, 0, 0, [(1, 1)]), (0, 0, 0, [(3, 1)])], [(0, (true, 0, 0, [(1, 1)]), 1, 0, 0, [(2, 1)])], [(55, []), (60, [(0, [(0, 1)]), (0, [(1, 1)]), (0, [(3, 1)])])]), [([((-9223372036854775808), 9223372036854775807), ((-2147483648), 2147483647), ((-9223372036854775808), 9223372036854775807), ((-2147483648), 2147483647)], [(54, false)], [], [], [], [], [(60, [(0, [(0, 1)]), (1, [(1, 1)]), (0, [(3, 1)])])])])
theorem lk_228 : l_core lm_228 := by
  first
  | skip
    intro v x h
    have G0 := h.2.2.1
    have K := k_kwsN2 (V := v) (v := x 0) (k := x 1) (u := x 2) (w := x 3) (h.2.2.2.1) (l_c3 (fun w0 w1 w2 : Int => 0 ≤ w1 ∧ w2 = t_kw w0 w1.toNat ∧ w1 ≤ 22) (l_e1 x 0) (l_e1 x 1) (l_e1 x 3) (h.2.2.2.2.1)) (l_cc (l_q8 1 x 0 2) (h.2.1.1)) (l_ff (f := v 54) (L := j_len 54) (l_e1 x 1) (l_e1 x 2) (G0.1.1))
    refine l_outH rfl (And.intro h.1 ?_)
    exact l_o3 (fun w0 w1 w2 : Int => (True) ∧ ((0 ≤ w1 ∧ w2 = t_kw w0 w1.toNat ∧ w1 ≤ 22) ∧ True)) (l_e1 x 0) (l_q3 1 x 1) (l_e1 x 3) K
  | skip
    intro v x h
    have G0 := h.2.2.1
    have C0 : (0 : Int) ≤ x 0 - x 2 - 1 := l_cc (a := y_ev x ((-1), [(0, 1), (2, (-1))])) (by show ((-1) : Int) + ((1) * x 0 + ((-1) * x 2 + 0)) = x 0 - x 2 - 1; omega) (h.2.1.1)
    have F0 : (0 : Int) ≤ x 1 ∧ (x 1 : Int) < j_len 54 ∧ v 54 (x 1) = x 2 := l_ff (f := v 54) (L := j_len 54) (a := y_ev x (0, [(1, 1)])) (b := y_ev x (0, [(2, 1)])) (l_e1 _ _) (l_e1 _ _) (G0.1.1)
    have E0 : y_ev x (0, [(0, 1)]) = x 0 := (l_e1 _ _)
    have E1 : y_ev x (0, [(1, 1)]) = x 1 := (l_e1 _ _)
    have E2 : y_ev x (0, [(3, 1)]) = x 3 := (l_e1 _ _)
    have T0 : ∀ k_ : Nat, k_ < 22 → v 54 k_ = t_key k_ := h.2.2.2.1
    have T1 : 0 ≤ (y_ev x (0, [(1, 1)])) ∧ (y_ev x (0, [(3, 1)])) = t_kw (y_ev x (0, [(0, 1)])) (y_ev x (0, [(1, 1)])).toNat ∧ (y_ev x (0, [(1, 1)])) ≤ 22 := h.2.2.2.2.1
    (try rw [E0] at T1); (try rw [E1] at T1); (try rw [E2] at T1)
    have K := k_kwsN2 (V := v) (v := x 0) (k := x 1) (u := x 2) (w := x 3) T0 T1 C0 F0
    refine l_outH rfl (And.intro h.1 ?_)
    have O0 : y_ev x (0, [(0, 1)]) = x 0 := l_e1 _ _
    have O1 : y_ev x (1, [(1, 1)]) = x 1 + 1 := by show ((1) : Int) + ((1) * x 1 + 0) = _; omega
    have O2 : y_ev x (0, [(3, 1)]) = x 3 := l_e1 _ _
    show (True) ∧ ((0 ≤ (y_ev x (1, [(1, 1)])) ∧ (y_ev x (0, [(3, 1)])) = t_kw (y_ev x (0, [(0, 1)])) (y_ev x (1, [(1, 1)])).toNat ∧ (y_ev x (1, [(1, 1)])) ≤ 22) ∧ True)
    (try rw [O0]); (try rw [O1]); (try rw [O2])
    exact K
def lm_230 : zLem := (([((-2147483648), 2147483647), ((-2147483648), 2147483647), ((-2147483648), 2147483647)], [], [], [], [(0, 0, 0, [(0, 1)])], [], [(21, [(1, []), (0, [(1, 1)]), (1, [])]), (20, [(0, [(0, 1)]), (0, [(1, 1)])]), (21, [(1, []), (0, [(2, 1)]), (0, [])]), (20, [(0, [(0, 1)]), (0, [(2, 1)])])]), [])
theorem lk_230 : l_core lm_230 := by
  first
  | skip
    intro v x h
    have K := k_mX1 (V := v) (i := x 0) (c := x 1) (b := x 2) (l_c2 (fun w0 w1 : Int => t_cl w0 w1 = w0) (l_e0 x (1)) (l_e1 x 1) (h.2.2.2.1)) (l_c2 (fun w0 w1 : Int => t_b v w0 = w1) (l_e1 x 0) (l_e1 x 1) (h.2.2.2.2.1)) (l_c3 (fun w0 w1 w2 : Int => t_cl w0 w1 = w2) (l_e0 x (1)) (l_e1 x 2) (l_e0 x (0)) (h.2.2.2.2.2.1)) (l_c2 (fun w0 w1 : Int => t_b v w0 = w1) (l_e1 x 0) (l_e1 x 2) (h.2.2.2.2.2.2.1))
    exact K.elim
  | skip
    intro v x h
    have E0 : y_ev x (1, []) = 1 := (l_e0 _ _)
    have E1 : y_ev x (0, [(1, 1)]) = x 1 := (l_e1 _ _)
    have E2 : y_ev x (0, [(0, 1)]) = x 0 := (l_e1 _ _)
    have E3 : y_ev x (0, [(2, 1)]) = x 2 := (l_e1 _ _)
    have E4 : y_ev x (0, []) = 0 := (l_e0 _ _)
    have T0 : t_cl (y_ev x (1, [])) (y_ev x (0, [(1, 1)])) = (y_ev x (1, [])) := h.2.2.2.1
    (try rw [E0] at T0); (try rw [E1] at T0)
    have T1 : t_b v (y_ev x (0, [(0, 1)])) = (y_ev x (0, [(1, 1)])) := h.2.2.2.2.1
    (try rw [E2] at T1); (try rw [E1] at T1)
    have T2 : t_cl (y_ev x (1, [])) (y_ev x (0, [(2, 1)])) = (y_ev x (0, [])) := h.2.2.2.2.2.1
    (try rw [E0] at T2); (try rw [E3] at T2); (try rw [E4] at T2)
    have T3 : t_b v (y_ev x (0, [(0, 1)])) = (y_ev x (0, [(2, 1)])) := h.2.2.2.2.2.2.1
    (try rw [E2] at T3); (try rw [E3] at T3)
    have K := k_mX1 (V := v) (i := x 0) (c := x 1) (b := x 2) T0 T1 T2 T3
    exact K.elim
def lm_231 : zLem := (([((-2147483648), 2147483647), ((-2147483648), 2147483647), ((-2147483648), 2147483647)], [], [], [], [(0, 0, 0, [(0, 1)])], [], [(21, [(2, []), (0, [(1, 1)]), (1, [])]), (20, [(0, [(0, 1)]), (0, [(1, 1)])]), (21, [(2, []), (0, [(2, 1)]), (0, [])]), (20, [(0, [(0, 1)]), (0, [(2, 1)])])]), [])
theorem lk_231 : l_core lm_231 := by
  first
  | skip
    intro v x h
    have K := k_mX2 (V := v) (i := x 0) (c := x 1) (b := x 2) (l_c3 (fun w0 w1 w2 : Int => t_cl w0 w1 = w2) (l_e0 x (2)) (l_e1 x 1) (l_e0 x (1)) (h.2.2.2.1)) (l_c2 (fun w0 w1 : Int => t_b v w0 = w1) (l_e1 x 0) (l_e1 x 1) (h.2.2.2.2.1)) (l_c3 (fun w0 w1 w2 : Int => t_cl w0 w1 = w2) (l_e0 x (2)) (l_e1 x 2) (l_e0 x (0)) (h.2.2.2.2.2.1)) (l_c2 (fun w0 w1 : Int => t_b v w0 = w1) (l_e1 x 0) (l_e1 x 2) (h.2.2.2.2.2.2.1))
    exact K.elim
  | skip
    intro v x h
    have E0 : y_ev x (2, []) = 2 := (l_e0 _ _)
    have E1 : y_ev x (0, [(1, 1)]) = x 1 := (l_e1 _ _)
    have E2 : y_ev x (1, []) = 1 := (l_e0 _ _)
    have E3 : y_ev x (0, [(0, 1)]) = x 0 := (l_e1 _ _)
    have E4 : y_ev x (0, [(2, 1)]) = x 2 := (l_e1 _ _)
    have E5 : y_ev x (0, []) = 0 := (l_e0 _ _)
    have T0 : t_cl (y_ev x (2, [])) (y_ev x (0, [(1, 1)])) = (y_ev x (1, [])) := h.2.2.2.1
    (try rw [E0] at T0); (try rw [E1] at T0); (try rw [E2] at T0)
    have T1 : t_b v (y_ev x (0, [(0, 1)])) = (y_ev x (0, [(1, 1)])) := h.2.2.2.2.1
    (try rw [E3] at T1); (try rw [E1] at T1)
    have T2 : t_cl (y_ev x (2, [])) (y_ev x (0, [(2, 1)])) = (y_ev x (0, [])) := h.2.2.2.2.2.1
    (try rw [E0] at T2); (try rw [E4] at T2); (try rw [E5] at T2)
    have T3 : t_b v (y_ev x (0, [(0, 1)])) = (y_ev x (0, [(2, 1)])) := h.2.2.2.2.2.2.1
    (try rw [E3] at T3); (try rw [E4] at T3)
    have K := k_mX2 (V := v) (i := x 0) (c := x 1) (b := x 2) T0 T1 T2 T3
    exact K.elim
def lm_232 : zLem := (([((-2147483648), 2147483647), ((-2147483648), 2147483647), ((-2147483648), 2147483647), ((-2147483648), 2147483647)], [], [], [], [(0, 0, 0, [(0, 1)]), (0, 0, 0, [(1, 1)]), (0, 0, 0, [(3, 1)])], [], [(21, [(2, []), (0, [(2, 1)]), (1, [])]), (20, [(0, [(0, 1), (1, 1)]), (0, [(2, 1)])]), (20, [(0, [(0, 1), (1, 1)]), (0, [(3, 1)])])]), [([((-2147483648), 2147483647), ((-2147483648), 2147483647), ((-2147483648), 2147483647), ((-2147483648), 2147483647)], [], [((-48), [(3, 1)]), (57, [(3, (-1))])], [], [], [], [])])
theorem lk_232 : l_core lm_232 := by
  first
  | skip
    intro v x h
    have K := k_mdig (V := v) (i := x 0) (k := x 1) (b := x 2) (w := x 3) (l_c3 (fun w0 w1 w2 : Int => t_cl w0 w1 = w2) (l_e0 x (2)) (l_e1 x 2) (l_e0 x (1)) (h.2.2.2.1)) (l_c2 (fun w0 w1 : Int => t_b v w0 = w1) (l_q12 x 0 1) (l_e1 x 2) (h.2.2.2.2.1)) (l_c2 (fun w0 w1 : Int => t_b v w0 = w1) (l_q12 x 0 1) (l_e1 x 3) (h.2.2.2.2.2.1))
    refine l_outH rfl (And.intro h.1 ?_)
    exact l_o2 (fun w0 w1 : Int => (0 ≤ w0 ∧ 0 ≤ w1 ∧ True) ∧ (True)) (l_q2 48 x 3) (l_q1 57 x 3) K
  | skip
    intro v x h
    have E0 : y_ev x (2, []) = 2 := (l_e0 _ _)
    have E1 : y_ev x (0, [(2, 1)]) = x 2 := (l_e1 _ _)
    have E2 : y_ev x (1, []) = 1 := (l_e0 _ _)
    have E3 : y_ev x (0, [(0, 1), (1, 1)]) = x 0 + x 1 := (by show ((0) : Int) + ((1) * x 0 + ((1) * x 1 + 0)) = x 0 + x 1; omega)
    have E4 : y_ev x (0, [(3, 1)]) = x 3 := (l_e1 _ _)
    have T0 : t_cl (y_ev x (2, [])) (y_ev x (0, [(2, 1)])) = (y_ev x (1, [])) := h.2.2.2.1
    (try rw [E0] at T0); (try rw [E1] at T0); (try rw [E2] at T0)
    have T1 : t_b v (y_ev x (0, [(0, 1), (1, 1)])) = (y_ev x (0, [(2, 1)])) := h.2.2.2.2.1
    (try rw [E3] at T1); (try rw [E1] at T1)
    have T2 : t_b v (y_ev x (0, [(0, 1), (1, 1)])) = (y_ev x (0, [(3, 1)])) := h.2.2.2.2.2.1
    (try rw [E3] at T2); (try rw [E4] at T2)
    have K := k_mdig (V := v) (i := x 0) (k := x 1) (b := x 2) (w := x 3) T0 T1 T2
    refine l_outH rfl (And.intro h.1 ?_)
    have O0 : y_ev x ((-48), [(3, 1)]) = x 3 - 48 := by show ((-48) : Int) + ((1) * x 3 + 0) = _; omega
    have O1 : y_ev x (57, [(3, (-1))]) = 57 - x 3 := by show ((57) : Int) + ((-1) * x 3 + 0) = _; omega
    show (0 ≤ y_ev x ((-48), [(3, 1)]) ∧ 0 ≤ y_ev x (57, [(3, (-1))]) ∧ True) ∧ (True)
    (try rw [O0]); (try rw [O1])
    exact K
def lm_233 : zLem := (([((-2147483648), 2147483647), ((-2147483648), 2147483647), ((-2147483648), 2147483647), ((-2147483648), 2147483647)], [], [], [], [(0, 0, 0, [(0, 1)]), (0, 0, 0, [(1, 1)]), (0, 0, 0, [(3, 1)])], [], [(21, [(1, []), (0, [(2, 1)]), (1, [])]), (20, [(0, [(0, 1), (1, 1)]), (0, [(2, 1)])]), (20, [(0, [(0, 1), (1, 1)]), (0, [(3, 1)])])]), [([((-2147483648), 2147483647), ((-2147483648), 2147483647), ((-2147483648), 2147483647), ((-2147483648), 2147483647)], [], [((-97), [(3, 1)]), (122, [(3, (-1))])], [], [], [], [])])
theorem lk_233 : l_core lm_233 := by
  first
  | skip
    intro v x h
    have K := k_mlet (V := v) (i := x 0) (k := x 1) (b := x 2) (w := x 3) (l_c2 (fun w0 w1 : Int => t_cl w0 w1 = w0) (l_e0 x (1)) (l_e1 x 2) (h.2.2.2.1)) (l_c2 (fun w0 w1 : Int => t_b v w0 = w1) (l_q12 x 0 1) (l_e1 x 2) (h.2.2.2.2.1)) (l_c2 (fun w0 w1 : Int => t_b v w0 = w1) (l_q12 x 0 1) (l_e1 x 3) (h.2.2.2.2.2.1))
    refine l_outH rfl (And.intro h.1 ?_)
    exact l_o2 (fun w0 w1 : Int => (0 ≤ w0 ∧ 0 ≤ w1 ∧ True) ∧ (True)) (l_q2 97 x 3) (l_q1 122 x 3) K
  | skip
    intro v x h
    have E0 : y_ev x (1, []) = 1 := (l_e0 _ _)
    have E1 : y_ev x (0, [(2, 1)]) = x 2 := (l_e1 _ _)
    have E2 : y_ev x (0, [(0, 1), (1, 1)]) = x 0 + x 1 := (by show ((0) : Int) + ((1) * x 0 + ((1) * x 1 + 0)) = x 0 + x 1; omega)
    have E3 : y_ev x (0, [(3, 1)]) = x 3 := (l_e1 _ _)
    have T0 : t_cl (y_ev x (1, [])) (y_ev x (0, [(2, 1)])) = (y_ev x (1, [])) := h.2.2.2.1
    (try rw [E0] at T0); (try rw [E1] at T0)
    have T1 : t_b v (y_ev x (0, [(0, 1), (1, 1)])) = (y_ev x (0, [(2, 1)])) := h.2.2.2.2.1
    (try rw [E2] at T1); (try rw [E1] at T1)
    have T2 : t_b v (y_ev x (0, [(0, 1), (1, 1)])) = (y_ev x (0, [(3, 1)])) := h.2.2.2.2.2.1
    (try rw [E2] at T2); (try rw [E3] at T2)
    have K := k_mlet (V := v) (i := x 0) (k := x 1) (b := x 2) (w := x 3) T0 T1 T2
    refine l_outH rfl (And.intro h.1 ?_)
    have O0 : y_ev x ((-97), [(3, 1)]) = x 3 - 97 := by show ((-97) : Int) + ((1) * x 3 + 0) = _; omega
    have O1 : y_ev x (122, [(3, (-1))]) = 122 - x 3 := by show ((122) : Int) + ((-1) * x 3 + 0) = _; omega
    show (0 ≤ y_ev x ((-97), [(3, 1)]) ∧ 0 ≤ y_ev x (122, [(3, (-1))]) ∧ True) ∧ (True)
    (try rw [O0]); (try rw [O1])
    exact K
def lm_234 : zLem := (([], [], [], [], [], [], [(21, [(1, []), (0, []), (1, [])])]), [])
theorem lk_234 : l_core lm_234 := by
  first
  | skip
    intro v x h
    have K := k_mZ1 (V := v) (l_c2 (fun w0 w1 : Int => t_cl w0 w1 = w0) (l_e0 x (1)) (l_e0 x (0)) (h.2.2.2.1))
    exact K.elim
  | skip
    intro v x h
    have E0 : y_ev x (1, []) = 1 := (l_e0 _ _)
    have E1 : y_ev x (0, []) = 0 := (l_e0 _ _)
    have T0 : t_cl (y_ev x (1, [])) (y_ev x (0, [])) = (y_ev x (1, [])) := h.2.2.2.1
    (try rw [E0] at T0); (try rw [E1] at T0)
    have K := k_mZ1 (V := v) T0
    exact K.elim
def lm_235 : zLem := (([], [], [], [], [], [], [(21, [(2, []), (0, []), (1, [])])]), [])
theorem lk_235 : l_core lm_235 := by
  first
  | skip
    intro v x h
    have K := k_mZ2 (V := v) (l_c3 (fun w0 w1 w2 : Int => t_cl w0 w1 = w2) (l_e0 x (2)) (l_e0 x (0)) (l_e0 x (1)) (h.2.2.2.1))
    exact K.elim
  | skip
    intro v x h
    have E0 : y_ev x (2, []) = 2 := (l_e0 _ _)
    have E1 : y_ev x (0, []) = 0 := (l_e0 _ _)
    have E2 : y_ev x (1, []) = 1 := (l_e0 _ _)
    have T0 : t_cl (y_ev x (2, [])) (y_ev x (0, [])) = (y_ev x (1, [])) := h.2.2.2.1
    (try rw [E0] at T0); (try rw [E1] at T0); (try rw [E2] at T0)
    have K := k_mZ2 (V := v) T0
    exact K.elim
def lm_236 : zLem := (([((-2147483648), 2147483647)], [(12, false)], [(0, [(0, 1)])], [], [], [(0, (false, 4, 0, []), 0, 0, 0, [(0, 1)])], []), [([((-2147483648), 2147483647)], [(12, false)], [], [], [], [], [(56, [(0, [(0, 1)]), (0, []), (0, [])])])])
theorem lk_236 : l_core lm_236 := by
  first
  | skip
    intro v x h
    have K := k_mcn0 (V := v) (n := x 0) (l_cc (l_e1 x 0) (h.2.1.1))
    refine l_outH rfl (And.intro h.1 ?_)
    exact l_o2 (fun w0 w1 : Int => (True) ∧ ((0 ≤ w0 ∧ 0 ≤ w1 ∧ w1 ≤ w0 ∧ t_e1 (t_b v) 0 w0 w1 = t_s (t_b v) w0 w1.toNat ∧ ∀ j_ : Nat, (j_ : Int) < w1 → q_mr v w0 j_) ∧ True)) (l_e1 x 0) (l_e0 x (0)) K
  | skip
    intro v x h
    have C0 : (0 : Int) ≤ x 0 := l_cc (a := y_ev x (0, [(0, 1)])) (l_e1 _ _) (h.2.1.1)
    have K := k_mcn0 (V := v) (n := x 0) C0
    refine l_outH rfl (And.intro h.1 ?_)
    have O0 : y_ev x (0, [(0, 1)]) = x 0 := l_e1 _ _
    have O1 : y_ev x (0, []) = 0 := l_e0 _ _
    show (True) ∧ ((0 ≤ (y_ev x (0, [(0, 1)])) ∧ 0 ≤ (y_ev x (0, [])) ∧ (y_ev x (0, [])) ≤ (y_ev x (0, [(0, 1)])) ∧ t_e1 (t_b v) 0 (y_ev x (0, [(0, 1)])) (y_ev x (0, [])) = t_s (t_b v) (y_ev x (0, [(0, 1)])) (y_ev x (0, [])).toNat ∧ ∀ j_ : Nat, (j_ : Int) < (y_ev x (0, [])) → q_mr v (y_ev x (0, [(0, 1)])) j_) ∧ True)
    (try rw [O0]); (try rw [O1])
    exact K
def lm_237 : zLem := (([((-2147483648), 2147483647), ((-2147483648), 2147483647), ((-2147483648), 2147483647)], [(12, false)], [((-401), [(1, 1)])], [], [], [(0, (false, 10, 0, []), 0, 0, 0, [(1, 1)])], [(56, [(0, [(0, 1)]), (0, [(1, 1)]), (0, [(2, 1)])])]), [([((-2147483648), 2147483647), ((-2147483648), 2147483647), ((-2147483648), 2147483647)], [(12, false)], [], [], [], [], [(57, [(0, [(0, 1)])])])])
theorem lk_237 : l_core lm_237 := by
  first
  | skip
    intro v x h
    have K := k_mcb2 (V := v) (n := x 0) (kk := x 1) (i := x 2) (l_c3 (fun w0 w1 w2 : Int => 0 ≤ w0 ∧ 0 ≤ w1 ∧ w2 ≤ w0 ∧ t_e1 (t_b v) 0 w0 w2 = t_s (t_b v) w0 w1.toNat ∧ ∀ j_ : Nat, (j_ : Int) < w1 → q_mr v w0 j_) (l_e1 x 0) (l_e1 x 1) (l_e1 x 2) (h.2.2.2.1)) (l_cc (l_q2 401 x 1) (h.2.1.1))
    refine l_outH rfl (And.intro h.1 ?_)
    exact l_o1 (fun w0 : Int => (True) ∧ (q_all (t_b v) w0 (q_mr v w0) ∧ True)) (l_e1 x 0) K
  | skip
    intro v x h
    have C0 : (0 : Int) ≤ x 1 - 401 := l_cc (a := y_ev x ((-401), [(1, 1)])) (by show ((-401) : Int) + ((1) * x 1 + 0) = x 1 - 401; omega) (h.2.1.1)
    have E0 : y_ev x (0, [(0, 1)]) = x 0 := (l_e1 _ _)
    have E1 : y_ev x (0, [(1, 1)]) = x 1 := (l_e1 _ _)
    have E2 : y_ev x (0, [(2, 1)]) = x 2 := (l_e1 _ _)
    have T0 : 0 ≤ (y_ev x (0, [(0, 1)])) ∧ 0 ≤ (y_ev x (0, [(1, 1)])) ∧ (y_ev x (0, [(2, 1)])) ≤ (y_ev x (0, [(0, 1)])) ∧ t_e1 (t_b v) 0 (y_ev x (0, [(0, 1)])) (y_ev x (0, [(2, 1)])) = t_s (t_b v) (y_ev x (0, [(0, 1)])) (y_ev x (0, [(1, 1)])).toNat ∧ ∀ j_ : Nat, (j_ : Int) < (y_ev x (0, [(1, 1)])) → q_mr v (y_ev x (0, [(0, 1)])) j_ := h.2.2.2.1
    (try rw [E0] at T0); (try rw [E1] at T0); (try rw [E2] at T0)
    have K := k_mcb2 (V := v) (n := x 0) (kk := x 1) (i := x 2) T0 C0
    refine l_outH rfl (And.intro h.1 ?_)
    have O0 : y_ev x (0, [(0, 1)]) = x 0 := l_e1 _ _
    show (True) ∧ (q_all (t_b v) (y_ev x (0, [(0, 1)])) (q_mr v (y_ev x (0, [(0, 1)]))) ∧ True)
    (try rw [O0])
    exact K
def lm_262 : zLem := (([((-2147483648), 2147483647), ((-2147483648), 2147483647), ((-2147483648), 2147483647), ((-2147483648), 2147483647), ((-2147483648), 2147483647), ((-2147483648), 2147483647), ((-2147483648), 2147483647), ((-9223372036854775808), 9223372036854775807), ((-2147483648), 2147483647)], [(12, false)], [(400, [(1, (-1))]), (5, [(2, (-1))])], [], [], [(0, (false, 11, 0, []), 0, 0, 0, [(1, 1)])], [(40, [(0, [(0, 1)]), ((-1), [(1, 1)]), (0, []), (0, []), (0, []), (0, [(2, 1)]), (0, [(3, 1)]), (0, [(4, 1)]), (0, [(5, 1)]), (0, [(8, 1)])]), (36, [(0, [(0, 1)]), ((-1), [(1, 1)]), (256, []), (0, [(6, 1)]), (0, [(7, 1)])])]), [([((-2147483648), 2147483647), ((-2147483648), 2147483647), ((-2147483648), 2147483647), ((-2147483648), 2147483647), ((-2147483648), 2147483647), ((-2147483648), 2147483647), ((-2147483648), 2147483647), ((-9223372036854775808), 9223372036854775807), ((-2147483648), 2147483647)], [(12, false)], [], [], [], [], [(40, [(0, [(0, 1)]), (0, [(1, 1)]), (1, []), (0, []), (0, []), (0, [(2, 1)]), (0, [(3, 1)]), (0, [(4, 1)]), (0, [(5, 1)]), (0, [(8, 1)])])])])
theorem lk_262 : l_core lm_262 := by
  first
  | skip
    intro v x h
    have K := k_s_0h (V := v) (n := x 0) (d := x 1) (H := x 2) (L := x 3) (W := x 4) (WP := x 5) (s := x 6) (v := x 7) (S := x 8) (l_c8 (fun w0 w1 w2 w3 w4 w5 w6 w7 : Int => q_run2 (t_b v) w0 w1 w2 w2 w2 w3 w4 w5 w6 w7) (l_e1 x 0) (l_q2 1 x 1) (l_e0 x (0)) (l_e1 x 2) (l_e1 x 3) (l_e1 x 4) (l_e1 x 5) (l_e1 x 8) (h.2.2.2.1)) (l_c5 (fun w0 w1 w2 w3 w4 : Int => q_tok (t_b v) w0 w1 w2 w3 w4) (l_e1 x 0) (l_q2 1 x 1) (l_e0 x (256)) (l_e1 x 6) (l_e1 x 7) (h.2.2.2.2.1)) (l_cc (l_q1 400 x 1) (h.2.1.1)) (l_cc (l_q1 5 x 2) (h.2.1.2.1))
    refine l_outH rfl (And.intro h.1 ?_)
    exact l_o9 (fun w0 w1 w2 w3 w4 w5 w6 w7 w8 : Int => (True) ∧ (q_run2 (t_b v) w0 w1 w2 w3 w3 w4 w5 w6 w7 w8 ∧ True)) (l_e1 x 0) (l_e1 x 1) (l_e0 x (1)) (l_e0 x (0)) (l_e1 x 2) (l_e1 x 3) (l_e1 x 4) (l_e1 x 5) (l_e1 x 8) K
  | skip
    intro v x h
    have C0 : (0 : Int) ≤ 400 - x 1 := l_cc (a := y_ev x (400, [(1, (-1))])) (by show ((400) : Int) + ((-1) * x 1 + 0) = 400 - x 1; omega) (h.2.1.1)
    have C1 : (0 : Int) ≤ 5 - x 2 := l_cc (a := y_ev x (5, [(2, (-1))])) (by show ((5) : Int) + ((-1) * x 2 + 0) = 5 - x 2; omega) (h.2.1.2.1)
    have E0 : y_ev x (0, [(0, 1)]) = x 0 := (l_e1 _ _)
    have E1 : y_ev x ((-1), [(1, 1)]) = x 1 - 1 := (by show ((-1) : Int) + ((1) * x 1 + 0) = x 1 - 1; omega)
    have E2 : y_ev x (0, []) = 0 := (l_e0 _ _)
    have E3 : y_ev x (0, [(2, 1)]) = x 2 := (l_e1 _ _)
    have E4 : y_ev x (0, [(3, 1)]) = x 3 := (l_e1 _ _)
    have E5 : y_ev x (0, [(4, 1)]) = x 4 := (l_e1 _ _)
    have E6 : y_ev x (0, [(5, 1)]) = x 5 := (l_e1 _ _)
    have E7 : y_ev x (0, [(8, 1)]) = x 8 := (l_e1 _ _)
    have E8 : y_ev x (256, []) = 256 := (l_e0 _ _)
    have E9 : y_ev x (0, [(6, 1)]) = x 6 := (l_e1 _ _)
    have E10 : y_ev x (0, [(7, 1)]) = x 7 := (l_e1 _ _)
    have T0 : q_run2 (t_b v) (y_ev x (0, [(0, 1)])) (y_ev x ((-1), [(1, 1)])) (y_ev x (0, [])) (y_ev x (0, [])) (y_ev x (0, [])) (y_ev x (0, [(2, 1)])) (y_ev x (0, [(3, 1)])) (y_ev x (0, [(4, 1)])) (y_ev x (0, [(5, 1)])) (y_ev x (0, [(8, 1)])) := h.2.2.2.1
    (try rw [E0] at T0); (try rw [E1] at T0); (try rw [E2] at T0); (try rw [E3] at T0); (try rw [E4] at T0); (try rw [E5] at T0); (try rw [E6] at T0); (try rw [E7] at T0)
    have T1 : q_tok (t_b v) (y_ev x (0, [(0, 1)])) (y_ev x ((-1), [(1, 1)])) (y_ev x (256, [])) (y_ev x (0, [(6, 1)])) (y_ev x (0, [(7, 1)])) := h.2.2.2.2.1
    (try rw [E0] at T1); (try rw [E1] at T1); (try rw [E8] at T1); (try rw [E9] at T1); (try rw [E10] at T1)
    have K := k_s_0h (V := v) (n := x 0) (d := x 1) (H := x 2) (L := x 3) (W := x 4) (WP := x 5) (s := x 6) (v := x 7) (S := x 8) T0 T1 C0 C1
    refine l_outH rfl (And.intro h.1 ?_)
    have O0 : y_ev x (0, [(0, 1)]) = x 0 := l_e1 _ _
    have O1 : y_ev x (0, [(1, 1)]) = x 1 := l_e1 _ _
    have O2 : y_ev x (1, []) = 1 := l_e0 _ _
    have O3 : y_ev x (0, []) = 0 := l_e0 _ _
    have O4 : y_ev x (0, [(2, 1)]) = x 2 := l_e1 _ _
    have O5 : y_ev x (0, [(3, 1)]) = x 3 := l_e1 _ _
    have O6 : y_ev x (0, [(4, 1)]) = x 4 := l_e1 _ _
    have O7 : y_ev x (0, [(5, 1)]) = x 5 := l_e1 _ _
    have O8 : y_ev x (0, [(8, 1)]) = x 8 := l_e1 _ _
    show (True) ∧ (q_run2 (t_b v) (y_ev x (0, [(0, 1)])) (y_ev x (0, [(1, 1)])) (y_ev x (1, [])) (y_ev x (0, [])) (y_ev x (0, [])) (y_ev x (0, [(2, 1)])) (y_ev x (0, [(3, 1)])) (y_ev x (0, [(4, 1)])) (y_ev x (0, [(5, 1)])) (y_ev x (0, [(8, 1)])) ∧ True)
    (try rw [O0]); (try rw [O1]); (try rw [O2]); (try rw [O3]); (try rw [O4]); (try rw [O5]); (try rw [O6]); (try rw [O7]); (try rw [O8])
    exact K
def lm_263 : zLem := (([((-2147483648), 2147483647), ((-2147483648), 2147483647), ((-2147483648), 2147483647), ((-2147483648), 2147483647), ((-2147483648), 2147483647), ((-2147483648), 2147483647), ((-2147483648), 2147483647), ((-9223372036854775808), 9223372036854775807), ((-2147483648), 2147483647)], [(12, false)], [(400, [(1, (-1))]), (19, [(3, (-1))])], [], [], [(0, (false, 11, 0, []), 0, 0, 0, [(1, 1)])], [(40, [(0, [(0, 1)]), ((-1), [(1, 1)]), (0, []), (0, []), (0, []), (0, [(2, 1)]), (0, [(3, 1)]), (0, [(4, 1)]), (0, [(5, 1)]), (0, [(8, 1)])]), (36, [(0, [(0, 1)]), ((-1), [(1, 1)]), (257, []), (0, [(6, 1)]), (0, [(7, 1)])])]), [([((-2147483648), 2147483647), ((-2147483648), 2147483647), ((-2147483648), 2147483647), ((-2147483648), 2147483647), ((-2147483648), 2147483647), ((-2147483648), 2147483647), ((-2147483648), 2147483647), ((-9223372036854775808), 9223372036854775807), ((-2147483648), 2147483647)], [(12, false)], [], [], [], [], [(40, [(0, [(0, 1)]), (0, [(1, 1)]), (5, []), (0, []), (0, []), (0, [(2, 1)]), (0, [(3, 1)]), (0, [(4, 1)]), (0, [(5, 1)]), (0, [(8, 1)])])])])
theorem lk_263 : l_core lm_263 := by
  first
  | skip
    intro v x h
    have K := k_s_0l (V := v) (n := x 0) (d := x 1) (H := x 2) (L := x 3) (W := x 4) (WP := x 5) (s := x 6) (v := x 7) (S := x 8) (l_c8 (fun w0 w1 w2 w3 w4 w5 w6 w7 : Int => q_run2 (t_b v) w0 w1 w2 w2 w2 w3 w4 w5 w6 w7) (l_e1 x 0) (l_q2 1 x 1) (l_e0 x (0)) (l_e1 x 2) (l_e1 x 3) (l_e1 x 4) (l_e1 x 5) (l_e1 x 8) (h.2.2.2.1)) (l_c5 (fun w0 w1 w2 w3 w4 : Int => q_tok (t_b v) w0 w1 w2 w3 w4) (l_e1 x 0) (l_q2 1 x 1) (l_e0 x (257)) (l_e1 x 6) (l_e1 x 7) (h.2.2.2.2.1)) (l_cc (l_q1 400 x 1) (h.2.1.1)) (l_cc (l_q1 19 x 3) (h.2.1.2.1))
    refine l_outH rfl (And.intro h.1 ?_)
    exact l_o9 (fun w0 w1 w2 w3 w4 w5 w6 w7 w8 : Int => (True) ∧ (q_run2 (t_b v) w0 w1 w2 w3 w3 w4 w5 w6 w7 w8 ∧ True)) (l_e1 x 0) (l_e1 x 1) (l_e0 x (5)) (l_e0 x (0)) (l_e1 x 2) (l_e1 x 3) (l_e1 x 4) (l_e1 x 5) (l_e1 x 8) K
  | skip
    intro v x h
    have C0 : (0 : Int) ≤ 400 - x 1 := l_cc (a := y_ev x (400, [(1, (-1))])) (by show ((400) : Int) + ((-1) * x 1 + 0) = 400 - x 1; omega) (h.2.1.1)
    have C1 : (0 : Int) ≤ 19 - x 3 := l_cc (a := y_ev x (19, [(3, (-1))])) (by show ((19) : Int) + ((-1) * x 3 + 0) = 19 - x 3; omega) (h.2.1.2.1)
    have E0 : y_ev x (0, [(0, 1)]) = x 0 := (l_e1 _ _)
    have E1 : y_ev x ((-1), [(1, 1)]) = x 1 - 1 := (by show ((-1) : Int) + ((1) * x 1 + 0) = x 1 - 1; omega)
    have E2 : y_ev x (0, []) = 0 := (l_e0 _ _)
    have E3 : y_ev x (0, [(2, 1)]) = x 2 := (l_e1 _ _)
    have E4 : y_ev x (0, [(3, 1)]) = x 3 := (l_e1 _ _)
    have E5 : y_ev x (0, [(4, 1)]) = x 4 := (l_e1 _ _)
    have E6 : y_ev x (0, [(5, 1)]) = x 5 := (l_e1 _ _)
    have E7 : y_ev x (0, [(8, 1)]) = x 8 := (l_e1 _ _)
    have E8 : y_ev x (257, []) = 257 := (l_e0 _ _)
    have E9 : y_ev x (0, [(6, 1)]) = x 6 := (l_e1 _ _)
    have E10 : y_ev x (0, [(7, 1)]) = x 7 := (l_e1 _ _)
    have T0 : q_run2 (t_b v) (y_ev x (0, [(0, 1)])) (y_ev x ((-1), [(1, 1)])) (y_ev x (0, [])) (y_ev x (0, [])) (y_ev x (0, [])) (y_ev x (0, [(2, 1)])) (y_ev x (0, [(3, 1)])) (y_ev x (0, [(4, 1)])) (y_ev x (0, [(5, 1)])) (y_ev x (0, [(8, 1)])) := h.2.2.2.1
    (try rw [E0] at T0); (try rw [E1] at T0); (try rw [E2] at T0); (try rw [E3] at T0); (try rw [E4] at T0); (try rw [E5] at T0); (try rw [E6] at T0); (try rw [E7] at T0)
    have T1 : q_tok (t_b v) (y_ev x (0, [(0, 1)])) (y_ev x ((-1), [(1, 1)])) (y_ev x (257, [])) (y_ev x (0, [(6, 1)])) (y_ev x (0, [(7, 1)])) := h.2.2.2.2.1
    (try rw [E0] at T1); (try rw [E1] at T1); (try rw [E8] at T1); (try rw [E9] at T1); (try rw [E10] at T1)
    have K := k_s_0l (V := v) (n := x 0) (d := x 1) (H := x 2) (L := x 3) (W := x 4) (WP := x 5) (s := x 6) (v := x 7) (S := x 8) T0 T1 C0 C1
    refine l_outH rfl (And.intro h.1 ?_)
    have O0 : y_ev x (0, [(0, 1)]) = x 0 := l_e1 _ _
    have O1 : y_ev x (0, [(1, 1)]) = x 1 := l_e1 _ _
    have O2 : y_ev x (5, []) = 5 := l_e0 _ _
    have O3 : y_ev x (0, []) = 0 := l_e0 _ _
    have O4 : y_ev x (0, [(2, 1)]) = x 2 := l_e1 _ _
    have O5 : y_ev x (0, [(3, 1)]) = x 3 := l_e1 _ _
    have O6 : y_ev x (0, [(4, 1)]) = x 4 := l_e1 _ _
    have O7 : y_ev x (0, [(5, 1)]) = x 5 := l_e1 _ _
    have O8 : y_ev x (0, [(8, 1)]) = x 8 := l_e1 _ _
    show (True) ∧ (q_run2 (t_b v) (y_ev x (0, [(0, 1)])) (y_ev x (0, [(1, 1)])) (y_ev x (5, [])) (y_ev x (0, [])) (y_ev x (0, [])) (y_ev x (0, [(2, 1)])) (y_ev x (0, [(3, 1)])) (y_ev x (0, [(4, 1)])) (y_ev x (0, [(5, 1)])) (y_ev x (0, [(8, 1)])) ∧ True)
    (try rw [O0]); (try rw [O1]); (try rw [O2]); (try rw [O3]); (try rw [O4]); (try rw [O5]); (try rw [O6]); (try rw [O7]); (try rw [O8])
    exact K
def lm_264 : zLem := (([((-2147483648), 2147483647), ((-2147483648), 2147483647), ((-2147483648), 2147483647), ((-2147483648), 2147483647), ((-2147483648), 2147483647), ((-2147483648), 2147483647), ((-2147483648), 2147483647), ((-9223372036854775808), 9223372036854775807), ((-2147483648), 2147483647)], [(12, false)], [(400, [(1, (-1))])], [], [], [(0, (false, 11, 0, []), 0, 0, 0, [(1, 1)])], [(40, [(0, [(0, 1)]), ((-1), [(1, 1)]), (0, []), (0, []), (0, []), (0, [(2, 1)]), (0, [(3, 1)]), (0, [(4, 1)]), (0, [(5, 1)]), (0, [(8, 1)])]), (36, [(0, [(0, 1)]), ((-1), [(1, 1)]), (258, []), (0, [(6, 1)]), (0, [(7, 1)])])]), [([((-2147483648), 2147483647), ((-2147483648), 2147483647), ((-2147483648), 2147483647), ((-2147483648), 2147483647), ((-2147483648), 2147483647), ((-2147483648), 2147483647), ((-2147483648), 2147483647), ((-9223372036854775808), 9223372036854775807), ((-2147483648), 2147483647)], [(12, false)], [], [], [], [], [(40, [(0, [(0, 1)]), (0, [(1, 1)]), (9, []), (0, []), (0, []), (0, [(2, 1)]), (0, [(3, 1)]), (0, [(4, 1)]), (0, [(5, 1)]), (0, [(8, 1)])])])])
theorem lk_264 : l_core lm_264 := by
  first
  | skip
    intro v x h
    have K := k_s_0_258 (V := v) (n := x 0) (d := x 1) (H := x 2) (L := x 3) (W := x 4) (WP := x 5) (s := x 6) (v := x 7) (S := x 8) (l_c8 (fun w0 w1 w2 w3 w4 w5 w6 w7 : Int => q_run2 (t_b v) w0 w1 w2 w2 w2 w3 w4 w5 w6 w7) (l_e1 x 0) (l_q2 1 x 1) (l_e0 x (0)) (l_e1 x 2) (l_e1 x 3) (l_e1 x 4) (l_e1 x 5) (l_e1 x 8) (h.2.2.2.1)) (l_c5 (fun w0 w1 w2 w3 w4 : Int => q_tok (t_b v) w0 w1 w2 w3 w4) (l_e1 x 0) (l_q2 1 x 1) (l_e0 x (258)) (l_e1 x 6) (l_e1 x 7) (h.2.2.2.2.1)) (l_cc (l_q1 400 x 1) (h.2.1.1))
    refine l_outH rfl (And.intro h.1 ?_)
    exact l_o9 (fun w0 w1 w2 w3 w4 w5 w6 w7 w8 : Int => (True) ∧ (q_run2 (t_b v) w0 w1 w2 w3 w3 w4 w5 w6 w7 w8 ∧ True)) (l_e1 x 0) (l_e1 x 1) (l_e0 x (9)) (l_e0 x (0)) (l_e1 x 2) (l_e1 x 3) (l_e1 x 4) (l_e1 x 5) (l_e1 x 8) K
  | skip
    intro v x h
    have C0 : (0 : Int) ≤ 400 - x 1 := l_cc (a := y_ev x (400, [(1, (-1))])) (by show ((400) : Int) + ((-1) * x 1 + 0) = 400 - x 1; omega) (h.2.1.1)
    have E0 : y_ev x (0, [(0, 1)]) = x 0 := (l_e1 _ _)
    have E1 : y_ev x ((-1), [(1, 1)]) = x 1 - 1 := (by show ((-1) : Int) + ((1) * x 1 + 0) = x 1 - 1; omega)
    have E2 : y_ev x (0, []) = 0 := (l_e0 _ _)
    have E3 : y_ev x (0, [(2, 1)]) = x 2 := (l_e1 _ _)
    have E4 : y_ev x (0, [(3, 1)]) = x 3 := (l_e1 _ _)
    have E5 : y_ev x (0, [(4, 1)]) = x 4 := (l_e1 _ _)
    have E6 : y_ev x (0, [(5, 1)]) = x 5 := (l_e1 _ _)
    have E7 : y_ev x (0, [(8, 1)]) = x 8 := (l_e1 _ _)
    have E8 : y_ev x (258, []) = 258 := (l_e0 _ _)
    have E9 : y_ev x (0, [(6, 1)]) = x 6 := (l_e1 _ _)
    have E10 : y_ev x (0, [(7, 1)]) = x 7 := (l_e1 _ _)
    have T0 : q_run2 (t_b v) (y_ev x (0, [(0, 1)])) (y_ev x ((-1), [(1, 1)])) (y_ev x (0, [])) (y_ev x (0, [])) (y_ev x (0, [])) (y_ev x (0, [(2, 1)])) (y_ev x (0, [(3, 1)])) (y_ev x (0, [(4, 1)])) (y_ev x (0, [(5, 1)])) (y_ev x (0, [(8, 1)])) := h.2.2.2.1
    (try rw [E0] at T0); (try rw [E1] at T0); (try rw [E2] at T0); (try rw [E3] at T0); (try rw [E4] at T0); (try rw [E5] at T0); (try rw [E6] at T0); (try rw [E7] at T0)
    have T1 : q_tok (t_b v) (y_ev x (0, [(0, 1)])) (y_ev x ((-1), [(1, 1)])) (y_ev x (258, [])) (y_ev x (0, [(6, 1)])) (y_ev x (0, [(7, 1)])) := h.2.2.2.2.1
    (try rw [E0] at T1); (try rw [E1] at T1); (try rw [E8] at T1); (try rw [E9] at T1); (try rw [E10] at T1)
    have K := k_s_0_258 (V := v) (n := x 0) (d := x 1) (H := x 2) (L := x 3) (W := x 4) (WP := x 5) (s := x 6) (v := x 7) (S := x 8) T0 T1 C0
    refine l_outH rfl (And.intro h.1 ?_)
    have O0 : y_ev x (0, [(0, 1)]) = x 0 := l_e1 _ _
    have O1 : y_ev x (0, [(1, 1)]) = x 1 := l_e1 _ _
    have O2 : y_ev x (9, []) = 9 := l_e0 _ _
    have O3 : y_ev x (0, []) = 0 := l_e0 _ _
    have O4 : y_ev x (0, [(2, 1)]) = x 2 := l_e1 _ _
    have O5 : y_ev x (0, [(3, 1)]) = x 3 := l_e1 _ _
    have O6 : y_ev x (0, [(4, 1)]) = x 4 := l_e1 _ _
    have O7 : y_ev x (0, [(5, 1)]) = x 5 := l_e1 _ _
    have O8 : y_ev x (0, [(8, 1)]) = x 8 := l_e1 _ _
    show (True) ∧ (q_run2 (t_b v) (y_ev x (0, [(0, 1)])) (y_ev x (0, [(1, 1)])) (y_ev x (9, [])) (y_ev x (0, [])) (y_ev x (0, [])) (y_ev x (0, [(2, 1)])) (y_ev x (0, [(3, 1)])) (y_ev x (0, [(4, 1)])) (y_ev x (0, [(5, 1)])) (y_ev x (0, [(8, 1)])) ∧ True)
    (try rw [O0]); (try rw [O1]); (try rw [O2]); (try rw [O3]); (try rw [O4]); (try rw [O5]); (try rw [O6]); (try rw [O7]); (try rw [O8])
    exact K
def lm_265 : zLem := (([((-2147483648), 2147483647), ((-2147483648), 2147483647), ((-2147483648), 2147483647), ((-2147483648), 2147483647), ((-2147483648), 2147483647), ((-2147483648), 2147483647), ((-2147483648), 2147483647), ((-9223372036854775808), 9223372036854775807), ((-2147483648), 2147483647)], [(12, false)], [(400, [(1, (-1))])], [], [], [(0, (false, 11, 0, []), 0, 0, 0, [(1, 1)])], [(40, [(0, [(0, 1)]), ((-1), [(1, 1)]), (0, []), (0, []), (0, []), (0, [(2, 1)]), (0, [(3, 1)]), (0, [(4, 1)]), (0, [(5, 1)]), (0, [(8, 1)])]), (36, [(0, [(0, 1)]), ((-1), [(1, 1)]), (259, []), (0, [(6, 1)]), (0, [(7, 1)])])]), [([((-2147483648), 2147483647), ((-2147483648), 2147483647), ((-2147483648), 2147483647), ((-2147483648), 2147483647), ((-2147483648), 2147483647), ((-2147483648), 2147483647), ((-2147483648), 2147483647), ((-9223372036854775808), 9223372036854775807), ((-2147483648), 2147483647)], [(12, false)], [], [], [], [], [(40, [(0, [(0, 1)]), (0, [(1, 1)]), (10, []), (0, []), (0, []), (0, [(2, 1)]), (0, [(3, 1)]), (0, [(4, 1)]), (0, [(5, 1)]), (0, [(8, 1)])])])])
theorem lk_265 : l_core lm_265 := by
  first
  | skip
    intro v x h
    have K := k_s_0_259 (V := v) (n := x 0) (d := x 1) (H := x 2) (L := x 3) (W := x 4) (WP := x 5) (s := x 6) (v := x 7) (S := x 8) (l_c8 (fun w0 w1 w2 w3 w4 w5 w6 w7 : Int => q_run2 (t_b v) w0 w1 w2 w2 w2 w3 w4 w5 w6 w7) (l_e1 x 0) (l_q2 1 x 1) (l_e0 x (0)) (l_e1 x 2) (l_e1 x 3) (l_e1 x 4) (l_e1 x 5) (l_e1 x 8) (h.2.2.2.1)) (l_c5 (fun w0 w1 w2 w3 w4 : Int => q_tok (t_b v) w0 w1 w2 w3 w4) (l_e1 x 0) (l_q2 1 x 1) (l_e0 x (259)) (l_e1 x 6) (l_e1 x 7) (h.2.2.2.2.1)) (l_cc (l_q1 400 x 1) (h.2.1.1))
    refine l_outH rfl (And.intro h.1 ?_)
    exact l_o9 (fun w0 w1 w2 w3 w4 w5 w6 w7 w8 : Int => (True) ∧ (q_run2 (t_b v) w0 w1 w2 w3 w3 w4 w5 w6 w7 w8 ∧ True)) (l_e1 x 0) (l_e1 x 1) (l_e0 x (10)) (l_e0 x (0)) (l_e1 x 2) (l_e1 x 3) (l_e1 x 4) (l_e1 x 5) (l_e1 x 8) K
  | skip
    intro v x h
    have C0 : (0 : Int) ≤ 400 - x 1 := l_cc (a := y_ev x (400, [(1, (-1))])) (by show ((400) : Int) + ((-1) * x 1 + 0) = 400 - x 1; omega) (h.2.1.1)
    have E0 : y_ev x (0, [(0, 1)]) = x 0 := (l_e1 _ _)
    have E1 : y_ev x ((-1), [(1, 1)]) = x 1 - 1 := (by show ((-1) : Int) + ((1) * x 1 + 0) = x 1 - 1; omega)
    have E2 : y_ev x (0, []) = 0 := (l_e0 _ _)
    have E3 : y_ev x (0, [(2, 1)]) = x 2 := (l_e1 _ _)
    have E4 : y_ev x (0, [(3, 1)]) = x 3 := (l_e1 _ _)
    have E5 : y_ev x (0, [(4, 1)]) = x 4 := (l_e1 _ _)
    have E6 : y_ev x (0, [(5, 1)]) = x 5 := (l_e1 _ _)
    have E7 : y_ev x (0, [(8, 1)]) = x 8 := (l_e1 _ _)
    have E8 : y_ev x (259, []) = 259 := (l_e0 _ _)
    have E9 : y_ev x (0, [(6, 1)]) = x 6 := (l_e1 _ _)
    have E10 : y_ev x (0, [(7, 1)]) = x 7 := (l_e1 _ _)
    have T0 : q_run2 (t_b v) (y_ev x (0, [(0, 1)])) (y_ev x ((-1), [(1, 1)])) (y_ev x (0, [])) (y_ev x (0, [])) (y_ev x (0, [])) (y_ev x (0, [(2, 1)])) (y_ev x (0, [(3, 1)])) (y_ev x (0, [(4, 1)])) (y_ev x (0, [(5, 1)])) (y_ev x (0, [(8, 1)])) := h.2.2.2.1
    (try rw [E0] at T0); (try rw [E1] at T0); (try rw [E2] at T0); (try rw [E3] at T0); (try rw [E4] at T0); (try rw [E5] at T0); (try rw [E6] at T0); (try rw [E7] at T0)
    have T1 : q_tok (t_b v) (y_ev x (0, [(0, 1)])) (y_ev x ((-1), [(1, 1)])) (y_ev x (259, [])) (y_ev x (0, [(6, 1)])) (y_ev x (0, [(7, 1)])) := h.2.2.2.2.1
    (try rw [E0] at T1); (try rw [E1] at T1); (try rw [E8] at T1); (try rw [E9] at T1); (try rw [E10] at T1)
    have K := k_s_0_259 (V := v) (n := x 0) (d := x 1) (H := x 2) (L := x 3) (W := x 4) (WP := x 5) (s := x 6) (v := x 7) (S := x 8) T0 T1 C0
    refine l_outH rfl (And.intro h.1 ?_)
    have O0 : y_ev x (0, [(0, 1)]) = x 0 := l_e1 _ _
    have O1 : y_ev x (0, [(1, 1)]) = x 1 := l_e1 _ _
    have O2 : y_ev x (10, []) = 10 := l_e0 _ _
    have O3 : y_ev x (0, []) = 0 := l_e0 _ _
    have O4 : y_ev x (0, [(2, 1)]) = x 2 := l_e1 _ _
    have O5 : y_ev x (0, [(3, 1)]) = x 3 := l_e1 _ _
    have O6 : y_ev x (0, [(4, 1)]) = x 4 := l_e1 _ _
    have O7 : y_ev x (0, [(5, 1)]) = x 5 := l_e1 _ _
    have O8 : y_ev x (0, [(8, 1)]) = x 8 := l_e1 _ _
    show (True) ∧ (q_run2 (t_b v) (y_ev x (0, [(0, 1)])) (y_ev x (0, [(1, 1)])) (y_ev x (10, [])) (y_ev x (0, [])) (y_ev x (0, [])) (y_ev x (0, [(2, 1)])) (y_ev x (0, [(3, 1)])) (y_ev x (0, [(4, 1)])) (y_ev x (0, [(5, 1)])) (y_ev x (0, [(8, 1)])) ∧ True)
    (try rw [O0]); (try rw [O1]); (try rw [O2]); (try rw [O3]); (try rw [O4]); (try rw [O5]); (try rw [O6]); (try rw [O7]); (try rw [O8])
    exact K
def lm_266 : zLem := (([((-2147483648), 2147483647), ((-2147483648), 2147483647), ((-2147483648), 2147483647), ((-2147483648), 2147483647), ((-2147483648), 2147483647), ((-2147483648), 2147483647), ((-2147483648), 2147483647), ((-9223372036854775808), 9223372036854775807), ((-2147483648), 2147483647)], [(12, false)], [(400, [(1, (-1))])], [], [], [(0, (false, 11, 0, []), 0, 0, 0, [(1, 1)])], [(40, [(0, [(0, 1)]), ((-1), [(1, 1)]), (0, []), (0, []), (0, []), (0, [(2, 1)]), (0, [(3, 1)]), (0, [(4, 1)]), (0, [(5, 1)]), (0, [(8, 1)])]), (36, [(0, [(0, 1)]), ((-1), [(1, 1)]), (264, []), (0, [(6, 1)]), (0, [(7, 1)])])]), [([((-2147483648), 2147483647), ((-2147483648), 2147483647), ((-2147483648), 2147483647), ((-2147483648), 2147483647), ((-2147483648), 2147483647), ((-2147483648), 2147483647), ((-2147483648), 2147483647), ((-9223372036854775808), 9223372036854775807), ((-2147483648), 2147483647)], [(12, false)], [], [], [], [], [(40, [(0, [(0, 1)]), (0, [(1, 1)]), (11, []), (0, []), (0, []), (0, [(2, 1)]), (0, [(3, 1)]), (0, [(4, 1)]), (0, [(5, 1)]), (0, [(8, 1)])])])])
theorem lk_266 : l_core lm_266 := by
  first
  | skip
    intro v x h
    have K := k_s_0_264 (V := v) (n := x 0) (d := x 1) (H := x 2) (L := x 3) (W := x 4) (WP := x 5) (s := x 6) (v := x 7) (S := x 8) (l_c8 (fun w0 w1 w2 w3 w4 w5 w6 w7 : Int => q_run2 (t_b v) w0 w1 w2 w2 w2 w3 w4 w5 w6 w7) (l_e1 x 0) (l_q2 1 x 1) (l_e0 x (0)) (l_e1 x 2) (l_e1 x 3) (l_e1 x 4) (l_e1 x 5) (l_e1 x 8) (h.2.2.2.1)) (l_c5 (fun w0 w1 w2 w3 w4 : Int => q_tok (t_b v) w0 w1 w2 w3 w4) (l_e1 x 0) (l_q2 1 x 1) (l_e0 x (264)) (l_e1 x 6) (l_e1 x 7) (h.2.2.2.2.1)) (l_cc (l_q1 400 x 1) (h.2.1.1))
    refine l_outH rfl (And.intro h.1 ?_)
    exact l_o9 (fun w0 w1 w2 w3 w4 w5 w6 w7 w8 : Int => (True) ∧ (q_run2 (t_b v) w0 w1 w2 w3 w3 w4 w5 w6 w7 w8 ∧ True)) (l_e1 x 0) (l_e1 x 1) (l_e0 x (11)) (l_e0 x (0)) (l_e1 x 2) (l_e1 x 3) (l_e1 x 4) (l_e1 x 5) (l_e1 x 8) K
  | skip
    intro v x h
    have C0 : (0 : Int) ≤ 400 - x 1 := l_cc (a := y_ev x (400, [(1, (-1))])) (by show ((400) : Int) + ((-1) * x 1 + 0) = 400 - x 1; omega) (h.2.1.1)
    have E0 : y_ev x (0, [(0, 1)]) = x 0 := (l_e1 _ _)
    have E1 : y_ev x ((-1), [(1, 1)]) = x 1 - 1 := (by show ((-1) : Int) + ((1) * x 1 + 0) = x 1 - 1; omega)
    have E2 : y_ev x (0, []) = 0 := (l_e0 _ _)
    have E3 : y_ev x (0, [(2, 1)]) = x 2 := (l_e1 _ _)
    have E4 : y_ev x (0, [(3, 1)]) = x 3 := (l_e1 _ _)
    have E5 : y_ev x (0, [(4, 1)]) = x 4 := (l_e1 _ _)
    have E6 : y_ev x (0, [(5, 1)]) = x 5 := (l_e1 _ _)
    have E7 : y_ev x (0, [(8, 1)]) = x 8 := (l_e1 _ _)
    have E8 : y_ev x (264, []) = 264 := (l_e0 _ _)
    have E9 : y_ev x (0, [(6, 1)]) = x 6 := (l_e1 _ _)
    have E10 : y_ev x (0, [(7, 1)]) = x 7 := (l_e1 _ _)
    have T0 : q_run2 (t_b v) (y_ev x (0, [(0, 1)])) (y_ev x ((-1), [(1, 1)])) (y_ev x (0, [])) (y_ev x (0, [])) (y_ev x (0, [])) (y_ev x (0, [(2, 1)])) (y_ev x (0, [(3, 1)])) (y_ev x (0, [(4, 1)])) (y_ev x (0, [(5, 1)])) (y_ev x (0, [(8, 1)])) := h.2.2.2.1
    (try rw [E0] at T0); (try rw [E1] at T0); (try rw [E2] at T0); (try rw [E3] at T0); (try rw [E4] at T0); (try rw [E5] at T0); (try rw [E6] at T0); (try rw [E7] at T0)
    have T1 : q_tok (t_b v) (y_ev x (0, [(0, 1)])) (y_ev x ((-1), [(1, 1)])) (y_ev x (264, [])) (y_ev x (0, [(6, 1)])) (y_ev x (0, [(7, 1)])) := h.2.2.2.2.1
    (try rw [E0] at T1); (try rw [E1] at T1); (try rw [E8] at T1); (try rw [E9] at T1); (try rw [E10] at T1)
    have K := k_s_0_264 (V := v) (n := x 0) (d := x 1) (H := x 2) (L := x 3) (W := x 4) (WP := x 5) (s := x 6) (v := x 7) (S := x 8) T0 T1 C0
    refine l_outH rfl (And.intro h.1 ?_)
    have O0 : y_ev x (0, [(0, 1)]) = x 0 := l_e1 _ _
    have O1 : y_ev x (0, [(1, 1)]) = x 1 := l_e1 _ _
    have O2 : y_ev x (11, []) = 11 := l_e0 _ _
    have O3 : y_ev x (0, []) = 0 := l_e0 _ _
    have O4 : y_ev x (0, [(2, 1)]) = x 2 := l_e1 _ _
    have O5 : y_ev x (0, [(3, 1)]) = x 3 := l_e1 _ _
    have O6 : y_ev x (0, [(4, 1)]) = x 4 := l_e1 _ _
    have O7 : y_ev x (0, [(5, 1)]) = x 5 := l_e1 _ _
    have O8 : y_ev x (0, [(8, 1)]) = x 8 := l_e1 _ _
    show (True) ∧ (q_run2 (t_b v) (y_ev x (0, [(0, 1)])) (y_ev x (0, [(1, 1)])) (y_ev x (11, [])) (y_ev x (0, [])) (y_ev x (0, [])) (y_ev x (0, [(2, 1)])) (y_ev x (0, [(3, 1)])) (y_ev x (0, [(4, 1)])) (y_ev x (0, [(5, 1)])) (y_ev x (0, [(8, 1)])) ∧ True)
    (try rw [O0]); (try rw [O1]); (try rw [O2]); (try rw [O3]); (try rw [O4]); (try rw [O5]); (try rw [O6]); (try rw [O7]); (try rw [O8])
    exact K
def lm_267 : zLem := (([((-2147483648), 2147483647), ((-2147483648), 2147483647), ((-2147483648), 2147483647), ((-2147483648), 2147483647), ((-2147483648), 2147483647), ((-2147483648), 2147483647), ((-2147483648), 2147483647), ((-9223372036854775808), 9223372036854775807), ((-2147483648), 2147483647)], [(12, false)], [(400, [(1, (-1))])], [], [], [(0, (false, 11, 0, []), 0, 0, 0, [(1, 1)])], [(40, [(0, [(0, 1)]), ((-1), [(1, 1)]), (0, []), (0, []), (0, []), (0, [(2, 1)]), (0, [(3, 1)]), (0, [(4, 1)]), (0, [(5, 1)]), (0, [(8, 1)])]), (36, [(0, [(0, 1)]), ((-1), [(1, 1)]), (265, []), (0, [(6, 1)]), (0, [(7, 1)])])]), [([((-2147483648), 2147483647), ((-2147483648), 2147483647), ((-2147483648), 2147483647), ((-2147483648), 2147483647), ((-2147483648), 2147483647), ((-2147483648), 2147483647), ((-2147483648), 2147483647), ((-9223372036854775808), 9223372036854775807), ((-2147483648), 2147483647)], [(12, false)], [], [], [], [], [(40, [(0, [(0, 1)]), (0, [(1, 1)]), (12, []), (0, []), (0, []), (0, [(2, 1)]), (0, [(3, 1)]), (0, [(4, 1)]), (0, [(5, 1)]), (0, [(8, 1)])])])])
theorem lk_267 : l_core lm_267 := by
  first
  | skip
    intro v x h
    have K := k_s_0_265 (V := v) (n := x 0) (d := x 1) (H := x 2) (L := x 3) (W := x 4) (WP := x 5) (s := x 6) (v := x 7) (S := x 8) (l_c8 (fun w0 w1 w2 w3 w4 w5 w6 w7 : Int => q_run2 (t_b v) w0 w1 w2 w2 w2 w3 w4 w5 w6 w7) (l_e1 x 0) (l_q2 1 x 1) (l_e0 x (0)) (l_e1 x 2) (l_e1 x 3) (l_e1 x 4) (l_e1 x 5) (l_e1 x 8) (h.2.2.2.1)) (l_c5 (fun w0 w1 w2 w3 w4 : Int => q_tok (t_b v) w0 w1 w2 w3 w4) (l_e1 x 0) (l_q2 1 x 1) (l_e0 x (265)) (l_e1 x 6) (l_e1 x 7) (h.2.2.2.2.1)) (l_cc (l_q1 400 x 1) (h.2.1.1))
    refine l_outH rfl (And.intro h.1 ?_)
    exact l_o9 (fun w0 w1 w2 w3 w4 w5 w6 w7 w8 : Int => (True) ∧ (q_run2 (t_b v) w0 w1 w2 w3 w3 w4 w5 w6 w7 w8 ∧ True)) (l_e1 x 0) (l_e1 x 1) (l_e0 x (12)) (l_e0 x (0)) (l_e1 x 2) (l_e1 x 3) (l_e1 x 4) (l_e1 x 5) (l_e1 x 8) K
  | skip
    intro v x h
    have C0 : (0 : Int) ≤ 400 - x 1 := l_cc (a := y_ev x (400, [(1, (-1))])) (by show ((400) : Int) + ((-1) * x 1 + 0) = 400 - x 1; omega) (h.2.1.1)
    have E0 : y_ev x (0, [(0, 1)]) = x 0 := (l_e1 _ _)
    have E1 : y_ev x ((-1), [(1, 1)]) = x 1 - 1 := (by show ((-1) : Int) + ((1) * x 1 + 0) = x 1 - 1; omega)
    have E2 : y_ev x (0, []) = 0 := (l_e0 _ _)
    have E3 : y_ev x (0, [(2, 1)]) = x 2 := (l_e1 _ _)
    have E4 : y_ev x (0, [(3, 1)]) = x 3 := (l_e1 _ _)
    have E5 : y_ev x (0, [(4, 1)]) = x 4 := (l_e1 _ _)
    have E6 : y_ev x (0, [(5, 1)]) = x 5 := (l_e1 _ _)
    have E7 : y_ev x (0, [(8, 1)]) = x 8 := (l_e1 _ _)
    have E8 : y_ev x (265, []) = 265 := (l_e0 _ _)
    have E9 : y_ev x (0, [(6, 1)]) = x 6 := (l_e1 _ _)
    have E10 : y_ev x (0, [(7, 1)]) = x 7 := (l_e1 _ _)
    have T0 : q_run2 (t_b v) (y_ev x (0, [(0, 1)])) (y_ev x ((-1), [(1, 1)])) (y_ev x (0, [])) (y_ev x (0, [])) (y_ev x (0, [])) (y_ev x (0, [(2, 1)])) (y_ev x (0, [(3, 1)])) (y_ev x (0, [(4, 1)])) (y_ev x (0, [(5, 1)])) (y_ev x (0, [(8, 1)])) := h.2.2.2.1
    (try rw [E0] at T0); (try rw [E1] at T0); (try rw [E2] at T0); (try rw [E3] at T0); (try rw [E4] at T0); (try rw [E5] at T0); (try rw [E6] at T0); (try rw [E7] at T0)
    have T1 : q_tok (t_b v) (y_ev x (0, [(0, 1)])) (y_ev x ((-1), [(1, 1)])) (y_ev x (265, [])) (y_ev x (0, [(6, 1)])) (y_ev x (0, [(7, 1)])) := h.2.2.2.2.1
    (try rw [E0] at T1); (try rw [E1] at T1); (try rw [E8] at T1); (try rw [E9] at T1); (try rw [E10] at T1)
    have K := k_s_0_265 (V := v) (n := x 0) (d := x 1) (H := x 2) (L := x 3) (W := x 4) (WP := x 5) (s := x 6) (v := x 7) (S := x 8) T0 T1 C0
    refine l_outH rfl (And.intro h.1 ?_)
    have O0 : y_ev x (0, [(0, 1)]) = x 0 := l_e1 _ _
    have O1 : y_ev x (0, [(1, 1)]) = x 1 := l_e1 _ _
    have O2 : y_ev x (12, []) = 12 := l_e0 _ _
    have O3 : y_ev x (0, []) = 0 := l_e0 _ _
    have O4 : y_ev x (0, [(2, 1)]) = x 2 := l_e1 _ _
    have O5 : y_ev x (0, [(3, 1)]) = x 3 := l_e1 _ _
    have O6 : y_ev x (0, [(4, 1)]) = x 4 := l_e1 _ _
    have O7 : y_ev x (0, [(5, 1)]) = x 5 := l_e1 _ _
    have O8 : y_ev x (0, [(8, 1)]) = x 8 := l_e1 _ _
    show (True) ∧ (q_run2 (t_b v) (y_ev x (0, [(0, 1)])) (y_ev x (0, [(1, 1)])) (y_ev x (12, [])) (y_ev x (0, [])) (y_ev x (0, [])) (y_ev x (0, [(2, 1)])) (y_ev x (0, [(3, 1)])) (y_ev x (0, [(4, 1)])) (y_ev x (0, [(5, 1)])) (y_ev x (0, [(8, 1)])) ∧ True)
    (try rw [O0]); (try rw [O1]); (try rw [O2]); (try rw [O3]); (try rw [O4]); (try rw [O5]); (try rw [O6]); (try rw [O7]); (try rw [O8])
    exact K
def lm_268 : zLem := (([((-2147483648), 2147483647), ((-2147483648), 2147483647), ((-2147483648), 2147483647), ((-2147483648), 2147483647), ((-2147483648), 2147483647), ((-2147483648), 2147483647), ((-2147483648), 2147483647), ((-9223372036854775808), 9223372036854775807), ((-2147483648), 2147483647), ((-2147483648), 2147483647)], [(12, false)], [(400, [(1, (-1))]), ((-260), [(8, 1)]), (263, [(8, (-1))])], [], [], [(0, (false, 11, 0, []), 0, 0, 0, [(1, 1)])], [(40, [(0, [(0, 1)]), ((-1), [(1, 1)]), (0, []), (0, []), (0, []), (0, [(2, 1)]), (0, [(3, 1)]), (0, [(4, 1)]), (0, [(5, 1)]), (0, [(9, 1)])]), (36, [(0, [(0, 1)]), ((-1), [(1, 1)]), (0, [(8, 1)]), (0, [(6, 1)]), (0, [(7, 1)])])]), [([((-2147483648), 2147483647), ((-2147483648), 2147483647), ((-2147483648), 2147483647), ((-2147483648), 2147483647), ((-2147483648), 2147483647), ((-2147483648), 2147483647), ((-2147483648), 2147483647), ((-9223372036854775808), 9223372036854775807), ((-2147483648), 2147483647), ((-2147483648), 2147483647)], [(12, false)], [], [], [], [], [(40, [(0, [(0, 1)]), (0, [(1, 1)]), (20, []), (0, []), (0, []), (0, [(2, 1)]), (0, [(3, 1)]), (0, [(4, 1)]), (0, [(5, 1)]), (0, [(9, 1)])])])])
theorem lk_268 : l_core lm_268 := by
  first
  | skip
    intro v x h
    have K := k_s_0law (V := v) (n := x 0) (d := x 1) (H := x 2) (L := x 3) (W := x 4) (WP := x 5) (s := x 6) (v := x 7) (kd := x 8) (S := x 9) (l_c8 (fun w0 w1 w2 w3 w4 w5 w6 w7 : Int => q_run2 (t_b v) w0 w1 w2 w2 w2 w3 w4 w5 w6 w7) (l_e1 x 0) (l_q2 1 x 1) (l_e0 x (0)) (l_e1 x 2) (l_e1 x 3) (l_e1 x 4) (l_e1 x 5) (l_e1 x 9) (h.2.2.2.1)) (l_c5 (fun w0 w1 w2 w3 w4 : Int => q_tok (t_b v) w0 w1 w2 w3 w4) (l_e1 x 0) (l_q2 1 x 1) (l_e1 x 8) (l_e1 x 6) (l_e1 x 7) (h.2.2.2.2.1)) (l_cc (l_q1 400 x 1) (h.2.1.1)) (l_cc (l_q2 260 x 8) (h.2.1.2.1)) (l_cc (l_q1 263 x 8) (h.2.1.2.2.1))
    refine l_outH rfl (And.intro h.1 ?_)
    exact l_o9 (fun w0 w1 w2 w3 w4 w5 w6 w7 w8 : Int => (True) ∧ (q_run2 (t_b v) w0 w1 w2 w3 w3 w4 w5 w6 w7 w8 ∧ True)) (l_e1 x 0) (l_e1 x 1) (l_e0 x (20)) (l_e0 x (0)) (l_e1 x 2) (l_e1 x 3) (l_e1 x 4) (l_e1 x 5) (l_e1 x 9) K
  | skip
    intro v x h
    have C0 : (0 : Int) ≤ 400 - x 1 := l_cc (a := y_ev x (400, [(1, (-1))])) (by show ((400) : Int) + ((-1) * x 1 + 0) = 400 - x 1; omega) (h.2.1.1)
    have C1 : (0 : Int) ≤ x 8 - 260 := l_cc (a := y_ev x ((-260), [(8, 1)])) (by show ((-260) : Int) + ((1) * x 8 + 0) = x 8 - 260; omega) (h.2.1.2.1)
    have C2 : (0 : Int) ≤ 263 - x 8 := l_cc (a := y_ev x (263, [(8, (-1))])) (by show ((263) : Int) + ((-1) * x 8 + 0) = 263 - x 8; omega) (h.2.1.2.2.1)
    have E0 : y_ev x (0, [(0, 1)]) = x 0 := (l_e1 _ _)
    have E1 : y_ev x ((-1), [(1, 1)]) = x 1 - 1 := (by show ((-1) : Int) + ((1) * x 1 + 0) = x 1 - 1; omega)
    have E2 : y_ev x (0, []) = 0 := (l_e0 _ _)
    have E3 : y_ev x (0, [(2, 1)]) = x 2 := (l_e1 _ _)
    have E4 : y_ev x (0, [(3, 1)]) = x 3 := (l_e1 _ _)
    have E5 : y_ev x (0, [(4, 1)]) = x 4 := (l_e1 _ _)
    have E6 : y_ev x (0, [(5, 1)]) = x 5 := (l_e1 _ _)
    have E7 : y_ev x (0, [(9, 1)]) = x 9 := (l_e1 _ _)
    have E8 : y_ev x (0, [(8, 1)]) = x 8 := (l_e1 _ _)
    have E9 : y_ev x (0, [(6, 1)]) = x 6 := (l_e1 _ _)
    have E10 : y_ev x (0, [(7, 1)]) = x 7 := (l_e1 _ _)
    have T0 : q_run2 (t_b v) (y_ev x (0, [(0, 1)])) (y_ev x ((-1), [(1, 1)])) (y_ev x (0, [])) (y_ev x (0, [])) (y_ev x (0, [])) (y_ev x (0, [(2, 1)])) (y_ev x (0, [(3, 1)])) (y_ev x (0, [(4, 1)])) (y_ev x (0, [(5, 1)])) (y_ev x (0, [(9, 1)])) := h.2.2.2.1
    (try rw [E0] at T0); (try rw [E1] at T0); (try rw [E2] at T0); (try rw [E3] at T0); (try rw [E4] at T0); (try rw [E5] at T0); (try rw [E6] at T0); (try rw [E7] at T0)
    have T1 : q_tok (t_b v) (y_ev x (0, [(0, 1)])) (y_ev x ((-1), [(1, 1)])) (y_ev x (0, [(8, 1)])) (y_ev x (0, [(6, 1)])) (y_ev x (0, [(7, 1)])) := h.2.2.2.2.1
    (try rw [E0] at T1); (try rw [E1] at T1); (try rw [E8] at T1); (try rw [E9] at T1); (try rw [E10] at T1)
    have K := k_s_0law (V := v) (n := x 0) (d := x 1) (H := x 2) (L := x 3) (W := x 4) (WP := x 5) (s := x 6) (v := x 7) (kd := x 8) (S := x 9) T0 T1 C0 C1 C2
    refine l_outH rfl (And.intro h.1 ?_)
    have O0 : y_ev x (0, [(0, 1)]) = x 0 := l_e1 _ _
    have O1 : y_ev x (0, [(1, 1)]) = x 1 := l_e1 _ _
    have O2 : y_ev x (20, []) = 20 := l_e0 _ _
    have O3 : y_ev x (0, []) = 0 := l_e0 _ _
    have O4 : y_ev x (0, [(2, 1)]) = x 2 := l_e1 _ _
    have O5 : y_ev x (0, [(3, 1)]) = x 3 := l_e1 _ _
    have O6 : y_ev x (0, [(4, 1)]) = x 4 := l_e1 _ _
    have O7 : y_ev x (0, [(5, 1)]) = x 5 := l_e1 _ _
    have O8 : y_ev x (0, [(9, 1)]) = x 9 := l_e1 _ _
    show (True) ∧ (q_run2 (t_b v) (y_ev x (0, [(0, 1)])) (y_ev x (0, [(1, 1)])) (y_ev x (20, [])) (y_ev x (0, [])) (y_ev x (0, [])) (y_ev x (0, [(2, 1)])) (y_ev x (0, [(3, 1)])) (y_ev x (0, [(4, 1)])) (y_ev x (0, [(5, 1)])) (y_ev x (0, [(9, 1)])) ∧ True)
    (try rw [O0]); (try rw [O1]); (try rw [O2]); (try rw [O3]); (try rw [O4]); (try rw [O5]); (try rw [O6]); (try rw [O7]); (try rw [O8])
    exact K
def lm_269 : zLem := (([((-2147483648), 2147483647), ((-2147483648), 2147483647), ((-2147483648), 2147483647), ((-2147483648), 2147483647), ((-2147483648), 2147483647), ((-2147483648), 2147483647), ((-2147483648), 2147483647), ((-9223372036854775808), 9223372036854775807), ((-2147483648), 2147483647)], [(12, false)], [(400, [(1, (-1))])], [], [], [(0, (false, 11, 0, []), 0, 0, 0, [(1, 1)])], [(40, [(0, [(0, 1)]), ((-1), [(1, 1)]), (4, []), (0, []), (0, []), (0, [(2, 1)]), (0, [(3, 1)]), (0, [(4, 1)]), (0, [(5, 1)]), (0, [(8, 1)])]), (36, [(0, [(0, 1)]), ((-1), [(1, 1)]), (59, []), (0, [(6, 1)]), (0, [(7, 1)])])]), [([((-2147483648), 2147483647), ((-2147483648), 2147483647), ((-2147483648), 2147483647), ((-2147483648), 2147483647), ((-2147483648), 2147483647), ((-2147483648), 2147483647), ((-2147483648), 2147483647), ((-9223372036854775808), 9223372036854775807), ((-2147483648), 2147483647)], [(12, false)], [], [], [], [], [(40, [(0, [(0, 1)]), (0, [(1, 1)]), (0, []), (0, []), (0, []), (1, [(2, 1)]), (0, [(3, 1)]), (0, [(4, 1)]), (0, [(5, 1)]), (1, [(8, 1)])])])])
theorem lk_269 : l_core lm_269 := by
  first
  | skip
    intro v x h
    have K := k_s_4 (V := v) (n := x 0) (d := x 1) (H := x 2) (L := x 3) (W := x 4) (WP := x 5) (s := x 6) (v := x 7) (S := x 8) (l_c9 (fun w0 w1 w2 w3 w4 w5 w6 w7 w8 : Int => q_run2 (t_b v) w0 w1 w2 w3 w3 w4 w5 w6 w7 w8) (l_e1 x 0) (l_q2 1 x 1) (l_e0 x (4)) (l_e0 x (0)) (l_e1 x 2) (l_e1 x 3) (l_e1 x 4) (l_e1 x 5) (l_e1 x 8) (h.2.2.2.1)) (l_c5 (fun w0 w1 w2 w3 w4 : Int => q_tok (t_b v) w0 w1 w2 w3 w4) (l_e1 x 0) (l_q2 1 x 1) (l_e0 x (59)) (l_e1 x 6) (l_e1 x 7) (h.2.2.2.2.1)) (l_cc (l_q1 400 x 1) (h.2.1.1))
    refine l_outH rfl (And.intro h.1 ?_)
    exact l_o8 (fun w0 w1 w2 w3 w4 w5 w6 w7 : Int => (True) ∧ (q_run2 (t_b v) w0 w1 w2 w2 w2 w3 w4 w5 w6 w7 ∧ True)) (l_e1 x 0) (l_e1 x 1) (l_e0 x (0)) (l_q3 1 x 2) (l_e1 x 3) (l_e1 x 4) (l_e1 x 5) (l_q3 1 x 8) K
  | skip
    intro v x h
    have C0 : (0 : Int) ≤ 400 - x 1 := l_cc (a := y_ev x (400, [(1, (-1))])) (by show ((400) : Int) + ((-1) * x 1 + 0) = 400 - x 1; omega) (h.2.1.1)
    have E0 : y_ev x (0, [(0, 1)]) = x 0 := (l_e1 _ _)
    have E1 : y_ev x ((-1), [(1, 1)]) = x 1 - 1 := (by show ((-1) : Int) + ((1) * x 1 + 0) = x 1 - 1; omega)
    have E2 : y_ev x (4, []) = 4 := (l_e0 _ _)
    have E3 : y_ev x (0, []) = 0 := (l_e0 _ _)
    have E4 : y_ev x (0, [(2, 1)]) = x 2 := (l_e1 _ _)
    have E5 : y_ev x (0, [(3, 1)]) = x 3 := (l_e1 _ _)
    have E6 : y_ev x (0, [(4, 1)]) = x 4 := (l_e1 _ _)
    have E7 : y_ev x (0, [(5, 1)]) = x 5 := (l_e1 _ _)
    have E8 : y_ev x (0, [(8, 1)]) = x 8 := (l_e1 _ _)
    have E9 : y_ev x (59, []) = 59 := (l_e0 _ _)
    have E10 : y_ev x (0, [(6, 1)]) = x 6 := (l_e1 _ _)
    have E11 : y_ev x (0, [(7, 1)]) = x 7 := (l_e1 _ _)
    have T0 : q_run2 (t_b v) (y_ev x (0, [(0, 1)])) (y_ev x ((-1), [(1, 1)])) (y_ev x (4, [])) (y_ev x (0, [])) (y_ev x (0, [])) (y_ev x (0, [(2, 1)])) (y_ev x (0, [(3, 1)])) (y_ev x (0, [(4, 1)])) (y_ev x (0, [(5, 1)])) (y_ev x (0, [(8, 1)])) := h.2.2.2.1
    (try rw [E0] at T0); (try rw [E1] at T0); (try rw [E2] at T0); (try rw [E3] at T0); (try rw [E4] at T0); (try rw [E5] at T0); (try rw [E6] at T0); (try rw [E7] at T0); (try rw [E8] at T0)
    have T1 : q_tok (t_b v) (y_ev x (0, [(0, 1)])) (y_ev x ((-1), [(1, 1)])) (y_ev x (59, [])) (y_ev x (0, [(6, 1)])) (y_ev x (0, [(7, 1)])) := h.2.2.2.2.1
    (try rw [E0] at T1); (try rw [E1] at T1); (try rw [E9] at T1); (try rw [E10] at T1); (try rw [E11] at T1)
    have K := k_s_4 (V := v) (n := x 0) (d := x 1) (H := x 2) (L := x 3) (W := x 4) (WP := x 5) (s := x 6) (v := x 7) (S := x 8) T0 T1 C0
    refine l_outH rfl (And.intro h.1 ?_)
    have O0 : y_ev x (0, [(0, 1)]) = x 0 := l_e1 _ _
    have O1 : y_ev x (0, [(1, 1)]) = x 1 := l_e1 _ _
    have O2 : y_ev x (0, []) = 0 := l_e0 _ _
    have O3 : y_ev x (1, [(2, 1)]) = x 2 + 1 := by show ((1) : Int) + ((1) * x 2 + 0) = _; omega
    have O4 : y_ev x (0, [(3, 1)]) = x 3 := l_e1 _ _
    have O5 : y_ev x (0, [(4, 1)]) = x 4 := l_e1 _ _
    have O6 : y_ev x (0, [(5, 1)]) = x 5 := l_e1 _ _
    have O7 : y_ev x (1, [(8, 1)]) = x 8 + 1 := by show ((1) : Int) + ((1) * x 8 + 0) = _; omega
    show (True) ∧ (q_run2 (t_b v) (y_ev x (0, [(0, 1)])) (y_ev x (0, [(1, 1)])) (y_ev x (0, [])) (y_ev x (0, [])) (y_ev x (0, [])) (y_ev x (1, [(2, 1)])) (y_ev x (0, [(3, 1)])) (y_ev x (0, [(4, 1)])) (y_ev x (0, [(5, 1)])) (y_ev x (1, [(8, 1)])) ∧ True)
    (try rw [O0]); (try rw [O1]); (try rw [O2]); (try rw [O3]); (try rw [O4]); (try rw [O5]); (try rw [O6]); (try rw [O7])
    exact K
def lm_270 : zLem := (([((-2147483648), 2147483647), ((-2147483648), 2147483647), ((-2147483648), 2147483647), ((-2147483648), 2147483647), ((-2147483648), 2147483647), ((-2147483648), 2147483647), ((-2147483648), 2147483647), ((-9223372036854775808), 9223372036854775807), ((-2147483648), 2147483647)], [(12, false)], [(400, [(1, (-1))])], [], [], [(0, (false, 11, 0, []), 0, 0, 0, [(1, 1)])], [(40, [(0, [(0, 1)]), ((-1), [(1, 1)]), (8, []), (0, []), (0, []), (0, [(2, 1)]), (0, [(3, 1)]), (0, [(4, 1)]), (0, [(5, 1)]), (0, [(8, 1)])]), (36, [(0, [(0, 1)]), ((-1), [(1, 1)]), (59, []), (0, [(6, 1)]), (0, [(7, 1)])])]), [([((-2147483648), 2147483647), ((-2147483648), 2147483647), ((-2147483648), 2147483647), ((-2147483648), 2147483647), ((-2147483648), 2147483647), ((-2147483648), 2147483647), ((-2147483648), 2147483647), ((-9223372036854775808), 9223372036854775807), ((-2147483648), 2147483647)], [(12, false)], [], [], [], [], [(40, [(0, [(0, 1)]), (0, [(1, 1)]), (0, []), (0, []), (0, []), (0, [(2, 1)]), (1, [(3, 1)]), (0, [(4, 1)]), (0, [(5, 1)]), (1, [(8, 1)])])])])
theorem lk_270 : l_core lm_270 := by
  first
  | skip
    intro v x h
    have K := k_s_8 (V := v) (n := x 0) (d := x 1) (H := x 2) (L := x 3) (W := x 4) (WP := x 5) (s := x 6) (v := x 7) (S := x 8) (l_c9 (fun w0 w1 w2 w3 w4 w5 w6 w7 w8 : Int => q_run2 (t_b v) w0 w1 w2 w3 w3 w4 w5 w6 w7 w8) (l_e1 x 0) (l_q2 1 x 1) (l_e0 x (8)) (l_e0 x (0)) (l_e1 x 2) (l_e1 x 3) (l_e1 x 4) (l_e1 x 5) (l_e1 x 8) (h.2.2.2.1)) (l_c5 (fun w0 w1 w2 w3 w4 : Int => q_tok (t_b v) w0 w1 w2 w3 w4) (l_e1 x 0) (l_q2 1 x 1) (l_e0 x (59)) (l_e1 x 6) (l_e1 x 7) (h.2.2.2.2.1)) (l_cc (l_q1 400 x 1) (h.2.1.1))
    refine l_outH rfl (And.intro h.1 ?_)
    exact l_o8 (fun w0 w1 w2 w3 w4 w5 w6 w7 : Int => (True) ∧ (q_run2 (t_b v) w0 w1 w2 w2 w2 w3 w4 w5 w6 w7 ∧ True)) (l_e1 x 0) (l_e1 x 1) (l_e0 x (0)) (l_e1 x 2) (l_q3 1 x 3) (l_e1 x 4) (l_e1 x 5) (l_q3 1 x 8) K
  | skip
    intro v x h
    have C0 : (0 : Int) ≤ 400 - x 1 := l_cc (a := y_ev x (400, [(1, (-1))])) (by show ((400) : Int) + ((-1) * x 1 + 0) = 400 - x 1; omega) (h.2.1.1)
    have E0 : y_ev x (0, [(0, 1)]) = x 0 := (l_e1 _ _)
    have E1 : y_ev x ((-1), [(1, 1)]) = x 1 - 1 := (by show ((-1) : Int) + ((1) * x 1 + 0) = x 1 - 1; omega)
    have E2 : y_ev x (8, []) = 8 := (l_e0 _ _)
    have E3 : y_ev x (0, []) = 0 := (l_e0 _ _)
    have E4 : y_ev x (0, [(2, 1)]) = x 2 := (l_e1 _ _)
    have E5 : y_ev x (0, [(3, 1)]) = x 3 := (l_e1 _ _)
    have E6 : y_ev x (0, [(4, 1)]) = x 4 := (l_e1 _ _)
    have E7 : y_ev x (0, [(5, 1)]) = x 5 := (l_e1 _ _)
    have E8 : y_ev x (0, [(8, 1)]) = x 8 := (l_e1 _ _)
    have E9 : y_ev x (59, []) = 59 := (l_e0 _ _)
    have E10 : y_ev x (0, [(6, 1)]) = x 6 := (l_e1 _ _)
    have E11 : y_ev x (0, [(7, 1)]) = x 7 := (l_e1 _ _)
    have T0 : q_run2 (t_b v) (y_ev x (0, [(0, 1)])) (y_ev x ((-1), [(1, 1)])) (y_ev x (8, [])) (y_ev x (0, [])) (y_ev x (0, [])) (y_ev x (0, [(2, 1)])) (y_ev x (0, [(3, 1)])) (y_ev x (0, [(4, 1)])) (y_ev x (0, [(5, 1)])) (y_ev x (0, [(8, 1)])) := h.2.2.2.1
    (try rw [E0] at T0); (try rw [E1] at T0); (try rw [E2] at T0); (try rw [E3] at T0); (try rw [E4] at T0); (try rw [E5] at T0); (try rw [E6] at T0); (try rw [E7] at T0); (try rw [E8] at T0)
    have T1 : q_tok (t_b v) (y_ev x (0, [(0, 1)])) (y_ev x ((-1), [(1, 1)])) (y_ev x (59, [])) (y_ev x (0, [(6, 1)])) (y_ev x (0, [(7, 1)])) := h.2.2.2.2.1
    (try rw [E0] at T1); (try rw [E1] at T1); (try rw [E9] at T1); (try rw [E10] at T1); (try rw [E11] at T1)
    have K := k_s_8 (V := v) (n := x 0) (d := x 1) (H := x 2) (L := x 3) (W := x 4) (WP := x 5) (s := x 6) (v := x 7) (S := x 8) T0 T1 C0
    refine l_outH rfl (And.intro h.1 ?_)
    have O0 : y_ev x (0, [(0, 1)]) = x 0 := l_e1 _ _
    have O1 : y_ev x (0, [(1, 1)]) = x 1 := l_e1 _ _
    have O2 : y_ev x (0, []) = 0 := l_e0 _ _
    have O3 : y_ev x (0, [(2, 1)]) = x 2 := l_e1 _ _
    have O4 : y_ev x (1, [(3, 1)]) = x 3 + 1 := by show ((1) : Int) + ((1) * x 3 + 0) = _; omega
    have O5 : y_ev x (0, [(4, 1)]) = x 4 := l_e1 _ _
    have O6 : y_ev x (0, [(5, 1)]) = x 5 := l_e1 _ _
    have O7 : y_ev x (1, [(8, 1)]) = x 8 + 1 := by show ((1) : Int) + ((1) * x 8 + 0) = _; omega
    show (True) ∧ (q_run2 (t_b v) (y_ev x (0, [(0, 1)])) (y_ev x (0, [(1, 1)])) (y_ev x (0, [])) (y_ev x (0, [])) (y_ev x (0, [])) (y_ev x (0, [(2, 1)])) (y_ev x (1, [(3, 1)])) (y_ev x (0, [(4, 1)])) (y_ev x (0, [(5, 1)])) (y_ev x (1, [(8, 1)])) ∧ True)
    (try rw [O0]); (try rw [O1]); (try rw [O2]); (try rw [O3]); (try rw [O4]); (try rw [O5]); (try rw [O6]); (try rw [O7])
    exact K
def lm_271 : zLem := (([((-2147483648), 2147483647), ((-2147483648), 2147483647), ((-2147483648), 2147483647), ((-2147483648), 2147483647), ((-2147483648), 2147483647), ((-2147483648), 2147483647), ((-2147483648), 2147483647), ((-9223372036854775808), 9223372036854775807), ((-2147483648), 2147483647)], [(12, false)], [(400, [(1, (-1))])], [], [], [(0, (false, 11, 0, []), 0, 0, 0, [(1, 1)])], [(40, [(0, [(0, 1)]), ((-1), [(1, 1)]), (13, []), (0, []), (0, []), (0, [(2, 1)]), (0, [(3, 1)]), (0, [(4, 1)]), (0, [(5, 1)]), (0, [(8, 1)])]), (36, [(0, [(0, 1)]), ((-1), [(1, 1)]), (59, []), (0, [(6, 1)]), (0, [(7, 1)])])]), [([((-2147483648), 2147483647), ((-2147483648), 2147483647), ((-2147483648), 2147483647), ((-2147483648), 2147483647), ((-2147483648), 2147483647), ((-2147483648), 2147483647), ((-2147483648), 2147483647), ((-9223372036854775808), 9223372036854775807), ((-2147483648), 2147483647)], [(12, false)], [], [], [], [], [(40, [(0, [(0, 1)]), (0, [(1, 1)]), (0, []), (0, []), (0, []), (0, [(2, 1)]), (0, [(3, 1)]), (0, [(4, 1)]), (0, [(5, 1)]), (1, [(8, 1)])])])])
theorem lk_271 : l_core lm_271 := by
  first
  | skip
    intro v x h
    have K := k_s_13 (V := v) (n := x 0) (d := x 1) (H := x 2) (L := x 3) (W := x 4) (WP := x 5) (s := x 6) (v := x 7) (S := x 8) (l_c9 (fun w0 w1 w2 w3 w4 w5 w6 w7 w8 : Int => q_run2 (t_b v) w0 w1 w2 w3 w3 w4 w5 w6 w7 w8) (l_e1 x 0) (l_q2 1 x 1) (l_e0 x (13)) (l_e0 x (0)) (l_e1 x 2) (l_e1 x 3) (l_e1 x 4) (l_e1 x 5) (l_e1 x 8) (h.2.2.2.1)) (l_c5 (fun w0 w1 w2 w3 w4 : Int => q_tok (t_b v) w0 w1 w2 w3 w4) (l_e1 x 0) (l_q2 1 x 1) (l_e0 x (59)) (l_e1 x 6) (l_e1 x 7) (h.2.2.2.2.1)) (l_cc (l_q1 400 x 1) (h.2.1.1))
    refine l_outH rfl (And.intro h.1 ?_)
    exact l_o8 (fun w0 w1 w2 w3 w4 w5 w6 w7 : Int => (True) ∧ (q_run2 (t_b v) w0 w1 w2 w2 w2 w3 w4 w5 w6 w7 ∧ True)) (l_e1 x 0) (l_e1 x 1) (l_e0 x (0)) (l_e1 x 2) (l_e1 x 3) (l_e1 x 4) (l_e1 x 5) (l_q3 1 x 8) K
  | skip
    intro v x h
    have C0 : (0 : Int) ≤ 400 - x 1 := l_cc (a := y_ev x (400, [(1, (-1))])) (by show ((400) : Int) + ((-1) * x 1 + 0) = 400 - x 1; omega) (h.2.1.1)
    have E0 : y_ev x (0, [(0, 1)]) = x 0 := (l_e1 _ _)
    have E1 : y_ev x ((-1), [(1, 1)]) = x 1 - 1 := (by show ((-1) : Int) + ((1) * x 1 + 0) = x 1 - 1; omega)
    have E2 : y_ev x (13, []) = 13 := (l_e0 _ _)
    have E3 : y_ev x (0, []) = 0 := (l_e0 _ _)
    have E4 : y_ev x (0, [(2, 1)]) = x 2 := (l_e1 _ _)
    have E5 : y_ev x (0, [(3, 1)]) = x 3 := (l_e1 _ _)
    have E6 : y_ev x (0, [(4, 1)]) = x 4 := (l_e1 _ _)
    have E7 : y_ev x (0, [(5, 1)]) = x 5 := (l_e1 _ _)
    have E8 : y_ev x (0, [(8, 1)]) = x 8 := (l_e1 _ _)
    have E9 : y_ev x (59, []) = 59 := (l_e0 _ _)
    have E10 : y_ev x (0, [(6, 1)]) = x 6 := (l_e1 _ _)
    have E11 : y_ev x (0, [(7, 1)]) = x 7 := (l_e1 _ _)
    have T0 : q_run2 (t_b v) (y_ev x (0, [(0, 1)])) (y_ev x ((-1), [(1, 1)])) (y_ev x (13, [])) (y_ev x (0, [])) (y_ev x (0, [])) (y_ev x (0, [(2, 1)])) (y_ev x (0, [(3, 1)])) (y_ev x (0, [(4, 1)])) (y_ev x (0, [(5, 1)])) (y_ev x (0, [(8, 1)])) := h.2.2.2.1
    (try rw [E0] at T0); (try rw [E1] at T0); (try rw [E2] at T0); (try rw [E3] at T0); (try rw [E4] at T0); (try rw [E5] at T0); (try rw [E6] at T0); (try rw [E7] at T0); (try rw [E8] at T0)
    have T1 : q_tok (t_b v) (y_ev x (0, [(0, 1)])) (y_ev x ((-1), [(1, 1)])) (y_ev x (59, [])) (y_ev x (0, [(6, 1)])) (y_ev x (0, [(7, 1)])) := h.2.2.2.2.1
    (try rw [E0] at T1); (try rw [E1] at T1); (try rw [E9] at T1); (try rw [E10] at T1); (try rw [E11] at T1)
    have K := k_s_13 (V := v) (n := x 0) (d := x 1) (H := x 2) (L := x 3) (W := x 4) (WP := x 5) (s := x 6) (v := x 7) (S := x 8) T0 T1 C0
    refine l_outH rfl (And.intro h.1 ?_)
    have O0 : y_ev x (0, [(0, 1)]) = x 0 := l_e1 _ _
    have O1 : y_ev x (0, [(1, 1)]) = x 1 := l_e1 _ _
    have O2 : y_ev x (0, []) = 0 := l_e0 _ _
    have O3 : y_ev x (0, [(2, 1)]) = x 2 := l_e1 _ _
    have O4 : y_ev x (0, [(3, 1)]) = x 3 := l_e1 _ _
    have O5 : y_ev x (0, [(4, 1)]) = x 4 := l_e1 _ _
    have O6 : y_ev x (0, [(5, 1)]) = x 5 := l_e1 _ _
    have O7 : y_ev x (1, [(8, 1)]) = x 8 + 1 := by show ((1) : Int) + ((1) * x 8 + 0) = _; omega
    show (True) ∧ (q_run2 (t_b v) (y_ev x (0, [(0, 1)])) (y_ev x (0, [(1, 1)])) (y_ev x (0, [])) (y_ev x (0, [])) (y_ev x (0, [])) (y_ev x (0, [(2, 1)])) (y_ev x (0, [(3, 1)])) (y_ev x (0, [(4, 1)])) (y_ev x (0, [(5, 1)])) (y_ev x (1, [(8, 1)])) ∧ True)
    (try rw [O0]); (try rw [O1]); (try rw [O2]); (try rw [O3]); (try rw [O4]); (try rw [O5]); (try rw [O6]); (try rw [O7])
    exact K
def lm_272 : zLem := (([((-2147483648), 2147483647), ((-2147483648), 2147483647), ((-2147483648), 2147483647), ((-2147483648), 2147483647), ((-2147483648), 2147483647), ((-2147483648), 2147483647), ((-2147483648), 2147483647), ((-9223372036854775808), 9223372036854775807), ((-2147483648), 2147483647)], [(12, false)], [(400, [(1, (-1))])], [], [], [(0, (false, 11, 0, []), 0, 0, 0, [(1, 1)])], [(40, [(0, [(0, 1)]), ((-1), [(1, 1)]), (20, []), (0, []), (0, []), (0, [(2, 1)]), (0, [(3, 1)]), (0, [(4, 1)]), (0, [(5, 1)]), (0, [(8, 1)])]), (36, [(0, [(0, 1)]), ((-1), [(1, 1)]), (61, []), (0, [(6, 1)]), (0, [(7, 1)])])]), [([((-2147483648), 2147483647), ((-2147483648), 2147483647), ((-2147483648), 2147483647), ((-2147483648), 2147483647), ((-2147483648), 2147483647), ((-2147483648), 2147483647), ((-2147483648), 2147483647), ((-9223372036854775808), 9223372036854775807), ((-2147483648), 2147483647)], [(12, false)], [], [], [], [], [(40, [(0, [(0, 1)]), (0, [(1, 1)]), (30, []), (0, []), (0, []), (0, [(2, 1)]), (0, [(3, 1)]), (0, [(4, 1)]), (0, [(5, 1)]), (0, [(8, 1)])])])])
theorem lk_272 : l_core lm_272 := by
  first
  | skip
    intro v x h
    have K := k_s_20 (V := v) (n := x 0) (d := x 1) (H := x 2) (L := x 3) (W := x 4) (WP := x 5) (s := x 6) (v := x 7) (S := x 8) (l_c9 (fun w0 w1 w2 w3 w4 w5 w6 w7 w8 : Int => q_run2 (t_b v) w0 w1 w2 w3 w3 w4 w5 w6 w7 w8) (l_e1 x 0) (l_q2 1 x 1) (l_e0 x (20)) (l_e0 x (0)) (l_e1 x 2) (l_e1 x 3) (l_e1 x 4) (l_e1 x 5) (l_e1 x 8) (h.2.2.2.1)) (l_c5 (fun w0 w1 w2 w3 w4 : Int => q_tok (t_b v) w0 w1 w2 w3 w4) (l_e1 x 0) (l_q2 1 x 1) (l_e0 x (61)) (l_e1 x 6) (l_e1 x 7) (h.2.2.2.2.1)) (l_cc (l_q1 400 x 1) (h.2.1.1))
    refine l_outH rfl (And.intro h.1 ?_)
    exact l_o9 (fun w0 w1 w2 w3 w4 w5 w6 w7 w8 : Int => (True) ∧ (q_run2 (t_b v) w0 w1 w2 w3 w3 w4 w5 w6 w7 w8 ∧ True)) (l_e1 x 0) (l_e1 x 1) (l_e0 x (30)) (l_e0 x (0)) (l_e1 x 2) (l_e1 x 3) (l_e1 x 4) (l_e1 x 5) (l_e1 x 8) K
  | skip
    intro v x h
    have C0 : (0 : Int) ≤ 400 - x 1 := l_cc (a := y_ev x (400, [(1, (-1))])) (by show ((400) : Int) + ((-1) * x 1 + 0) = 400 - x 1; omega) (h.2.1.1)
    have E0 : y_ev x (0, [(0, 1)]) = x 0 := (l_e1 _ _)
    have E1 : y_ev x ((-1), [(1, 1)]) = x 1 - 1 := (by show ((-1) : Int) + ((1) * x 1 + 0) = x 1 - 1; omega)
    have E2 : y_ev x (20, []) = 20 := (l_e0 _ _)
    have E3 : y_ev x (0, []) = 0 := (l_e0 _ _)
    have E4 : y_ev x (0, [(2, 1)]) = x 2 := (l_e1 _ _)
    have E5 : y_ev x (0, [(3, 1)]) = x 3 := (l_e1 _ _)
    have E6 : y_ev x (0, [(4, 1)]) = x 4 := (l_e1 _ _)
    have E7 : y_ev x (0, [(5, 1)]) = x 5 := (l_e1 _ _)
    have E8 : y_ev x (0, [(8, 1)]) = x 8 := (l_e1 _ _)
    have E9 : y_ev x (61, []) = 61 := (l_e0 _ _)
    have E10 : y_ev x (0, [(6, 1)]) = x 6 := (l_e1 _ _)
    have E11 : y_ev x (0, [(7, 1)]) = x 7 := (l_e1 _ _)
    have T0 : q_run2 (t_b v) (y_ev x (0, [(0, 1)])) (y_ev x ((-1), [(1, 1)])) (y_ev x (20, [])) (y_ev x (0, [])) (y_ev x (0, [])) (y_ev x (0, [(2, 1)])) (y_ev x (0, [(3, 1)])) (y_ev x (0, [(4, 1)])) (y_ev x (0, [(5, 1)])) (y_ev x (0, [(8, 1)])) := h.2.2.2.1
    (try rw [E0] at T0); (try rw [E1] at T0); (try rw [E2] at T0); (try rw [E3] at T0); (try rw [E4] at T0); (try rw [E5] at T0); (try rw [E6] at T0); (try rw [E7] at T0); (try rw [E8] at T0)
    have T1 : q_tok (t_b v) (y_ev x (0, [(0, 1)])) (y_ev x ((-1), [(1, 1)])) (y_ev x (61, [])) (y_ev x (0, [(6, 1)])) (y_ev x (0, [(7, 1)])) := h.2.2.2.2.1
    (try rw [E0] at T1); (try rw [E1] at T1); (try rw [E9] at T1); (try rw [E10] at T1); (try rw [E11] at T1)
    have K := k_s_20 (V := v) (n := x 0) (d := x 1) (H := x 2) (L := x 3) (W := x 4) (WP := x 5) (s := x 6) (v := x 7) (S := x 8) T0 T1 C0
    refine l_outH rfl (And.intro h.1 ?_)
    have O0 : y_ev x (0, [(0, 1)]) = x 0 := l_e1 _ _
    have O1 : y_ev x (0, [(1, 1)]) = x 1 := l_e1 _ _
    have O2 : y_ev x (30, []) = 30 := l_e0 _ _
    have O3 : y_ev x (0, []) = 0 := l_e0 _ _
    have O4 : y_ev x (0, [(2, 1)]) = x 2 := l_e1 _ _
    have O5 : y_ev x (0, [(3, 1)]) = x 3 := l_e1 _ _
    have O6 : y_ev x (0, [(4, 1)]) = x 4 := l_e1 _ _
    have O7 : y_ev x (0, [(5, 1)]) = x 5 := l_e1 _ _
    have O8 : y_ev x (0, [(8, 1)]) = x 8 := l_e1 _ _
    show (True) ∧ (q_run2 (t_b v) (y_ev x (0, [(0, 1)])) (y_ev x (0, [(1, 1)])) (y_ev x (30, [])) (y_ev x (0, [])) (y_ev x (0, [])) (y_ev x (0, [(2, 1)])) (y_ev x (0, [(3, 1)])) (y_ev x (0, [(4, 1)])) (y_ev x (0, [(5, 1)])) (y_ev x (0, [(8, 1)])) ∧ True)
    (try rw [O0]); (try rw [O1]); (try rw [O2]); (try rw [O3]); (try rw [O4]); (try rw [O5]); (try rw [O6]); (try rw [O7]); (try rw [O8])
    exact K
def lm_273 : zLem := (([((-2147483648), 2147483647), ((-2147483648), 2147483647), ((-2147483648), 2147483647), ((-2147483648), 2147483647), ((-2147483648), 2147483647), ((-2147483648), 2147483647), ((-2147483648), 2147483647), ((-9223372036854775808), 9223372036854775807), ((-2147483648), 2147483647)], [(12, false)], [(400, [(1, (-1))]), (0, [(7, 1)]), (20, [(7, (-1))])], [], [], [(0, (false, 11, 0, []), 0, 0, 0, [(1, 1)])], [(40, [(0, [(0, 1)]), ((-1), [(1, 1)]), (2, []), (0, []), (0, []), (0, [(2, 1)]), (0, [(3, 1)]), (0, [(4, 1)]), (0, [(5, 1)]), (0, [(8, 1)])]), (36, [(0, [(0, 1)]), ((-1), [(1, 1)]), (3, []), (0, [(6, 1)]), (0, [(7, 1)])])]), [([((-2147483648), 2147483647), ((-2147483648), 2147483647), ((-2147483648), 2147483647), ((-2147483648), 2147483647), ((-2147483648), 2147483647), ((-2147483648), 2147483647), ((-2147483648), 2147483647), ((-9223372036854775808), 9223372036854775807), ((-2147483648), 2147483647)], [(12, false)], [], [], [], [], [(40, [(0, [(0, 1)]), (0, [(1, 1)]), (3, []), (0, []), (0, []), (0, [(2, 1)]), (0, [(3, 1)]), (0, [(4, 1)]), (0, [(5, 1)]), (0, [(8, 1)])])])])
theorem lk_273 : l_core lm_273 := by
  first
  | skip
    intro v x h
    have K := k_i2_in (V := v) (n := x 0) (d := x 1) (H := x 2) (L := x 3) (W := x 4) (WP := x 5) (s := x 6) (v := x 7) (S := x 8) (l_c9 (fun w0 w1 w2 w3 w4 w5 w6 w7 w8 : Int => q_run2 (t_b v) w0 w1 w2 w3 w3 w4 w5 w6 w7 w8) (l_e1 x 0) (l_q2 1 x 1) (l_e0 x (2)) (l_e0 x (0)) (l_e1 x 2) (l_e1 x 3) (l_e1 x 4) (l_e1 x 5) (l_e1 x 8) (h.2.2.2.1)) (l_c5 (fun w0 w1 w2 w3 w4 : Int => q_tok (t_b v) w0 w1 w2 w3 w4) (l_e1 x 0) (l_q2 1 x 1) (l_e0 x (3)) (l_e1 x 6) (l_e1 x 7) (h.2.2.2.2.1)) (l_cc (l_q1 400 x 1) (h.2.1.1)) (l_cc (l_e1 x 7) (h.2.1.2.1)) (l_cc (l_q1 20 x 7) (h.2.1.2.2.1))
    refine l_outH rfl (And.intro h.1 ?_)
    exact l_o9 (fun w0 w1 w2 w3 w4 w5 w6 w7 w8 : Int => (True) ∧ (q_run2 (t_b v) w0 w1 w2 w3 w3 w4 w5 w6 w7 w8 ∧ True)) (l_e1 x 0) (l_e1 x 1) (l_e0 x (3)) (l_e0 x (0)) (l_e1 x 2) (l_e1 x 3) (l_e1 x 4) (l_e1 x 5) (l_e1 x 8) K
  | skip
    intro v x h
    have C0 : (0 : Int) ≤ 400 - x 1 := l_cc (a := y_ev x (400, [(1, (-1))])) (by show ((400) : Int) + ((-1) * x 1 + 0) = 400 - x 1; omega) (h.2.1.1)
    have C1 : (0 : Int) ≤ x 7 := l_cc (a := y_ev x (0, [(7, 1)])) (l_e1 _ _) (h.2.1.2.1)
    have C2 : (0 : Int) ≤ 20 - x 7 := l_cc (a := y_ev x (20, [(7, (-1))])) (by show ((20) : Int) + ((-1) * x 7 + 0) = 20 - x 7; omega) (h.2.1.2.2.1)
    have E0 : y_ev x (0, [(0, 1)]) = x 0 := (l_e1 _ _)
    have E1 : y_ev x ((-1), [(1, 1)]) = x 1 - 1 := (by show ((-1) : Int) + ((1) * x 1 + 0) = x 1 - 1; omega)
    have E2 : y_ev x (2, []) = 2 := (l_e0 _ _)
    have E3 : y_ev x (0, []) = 0 := (l_e0 _ _)
    have E4 : y_ev x (0, [(2, 1)]) = x 2 := (l_e1 _ _)
    have E5 : y_ev x (0, [(3, 1)]) = x 3 := (l_e1 _ _)
    have E6 : y_ev x (0, [(4, 1)]) = x 4 := (l_e1 _ _)
    have E7 : y_ev x (0, [(5, 1)]) = x 5 := (l_e1 _ _)
    have E8 : y_ev x (0, [(8, 1)]) = x 8 := (l_e1 _ _)
    have E9 : y_ev x (3, []) = 3 := (l_e0 _ _)
    have E10 : y_ev x (0, [(6, 1)]) = x 6 := (l_e1 _ _)
    have E11 : y_ev x (0, [(7, 1)]) = x 7 := (l_e1 _ _)
    have T0 : q_run2 (t_b v) (y_ev x (0, [(0, 1)])) (y_ev x ((-1), [(1, 1)])) (y_ev x (2, [])) (y_ev x (0, [])) (y_ev x (0, [])) (y_ev x (0, [(2, 1)])) (y_ev x (0, [(3, 1)])) (y_ev x (0, [(4, 1)])) (y_ev x (0, [(5, 1)])) (y_ev x (0, [(8, 1)])) := h.2.2.2.1
    (try rw [E0] at T0); (try rw [E1] at T0); (try rw [E2] at T0); (try rw [E3] at T0); (try rw [E4] at T0); (try rw [E5] at T0); (try rw [E6] at T0); (try rw [E7] at T0); (try rw [E8] at T0)
    have T1 : q_tok (t_b v) (y_ev x (0, [(0, 1)])) (y_ev x ((-1), [(1, 1)])) (y_ev x (3, [])) (y_ev x (0, [(6, 1)])) (y_ev x (0, [(7, 1)])) := h.2.2.2.2.1
    (try rw [E0] at T1); (try rw [E1] at T1); (try rw [E9] at T1); (try rw [E10] at T1); (try rw [E11] at T1)
    have K := k_i2_in (V := v) (n := x 0) (d := x 1) (H := x 2) (L := x 3) (W := x 4) (WP := x 5) (s := x 6) (v := x 7) (S := x 8) T0 T1 C0 C1 C2
    refine l_outH rfl (And.intro h.1 ?_)
    have O0 : y_ev x (0, [(0, 1)]) = x 0 := l_e1 _ _
    have O1 : y_ev x (0, [(1, 1)]) = x 1 := l_e1 _ _
    have O2 : y_ev x (3, []) = 3 := l_e0 _ _
    have O3 : y_ev x (0, []) = 0 := l_e0 _ _
    have O4 : y_ev x (0, [(2, 1)]) = x 2 := l_e1 _ _
    have O5 : y_ev x (0, [(3, 1)]) = x 3 := l_e1 _ _
    have O6 : y_ev x (0, [(4, 1)]) = x 4 := l_e1 _ _
    have O7 : y_ev x (0, [(5, 1)]) = x 5 := l_e1 _ _
    have O8 : y_ev x (0, [(8, 1)]) = x 8 := l_e1 _ _
    show (True) ∧ (q_run2 (t_b v) (y_ev x (0, [(0, 1)])) (y_ev x (0, [(1, 1)])) (y_ev x (3, [])) (y_ev x (0, [])) (y_ev x (0, [])) (y_ev x (0, [(2, 1)])) (y_ev x (0, [(3, 1)])) (y_ev x (0, [(4, 1)])) (y_ev x (0, [(5, 1)])) (y_ev x (0, [(8, 1)])) ∧ True)
    (try rw [O0]); (try rw [O1]); (try rw [O2]); (try rw [O3]); (try rw [O4]); (try rw [O5]); (try rw [O6]); (try rw [O7]); (try rw [O8])
    exact K
def lm_274 : zLem := (([((-2147483648), 2147483647), ((-2147483648), 2147483647), ((-2147483648), 2147483647), ((-2147483648), 2147483647), ((-2147483648), 2147483647), ((-2147483648), 2147483647), ((-2147483648), 2147483647), ((-9223372036854775808), 9223372036854775807), ((-2147483648), 2147483647)], [(12, false)], [(400, [(1, (-1))]), ((-1), [(4, 1)])], [], [], [(0, (false, 11, 0, []), 0, 0, 0, [(1, 1)])], [(40, [(0, [(0, 1)]), ((-1), [(1, 1)]), (2, []), (0, []), (0, []), (0, [(2, 1)]), (0, [(3, 1)]), (0, [(4, 1)]), (0, [(5, 1)]), (0, [(8, 1)])]), (36, [(0, [(0, 1)]), ((-1), [(1, 1)]), (3, []), (0, [(6, 1)]), (0, [(7, 1)])])]), [([((-2147483648), 2147483647), ((-2147483648), 2147483647), ((-2147483648), 2147483647), ((-2147483648), 2147483647), ((-2147483648), 2147483647), ((-2147483648), 2147483647), ((-2147483648), 2147483647), ((-9223372036854775808), 9223372036854775807), ((-2147483648), 2147483647)], [(12, false)], [], [], [], [], [(40, [(0, [(0, 1)]), (0, [(1, 1)]), (3, []), (0, []), (0, []), (0, [(2, 1)]), (0, [(3, 1)]), (0, [(4, 1)]), (0, [(5, 1)]), (0, [(8, 1)])])])])
theorem lk_274 : l_core lm_274 := by
  first
  | skip
    intro v x h
    have K := k_i2_w (V := v) (n := x 0) (d := x 1) (H := x 2) (L := x 3) (W := x 4) (WP := x 5) (s := x 6) (v := x 7) (S := x 8) (l_c9 (fun w0 w1 w2 w3 w4 w5 w6 w7 w8 : Int => q_run2 (t_b v) w0 w1 w2 w3 w3 w4 w5 w6 w7 w8) (l_e1 x 0) (l_q2 1 x 1) (l_e0 x (2)) (l_e0 x (0)) (l_e1 x 2) (l_e1 x 3) (l_e1 x 4) (l_e1 x 5) (l_e1 x 8) (h.2.2.2.1)) (l_c5 (fun w0 w1 w2 w3 w4 : Int => q_tok (t_b v) w0 w1 w2 w3 w4) (l_e1 x 0) (l_q2 1 x 1) (l_e0 x (3)) (l_e1 x 6) (l_e1 x 7) (h.2.2.2.2.1)) (l_cc (l_q1 400 x 1) (h.2.1.1)) (l_cc (l_q2 1 x 4) (h.2.1.2.1))
    refine l_outH rfl (And.intro h.1 ?_)
    exact l_o9 (fun w0 w1 w2 w3 w4 w5 w6 w7 w8 : Int => (True) ∧ (q_run2 (t_b v) w0 w1 w2 w3 w3 w4 w5 w6 w7 w8 ∧ True)) (l_e1 x 0) (l_e1 x 1) (l_e0 x (3)) (l_e0 x (0)) (l_e1 x 2) (l_e1 x 3) (l_e1 x 4) (l_e1 x 5) (l_e1 x 8) K
  | skip
    intro v x h
    have C0 : (0 : Int) ≤ 400 - x 1 := l_cc (a := y_ev x (400, [(1, (-1))])) (by show ((400) : Int) + ((-1) * x 1 + 0) = 400 - x 1; omega) (h.2.1.1)
    have C1 : (0 : Int) ≤ x 4 - 1 := l_cc (a := y_ev x ((-1), [(4, 1)])) (by show ((-1) : Int) + ((1) * x 4 + 0) = x 4 - 1; omega) (h.2.1.2.1)
    have E0 : y_ev x (0, [(0, 1)]) = x 0 := (l_e1 _ _)
    have E1 : y_ev x ((-1), [(1, 1)]) = x 1 - 1 := (by show ((-1) : Int) + ((1) * x 1 + 0) = x 1 - 1; omega)
    have E2 : y_ev x (2, []) = 2 := (l_e0 _ _)
    have E3 : y_ev x (0, []) = 0 := (l_e0 _ _)
    have E4 : y_ev x (0, [(2, 1)]) = x 2 := (l_e1 _ _)
    have E5 : y_ev x (0, [(3, 1)]) = x 3 := (l_e1 _ _)
    have E6 : y_ev x (0, [(4, 1)]) = x 4 := (l_e1 _ _)
    have E7 : y_ev x (0, [(5, 1)]) = x 5 := (l_e1 _ _)
    have E8 : y_ev x (0, [(8, 1)]) = x 8 := (l_e1 _ _)
    have E9 : y_ev x (3, []) = 3 := (l_e0 _ _)
    have E10 : y_ev x (0, [(6, 1)]) = x 6 := (l_e1 _ _)
    have E11 : y_ev x (0, [(7, 1)]) = x 7 := (l_e1 _ _)
    have T0 : q_run2 (t_b v) (y_ev x (0, [(0, 1)])) (y_ev x ((-1), [(1, 1)])) (y_ev x (2, [])) (y_ev x (0, [])) (y_ev x (0, [])) (y_ev x (0, [(2, 1)])) (y_ev x (0, [(3, 1)])) (y_ev x (0, [(4, 1)])) (y_ev x (0, [(5, 1)])) (y_ev x (0, [(8, 1)])) := h.2.2.2.1
    (try rw [E0] at T0); (try rw [E1] at T0); (try rw [E2] at T0); (try rw [E3] at T0); (try rw [E4] at T0); (try rw [E5] at T0); (try rw [E6] at T0); (try rw [E7] at T0); (try rw [E8] at T0)
    have T1 : q_tok (t_b v) (y_ev x (0, [(0, 1)])) (y_ev x ((-1), [(1, 1)])) (y_ev x (3, [])) (y_ev x (0, [(6, 1)])) (y_ev x (0, [(7, 1)])) := h.2.2.2.2.1
    (try rw [E0] at T1); (try rw [E1] at T1); (try rw [E9] at T1); (try rw [E10] at T1); (try rw [E11] at T1)
    have K := k_i2_w (V := v) (n := x 0) (d := x 1) (H := x 2) (L := x 3) (W := x 4) (WP := x 5) (s := x 6) (v := x 7) (S := x 8) T0 T1 C0 C1
    refine l_outH rfl (And.intro h.1 ?_)
    have O0 : y_ev x (0, [(0, 1)]) = x 0 := l_e1 _ _
    have O1 : y_ev x (0, [(1, 1)]) = x 1 := l_e1 _ _
    have O2 : y_ev x (3, []) = 3 := l_e0 _ _
    have O3 : y_ev x (0, []) = 0 := l_e0 _ _
    have O4 : y_ev x (0, [(2, 1)]) = x 2 := l_e1 _ _
    have O5 : y_ev x (0, [(3, 1)]) = x 3 := l_e1 _ _
    have O6 : y_ev x (0, [(4, 1)]) = x 4 := l_e1 _ _
    have O7 : y_ev x (0, [(5, 1)]) = x 5 := l_e1 _ _
    have O8 : y_ev x (0, [(8, 1)]) = x 8 := l_e1 _ _
    show (True) ∧ (q_run2 (t_b v) (y_ev x (0, [(0, 1)])) (y_ev x (0, [(1, 1)])) (y_ev x (3, [])) (y_ev x (0, [])) (y_ev x (0, [])) (y_ev x (0, [(2, 1)])) (y_ev x (0, [(3, 1)])) (y_ev x (0, [(4, 1)])) (y_ev x (0, [(5, 1)])) (y_ev x (0, [(8, 1)])) ∧ True)
    (try rw [O0]); (try rw [O1]); (try rw [O2]); (try rw [O3]); (try rw [O4]); (try rw [O5]); (try rw [O6]); (try rw [O7]); (try rw [O8])
    exact K
def lm_275 : zLem := (([((-2147483648), 2147483647), ((-2147483648), 2147483647), ((-2147483648), 2147483647), ((-2147483648), 2147483647), ((-2147483648), 2147483647), ((-2147483648), 2147483647), ((-2147483648), 2147483647), ((-9223372036854775808), 9223372036854775807), ((-2147483648), 2147483647)], [(12, false)], [(400, [(1, (-1))]), (0, [(4, 1)]), (0, [(4, (-1))]), ((-1), [(7, (-1))])], [], [], [(0, (false, 11, 0, []), 0, 0, 0, [(1, 1)])], [(40, [(0, [(0, 1)]), ((-1), [(1, 1)]), (2, []), (0, []), (0, []), (0, [(2, 1)]), (0, [(3, 1)]), (0, [(4, 1)]), (0, [(5, 1)]), (0, [(8, 1)])]), (36, [(0, [(0, 1)]), ((-1), [(1, 1)]), (3, []), (0, [(6, 1)]), (0, [(7, 1)])])]), [([((-2147483648), 2147483647), ((-2147483648), 2147483647), ((-2147483648), 2147483647), ((-2147483648), 2147483647), ((-2147483648), 2147483647), ((-2147483648), 2147483647), ((-2147483648), 2147483647), ((-9223372036854775808), 9223372036854775807), ((-2147483648), 2147483647)], [(12, false)], [], [], [], [], [(40, [(0, [(0, 1)]), (0, [(1, 1)]), (3, []), (0, []), (0, []), (0, [(2, 1)]), (0, [(3, 1)]), (5, []), (0, [(6, 1)]), (0, [(8, 1)])])])])
theorem lk_275 : l_core lm_275 := by
  first
  | skip
    intro v x h
    have K := k_i2_lo (V := v) (n := x 0) (d := x 1) (H := x 2) (L := x 3) (W := x 4) (WP := x 5) (s := x 6) (v := x 7) (S := x 8) (l_c9 (fun w0 w1 w2 w3 w4 w5 w6 w7 w8 : Int => q_run2 (t_b v) w0 w1 w2 w3 w3 w4 w5 w6 w7 w8) (l_e1 x 0) (l_q2 1 x 1) (l_e0 x (2)) (l_e0 x (0)) (l_e1 x 2) (l_e1 x 3) (l_e1 x 4) (l_e1 x 5) (l_e1 x 8) (h.2.2.2.1)) (l_c5 (fun w0 w1 w2 w3 w4 : Int => q_tok (t_b v) w0 w1 w2 w3 w4) (l_e1 x 0) (l_q2 1 x 1) (l_e0 x (3)) (l_e1 x 6) (l_e1 x 7) (h.2.2.2.2.1)) (l_cc (l_q1 400 x 1) (h.2.1.1)) (l_cc (l_e1 x 4) (h.2.1.2.1)) (l_cc (l_q7 x 4) (h.2.1.2.2.1)) (l_cc (l_q11 1 x 7) (h.2.1.2.2.2.1))
    refine l_outH rfl (And.intro h.1 ?_)
    exact l_o9 (fun w0 w1 w2 w3 w4 w5 w6 w7 w8 : Int => (True) ∧ (q_run2 (t_b v) w0 w1 w2 w3 w3 w4 w5 w6 w7 w8 ∧ True)) (l_e1 x 0) (l_e1 x 1) (l_e0 x (3)) (l_e0 x (0)) (l_e1 x 2) (l_e1 x 3) (l_e0 x (5)) (l_e1 x 6) (l_e1 x 8) K
  | skip
    intro v x h
    have C0 : (0 : Int) ≤ 400 - x 1 := l_cc (a := y_ev x (400, [(1, (-1))])) (by show ((400) : Int) + ((-1) * x 1 + 0) = 400 - x 1; omega) (h.2.1.1)
    have C1 : (0 : Int) ≤ x 4 := l_cc (a := y_ev x (0, [(4, 1)])) (l_e1 _ _) (h.2.1.2.1)
    have C2 : (0 : Int) ≤ -x 4 := l_cc (a := y_ev x (0, [(4, (-1))])) (by show ((0) : Int) + ((-1) * x 4 + 0) = -x 4; omega) (h.2.1.2.2.1)
    have C3 : (0 : Int) ≤ -x 7 - 1 := l_cc (a := y_ev x ((-1), [(7, (-1))])) (by show ((-1) : Int) + ((-1) * x 7 + 0) = -x 7 - 1; omega) (h.2.1.2.2.2.1)
    have E0 : y_ev x (0, [(0, 1)]) = x 0 := (l_e1 _ _)
    have E1 : y_ev x ((-1), [(1, 1)]) = x 1 - 1 := (by show ((-1) : Int) + ((1) * x 1 + 0) = x 1 - 1; omega)
    have E2 : y_ev x (2, []) = 2 := (l_e0 _ _)
    have E3 : y_ev x (0, []) = 0 := (l_e0 _ _)
    have E4 : y_ev x (0, [(2, 1)]) = x 2 := (l_e1 _ _)
    have E5 : y_ev x (0, [(3, 1)]) = x 3 := (l_e1 _ _)
    have E6 : y_ev x (0, [(4, 1)]) = x 4 := (l_e1 _ _)
    have E7 : y_ev x (0, [(5, 1)]) = x 5 := (l_e1 _ _)
    have E8 : y_ev x (0, [(8, 1)]) = x 8 := (l_e1 _ _)
    have E9 : y_ev x (3, []) = 3 := (l_e0 _ _)
    have E10 : y_ev x (0, [(6, 1)]) = x 6 := (l_e1 _ _)
    have E11 : y_ev x (0, [(7, 1)]) = x 7 := (l_e1 _ _)
    have T0 : q_run2 (t_b v) (y_ev x (0, [(0, 1)])) (y_ev x ((-1), [(1, 1)])) (y_ev x (2, [])) (y_ev x (0, [])) (y_ev x (0, [])) (y_ev x (0, [(2, 1)])) (y_ev x (0, [(3, 1)])) (y_ev x (0, [(4, 1)])) (y_ev x (0, [(5, 1)])) (y_ev x (0, [(8, 1)])) := h.2.2.2.1
    (try rw [E0] at T0); (try rw [E1] at T0); (try rw [E2] at T0); (try rw [E3] at T0); (try rw [E4] at T0); (try rw [E5] at T0); (try rw [E6] at T0); (try rw [E7] at T0); (try rw [E8] at T0)
    have T1 : q_tok (t_b v) (y_ev x (0, [(0, 1)])) (y_ev x ((-1), [(1, 1)])) (y_ev x (3, [])) (y_ev x (0, [(6, 1)])) (y_ev x (0, [(7, 1)])) := h.2.2.2.2.1
    (try rw [E0] at T1); (try rw [E1] at T1); (try rw [E9] at T1); (try rw [E10] at T1); (try rw [E11] at T1)
    have K := k_i2_lo (V := v) (n := x 0) (d := x 1) (H := x 2) (L := x 3) (W := x 4) (WP := x 5) (s := x 6) (v := x 7) (S := x 8) T0 T1 C0 C1 C2 C3
    refine l_outH rfl (And.intro h.1 ?_)
    have O0 : y_ev x (0, [(0, 1)]) = x 0 := l_e1 _ _
    have O1 : y_ev x (0, [(1, 1)]) = x 1 := l_e1 _ _
    have O2 : y_ev x (3, []) = 3 := l_e0 _ _
    have O3 : y_ev x (0, []) = 0 := l_e0 _ _
    have O4 : y_ev x (0, [(2, 1)]) = x 2 := l_e1 _ _
    have O5 : y_ev x (0, [(3, 1)]) = x 3 := l_e1 _ _
    have O6 : y_ev x (5, []) = 5 := l_e0 _ _
    have O7 : y_ev x (0, [(6, 1)]) = x 6 := l_e1 _ _
    have O8 : y_ev x (0, [(8, 1)]) = x 8 := l_e1 _ _
    show (True) ∧ (q_run2 (t_b v) (y_ev x (0, [(0, 1)])) (y_ev x (0, [(1, 1)])) (y_ev x (3, [])) (y_ev x (0, [])) (y_ev x (0, [])) (y_ev x (0, [(2, 1)])) (y_ev x (0, [(3, 1)])) (y_ev x (5, [])) (y_ev x (0, [(6, 1)])) (y_ev x (0, [(8, 1)])) ∧ True)
    (try rw [O0]); (try rw [O1]); (try rw [O2]); (try rw [O3]); (try rw [O4]); (try rw [O5]); (try rw [O6]); (try rw [O7]); (try rw [O8])
    exact K
def lm_276 : zLem := (([((-2147483648), 2147483647), ((-2147483648), 2147483647), ((-2147483648), 2147483647), ((-2147483648), 2147483647), ((-2147483648), 2147483647), ((-2147483648), 2147483647), ((-2147483648), 2147483647), ((-9223372036854775808), 9223372036854775807), ((-2147483648), 2147483647)], [(12, false)], [(400, [(1, (-1))]), (0, [(4, 1)]), (0, [(4, (-1))]), ((-21), [(7, 1)])], [], [], [(0, (false, 11, 0, []), 0, 0, 0, [(1, 1)])], [(40, [(0, [(0, 1)]), ((-1), [(1, 1)]), (2, []), (0, []), (0, []), (0, [(2, 1)]), (0, [(3, 1)]), (0, [(4, 1)]), (0, [(5, 1)]), (0, [(8, 1)])]), (36, [(0, [(0, 1)]), ((-1), [(1, 1)]), (3, []), (0, [(6, 1)]), (0, [(7, 1)])])]), [([((-2147483648), 2147483647), ((-2147483648), 2147483647), ((-2147483648), 2147483647), ((-2147483648), 2147483647), ((-2147483648), 2147483647), ((-2147483648), 2147483647), ((-2147483648), 2147483647), ((-9223372036854775808), 9223372036854775807), ((-2147483648), 2147483647)], [(12, false)], [], [], [], [], [(40, [(0, [(0, 1)]), (0, [(1, 1)]), (3, []), (0, []), (0, []), (0, [(2, 1)]), (0, [(3, 1)]), (5, []), (0, [(6, 1)]), (0, [(8, 1)])])])])
theorem lk_276 : l_core lm_276 := by
  first
  | skip
    intro v x h
    have K := k_i2_hi (V := v) (n := x 0) (d := x 1) (H := x 2) (L := x 3) (W := x 4) (WP := x 5) (s := x 6) (v := x 7) (S := x 8) (l_c9 (fun w0 w1 w2 w3 w4 w5 w6 w7 w8 : Int => q_run2 (t_b v) w0 w1 w2 w3 w3 w4 w5 w6 w7 w8) (l_e1 x 0) (l_q2 1 x 1) (l_e0 x (2)) (l_e0 x (0)) (l_e1 x 2) (l_e1 x 3) (l_e1 x 4) (l_e1 x 5) (l_e1 x 8) (h.2.2.2.1)) (l_c5 (fun w0 w1 w2 w3 w4 : Int => q_tok (t_b v) w0 w1 w2 w3 w4) (l_e1 x 0) (l_q2 1 x 1) (l_e0 x (3)) (l_e1 x 6) (l_e1 x 7) (h.2.2.2.2.1)) (l_cc (l_q1 400 x 1) (h.2.1.1)) (l_cc (l_e1 x 4) (h.2.1.2.1)) (l_cc (l_q7 x 4) (h.2.1.2.2.1)) (l_cc (l_q2 21 x 7) (h.2.1.2.2.2.1))
    refine l_outH rfl (And.intro h.1 ?_)
    exact l_o9 (fun w0 w1 w2 w3 w4 w5 w6 w7 w8 : Int => (True) ∧ (q_run2 (t_b v) w0 w1 w2 w3 w3 w4 w5 w6 w7 w8 ∧ True)) (l_e1 x 0) (l_e1 x 1) (l_e0 x (3)) (l_e0 x (0)) (l_e1 x 2) (l_e1 x 3) (l_e0 x (5)) (l_e1 x 6) (l_e1 x 8) K
  | skip
    intro v x h
    have C0 : (0 : Int) ≤ 400 - x 1 := l_cc (a := y_ev x (400, [(1, (-1))])) (by show ((400) : Int) + ((-1) * x 1 + 0) = 400 - x 1; omega) (h.2.1.1)
    have C1 : (0 : Int) ≤ x 4 := l_cc (a := y_ev x (0, [(4, 1)])) (l_e1 _ _) (h.2.1.2.1)
    have C2 : (0 : Int) ≤ -x 4 := l_cc (a := y_ev x (0, [(4, (-1))])) (by show ((0) : Int) + ((-1) * x 4 + 0) = -x 4; omega) (h.2.1.2.2.1)
    have C3 : (0 : Int) ≤ x 7 - 21 := l_cc (a := y_ev x ((-21), [(7, 1)])) (by show ((-21) : Int) + ((1) * x 7 + 0) = x 7 - 21; omega) (h.2.1.2.2.2.1)
    have E0 : y_ev x (0, [(0, 1)]) = x 0 := (l_e1 _ _)
    have E1 : y_ev x ((-1), [(1, 1)]) = x 1 - 1 := (by show ((-1) : Int) + ((1) * x 1 + 0) = x 1 - 1; omega)
    have E2 : y_ev x (2, []) = 2 := (l_e0 _ _)
    have E3 : y_ev x (0, []) = 0 := (l_e0 _ _)
    have E4 : y_ev x (0, [(2, 1)]) = x 2 := (l_e1 _ _)
    have E5 : y_ev x (0, [(3, 1)]) = x 3 := (l_e1 _ _)
    have E6 : y_ev x (0, [(4, 1)]) = x 4 := (l_e1 _ _)
    have E7 : y_ev x (0, [(5, 1)]) = x 5 := (l_e1 _ _)
    have E8 : y_ev x (0, [(8, 1)]) = x 8 := (l_e1 _ _)
    have E9 : y_ev x (3, []) = 3 := (l_e0 _ _)
    have E10 : y_ev x (0, [(6, 1)]) = x 6 := (l_e1 _ _)
    have E11 : y_ev x (0, [(7, 1)]) = x 7 := (l_e1 _ _)
    have T0 : q_run2 (t_b v) (y_ev x (0, [(0, 1)])) (y_ev x ((-1), [(1, 1)])) (y_ev x (2, [])) (y_ev x (0, [])) (y_ev x (0, [])) (y_ev x (0, [(2, 1)])) (y_ev x (0, [(3, 1)])) (y_ev x (0, [(4, 1)])) (y_ev x (0, [(5, 1)])) (y_ev x (0, [(8, 1)])) := h.2.2.2.1
    (try rw [E0] at T0); (try rw [E1] at T0); (try rw [E2] at T0); (try rw [E3] at T0); (try rw [E4] at T0); (try rw [E5] at T0); (try rw [E6] at T0); (try rw [E7] at T0); (try rw [E8] at T0)
    have T1 : q_tok (t_b v) (y_ev x (0, [(0, 1)])) (y_ev x ((-1), [(1, 1)])) (y_ev x (3, [])) (y_ev x (0, [(6, 1)])) (y_ev x (0, [(7, 1)])) := h.2.2.2.2.1
    (try rw [E0] at T1); (try rw [E1] at T1); (try rw [E9] at T1); (try rw [E10] at T1); (try rw [E11] at T1)
    have K := k_i2_hi (V := v) (n := x 0) (d := x 1) (H := x 2) (L := x 3) (W := x 4) (WP := x 5) (s := x 6) (v := x 7) (S := x 8) T0 T1 C0 C1 C2 C3
    refine l_outH rfl (And.intro h.1 ?_)
    have O0 : y_ev x (0, [(0, 1)]) = x 0 := l_e1 _ _
    have O1 : y_ev x (0, [(1, 1)]) = x 1 := l_e1 _ _
    have O2 : y_ev x (3, []) = 3 := l_e0 _ _
    have O3 : y_ev x (0, []) = 0 := l_e0 _ _
    have O4 : y_ev x (0, [(2, 1)]) = x 2 := l_e1 _ _
    have O5 : y_ev x (0, [(3, 1)]) = x 3 := l_e1 _ _
    have O6 : y_ev x (5, []) = 5 := l_e0 _ _
    have O7 : y_ev x (0, [(6, 1)]) = x 6 := l_e1 _ _
    have O8 : y_ev x (0, [(8, 1)]) = x 8 := l_e1 _ _
    show (True) ∧ (q_run2 (t_b v) (y_ev x (0, [(0, 1)])) (y_ev x (0, [(1, 1)])) (y_ev x (3, [])) (y_ev x (0, [])) (y_ev x (0, [])) (y_ev x (0, [(2, 1)])) (y_ev x (0, [(3, 1)])) (y_ev x (5, [])) (y_ev x (0, [(6, 1)])) (y_ev x (0, [(8, 1)])) ∧ True)
    (try rw [O0]); (try rw [O1]); (try rw [O2]); (try rw [O3]); (try rw [O4]); (try rw [O5]); (try rw [O6]); (try rw [O7]); (try rw [O8])
    exact K
def lm_277 : zLem := (([((-2147483648), 2147483647), ((-2147483648), 2147483647), ((-2147483648), 2147483647), ((-2147483648), 2147483647), ((-2147483648), 2147483647), ((-2147483648), 2147483647), ((-2147483648), 2147483647), ((-9223372036854775808), 9223372036854775807), ((-2147483648), 2147483647)], [(12, false)], [(400, [(1, (-1))]), ((-1), [(7, 1)]), (99, [(7, (-1))])], [], [], [(0, (false, 11, 0, []), 0, 0, 0, [(1, 1)])], [(40, [(0, [(0, 1)]), ((-1), [(1, 1)]), (3, []), (0, []), (0, []), (0, [(2, 1)]), (0, [(3, 1)]), (0, [(4, 1)]), (0, [(5, 1)]), (0, [(8, 1)])]), (36, [(0, [(0, 1)]), ((-1), [(1, 1)]), (3, []), (0, [(6, 1)]), (0, [(7, 1)])])]), [([((-2147483648), 2147483647), ((-2147483648), 2147483647), ((-2147483648), 2147483647), ((-2147483648), 2147483647), ((-2147483648), 2147483647), ((-2147483648), 2147483647), ((-2147483648), 2147483647), ((-9223372036854775808), 9223372036854775807), ((-2147483648), 2147483647)], [(12, false)], [], [], [], [], [(40, [(0, [(0, 1)]), (0, [(1, 1)]), (4, []), (0, []), (0, []), (0, [(2, 1)]), (0, [(3, 1)]), (0, [(4, 1)]), (0, [(5, 1)]), (0, [(8, 1)])])])])
theorem lk_277 : l_core lm_277 := by
  first
  | skip
    intro v x h
    have K := k_i3_in (V := v) (n := x 0) (d := x 1) (H := x 2) (L := x 3) (W := x 4) (WP := x 5) (s := x 6) (v := x 7) (S := x 8) (l_c9 (fun w0 w1 w2 w3 w4 w5 w6 w7 w8 : Int => q_run2 (t_b v) w0 w1 w2 w3 w3 w4 w5 w6 w7 w8) (l_e1 x 0) (l_q2 1 x 1) (l_e0 x (3)) (l_e0 x (0)) (l_e1 x 2) (l_e1 x 3) (l_e1 x 4) (l_e1 x 5) (l_e1 x 8) (h.2.2.2.1)) (l_c5 (fun w0 w1 w2 w3 w4 : Int => q_tok (t_b v) w0 w1 w2 w3 w4) (l_e1 x 0) (l_q2 1 x 1) (l_e0 x (3)) (l_e1 x 6) (l_e1 x 7) (h.2.2.2.2.1)) (l_cc (l_q1 400 x 1) (h.2.1.1)) (l_cc (l_q2 1 x 7) (h.2.1.2.1)) (l_cc (l_q1 99 x 7) (h.2.1.2.2.1))
    refine l_outH rfl (And.intro h.1 ?_)
    exact l_o9 (fun w0 w1 w2 w3 w4 w5 w6 w7 w8 : Int => (True) ∧ (q_run2 (t_b v) w0 w1 w2 w3 w3 w4 w5 w6 w7 w8 ∧ True)) (l_e1 x 0) (l_e1 x 1) (l_e0 x (4)) (l_e0 x (0)) (l_e1 x 2) (l_e1 x 3) (l_e1 x 4) (l_e1 x 5) (l_e1 x 8) K
  | skip
    intro v x h
    have C0 : (0 : Int) ≤ 400 - x 1 := l_cc (a := y_ev x (400, [(1, (-1))])) (by show ((400) : Int) + ((-1) * x 1 + 0) = 400 - x 1; omega) (h.2.1.1)
    have C1 : (0 : Int) ≤ x 7 - 1 := l_cc (a := y_ev x ((-1), [(7, 1)])) (by show ((-1) : Int) + ((1) * x 7 + 0) = x 7 - 1; omega) (h.2.1.2.1)
    have C2 : (0 : Int) ≤ 99 - x 7 := l_cc (a := y_ev x (99, [(7, (-1))])) (by show ((99) : Int) + ((-1) * x 7 + 0) = 99 - x 7; omega) (h.2.1.2.2.1)
    have E0 : y_ev x (0, [(0, 1)]) = x 0 := (l_e1 _ _)
    have E1 : y_ev x ((-1), [(1, 1)]) = x 1 - 1 := (by show ((-1) : Int) + ((1) * x 1 + 0) = x 1 - 1; omega)
    have E2 : y_ev x (3, []) = 3 := (l_e0 _ _)
    have E3 : y_ev x (0, []) = 0 := (l_e0 _ _)
    have E4 : y_ev x (0, [(2, 1)]) = x 2 := (l_e1 _ _)
    have E5 : y_ev x (0, [(3, 1)]) = x 3 := (l_e1 _ _)
    have E6 : y_ev x (0, [(4, 1)]) = x 4 := (l_e1 _ _)
    have E7 : y_ev x (0, [(5, 1)]) = x 5 := (l_e1 _ _)
    have E8 : y_ev x (0, [(8, 1)]) = x 8 := (l_e1 _ _)
    have E9 : y_ev x (0, [(6, 1)]) = x 6 := (l_e1 _ _)
    have E10 : y_ev x (0, [(7, 1)]) = x 7 := (l_e1 _ _)
    have T0 : q_run2 (t_b v) (y_ev x (0, [(0, 1)])) (y_ev x ((-1), [(1, 1)])) (y_ev x (3, [])) (y_ev x (0, [])) (y_ev x (0, [])) (y_ev x (0, [(2, 1)])) (y_ev x (0, [(3, 1)])) (y_ev x (0, [(4, 1)])) (y_ev x (0, [(5, 1)])) (y_ev x (0, [(8, 1)])) := h.2.2.2.1
    (try rw [E0] at T0); (try rw [E1] at T0); (try rw [E2] at T0); (try rw [E3] at T0); (try rw [E4] at T0); (try rw [E5] at T0); (try rw [E6] at T0); (try rw [E7] at T0); (try rw [E8] at T0)
    have T1 : q_tok (t_b v) (y_ev x (0, [(0, 1)])) (y_ev x ((-1), [(1, 1)])) (y_ev x (3, [])) (y_ev x (0, [(6, 1)])) (y_ev x (0, [(7, 1)])) := h.2.2.2.2.1
    (try rw [E0] at T1); (try rw [E1] at T1); (try rw [E2] at T1); (try rw [E9] at T1); (try rw [E10] at T1)
    have K := k_i3_in (V := v) (n := x 0) (d := x 1) (H := x 2) (L := x 3) (W := x 4) (WP := x 5) (s := x 6) (v := x 7) (S := x 8) T0 T1 C0 C1 C2
    refine l_outH rfl (And.intro h.1 ?_)
    have O0 : y_ev x (0, [(0, 1)]) = x 0 := l_e1 _ _
    have O1 : y_ev x (0, [(1, 1)]) = x 1 := l_e1 _ _
    have O2 : y_ev x (4, []) = 4 := l_e0 _ _
    have O3 : y_ev x (0, []) = 0 := l_e0 _ _
    have O4 : y_ev x (0, [(2, 1)]) = x 2 := l_e1 _ _
    have O5 : y_ev x (0, [(3, 1)]) = x 3 := l_e1 _ _
    have O6 : y_ev x (0, [(4, 1)]) = x 4 := l_e1 _ _
    have O7 : y_ev x (0, [(5, 1)]) = x 5 := l_e1 _ _
    have O8 : y_ev x (0, [(8, 1)]) = x 8 := l_e1 _ _
    show (True) ∧ (q_run2 (t_b v) (y_ev x (0, [(0, 1)])) (y_ev x (0, [(1, 1)])) (y_ev x (4, [])) (y_ev x (0, [])) (y_ev x (0, [])) (y_ev x (0, [(2, 1)])) (y_ev x (0, [(3, 1)])) (y_ev x (0, [(4, 1)])) (y_ev x (0, [(5, 1)])) (y_ev x (0, [(8, 1)])) ∧ True)
    (try rw [O0]); (try rw [O1]); (try rw [O2]); (try rw [O3]); (try rw [O4]); (try rw [O5]); (try rw [O6]); (try rw [O7]); (try rw [O8])
    exact K
def lm_278 : zLem := (([((-2147483648), 2147483647), ((-2147483648), 2147483647), ((-2147483648), 2147483647), ((-2147483648), 2147483647), ((-2147483648), 2147483647), ((-2147483648), 2147483647), ((-2147483648), 2147483647), ((-9223372036854775808), 9223372036854775807), ((-2147483648), 2147483647)], [(12, false)], [(400, [(1, (-1))]), ((-1), [(4, 1)])], [], [], [(0, (false, 11, 0, []), 0, 0, 0, [(1, 1)])], [(40, [(0, [(0, 1)]), ((-1), [(1, 1)]), (3, []), (0, []), (0, []), (0, [(2, 1)]), (0, [(3, 1)]), (0, [(4, 1)]), (0, [(5, 1)]), (0, [(8, 1)])]), (36, [(0, [(0, 1)]), ((-1), [(1, 1)]), (3, []), (0, [(6, 1)]), (0, [(7, 1)])])]), [([((-2147483648), 2147483647), ((-2147483648), 2147483647), ((-2147483648), 2147483647), ((-2147483648), 2147483647), ((-2147483648), 2147483647), ((-2147483648), 2147483647), ((-2147483648), 2147483647), ((-9223372036854775808), 9223372036854775807), ((-2147483648), 2147483647)], [(12, false)], [], [], [], [], [(40, [(0, [(0, 1)]), (0, [(1, 1)]), (4, []), (0, []), (0, []), (0, [(2, 1)]), (0, [(3, 1)]), (0, [(4, 1)]), (0, [(5, 1)]), (0, [(8, 1)])])])])
theorem lk_278 : l_core lm_278 := by
  first
  | skip
    intro v x h
    have K := k_i3_w (V := v) (n := x 0) (d := x 1) (H := x 2) (L := x 3) (W := x 4) (WP := x 5) (s := x 6) (v := x 7) (S := x 8) (l_c9 (fun w0 w1 w2 w3 w4 w5 w6 w7 w8 : Int => q_run2 (t_b v) w0 w1 w2 w3 w3 w4 w5 w6 w7 w8) (l_e1 x 0) (l_q2 1 x 1) (l_e0 x (3)) (l_e0 x (0)) (l_e1 x 2) (l_e1 x 3) (l_e1 x 4) (l_e1 x 5) (l_e1 x 8) (h.2.2.2.1)) (l_c5 (fun w0 w1 w2 w3 w4 : Int => q_tok (t_b v) w0 w1 w2 w3 w4) (l_e1 x 0) (l_q2 1 x 1) (l_e0 x (3)) (l_e1 x 6) (l_e1 x 7) (h.2.2.2.2.1)) (l_cc (l_q1 400 x 1) (h.2.1.1)) (l_cc (l_q2 1 x 4) (h.2.1.2.1))
    refine l_outH rfl (And.intro h.1 ?_)
    exact l_o9 (fun w0 w1 w2 w3 w4 w5 w6 w7 w8 : Int => (True) ∧ (q_run2 (t_b v) w0 w1 w2 w3 w3 w4 w5 w6 w7 w8 ∧ True)) (l_e1 x 0) (l_e1 x 1) (l_e0 x (4)) (l_e0 x (0)) (l_e1 x 2) (l_e1 x 3) (l_e1 x 4) (l_e1 x 5) (l_e1 x 8) K
  | skip
    intro v x h
    have C0 : (0 : Int) ≤ 400 - x 1 := l_cc (a := y_ev x (400, [(1, (-1))])) (by show ((400) : Int) + ((-1) * x 1 + 0) = 400 - x 1; omega) (h.2.1.1)
    have C1 : (0 : Int) ≤ x 4 - 1 := l_cc (a := y_ev x ((-1), [(4, 1)])) (by show ((-1) : Int) + ((1) * x 4 + 0) = x 4 - 1; omega) (h.2.1.2.1)
    have E0 : y_ev x (0, [(0, 1)]) = x 0 := (l_e1 _ _)
    have E1 : y_ev x ((-1), [(1, 1)]) = x 1 - 1 := (by show ((-1) : Int) + ((1) * x 1 + 0) = x 1 - 1; omega)
    have E2 : y_ev x (3, []) = 3 := (l_e0 _ _)
    have E3 : y_ev x (0, []) = 0 := (l_e0 _ _)
    have E4 : y_ev x (0, [(2, 1)]) = x 2 := (l_e1 _ _)
    have E5 : y_ev x (0, [(3, 1)]) = x 3 := (l_e1 _ _)
    have E6 : y_ev x (0, [(4, 1)]) = x 4 := (l_e1 _ _)
    have E7 : y_ev x (0, [(5, 1)]) = x 5 := (l_e1 _ _)
    have E8 : y_ev x (0, [(8, 1)]) = x 8 := (l_e1 _ _)
    have E9 : y_ev x (0, [(6, 1)]) = x 6 := (l_e1 _ _)
    have E10 : y_ev x (0, [(7, 1)]) = x 7 := (l_e1 _ _)
    have T0 : q_run2 (t_b v) (y_ev x (0, [(0, 1)])) (y_ev x ((-1), [(1, 1)])) (y_ev x (3, [])) (y_ev x (0, [])) (y_ev x (0, [])) (y_ev x (0, [(2, 1)])) (y_ev x (0, [(3, 1)])) (y_ev x (0, [(4, 1)])) (y_ev x (0, [(5, 1)])) (y_ev x (0, [(8, 1)])) := h.2.2.2.1
    (try rw [E0] at T0); (try rw [E1] at T0); (try rw [E2] at T0); (try rw [E3] at T0); (try rw [E4] at T0); (try rw [E5] at T0); (try rw [E6] at T0); (try rw [E7] at T0); (try rw [E8] at T0)
    have T1 : q_tok (t_b v) (y_ev x (0, [(0, 1)])) (y_ev x ((-1), [(1, 1)])) (y_ev x (3, [])) (y_ev x (0, [(6, 1)])) (y_ev x (0, [(7, 1)])) := h.2.2.2.2.1
    (try rw [E0] at T1); (try rw [E1] at T1); (try rw [E2] at T1); (try rw [E9] at T1); (try rw [E10] at T1)
    have K := k_i3_w (V := v) (n := x 0) (d := x 1) (H := x 2) (L := x 3) (W := x 4) (WP := x 5) (s := x 6) (v := x 7) (S := x 8) T0 T1 C0 C1
    refine l_outH rfl (And.intro h.1 ?_)
    have O0 : y_ev x (0, [(0, 1)]) = x 0 := l_e1 _ _
    have O1 : y_ev x (0, [(1, 1)]) = x 1 := l_e1 _ _
    have O2 : y_ev x (4, []) = 4 := l_e0 _ _
    have O3 : y_ev x (0, []) = 0 := l_e0 _ _
    have O4 : y_ev x (0, [(2, 1)]) = x 2 := l_e1 _ _
    have O5 : y_ev x (0, [(3, 1)]) = x 3 := l_e1 _ _
    have O6 : y_ev x (0, [(4, 1)]) = x 4 := l_e1 _ _
    have O7 : y_ev x (0, [(5, 1)]) = x 5 := l_e1 _ _
    have O8 : y_ev x (0, [(8, 1)]) = x 8 := l_e1 _ _
    show (True) ∧ (q_run2 (t_b v) (y_ev x (0, [(0, 1)])) (y_ev x (0, [(1, 1)])) (y_ev x (4, [])) (y_ev x (0, [])) (y_ev x (0, [])) (y_ev x (0, [(2, 1)])) (y_ev x (0, [(3, 1)])) (y_ev x (0, [(4, 1)])) (y_ev x (0, [(5, 1)])) (y_ev x (0, [(8, 1)])) ∧ True)
    (try rw [O0]); (try rw [O1]); (try rw [O2]); (try rw [O3]); (try rw [O4]); (try rw [O5]); (try rw [O6]); (try rw [O7]); (try rw [O8])
    exact K
def lm_279 : zLem := (([((-2147483648), 2147483647), ((-2147483648), 2147483647), ((-2147483648), 2147483647), ((-2147483648), 2147483647), ((-2147483648), 2147483647), ((-2147483648), 2147483647), ((-2147483648), 2147483647), ((-9223372036854775808), 9223372036854775807), ((-2147483648), 2147483647)], [(12, false)], [(400, [(1, (-1))]), (0, [(4, 1)]), (0, [(4, (-1))]), (0, [(7, (-1))])], [], [], [(0, (false, 11, 0, []), 0, 0, 0, [(1, 1)])], [(40, [(0, [(0, 1)]), ((-1), [(1, 1)]), (3, []), (0, []), (0, []), (0, [(2, 1)]), (0, [(3, 1)]), (0, [(4, 1)]), (0, [(5, 1)]), (0, [(8, 1)])]), (36, [(0, [(0, 1)]), ((-1), [(1, 1)]), (3, []), (0, [(6, 1)]), (0, [(7, 1)])])]), [([((-2147483648), 2147483647), ((-2147483648), 2147483647), ((-2147483648), 2147483647), ((-2147483648), 2147483647), ((-2147483648), 2147483647), ((-2147483648), 2147483647), ((-2147483648), 2147483647), ((-9223372036854775808), 9223372036854775807), ((-2147483648), 2147483647)], [(12, false)], [], [], [], [], [(40, [(0, [(0, 1)]), (0, [(1, 1)]), (4, []), (0, []), (0, []), (0, [(2, 1)]), (0, [(3, 1)]), (5, []), (0, [(6, 1)]), (0, [(8, 1)])])])])
theorem lk_279 : l_core lm_279 := by
  first
  | skip
    intro v x h
    have K := k_i3_lo (V := v) (n := x 0) (d := x 1) (H := x 2) (L := x 3) (W := x 4) (WP := x 5) (s := x 6) (v := x 7) (S := x 8) (l_c9 (fun w0 w1 w2 w3 w4 w5 w6 w7 w8 : Int => q_run2 (t_b v) w0 w1 w2 w3 w3 w4 w5 w6 w7 w8) (l_e1 x 0) (l_q2 1 x 1) (l_e0 x (3)) (l_e0 x (0)) (l_e1 x 2) (l_e1 x 3) (l_e1 x 4) (l_e1 x 5) (l_e1 x 8) (h.2.2.2.1)) (l_c5 (fun w0 w1 w2 w3 w4 : Int => q_tok (t_b v) w0 w1 w2 w3 w4) (l_e1 x 0) (l_q2 1 x 1) (l_e0 x (3)) (l_e1 x 6) (l_e1 x 7) (h.2.2.2.2.1)) (l_cc (l_q1 400 x 1) (h.2.1.1)) (l_cc (l_e1 x 4) (h.2.1.2.1)) (l_cc (l_q7 x 4) (h.2.1.2.2.1)) (l_cc (l_q7 x 7) (h.2.1.2.2.2.1))
    refine l_outH rfl (And.intro h.1 ?_)
    exact l_o9 (fun w0 w1 w2 w3 w4 w5 w6 w7 w8 : Int => (True) ∧ (q_run2 (t_b v) w0 w1 w2 w3 w3 w4 w5 w6 w7 w8 ∧ True)) (l_e1 x 0) (l_e1 x 1) (l_e0 x (4)) (l_e0 x (0)) (l_e1 x 2) (l_e1 x 3) (l_e0 x (5)) (l_e1 x 6) (l_e1 x 8) K
  | skip
    intro v x h
    have C0 : (0 : Int) ≤ 400 - x 1 := l_cc (a := y_ev x (400, [(1, (-1))])) (by show ((400) : Int) + ((-1) * x 1 + 0) = 400 - x 1; omega) (h.2.1.1)
    have C1 : (0 : Int) ≤ x 4 := l_cc (a := y_ev x (0, [(4, 1)])) (l_e1 _ _) (h.2.1.2.1)
    have C2 : (0 : Int) ≤ -x 4 := l_cc (a := y_ev x (0, [(4, (-1))])) (by show ((0) : Int) + ((-1) * x 4 + 0) = -x 4; omega) (h.2.1.2.2.1)
    have C3 : (0 : Int) ≤ -x 7 := l_cc (a := y_ev x (0, [(7, (-1))])) (by show ((0) : Int) + ((-1) * x 7 + 0) = -x 7; omega) (h.2.1.2.2.2.1)
    have E0 : y_ev x (0, [(0, 1)]) = x 0 := (l_e1 _ _)
    have E1 : y_ev x ((-1), [(1, 1)]) = x 1 - 1 := (by show ((-1) : Int) + ((1) * x 1 + 0) = x 1 - 1; omega)
    have E2 : y_ev x (3, []) = 3 := (l_e0 _ _)
    have E3 : y_ev x (0, []) = 0 := (l_e0 _ _)
    have E4 : y_ev x (0, [(2, 1)]) = x 2 := (l_e1 _ _)
    have E5 : y_ev x (0, [(3, 1)]) = x 3 := (l_e1 _ _)
    have E6 : y_ev x (0, [(4, 1)]) = x 4 := (l_e1 _ _)
    have E7 : y_ev x (0, [(5, 1)]) = x 5 := (l_e1 _ _)
    have E8 : y_ev x (0, [(8, 1)]) = x 8 := (l_e1 _ _)
    have E9 : y_ev x (0, [(6, 1)]) = x 6 := (l_e1 _ _)
    have E10 : y_ev x (0, [(7, 1)]) = x 7 := (l_e1 _ _)
    have T0 : q_run2 (t_b v) (y_ev x (0, [(0, 1)])) (y_ev x ((-1), [(1, 1)])) (y_ev x (3, [])) (y_ev x (0, [])) (y_ev x (0, [])) (y_ev x (0, [(2, 1)])) (y_ev x (0, [(3, 1)])) (y_ev x (0, [(4, 1)])) (y_ev x (0, [(5, 1)])) (y_ev x (0, [(8, 1)])) := h.2.2.2.1
    (try rw [E0] at T0); (try rw [E1] at T0); (try rw [E2] at T0); (try rw [E3] at T0); (try rw [E4] at T0); (try rw [E5] at T0); (try rw [E6] at T0); (try rw [E7] at T0); (try rw [E8] at T0)
    have T1 : q_tok (t_b v) (y_ev x (0, [(0, 1)])) (y_ev x ((-1), [(1, 1)])) (y_ev x (3, [])) (y_ev x (0, [(6, 1)])) (y_ev x (0, [(7, 1)])) := h.2.2.2.2.1
    (try rw [E0] at T1); (try rw [E1] at T1); (try rw [E2] at T1); (try rw [E9] at T1); (try rw [E10] at T1)
    have K := k_i3_lo (V := v) (n := x 0) (d := x 1) (H := x 2) (L := x 3) (W := x 4) (WP := x 5) (s := x 6) (v := x 7) (S := x 8) T0 T1 C0 C1 C2 C3
    refine l_outH rfl (And.intro h.1 ?_)
    have O0 : y_ev x (0, [(0, 1)]) = x 0 := l_e1 _ _
    have O1 : y_ev x (0, [(1, 1)]) = x 1 := l_e1 _ _
    have O2 : y_ev x (4, []) = 4 := l_e0 _ _
    have O3 : y_ev x (0, []) = 0 := l_e0 _ _
    have O4 : y_ev x (0, [(2, 1)]) = x 2 := l_e1 _ _
    have O5 : y_ev x (0, [(3, 1)]) = x 3 := l_e1 _ _
    have O6 : y_ev x (5, []) = 5 := l_e0 _ _
    have O7 : y_ev x (0, [(6, 1)]) = x 6 := l_e1 _ _
    have O8 : y_ev x (0, [(8, 1)]) = x 8 := l_e1 _ _
    show (True) ∧ (q_run2 (t_b v) (y_ev x (0, [(0, 1)])) (y_ev x (0, [(1, 1)])) (y_ev x (4, [])) (y_ev x (0, [])) (y_ev x (0, [])) (y_ev x (0, [(2, 1)])) (y_ev x (0, [(3, 1)])) (y_ev x (5, [])) (y_ev x (0, [(6, 1)])) (y_ev x (0, [(8, 1)])) ∧ True)
    (try rw [O0]); (try rw [O1]); (try rw [O2]); (try rw [O3]); (try rw [O4]); (try rw [O5]); (try rw [O6]); (try rw [O7]); (try rw [O8])
    exact K
def lm_280 : zLem := (([((-2147483648), 2147483647), ((-2147483648), 2147483647), ((-2147483648), 2147483647), ((-2147483648), 2147483647), ((-2147483648), 2147483647), ((-2147483648), 2147483647), ((-2147483648), 2147483647), ((-9223372036854775808), 9223372036854775807), ((-2147483648), 2147483647)], [(12, false)], [(400, [(1, (-1))]), (0, [(4, 1)]), (0, [(4, (-1))]), ((-100), [(7, 1)])], [], [], [(0, (false, 11, 0, []), 0, 0, 0, [(1, 1)])], [(40, [(0, [(0, 1)]), ((-1), [(1, 1)]), (3, []), (0, []), (0, []), (0, [(2, 1)]), (0, [(3, 1)]), (0, [(4, 1)]), (0, [(5, 1)]), (0, [(8, 1)])]), (36, [(0, [(0, 1)]), ((-1), [(1, 1)]), (3, []), (0, [(6, 1)]), (0, [(7, 1)])])]), [([((-2147483648), 2147483647), ((-2147483648), 2147483647), ((-2147483648), 2147483647), ((-2147483648), 2147483647), ((-2147483648), 2147483647), ((-2147483648), 2147483647), ((-2147483648), 2147483647), ((-9223372036854775808), 9223372036854775807), ((-2147483648), 2147483647)], [(12, false)], [], [], [], [], [(40, [(0, [(0, 1)]), (0, [(1, 1)]), (4, []), (0, []), (0, []), (0, [(2, 1)]), (0, [(3, 1)]), (5, []), (0, [(6, 1)]), (0, [(8, 1)])])])])
theorem lk_280 : l_core lm_280 := by
  first
  | skip
    intro v x h
    have K := k_i3_hi (V := v) (n := x 0) (d := x 1) (H := x 2) (L := x 3) (W := x 4) (WP := x 5) (s := x 6) (v := x 7) (S := x 8) (l_c9 (fun w0 w1 w2 w3 w4 w5 w6 w7 w8 : Int => q_run2 (t_b v) w0 w1 w2 w3 w3 w4 w5 w6 w7 w8) (l_e1 x 0) (l_q2 1 x 1) (l_e0 x (3)) (l_e0 x (0)) (l_e1 x 2) (l_e1 x 3) (l_e1 x 4) (l_e1 x 5) (l_e1 x 8) (h.2.2.2.1)) (l_c5 (fun w0 w1 w2 w3 w4 : Int => q_tok (t_b v) w0 w1 w2 w3 w4) (l_e1 x 0) (l_q2 1 x 1) (l_e0 x (3)) (l_e1 x 6) (l_e1 x 7) (h.2.2.2.2.1)) (l_cc (l_q1 400 x 1) (h.2.1.1)) (l_cc (l_e1 x 4) (h.2.1.2.1)) (l_cc (l_q7 x 4) (h.2.1.2.2.1)) (l_cc (l_q2 100 x 7) (h.2.1.2.2.2.1))
    refine l_outH rfl (And.intro h.1 ?_)
    exact l_o9 (fun w0 w1 w2 w3 w4 w5 w6 w7 w8 : Int => (True) ∧ (q_run2 (t_b v) w0 w1 w2 w3 w3 w4 w5 w6 w7 w8 ∧ True)) (l_e1 x 0) (l_e1 x 1) (l_e0 x (4)) (l_e0 x (0)) (l_e1 x 2) (l_e1 x 3) (l_e0 x (5)) (l_e1 x 6) (l_e1 x 8) K
  | skip
    intro v x h
    have C0 : (0 : Int) ≤ 400 - x 1 := l_cc (a := y_ev x (400, [(1, (-1))])) (by show ((400) : Int) + ((-1) * x 1 + 0) = 400 - x 1; omega) (h.2.1.1)
    have C1 : (0 : Int) ≤ x 4 := l_cc (a := y_ev x (0, [(4, 1)])) (l_e1 _ _) (h.2.1.2.1)
    have C2 : (0 : Int) ≤ -x 4 := l_cc (a := y_ev x (0, [(4, (-1))])) (by show ((0) : Int) + ((-1) * x 4 + 0) = -x 4; omega) (h.2.1.2.2.1)
    have C3 : (0 : Int) ≤ x 7 - 100 := l_cc (a := y_ev x ((-100), [(7, 1)])) (by show ((-100) : Int) + ((1) * x 7 + 0) = x 7 - 100; omega) (h.2.1.2.2.2.1)
    have E0 : y_ev x (0, [(0, 1)]) = x 0 := (l_e1 _ _)
    have E1 : y_ev x ((-1), [(1, 1)]) = x 1 - 1 := (by show ((-1) : Int) + ((1) * x 1 + 0) = x 1 - 1; omega)
    have E2 : y_ev x (3, []) = 3 := (l_e0 _ _)
    have E3 : y_ev x (0, []) = 0 := (l_e0 _ _)
    have E4 : y_ev x (0, [(2, 1)]) = x 2 := (l_e1 _ _)
    have E5 : y_ev x (0, [(3, 1)]) = x 3 := (l_e1 _ _)
    have E6 : y_ev x (0, [(4, 1)]) = x 4 := (l_e1 _ _)
    have E7 : y_ev x (0, [(5, 1)]) = x 5 := (l_e1 _ _)
    have E8 : y_ev x (0, [(8, 1)]) = x 8 := (l_e1 _ _)
    have E9 : y_ev x (0, [(6, 1)]) = x 6 := (l_e1 _ _)
    have E10 : y_ev x (0, [(7, 1)]) = x 7 := (l_e1 _ _)
    have T0 : q_run2 (t_b v) (y_ev x (0, [(0, 1)])) (y_ev x ((-1), [(1, 1)])) (y_ev x (3, [])) (y_ev x (0, [])) (y_ev x (0, [])) (y_ev x (0, [(2, 1)])) (y_ev x (0, [(3, 1)])) (y_ev x (0, [(4, 1)])) (y_ev x (0, [(5, 1)])) (y_ev x (0, [(8, 1)])) := h.2.2.2.1
    (try rw [E0] at T0); (try rw [E1] at T0); (try rw [E2] at T0); (try rw [E3] at T0); (try rw [E4] at T0); (try rw [E5] at T0); (try rw [E6] at T0); (try rw [E7] at T0); (try rw [E8] at T0)
    have T1 : q_tok (t_b v) (y_ev x (0, [(0, 1)])) (y_ev x ((-1), [(1, 1)])) (y_ev x (3, [])) (y_ev x (0, [(6, 1)])) (y_ev x (0, [(7, 1)])) := h.2.2.2.2.1
    (try rw [E0] at T1); (try rw [E1] at T1); (try rw [E2] at T1); (try rw [E9] at T1); (try rw [E10] at T1)
    have K := k_i3_hi (V := v) (n := x 0) (d := x 1) (H := x 2) (L := x 3) (W := x 4) (WP := x 5) (s := x 6) (v := x 7) (S := x 8) T0 T1 C0 C1 C2 C3
    refine l_outH rfl (And.intro h.1 ?_)
    have O0 : y_ev x (0, [(0, 1)]) = x 0 := l_e1 _ _
    have O1 : y_ev x (0, [(1, 1)]) = x 1 := l_e1 _ _
    have O2 : y_ev x (4, []) = 4 := l_e0 _ _
    have O3 : y_ev x (0, []) = 0 := l_e0 _ _
    have O4 : y_ev x (0, [(2, 1)]) = x 2 := l_e1 _ _
    have O5 : y_ev x (0, [(3, 1)]) = x 3 := l_e1 _ _
    have O6 : y_ev x (5, []) = 5 := l_e0 _ _
    have O7 : y_ev x (0, [(6, 1)]) = x 6 := l_e1 _ _
    have O8 : y_ev x (0, [(8, 1)]) = x 8 := l_e1 _ _
    show (True) ∧ (q_run2 (t_b v) (y_ev x (0, [(0, 1)])) (y_ev x (0, [(1, 1)])) (y_ev x (4, [])) (y_ev x (0, [])) (y_ev x (0, [])) (y_ev x (0, [(2, 1)])) (y_ev x (0, [(3, 1)])) (y_ev x (5, [])) (y_ev x (0, [(6, 1)])) (y_ev x (0, [(8, 1)])) ∧ True)
    (try rw [O0]); (try rw [O1]); (try rw [O2]); (try rw [O3]); (try rw [O4]); (try rw [O5]); (try rw [O6]); (try rw [O7]); (try rw [O8])
    exact K
def lm_281 : zLem := (([((-2147483648), 2147483647), ((-2147483648), 2147483647), ((-2147483648), 2147483647), ((-2147483648), 2147483647), ((-2147483648), 2147483647), ((-2147483648), 2147483647), ((-2147483648), 2147483647), ((-9223372036854775808), 9223372036854775807), ((-2147483648), 2147483647)], [(12, false)], [(400, [(1, (-1))]), (0, [(7, 1)]), (9, [(7, (-1))])], [], [], [(0, (false, 11, 0, []), 0, 0, 0, [(1, 1)])], [(40, [(0, [(0, 1)]), ((-1), [(1, 1)]), (7, []), (0, []), (0, []), (0, [(2, 1)]), (0, [(3, 1)]), (0, [(4, 1)]), (0, [(5, 1)]), (0, [(8, 1)])]), (36, [(0, [(0, 1)]), ((-1), [(1, 1)]), (3, []), (0, [(6, 1)]), (0, [(7, 1)])])]), [([((-2147483648), 2147483647), ((-2147483648), 2147483647), ((-2147483648), 2147483647), ((-2147483648), 2147483647), ((-2147483648), 2147483647), ((-2147483648), 2147483647), ((-2147483648), 2147483647), ((-9223372036854775808), 9223372036854775807), ((-2147483648), 2147483647)], [(12, false)], [], [], [], [], [(40, [(0, [(0, 1)]), (0, [(1, 1)]), (8, []), (0, []), (0, []), (0, [(2, 1)]), (0, [(3, 1)]), (0, [(4, 1)]), (0, [(5, 1)]), (0, [(8, 1)])])])])
theorem lk_281 : l_core lm_281 := by
  first
  | skip
    intro v x h
    have K := k_i7_in (V := v) (n := x 0) (d := x 1) (H := x 2) (L := x 3) (W := x 4) (WP := x 5) (s := x 6) (v := x 7) (S := x 8) (l_c9 (fun w0 w1 w2 w3 w4 w5 w6 w7 w8 : Int => q_run2 (t_b v) w0 w1 w2 w3 w3 w4 w5 w6 w7 w8) (l_e1 x 0) (l_q2 1 x 1) (l_e0 x (7)) (l_e0 x (0)) (l_e1 x 2) (l_e1 x 3) (l_e1 x 4) (l_e1 x 5) (l_e1 x 8) (h.2.2.2.1)) (l_c5 (fun w0 w1 w2 w3 w4 : Int => q_tok (t_b v) w0 w1 w2 w3 w4) (l_e1 x 0) (l_q2 1 x 1) (l_e0 x (3)) (l_e1 x 6) (l_e1 x 7) (h.2.2.2.2.1)) (l_cc (l_q1 400 x 1) (h.2.1.1)) (l_cc (l_e1 x 7) (h.2.1.2.1)) (l_cc (l_q1 9 x 7) (h.2.1.2.2.1))
    refine l_outH rfl (And.intro h.1 ?_)
    exact l_o9 (fun w0 w1 w2 w3 w4 w5 w6 w7 w8 : Int => (True) ∧ (q_run2 (t_b v) w0 w1 w2 w3 w3 w4 w5 w6 w7 w8 ∧ True)) (l_e1 x 0) (l_e1 x 1) (l_e0 x (8)) (l_e0 x (0)) (l_e1 x 2) (l_e1 x 3) (l_e1 x 4) (l_e1 x 5) (l_e1 x 8) K
  | skip
    intro v x h
    have C0 : (0 : Int) ≤ 400 - x 1 := l_cc (a := y_ev x (400, [(1, (-1))])) (by show ((400) : Int) + ((-1) * x 1 + 0) = 400 - x 1; omega) (h.2.1.1)
    have C1 : (0 : Int) ≤ x 7 := l_cc (a := y_ev x (0, [(7, 1)])) (l_e1 _ _) (h.2.1.2.1)
    have C2 : (0 : Int) ≤ 9 - x 7 := l_cc (a := y_ev x (9, [(7, (-1))])) (by show ((9) : Int) + ((-1) * x 7 + 0) = 9 - x 7; omega) (h.2.1.2.2.1)
    have E0 : y_ev x (0, [(0, 1)]) = x 0 := (l_e1 _ _)
    have E1 : y_ev x ((-1), [(1, 1)]) = x 1 - 1 := (by show ((-1) : Int) + ((1) * x 1 + 0) = x 1 - 1; omega)
    have E2 : y_ev x (7, []) = 7 := (l_e0 _ _)
    have E3 : y_ev x (0, []) = 0 := (l_e0 _ _)
    have E4 : y_ev x (0, [(2, 1)]) = x 2 := (l_e1 _ _)
    have E5 : y_ev x (0, [(3, 1)]) = x 3 := (l_e1 _ _)
    have E6 : y_ev x (0, [(4, 1)]) = x 4 := (l_e1 _ _)
    have E7 : y_ev x (0, [(5, 1)]) = x 5 := (l_e1 _ _)
    have E8 : y_ev x (0, [(8, 1)]) = x 8 := (l_e1 _ _)
    have E9 : y_ev x (3, []) = 3 := (l_e0 _ _)
    have E10 : y_ev x (0, [(6, 1)]) = x 6 := (l_e1 _ _)
    have E11 : y_ev x (0, [(7, 1)]) = x 7 := (l_e1 _ _)
    have T0 : q_run2 (t_b v) (y_ev x (0, [(0, 1)])) (y_ev x ((-1), [(1, 1)])) (y_ev x (7, [])) (y_ev x (0, [])) (y_ev x (0, [])) (y_ev x (0, [(2, 1)])) (y_ev x (0, [(3, 1)])) (y_ev x (0, [(4, 1)])) (y_ev x (0, [(5, 1)])) (y_ev x (0, [(8, 1)])) := h.2.2.2.1
    (try rw [E0] at T0); (try rw [E1] at T0); (try rw [E2] at T0); (try rw [E3] at T0); (try rw [E4] at T0); (try rw [E5] at T0); (try rw [E6] at T0); (try rw [E7] at T0); (try rw [E8] at T0)
    have T1 : q_tok (t_b v) (y_ev x (0, [(0, 1)])) (y_ev x ((-1), [(1, 1)])) (y_ev x (3, [])) (y_ev x (0, [(6, 1)])) (y_ev x (0, [(7, 1)])) := h.2.2.2.2.1
    (try rw [E0] at T1); (try rw [E1] at T1); (try rw [E9] at T1); (try rw [E10] at T1); (try rw [E11] at T1)
    have K := k_i7_in (V := v) (n := x 0) (d := x 1) (H := x 2) (L := x 3) (W := x 4) (WP := x 5) (s := x 6) (v := x 7) (S := x 8) T0 T1 C0 C1 C2
    refine l_outH rfl (And.intro h.1 ?_)
    have O0 : y_ev x (0, [(0, 1)]) = x 0 := l_e1 _ _
    have O1 : y_ev x (0, [(1, 1)]) = x 1 := l_e1 _ _
    have O2 : y_ev x (8, []) = 8 := l_e0 _ _
    have O3 : y_ev x (0, []) = 0 := l_e0 _ _
    have O4 : y_ev x (0, [(2, 1)]) = x 2 := l_e1 _ _
    have O5 : y_ev x (0, [(3, 1)]) = x 3 := l_e1 _ _
    have O6 : y_ev x (0, [(4, 1)]) = x 4 := l_e1 _ _
    have O7 : y_ev x (0, [(5, 1)]) = x 5 := l_e1 _ _
    have O8 : y_ev x (0, [(8, 1)]) = x 8 := l_e1 _ _
    show (True) ∧ (q_run2 (t_b v) (y_ev x (0, [(0, 1)])) (y_ev x (0, [(1, 1)])) (y_ev x (8, [])) (y_ev x (0, [])) (y_ev x (0, [])) (y_ev x (0, [(2, 1)])) (y_ev x (0, [(3, 1)])) (y_ev x (0, [(4, 1)])) (y_ev x (0, [(5, 1)])) (y_ev x (0, [(8, 1)])) ∧ True)
    (try rw [O0]); (try rw [O1]); (try rw [O2]); (try rw [O3]); (try rw [O4]); (try rw [O5]); (try rw [O6]); (try rw [O7]); (try rw [O8])
    exact K
def lm_282 : zLem := (([((-2147483648), 2147483647), ((-2147483648), 2147483647), ((-2147483648), 2147483647), ((-2147483648), 2147483647), ((-2147483648), 2147483647), ((-2147483648), 2147483647), ((-2147483648), 2147483647), ((-9223372036854775808), 9223372036854775807), ((-2147483648), 2147483647)], [(12, false)], [(400, [(1, (-1))]), ((-1), [(4, 1)])], [], [], [(0, (false, 11, 0, []), 0, 0, 0, [(1, 1)])], [(40, [(0, [(0, 1)]), ((-1), [(1, 1)]), (7, []), (0, []), (0, []), (0, [(2, 1)]), (0, [(3, 1)]), (0, [(4, 1)]), (0, [(5, 1)]), (0, [(8, 1)])]), (36, [(0, [(0, 1)]), ((-1), [(1, 1)]), (3, []), (0, [(6, 1)]), (0, [(7, 1)])])]), [([((-2147483648), 2147483647), ((-2147483648), 2147483647), ((-2147483648), 2147483647), ((-2147483648), 2147483647), ((-2147483648), 2147483647), ((-2147483648), 2147483647), ((-2147483648), 2147483647), ((-9223372036854775808), 9223372036854775807), ((-2147483648), 2147483647)], [(12, false)], [], [], [], [], [(40, [(0, [(0, 1)]), (0, [(1, 1)]), (8, []), (0, []), (0, []), (0, [(2, 1)]), (0, [(3, 1)]), (0, [(4, 1)]), (0, [(5, 1)]), (0, [(8, 1)])])])])
theorem lk_282 : l_core lm_282 := by
  first
  | skip
    intro v x h
    have K := k_i7_w (V := v) (n := x 0) (d := x 1) (H := x 2) (L := x 3) (W := x 4) (WP := x 5) (s := x 6) (v := x 7) (S := x 8) (l_c9 (fun w0 w1 w2 w3 w4 w5 w6 w7 w8 : Int => q_run2 (t_b v) w0 w1 w2 w3 w3 w4 w5 w6 w7 w8) (l_e1 x 0) (l_q2 1 x 1) (l_e0 x (7)) (l_e0 x (0)) (l_e1 x 2) (l_e1 x 3) (l_e1 x 4) (l_e1 x 5) (l_e1 x 8) (h.2.2.2.1)) (l_c5 (fun w0 w1 w2 w3 w4 : Int => q_tok (t_b v) w0 w1 w2 w3 w4) (l_e1 x 0) (l_q2 1 x 1) (l_e0 x (3)) (l_e1 x 6) (l_e1 x 7) (h.2.2.2.2.1)) (l_cc (l_q1 400 x 1) (h.2.1.1)) (l_cc (l_q2 1 x 4) (h.2.1.2.1))
    refine l_outH rfl (And.intro h.1 ?_)
    exact l_o9 (fun w0 w1 w2 w3 w4 w5 w6 w7 w8 : Int => (True) ∧ (q_run2 (t_b v) w0 w1 w2 w3 w3 w4 w5 w6 w7 w8 ∧ True)) (l_e1 x 0) (l_e1 x 1) (l_e0 x (8)) (l_e0 x (0)) (l_e1 x 2) (l_e1 x 3) (l_e1 x 4) (l_e1 x 5) (l_e1 x 8) K
  | skip
    intro v x h
    have C0 : (0 : Int) ≤ 400 - x 1 := l_cc (a := y_ev x (400, [(1, (-1))])) (by show ((400) : Int) + ((-1) * x 1 + 0) = 400 - x 1; omega) (h.2.1.1)
    have C1 : (0 : Int) ≤ x 4 - 1 := l_cc (a := y_ev x ((-1), [(4, 1)])) (by show ((-1) : Int) + ((1) * x 4 + 0) = x 4 - 1; omega) (h.2.1.2.1)
    have E0 : y_ev x (0, [(0, 1)]) = x 0 := (l_e1 _ _)
    have E1 : y_ev x ((-1), [(1, 1)]) = x 1 - 1 := (by show ((-1) : Int) + ((1) * x 1 + 0) = x 1 - 1; omega)
    have E2 : y_ev x (7, []) = 7 := (l_e0 _ _)
    have E3 : y_ev x (0, []) = 0 := (l_e0 _ _)
    have E4 : y_ev x (0, [(2, 1)]) = x 2 := (l_e1 _ _)
    have E5 : y_ev x (0, [(3, 1)]) = x 3 := (l_e1 _ _)
    have E6 : y_ev x (0, [(4, 1)]) = x 4 := (l_e1 _ _)
    have E7 : y_ev x (0, [(5, 1)]) = x 5 := (l_e1 _ _)
    have E8 : y_ev x (0, [(8, 1)]) = x 8 := (l_e1 _ _)
    have E9 : y_ev x (3, []) = 3 := (l_e0 _ _)
    have E10 : y_ev x (0, [(6, 1)]) = x 6 := (l_e1 _ _)
    have E11 : y_ev x (0, [(7, 1)]) = x 7 := (l_e1 _ _)
    have T0 : q_run2 (t_b v) (y_ev x (0, [(0, 1)])) (y_ev x ((-1), [(1, 1)])) (y_ev x (7, [])) (y_ev x (0, [])) (y_ev x (0, [])) (y_ev x (0, [(2, 1)])) (y_ev x (0, [(3, 1)])) (y_ev x (0, [(4, 1)])) (y_ev x (0, [(5, 1)])) (y_ev x (0, [(8, 1)])) := h.2.2.2.1
    (try rw [E0] at T0); (try rw [E1] at T0); (try rw [E2] at T0); (try rw [E3] at T0); (try rw [E4] at T0); (try rw [E5] at T0); (try rw [E6] at T0); (try rw [E7] at T0); (try rw [E8] at T0)
    have T1 : q_tok (t_b v) (y_ev x (0, [(0, 1)])) (y_ev x ((-1), [(1, 1)])) (y_ev x (3, [])) (y_ev x (0, [(6, 1)])) (y_ev x (0, [(7, 1)])) := h.2.2.2.2.1
    (try rw [E0] at T1); (try rw [E1] at T1); (try rw [E9] at T1); (try rw [E10] at T1); (try rw [E11] at T1)
    have K := k_i7_w (V := v) (n := x 0) (d := x 1) (H := x 2) (L := x 3) (W := x 4) (WP := x 5) (s := x 6) (v := x 7) (S := x 8) T0 T1 C0 C1
    refine l_outH rfl (And.intro h.1 ?_)
    have O0 : y_ev x (0, [(0, 1)]) = x 0 := l_e1 _ _
    have O1 : y_ev x (0, [(1, 1)]) = x 1 := l_e1 _ _
    have O2 : y_ev x (8, []) = 8 := l_e0 _ _
    have O3 : y_ev x (0, []) = 0 := l_e0 _ _
    have O4 : y_ev x (0, [(2, 1)]) = x 2 := l_e1 _ _
    have O5 : y_ev x (0, [(3, 1)]) = x 3 := l_e1 _ _
    have O6 : y_ev x (0, [(4, 1)]) = x 4 := l_e1 _ _
    have O7 : y_ev x (0, [(5, 1)]) = x 5 := l_e1 _ _
    have O8 : y_ev x (0, [(8, 1)]) = x 8 := l_e1 _ _
    show (True) ∧ (q_run2 (t_b v) (y_ev x (0, [(0, 1)])) (y_ev x (0, [(1, 1)])) (y_ev x (8, [])) (y_ev x (0, [])) (y_ev x (0, [])) (y_ev x (0, [(2, 1)])) (y_ev x (0, [(3, 1)])) (y_ev x (0, [(4, 1)])) (y_ev x (0, [(5, 1)])) (y_ev x (0, [(8, 1)])) ∧ True)
    (try rw [O0]); (try rw [O1]); (try rw [O2]); (try rw [O3]); (try rw [O4]); (try rw [O5]); (try rw [O6]); (try rw [O7]); (try rw [O8])
    exact K
def lm_283 : zLem := (([((-2147483648), 2147483647), ((-2147483648), 2147483647), ((-2147483648), 2147483647), ((-2147483648), 2147483647), ((-2147483648), 2147483647), ((-2147483648), 2147483647), ((-2147483648), 2147483647), ((-9223372036854775808), 9223372036854775807), ((-2147483648), 2147483647)], [(12, false)], [(400, [(1, (-1))]), (0, [(4, 1)]), (0, [(4, (-1))]), ((-1), [(7, (-1))])], [], [], [(0, (false, 11, 0, []), 0, 0, 0, [(1, 1)])], [(40, [(0, [(0, 1)]), ((-1), [(1, 1)]), (7, []), (0, []), (0, []), (0, [(2, 1)]), (0, [(3, 1)]), (0, [(4, 1)]), (0, [(5, 1)]), (0, [(8, 1)])]), (36, [(0, [(0, 1)]), ((-1), [(1, 1)]), (3, []), (0, [(6, 1)]), (0, [(7, 1)])])]), [([((-2147483648), 2147483647), ((-2147483648), 2147483647), ((-2147483648), 2147483647), ((-2147483648), 2147483647), ((-2147483648), 2147483647), ((-2147483648), 2147483647), ((-2147483648), 2147483647), ((-9223372036854775808), 9223372036854775807), ((-2147483648), 2147483647)], [(12, false)], [], [], [], [], [(40, [(0, [(0, 1)]), (0, [(1, 1)]), (8, []), (0, []), (0, []), (0, [(2, 1)]), (0, [(3, 1)]), (5, []), (0, [(6, 1)]), (0, [(8, 1)])])])])
theorem lk_283 : l_core lm_283 := by
  first
  | skip
    intro v x h
    have K := k_i7_lo (V := v) (n := x 0) (d := x 1) (H := x 2) (L := x 3) (W := x 4) (WP := x 5) (s := x 6) (v := x 7) (S := x 8) (l_c9 (fun w0 w1 w2 w3 w4 w5 w6 w7 w8 : Int => q_run2 (t_b v) w0 w1 w2 w3 w3 w4 w5 w6 w7 w8) (l_e1 x 0) (l_q2 1 x 1) (l_e0 x (7)) (l_e0 x (0)) (l_e1 x 2) (l_e1 x 3) (l_e1 x 4) (l_e1 x 5) (l_e1 x 8) (h.2.2.2.1)) (l_c5 (fun w0 w1 w2 w3 w4 : Int => q_tok (t_b v) w0 w1 w2 w3 w4) (l_e1 x 0) (l_q2 1 x 1) (l_e0 x (3)) (l_e1 x 6) (l_e1 x 7) (h.2.2.2.2.1)) (l_cc (l_q1 400 x 1) (h.2.1.1)) (l_cc (l_e1 x 4) (h.2.1.2.1)) (l_cc (l_q7 x 4) (h.2.1.2.2.1)) (l_cc (l_q11 1 x 7) (h.2.1.2.2.2.1))
    refine l_outH rfl (And.intro h.1 ?_)
    exact l_o9 (fun w0 w1 w2 w3 w4 w5 w6 w7 w8 : Int => (True) ∧ (q_run2 (t_b v) w0 w1 w2 w3 w3 w4 w5 w6 w7 w8 ∧ True)) (l_e1 x 0) (l_e1 x 1) (l_e0 x (8)) (l_e0 x (0)) (l_e1 x 2) (l_e1 x 3) (l_e0 x (5)) (l_e1 x 6) (l_e1 x 8) K
  | skip
    intro v x h
    have C0 : (0 : Int) ≤ 400 - x 1 := l_cc (a := y_ev x (400, [(1, (-1))])) (by show ((400) : Int) + ((-1) * x 1 + 0) = 400 - x 1; omega) (h.2.1.1)
    have C1 : (0 : Int) ≤ x 4 := l_cc (a := y_ev x (0, [(4, 1)])) (l_e1 _ _) (h.2.1.2.1)
    have C2 : (0 : Int) ≤ -x 4 := l_cc (a := y_ev x (0, [(4, (-1))])) (by show ((0) : Int) + ((-1) * x 4 + 0) = -x 4; omega) (h.2.1.2.2.1)
    have C3 : (0 : Int) ≤ -x 7 - 1 := l_cc (a := y_ev x ((-1), [(7, (-1))])) (by show ((-1) : Int) + ((-1) * x 7 + 0) = -x 7 - 1; omega) (h.2.1.2.2.2.1)
    have E0 : y_ev x (0, [(0, 1)]) = x 0 := (l_e1 _ _)
    have E1 : y_ev x ((-1), [(1, 1)]) = x 1 - 1 := (by show ((-1) : Int) + ((1) * x 1 + 0) = x 1 - 1; omega)
    have E2 : y_ev x (7, []) = 7 := (l_e0 _ _)
    have E3 : y_ev x (0, []) = 0 := (l_e0 _ _)
    have E4 : y_ev x (0, [(2, 1)]) = x 2 := (l_e1 _ _)
    have E5 : y_ev x (0, [(3, 1)]) = x 3 := (l_e1 _ _)
    have E6 : y_ev x (0, [(4, 1)]) = x 4 := (l_e1 _ _)
    have E7 : y_ev x (0, [(5, 1)]) = x 5 := (l_e1 _ _)
    have E8 : y_ev x (0, [(8, 1)]) = x 8 := (l_e1 _ _)
    have E9 : y_ev x (3, []) = 3 := (l_e0 _ _)
    have E10 : y_ev x (0, [(6, 1)]) = x 6 := (l_e1 _ _)
    have E11 : y_ev x (0, [(7, 1)]) = x 7 := (l_e1 _ _)
    have T0 : q_run2 (t_b v) (y_ev x (0, [(0, 1)])) (y_ev x ((-1), [(1, 1)])) (y_ev x (7, [])) (y_ev x (0, [])) (y_ev x (0, [])) (y_ev x (0, [(2, 1)])) (y_ev x (0, [(3, 1)])) (y_ev x (0, [(4, 1)])) (y_ev x (0, [(5, 1)])) (y_ev x (0, [(8, 1)])) := h.2.2.2.1
    (try rw [E0] at T0); (try rw [E1] at T0); (try rw [E2] at T0); (try rw [E3] at T0); (try rw [E4] at T0); (try rw [E5] at T0); (try rw [E6] at T0); (try rw [E7] at T0); (try rw [E8] at T0)
    have T1 : q_tok (t_b v) (y_ev x (0, [(0, 1)])) (y_ev x ((-1), [(1, 1)])) (y_ev x (3, [])) (y_ev x (0, [(6, 1)])) (y_ev x (0, [(7, 1)])) := h.2.2.2.2.1
    (try rw [E0] at T1); (try rw [E1] at T1); (try rw [E9] at T1); (try rw [E10] at T1); (try rw [E11] at T1)
    have K := k_i7_lo (V := v) (n := x 0) (d := x 1) (H := x 2) (L := x 3) (W := x 4) (WP := x 5) (s := x 6) (v := x 7) (S := x 8) T0 T1 C0 C1 C2 C3
    refine l_outH rfl (And.intro h.1 ?_)
    have O0 : y_ev x (0, [(0, 1)]) = x 0 := l_e1 _ _
    have O1 : y_ev x (0, [(1, 1)]) = x 1 := l_e1 _ _
    have O2 : y_ev x (8, []) = 8 := l_e0 _ _
    have O3 : y_ev x (0, []) = 0 := l_e0 _ _
    have O4 : y_ev x (0, [(2, 1)]) = x 2 := l_e1 _ _
    have O5 : y_ev x (0, [(3, 1)]) = x 3 := l_e1 _ _
    have O6 : y_ev x (5, []) = 5 := l_e0 _ _
    have O7 : y_ev x (0, [(6, 1)]) = x 6 := l_e1 _ _
    have O8 : y_ev x (0, [(8, 1)]) = x 8 := l_e1 _ _
    show (True) ∧ (q_run2 (t_b v) (y_ev x (0, [(0, 1)])) (y_ev x (0, [(1, 1)])) (y_ev x (8, [])) (y_ev x (0, [])) (y_ev x (0, [])) (y_ev x (0, [(2, 1)])) (y_ev x (0, [(3, 1)])) (y_ev x (5, [])) (y_ev x (0, [(6, 1)])) (y_ev x (0, [(8, 1)])) ∧ True)
    (try rw [O0]); (try rw [O1]); (try rw [O2]); (try rw [O3]); (try rw [O4]); (try rw [O5]); (try rw [O6]); (try rw [O7]); (try rw [O8])
    exact K
def lm_284 : zLem := (([((-2147483648), 2147483647), ((-2147483648), 2147483647), ((-2147483648), 2147483647), ((-2147483648), 2147483647), ((-2147483648), 2147483647), ((-2147483648), 2147483647), ((-2147483648), 2147483647), ((-9223372036854775808), 9223372036854775807), ((-2147483648), 2147483647)], [(12, false)], [(400, [(1, (-1))]), (0, [(4, 1)]), (0, [(4, (-1))]), ((-10), [(7, 1)])], [], [], [(0, (false, 11, 0, []), 0, 0, 0, [(1, 1)])], [(40, [(0, [(0, 1)]), ((-1), [(1, 1)]), (7, []), (0, []), (0, []), (0, [(2, 1)]), (0, [(3, 1)]), (0, [(4, 1)]), (0, [(5, 1)]), (0, [(8, 1)])]), (36, [(0, [(0, 1)]), ((-1), [(1, 1)]), (3, []), (0, [(6, 1)]), (0, [(7, 1)])])]), [([((-2147483648), 2147483647), ((-2147483648), 2147483647), ((-2147483648), 2147483647), ((-2147483648), 2147483647), ((-2147483648), 2147483647), ((-2147483648), 2147483647), ((-2147483648), 2147483647), ((-9223372036854775808), 9223372036854775807), ((-2147483648), 2147483647)], [(12, false)], [], [], [], [], [(40, [(0, [(0, 1)]), (0, [(1, 1)]), (8, []), (0, []), (0, []), (0, [(2, 1)]), (0, [(3, 1)]), (5, []), (0, [(6, 1)]), (0, [(8, 1)])])])])
theorem lk_284 : l_core lm_284 := by
  first
  | skip
    intro v x h
    have K := k_i7_hi (V := v) (n := x 0) (d := x 1) (H := x 2) (L := x 3) (W := x 4) (WP := x 5) (s := x 6) (v := x 7) (S := x 8) (l_c9 (fun w0 w1 w2 w3 w4 w5 w6 w7 w8 : Int => q_run2 (t_b v) w0 w1 w2 w3 w3 w4 w5 w6 w7 w8) (l_e1 x 0) (l_q2 1 x 1) (l_e0 x (7)) (l_e0 x (0)) (l_e1 x 2) (l_e1 x 3) (l_e1 x 4) (l_e1 x 5) (l_e1 x 8) (h.2.2.2.1)) (l_c5 (fun w0 w1 w2 w3 w4 : Int => q_tok (t_b v) w0 w1 w2 w3 w4) (l_e1 x 0) (l_q2 1 x 1) (l_e0 x (3)) (l_e1 x 6) (l_e1 x 7) (h.2.2.2.2.1)) (l_cc (l_q1 400 x 1) (h.2.1.1)) (l_cc (l_e1 x 4) (h.2.1.2.1)) (l_cc (l_q7 x 4) (h.2.1.2.2.1)) (l_cc (l_q2 10 x 7) (h.2.1.2.2.2.1))
    refine l_outH rfl (And.intro h.1 ?_)
    exact l_o9 (fun w0 w1 w2 w3 w4 w5 w6 w7 w8 : Int => (True) ∧ (q_run2 (t_b v) w0 w1 w2 w3 w3 w4 w5 w6 w7 w8 ∧ True)) (l_e1 x 0) (l_e1 x 1) (l_e0 x (8)) (l_e0 x (0)) (l_e1 x 2) (l_e1 x 3) (l_e0 x (5)) (l_e1 x 6) (l_e1 x 8) K
  | skip
    intro v x h
    have C0 : (0 : Int) ≤ 400 - x 1 := l_cc (a := y_ev x (400, [(1, (-1))])) (by show ((400) : Int) + ((-1) * x 1 + 0) = 400 - x 1; omega) (h.2.1.1)
    have C1 : (0 : Int) ≤ x 4 := l_cc (a := y_ev x (0, [(4, 1)])) (l_e1 _ _) (h.2.1.2.1)
    have C2 : (0 : Int) ≤ -x 4 := l_cc (a := y_ev x (0, [(4, (-1))])) (by show ((0) : Int) + ((-1) * x 4 + 0) = -x 4; omega) (h.2.1.2.2.1)
    have C3 : (0 : Int) ≤ x 7 - 10 := l_cc (a := y_ev x ((-10), [(7, 1)])) (by show ((-10) : Int) + ((1) * x 7 + 0) = x 7 - 10; omega) (h.2.1.2.2.2.1)
    have E0 : y_ev x (0, [(0, 1)]) = x 0 := (l_e1 _ _)
    have E1 : y_ev x ((-1), [(1, 1)]) = x 1 - 1 := (by show ((-1) : Int) + ((1) * x 1 + 0) = x 1 - 1; omega)
    have E2 : y_ev x (7, []) = 7 := (l_e0 _ _)
    have E3 : y_ev x (0, []) = 0 := (l_e0 _ _)
    have E4 : y_ev x (0, [(2, 1)]) = x 2 := (l_e1 _ _)
    have E5 : y_ev x (0, [(3, 1)]) = x 3 := (l_e1 _ _)
    have E6 : y_ev x (0, [(4, 1)]) = x 4 := (l_e1 _ _)
    have E7 : y_ev x (0, [(5, 1)]) = x 5 := (l_e1 _ _)
    have E8 : y_ev x (0, [(8, 1)]) = x 8 := (l_e1 _ _)
    have E9 : y_ev x (3, []) = 3 := (l_e0 _ _)
    have E10 : y_ev x (0, [(6, 1)]) = x 6 := (l_e1 _ _)
    have E11 : y_ev x (0, [(7, 1)]) = x 7 := (l_e1 _ _)
    have T0 : q_run2 (t_b v) (y_ev x (0, [(0, 1)])) (y_ev x ((-1), [(1, 1)])) (y_ev x (7, [])) (y_ev x (0, [])) (y_ev x (0, [])) (y_ev x (0, [(2, 1)])) (y_ev x (0, [(3, 1)])) (y_ev x (0, [(4, 1)])) (y_ev x (0, [(5, 1)])) (y_ev x (0, [(8, 1)])) := h.2.2.2.1
    (try rw [E0] at T0); (try rw [E1] at T0); (try rw [E2] at T0); (try rw [E3] at T0); (try rw [E4] at T0); (try rw [E5] at T0); (try rw [E6] at T0); (try rw [E7] at T0); (try rw [E8] at T0)
    have T1 : q_tok (t_b v) (y_ev x (0, [(0, 1)])) (y_ev x ((-1), [(1, 1)])) (y_ev x (3, [])) (y_ev x (0, [(6, 1)])) (y_ev x (0, [(7, 1)])) := h.2.2.2.2.1
    (try rw [E0] at T1); (try rw [E1] at T1); (try rw [E9] at T1); (try rw [E10] at T1); (try rw [E11] at T1)
    have K := k_i7_hi (V := v) (n := x 0) (d := x 1) (H := x 2) (L := x 3) (W := x 4) (WP := x 5) (s := x 6) (v := x 7) (S := x 8) T0 T1 C0 C1 C2 C3
    refine l_outH rfl (And.intro h.1 ?_)
    have O0 : y_ev x (0, [(0, 1)]) = x 0 := l_e1 _ _
    have O1 : y_ev x (0, [(1, 1)]) = x 1 := l_e1 _ _
    have O2 : y_ev x (8, []) = 8 := l_e0 _ _
    have O3 : y_ev x (0, []) = 0 := l_e0 _ _
    have O4 : y_ev x (0, [(2, 1)]) = x 2 := l_e1 _ _
    have O5 : y_ev x (0, [(3, 1)]) = x 3 := l_e1 _ _
    have O6 : y_ev x (5, []) = 5 := l_e0 _ _
    have O7 : y_ev x (0, [(6, 1)]) = x 6 := l_e1 _ _
    have O8 : y_ev x (0, [(8, 1)]) = x 8 := l_e1 _ _
    show (True) ∧ (q_run2 (t_b v) (y_ev x (0, [(0, 1)])) (y_ev x (0, [(1, 1)])) (y_ev x (8, [])) (y_ev x (0, [])) (y_ev x (0, [])) (y_ev x (0, [(2, 1)])) (y_ev x (0, [(3, 1)])) (y_ev x (5, [])) (y_ev x (0, [(6, 1)])) (y_ev x (0, [(8, 1)])) ∧ True)
    (try rw [O0]); (try rw [O1]); (try rw [O2]); (try rw [O3]); (try rw [O4]); (try rw [O5]); (try rw [O6]); (try rw [O7]); (try rw [O8])
    exact K
def lm_285 : zLem := (([((-2147483648), 2147483647), ((-2147483648), 2147483647), ((-2147483648), 2147483647), ((-2147483648), 2147483647), ((-2147483648), 2147483647), ((-2147483648), 2147483647), ((-2147483648), 2147483647), ((-9223372036854775808), 9223372036854775807), ((-2147483648), 2147483647)], [(12, false)], [(400, [(1, (-1))]), ((-1), [(7, 1)]), (99, [(7, (-1))])], [], [], [(0, (false, 11, 0, []), 0, 0, 0, [(1, 1)])], [(40, [(0, [(0, 1)]), ((-1), [(1, 1)]), (9, []), (0, []), (0, []), (0, [(2, 1)]), (0, [(3, 1)]), (0, [(4, 1)]), (0, [(5, 1)]), (0, [(8, 1)])]), (36, [(0, [(0, 1)]), ((-1), [(1, 1)]), (3, []), (0, [(6, 1)]), (0, [(7, 1)])])]), [([((-2147483648), 2147483647), ((-2147483648), 2147483647), ((-2147483648), 2147483647), ((-2147483648), 2147483647), ((-2147483648), 2147483647), ((-2147483648), 2147483647), ((-2147483648), 2147483647), ((-9223372036854775808), 9223372036854775807), ((-2147483648), 2147483647)], [(12, false)], [], [], [], [], [(40, [(0, [(0, 1)]), (0, [(1, 1)]), (13, []), (0, []), (0, []), (0, [(2, 1)]), (0, [(3, 1)]), (0, [(4, 1)]), (0, [(5, 1)]), (0, [(8, 1)])])])])
theorem lk_285 : l_core lm_285 := by
  first
  | skip
    intro v x h
    have K := k_i9_in (V := v) (n := x 0) (d := x 1) (H := x 2) (L := x 3) (W := x 4) (WP := x 5) (s := x 6) (v := x 7) (S := x 8) (l_c9 (fun w0 w1 w2 w3 w4 w5 w6 w7 w8 : Int => q_run2 (t_b v) w0 w1 w2 w3 w3 w4 w5 w6 w7 w8) (l_e1 x 0) (l_q2 1 x 1) (l_e0 x (9)) (l_e0 x (0)) (l_e1 x 2) (l_e1 x 3) (l_e1 x 4) (l_e1 x 5) (l_e1 x 8) (h.2.2.2.1)) (l_c5 (fun w0 w1 w2 w3 w4 : Int => q_tok (t_b v) w0 w1 w2 w3 w4) (l_e1 x 0) (l_q2 1 x 1) (l_e0 x (3)) (l_e1 x 6) (l_e1 x 7) (h.2.2.2.2.1)) (l_cc (l_q1 400 x 1) (h.2.1.1)) (l_cc (l_q2 1 x 7) (h.2.1.2.1)) (l_cc (l_q1 99 x 7) (h.2.1.2.2.1))
    refine l_outH rfl (And.intro h.1 ?_)
    exact l_o9 (fun w0 w1 w2 w3 w4 w5 w6 w7 w8 : Int => (True) ∧ (q_run2 (t_b v) w0 w1 w2 w3 w3 w4 w5 w6 w7 w8 ∧ True)) (l_e1 x 0) (l_e1 x 1) (l_e0 x (13)) (l_e0 x (0)) (l_e1 x 2) (l_e1 x 3) (l_e1 x 4) (l_e1 x 5) (l_e1 x 8) K
  | skip
    intro v x h
    have C0 : (0 : Int) ≤ 400 - x 1 := l_cc (a := y_ev x (400, [(1, (-1))])) (by show ((400) : Int) + ((-1) * x 1 + 0) = 400 - x 1; omega) (h.2.1.1)
    have C1 : (0 : Int) ≤ x 7 - 1 := l_cc (a := y_ev x ((-1), [(7, 1)])) (by show ((-1) : Int) + ((1) * x 7 + 0) = x 7 - 1; omega) (h.2.1.2.1)
    have C2 : (0 : Int) ≤ 99 - x 7 := l_cc (a := y_ev x (99, [(7, (-1))])) (by show ((99) : Int) + ((-1) * x 7 + 0) = 99 - x 7; omega) (h.2.1.2.2.1)
    have E0 : y_ev x (0, [(0, 1)]) = x 0 := (l_e1 _ _)
    have E1 : y_ev x ((-1), [(1, 1)]) = x 1 - 1 := (by show ((-1) : Int) + ((1) * x 1 + 0) = x 1 - 1; omega)
    have E2 : y_ev x (9, []) = 9 := (l_e0 _ _)
    have E3 : y_ev x (0, []) = 0 := (l_e0 _ _)
    have E4 : y_ev x (0, [(2, 1)]) = x 2 := (l_e1 _ _)
    have E5 : y_ev x (0, [(3, 1)]) = x 3 := (l_e1 _ _)
    have E6 : y_ev x (0, [(4, 1)]) = x 4 := (l_e1 _ _)
    have E7 : y_ev x (0, [(5, 1)]) = x 5 := (l_e1 _ _)
    have E8 : y_ev x (0, [(8, 1)]) = x 8 := (l_e1 _ _)
    have E9 : y_ev x (3, []) = 3 := (l_e0 _ _)
    have E10 : y_ev x (0, [(6, 1)]) = x 6 := (l_e1 _ _)
    have E11 : y_ev x (0, [(7, 1)]) = x 7 := (l_e1 _ _)
    have T0 : q_run2 (t_b v) (y_ev x (0, [(0, 1)])) (y_ev x ((-1), [(1, 1)])) (y_ev x (9, [])) (y_ev x (0, [])) (y_ev x (0, [])) (y_ev x (0, [(2, 1)])) (y_ev x (0, [(3, 1)])) (y_ev x (0, [(4, 1)])) (y_ev x (0, [(5, 1)])) (y_ev x (0, [(8, 1)])) := h.2.2.2.1
    (try rw [E0] at T0); (try rw [E1] at T0); (try rw [E2] at T0); (try rw [E3] at T0); (try rw [E4] at T0); (try rw [E5] at T0); (try rw [E6] at T0); (try rw [E7] at T0); (try rw [E8] at T0)
    have T1 : q_tok (t_b v) (y_ev x (0, [(0, 1)])) (y_ev x ((-1), [(1, 1)])) (y_ev x (3, [])) (y_ev x (0, [(6, 1)])) (y_ev x (0, [(7, 1)])) := h.2.2.2.2.1
    (try rw [E0] at T1); (try rw [E1] at T1); (try rw [E9] at T1); (try rw [E10] at T1); (try rw [E11] at T1)
    have K := k_i9_in (V := v) (n := x 0) (d := x 1) (H := x 2) (L := x 3) (W := x 4) (WP := x 5) (s := x 6) (v := x 7) (S := x 8) T0 T1 C0 C1 C2
    refine l_outH rfl (And.intro h.1 ?_)
    have O0 : y_ev x (0, [(0, 1)]) = x 0 := l_e1 _ _
    have O1 : y_ev x (0, [(1, 1)]) = x 1 := l_e1 _ _
    have O2 : y_ev x (13, []) = 13 := l_e0 _ _
    have O3 : y_ev x (0, []) = 0 := l_e0 _ _
    have O4 : y_ev x (0, [(2, 1)]) = x 2 := l_e1 _ _
    have O5 : y_ev x (0, [(3, 1)]) = x 3 := l_e1 _ _
    have O6 : y_ev x (0, [(4, 1)]) = x 4 := l_e1 _ _
    have O7 : y_ev x (0, [(5, 1)]) = x 5 := l_e1 _ _
    have O8 : y_ev x (0, [(8, 1)]) = x 8 := l_e1 _ _
    show (True) ∧ (q_run2 (t_b v) (y_ev x (0, [(0, 1)])) (y_ev x (0, [(1, 1)])) (y_ev x (13, [])) (y_ev x (0, [])) (y_ev x (0, [])) (y_ev x (0, [(2, 1)])) (y_ev x (0, [(3, 1)])) (y_ev x (0, [(4, 1)])) (y_ev x (0, [(5, 1)])) (y_ev x (0, [(8, 1)])) ∧ True)
    (try rw [O0]); (try rw [O1]); (try rw [O2]); (try rw [O3]); (try rw [O4]); (try rw [O5]); (try rw [O6]); (try rw [O7]); (try rw [O8])
    exact K
def lm_286 : zLem := (([((-2147483648), 2147483647), ((-2147483648), 2147483647), ((-2147483648), 2147483647), ((-2147483648), 2147483647), ((-2147483648), 2147483647), ((-2147483648), 2147483647), ((-2147483648), 2147483647), ((-9223372036854775808), 9223372036854775807), ((-2147483648), 2147483647)], [(12, false)], [(400, [(1, (-1))]), ((-1), [(4, 1)])], [], [], [(0, (false, 11, 0, []), 0, 0, 0, [(1, 1)])], [(40, [(0, [(0, 1)]), ((-1), [(1, 1)]), (9, []), (0, []), (0, []), (0, [(2, 1)]), (0, [(3, 1)]), (0, [(4, 1)]), (0, [(5, 1)]), (0, [(8, 1)])]), (36, [(0, [(0, 1)]), ((-1), [(1, 1)]), (3, []), (0, [(6, 1)]), (0, [(7, 1)])])]), [([((-2147483648), 2147483647), ((-2147483648), 2147483647), ((-2147483648), 2147483647), ((-2147483648), 2147483647), ((-2147483648), 2147483647), ((-2147483648), 2147483647), ((-2147483648), 2147483647), ((-9223372036854775808), 9223372036854775807), ((-2147483648), 2147483647)], [(12, false)], [], [], [], [], [(40, [(0, [(0, 1)]), (0, [(1, 1)]), (13, []), (0, []), (0, []), (0, [(2, 1)]), (0, [(3, 1)]), (0, [(4, 1)]), (0, [(5, 1)]), (0, [(8, 1)])])])])
theorem lk_286 : l_core lm_286 := by
  first
  | skip
    intro v x h
    have K := k_i9_w (V := v) (n := x 0) (d := x 1) (H := x 2) (L := x 3) (W := x 4) (WP := x 5) (s := x 6) (v := x 7) (S := x 8) (l_c9 (fun w0 w1 w2 w3 w4 w5 w6 w7 w8 : Int => q_run2 (t_b v) w0 w1 w2 w3 w3 w4 w5 w6 w7 w8) (l_e1 x 0) (l_q2 1 x 1) (l_e0 x (9)) (l_e0 x (0)) (l_e1 x 2) (l_e1 x 3) (l_e1 x 4) (l_e1 x 5) (l_e1 x 8) (h.2.2.2.1)) (l_c5 (fun w0 w1 w2 w3 w4 : Int => q_tok (t_b v) w0 w1 w2 w3 w4) (l_e1 x 0) (l_q2 1 x 1) (l_e0 x (3)) (l_e1 x 6) (l_e1 x 7) (h.2.2.2.2.1)) (l_cc (l_q1 400 x 1) (h.2.1.1)) (l_cc (l_q2 1 x 4) (h.2.1.2.1))
    refine l_outH rfl (And.intro h.1 ?_)
    exact l_o9 (fun w0 w1 w2 w3 w4 w5 w6 w7 w8 : Int => (True) ∧ (q_run2 (t_b v) w0 w1 w2 w3 w3 w4 w5 w6 w7 w8 ∧ True)) (l_e1 x 0) (l_e1 x 1) (l_e0 x (13)) (l_e0 x (0)) (l_e1 x 2) (l_e1 x 3) (l_e1 x 4) (l_e1 x 5) (l_e1 x 8) K
  | skip
    intro v x h
    have C0 : (0 : Int) ≤ 400 - x 1 := l_cc (a := y_ev x (400, [(1, (-1))])) (by show ((400) : Int) + ((-1) * x 1 + 0) = 400 - x 1; omega) (h.2.1.1)
    have C1 : (0 : Int) ≤ x 4 - 1 := l_cc (a := y_ev x ((-1), [(4, 1)])) (by show ((-1) : Int) + ((1) * x 4 + 0) = x 4 - 1; omega) (h.2.1.2.1)
    have E0 : y_ev x (0, [(0, 1)]) = x 0 := (l_e1 _ _)
    have E1 : y_ev x ((-1), [(1, 1)]) = x 1 - 1 := (by show ((-1) : Int) + ((1) * x 1 + 0) = x 1 - 1; omega)
    have E2 : y_ev x (9, []) = 9 := (l_e0 _ _)
    have E3 : y_ev x (0, []) = 0 := (l_e0 _ _)
    have E4 : y_ev x (0, [(2, 1)]) = x 2 := (l_e1 _ _)
    have E5 : y_ev x (0, [(3, 1)]) = x 3 := (l_e1 _ _)
    have E6 : y_ev x (0, [(4, 1)]) = x 4 := (l_e1 _ _)
    have E7 : y_ev x (0, [(5, 1)]) = x 5 := (l_e1 _ _)
    have E8 : y_ev x (0, [(8, 1)]) = x 8 := (l_e1 _ _)
    have E9 : y_ev x (3, []) = 3 := (l_e0 _ _)
    have E10 : y_ev x (0, [(6, 1)]) = x 6 := (l_e1 _ _)
    have E11 : y_ev x (0, [(7, 1)]) = x 7 := (l_e1 _ _)
    have T0 : q_run2 (t_b v) (y_ev x (0, [(0, 1)])) (y_ev x ((-1), [(1, 1)])) (y_ev x (9, [])) (y_ev x (0, [])) (y_ev x (0, [])) (y_ev x (0, [(2, 1)])) (y_ev x (0, [(3, 1)])) (y_ev x (0, [(4, 1)])) (y_ev x (0, [(5, 1)])) (y_ev x (0, [(8, 1)])) := h.2.2.2.1
    (try rw [E0] at T0); (try rw [E1] at T0); (try rw [E2] at T0); (try rw [E3] at T0); (try rw [E4] at T0); (try rw [E5] at T0); (try rw [E6] at T0); (try rw [E7] at T0); (try rw [E8] at T0)
    have T1 : q_tok (t_b v) (y_ev x (0, [(0, 1)])) (y_ev x ((-1), [(1, 1)])) (y_ev x (3, [])) (y_ev x (0, [(6, 1)])) (y_ev x (0, [(7, 1)])) := h.2.2.2.2.1
    (try rw [E0] at T1); (try rw [E1] at T1); (try rw [E9] at T1); (try rw [E10] at T1); (try rw [E11] at T1)
    have K := k_i9_w (V := v) (n := x 0) (d := x 1) (H := x 2) (L := x 3) (W := x 4) (WP := x 5) (s := x 6) (v := x 7) (S := x 8) T0 T1 C0 C1
    refine l_outH rfl (And.intro h.1 ?_)
    have O0 : y_ev x (0, [(0, 1)]) = x 0 := l_e1 _ _
    have O1 : y_ev x (0, [(1, 1)]) = x 1 := l_e1 _ _
    have O2 : y_ev x (13, []) = 13 := l_e0 _ _
    have O3 : y_ev x (0, []) = 0 := l_e0 _ _
    have O4 : y_ev x (0, [(2, 1)]) = x 2 := l_e1 _ _
    have O5 : y_ev x (0, [(3, 1)]) = x 3 := l_e1 _ _
    have O6 : y_ev x (0, [(4, 1)]) = x 4 := l_e1 _ _
    have O7 : y_ev x (0, [(5, 1)]) = x 5 := l_e1 _ _
    have O8 : y_ev x (0, [(8, 1)]) = x 8 := l_e1 _ _
    show (True) ∧ (q_run2 (t_b v) (y_ev x (0, [(0, 1)])) (y_ev x (0, [(1, 1)])) (y_ev x (13, [])) (y_ev x (0, [])) (y_ev x (0, [])) (y_ev x (0, [(2, 1)])) (y_ev x (0, [(3, 1)])) (y_ev x (0, [(4, 1)])) (y_ev x (0, [(5, 1)])) (y_ev x (0, [(8, 1)])) ∧ True)
    (try rw [O0]); (try rw [O1]); (try rw [O2]); (try rw [O3]); (try rw [O4]); (try rw [O5]); (try rw [O6]); (try rw [O7]); (try rw [O8])
    exact K
def lm_287 : zLem := (([((-2147483648), 2147483647), ((-2147483648), 2147483647), ((-2147483648), 2147483647), ((-2147483648), 2147483647), ((-2147483648), 2147483647), ((-2147483648), 2147483647), ((-2147483648), 2147483647), ((-9223372036854775808), 9223372036854775807), ((-2147483648), 2147483647)], [(12, false)], [(400, [(1, (-1))]), (0, [(4, 1)]), (0, [(4, (-1))]), (0, [(7, (-1))])], [], [], [(0, (false, 11, 0, []), 0, 0, 0, [(1, 1)])], [(40, [(0, [(0, 1)]), ((-1), [(1, 1)]), (9, []), (0, []), (0, []), (0, [(2, 1)]), (0, [(3, 1)]), (0, [(4, 1)]), (0, [(5, 1)]), (0, [(8, 1)])]), (36, [(0, [(0, 1)]), ((-1), [(1, 1)]), (3, []), (0, [(6, 1)]), (0, [(7, 1)])])]), [([((-2147483648), 2147483647), ((-2147483648), 2147483647), ((-2147483648), 2147483647), ((-2147483648), 2147483647), ((-2147483648), 2147483647), ((-2147483648), 2147483647), ((-2147483648), 2147483647), ((-9223372036854775808), 9223372036854775807), ((-2147483648), 2147483647)], [(12, false)], [], [], [], [], [(40, [(0, [(0, 1)]), (0, [(1, 1)]), (13, []), (0, []), (0, []), (0, [(2, 1)]), (0, [(3, 1)]), (5, []), (0, [(6, 1)]), (0, [(8, 1)])])])])
theorem lk_287 : l_core lm_287 := by
  first
  | skip
    intro v x h
    have K := k_i9_lo (V := v) (n := x 0) (d := x 1) (H := x 2) (L := x 3) (W := x 4) (WP := x 5) (s := x 6) (v := x 7) (S := x 8) (l_c9 (fun w0 w1 w2 w3 w4 w5 w6 w7 w8 : Int => q_run2 (t_b v) w0 w1 w2 w3 w3 w4 w5 w6 w7 w8) (l_e1 x 0) (l_q2 1 x 1) (l_e0 x (9)) (l_e0 x (0)) (l_e1 x 2) (l_e1 x 3) (l_e1 x 4) (l_e1 x 5) (l_e1 x 8) (h.2.2.2.1)) (l_c5 (fun w0 w1 w2 w3 w4 : Int => q_tok (t_b v) w0 w1 w2 w3 w4) (l_e1 x 0) (l_q2 1 x 1) (l_e0 x (3)) (l_e1 x 6) (l_e1 x 7) (h.2.2.2.2.1)) (l_cc (l_q1 400 x 1) (h.2.1.1)) (l_cc (l_e1 x 4) (h.2.1.2.1)) (l_cc (l_q7 x 4) (h.2.1.2.2.1)) (l_cc (l_q7 x 7) (h.2.1.2.2.2.1))
    refine l_outH rfl (And.intro h.1 ?_)
    exact l_o9 (fun w0 w1 w2 w3 w4 w5 w6 w7 w8 : Int => (True) ∧ (q_run2 (t_b v) w0 w1 w2 w3 w3 w4 w5 w6 w7 w8 ∧ True)) (l_e1 x 0) (l_e1 x 1) (l_e0 x (13)) (l_e0 x (0)) (l_e1 x 2) (l_e1 x 3) (l_e0 x (5)) (l_e1 x 6) (l_e1 x 8) K
  | skip
    intro v x h
    have C0 : (0 : Int) ≤ 400 - x 1 := l_cc (a := y_ev x (400, [(1, (-1))])) (by show ((400) : Int) + ((-1) * x 1 + 0) = 400 - x 1; omega) (h.2.1.1)
    have C1 : (0 : Int) ≤ x 4 := l_cc (a := y_ev x (0, [(4, 1)])) (l_e1 _ _) (h.2.1.2.1)
    have C2 : (0 : Int) ≤ -x 4 := l_cc (a := y_ev x (0, [(4, (-1))])) (by show ((0) : Int) + ((-1) * x 4 + 0) = -x 4; omega) (h.2.1.2.2.1)
    have C3 : (0 : Int) ≤ -x 7 := l_cc (a := y_ev x (0, [(7, (-1))])) (by show ((0) : Int) + ((-1) * x 7 + 0) = -x 7; omega) (h.2.1.2.2.2.1)
    have E0 : y_ev x (0, [(0, 1)]) = x 0 := (l_e1 _ _)
    have E1 : y_ev x ((-1), [(1, 1)]) = x 1 - 1 := (by show ((-1) : Int) + ((1) * x 1 + 0) = x 1 - 1; omega)
    have E2 : y_ev x (9, []) = 9 := (l_e0 _ _)
    have E3 : y_ev x (0, []) = 0 := (l_e0 _ _)
    have E4 : y_ev x (0, [(2, 1)]) = x 2 := (l_e1 _ _)
    have E5 : y_ev x (0, [(3, 1)]) = x 3 := (l_e1 _ _)
    have E6 : y_ev x (0, [(4, 1)]) = x 4 := (l_e1 _ _)
    have E7 : y_ev x (0, [(5, 1)]) = x 5 := (l_e1 _ _)
    have E8 : y_ev x (0, [(8, 1)]) = x 8 := (l_e1 _ _)
    have E9 : y_ev x (3, []) = 3 := (l_e0 _ _)
    have E10 : y_ev x (0, [(6, 1)]) = x 6 := (l_e1 _ _)
    have E11 : y_ev x (0, [(7, 1)]) = x 7 := (l_e1 _ _)
    have T0 : q_run2 (t_b v) (y_ev x (0, [(0, 1)])) (y_ev x ((-1), [(1, 1)])) (y_ev x (9, [])) (y_ev x (0, [])) (y_ev x (0, [])) (y_ev x (0, [(2, 1)])) (y_ev x (0, [(3, 1)])) (y_ev x (0, [(4, 1)])) (y_ev x (0, [(5, 1)])) (y_ev x (0, [(8, 1)])) := h.2.2.2.1
    (try rw [E0] at T0); (try rw [E1] at T0); (try rw [E2] at T0); (try rw [E3] at T0); (try rw [E4] at T0); (try rw [E5] at T0); (try rw [E6] at T0); (try rw [E7] at T0); (try rw [E8] at T0)
    have T1 : q_tok (t_b v) (y_ev x (0, [(0, 1)])) (y_ev x ((-1), [(1, 1)])) (y_ev x (3, [])) (y_ev x (0, [(6, 1)])) (y_ev x (0, [(7, 1)])) := h.2.2.2.2.1
    (try rw [E0] at T1); (try rw [E1] at T1); (try rw [E9] at T1); (try rw [E10] at T1); (try rw [E11] at T1)
    have K := k_i9_lo (V := v) (n := x 0) (d := x 1) (H := x 2) (L := x 3) (W := x 4) (WP := x 5) (s := x 6) (v := x 7) (S := x 8) T0 T1 C0 C1 C2 C3
    refine l_outH rfl (And.intro h.1 ?_)
    have O0 : y_ev x (0, [(0, 1)]) = x 0 := l_e1 _ _
    have O1 : y_ev x (0, [(1, 1)]) = x 1 := l_e1 _ _
    have O2 : y_ev x (13, []) = 13 := l_e0 _ _
    have O3 : y_ev x (0, []) = 0 := l_e0 _ _
    have O4 : y_ev x (0, [(2, 1)]) = x 2 := l_e1 _ _
    have O5 : y_ev x (0, [(3, 1)]) = x 3 := l_e1 _ _
    have O6 : y_ev x (5, []) = 5 := l_e0 _ _
    have O7 : y_ev x (0, [(6, 1)]) = x 6 := l_e1 _ _
    have O8 : y_ev x (0, [(8, 1)]) = x 8 := l_e1 _ _
    show (True) ∧ (q_run2 (t_b v) (y_ev x (0, [(0, 1)])) (y_ev x (0, [(1, 1)])) (y_ev x (13, [])) (y_ev x (0, [])) (y_ev x (0, [])) (y_ev x (0, [(2, 1)])) (y_ev x (0, [(3, 1)])) (y_ev x (5, [])) (y_ev x (0, [(6, 1)])) (y_ev x (0, [(8, 1)])) ∧ True)
    (try rw [O0]); (try rw [O1]); (try rw [O2]); (try rw [O3]); (try rw [O4]); (try rw [O5]); (try rw [O6]); (try rw [O7]); (try rw [O8])
    exact K
def lm_288 : zLem := (([((-2147483648), 2147483647), ((-2147483648), 2147483647), ((-2147483648), 2147483647), ((-2147483648), 2147483647), ((-2147483648), 2147483647), ((-2147483648), 2147483647), ((-2147483648), 2147483647), ((-9223372036854775808), 9223372036854775807), ((-2147483648), 2147483647)], [(12, false)], [(400, [(1, (-1))]), (0, [(4, 1)]), (0, [(4, (-1))]), ((-100), [(7, 1)])], [], [], [(0, (false, 11, 0, []), 0, 0, 0, [(1, 1)])], [(40, [(0, [(0, 1)]), ((-1), [(1, 1)]), (9, []), (0, []), (0, []), (0, [(2, 1)]), (0, [(3, 1)]), (0, [(4, 1)]), (0, [(5, 1)]), (0, [(8, 1)])]), (36, [(0, [(0, 1)]), ((-1), [(1, 1)]), (3, []), (0, [(6, 1)]), (0, [(7, 1)])])]), [([((-2147483648), 2147483647), ((-2147483648), 2147483647), ((-2147483648), 2147483647), ((-2147483648), 2147483647), ((-2147483648), 2147483647), ((-2147483648), 2147483647), ((-2147483648), 2147483647), ((-9223372036854775808), 9223372036854775807), ((-2147483648), 2147483647)], [(12, false)], [], [], [], [], [(40, [(0, [(0, 1)]), (0, [(1, 1)]), (13, []), (0, []), (0, []), (0, [(2, 1)]), (0, [(3, 1)]), (5, []), (0, [(6, 1)]), (0, [(8, 1)])])])])
theorem lk_288 : l_core lm_288 := by
  first
  | skip
    intro v x h
    have K := k_i9_hi (V := v) (n := x 0) (d := x 1) (H := x 2) (L := x 3) (W := x 4) (WP := x 5) (s := x 6) (v := x 7) (S := x 8) (l_c9 (fun w0 w1 w2 w3 w4 w5 w6 w7 w8 : Int => q_run2 (t_b v) w0 w1 w2 w3 w3 w4 w5 w6 w7 w8) (l_e1 x 0) (l_q2 1 x 1) (l_e0 x (9)) (l_e0 x (0)) (l_e1 x 2) (l_e1 x 3) (l_e1 x 4) (l_e1 x 5) (l_e1 x 8) (h.2.2.2.1)) (l_c5 (fun w0 w1 w2 w3 w4 : Int => q_tok (t_b v) w0 w1 w2 w3 w4) (l_e1 x 0) (l_q2 1 x 1) (l_e0 x (3)) (l_e1 x 6) (l_e1 x 7) (h.2.2.2.2.1)) (l_cc (l_q1 400 x 1) (h.2.1.1)) (l_cc (l_e1 x 4) (h.2.1.2.1)) (l_cc (l_q7 x 4) (h.2.1.2.2.1)) (l_cc (l_q2 100 x 7) (h.2.1.2.2.2.1))
    refine l_outH rfl (And.intro h.1 ?_)
    exact l_o9 (fun w0 w1 w2 w3 w4 w5 w6 w7 w8 : Int => (True) ∧ (q_run2 (t_b v) w0 w1 w2 w3 w3 w4 w5 w6 w7 w8 ∧ True)) (l_e1 x 0) (l_e1 x 1) (l_e0 x (13)) (l_e0 x (0)) (l_e1 x 2) (l_e1 x 3) (l_e0 x (5)) (l_e1 x 6) (l_e1 x 8) K
  | skip
    intro v x h
    have C0 : (0 : Int) ≤ 400 - x 1 := l_cc (a := y_ev x (400, [(1, (-1))])) (by show ((400) : Int) + ((-1) * x 1 + 0) = 400 - x 1; omega) (h.2.1.1)
    have C1 : (0 : Int) ≤ x 4 := l_cc (a := y_ev x (0, [(4, 1)])) (l_e1 _ _) (h.2.1.2.1)
    have C2 : (0 : Int) ≤ -x 4 := l_cc (a := y_ev x (0, [(4, (-1))])) (by show ((0) : Int) + ((-1) * x 4 + 0) = -x 4; omega) (h.2.1.2.2.1)
    have C3 : (0 : Int) ≤ x 7 - 100 := l_cc (a := y_ev x ((-100), [(7, 1)])) (by show ((-100) : Int) + ((1) * x 7 + 0) = x 7 - 100; omega) (h.2.1.2.2.2.1)
    have E0 : y_ev x (0, [(0, 1)]) = x 0 := (l_e1 _ _)
    have E1 : y_ev x ((-1), [(1, 1)]) = x 1 - 1 := (by show ((-1) : Int) + ((1) * x 1 + 0) = x 1 - 1; omega)
    have E2 : y_ev x (9, []) = 9 := (l_e0 _ _)
    have E3 : y_ev x (0, []) = 0 := (l_e0 _ _)
    have E4 : y_ev x (0, [(2, 1)]) = x 2 := (l_e1 _ _)
    have E5 : y_ev x (0, [(3, 1)]) = x 3 := (l_e1 _ _)
    have E6 : y_ev x (0, [(4, 1)]) = x 4 := (l_e1 _ _)
    have E7 : y_ev x (0, [(5, 1)]) = x 5 := (l_e1 _ _)
    have E8 : y_ev x (0, [(8, 1)]) = x 8 := (l_e1 _ _)
    have E9 : y_ev x (3, []) = 3 := (l_e0 _ _)
    have E10 : y_ev x (0, [(6, 1)]) = x 6 := (l_e1 _ _)
    have E11 : y_ev x (0, [(7, 1)]) = x 7 := (l_e1 _ _)
    have T0 : q_run2 (t_b v) (y_ev x (0, [(0, 1)])) (y_ev x ((-1), [(1, 1)])) (y_ev x (9, [])) (y_ev x (0, [])) (y_ev x (0, [])) (y_ev x (0, [(2, 1)])) (y_ev x (0, [(3, 1)])) (y_ev x (0, [(4, 1)])) (y_ev x (0, [(5, 1)])) (y_ev x (0, [(8, 1)])) := h.2.2.2.1
    (try rw [E0] at T0); (try rw [E1] at T0); (try rw [E2] at T0); (try rw [E3] at T0); (try rw [E4] at T0); (try rw [E5] at T0); (try rw [E6] at T0); (try rw [E7] at T0); (try rw [E8] at T0)
    have T1 : q_tok (t_b v) (y_ev x (0, [(0, 1)])) (y_ev x ((-1), [(1, 1)])) (y_ev x (3, [])) (y_ev x (0, [(6, 1)])) (y_ev x (0, [(7, 1)])) := h.2.2.2.2.1
    (try rw [E0] at T1); (try rw [E1] at T1); (try rw [E9] at T1); (try rw [E10] at T1); (try rw [E11] at T1)
    have K := k_i9_hi (V := v) (n := x 0) (d := x 1) (H := x 2) (L := x 3) (W := x 4) (WP := x 5) (s := x 6) (v := x 7) (S := x 8) T0 T1 C0 C1 C2 C3
    refine l_outH rfl (And.intro h.1 ?_)
    have O0 : y_ev x (0, [(0, 1)]) = x 0 := l_e1 _ _
    have O1 : y_ev x (0, [(1, 1)]) = x 1 := l_e1 _ _
    have O2 : y_ev x (13, []) = 13 := l_e0 _ _
    have O3 : y_ev x (0, []) = 0 := l_e0 _ _
    have O4 : y_ev x (0, [(2, 1)]) = x 2 := l_e1 _ _
    have O5 : y_ev x (0, [(3, 1)]) = x 3 := l_e1 _ _
    have O6 : y_ev x (5, []) = 5 := l_e0 _ _
    have O7 : y_ev x (0, [(6, 1)]) = x 6 := l_e1 _ _
    have O8 : y_ev x (0, [(8, 1)]) = x 8 := l_e1 _ _
    show (True) ∧ (q_run2 (t_b v) (y_ev x (0, [(0, 1)])) (y_ev x (0, [(1, 1)])) (y_ev x (13, [])) (y_ev x (0, [])) (y_ev x (0, [])) (y_ev x (0, [(2, 1)])) (y_ev x (0, [(3, 1)])) (y_ev x (5, [])) (y_ev x (0, [(6, 1)])) (y_ev x (0, [(8, 1)])) ∧ True)
    (try rw [O0]); (try rw [O1]); (try rw [O2]); (try rw [O3]); (try rw [O4]); (try rw [O5]); (try rw [O6]); (try rw [O7]); (try rw [O8])
    exact K
def lm_289 : zLem := (([((-2147483648), 2147483647), ((-2147483648), 2147483647), ((-2147483648), 2147483647), ((-2147483648), 2147483647), ((-2147483648), 2147483647), ((-2147483648), 2147483647), ((-2147483648), 2147483647), ((-9223372036854775808), 9223372036854775807), ((-2147483648), 2147483647)], [(12, false)], [(400, [(1, (-1))]), (0, [(7, 1)]), (99, [(7, (-1))])], [], [], [(0, (false, 11, 0, []), 0, 0, 0, [(1, 1)])], [(40, [(0, [(0, 1)]), ((-1), [(1, 1)]), (10, []), (0, []), (0, []), (0, [(2, 1)]), (0, [(3, 1)]), (0, [(4, 1)]), (0, [(5, 1)]), (0, [(8, 1)])]), (36, [(0, [(0, 1)]), ((-1), [(1, 1)]), (3, []), (0, [(6, 1)]), (0, [(7, 1)])])]), [([((-2147483648), 2147483647), ((-2147483648), 2147483647), ((-2147483648), 2147483647), ((-2147483648), 2147483647), ((-2147483648), 2147483647), ((-2147483648), 2147483647), ((-2147483648), 2147483647), ((-9223372036854775808), 9223372036854775807), ((-2147483648), 2147483647)], [(12, false)], [], [], [], [], [(40, [(0, [(0, 1)]), (0, [(1, 1)]), (13, []), (0, []), (0, []), (0, [(2, 1)]), (0, [(3, 1)]), (0, [(4, 1)]), (0, [(5, 1)]), (0, [(8, 1)])])])])
theorem lk_289 : l_core lm_289 := by
  first
  | skip
    intro v x h
    have K := k_i10_in (V := v) (n := x 0) (d := x 1) (H := x 2) (L := x 3) (W := x 4) (WP := x 5) (s := x 6) (v := x 7) (S := x 8) (l_c9 (fun w0 w1 w2 w3 w4 w5 w6 w7 w8 : Int => q_run2 (t_b v) w0 w1 w2 w3 w3 w4 w5 w6 w7 w8) (l_e1 x 0) (l_q2 1 x 1) (l_e0 x (10)) (l_e0 x (0)) (l_e1 x 2) (l_e1 x 3) (l_e1 x 4) (l_e1 x 5) (l_e1 x 8) (h.2.2.2.1)) (l_c5 (fun w0 w1 w2 w3 w4 : Int => q_tok (t_b v) w0 w1 w2 w3 w4) (l_e1 x 0) (l_q2 1 x 1) (l_e0 x (3)) (l_e1 x 6) (l_e1 x 7) (h.2.2.2.2.1)) (l_cc (l_q1 400 x 1) (h.2.1.1)) (l_cc (l_e1 x 7) (h.2.1.2.1)) (l_cc (l_q1 99 x 7) (h.2.1.2.2.1))
    refine l_outH rfl (And.intro h.1 ?_)
    exact l_o9 (fun w0 w1 w2 w3 w4 w5 w6 w7 w8 : Int => (True) ∧ (q_run2 (t_b v) w0 w1 w2 w3 w3 w4 w5 w6 w7 w8 ∧ True)) (l_e1 x 0) (l_e1 x 1) (l_e0 x (13)) (l_e0 x (0)) (l_e1 x 2) (l_e1 x 3) (l_e1 x 4) (l_e1 x 5) (l_e1 x 8) K
  | skip
    intro v x h
    have C0 : (0 : Int) ≤ 400 - x 1 := l_cc (a := y_ev x (400, [(1, (-1))])) (by show ((400) : Int) + ((-1) * x 1 + 0) = 400 - x 1; omega) (h.2.1.1)
    have C1 : (0 : Int) ≤ x 7 := l_cc (a := y_ev x (0, [(7, 1)])) (l_e1 _ _) (h.2.1.2.1)
    have C2 : (0 : Int) ≤ 99 - x 7 := l_cc (a := y_ev x (99, [(7, (-1))])) (by show ((99) : Int) + ((-1) * x 7 + 0) = 99 - x 7; omega) (h.2.1.2.2.1)
    have E0 : y_ev x (0, [(0, 1)]) = x 0 := (l_e1 _ _)
    have E1 : y_ev x ((-1), [(1, 1)]) = x 1 - 1 := (by show ((-1) : Int) + ((1) * x 1 + 0) = x 1 - 1; omega)
    have E2 : y_ev x (10, []) = 10 := (l_e0 _ _)
    have E3 : y_ev x (0, []) = 0 := (l_e0 _ _)
    have E4 : y_ev x (0, [(2, 1)]) = x 2 := (l_e1 _ _)
    have E5 : y_ev x (0, [(3, 1)]) = x 3 := (l_e1 _ _)
    have E6 : y_ev x (0, [(4, 1)]) = x 4 := (l_e1 _ _)
    have E7 : y_ev x (0, [(5, 1)]) = x 5 := (l_e1 _ _)
    have E8 : y_ev x (0, [(8, 1)]) = x 8 := (l_e1 _ _)
    have E9 : y_ev x (3, []) = 3 := (l_e0 _ _)
    have E10 : y_ev x (0, [(6, 1)]) = x 6 := (l_e1 _ _)
    have E11 : y_ev x (0, [(7, 1)]) = x 7 := (l_e1 _ _)
    have T0 : q_run2 (t_b v) (y_ev x (0, [(0, 1)])) (y_ev x ((-1), [(1, 1)])) (y_ev x (10, [])) (y_ev x (0, [])) (y_ev x (0, [])) (y_ev x (0, [(2, 1)])) (y_ev x (0, [(3, 1)])) (y_ev x (0, [(4, 1)])) (y_ev x (0, [(5, 1)])) (y_ev x (0, [(8, 1)])) := h.2.2.2.1
    (try rw [E0] at T0); (try rw [E1] at T0); (try rw [E2] at T0); (try rw [E3] at T0); (try rw [E4] at T0); (try rw [E5] at T0); (try rw [E6] at T0); (try rw [E7] at T0); (try rw [E8] at T0)
    have T1 : q_tok (t_b v) (y_ev x (0, [(0, 1)])) (y_ev x ((-1), [(1, 1)])) (y_ev x (3, [])) (y_ev x (0, [(6, 1)])) (y_ev x (0, [(7, 1)])) := h.2.2.2.2.1
    (try rw [E0] at T1); (try rw [E1] at T1); (try rw [E9] at T1); (try rw [E10] at T1); (try rw [E11] at T1)
    have K := k_i10_in (V := v) (n := x 0) (d := x 1) (H := x 2) (L := x 3) (W := x 4) (WP := x 5) (s := x 6) (v := x 7) (S := x 8) T0 T1 C0 C1 C2
    refine l_outH rfl (And.intro h.1 ?_)
    have O0 : y_ev x (0, [(0, 1)]) = x 0 := l_e1 _ _
    have O1 : y_ev x (0, [(1, 1)]) = x 1 := l_e1 _ _
    have O2 : y_ev x (13, []) = 13 := l_e0 _ _
    have O3 : y_ev x (0, []) = 0 := l_e0 _ _
    have O4 : y_ev x (0, [(2, 1)]) = x 2 := l_e1 _ _
    have O5 : y_ev x (0, [(3, 1)]) = x 3 := l_e1 _ _
    have O6 : y_ev x (0, [(4, 1)]) = x 4 := l_e1 _ _
    have O7 : y_ev x (0, [(5, 1)]) = x 5 := l_e1 _ _
    have O8 : y_ev x (0, [(8, 1)]) = x 8 := l_e1 _ _
    show (True) ∧ (q_run2 (t_b v) (y_ev x (0, [(0, 1)])) (y_ev x (0, [(1, 1)])) (y_ev x (13, [])) (y_ev x (0, [])) (y_ev x (0, [])) (y_ev x (0, [(2, 1)])) (y_ev x (0, [(3, 1)])) (y_ev x (0, [(4, 1)])) (y_ev x (0, [(5, 1)])) (y_ev x (0, [(8, 1)])) ∧ True)
    (try rw [O0]); (try rw [O1]); (try rw [O2]); (try rw [O3]); (try rw [O4]); (try rw [O5]); (try rw [O6]); (try rw [O7]); (try rw [O8])
    exact K
def lm_290 : zLem := (([((-2147483648), 2147483647), ((-2147483648), 2147483647), ((-2147483648), 2147483647), ((-2147483648), 2147483647), ((-2147483648), 2147483647), ((-2147483648), 2147483647), ((-2147483648), 2147483647), ((-9223372036854775808), 9223372036854775807), ((-2147483648), 2147483647)], [(12, false)], [(400, [(1, (-1))]), ((-1), [(4, 1)])], [], [], [(0, (false, 11, 0, []), 0, 0, 0, [(1, 1)])], [(40, [(0, [(0, 1)]), ((-1), [(1, 1)]), (10, []), (0, []), (0, []), (0, [(2, 1)]), (0, [(3, 1)]), (0, [(4, 1)]), (0, [(5, 1)]), (0, [(8, 1)])]), (36, [(0, [(0, 1)]), ((-1), [(1, 1)]), (3, []), (0, [(6, 1)]), (0, [(7, 1)])])]), [([((-2147483648), 2147483647), ((-2147483648), 2147483647), ((-2147483648), 2147483647), ((-2147483648), 2147483647), ((-2147483648), 2147483647), ((-2147483648), 2147483647), ((-2147483648), 2147483647), ((-9223372036854775808), 9223372036854775807), ((-2147483648), 2147483647)], [(12, false)], [], [], [], [], [(40, [(0, [(0, 1)]), (0, [(1, 1)]), (13, []), (0, []), (0, []), (0, [(2, 1)]), (0, [(3, 1)]), (0, [(4, 1)]), (0, [(5, 1)]), (0, [(8, 1)])])])])
theorem lk_290 : l_core lm_290 := by
  first
  | skip
    intro v x h
    have K := k_i10_w (V := v) (n := x 0) (d := x 1) (H := x 2) (L := x 3) (W := x 4) (WP := x 5) (s := x 6) (v := x 7) (S := x 8) (l_c9 (fun w0 w1 w2 w3 w4 w5 w6 w7 w8 : Int => q_run2 (t_b v) w0 w1 w2 w3 w3 w4 w5 w6 w7 w8) (l_e1 x 0) (l_q2 1 x 1) (l_e0 x (10)) (l_e0 x (0)) (l_e1 x 2) (l_e1 x 3) (l_e1 x 4) (l_e1 x 5) (l_e1 x 8) (h.2.2.2.1)) (l_c5 (fun w0 w1 w2 w3 w4 : Int => q_tok (t_b v) w0 w1 w2 w3 w4) (l_e1 x 0) (l_q2 1 x 1) (l_e0 x (3)) (l_e1 x 6) (l_e1 x 7) (h.2.2.2.2.1)) (l_cc (l_q1 400 x 1) (h.2.1.1)) (l_cc (l_q2 1 x 4) (h.2.1.2.1))
    refine l_outH rfl (And.intro h.1 ?_)
    exact l_o9 (fun w0 w1 w2 w3 w4 w5 w6 w7 w8 : Int => (True) ∧ (q_run2 (t_b v) w0 w1 w2 w3 w3 w4 w5 w6 w7 w8 ∧ True)) (l_e1 x 0) (l_e1 x 1) (l_e0 x (13)) (l_e0 x (0)) (l_e1 x 2) (l_e1 x 3) (l_e1 x 4) (l_e1 x 5) (l_e1 x 8) K
  | skip
    intro v x h
    have C0 : (0 : Int) ≤ 400 - x 1 := l_cc (a := y_ev x (400, [(1, (-1))])) (by show ((400) : Int) + ((-1) * x 1 + 0) = 400 - x 1; omega) (h.2.1.1)
    have C1 : (0 : Int) ≤ x 4 - 1 := l_cc (a := y_ev x ((-1), [(4, 1)])) (by show ((-1) : Int) + ((1) * x 4 + 0) = x 4 - 1; omega) (h.2.1.2.1)
    have E0 : y_ev x (0, [(0, 1)]) = x 0 := (l_e1 _ _)
    have E1 : y_ev x ((-1), [(1, 1)]) = x 1 - 1 := (by show ((-1) : Int) + ((1) * x 1 + 0) = x 1 - 1; omega)
    have E2 : y_ev x (10, []) = 10 := (l_e0 _ _)
    have E3 : y_ev x (0, []) = 0 := (l_e0 _ _)
    have E4 : y_ev x (0, [(2, 1)]) = x 2 := (l_e1 _ _)
    have E5 : y_ev x (0, [(3, 1)]) = x 3 := (l_e1 _ _)
    have E6 : y_ev x (0, [(4, 1)]) = x 4 := (l_e1 _ _)
    have E7 : y_ev x (0, [(5, 1)]) = x 5 := (l_e1 _ _)
    have E8 : y_ev x (0, [(8, 1)]) = x 8 := (l_e1 _ _)
    have E9 : y_ev x (3, []) = 3 := (l_e0 _ _)
    have E10 : y_ev x (0, [(6, 1)]) = x 6 := (l_e1 _ _)
    have E11 : y_ev x (0, [(7, 1)]) = x 7 := (l_e1 _ _)
    have T0 : q_run2 (t_b v) (y_ev x (0, [(0, 1)])) (y_ev x ((-1), [(1, 1)])) (y_ev x (10, [])) (y_ev x (0, [])) (y_ev x (0, [])) (y_ev x (0, [(2, 1)])) (y_ev x (0, [(3, 1)])) (y_ev x (0, [(4, 1)])) (y_ev x (0, [(5, 1)])) (y_ev x (0, [(8, 1)])) := h.2.2.2.1
    (try rw [E0] at T0); (try rw [E1] at T0); (try rw [E2] at T0); (try rw [E3] at T0); (try rw [E4] at T0); (try rw [E5] at T0); (try rw [E6] at T0); (try rw [E7] at T0); (try rw [E8] at T0)
    have T1 : q_tok (t_b v) (y_ev x (0, [(0, 1)])) (y_ev x ((-1), [(1, 1)])) (y_ev x (3, [])) (y_ev x (0, [(6, 1)])) (y_ev x (0, [(7, 1)])) := h.2.2.2.2.1
    (try rw [E0] at T1); (try rw [E1] at T1); (try rw [E9] at T1); (try rw [E10] at T1); (try rw [E11] at T1)
    have K := k_i10_w (V := v) (n := x 0) (d := x 1) (H := x 2) (L := x 3) (W := x 4) (WP := x 5) (s := x 6) (v := x 7) (S := x 8) T0 T1 C0 C1
    refine l_outH rfl (And.intro h.1 ?_)
    have O0 : y_ev x (0, [(0, 1)]) = x 0 := l_e1 _ _
    have O1 : y_ev x (0, [(1, 1)]) = x 1 := l_e1 _ _
    have O2 : y_ev x (13, []) = 13 := l_e0 _ _
    have O3 : y_ev x (0, []) = 0 := l_e0 _ _
    have O4 : y_ev x (0, [(2, 1)]) = x 2 := l_e1 _ _
    have O5 : y_ev x (0, [(3, 1)]) = x 3 := l_e1 _ _
    have O6 : y_ev x (0, [(4, 1)]) = x 4 := l_e1 _ _
    have O7 : y_ev x (0, [(5, 1)]) = x 5 := l_e1 _ _
    have O8 : y_ev x (0, [(8, 1)]) = x 8 := l_e1 _ _
    show (True) ∧ (q_run2 (t_b v) (y_ev x (0, [(0, 1)])) (y_ev x (0, [(1, 1)])) (y_ev x (13, [])) (y_ev x (0, [])) (y_ev x (0, [])) (y_ev x (0, [(2, 1)])) (y_ev x (0, [(3, 1)])) (y_ev x (0, [(4, 1)])) (y_ev x (0, [(5, 1)])) (y_ev x (0, [(8, 1)])) ∧ True)
    (try rw [O0]); (try rw [O1]); (try rw [O2]); (try rw [O3]); (try rw [O4]); (try rw [O5]); (try rw [O6]); (try rw [O7]); (try rw [O8])
    exact K
def lm_291 : zLem := (([((-2147483648), 2147483647), ((-2147483648), 2147483647), ((-2147483648), 2147483647), ((-2147483648), 2147483647), ((-2147483648), 2147483647), ((-2147483648), 2147483647), ((-2147483648), 2147483647), ((-9223372036854775808), 9223372036854775807), ((-2147483648), 2147483647)], [(12, false)], [(400, [(1, (-1))]), (0, [(4, 1)]), (0, [(4, (-1))]), ((-1), [(7, (-1))])], [], [], [(0, (false, 11, 0, []), 0, 0, 0, [(1, 1)])], [(40, [(0, [(0, 1)]), ((-1), [(1, 1)]), (10, []), (0, []), (0, []), (0, [(2, 1)]), (0, [(3, 1)]), (0, [(4, 1)]), (0, [(5, 1)]), (0, [(8, 1)])]), (36, [(0, [(0, 1)]), ((-1), [(1, 1)]), (3, []), (0, [(6, 1)]), (0, [(7, 1)])])]), [([((-2147483648), 2147483647), ((-2147483648), 2147483647), ((-2147483648), 2147483647), ((-2147483648), 2147483647), ((-2147483648), 2147483647), ((-2147483648), 2147483647), ((-2147483648), 2147483647), ((-9223372036854775808), 9223372036854775807), ((-2147483648), 2147483647)], [(12, false)], [], [], [], [], [(40, [(0, [(0, 1)]), (0, [(1, 1)]), (13, []), (0, []), (0, []), (0, [(2, 1)]), (0, [(3, 1)]), (5, []), (0, [(6, 1)]), (0, [(8, 1)])])])])
theorem lk_291 : l_core lm_291 := by
  first
  | skip
    intro v x h
    have K := k_i10_lo (V := v) (n := x 0) (d := x 1) (H := x 2) (L := x 3) (W := x 4) (WP := x 5) (s := x 6) (v := x 7) (S := x 8) (l_c9 (fun w0 w1 w2 w3 w4 w5 w6 w7 w8 : Int => q_run2 (t_b v) w0 w1 w2 w3 w3 w4 w5 w6 w7 w8) (l_e1 x 0) (l_q2 1 x 1) (l_e0 x (10)) (l_e0 x (0)) (l_e1 x 2) (l_e1 x 3) (l_e1 x 4) (l_e1 x 5) (l_e1 x 8) (h.2.2.2.1)) (l_c5 (fun w0 w1 w2 w3 w4 : Int => q_tok (t_b v) w0 w1 w2 w3 w4) (l_e1 x 0) (l_q2 1 x 1) (l_e0 x (3)) (l_e1 x 6) (l_e1 x 7) (h.2.2.2.2.1)) (l_cc (l_q1 400 x 1) (h.2.1.1)) (l_cc (l_e1 x 4) (h.2.1.2.1)) (l_cc (l_q7 x 4) (h.2.1.2.2.1)) (l_cc (l_q11 1 x 7) (h.2.1.2.2.2.1))
    refine l_outH rfl (And.intro h.1 ?_)
    exact l_o9 (fun w0 w1 w2 w3 w4 w5 w6 w7 w8 : Int => (True) ∧ (q_run2 (t_b v) w0 w1 w2 w3 w3 w4 w5 w6 w7 w8 ∧ True)) (l_e1 x 0) (l_e1 x 1) (l_e0 x (13)) (l_e0 x (0)) (l_e1 x 2) (l_e1 x 3) (l_e0 x (5)) (l_e1 x 6) (l_e1 x 8) K
  | skip
    intro v x h
    have C0 : (0 : Int) ≤ 400 - x 1 := l_cc (a := y_ev x (400, [(1, (-1))])) (by show ((400) : Int) + ((-1) * x 1 + 0) = 400 - x 1; omega) (h.2.1.1)
    have C1 : (0 : Int) ≤ x 4 := l_cc (a := y_ev x (0, [(4, 1)])) (l_e1 _ _) (h.2.1.2.1)
    have C2 : (0 : Int) ≤ -x 4 := l_cc (a := y_ev x (0, [(4, (-1))])) (by show ((0) : Int) + ((-1) * x 4 + 0) = -x 4; omega) (h.2.1.2.2.1)
    have C3 : (0 : Int) ≤ -x 7 - 1 := l_cc (a := y_ev x ((-1), [(7, (-1))])) (by show ((-1) : Int) + ((-1) * x 7 + 0) = -x 7 - 1; omega) (h.2.1.2.2.2.1)
    have E0 : y_ev x (0, [(0, 1)]) = x 0 := (l_e1 _ _)
    have E1 : y_ev x ((-1), [(1, 1)]) = x 1 - 1 := (by show ((-1) : Int) + ((1) * x 1 + 0) = x 1 - 1; omega)
    have E2 : y_ev x (10, []) = 10 := (l_e0 _ _)
    have E3 : y_ev x (0, []) = 0 := (l_e0 _ _)
    have E4 : y_ev x (0, [(2, 1)]) = x 2 := (l_e1 _ _)
    have E5 : y_ev x (0, [(3, 1)]) = x 3 := (l_e1 _ _)
    have E6 : y_ev x (0, [(4, 1)]) = x 4 := (l_e1 _ _)
    have E7 : y_ev x (0, [(5, 1)]) = x 5 := (l_e1 _ _)
    have E8 : y_ev x (0, [(8, 1)]) = x 8 := (l_e1 _ _)
    have E9 : y_ev x (3, []) = 3 := (l_e0 _ _)
    have E10 : y_ev x (0, [(6, 1)]) = x 6 := (l_e1 _ _)
    have E11 : y_ev x (0, [(7, 1)]) = x 7 := (l_e1 _ _)
    have T0 : q_run2 (t_b v) (y_ev x (0, [(0, 1)])) (y_ev x ((-1), [(1, 1)])) (y_ev x (10, [])) (y_ev x (0, [])) (y_ev x (0, [])) (y_ev x (0, [(2, 1)])) (y_ev x (0, [(3, 1)])) (y_ev x (0, [(4, 1)])) (y_ev x (0, [(5, 1)])) (y_ev x (0, [(8, 1)])) := h.2.2.2.1
    (try rw [E0] at T0); (try rw [E1] at T0); (try rw [E2] at T0); (try rw [E3] at T0); (try rw [E4] at T0); (try rw [E5] at T0); (try rw [E6] at T0); (try rw [E7] at T0); (try rw [E8] at T0)
    have T1 : q_tok (t_b v) (y_ev x (0, [(0, 1)])) (y_ev x ((-1), [(1, 1)])) (y_ev x (3, [])) (y_ev x (0, [(6, 1)])) (y_ev x (0, [(7, 1)])) := h.2.2.2.2.1
    (try rw [E0] at T1); (try rw [E1] at T1); (try rw [E9] at T1); (try rw [E10] at T1); (try rw [E11] at T1)
    have K := k_i10_lo (V := v) (n := x 0) (d := x 1) (H := x 2) (L := x 3) (W := x 4) (WP := x 5) (s := x 6) (v := x 7) (S := x 8) T0 T1 C0 C1 C2 C3
    refine l_outH rfl (And.intro h.1 ?_)
    have O0 : y_ev x (0, [(0, 1)]) = x 0 := l_e1 _ _
    have O1 : y_ev x (0, [(1, 1)]) = x 1 := l_e1 _ _
    have O2 : y_ev x (13, []) = 13 := l_e0 _ _
    have O3 : y_ev x (0, []) = 0 := l_e0 _ _
    have O4 : y_ev x (0, [(2, 1)]) = x 2 := l_e1 _ _
    have O5 : y_ev x (0, [(3, 1)]) = x 3 := l_e1 _ _
    have O6 : y_ev x (5, []) = 5 := l_e0 _ _
    have O7 : y_ev x (0, [(6, 1)]) = x 6 := l_e1 _ _
    have O8 : y_ev x (0, [(8, 1)]) = x 8 := l_e1 _ _
    show (True) ∧ (q_run2 (t_b v) (y_ev x (0, [(0, 1)])) (y_ev x (0, [(1, 1)])) (y_ev x (13, [])) (y_ev x (0, [])) (y_ev x (0, [])) (y_ev x (0, [(2, 1)])) (y_ev x (0, [(3, 1)])) (y_ev x (5, [])) (y_ev x (0, [(6, 1)])) (y_ev x (0, [(8, 1)])) ∧ True)
    (try rw [O0]); (try rw [O1]); (try rw [O2]); (try rw [O3]); (try rw [O4]); (try rw [O5]); (try rw [O6]); (try rw [O7]); (try rw [O8])
    exact K
def lm_292 : zLem := (([((-2147483648), 2147483647), ((-2147483648), 2147483647), ((-2147483648), 2147483647), ((-2147483648), 2147483647), ((-2147483648), 2147483647), ((-2147483648), 2147483647), ((-2147483648), 2147483647), ((-9223372036854775808), 9223372036854775807), ((-2147483648), 2147483647)], [(12, false)], [(400, [(1, (-1))]), (0, [(4, 1)]), (0, [(4, (-1))]), ((-100), [(7, 1)])], [], [], [(0, (false, 11, 0, []), 0, 0, 0, [(1, 1)])], [(40, [(0, [(0, 1)]), ((-1), [(1, 1)]), (10, []), (0, []), (0, []), (0, [(2, 1)]), (0, [(3, 1)]), (0, [(4, 1)]), (0, [(5, 1)]), (0, [(8, 1)])]), (36, [(0, [(0, 1)]), ((-1), [(1, 1)]), (3, []), (0, [(6, 1)]), (0, [(7, 1)])])]), [([((-2147483648), 2147483647), ((-2147483648), 2147483647), ((-2147483648), 2147483647), ((-2147483648), 2147483647), ((-2147483648), 2147483647), ((-2147483648), 2147483647), ((-2147483648), 2147483647), ((-9223372036854775808), 9223372036854775807), ((-2147483648), 2147483647)], [(12, false)], [], [], [], [], [(40, [(0, [(0, 1)]), (0, [(1, 1)]), (13, []), (0, []), (0, []), (0, [(2, 1)]), (0, [(3, 1)]), (5, []), (0, [(6, 1)]), (0, [(8, 1)])])])])
theorem lk_292 : l_core lm_292 := by
  first
  | skip
    intro v x h
    have K := k_i10_hi (V := v) (n := x 0) (d := x 1) (H := x 2) (L := x 3) (W := x 4) (WP := x 5) (s := x 6) (v := x 7) (S := x 8) (l_c9 (fun w0 w1 w2 w3 w4 w5 w6 w7 w8 : Int => q_run2 (t_b v) w0 w1 w2 w3 w3 w4 w5 w6 w7 w8) (l_e1 x 0) (l_q2 1 x 1) (l_e0 x (10)) (l_e0 x (0)) (l_e1 x 2) (l_e1 x 3) (l_e1 x 4) (l_e1 x 5) (l_e1 x 8) (h.2.2.2.1)) (l_c5 (fun w0 w1 w2 w3 w4 : Int => q_tok (t_b v) w0 w1 w2 w3 w4) (l_e1 x 0) (l_q2 1 x 1) (l_e0 x (3)) (l_e1 x 6) (l_e1 x 7) (h.2.2.2.2.1)) (l_cc (l_q1 400 x 1) (h.2.1.1)) (l_cc (l_e1 x 4) (h.2.1.2.1)) (l_cc (l_q7 x 4) (h.2.1.2.2.1)) (l_cc (l_q2 100 x 7) (h.2.1.2.2.2.1))
    refine l_outH rfl (And.intro h.1 ?_)
    exact l_o9 (fun w0 w1 w2 w3 w4 w5 w6 w7 w8 : Int => (True) ∧ (q_run2 (t_b v) w0 w1 w2 w3 w3 w4 w5 w6 w7 w8 ∧ True)) (l_e1 x 0) (l_e1 x 1) (l_e0 x (13)) (l_e0 x (0)) (l_e1 x 2) (l_e1 x 3) (l_e0 x (5)) (l_e1 x 6) (l_e1 x 8) K
  | skip
    intro v x h
    have C0 : (0 : Int) ≤ 400 - x 1 := l_cc (a := y_ev x (400, [(1, (-1))])) (by show ((400) : Int) + ((-1) * x 1 + 0) = 400 - x 1; omega) (h.2.1.1)
    have C1 : (0 : Int) ≤ x 4 := l_cc (a := y_ev x (0, [(4, 1)])) (l_e1 _ _) (h.2.1.2.1)
    have C2 : (0 : Int) ≤ -x 4 := l_cc (a := y_ev x (0, [(4, (-1))])) (by show ((0) : Int) + ((-1) * x 4 + 0) = -x 4; omega) (h.2.1.2.2.1)
    have C3 : (0 : Int) ≤ x 7 - 100 := l_cc (a := y_ev x ((-100), [(7, 1)])) (by show ((-100) : Int) + ((1) * x 7 + 0) = x 7 - 100; omega) (h.2.1.2.2.2.1)
    have E0 : y_ev x (0, [(0, 1)]) = x 0 := (l_e1 _ _)
    have E1 : y_ev x ((-1), [(1, 1)]) = x 1 - 1 := (by show ((-1) : Int) + ((1) * x 1 + 0) = x 1 - 1; omega)
    have E2 : y_ev x (10, []) = 10 := (l_e0 _ _)
    have E3 : y_ev x (0, []) = 0 := (l_e0 _ _)
    have E4 : y_ev x (0, [(2, 1)]) = x 2 := (l_e1 _ _)
    have E5 : y_ev x (0, [(3, 1)]) = x 3 := (l_e1 _ _)
    have E6 : y_ev x (0, [(4, 1)]) = x 4 := (l_e1 _ _)
    have E7 : y_ev x (0, [(5, 1)]) = x 5 := (l_e1 _ _)
    have E8 : y_ev x (0, [(8, 1)]) = x 8 := (l_e1 _ _)
    have E9 : y_ev x (3, []) = 3 := (l_e0 _ _)
    have E10 : y_ev x (0, [(6, 1)]) = x 6 := (l_e1 _ _)
    have E11 : y_ev x (0, [(7, 1)]) = x 7 := (l_e1 _ _)
    have T0 : q_run2 (t_b v) (y_ev x (0, [(0, 1)])) (y_ev x ((-1), [(1, 1)])) (y_ev x (10, [])) (y_ev x (0, [])) (y_ev x (0, [])) (y_ev x (0, [(2, 1)])) (y_ev x (0, [(3, 1)])) (y_ev x (0, [(4, 1)])) (y_ev x (0, [(5, 1)])) (y_ev x (0, [(8, 1)])) := h.2.2.2.1
    (try rw [E0] at T0); (try rw [E1] at T0); (try rw [E2] at T0); (try rw [E3] at T0); (try rw [E4] at T0); (try rw [E5] at T0); (try rw [E6] at T0); (try rw [E7] at T0); (try rw [E8] at T0)
    have T1 : q_tok (t_b v) (y_ev x (0, [(0, 1)])) (y_ev x ((-1), [(1, 1)])) (y_ev x (3, [])) (y_ev x (0, [(6, 1)])) (y_ev x (0, [(7, 1)])) := h.2.2.2.2.1
    (try rw [E0] at T1); (try rw [E1] at T1); (try rw [E9] at T1); (try rw [E10] at T1); (try rw [E11] at T1)
    have K := k_i10_hi (V := v) (n := x 0) (d := x 1) (H := x 2) (L := x 3) (W := x 4) (WP := x 5) (s := x 6) (v := x 7) (S := x 8) T0 T1 C0 C1 C2 C3
    refine l_outH rfl (And.intro h.1 ?_)
    have O0 : y_ev x (0, [(0, 1)]) = x 0 := l_e1 _ _
    have O1 : y_ev x (0, [(1, 1)]) = x 1 := l_e1 _ _
    have O2 : y_ev x (13, []) = 13 := l_e0 _ _
    have O3 : y_ev x (0, []) = 0 := l_e0 _ _
    have O4 : y_ev x (0, [(2, 1)]) = x 2 := l_e1 _ _
    have O5 : y_ev x (0, [(3, 1)]) = x 3 := l_e1 _ _
    have O6 : y_ev x (5, []) = 5 := l_e0 _ _
    have O7 : y_ev x (0, [(6, 1)]) = x 6 := l_e1 _ _
    have O8 : y_ev x (0, [(8, 1)]) = x 8 := l_e1 _ _
    show (True) ∧ (q_run2 (t_b v) (y_ev x (0, [(0, 1)])) (y_ev x (0, [(1, 1)])) (y_ev x (13, [])) (y_ev x (0, [])) (y_ev x (0, [])) (y_ev x (0, [(2, 1)])) (y_ev x (0, [(3, 1)])) (y_ev x (5, [])) (y_ev x (0, [(6, 1)])) (y_ev x (0, [(8, 1)])) ∧ True)
    (try rw [O0]); (try rw [O1]); (try rw [O2]); (try rw [O3]); (try rw [O4]); (try rw [O5]); (try rw [O6]); (try rw [O7]); (try rw [O8])
    exact K
def lm_293 : zLem := (([((-2147483648), 2147483647), ((-2147483648), 2147483647), ((-2147483648), 2147483647), ((-2147483648), 2147483647), ((-2147483648), 2147483647), ((-2147483648), 2147483647), ((-2147483648), 2147483647), ((-9223372036854775808), 9223372036854775807), ((-2147483648), 2147483647)], [(12, false)], [(400, [(1, (-1))]), (0, [(7, 1)]), (100, [(7, (-1))])], [], [], [(0, (false, 11, 0, []), 0, 0, 0, [(1, 1)])], [(40, [(0, [(0, 1)]), ((-1), [(1, 1)]), (11, []), (0, []), (0, []), (0, [(2, 1)]), (0, [(3, 1)]), (0, [(4, 1)]), (0, [(5, 1)]), (0, [(8, 1)])]), (36, [(0, [(0, 1)]), ((-1), [(1, 1)]), (3, []), (0, [(6, 1)]), (0, [(7, 1)])])]), [([((-2147483648), 2147483647), ((-2147483648), 2147483647), ((-2147483648), 2147483647), ((-2147483648), 2147483647), ((-2147483648), 2147483647), ((-2147483648), 2147483647), ((-2147483648), 2147483647), ((-9223372036854775808), 9223372036854775807), ((-2147483648), 2147483647)], [(12, false)], [], [], [], [], [(40, [(0, [(0, 1)]), (0, [(1, 1)]), (13, []), (0, []), (0, []), (0, [(2, 1)]), (0, [(3, 1)]), (0, [(4, 1)]), (0, [(5, 1)]), (0, [(8, 1)])])])])
theorem lk_293 : l_core lm_293 := by
  first
  | skip
    intro v x h
    have K := k_i11_in (V := v) (n := x 0) (d := x 1) (H := x 2) (L := x 3) (W := x 4) (WP := x 5) (s := x 6) (v := x 7) (S := x 8) (l_c9 (fun w0 w1 w2 w3 w4 w5 w6 w7 w8 : Int => q_run2 (t_b v) w0 w1 w2 w3 w3 w4 w5 w6 w7 w8) (l_e1 x 0) (l_q2 1 x 1) (l_e0 x (11)) (l_e0 x (0)) (l_e1 x 2) (l_e1 x 3) (l_e1 x 4) (l_e1 x 5) (l_e1 x 8) (h.2.2.2.1)) (l_c5 (fun w0 w1 w2 w3 w4 : Int => q_tok (t_b v) w0 w1 w2 w3 w4) (l_e1 x 0) (l_q2 1 x 1) (l_e0 x (3)) (l_e1 x 6) (l_e1 x 7) (h.2.2.2.2.1)) (l_cc (l_q1 400 x 1) (h.2.1.1)) (l_cc (l_e1 x 7) (h.2.1.2.1)) (l_cc (l_q1 100 x 7) (h.2.1.2.2.1))
    refine l_outH rfl (And.intro h.1 ?_)
    exact l_o9 (fun w0 w1 w2 w3 w4 w5 w6 w7 w8 : Int => (True) ∧ (q_run2 (t_b v) w0 w1 w2 w3 w3 w4 w5 w6 w7 w8 ∧ True)) (l_e1 x 0) (l_e1 x 1) (l_e0 x (13)) (l_e0 x (0)) (l_e1 x 2) (l_e1 x 3) (l_e1 x 4) (l_e1 x 5) (l_e1 x 8) K
  | skip
    intro v x h
    have C0 : (0 : Int) ≤ 400 - x 1 := l_cc (a := y_ev x (400, [(1, (-1))])) (by show ((400) : Int) + ((-1) * x 1 + 0) = 400 - x 1; omega) (h.2.1.1)
    have C1 : (0 : Int) ≤ x 7 := l_cc (a := y_ev x (0, [(7, 1)])) (l_e1 _ _) (h.2.1.2.1)
    have C2 : (0 : Int) ≤ 100 - x 7 := l_cc (a := y_ev x (100, [(7, (-1))])) (by show ((100) : Int) + ((-1) * x 7 + 0) = 100 - x 7; omega) (h.2.1.2.2.1)
    have E0 : y_ev x (0, [(0, 1)]) = x 0 := (l_e1 _ _)
    have E1 : y_ev x ((-1), [(1, 1)]) = x 1 - 1 := (by show ((-1) : Int) + ((1) * x 1 + 0) = x 1 - 1; omega)
    have E2 : y_ev x (11, []) = 11 := (l_e0 _ _)
    have E3 : y_ev x (0, []) = 0 := (l_e0 _ _)
    have E4 : y_ev x (0, [(2, 1)]) = x 2 := (l_e1 _ _)
    have E5 : y_ev x (0, [(3, 1)]) = x 3 := (l_e1 _ _)
    have E6 : y_ev x (0, [(4, 1)]) = x 4 := (l_e1 _ _)
    have E7 : y_ev x (0, [(5, 1)]) = x 5 := (l_e1 _ _)
    have E8 : y_ev x (0, [(8, 1)]) = x 8 := (l_e1 _ _)
    have E9 : y_ev x (3, []) = 3 := (l_e0 _ _)
    have E10 : y_ev x (0, [(6, 1)]) = x 6 := (l_e1 _ _)
    have E11 : y_ev x (0, [(7, 1)]) = x 7 := (l_e1 _ _)
    have T0 : q_run2 (t_b v) (y_ev x (0, [(0, 1)])) (y_ev x ((-1), [(1, 1)])) (y_ev x (11, [])) (y_ev x (0, [])) (y_ev x (0, [])) (y_ev x (0, [(2, 1)])) (y_ev x (0, [(3, 1)])) (y_ev x (0, [(4, 1)])) (y_ev x (0, [(5, 1)])) (y_ev x (0, [(8, 1)])) := h.2.2.2.1
    (try rw [E0] at T0); (try rw [E1] at T0); (try rw [E2] at T0); (try rw [E3] at T0); (try rw [E4] at T0); (try rw [E5] at T0); (try rw [E6] at T0); (try rw [E7] at T0); (try rw [E8] at T0)
    have T1 : q_tok (t_b v) (y_ev x (0, [(0, 1)])) (y_ev x ((-1), [(1, 1)])) (y_ev x (3, [])) (y_ev x (0, [(6, 1)])) (y_ev x (0, [(7, 1)])) := h.2.2.2.2.1
    (try rw [E0] at T1); (try rw [E1] at T1); (try rw [E9] at T1); (try rw [E10] at T1); (try rw [E11] at T1)
    have K := k_i11_in (V := v) (n := x 0) (d := x 1) (H := x 2) (L := x 3) (W := x 4) (WP := x 5) (s := x 6) (v := x 7) (S := x 8) T0 T1 C0 C1 C2
    refine l_outH rfl (And.intro h.1 ?_)
    have O0 : y_ev x (0, [(0, 1)]) = x 0 := l_e1 _ _
    have O1 : y_ev x (0, [(1, 1)]) = x 1 := l_e1 _ _
    have O2 : y_ev x (13, []) = 13 := l_e0 _ _
    have O3 : y_ev x (0, []) = 0 := l_e0 _ _
    have O4 : y_ev x (0, [(2, 1)]) = x 2 := l_e1 _ _
    have O5 : y_ev x (0, [(3, 1)]) = x 3 := l_e1 _ _
    have O6 : y_ev x (0, [(4, 1)]) = x 4 := l_e1 _ _
    have O7 : y_ev x (0, [(5, 1)]) = x 5 := l_e1 _ _
    have O8 : y_ev x (0, [(8, 1)]) = x 8 := l_e1 _ _
    show (True) ∧ (q_run2 (t_b v) (y_ev x (0, [(0, 1)])) (y_ev x (0, [(1, 1)])) (y_ev x (13, [])) (y_ev x (0, [])) (y_ev x (0, [])) (y_ev x (0, [(2, 1)])) (y_ev x (0, [(3, 1)])) (y_ev x (0, [(4, 1)])) (y_ev x (0, [(5, 1)])) (y_ev x (0, [(8, 1)])) ∧ True)
    (try rw [O0]); (try rw [O1]); (try rw [O2]); (try rw [O3]); (try rw [O4]); (try rw [O5]); (try rw [O6]); (try rw [O7]); (try rw [O8])
    exact K
def lm_294 : zLem := (([((-2147483648), 2147483647), ((-2147483648), 2147483647), ((-2147483648), 2147483647), ((-2147483648), 2147483647), ((-2147483648), 2147483647), ((-2147483648), 2147483647), ((-2147483648), 2147483647), ((-9223372036854775808), 9223372036854775807), ((-2147483648), 2147483647)], [(12, false)], [(400, [(1, (-1))]), ((-1), [(4, 1)])], [], [], [(0, (false, 11, 0, []), 0, 0, 0, [(1, 1)])], [(40, [(0, [(0, 1)]), ((-1), [(1, 1)]), (11, []), (0, []), (0, []), (0, [(2, 1)]), (0, [(3, 1)]), (0, [(4, 1)]), (0, [(5, 1)]), (0, [(8, 1)])]), (36, [(0, [(0, 1)]), ((-1), [(1, 1)]), (3, []), (0, [(6, 1)]), (0, [(7, 1)])])]), [([((-2147483648), 2147483647), ((-2147483648), 2147483647), ((-2147483648), 2147483647), ((-2147483648), 2147483647), ((-2147483648), 2147483647), ((-2147483648), 2147483647), ((-2147483648), 2147483647), ((-9223372036854775808), 9223372036854775807), ((-2147483648), 2147483647)], [(12, false)], [], [], [], [], [(40, [(0, [(0, 1)]), (0, [(1, 1)]), (13, []), (0, []), (0, []), (0, [(2, 1)]), (0, [(3, 1)]), (0, [(4, 1)]), (0, [(5, 1)]), (0, [(8, 1)])])])])
theorem lk_294 : l_core lm_294 := by
  first
  | skip
    intro v x h
    have K := k_i11_w (V := v) (n := x 0) (d := x 1) (H := x 2) (L := x 3) (W := x 4) (WP := x 5) (s := x 6) (v := x 7) (S := x 8) (l_c9 (fun w0 w1 w2 w3 w4 w5 w6 w7 w8 : Int => q_run2 (t_b v) w0 w1 w2 w3 w3 w4 w5 w6 w7 w8) (l_e1 x 0) (l_q2 1 x 1) (l_e0 x (11)) (l_e0 x (0)) (l_e1 x 2) (l_e1 x 3) (l_e1 x 4) (l_e1 x 5) (l_e1 x 8) (h.2.2.2.1)) (l_c5 (fun w0 w1 w2 w3 w4 : Int => q_tok (t_b v) w0 w1 w2 w3 w4) (l_e1 x 0) (l_q2 1 x 1) (l_e0 x (3)) (l_e1 x 6) (l_e1 x 7) (h.2.2.2.2.1)) (l_cc (l_q1 400 x 1) (h.2.1.1)) (l_cc (l_q2 1 x 4) (h.2.1.2.1))
    refine l_outH rfl (And.intro h.1 ?_)
    exact l_o9 (fun w0 w1 w2 w3 w4 w5 w6 w7 w8 : Int => (True) ∧ (q_run2 (t_b v) w0 w1 w2 w3 w3 w4 w5 w6 w7 w8 ∧ True)) (l_e1 x 0) (l_e1 x 1) (l_e0 x (13)) (l_e0 x (0)) (l_e1 x 2) (l_e1 x 3) (l_e1 x 4) (l_e1 x 5) (l_e1 x 8) K
  | skip
    intro v x h
    have C0 : (0 : Int) ≤ 400 - x 1 := l_cc (a := y_ev x (400, [(1, (-1))])) (by show ((400) : Int) + ((-1) * x 1 + 0) = 400 - x 1; omega) (h.2.1.1)
    have C1 : (0 : Int) ≤ x 4 - 1 := l_cc (a := y_ev x ((-1), [(4, 1)])) (by show ((-1) : Int) + ((1) * x 4 + 0) = x 4 - 1; omega) (h.2.1.2.1)
    have E0 : y_ev x (0, [(0, 1)]) = x 0 := (l_e1 _ _)
    have E1 : y_ev x ((-1), [(1, 1)]) = x 1 - 1 := (by show ((-1) : Int) + ((1) * x 1 + 0) = x 1 - 1; omega)
    have E2 : y_ev x (11, []) = 11 := (l_e0 _ _)
    have E3 : y_ev x (0, []) = 0 := (l_e0 _ _)
    have E4 : y_ev x (0, [(2, 1)]) = x 2 := (l_e1 _ _)
    have E5 : y_ev x (0, [(3, 1)]) = x 3 := (l_e1 _ _)
    have E6 : y_ev x (0, [(4, 1)]) = x 4 := (l_e1 _ _)
    have E7 : y_ev x (0, [(5, 1)]) = x 5 := (l_e1 _ _)
    have E8 : y_ev x (0, [(8, 1)]) = x 8 := (l_e1 _ _)
    have E9 : y_ev x (3, []) = 3 := (l_e0 _ _)
    have E10 : y_ev x (0, [(6, 1)]) = x 6 := (l_e1 _ _)
    have E11 : y_ev x (0, [(7, 1)]) = x 7 := (l_e1 _ _)
    have T0 : q_run2 (t_b v) (y_ev x (0, [(0, 1)])) (y_ev x ((-1), [(1, 1)])) (y_ev x (11, [])) (y_ev x (0, [])) (y_ev x (0, [])) (y_ev x (0, [(2, 1)])) (y_ev x (0, [(3, 1)])) (y_ev x (0, [(4, 1)])) (y_ev x (0, [(5, 1)])) (y_ev x (0, [(8, 1)])) := h.2.2.2.1
    (try rw [E0] at T0); (try rw [E1] at T0); (try rw [E2] at T0); (try rw [E3] at T0); (try rw [E4] at T0); (try rw [E5] at T0); (try rw [E6] at T0); (try rw [E7] at T0); (try rw [E8] at T0)
    have T1 : q_tok (t_b v) (y_ev x (0, [(0, 1)])) (y_ev x ((-1), [(1, 1)])) (y_ev x (3, [])) (y_ev x (0, [(6, 1)])) (y_ev x (0, [(7, 1)])) := h.2.2.2.2.1
    (try rw [E0] at T1); (try rw [E1] at T1); (try rw [E9] at T1); (try rw [E10] at T1); (try rw [E11] at T1)
    have K := k_i11_w (V := v) (n := x 0) (d := x 1) (H := x 2) (L := x 3) (W := x 4) (WP := x 5) (s := x 6) (v := x 7) (S := x 8) T0 T1 C0 C1
    refine l_outH rfl (And.intro h.1 ?_)
    have O0 : y_ev x (0, [(0, 1)]) = x 0 := l_e1 _ _
    have O1 : y_ev x (0, [(1, 1)]) = x 1 := l_e1 _ _
    have O2 : y_ev x (13, []) = 13 := l_e0 _ _
    have O3 : y_ev x (0, []) = 0 := l_e0 _ _
    have O4 : y_ev x (0, [(2, 1)]) = x 2 := l_e1 _ _
    have O5 : y_ev x (0, [(3, 1)]) = x 3 := l_e1 _ _
    have O6 : y_ev x (0, [(4, 1)]) = x 4 := l_e1 _ _
    have O7 : y_ev x (0, [(5, 1)]) = x 5 := l_e1 _ _
    have O8 : y_ev x (0, [(8, 1)]) = x 8 := l_e1 _ _
    show (True) ∧ (q_run2 (t_b v) (y_ev x (0, [(0, 1)])) (y_ev x (0, [(1, 1)])) (y_ev x (13, [])) (y_ev x (0, [])) (y_ev x (0, [])) (y_ev x (0, [(2, 1)])) (y_ev x (0, [(3, 1)])) (y_ev x (0, [(4, 1)])) (y_ev x (0, [(5, 1)])) (y_ev x (0, [(8, 1)])) ∧ True)
    (try rw [O0]); (try rw [O1]); (try rw [O2]); (try rw [O3]); (try rw [O4]); (try rw [O5]); (try rw [O6]); (try rw [O7]); (try rw [O8])
    exact K
def lm_295 : zLem := (([((-2147483648), 2147483647), ((-2147483648), 2147483647), ((-2147483648), 2147483647), ((-2147483648), 2147483647), ((-2147483648), 2147483647), ((-2147483648), 2147483647), ((-2147483648), 2147483647), ((-9223372036854775808), 9223372036854775807), ((-2147483648), 2147483647)], [(12, false)], [(400, [(1, (-1))]), (0, [(4, 1)]), (0, [(4, (-1))]), ((-1), [(7, (-1))])], [], [], [(0, (false, 11, 0, []), 0, 0, 0, [(1, 1)])], [(40, [(0, [(0, 1)]), ((-1), [(1, 1)]), (11, []), (0, []), (0, []), (0, [(2, 1)]), (0, [(3, 1)]), (0, [(4, 1)]), (0, [(5, 1)]), (0, [(8, 1)])]), (36, [(0, [(0, 1)]), ((-1), [(1, 1)]), (3, []), (0, [(6, 1)]), (0, [(7, 1)])])]), [([((-2147483648), 2147483647), ((-2147483648), 2147483647), ((-2147483648), 2147483647), ((-2147483648), 2147483647), ((-2147483648), 2147483647), ((-2147483648), 2147483647), ((-2147483648), 2147483647), ((-9223372036854775808), 9223372036854775807), ((-2147483648), 2147483647)], [(12, false)], [], [], [], [], [(40, [(0, [(0, 1)]), (0, [(1, 1)]), (13, []), (0, []), (0, []), (0, [(2, 1)]), (0, [(3, 1)]), (5, []), (0, [(6, 1)]), (0, [(8, 1)])])])])
theorem lk_295 : l_core lm_295 := by
  first
  | skip
    intro v x h
    have K := k_i11_lo (V := v) (n := x 0) (d := x 1) (H := x 2) (L := x 3) (W := x 4) (WP := x 5) (s := x 6) (v := x 7) (S := x 8) (l_c9 (fun w0 w1 w2 w3 w4 w5 w6 w7 w8 : Int => q_run2 (t_b v) w0 w1 w2 w3 w3 w4 w5 w6 w7 w8) (l_e1 x 0) (l_q2 1 x 1) (l_e0 x (11)) (l_e0 x (0)) (l_e1 x 2) (l_e1 x 3) (l_e1 x 4) (l_e1 x 5) (l_e1 x 8) (h.2.2.2.1)) (l_c5 (fun w0 w1 w2 w3 w4 : Int => q_tok (t_b v) w0 w1 w2 w3 w4) (l_e1 x 0) (l_q2 1 x 1) (l_e0 x (3)) (l_e1 x 6) (l_e1 x 7) (h.2.2.2.2.1)) (l_cc (l_q1 400 x 1) (h.2.1.1)) (l_cc (l_e1 x 4) (h.2.1.2.1)) (l_cc (l_q7 x 4) (h.2.1.2.2.1)) (l_cc (l_q11 1 x 7) (h.2.1.2.2.2.1))
    refine l_outH rfl (And.intro h.1 ?_)
    exact l_o9 (fun w0 w1 w2 w3 w4 w5 w6 w7 w8 : Int => (True) ∧ (q_run2 (t_b v) w0 w1 w2 w3 w3 w4 w5 w6 w7 w8 ∧ True)) (l_e1 x 0) (l_e1 x 1) (l_e0 x (13)) (l_e0 x (0)) (l_e1 x 2) (l_e1 x 3) (l_e0 x (5)) (l_e1 x 6) (l_e1 x 8) K
  | skip
    intro v x h
    have C0 : (0 : Int) ≤ 400 - x 1 := l_cc (a := y_ev x (400, [(1, (-1))])) (by show ((400) : Int) + ((-1) * x 1 + 0) = 400 - x 1; omega) (h.2.1.1)
    have C1 : (0 : Int) ≤ x 4 := l_cc (a := y_ev x (0, [(4, 1)])) (l_e1 _ _) (h.2.1.2.1)
    have C2 : (0 : Int) ≤ -x 4 := l_cc (a := y_ev x (0, [(4, (-1))])) (by show ((0) : Int) + ((-1) * x 4 + 0) = -x 4; omega) (h.2.1.2.2.1)
    have C3 : (0 : Int) ≤ -x 7 - 1 := l_cc (a := y_ev x ((-1), [(7, (-1))])) (by show ((-1) : Int) + ((-1) * x 7 + 0) = -x 7 - 1; omega) (h.2.1.2.2.2.1)
    have E0 : y_ev x (0, [(0, 1)]) = x 0 := (l_e1 _ _)
    have E1 : y_ev x ((-1), [(1, 1)]) = x 1 - 1 := (by show ((-1) : Int) + ((1) * x 1 + 0) = x 1 - 1; omega)
    have E2 : y_ev x (11, []) = 11 := (l_e0 _ _)
    have E3 : y_ev x (0, []) = 0 := (l_e0 _ _)
    have E4 : y_ev x (0, [(2, 1)]) = x 2 := (l_e1 _ _)
    have E5 : y_ev x (0, [(3, 1)]) = x 3 := (l_e1 _ _)
    have E6 : y_ev x (0, [(4, 1)]) = x 4 := (l_e1 _ _)
    have E7 : y_ev x (0, [(5, 1)]) = x 5 := (l_e1 _ _)
    have E8 : y_ev x (0, [(8, 1)]) = x 8 := (l_e1 _ _)
    have E9 : y_ev x (3, []) = 3 := (l_e0 _ _)
    have E10 : y_ev x (0, [(6, 1)]) = x 6 := (l_e1 _ _)
    have E11 : y_ev x (0, [(7, 1)]) = x 7 := (l_e1 _ _)
    have T0 : q_run2 (t_b v) (y_ev x (0, [(0, 1)])) (y_ev x ((-1), [(1, 1)])) (y_ev x (11, [])) (y_ev x (0, [])) (y_ev x (0, [])) (y_ev x (0, [(2, 1)])) (y_ev x (0, [(3, 1)])) (y_ev x (0, [(4, 1)])) (y_ev x (0, [(5, 1)])) (y_ev x (0, [(8, 1)])) := h.2.2.2.1
    (try rw [E0] at T0); (try rw [E1] at T0); (try rw [E2] at T0); (try rw [E3] at T0); (try rw [E4] at T0); (try rw [E5] at T0); (try rw [E6] at T0); (try rw [E7] at T0); (try rw [E8] at T0)
    have T1 : q_tok (t_b v) (y_ev x (0, [(0, 1)])) (y_ev x ((-1), [(1, 1)])) (y_ev x (3, [])) (y_ev x (0, [(6, 1)])) (y_ev x (0, [(7, 1)])) := h.2.2.2.2.1
    (try rw [E0] at T1); (try rw [E1] at T1); (try rw [E9] at T1); (try rw [E10] at T1); (try rw [E11] at T1)
    have K := k_i11_lo (V := v) (n := x 0) (d := x 1) (H := x 2) (L := x 3) (W := x 4) (WP := x 5) (s := x 6) (v := x 7) (S := x 8) T0 T1 C0 C1 C2 C3
    refine l_outH rfl (And.intro h.1 ?_)
    have O0 : y_ev x (0, [(0, 1)]) = x 0 := l_e1 _ _
    have O1 : y_ev x (0, [(1, 1)]) = x 1 := l_e1 _ _
    have O2 : y_ev x (13, []) = 13 := l_e0 _ _
    have O3 : y_ev x (0, []) = 0 := l_e0 _ _
    have O4 : y_ev x (0, [(2, 1)]) = x 2 := l_e1 _ _
    have O5 : y_ev x (0, [(3, 1)]) = x 3 := l_e1 _ _
    have O6 : y_ev x (5, []) = 5 := l_e0 _ _
    have O7 : y_ev x (0, [(6, 1)]) = x 6 := l_e1 _ _
    have O8 : y_ev x (0, [(8, 1)]) = x 8 := l_e1 _ _
    show (True) ∧ (q_run2 (t_b v) (y_ev x (0, [(0, 1)])) (y_ev x (0, [(1, 1)])) (y_ev x (13, [])) (y_ev x (0, [])) (y_ev x (0, [])) (y_ev x (0, [(2, 1)])) (y_ev x (0, [(3, 1)])) (y_ev x (5, [])) (y_ev x (0, [(6, 1)])) (y_ev x (0, [(8, 1)])) ∧ True)
    (try rw [O0]); (try rw [O1]); (try rw [O2]); (try rw [O3]); (try rw [O4]); (try rw [O5]); (try rw [O6]); (try rw [O7]); (try rw [O8])
    exact K
def lm_296 : zLem := (([((-2147483648), 2147483647), ((-2147483648), 2147483647), ((-2147483648), 2147483647), ((-2147483648), 2147483647), ((-2147483648), 2147483647), ((-2147483648), 2147483647), ((-2147483648), 2147483647), ((-9223372036854775808), 9223372036854775807), ((-2147483648), 2147483647)], [(12, false)], [(400, [(1, (-1))]), (0, [(4, 1)]), (0, [(4, (-1))]), ((-101), [(7, 1)])], [], [], [(0, (false, 11, 0, []), 0, 0, 0, [(1, 1)])], [(40, [(0, [(0, 1)]), ((-1), [(1, 1)]), (11, []), (0, []), (0, []), (0, [(2, 1)]), (0, [(3, 1)]), (0, [(4, 1)]), (0, [(5, 1)]), (0, [(8, 1)])]), (36, [(0, [(0, 1)]), ((-1), [(1, 1)]), (3, []), (0, [(6, 1)]), (0, [(7, 1)])])]), [([((-2147483648), 2147483647), ((-2147483648), 2147483647), ((-2147483648), 2147483647), ((-2147483648), 2147483647), ((-2147483648), 2147483647), ((-2147483648), 2147483647), ((-2147483648), 2147483647), ((-9223372036854775808), 9223372036854775807), ((-2147483648), 2147483647)], [(12, false)], [], [], [], [], [(40, [(0, [(0, 1)]), (0, [(1, 1)]), (13, []), (0, []), (0, []), (0, [(2, 1)]), (0, [(3, 1)]), (5, []), (0, [(6, 1)]), (0, [(8, 1)])])])])
theorem lk_296 : l_core lm_296 := by
  first
  | skip
    intro v x h
    have K := k_i11_hi (V := v) (n := x 0) (d := x 1) (H := x 2) (L := x 3) (W := x 4) (WP := x 5) (s := x 6) (v := x 7) (S := x 8) (l_c9 (fun w0 w1 w2 w3 w4 w5 w6 w7 w8 : Int => q_run2 (t_b v) w0 w1 w2 w3 w3 w4 w5 w6 w7 w8) (l_e1 x 0) (l_q2 1 x 1) (l_e0 x (11)) (l_e0 x (0)) (l_e1 x 2) (l_e1 x 3) (l_e1 x 4) (l_e1 x 5) (l_e1 x 8) (h.2.2.2.1)) (l_c5 (fun w0 w1 w2 w3 w4 : Int => q_tok (t_b v) w0 w1 w2 w3 w4) (l_e1 x 0) (l_q2 1 x 1) (l_e0 x (3)) (l_e1 x 6) (l_e1 x 7) (h.2.2.2.2.1)) (l_cc (l_q1 400 x 1) (h.2.1.1)) (l_cc (l_e1 x 4) (h.2.1.2.1)) (l_cc (l_q7 x 4) (h.2.1.2.2.1)) (l_cc (l_q2 101 x 7) (h.2.1.2.2.2.1))
    refine l_outH rfl (And.intro h.1 ?_)
    exact l_o9 (fun w0 w1 w2 w3 w4 w5 w6 w7 w8 : Int => (True) ∧ (q_run2 (t_b v) w0 w1 w2 w3 w3 w4 w5 w6 w7 w8 ∧ True)) (l_e1 x 0) (l_e1 x 1) (l_e0 x (13)) (l_e0 x (0)) (l_e1 x 2) (l_e1 x 3) (l_e0 x (5)) (l_e1 x 6) (l_e1 x 8) K
  | skip
    intro v x h
    have C0 : (0 : Int) ≤ 400 - x 1 := l_cc (a := y_ev x (400, [(1, (-1))])) (by show ((400) : Int) + ((-1) * x 1 + 0) = 400 - x 1; omega) (h.2.1.1)
    have C1 : (0 : Int) ≤ x 4 := l_cc (a := y_ev x (0, [(4, 1)])) (l_e1 _ _) (h.2.1.2.1)
    have C2 : (0 : Int) ≤ -x 4 := l_cc (a := y_ev x (0, [(4, (-1))])) (by show ((0) : Int) + ((-1) * x 4 + 0) = -x 4; omega) (h.2.1.2.2.1)
    have C3 : (0 : Int) ≤ x 7 - 101 := l_cc (a := y_ev x ((-101), [(7, 1)])) (by show ((-101) : Int) + ((1) * x 7 + 0) = x 7 - 101; omega) (h.2.1.2.2.2.1)
    have E0 : y_ev x (0, [(0, 1)]) = x 0 := (l_e1 _ _)
    have E1 : y_ev x ((-1), [(1, 1)]) = x 1 - 1 := (by show ((-1) : Int) + ((1) * x 1 + 0) = x 1 - 1; omega)
    have E2 : y_ev x (11, []) = 11 := (l_e0 _ _)
    have E3 : y_ev x (0, []) = 0 := (l_e0 _ _)
    have E4 : y_ev x (0, [(2, 1)]) = x 2 := (l_e1 _ _)
    have E5 : y_ev x (0, [(3, 1)]) = x 3 := (l_e1 _ _)
    have E6 : y_ev x (0, [(4, 1)]) = x 4 := (l_e1 _ _)
    have E7 : y_ev x (0, [(5, 1)]) = x 5 := (l_e1 _ _)
    have E8 : y_ev x (0, [(8, 1)]) = x 8 := (l_e1 _ _)
    have E9 : y_ev x (3, []) = 3 := (l_e0 _ _)
    have E10 : y_ev x (0, [(6, 1)]) = x 6 := (l_e1 _ _)
    have E11 : y_ev x (0, [(7, 1)]) = x 7 := (l_e1 _ _)
    have T0 : q_run2 (t_b v) (y_ev x (0, [(0, 1)])) (y_ev x ((-1), [(1, 1)])) (y_ev x (11, [])) (y_ev x (0, [])) (y_ev x (0, [])) (y_ev x (0, [(2, 1)])) (y_ev x (0, [(3, 1)])) (y_ev x (0, [(4, 1)])) (y_ev x (0, [(5, 1)])) (y_ev x (0, [(8, 1)])) := h.2.2.2.1
    (try rw [E0] at T0); (try rw [E1] at T0); (try rw [E2] at T0); (try rw [E3] at T0); (try rw [E4] at T0); (try rw [E5] at T0); (try rw [E6] at T0); (try rw [E7] at T0); (try rw [E8] at T0)
    have T1 : q_tok (t_b v) (y_ev x (0, [(0, 1)])) (y_ev x ((-1), [(1, 1)])) (y_ev x (3, [])) (y_ev x (0, [(6, 1)])) (y_ev x (0, [(7, 1)])) := h.2.2.2.2.1
    (try rw [E0] at T1); (try rw [E1] at T1); (try rw [E9] at T1); (try rw [E10] at T1); (try rw [E11] at T1)
    have K := k_i11_hi (V := v) (n := x 0) (d := x 1) (H := x 2) (L := x 3) (W := x 4) (WP := x 5) (s := x 6) (v := x 7) (S := x 8) T0 T1 C0 C1 C2 C3
    refine l_outH rfl (And.intro h.1 ?_)
    have O0 : y_ev x (0, [(0, 1)]) = x 0 := l_e1 _ _
    have O1 : y_ev x (0, [(1, 1)]) = x 1 := l_e1 _ _
    have O2 : y_ev x (13, []) = 13 := l_e0 _ _
    have O3 : y_ev x (0, []) = 0 := l_e0 _ _
    have O4 : y_ev x (0, [(2, 1)]) = x 2 := l_e1 _ _
    have O5 : y_ev x (0, [(3, 1)]) = x 3 := l_e1 _ _
    have O6 : y_ev x (5, []) = 5 := l_e0 _ _
    have O7 : y_ev x (0, [(6, 1)]) = x 6 := l_e1 _ _
    have O8 : y_ev x (0, [(8, 1)]) = x 8 := l_e1 _ _
    show (True) ∧ (q_run2 (t_b v) (y_ev x (0, [(0, 1)])) (y_ev x (0, [(1, 1)])) (y_ev x (13, [])) (y_ev x (0, [])) (y_ev x (0, [])) (y_ev x (0, [(2, 1)])) (y_ev x (0, [(3, 1)])) (y_ev x (5, [])) (y_ev x (0, [(6, 1)])) (y_ev x (0, [(8, 1)])) ∧ True)
    (try rw [O0]); (try rw [O1]); (try rw [O2]); (try rw [O3]); (try rw [O4]); (try rw [O5]); (try rw [O6]); (try rw [O7]); (try rw [O8])
    exact K
def lm_297 : zLem := (([((-2147483648), 2147483647), ((-2147483648), 2147483647), ((-2147483648), 2147483647), ((-2147483648), 2147483647), ((-2147483648), 2147483647), ((-2147483648), 2147483647), ((-2147483648), 2147483647), ((-9223372036854775808), 9223372036854775807), ((-2147483648), 2147483647)], [(12, false)], [(400, [(1, (-1))]), (0, [(7, 1)]), (9999, [(7, (-1))])], [], [], [(0, (false, 11, 0, []), 0, 0, 0, [(1, 1)])], [(40, [(0, [(0, 1)]), ((-1), [(1, 1)]), (12, []), (0, []), (0, []), (0, [(2, 1)]), (0, [(3, 1)]), (0, [(4, 1)]), (0, [(5, 1)]), (0, [(8, 1)])]), (36, [(0, [(0, 1)]), ((-1), [(1, 1)]), (3, []), (0, [(6, 1)]), (0, [(7, 1)])])]), [([((-2147483648), 2147483647), ((-2147483648), 2147483647), ((-2147483648), 2147483647), ((-2147483648), 2147483647), ((-2147483648), 2147483647), ((-2147483648), 2147483647), ((-2147483648), 2147483647), ((-9223372036854775808), 9223372036854775807), ((-2147483648), 2147483647)], [(12, false)], [], [], [], [], [(40, [(0, [(0, 1)]), (0, [(1, 1)]), (13, []), (0, []), (0, []), (0, [(2, 1)]), (0, [(3, 1)]), (0, [(4, 1)]), (0, [(5, 1)]), (0, [(8, 1)])])])])
theorem lk_297 : l_core lm_297 := by
  first
  | skip
    intro v x h
    have K := k_i12_in (V := v) (n := x 0) (d := x 1) (H := x 2) (L := x 3) (W := x 4) (WP := x 5) (s := x 6) (v := x 7) (S := x 8) (l_c9 (fun w0 w1 w2 w3 w4 w5 w6 w7 w8 : Int => q_run2 (t_b v) w0 w1 w2 w3 w3 w4 w5 w6 w7 w8) (l_e1 x 0) (l_q2 1 x 1) (l_e0 x (12)) (l_e0 x (0)) (l_e1 x 2) (l_e1 x 3) (l_e1 x 4) (l_e1 x 5) (l_e1 x 8) (h.2.2.2.1)) (l_c5 (fun w0 w1 w2 w3 w4 : Int => q_tok (t_b v) w0 w1 w2 w3 w4) (l_e1 x 0) (l_q2 1 x 1) (l_e0 x (3)) (l_e1 x 6) (l_e1 x 7) (h.2.2.2.2.1)) (l_cc (l_q1 400 x 1) (h.2.1.1)) (l_cc (l_e1 x 7) (h.2.1.2.1)) (l_cc (l_q1 9999 x 7) (h.2.1.2.2.1))
    refine l_outH rfl (And.intro h.1 ?_)
    exact l_o9 (fun w0 w1 w2 w3 w4 w5 w6 w7 w8 : Int => (True) ∧ (q_run2 (t_b v) w0 w1 w2 w3 w3 w4 w5 w6 w7 w8 ∧ True)) (l_e1 x 0) (l_e1 x 1) (l_e0 x (13)) (l_e0 x (0)) (l_e1 x 2) (l_e1 x 3) (l_e1 x 4) (l_e1 x 5) (l_e1 x 8) K
  | skip
    intro v x h
    have C0 : (0 : Int) ≤ 400 - x 1 := l_cc (a := y_ev x (400, [(1, (-1))])) (by show ((400) : Int) + ((-1) * x 1 + 0) = 400 - x 1; omega) (h.2.1.1)
    have C1 : (0 : Int) ≤ x 7 := l_cc (a := y_ev x (0, [(7, 1)])) (l_e1 _ _) (h.2.1.2.1)
    have C2 : (0 : Int) ≤ 9999 - x 7 := l_cc (a := y_ev x (9999, [(7, (-1))])) (by show ((9999) : Int) + ((-1) * x 7 + 0) = 9999 - x 7; omega) (h.2.1.2.2.1)
    have E0 : y_ev x (0, [(0, 1)]) = x 0 := (l_e1 _ _)
    have E1 : y_ev x ((-1), [(1, 1)]) = x 1 - 1 := (by show ((-1) : Int) + ((1) * x 1 + 0) = x 1 - 1; omega)
    have E2 : y_ev x (12, []) = 12 := (l_e0 _ _)
    have E3 : y_ev x (0, []) = 0 := (l_e0 _ _)
    have E4 : y_ev x (0, [(2, 1)]) = x 2 := (l_e1 _ _)
    have E5 : y_ev x (0, [(3, 1)]) = x 3 := (l_e1 _ _)
    have E6 : y_ev x (0, [(4, 1)]) = x 4 := (l_e1 _ _)
    have E7 : y_ev x (0, [(5, 1)]) = x 5 := (l_e1 _ _)
    have E8 : y_ev x (0, [(8, 1)]) = x 8 := (l_e1 _ _)
    have E9 : y_ev x (3, []) = 3 := (l_e0 _ _)
    have E10 : y_ev x (0, [(6, 1)]) = x 6 := (l_e1 _ _)
    have E11 : y_ev x (0, [(7, 1)]) = x 7 := (l_e1 _ _)
    have T0 : q_run2 (t_b v) (y_ev x (0, [(0, 1)])) (y_ev x ((-1), [(1, 1)])) (y_ev x (12, [])) (y_ev x (0, [])) (y_ev x (0, [])) (y_ev x (0, [(2, 1)])) (y_ev x (0, [(3, 1)])) (y_ev x (0, [(4, 1)])) (y_ev x (0, [(5, 1)])) (y_ev x (0, [(8, 1)])) := h.2.2.2.1
    (try rw [E0] at T0); (try rw [E1] at T0); (try rw [E2] at T0); (try rw [E3] at T0); (try rw [E4] at T0); (try rw [E5] at T0); (try rw [E6] at T0); (try rw [E7] at T0); (try rw [E8] at T0)
    have T1 : q_tok (t_b v) (y_ev x (0, [(0, 1)])) (y_ev x ((-1), [(1, 1)])) (y_ev x (3, [])) (y_ev x (0, [(6, 1)])) (y_ev x (0, [(7, 1)])) := h.2.2.2.2.1
    (try rw [E0] at T1); (try rw [E1] at T1); (try rw [E9] at T1); (try rw [E10] at T1); (try rw [E11] at T1)
    have K := k_i12_in (V := v) (n := x 0) (d := x 1) (H := x 2) (L := x 3) (W := x 4) (WP := x 5) (s := x 6) (v := x 7) (S := x 8) T0 T1 C0 C1 C2
    refine l_outH rfl (And.intro h.1 ?_)
    have O0 : y_ev x (0, [(0, 1)]) = x 0 := l_e1 _ _
    have O1 : y_ev x (0, [(1, 1)]) = x 1 := l_e1 _ _
    have O2 : y_ev x (13, []) = 13 := l_e0 _ _
    have O3 : y_ev x (0, []) = 0 := l_e0 _ _
    have O4 : y_ev x (0, [(2, 1)]) = x 2 := l_e1 _ _
    have O5 : y_ev x (0, [(3, 1)]) = x 3 := l_e1 _ _
    have O6 : y_ev x (0, [(4, 1)]) = x 4 := l_e1 _ _
    have O7 : y_ev x (0, [(5, 1)]) = x 5 := l_e1 _ _
    have O8 : y_ev x (0, [(8, 1)]) = x 8 := l_e1 _ _
    show (True) ∧ (q_run2 (t_b v) (y_ev x (0, [(0, 1)])) (y_ev x (0, [(1, 1)])) (y_ev x (13, [])) (y_ev x (0, [])) (y_ev x (0, [])) (y_ev x (0, [(2, 1)])) (y_ev x (0, [(3, 1)])) (y_ev x (0, [(4, 1)])) (y_ev x (0, [(5, 1)])) (y_ev x (0, [(8, 1)])) ∧ True)
    (try rw [O0]); (try rw [O1]); (try rw [O2]); (try rw [O3]); (try rw [O4]); (try rw [O5]); (try rw [O6]); (try rw [O7]); (try rw [O8])
    exact K
def lm_298 : zLem := (([((-2147483648), 2147483647), ((-2147483648), 2147483647), ((-2147483648), 2147483647), ((-2147483648), 2147483647), ((-2147483648), 2147483647), ((-2147483648), 2147483647), ((-2147483648), 2147483647), ((-9223372036854775808), 9223372036854775807), ((-2147483648), 2147483647)], [(12, false)], [(400, [(1, (-1))]), ((-1), [(4, 1)])], [], [], [(0, (false, 11, 0, []), 0, 0, 0, [(1, 1)])], [(40, [(0, [(0, 1)]), ((-1), [(1, 1)]), (12, []), (0, []), (0, []), (0, [(2, 1)]), (0, [(3, 1)]), (0, [(4, 1)]), (0, [(5, 1)]), (0, [(8, 1)])]), (36, [(0, [(0, 1)]), ((-1), [(1, 1)]), (3, []), (0, [(6, 1)]), (0, [(7, 1)])])]), [([((-2147483648), 2147483647), ((-2147483648), 2147483647), ((-2147483648), 2147483647), ((-2147483648), 2147483647), ((-2147483648), 2147483647), ((-2147483648), 2147483647), ((-2147483648), 2147483647), ((-9223372036854775808), 9223372036854775807), ((-2147483648), 2147483647)], [(12, false)], [], [], [], [], [(40, [(0, [(0, 1)]), (0, [(1, 1)]), (13, []), (0, []), (0, []), (0, [(2, 1)]), (0, [(3, 1)]), (0, [(4, 1)]), (0, [(5, 1)]), (0, [(8, 1)])])])])
theorem lk_298 : l_core lm_298 := by
  first
  | skip
    intro v x h
    have K := k_i12_w (V := v) (n := x 0) (d := x 1) (H := x 2) (L := x 3) (W := x 4) (WP := x 5) (s := x 6) (v := x 7) (S := x 8) (l_c9 (fun w0 w1 w2 w3 w4 w5 w6 w7 w8 : Int => q_run2 (t_b v) w0 w1 w2 w3 w3 w4 w5 w6 w7 w8) (l_e1 x 0) (l_q2 1 x 1) (l_e0 x (12)) (l_e0 x (0)) (l_e1 x 2) (l_e1 x 3) (l_e1 x 4) (l_e1 x 5) (l_e1 x 8) (h.2.2.2.1)) (l_c5 (fun w0 w1 w2 w3 w4 : Int => q_tok (t_b v) w0 w1 w2 w3 w4) (l_e1 x 0) (l_q2 1 x 1) (l_e0 x (3)) (l_e1 x 6) (l_e1 x 7) (h.2.2.2.2.1)) (l_cc (l_q1 400 x 1) (h.2.1.1)) (l_cc (l_q2 1 x 4) (h.2.1.2.1))
    refine l_outH rfl (And.intro h.1 ?_)
    exact l_o9 (fun w0 w1 w2 w3 w4 w5 w6 w7 w8 : Int => (True) ∧ (q_run2 (t_b v) w0 w1 w2 w3 w3 w4 w5 w6 w7 w8 ∧ True)) (l_e1 x 0) (l_e1 x 1) (l_e0 x (13)) (l_e0 x (0)) (l_e1 x 2) (l_e1 x 3) (l_e1 x 4) (l_e1 x 5) (l_e1 x 8) K
  | skip
    intro v x h
    have C0 : (0 : Int) ≤ 400 - x 1 := l_cc (a := y_ev x (400, [(1, (-1))])) (by show ((400) : Int) + ((-1) * x 1 + 0) = 400 - x 1; omega) (h.2.1.1)
    have C1 : (0 : Int) ≤ x 4 - 1 := l_cc (a := y_ev x ((-1), [(4, 1)])) (by show ((-1) : Int) + ((1) * x 4 + 0) = x 4 - 1; omega) (h.2.1.2.1)
    have E0 : y_ev x (0, [(0, 1)]) = x 0 := (l_e1 _ _)
    have E1 : y_ev x ((-1), [(1, 1)]) = x 1 - 1 := (by show ((-1) : Int) + ((1) * x 1 + 0) = x 1 - 1; omega)
    have E2 : y_ev x (12, []) = 12 := (l_e0 _ _)
    have E3 : y_ev x (0, []) = 0 := (l_e0 _ _)
    have E4 : y_ev x (0, [(2, 1)]) = x 2 := (l_e1 _ _)
    have E5 : y_ev x (0, [(3, 1)]) = x 3 := (l_e1 _ _)
    have E6 : y_ev x (0, [(4, 1)]) = x 4 := (l_e1 _ _)
    have E7 : y_ev x (0, [(5, 1)]) = x 5 := (l_e1 _ _)
    have E8 : y_ev x (0, [(8, 1)]) = x 8 := (l_e1 _ _)
    have E9 : y_ev x (3, []) = 3 := (l_e0 _ _)
    have E10 : y_ev x (0, [(6, 1)]) = x 6 := (l_e1 _ _)
    have E11 : y_ev x (0, [(7, 1)]) = x 7 := (l_e1 _ _)
    have T0 : q_run2 (t_b v) (y_ev x (0, [(0, 1)])) (y_ev x ((-1), [(1, 1)])) (y_ev x (12, [])) (y_ev x (0, [])) (y_ev x (0, [])) (y_ev x (0, [(2, 1)])) (y_ev x (0, [(3, 1)])) (y_ev x (0, [(4, 1)])) (y_ev x (0, [(5, 1)])) (y_ev x (0, [(8, 1)])) := h.2.2.2.1
    (try rw [E0] at T0); (try rw [E1] at T0); (try rw [E2] at T0); (try rw [E3] at T0); (try rw [E4] at T0); (try rw [E5] at T0); (try rw [E6] at T0); (try rw [E7] at T0); (try rw [E8] at T0)
    have T1 : q_tok (t_b v) (y_ev x (0, [(0, 1)])) (y_ev x ((-1), [(1, 1)])) (y_ev x (3, [])) (y_ev x (0, [(6, 1)])) (y_ev x (0, [(7, 1)])) := h.2.2.2.2.1
    (try rw [E0] at T1); (try rw [E1] at T1); (try rw [E9] at T1); (try rw [E10] at T1); (try rw [E11] at T1)
    have K := k_i12_w (V := v) (n := x 0) (d := x 1) (H := x 2) (L := x 3) (W := x 4) (WP := x 5) (s := x 6) (v := x 7) (S := x 8) T0 T1 C0 C1
    refine l_outH rfl (And.intro h.1 ?_)
    have O0 : y_ev x (0, [(0, 1)]) = x 0 := l_e1 _ _
    have O1 : y_ev x (0, [(1, 1)]) = x 1 := l_e1 _ _
    have O2 : y_ev x (13, []) = 13 := l_e0 _ _
    have O3 : y_ev x (0, []) = 0 := l_e0 _ _
    have O4 : y_ev x (0, [(2, 1)]) = x 2 := l_e1 _ _
    have O5 : y_ev x (0, [(3, 1)]) = x 3 := l_e1 _ _
    have O6 : y_ev x (0, [(4, 1)]) = x 4 := l_e1 _ _
    have O7 : y_ev x (0, [(5, 1)]) = x 5 := l_e1 _ _
    have O8 : y_ev x (0, [(8, 1)]) = x 8 := l_e1 _ _
    show (True) ∧ (q_run2 (t_b v) (y_ev x (0, [(0, 1)])) (y_ev x (0, [(1, 1)])) (y_ev x (13, [])) (y_ev x (0, [])) (y_ev x (0, [])) (y_ev x (0, [(2, 1)])) (y_ev x (0, [(3, 1)])) (y_ev x (0, [(4, 1)])) (y_ev x (0, [(5, 1)])) (y_ev x (0, [(8, 1)])) ∧ True)
    (try rw [O0]); (try rw [O1]); (try rw [O2]); (try rw [O3]); (try rw [O4]); (try rw [O5]); (try rw [O6]); (try rw [O7]); (try rw [O8])
    exact K
def lm_299 : zLem := (([((-2147483648), 2147483647), ((-2147483648), 2147483647), ((-2147483648), 2147483647), ((-2147483648), 2147483647), ((-2147483648), 2147483647), ((-2147483648), 2147483647), ((-2147483648), 2147483647), ((-9223372036854775808), 9223372036854775807), ((-2147483648), 2147483647)], [(12, false)], [(400, [(1, (-1))]), (0, [(4, 1)]), (0, [(4, (-1))]), ((-1), [(7, (-1))])], [], [], [(0, (false, 11, 0, []), 0, 0, 0, [(1, 1)])], [(40, [(0, [(0, 1)]), ((-1), [(1, 1)]), (12, []), (0, []), (0, []), (0, [(2, 1)]), (0, [(3, 1)]), (0, [(4, 1)]), (0, [(5, 1)]), (0, [(8, 1)])]), (36, [(0, [(0, 1)]), ((-1), [(1, 1)]), (3, []), (0, [(6, 1)]), (0, [(7, 1)])])]), [([((-2147483648), 2147483647), ((-2147483648), 2147483647), ((-2147483648), 2147483647), ((-2147483648), 2147483647), ((-2147483648), 2147483647), ((-2147483648), 2147483647), ((-2147483648), 2147483647), ((-9223372036854775808), 9223372036854775807), ((-2147483648), 2147483647)], [(12, false)], [], [], [], [], [(40, [(0, [(0, 1)]), (0, [(1, 1)]), (13, []), (0, []), (0, []), (0, [(2, 1)]), (0, [(3, 1)]), (5, []), (0, [(6, 1)]), (0, [(8, 1)])])])])
theorem lk_299 : l_core lm_299 := by
  first
  | skip
    intro v x h
    have K := k_i12_lo (V := v) (n := x 0) (d := x 1) (H := x 2) (L := x 3) (W := x 4) (WP := x 5) (s := x 6) (v := x 7) (S := x 8) (l_c9 (fun w0 w1 w2 w3 w4 w5 w6 w7 w8 : Int => q_run2 (t_b v) w0 w1 w2 w3 w3 w4 w5 w6 w7 w8) (l_e1 x 0) (l_q2 1 x 1) (l_e0 x (12)) (l_e0 x (0)) (l_e1 x 2) (l_e1 x 3) (l_e1 x 4) (l_e1 x 5) (l_e1 x 8) (h.2.2.2.1)) (l_c5 (fun w0 w1 w2 w3 w4 : Int => q_tok (t_b v) w0 w1 w2 w3 w4) (l_e1 x 0) (l_q2 1 x 1) (l_e0 x (3)) (l_e1 x 6) (l_e1 x 7) (h.2.2.2.2.1)) (l_cc (l_q1 400 x 1) (h.2.1.1)) (l_cc (l_e1 x 4) (h.2.1.2.1)) (l_cc (l_q7 x 4) (h.2.1.2.2.1)) (l_cc (l_q11 1 x 7) (h.2.1.2.2.2.1))
    refine l_outH rfl (And.intro h.1 ?_)
    exact l_o9 (fun w0 w1 w2 w3 w4 w5 w6 w7 w8 : Int => (True) ∧ (q_run2 (t_b v) w0 w1 w2 w3 w3 w4 w5 w6 w7 w8 ∧ True)) (l_e1 x 0) (l_e1 x 1) (l_e0 x (13)) (l_e0 x (0)) (l_e1 x 2) (l_e1 x 3) (l_e0 x (5)) (l_e1 x 6) (l_e1 x 8) K
  | skip
    intro v x h
    have C0 : (0 : Int) ≤ 400 - x 1 := l_cc (a := y_ev x (400, [(1, (-1))])) (by show ((400) : Int) + ((-1) * x 1 + 0) = 400 - x 1; omega) (h.2.1.1)
    have C1 : (0 : Int) ≤ x 4 := l_cc (a := y_ev x (0, [(4, 1)])) (l_e1 _ _) (h.2.1.2.1)
    have C2 : (0 : Int) ≤ -x 4 := l_cc (a := y_ev x (0, [(4, (-1))])) (by show ((0) : Int) + ((-1) * x 4 + 0) = -x 4; omega) (h.2.1.2.2.1)
    have C3 : (0 : Int) ≤ -x 7 - 1 := l_cc (a := y_ev x ((-1), [(7, (-1))])) (by show ((-1) : Int) + ((-1) * x 7 + 0) = -x 7 - 1; omega) (h.2.1.2.2.2.1)
    have E0 : y_ev x (0, [(0, 1)]) = x 0 := (l_e1 _ _)
    have E1 : y_ev x ((-1), [(1, 1)]) = x 1 - 1 := (by show ((-1) : Int) + ((1) * x 1 + 0) = x 1 - 1; omega)
    have E2 : y_ev x (12, []) = 12 := (l_e0 _ _)
    have E3 : y_ev x (0, []) = 0 := (l_e0 _ _)
    have E4 : y_ev x (0, [(2, 1)]) = x 2 := (l_e1 _ _)
    have E5 : y_ev x (0, [(3, 1)]) = x 3 := (l_e1 _ _)
    have E6 : y_ev x (0, [(4, 1)]) = x 4 := (l_e1 _ _)
    have E7 : y_ev x (0, [(5, 1)]) = x 5 := (l_e1 _ _)
    have E8 : y_ev x (0, [(8, 1)]) = x 8 := (l_e1 _ _)
    have E9 : y_ev x (3, []) = 3 := (l_e0 _ _)
    have E10 : y_ev x (0, [(6, 1)]) = x 6 := (l_e1 _ _)
    have E11 : y_ev x (0, [(7, 1)]) = x 7 := (l_e1 _ _)
    have T0 : q_run2 (t_b v) (y_ev x (0, [(0, 1)])) (y_ev x ((-1), [(1, 1)])) (y_ev x (12, [])) (y_ev x (0, [])) (y_ev x (0, [])) (y_ev x (0, [(2, 1)])) (y_ev x (0, [(3, 1)])) (y_ev x (0, [(4, 1)])) (y_ev x (0, [(5, 1)])) (y_ev x (0, [(8, 1)])) := h.2.2.2.1
    (try rw [E0] at T0); (try rw [E1] at T0); (try rw [E2] at T0); (try rw [E3] at T0); (try rw [E4] at T0); (try rw [E5] at T0); (try rw [E6] at T0); (try rw [E7] at T0); (try rw [E8] at T0)
    have T1 : q_tok (t_b v) (y_ev x (0, [(0, 1)])) (y_ev x ((-1), [(1, 1)])) (y_ev x (3, [])) (y_ev x (0, [(6, 1)])) (y_ev x (0, [(7, 1)])) := h.2.2.2.2.1
    (try rw [E0] at T1); (try rw [E1] at T1); (try rw [E9] at T1); (try rw [E10] at T1); (try rw [E11] at T1)
    have K := k_i12_lo (V := v) (n := x 0) (d := x 1) (H := x 2) (L := x 3) (W := x 4) (WP := x 5) (s := x 6) (v := x 7) (S := x 8) T0 T1 C0 C1 C2 C3
    refine l_outH rfl (And.intro h.1 ?_)
    have O0 : y_ev x (0, [(0, 1)]) = x 0 := l_e1 _ _
    have O1 : y_ev x (0, [(1, 1)]) = x 1 := l_e1 _ _
    have O2 : y_ev x (13, []) = 13 := l_e0 _ _
    have O3 : y_ev x (0, []) = 0 := l_e0 _ _
    have O4 : y_ev x (0, [(2, 1)]) = x 2 := l_e1 _ _
    have O5 : y_ev x (0, [(3, 1)]) = x 3 := l_e1 _ _
    have O6 : y_ev x (5, []) = 5 := l_e0 _ _
    have O7 : y_ev x (0, [(6, 1)]) = x 6 := l_e1 _ _
    have O8 : y_ev x (0, [(8, 1)]) = x 8 := l_e1 _ _
    show (True) ∧ (q_run2 (t_b v) (y_ev x (0, [(0, 1)])) (y_ev x (0, [(1, 1)])) (y_ev x (13, [])) (y_ev x (0, [])) (y_ev x (0, [])) (y_ev x (0, [(2, 1)])) (y_ev x (0, [(3, 1)])) (y_ev x (5, [])) (y_ev x (0, [(6, 1)])) (y_ev x (0, [(8, 1)])) ∧ True)
    (try rw [O0]); (try rw [O1]); (try rw [O2]); (try rw [O3]); (try rw [O4]); (try rw [O5]); (try rw [O6]); (try rw [O7]); (try rw [O8])
    exact K
def lm_300 : zLem := (([((-2147483648), 2147483647), ((-2147483648), 2147483647), ((-2147483648), 2147483647), ((-2147483648), 2147483647), ((-2147483648), 2147483647), ((-2147483648), 2147483647), ((-2147483648), 2147483647), ((-9223372036854775808), 9223372036854775807), ((-2147483648), 2147483647)], [(12, false)], [(400, [(1, (-1))]), (0, [(4, 1)]), (0, [(4, (-1))]), ((-10000), [(7, 1)])], [], [], [(0, (false, 11, 0, []), 0, 0, 0, [(1, 1)])], [(40, [(0, [(0, 1)]), ((-1), [(1, 1)]), (12, []), (0, []), (0, []), (0, [(2, 1)]), (0, [(3, 1)]), (0, [(4, 1)]), (0, [(5, 1)]), (0, [(8, 1)])]), (36, [(0, [(0, 1)]), ((-1), [(1, 1)]), (3, []), (0, [(6, 1)]), (0, [(7, 1)])])]), [([((-2147483648), 2147483647), ((-2147483648), 2147483647), ((-2147483648), 2147483647), ((-2147483648), 2147483647), ((-2147483648), 2147483647), ((-2147483648), 2147483647), ((-2147483648), 2147483647), ((-9223372036854775808), 9223372036854775807), ((-2147483648), 2147483647)], [(12, false)], [], [], [], [], [(40, [(0, [(0, 1)]), (0, [(1, 1)]), (13, []), (0, []), (0, []), (0, [(2, 1)]), (0, [(3, 1)]), (5, []), (0, [(6, 1)]), (0, [(8, 1)])])])])
theorem lk_300 : l_core lm_300 := by
  first
  | skip
    intro v x h
    have K := k_i12_hi (V := v) (n := x 0) (d := x 1) (H := x 2) (L := x 3) (W := x 4) (WP := x 5) (s := x 6) (v := x 7) (S := x 8) (l_c9 (fun w0 w1 w2 w3 w4 w5 w6 w7 w8 : Int => q_run2 (t_b v) w0 w1 w2 w3 w3 w4 w5 w6 w7 w8) (l_e1 x 0) (l_q2 1 x 1) (l_e0 x (12)) (l_e0 x (0)) (l_e1 x 2) (l_e1 x 3) (l_e1 x 4) (l_e1 x 5) (l_e1 x 8) (h.2.2.2.1)) (l_c5 (fun w0 w1 w2 w3 w4 : Int => q_tok (t_b v) w0 w1 w2 w3 w4) (l_e1 x 0) (l_q2 1 x 1) (l_e0 x (3)) (l_e1 x 6) (l_e1 x 7) (h.2.2.2.2.1)) (l_cc (l_q1 400 x 1) (h.2.1.1)) (l_cc (l_e1 x 4) (h.2.1.2.1)) (l_cc (l_q7 x 4) (h.2.1.2.2.1)) (l_cc (l_q2 10000 x 7) (h.2.1.2.2.2.1))
    refine l_outH rfl (And.intro h.1 ?_)
    exact l_o9 (fun w0 w1 w2 w3 w4 w5 w6 w7 w8 : Int => (True) ∧ (q_run2 (t_b v) w0 w1 w2 w3 w3 w4 w5 w6 w7 w8 ∧ True)) (l_e1 x 0) (l_e1 x 1) (l_e0 x (13)) (l_e0 x (0)) (l_e1 x 2) (l_e1 x 3) (l_e0 x (5)) (l_e1 x 6) (l_e1 x 8) K
  | skip
    intro v x h
    have C0 : (0 : Int) ≤ 400 - x 1 := l_cc (a := y_ev x (400, [(1, (-1))])) (by show ((400) : Int) + ((-1) * x 1 + 0) = 400 - x 1; omega) (h.2.1.1)
    have C1 : (0 : Int) ≤ x 4 := l_cc (a := y_ev x (0, [(4, 1)])) (l_e1 _ _) (h.2.1.2.1)
    have C2 : (0 : Int) ≤ -x 4 := l_cc (a := y_ev x (0, [(4, (-1))])) (by show ((0) : Int) + ((-1) * x 4 + 0) = -x 4; omega) (h.2.1.2.2.1)
    have C3 : (0 : Int) ≤ x 7 - 10000 := l_cc (a := y_ev x ((-10000), [(7, 1)])) (by show ((-10000) : Int) + ((1) * x 7 + 0) = x 7 - 10000; omega) (h.2.1.2.2.2.1)
    have E0 : y_ev x (0, [(0, 1)]) = x 0 := (l_e1 _ _)
    have E1 : y_ev x ((-1), [(1, 1)]) = x 1 - 1 := (by show ((-1) : Int) + ((1) * x 1 + 0) = x 1 - 1; omega)
    have E2 : y_ev x (12, []) = 12 := (l_e0 _ _)
    have E3 : y_ev x (0, []) = 0 := (l_e0 _ _)
    have E4 : y_ev x (0, [(2, 1)]) = x 2 := (l_e1 _ _)
    have E5 : y_ev x (0, [(3, 1)]) = x 3 := (l_e1 _ _)
    have E6 : y_ev x (0, [(4, 1)]) = x 4 := (l_e1 _ _)
    have E7 : y_ev x (0, [(5, 1)]) = x 5 := (l_e1 _ _)
    have E8 : y_ev x (0, [(8, 1)]) = x 8 := (l_e1 _ _)
    have E9 : y_ev x (3, []) = 3 := (l_e0 _ _)
    have E10 : y_ev x (0, [(6, 1)]) = x 6 := (l_e1 _ _)
    have E11 : y_ev x (0, [(7, 1)]) = x 7 := (l_e1 _ _)
    have T0 : q_run2 (t_b v) (y_ev x (0, [(0, 1)])) (y_ev x ((-1), [(1, 1)])) (y_ev x (12, [])) (y_ev x (0, [])) (y_ev x (0, [])) (y_ev x (0, [(2, 1)])) (y_ev x (0, [(3, 1)])) (y_ev x (0, [(4, 1)])) (y_ev x (0, [(5, 1)])) (y_ev x (0, [(8, 1)])) := h.2.2.2.1
    (try rw [E0] at T0); (try rw [E1] at T0); (try rw [E2] at T0); (try rw [E3] at T0); (try rw [E4] at T0); (try rw [E5] at T0); (try rw [E6] at T0); (try rw [E7] at T0); (try rw [E8] at T0)
    have T1 : q_tok (t_b v) (y_ev x (0, [(0, 1)])) (y_ev x ((-1), [(1, 1)])) (y_ev x (3, [])) (y_ev x (0, [(6, 1)])) (y_ev x (0, [(7, 1)])) := h.2.2.2.2.1
    (try rw [E0] at T1); (try rw [E1] at T1); (try rw [E9] at T1); (try rw [E10] at T1); (try rw [E11] at T1)
    have K := k_i12_hi (V := v) (n := x 0) (d := x 1) (H := x 2) (L := x 3) (W := x 4) (WP := x 5) (s := x 6) (v := x 7) (S := x 8) T0 T1 C0 C1 C2 C3
    refine l_outH rfl (And.intro h.1 ?_)
    have O0 : y_ev x (0, [(0, 1)]) = x 0 := l_e1 _ _
    have O1 : y_ev x (0, [(1, 1)]) = x 1 := l_e1 _ _
    have O2 : y_ev x (13, []) = 13 := l_e0 _ _
    have O3 : y_ev x (0, []) = 0 := l_e0 _ _
    have O4 : y_ev x (0, [(2, 1)]) = x 2 := l_e1 _ _
    have O5 : y_ev x (0, [(3, 1)]) = x 3 := l_e1 _ _
    have O6 : y_ev x (5, []) = 5 := l_e0 _ _
    have O7 : y_ev x (0, [(6, 1)]) = x 6 := l_e1 _ _
    have O8 : y_ev x (0, [(8, 1)]) = x 8 := l_e1 _ _
    show (True) ∧ (q_run2 (t_b v) (y_ev x (0, [(0, 1)])) (y_ev x (0, [(1, 1)])) (y_ev x (13, [])) (y_ev x (0, [])) (y_ev x (0, [])) (y_ev x (0, [(2, 1)])) (y_ev x (0, [(3, 1)])) (y_ev x (5, [])) (y_ev x (0, [(6, 1)])) (y_ev x (0, [(8, 1)])) ∧ True)
    (try rw [O0]); (try rw [O1]); (try rw [O2]); (try rw [O3]); (try rw [O4]); (try rw [O5]); (try rw [O6]); (try rw [O7]); (try rw [O8])
    exact K
def lm_301 : zLem := (([((-2147483648), 2147483647), ((-2147483648), 2147483647), ((-2147483648), 2147483647), ((-2147483648), 2147483647), ((-2147483648), 2147483647), ((-2147483648), 2147483647), ((-2147483648), 2147483647), ((-9223372036854775808), 9223372036854775807), ((-2147483648), 2147483647)], [(12, false)], [(400, [(1, (-1))])], [], [], [(0, (false, 11, 0, []), 0, 0, 0, [(1, 1)])], [(40, [(0, [(0, 1)]), ((-1), [(1, 1)]), (1, []), (0, []), (0, []), (0, [(2, 1)]), (0, [(3, 1)]), (0, [(4, 1)]), (0, [(5, 1)]), (0, [(8, 1)])]), (36, [(0, [(0, 1)]), ((-1), [(1, 1)]), (2, []), (0, [(6, 1)]), (0, [(7, 1)])]), (44, [(0, [(0, 1)]), ((-1), [(1, 1)]), ((-1), [])])]), [([((-2147483648), 2147483647), ((-2147483648), 2147483647), ((-2147483648), 2147483647), ((-2147483648), 2147483647), ((-2147483648), 2147483647), ((-2147483648), 2147483647), ((-2147483648), 2147483647), ((-9223372036854775808), 9223372036854775807), ((-2147483648), 2147483647)], [(12, false)], [], [], [], [], [(40, [(0, [(0, 1)]), (0, [(1, 1)]), (2, []), (0, []), (0, []), (0, [(2, 1)]), (0, [(3, 1)]), (0, [(4, 1)]), (0, [(5, 1)]), (0, [(8, 1)])])])])
theorem lk_301 : l_core lm_301 := by
  first
  | skip
    intro v x h
    have K := k_n1_no (V := v) (n := x 0) (d := x 1) (H := x 2) (L := x 3) (W := x 4) (WP := x 5) (s := x 6) (v := x 7) (S := x 8) (l_c9 (fun w0 w1 w2 w3 w4 w5 w6 w7 w8 : Int => q_run2 (t_b v) w0 w1 w2 w3 w3 w4 w5 w6 w7 w8) (l_e1 x 0) (l_q2 1 x 1) (l_e0 x (1)) (l_e0 x (0)) (l_e1 x 2) (l_e1 x 3) (l_e1 x 4) (l_e1 x 5) (l_e1 x 8) (h.2.2.2.1)) (l_c5 (fun w0 w1 w2 w3 w4 : Int => q_tok (t_b v) w0 w1 w2 w3 w4) (l_e1 x 0) (l_q2 1 x 1) (l_e0 x (2)) (l_e1 x 6) (l_e1 x 7) (h.2.2.2.2.1)) (l_c3 (fun w0 w1 w2 : Int => q_fnd (t_b v) w0 w1 w2) (l_e1 x 0) (l_q2 1 x 1) (l_e0 x (-1)) (h.2.2.2.2.2.1)) (l_cc (l_q1 400 x 1) (h.2.1.1))
    refine l_outH rfl (And.intro h.1 ?_)
    exact l_o9 (fun w0 w1 w2 w3 w4 w5 w6 w7 w8 : Int => (True) ∧ (q_run2 (t_b v) w0 w1 w2 w3 w3 w4 w5 w6 w7 w8 ∧ True)) (l_e1 x 0) (l_e1 x 1) (l_e0 x (2)) (l_e0 x (0)) (l_e1 x 2) (l_e1 x 3) (l_e1 x 4) (l_e1 x 5) (l_e1 x 8) K
  | skip
    intro v x h
    have C0 : (0 : Int) ≤ 400 - x 1 := l_cc (a := y_ev x (400, [(1, (-1))])) (by show ((400) : Int) + ((-1) * x 1 + 0) = 400 - x 1; omega) (h.2.1.1)
    have E0 : y_ev x (0, [(0, 1)]) = x 0 := (l_e1 _ _)
    have E1 : y_ev x ((-1), [(1, 1)]) = x 1 - 1 := (by show ((-1) : Int) + ((1) * x 1 + 0) = x 1 - 1; omega)
    have E2 : y_ev x (1, []) = 1 := (l_e0 _ _)
    have E3 : y_ev x (0, []) = 0 := (l_e0 _ _)
    have E4 : y_ev x (0, [(2, 1)]) = x 2 := (l_e1 _ _)
    have E5 : y_ev x (0, [(3, 1)]) = x 3 := (l_e1 _ _)
    have E6 : y_ev x (0, [(4, 1)]) = x 4 := (l_e1 _ _)
    have E7 : y_ev x (0, [(5, 1)]) = x 5 := (l_e1 _ _)
    have E8 : y_ev x (0, [(8, 1)]) = x 8 := (l_e1 _ _)
    have E9 : y_ev x (2, []) = 2 := (l_e0 _ _)
    have E10 : y_ev x (0, [(6, 1)]) = x 6 := (l_e1 _ _)
    have E11 : y_ev x (0, [(7, 1)]) = x 7 := (l_e1 _ _)
    have E12 : y_ev x ((-1), []) = (-1) := (l_e0 _ _)
    have T0 : q_run2 (t_b v) (y_ev x (0, [(0, 1)])) (y_ev x ((-1), [(1, 1)])) (y_ev x (1, [])) (y_ev x (0, [])) (y_ev x (0, [])) (y_ev x (0, [(2, 1)])) (y_ev x (0, [(3, 1)])) (y_ev x (0, [(4, 1)])) (y_ev x (0, [(5, 1)])) (y_ev x (0, [(8, 1)])) := h.2.2.2.1
    (try rw [E0] at T0); (try rw [E1] at T0); (try rw [E2] at T0); (try rw [E3] at T0); (try rw [E4] at T0); (try rw [E5] at T0); (try rw [E6] at T0); (try rw [E7] at T0); (try rw [E8] at T0)
    have T1 : q_tok (t_b v) (y_ev x (0, [(0, 1)])) (y_ev x ((-1), [(1, 1)])) (y_ev x (2, [])) (y_ev x (0, [(6, 1)])) (y_ev x (0, [(7, 1)])) := h.2.2.2.2.1
    (try rw [E0] at T1); (try rw [E1] at T1); (try rw [E9] at T1); (try rw [E10] at T1); (try rw [E11] at T1)
    have T2 : q_fnd (t_b v) (y_ev x (0, [(0, 1)])) (y_ev x ((-1), [(1, 1)])) (y_ev x ((-1), [])) := h.2.2.2.2.2.1
    (try rw [E0] at T2); (try rw [E1] at T2); (try rw [E12] at T2)
    have K := k_n1_no (V := v) (n := x 0) (d := x 1) (H := x 2) (L := x 3) (W := x 4) (WP := x 5) (s := x 6) (v := x 7) (S := x 8) T0 T1 T2 C0
    refine l_outH rfl (And.intro h.1 ?_)
    have O0 : y_ev x (0, [(0, 1)]) = x 0 := l_e1 _ _
    have O1 : y_ev x (0, [(1, 1)]) = x 1 := l_e1 _ _
    have O2 : y_ev x (2, []) = 2 := l_e0 _ _
    have O3 : y_ev x (0, []) = 0 := l_e0 _ _
    have O4 : y_ev x (0, [(2, 1)]) = x 2 := l_e1 _ _
    have O5 : y_ev x (0, [(3, 1)]) = x 3 := l_e1 _ _
    have O6 : y_ev x (0, [(4, 1)]) = x 4 := l_e1 _ _
    have O7 : y_ev x (0, [(5, 1)]) = x 5 := l_e1 _ _
    have O8 : y_ev x (0, [(8, 1)]) = x 8 := l_e1 _ _
    show (True) ∧ (q_run2 (t_b v) (y_ev x (0, [(0, 1)])) (y_ev x (0, [(1, 1)])) (y_ev x (2, [])) (y_ev x (0, [])) (y_ev x (0, [])) (y_ev x (0, [(2, 1)])) (y_ev x (0, [(3, 1)])) (y_ev x (0, [(4, 1)])) (y_ev x (0, [(5, 1)])) (y_ev x (0, [(8, 1)])) ∧ True)
    (try rw [O0]); (try rw [O1]); (try rw [O2]); (try rw [O3]); (try rw [O4]); (try rw [O5]); (try rw [O6]); (try rw [O7]); (try rw [O8])
    exact K
def lm_304 : zLem := (([((-2147483648), 2147483647), ((-2147483648), 2147483647), ((-2147483648), 2147483647), ((-2147483648), 2147483647), ((-2147483648), 2147483647), ((-2147483648), 2147483647), ((-2147483648), 2147483647), ((-9223372036854775808), 9223372036854775807), ((-2147483648), 2147483647), ((-2147483648), 2147483647)], [(12, false)], [(400, [(1, (-1))]), (0, [(8, 1)])], [], [], [(0, (false, 11, 0, []), 0, 0, 0, [(1, 1)])], [(40, [(0, [(0, 1)]), ((-1), [(1, 1)]), (5, []), (0, []), (0, []), (0, [(2, 1)]), (0, [(3, 1)]), (0, [(4, 1)]), (0, [(5, 1)]), (0, [(9, 1)])]), (36, [(0, [(0, 1)]), ((-1), [(1, 1)]), (2, []), (0, [(6, 1)]), (0, [(7, 1)])]), (44, [(0, [(0, 1)]), ((-1), [(1, 1)]), (0, [(8, 1)])])]), [([((-2147483648), 2147483647), ((-2147483648), 2147483647), ((-2147483648), 2147483647), ((-2147483648), 2147483647), ((-2147483648), 2147483647), ((-2147483648), 2147483647), ((-2147483648), 2147483647), ((-9223372036854775808), 9223372036854775807), ((-2147483648), 2147483647), ((-2147483648), 2147483647)], [(12, false)], [], [], [], [], [(40, [(0, [(0, 1)]), (0, [(1, 1)]), (6, []), (0, []), (0, []), (0, [(2, 1)]), (0, [(3, 1)]), (0, [(4, 1)]), (0, [(5, 1)]), (0, [(9, 1)])])])])
theorem lk_304 : l_core lm_304 := by
  first
  | skip
    intro v x h
    have K := k_n5_y (V := v) (n := x 0) (d := x 1) (H := x 2) (L := x 3) (W := x 4) (WP := x 5) (s := x 6) (v := x 7) (r := x 8) (S := x 9) (l_c9 (fun w0 w1 w2 w3 w4 w5 w6 w7 w8 : Int => q_run2 (t_b v) w0 w1 w2 w3 w3 w4 w5 w6 w7 w8) (l_e1 x 0) (l_q2 1 x 1) (l_e0 x (5)) (l_e0 x (0)) (l_e1 x 2) (l_e1 x 3) (l_e1 x 4) (l_e1 x 5) (l_e1 x 9) (h.2.2.2.1)) (l_c5 (fun w0 w1 w2 w3 w4 : Int => q_tok (t_b v) w0 w1 w2 w3 w4) (l_e1 x 0) (l_q2 1 x 1) (l_e0 x (2)) (l_e1 x 6) (l_e1 x 7) (h.2.2.2.2.1)) (l_c3 (fun w0 w1 w2 : Int => q_fnd (t_b v) w0 w1 w2) (l_e1 x 0) (l_q2 1 x 1) (l_e1 x 8) (h.2.2.2.2.2.1)) (l_cc (l_q1 400 x 1) (h.2.1.1)) (l_cc (l_e1 x 8) (h.2.1.2.1))
    refine l_outH rfl (And.intro h.1 ?_)
    exact l_o9 (fun w0 w1 w2 w3 w4 w5 w6 w7 w8 : Int => (True) ∧ (q_run2 (t_b v) w0 w1 w2 w3 w3 w4 w5 w6 w7 w8 ∧ True)) (l_e1 x 0) (l_e1 x 1) (l_e0 x (6)) (l_e0 x (0)) (l_e1 x 2) (l_e1 x 3) (l_e1 x 4) (l_e1 x 5) (l_e1 x 9) K
  | skip
    intro v x h
    have C0 : (0 : Int) ≤ 400 - x 1 := l_cc (a := y_ev x (400, [(1, (-1))])) (by show ((400) : Int) + ((-1) * x 1 + 0) = 400 - x 1; omega) (h.2.1.1)
    have C1 : (0 : Int) ≤ x 8 := l_cc (a := y_ev x (0, [(8, 1)])) (l_e1 _ _) (h.2.1.2.1)
    have E0 : y_ev x (0, [(0, 1)]) = x 0 := (l_e1 _ _)
    have E1 : y_ev x ((-1), [(1, 1)]) = x 1 - 1 := (by show ((-1) : Int) + ((1) * x 1 + 0) = x 1 - 1; omega)
    have E2 : y_ev x (5, []) = 5 := (l_e0 _ _)
    have E3 : y_ev x (0, []) = 0 := (l_e0 _ _)
    have E4 : y_ev x (0, [(2, 1)]) = x 2 := (l_e1 _ _)
    have E5 : y_ev x (0, [(3, 1)]) = x 3 := (l_e1 _ _)
    have E6 : y_ev x (0, [(4, 1)]) = x 4 := (l_e1 _ _)
    have E7 : y_ev x (0, [(5, 1)]) = x 5 := (l_e1 _ _)
    have E8 : y_ev x (0, [(9, 1)]) = x 9 := (l_e1 _ _)
    have E9 : y_ev x (2, []) = 2 := (l_e0 _ _)
    have E10 : y_ev x (0, [(6, 1)]) = x 6 := (l_e1 _ _)
    have E11 : y_ev x (0, [(7, 1)]) = x 7 := (l_e1 _ _)
    have E12 : y_ev x (0, [(8, 1)]) = x 8 := (l_e1 _ _)
    have T0 : q_run2 (t_b v) (y_ev x (0, [(0, 1)])) (y_ev x ((-1), [(1, 1)])) (y_ev x (5, [])) (y_ev x (0, [])) (y_ev x (0, [])) (y_ev x (0, [(2, 1)])) (y_ev x (0, [(3, 1)])) (y_ev x (0, [(4, 1)])) (y_ev x (0, [(5, 1)])) (y_ev x (0, [(9, 1)])) := h.2.2.2.1
    (try rw [E0] at T0); (try rw [E1] at T0); (try rw [E2] at T0); (try rw [E3] at T0); (try rw [E4] at T0); (try rw [E5] at T0); (try rw [E6] at T0); (try rw [E7] at T0); (try rw [E8] at T0)
    have T1 : q_tok (t_b v) (y_ev x (0, [(0, 1)])) (y_ev x ((-1), [(1, 1)])) (y_ev x (2, [])) (y_ev x (0, [(6, 1)])) (y_ev x (0, [(7, 1)])) := h.2.2.2.2.1
    (try rw [E0] at T1); (try rw [E1] at T1); (try rw [E9] at T1); (try rw [E10] at T1); (try rw [E11] at T1)
    have T2 : q_fnd (t_b v) (y_ev x (0, [(0, 1)])) (y_ev x ((-1), [(1, 1)])) (y_ev x (0, [(8, 1)])) := h.2.2.2.2.2.1
    (try rw [E0] at T2); (try rw [E1] at T2); (try rw [E12] at T2)
    have K := k_n5_y (V := v) (n := x 0) (d := x 1) (H := x 2) (L := x 3) (W := x 4) (WP := x 5) (s := x 6) (v := x 7) (r := x 8) (S := x 9) T0 T1 T2 C0 C1
    refine l_outH rfl (And.intro h.1 ?_)
    have O0 : y_ev x (0, [(0, 1)]) = x 0 := l_e1 _ _
    have O1 : y_ev x (0, [(1, 1)]) = x 1 := l_e1 _ _
    have O2 : y_ev x (6, []) = 6 := l_e0 _ _
    have O3 : y_ev x (0, []) = 0 := l_e0 _ _
    have O4 : y_ev x (0, [(2, 1)]) = x 2 := l_e1 _ _
    have O5 : y_ev x (0, [(3, 1)]) = x 3 := l_e1 _ _
    have O6 : y_ev x (0, [(4, 1)]) = x 4 := l_e1 _ _
    have O7 : y_ev x (0, [(5, 1)]) = x 5 := l_e1 _ _
    have O8 : y_ev x (0, [(9, 1)]) = x 9 := l_e1 _ _
    show (True) ∧ (q_run2 (t_b v) (y_ev x (0, [(0, 1)])) (y_ev x (0, [(1, 1)])) (y_ev x (6, [])) (y_ev x (0, [])) (y_ev x (0, [])) (y_ev x (0, [(2, 1)])) (y_ev x (0, [(3, 1)])) (y_ev x (0, [(4, 1)])) (y_ev x (0, [(5, 1)])) (y_ev x (0, [(9, 1)])) ∧ True)
    (try rw [O0]); (try rw [O1]); (try rw [O2]); (try rw [O3]); (try rw [O4]); (try rw [O5]); (try rw [O6]); (try rw [O7]); (try rw [O8])
    exact K
def lm_305p : zS := ((lm_118pi_0 (lm_118pi_1 [])), [(12, false)], [(400, [(1, (-1))]), ((-1), [(4, 1)])], [], [], [(0, (false, 11, 0, []), 0, 0, 0, [(1, 1)])], [(40, [(0, [(0, 1)]), ((-1), [(1, 1)]), (5, []), (0, []), (0, []), (0, [(2, 1)]), (0, [(3, 1)]), (0, [(4, 1)]), (0, [(5, 1)]), (0, [(9, 1)])]), (36, [(0, [(0, 1)]), ((-1), [(1, 1)]), (2, []), (0, [(6, 1)]), (0, [(7, 1)])]), (44, [(0, [(0, 1)]), ((-1), [(1, 1)]), (0, [(8, 1)])])])
def lm_305 : zLem := (lm_305p, [([((-2147483648), 2147483647), ((-2147483648), 2147483647), ((-2147483648), 2147483647), ((-2147483648), 2147483647), ((-2147483648), 2147483647), ((-2147483648), 2147483647), ((-2147483648), 2147483647), ((-9223372036854775808), 9223372036854775807), ((-2147483648), 2147483647), ((-2147483648), 2147483647)], [(12, false)], [], [], [], [], [(40, [(0, [(0, 1)]), (0, [(1, 1)]), (6, []), (0, []), (0, []), (0, [(2, 1)]), (0, [(3, 1)]), (0, [(4, 1)]), (0, [(5, 1)]), (0, [(9, 1)])])])])
theorem lk_305 : l_core lm_305 := by
  first
  | skip
    intro v x h
    have K := k_n5_w (V := v) (n := x 0) (d := x 1) (H := x 2) (L := x 3) (W := x 4) (WP := x 5) (s := x 6) (v := x 7) (r := x 8) (S := x 9) (l_c9 (fun w0 w1 w2 w3 w4 w5 w6 w7 w8 : Int => q_run2 (t_b v) w0 w1 w2 w3 w3 w4 w5 w6 w7 w8) (l_e1 x 0) (l_q2 1 x 1) (l_e0 x (5)) (l_e0 x (0)) (l_e1 x 2) (l_e1 x 3) (l_e1 x 4) (l_e1 x 5) (l_e1 x 9) (h.2.2.2.1)) (l_c5 (fun w0 w1 w2 w3 w4 : Int => q_tok (t_b v) w0 w1 w2 w3 w4) (l_e1 x 0) (l_q2 1 x 1) (l_e0 x (2)) (l_e1 x 6) (l_e1 x 7) (h.2.2.2.2.1)) (l_c3 (fun w0 w1 w2 : Int => q_fnd (t_b v) w0 w1 w2) (l_e1 x 0) (l_q2 1 x 1) (l_e1 x 8) (h.2.2.2.2.2.1)) (l_cc (l_q1 400 x 1) (h.2.1.1)) (l_cc (l_q2 1 x 4) (h.2.1.2.1))
    refine l_outH rfl (And.intro h.1 ?_)
    exact l_o9 (fun w0 w1 w2 w3 w4 w5 w6 w7 w8 : Int => (True) ∧ (q_run2 (t_b v) w0 w1 w2 w3 w3 w4 w5 w6 w7 w8 ∧ True)) (l_e1 x 0) (l_e1 x 1) (l_e0 x (6)) (l_e0 x (0)) (l_e1 x 2) (l_e1 x 3) (l_e1 x 4) (l_e1 x 5) (l_e1 x 9) K
  | skip
    intro v x h
    have C0 : (0 : Int) ≤ 400 - x 1 := l_cc (a := y_ev x (400, [(1, (-1))])) (by show ((400) : Int) + ((-1) * x 1 + 0) = 400 - x 1; omega) (h.2.1.1)
    have C1 : (0 : Int) ≤ x 4 - 1 := l_cc (a := y_ev x ((-1), [(4, 1)])) (by show ((-1) : Int) + ((1) * x 4 + 0) = x 4 - 1; omega) (h.2.1.2.1)
    have E0 : y_ev x (0, [(0, 1)]) = x 0 := (l_e1 _ _)
    have E1 : y_ev x ((-1), [(1, 1)]) = x 1 - 1 := (by show ((-1) : Int) + ((1) * x 1 + 0) = x 1 - 1; omega)
    have E2 : y_ev x (5, []) = 5 := (l_e0 _ _)
    have E3 : y_ev x (0, []) = 0 := (l_e0 _ _)
    have E4 : y_ev x (0, [(2, 1)]) = x 2 := (l_e1 _ _)
    have E5 : y_ev x (0, [(3, 1)]) = x 3 := (l_e1 _ _)
    have E6 : y_ev x (0, [(4, 1)]) = x 4 := (l_e1 _ _)
    have E7 : y_ev x (0, [(5, 1)]) = x 5 := (l_e1 _ _)
    have E8 : y_ev x (0, [(9, 1)]) = x 9 := (l_e1 _ _)
    have E9 : y_ev x (2, []) = 2 := (l_e0 _ _)
    have E10 : y_ev x (0, [(6, 1)]) = x 6 := (l_e1 _ _)
    have E11 : y_ev x (0, [(7, 1)]) = x 7 := (l_e1 _ _)
    have E12 : y_ev x (0, [(8, 1)]) = x 8 := (l_e1 _ _)
    have T0 : q_run2 (t_b v) (y_ev x (0, [(0, 1)])) (y_ev x ((-1), [(1, 1)])) (y_ev x (5, [])) (y_ev x (0, [])) (y_ev x (0, [])) (y_ev x (0, [(2, 1)])) (y_ev x (0, [(3, 1)])) (y_ev x (0, [(4, 1)])) (y_ev x (0, [(5, 1)])) (y_ev x (0, [(9, 1)])) := h.2.2.2.1
    (try rw [E0] at T0); (try rw [E1] at T0); (try rw [E2] at T0); (try rw [E3] at T0); (try rw [E4] at T0); (try rw [E5] at T0); (try rw [E6] at T0); (try rw [E7] at T0); (try rw [E8] at T0)
    have T1 : q_tok (t_b v) (y_ev x (0, [(0, 1)])) (y_ev x ((-1), [(1, 1)])) (y_ev x (2, [])) (y_ev x (0, [(6, 1)])) (y_ev x (0, [(7, 1)])) := h.2.2.2.2.1
    (try rw [E0] at T1); (try rw [E1] at T1); (try rw [E9] at T1); (try rw [E10] at T1); (try rw [E11] at T1)
    have T2 : q_fnd (t_b v) (y_ev x (0, [(0, 1)])) (y_ev x ((-1), [(1, 1)])) (y_ev x (0, [(8, 1)])) := h.2.2.2.2.2.1
    (try rw [E0] at T2); (try rw [E1] at T2); (try rw [E12] at T2)
    have K := k_n5_w (V := v) (n := x 0) (d := x 1) (H := x 2) (L := x 3) (W := x 4) (WP := x 5) (s := x 6) (v := x 7) (r := x 8) (S := x 9) T0 T1 T2 C0 C1
    refine l_outH rfl (And.intro h.1 ?_)
    have O0 : y_ev x (0, [(0, 1)]) = x 0 := l_e1 _ _
    have O1 : y_ev x (0, [(1, 1)]) = x 1 := l_e1 _ _
    have O2 : y_ev x (6, []) = 6 := l_e0 _ _
    have O3 : y_ev x (0, []) = 0 := l_e0 _ _
    have O4 : y_ev x (0, [(2, 1)]) = x 2 := l_e1 _ _
    have O5 : y_ev x (0, [(3, 1)]) = x 3 := l_e1 _ _
    have O6 : y_ev x (0, [(4, 1)]) = x 4 := l_e1 _ _
    have O7 : y_ev x (0, [(5, 1)]) = x 5 := l_e1 _ _
    have O8 : y_ev x (0, [(9, 1)]) = x 9 := l_e1 _ _
    show (True) ∧ (q_run2 (t_b v) (y_ev x (0, [(0, 1)])) (y_ev x (0, [(1, 1)])) (y_ev x (6, [])) (y_ev x (0, [])) (y_ev x (0, [])) (y_ev x (0, [(2, 1)])) (y_ev x (0, [(3, 1)])) (y_ev x (0, [(4, 1)])) (y_ev x (0, [(5, 1)])) (y_ev x (0, [(9, 1)])) ∧ True)
    (try rw [O0]); (try rw [O1]); (try rw [O2]); (try rw [O3]); (try rw [O4]); (try rw [O5]); (try rw [O6]); (try rw [O7]); (try rw [O8])
    exact K
def lm_306 : zLem := (([((-2147483648), 2147483647), ((-2147483648), 2147483647), ((-2147483648), 2147483647), ((-2147483648), 2147483647), ((-2147483648), 2147483647), ((-2147483648), 2147483647), ((-2147483648), 2147483647), ((-9223372036854775808), 9223372036854775807), ((-2147483648), 2147483647)], [(12, false)], [(400, [(1, (-1))]), (0, [(4, 1)]), (0, [(4, (-1))])], [], [], [(0, (false, 11, 0, []), 0, 0, 0, [(1, 1)])], [(40, [(0, [(0, 1)]), ((-1), [(1, 1)]), (5, []), (0, []), (0, []), (0, [(2, 1)]), (0, [(3, 1)]), (0, [(4, 1)]), (0, [(5, 1)]), (0, [(8, 1)])]), (36, [(0, [(0, 1)]), ((-1), [(1, 1)]), (2, []), (0, [(6, 1)]), (0, [(7, 1)])]), (44, [(0, [(0, 1)]), ((-1), [(1, 1)]), ((-1), [])])]), [([((-2147483648), 2147483647), ((-2147483648), 2147483647), ((-2147483648), 2147483647), ((-2147483648), 2147483647), ((-2147483648), 2147483647), ((-2147483648), 2147483647), ((-2147483648), 2147483647), ((-9223372036854775808), 9223372036854775807), ((-2147483648), 2147483647)], [(12, false)], [], [], [], [], [(40, [(0, [(0, 1)]), (0, [(1, 1)]), (6, []), (0, []), (0, []), (0, [(2, 1)]), (0, [(3, 1)]), (4, []), (0, [(6, 1)]), (0, [(8, 1)])])])])
theorem lk_306 : l_core lm_306 := by
  first
  | skip
    intro v x h
    have K := k_n5_un (V := v) (n := x 0) (d := x 1) (H := x 2) (L := x 3) (W := x 4) (WP := x 5) (s := x 6) (v := x 7) (S := x 8) (l_c9 (fun w0 w1 w2 w3 w4 w5 w6 w7 w8 : Int => q_run2 (t_b v) w0 w1 w2 w3 w3 w4 w5 w6 w7 w8) (l_e1 x 0) (l_q2 1 x 1) (l_e0 x (5)) (l_e0 x (0)) (l_e1 x 2) (l_e1 x 3) (l_e1 x 4) (l_e1 x 5) (l_e1 x 8) (h.2.2.2.1)) (l_c5 (fun w0 w1 w2 w3 w4 : Int => q_tok (t_b v) w0 w1 w2 w3 w4) (l_e1 x 0) (l_q2 1 x 1) (l_e0 x (2)) (l_e1 x 6) (l_e1 x 7) (h.2.2.2.2.1)) (l_c3 (fun w0 w1 w2 : Int => q_fnd (t_b v) w0 w1 w2) (l_e1 x 0) (l_q2 1 x 1) (l_e0 x (-1)) (h.2.2.2.2.2.1)) (l_cc (l_q1 400 x 1) (h.2.1.1)) (l_cc (l_e1 x 4) (h.2.1.2.1)) (l_cc (l_q7 x 4) (h.2.1.2.2.1))
    refine l_outH rfl (And.intro h.1 ?_)
    exact l_o9 (fun w0 w1 w2 w3 w4 w5 w6 w7 w8 : Int => (True) ∧ (q_run2 (t_b v) w0 w1 w2 w3 w3 w4 w5 w6 w7 w8 ∧ True)) (l_e1 x 0) (l_e1 x 1) (l_e0 x (6)) (l_e0 x (0)) (l_e1 x 2) (l_e1 x 3) (l_e0 x (4)) (l_e1 x 6) (l_e1 x 8) K
  | skip
    intro v x h
    have C0 : (0 : Int) ≤ 400 - x 1 := l_cc (a := y_ev x (400, [(1, (-1))])) (by show ((400) : Int) + ((-1) * x 1 + 0) = 400 - x 1; omega) (h.2.1.1)
    have C1 : (0 : Int) ≤ x 4 := l_cc (a := y_ev x (0, [(4, 1)])) (l_e1 _ _) (h.2.1.2.1)
    have C2 : (0 : Int) ≤ -x 4 := l_cc (a := y_ev x (0, [(4, (-1))])) (by show ((0) : Int) + ((-1) * x 4 + 0) = -x 4; omega) (h.2.1.2.2.1)
    have E0 : y_ev x (0, [(0, 1)]) = x 0 := (l_e1 _ _)
    have E1 : y_ev x ((-1), [(1, 1)]) = x 1 - 1 := (by show ((-1) : Int) + ((1) * x 1 + 0) = x 1 - 1; omega)
    have E2 : y_ev x (5, []) = 5 := (l_e0 _ _)
    have E3 : y_ev x (0, []) = 0 := (l_e0 _ _)
    have E4 : y_ev x (0, [(2, 1)]) = x 2 := (l_e1 _ _)
    have E5 : y_ev x (0, [(3, 1)]) = x 3 := (l_e1 _ _)
    have E6 : y_ev x (0, [(4, 1)]) = x 4 := (l_e1 _ _)
    have E7 : y_ev x (0, [(5, 1)]) = x 5 := (l_e1 _ _)
    have E8 : y_ev x (0, [(8, 1)]) = x 8 := (l_e1 _ _)
    have E9 : y_ev x (2, []) = 2 := (l_e0 _ _)
    have E10 : y_ev x (0, [(6, 1)]) = x 6 := (l_e1 _ _)
    have E11 : y_ev x (0, [(7, 1)]) = x 7 := (l_e1 _ _)
    have E12 : y_ev x ((-1), []) = (-1) := (l_e0 _ _)
    have T0 : q_run2 (t_b v) (y_ev x (0, [(0, 1)])) (y_ev x ((-1), [(1, 1)])) (y_ev x (5, [])) (y_ev x (0, [])) (y_ev x (0, [])) (y_ev x (0, [(2, 1)])) (y_ev x (0, [(3, 1)])) (y_ev x (0, [(4, 1)])) (y_ev x (0, [(5, 1)])) (y_ev x (0, [(8, 1)])) := h.2.2.2.1
    (try rw [E0] at T0); (try rw [E1] at T0); (try rw [E2] at T0); (try rw [E3] at T0); (try rw [E4] at T0); (try rw [E5] at T0); (try rw [E6] at T0); (try rw [E7] at T0); (try rw [E8] at T0)
    have T1 : q_tok (t_b v) (y_ev x (0, [(0, 1)])) (y_ev x ((-1), [(1, 1)])) (y_ev x (2, [])) (y_ev x (0, [(6, 1)])) (y_ev x (0, [(7, 1)])) := h.2.2.2.2.1
    (try rw [E0] at T1); (try rw [E1] at T1); (try rw [E9] at T1); (try rw [E10] at T1); (try rw [E11] at T1)
    have T2 : q_fnd (t_b v) (y_ev x (0, [(0, 1)])) (y_ev x ((-1), [(1, 1)])) (y_ev x ((-1), [])) := h.2.2.2.2.2.1
    (try rw [E0] at T2); (try rw [E1] at T2); (try rw [E12] at T2)
    have K := k_n5_un (V := v) (n := x 0) (d := x 1) (H := x 2) (L := x 3) (W := x 4) (WP := x 5) (s := x 6) (v := x 7) (S := x 8) T0 T1 T2 C0 C1 C2
    refine l_outH rfl (And.intro h.1 ?_)
    have O0 : y_ev x (0, [(0, 1)]) = x 0 := l_e1 _ _
    have O1 : y_ev x (0, [(1, 1)]) = x 1 := l_e1 _ _
    have O2 : y_ev x (6, []) = 6 := l_e0 _ _
    have O3 : y_ev x (0, []) = 0 := l_e0 _ _
    have O4 : y_ev x (0, [(2, 1)]) = x 2 := l_e1 _ _
    have O5 : y_ev x (0, [(3, 1)]) = x 3 := l_e1 _ _
    have O6 : y_ev x (4, []) = 4 := l_e0 _ _
    have O7 : y_ev x (0, [(6, 1)]) = x 6 := l_e1 _ _
    have O8 : y_ev x (0, [(8, 1)]) = x 8 := l_e1 _ _
    show (True) ∧ (q_run2 (t_b v) (y_ev x (0, [(0, 1)])) (y_ev x (0, [(1, 1)])) (y_ev x (6, [])) (y_ev x (0, [])) (y_ev x (0, [])) (y_ev x (0, [(2, 1)])) (y_ev x (0, [(3, 1)])) (y_ev x (4, [])) (y_ev x (0, [(6, 1)])) (y_ev x (0, [(8, 1)])) ∧ True)
    (try rw [O0]); (try rw [O1]); (try rw [O2]); (try rw [O3]); (try rw [O4]); (try rw [O5]); (try rw [O6]); (try rw [O7]); (try rw [O8])
    exact K
def lm_307p : zS := ((lm_118pi_0 (lm_118pi_1 [])), [(12, false)], [(400, [(1, (-1))]), ((-1), [(4, 1)])], [], [], [(0, (false, 11, 0, []), 0, 0, 0, [(1, 1)])], [(40, [(0, [(0, 1)]), ((-1), [(1, 1)]), (6, []), (0, []), (0, []), (0, [(2, 1)]), (0, [(3, 1)]), (0, [(4, 1)]), (0, [(5, 1)]), (0, [(9, 1)])]), (36, [(0, [(0, 1)]), ((-1), [(1, 1)]), (2, []), (0, [(6, 1)]), (0, [(7, 1)])]), (44, [(0, [(0, 1)]), ((-1), [(1, 1)]), (0, [(8, 1)])])])
def lm_307 : zLem := (lm_307p, [([((-2147483648), 2147483647), ((-2147483648), 2147483647), ((-2147483648), 2147483647), ((-2147483648), 2147483647), ((-2147483648), 2147483647), ((-2147483648), 2147483647), ((-2147483648), 2147483647), ((-9223372036854775808), 9223372036854775807), ((-2147483648), 2147483647), ((-2147483648), 2147483647)], [(12, false)], [], [], [], [], [(40, [(0, [(0, 1)]), (0, [(1, 1)]), (7, []), (0, []), (0, []), (0, [(2, 1)]), (0, [(3, 1)]), (0, [(4, 1)]), (0, [(5, 1)]), (0, [(9, 1)])])])])
theorem lk_307 : l_core lm_307 := by
  first
  | skip
    intro v x h
    have K := k_n6_w (V := v) (n := x 0) (d := x 1) (H := x 2) (L := x 3) (W := x 4) (WP := x 5) (s := x 6) (v := x 7) (r := x 8) (S := x 9) (l_c9 (fun w0 w1 w2 w3 w4 w5 w6 w7 w8 : Int => q_run2 (t_b v) w0 w1 w2 w3 w3 w4 w5 w6 w7 w8) (l_e1 x 0) (l_q2 1 x 1) (l_e0 x (6)) (l_e0 x (0)) (l_e1 x 2) (l_e1 x 3) (l_e1 x 4) (l_e1 x 5) (l_e1 x 9) (h.2.2.2.1)) (l_c5 (fun w0 w1 w2 w3 w4 : Int => q_tok (t_b v) w0 w1 w2 w3 w4) (l_e1 x 0) (l_q2 1 x 1) (l_e0 x (2)) (l_e1 x 6) (l_e1 x 7) (h.2.2.2.2.1)) (l_c3 (fun w0 w1 w2 : Int => q_fnd (t_b v) w0 w1 w2) (l_e1 x 0) (l_q2 1 x 1) (l_e1 x 8) (h.2.2.2.2.2.1)) (l_cc (l_q1 400 x 1) (h.2.1.1)) (l_cc (l_q2 1 x 4) (h.2.1.2.1))
    refine l_outH rfl (And.intro h.1 ?_)
    exact l_o9 (fun w0 w1 w2 w3 w4 w5 w6 w7 w8 : Int => (True) ∧ (q_run2 (t_b v) w0 w1 w2 w3 w3 w4 w5 w6 w7 w8 ∧ True)) (l_e1 x 0) (l_e1 x 1) (l_e0 x (7)) (l_e0 x (0)) (l_e1 x 2) (l_e1 x 3) (l_e1 x 4) (l_e1 x 5) (l_e1 x 9) K
  | skip
    intro v x h
    have C0 : (0 : Int) ≤ 400 - x 1 := l_cc (a := y_ev x (400, [(1, (-1))])) (by show ((400) : Int) + ((-1) * x 1 + 0) = 400 - x 1; omega) (h.2.1.1)
    have C1 : (0 : Int) ≤ x 4 - 1 := l_cc (a := y_ev x ((-1), [(4, 1)])) (by show ((-1) : Int) + ((1) * x 4 + 0) = x 4 - 1; omega) (h.2.1.2.1)
    have E0 : y_ev x (0, [(0, 1)]) = x 0 := (l_e1 _ _)
    have E1 : y_ev x ((-1), [(1, 1)]) = x 1 - 1 := (by show ((-1) : Int) + ((1) * x 1 + 0) = x 1 - 1; omega)
    have E2 : y_ev x (6, []) = 6 := (l_e0 _ _)
    have E3 : y_ev x (0, []) = 0 := (l_e0 _ _)
    have E4 : y_ev x (0, [(2, 1)]) = x 2 := (l_e1 _ _)
    have E5 : y_ev x (0, [(3, 1)]) = x 3 := (l_e1 _ _)
    have E6 : y_ev x (0, [(4, 1)]) = x 4 := (l_e1 _ _)
    have E7 : y_ev x (0, [(5, 1)]) = x 5 := (l_e1 _ _)
    have E8 : y_ev x (0, [(9, 1)]) = x 9 := (l_e1 _ _)
    have E9 : y_ev x (2, []) = 2 := (l_e0 _ _)
    have E10 : y_ev x (0, [(6, 1)]) = x 6 := (l_e1 _ _)
    have E11 : y_ev x (0, [(7, 1)]) = x 7 := (l_e1 _ _)
    have E12 : y_ev x (0, [(8, 1)]) = x 8 := (l_e1 _ _)
    have T0 : q_run2 (t_b v) (y_ev x (0, [(0, 1)])) (y_ev x ((-1), [(1, 1)])) (y_ev x (6, [])) (y_ev x (0, [])) (y_ev x (0, [])) (y_ev x (0, [(2, 1)])) (y_ev x (0, [(3, 1)])) (y_ev x (0, [(4, 1)])) (y_ev x (0, [(5, 1)])) (y_ev x (0, [(9, 1)])) := h.2.2.2.1
    (try rw [E0] at T0); (try rw [E1] at T0); (try rw [E2] at T0); (try rw [E3] at T0); (try rw [E4] at T0); (try rw [E5] at T0); (try rw [E6] at T0); (try rw [E7] at T0); (try rw [E8] at T0)
    have T1 : q_tok (t_b v) (y_ev x (0, [(0, 1)])) (y_ev x ((-1), [(1, 1)])) (y_ev x (2, [])) (y_ev x (0, [(6, 1)])) (y_ev x (0, [(7, 1)])) := h.2.2.2.2.1
    (try rw [E0] at T1); (try rw [E1] at T1); (try rw [E9] at T1); (try rw [E10] at T1); (try rw [E11] at T1)
    have T2 : q_fnd (t_b v) (y_ev x (0, [(0, 1)])) (y_ev x ((-1), [(1, 1)])) (y_ev x (0, [(8, 1)])) := h.2.2.2.2.2.1
    (try rw [E0] at T2); (try rw [E1] at T2); (try rw [E12] at T2)
    have K := k_n6_w (V := v) (n := x 0) (d := x 1) (H := x 2) (L := x 3) (W := x 4) (WP := x 5) (s := x 6) (v := x 7) (r := x 8) (S := x 9) T0 T1 T2 C0 C1
    refine l_outH rfl (And.intro h.1 ?_)
    have O0 : y_ev x (0, [(0, 1)]) = x 0 := l_e1 _ _
    have O1 : y_ev x (0, [(1, 1)]) = x 1 := l_e1 _ _
    have O2 : y_ev x (7, []) = 7 := l_e0 _ _
    have O3 : y_ev x (0, []) = 0 := l_e0 _ _
    have O4 : y_ev x (0, [(2, 1)]) = x 2 := l_e1 _ _
    have O5 : y_ev x (0, [(3, 1)]) = x 3 := l_e1 _ _
    have O6 : y_ev x (0, [(4, 1)]) = x 4 := l_e1 _ _
    have O7 : y_ev x (0, [(5, 1)]) = x 5 := l_e1 _ _
    have O8 : y_ev x (0, [(9, 1)]) = x 9 := l_e1 _ _
    show (True) ∧ (q_run2 (t_b v) (y_ev x (0, [(0, 1)])) (y_ev x (0, [(1, 1)])) (y_ev x (7, [])) (y_ev x (0, [])) (y_ev x (0, [])) (y_ev x (0, [(2, 1)])) (y_ev x (0, [(3, 1)])) (y_ev x (0, [(4, 1)])) (y_ev x (0, [(5, 1)])) (y_ev x (0, [(9, 1)])) ∧ True)
    (try rw [O0]); (try rw [O1]); (try rw [O2]); (try rw [O3]); (try rw [O4]); (try rw [O5]); (try rw [O6]); (try rw [O7]); (try rw [O8])
    exact K
def lm_308 : zLem := (([((-2147483648), 2147483647), ((-2147483648), 2147483647), ((-2147483648), 2147483647), ((-2147483648), 2147483647), ((-2147483648), 2147483647), ((-2147483648), 2147483647), ((-2147483648), 2147483647), ((-9223372036854775808), 9223372036854775807), ((-2147483648), 2147483647)], [(12, false)], [(400, [(1, (-1))]), (0, [(4, 1)]), (0, [(4, (-1))])], [], [], [(0, (false, 11, 0, []), 0, 0, 0, [(1, 1)])], [(40, [(0, [(0, 1)]), ((-1), [(1, 1)]), (6, []), (0, []), (0, []), (0, [(2, 1)]), (0, [(3, 1)]), (0, [(4, 1)]), (0, [(5, 1)]), (0, [(8, 1)])]), (36, [(0, [(0, 1)]), ((-1), [(1, 1)]), (2, []), (0, [(6, 1)]), (0, [(7, 1)])]), (44, [(0, [(0, 1)]), ((-1), [(1, 1)]), ((-1), [])])]), [([((-2147483648), 2147483647), ((-2147483648), 2147483647), ((-2147483648), 2147483647), ((-2147483648), 2147483647), ((-2147483648), 2147483647), ((-2147483648), 2147483647), ((-2147483648), 2147483647), ((-9223372036854775808), 9223372036854775807), ((-2147483648), 2147483647)], [(12, false)], [], [], [], [], [(40, [(0, [(0, 1)]), (0, [(1, 1)]), (7, []), (0, []), (0, []), (0, [(2, 1)]), (0, [(3, 1)]), (4, []), (0, [(6, 1)]), (0, [(8, 1)])])])])
theorem lk_308 : l_core lm_308 := by
  first
  | skip
    intro v x h
    have K := k_n6_un (V := v) (n := x 0) (d := x 1) (H := x 2) (L := x 3) (W := x 4) (WP := x 5) (s := x 6) (v := x 7) (S := x 8) (l_c9 (fun w0 w1 w2 w3 w4 w5 w6 w7 w8 : Int => q_run2 (t_b v) w0 w1 w2 w3 w3 w4 w5 w6 w7 w8) (l_e1 x 0) (l_q2 1 x 1) (l_e0 x (6)) (l_e0 x (0)) (l_e1 x 2) (l_e1 x 3) (l_e1 x 4) (l_e1 x 5) (l_e1 x 8) (h.2.2.2.1)) (l_c5 (fun w0 w1 w2 w3 w4 : Int => q_tok (t_b v) w0 w1 w2 w3 w4) (l_e1 x 0) (l_q2 1 x 1) (l_e0 x (2)) (l_e1 x 6) (l_e1 x 7) (h.2.2.2.2.1)) (l_c3 (fun w0 w1 w2 : Int => q_fnd (t_b v) w0 w1 w2) (l_e1 x 0) (l_q2 1 x 1) (l_e0 x (-1)) (h.2.2.2.2.2.1)) (l_cc (l_q1 400 x 1) (h.2.1.1)) (l_cc (l_e1 x 4) (h.2.1.2.1)) (l_cc (l_q7 x 4) (h.2.1.2.2.1))
    refine l_outH rfl (And.intro h.1 ?_)
    exact l_o9 (fun w0 w1 w2 w3 w4 w5 w6 w7 w8 : Int => (True) ∧ (q_run2 (t_b v) w0 w1 w2 w3 w3 w4 w5 w6 w7 w8 ∧ True)) (l_e1 x 0) (l_e1 x 1) (l_e0 x (7)) (l_e0 x (0)) (l_e1 x 2) (l_e1 x 3) (l_e0 x (4)) (l_e1 x 6) (l_e1 x 8) K
  | skip
    intro v x h
    have C0 : (0 : Int) ≤ 400 - x 1 := l_cc (a := y_ev x (400, [(1, (-1))])) (by show ((400) : Int) + ((-1) * x 1 + 0) = 400 - x 1; omega) (h.2.1.1)
    have C1 : (0 : Int) ≤ x 4 := l_cc (a := y_ev x (0, [(4, 1)])) (l_e1 _ _) (h.2.1.2.1)
    have C2 : (0 : Int) ≤ -x 4 := l_cc (a := y_ev x (0, [(4, (-1))])) (by show ((0) : Int) + ((-1) * x 4 + 0) = -x 4; omega) (h.2.1.2.2.1)
    have E0 : y_ev x (0, [(0, 1)]) = x 0 := (l_e1 _ _)
    have E1 : y_ev x ((-1), [(1, 1)]) = x 1 - 1 := (by show ((-1) : Int) + ((1) * x 1 + 0) = x 1 - 1; omega)
    have E2 : y_ev x (6, []) = 6 := (l_e0 _ _)
    have E3 : y_ev x (0, []) = 0 := (l_e0 _ _)
    have E4 : y_ev x (0, [(2, 1)]) = x 2 := (l_e1 _ _)
    have E5 : y_ev x (0, [(3, 1)]) = x 3 := (l_e1 _ _)
    have E6 : y_ev x (0, [(4, 1)]) = x 4 := (l_e1 _ _)
    have E7 : y_ev x (0, [(5, 1)]) = x 5 := (l_e1 _ _)
    have E8 : y_ev x (0, [(8, 1)]) = x 8 := (l_e1 _ _)
    have E9 : y_ev x (2, []) = 2 := (l_e0 _ _)
    have E10 : y_ev x (0, [(6, 1)]) = x 6 := (l_e1 _ _)
    have E11 : y_ev x (0, [(7, 1)]) = x 7 := (l_e1 _ _)
    have E12 : y_ev x ((-1), []) = (-1) := (l_e0 _ _)
    have T0 : q_run2 (t_b v) (y_ev x (0, [(0, 1)])) (y_ev x ((-1), [(1, 1)])) (y_ev x (6, [])) (y_ev x (0, [])) (y_ev x (0, [])) (y_ev x (0, [(2, 1)])) (y_ev x (0, [(3, 1)])) (y_ev x (0, [(4, 1)])) (y_ev x (0, [(5, 1)])) (y_ev x (0, [(8, 1)])) := h.2.2.2.1
    (try rw [E0] at T0); (try rw [E1] at T0); (try rw [E2] at T0); (try rw [E3] at T0); (try rw [E4] at T0); (try rw [E5] at T0); (try rw [E6] at T0); (try rw [E7] at T0); (try rw [E8] at T0)
    have T1 : q_tok (t_b v) (y_ev x (0, [(0, 1)])) (y_ev x ((-1), [(1, 1)])) (y_ev x (2, [])) (y_ev x (0, [(6, 1)])) (y_ev x (0, [(7, 1)])) := h.2.2.2.2.1
    (try rw [E0] at T1); (try rw [E1] at T1); (try rw [E9] at T1); (try rw [E10] at T1); (try rw [E11] at T1)
    have T2 : q_fnd (t_b v) (y_ev x (0, [(0, 1)])) (y_ev x ((-1), [(1, 1)])) (y_ev x ((-1), [])) := h.2.2.2.2.2.1
    (try rw [E0] at T2); (try rw [E1] at T2); (try rw [E12] at T2)
    have K := k_n6_un (V := v) (n := x 0) (d := x 1) (H := x 2) (L := x 3) (W := x 4) (WP := x 5) (s := x 6) (v := x 7) (S := x 8) T0 T1 T2 C0 C1 C2
    refine l_outH rfl (And.intro h.1 ?_)
    have O0 : y_ev x (0, [(0, 1)]) = x 0 := l_e1 _ _
    have O1 : y_ev x (0, [(1, 1)]) = x 1 := l_e1 _ _
    have O2 : y_ev x (7, []) = 7 := l_e0 _ _
    have O3 : y_ev x (0, []) = 0 := l_e0 _ _
    have O4 : y_ev x (0, [(2, 1)]) = x 2 := l_e1 _ _
    have O5 : y_ev x (0, [(3, 1)]) = x 3 := l_e1 _ _
    have O6 : y_ev x (4, []) = 4 := l_e0 _ _
    have O7 : y_ev x (0, [(6, 1)]) = x 6 := l_e1 _ _
    have O8 : y_ev x (0, [(8, 1)]) = x 8 := l_e1 _ _
    show (True) ∧ (q_run2 (t_b v) (y_ev x (0, [(0, 1)])) (y_ev x (0, [(1, 1)])) (y_ev x (7, [])) (y_ev x (0, [])) (y_ev x (0, [])) (y_ev x (0, [(2, 1)])) (y_ev x (0, [(3, 1)])) (y_ev x (4, [])) (y_ev x (0, [(6, 1)])) (y_ev x (0, [(8, 1)])) ∧ True)
    (try rw [O0]); (try rw [O1]); (try rw [O2]); (try rw [O3]); (try rw [O4]); (try rw [O5]); (try rw [O6]); (try rw [O7]); (try rw [O8])
    exact K
def lm_309p : zS := ((lm_124pi_0 (lm_124pi_1 [])), [(12, false)], [(400, [(1, (-1))]), (0, [(4, 1)]), (0, [(4, (-1))]), (0, [(8, 1)]), (0, [(8, 1), (9, (-1))]), (0, [(8, (-1)), (9, 1)])], [], [], [(0, (false, 11, 0, []), 0, 0, 0, [(1, 1)])], [(40, [(0, [(0, 1)]), ((-1), [(1, 1)]), (6, []), (0, []), (0, []), (0, [(2, 1)]), (0, [(3, 1)]), (0, [(4, 1)]), (0, [(5, 1)]), (0, [(10, 1)])]), (36, [(0, [(0, 1)]), ((-1), [(1, 1)]), (2, []), (0, [(6, 1)]), (0, [(7, 1)])]), (44, [(0, [(0, 1)]), ((-1), [(1, 1)]), (0, [(8, 1)])]), (44, [(0, [(0, 1)]), ((-2), [(1, 1)]), (0, [(9, 1)])])])
def lm_309 : zLem := (lm_309p, [([((-2147483648), 2147483647), ((-2147483648), 2147483647), ((-2147483648), 2147483647), ((-2147483648), 2147483647), ((-2147483648), 2147483647), ((-2147483648), 2147483647), ((-2147483648), 2147483647), ((-9223372036854775808), 9223372036854775807), ((-2147483648), 2147483647), ((-2147483648), 2147483647), ((-2147483648), 2147483647)], [(12, false)], [], [], [], [], [(40, [(0, [(0, 1)]), (0, [(1, 1)]), (7, []), (0, []), (0, []), (0, [(2, 1)]), (0, [(3, 1)]), (3, []), (0, [(6, 1)]), (0, [(10, 1)])])])])
theorem lk_309 : l_core lm_309 := by
  first
  | skip
    intro v x h
    have K := k_n6_tw (V := v) (n := x 0) (d := x 1) (H := x 2) (L := x 3) (W := x 4) (WP := x 5) (s := x 6) (v := x 7) (r := x 8) (q := x 9) (S := x 10) (l_c9 (fun w0 w1 w2 w3 w4 w5 w6 w7 w8 : Int => q_run2 (t_b v) w0 w1 w2 w3 w3 w4 w5 w6 w7 w8) (l_e1 x 0) (l_q2 1 x 1) (l_e0 x (6)) (l_e0 x (0)) (l_e1 x 2) (l_e1 x 3) (l_e1 x 4) (l_e1 x 5) (l_e1 x 10) (h.2.2.2.1)) (l_c5 (fun w0 w1 w2 w3 w4 : Int => q_tok (t_b v) w0 w1 w2 w3 w4) (l_e1 x 0) (l_q2 1 x 1) (l_e0 x (2)) (l_e1 x 6) (l_e1 x 7) (h.2.2.2.2.1)) (l_c3 (fun w0 w1 w2 : Int => q_fnd (t_b v) w0 w1 w2) (l_e1 x 0) (l_q2 1 x 1) (l_e1 x 8) (h.2.2.2.2.2.1)) (l_c3 (fun w0 w1 w2 : Int => q_fnd (t_b v) w0 w1 w2) (l_e1 x 0) (l_q2 2 x 1) (l_e1 x 9) (h.2.2.2.2.2.2.1)) (l_cc (l_q1 400 x 1) (h.2.1.1)) (l_cc (l_e1 x 4) (h.2.1.2.1)) (l_cc (l_q7 x 4) (h.2.1.2.2.1)) (l_cc (l_e1 x 8) (h.2.1.2.2.2.1)) (l_cc (l_q5 x 8 9) (h.2.1.2.2.2.2.1)) (l_cc (l_q4 x 8 9) (h.2.1.2.2.2.2.2.1))
    refine l_outH rfl (And.intro h.1 ?_)
    exact l_o9 (fun w0 w1 w2 w3 w4 w5 w6 w7 w8 : Int => (True) ∧ (q_run2 (t_b v) w0 w1 w2 w3 w3 w4 w5 w6 w7 w8 ∧ True)) (l_e1 x 0) (l_e1 x 1) (l_e0 x (7)) (l_e0 x (0)) (l_e1 x 2) (l_e1 x 3) (l_e0 x (3)) (l_e1 x 6) (l_e1 x 10) K
  | skip
    intro v x h
    have C0 : (0 : Int) ≤ 400 - x 1 := l_cc (a := y_ev x (400, [(1, (-1))])) (by show ((400) : Int) + ((-1) * x 1 + 0) = 400 - x 1; omega) (h.2.1.1)
    have C1 : (0 : Int) ≤ x 4 := l_cc (a := y_ev x (0, [(4, 1)])) (l_e1 _ _) (h.2.1.2.1)
    have C2 : (0 : Int) ≤ -x 4 := l_cc (a := y_ev x (0, [(4, (-1))])) (by show ((0) : Int) + ((-1) * x 4 + 0) = -x 4; omega) (h.2.1.2.2.1)
    have C3 : (0 : Int) ≤ x 8 := l_cc (a := y_ev x (0, [(8, 1)])) (l_e1 _ _) (h.2.1.2.2.2.1)
    have C4 : (0 : Int) ≤ x 8 - x 9 := l_cc (a := y_ev x (0, [(8, 1), (9, (-1))])) (by show ((0) : Int) + ((1) * x 8 + ((-1) * x 9 + 0)) = x 8 - x 9; omega) (h.2.1.2.2.2.2.1)
    have C5 : (0 : Int) ≤ x 9 - x 8 := l_cc (a := y_ev x (0, [(8, (-1)), (9, 1)])) (by show ((0) : Int) + ((-1) * x 8 + ((1) * x 9 + 0)) = x 9 - x 8; omega) (h.2.1.2.2.2.2.2.1)
    have E0 : y_ev x (0, [(0, 1)]) = x 0 := (l_e1 _ _)
    have E1 : y_ev x ((-1), [(1, 1)]) = x 1 - 1 := (by show ((-1) : Int) + ((1) * x 1 + 0) = x 1 - 1; omega)
    have E2 : y_ev x (6, []) = 6 := (l_e0 _ _)
    have E3 : y_ev x (0, []) = 0 := (l_e0 _ _)
    have E4 : y_ev x (0, [(2, 1)]) = x 2 := (l_e1 _ _)
    have E5 : y_ev x (0, [(3, 1)]) = x 3 := (l_e1 _ _)
    have E6 : y_ev x (0, [(4, 1)]) = x 4 := (l_e1 _ _)
    have E7 : y_ev x (0, [(5, 1)]) = x 5 := (l_e1 _ _)
    have E8 : y_ev x (0, [(10, 1)]) = x 10 := (l_e1 _ _)
    have E9 : y_ev x (2, []) = 2 := (l_e0 _ _)
    have E10 : y_ev x (0, [(6, 1)]) = x 6 := (l_e1 _ _)
    have E11 : y_ev x (0, [(7, 1)]) = x 7 := (l_e1 _ _)
    have E12 : y_ev x (0, [(8, 1)]) = x 8 := (l_e1 _ _)
    have E13 : y_ev x ((-2), [(1, 1)]) = x 1 - 2 := (by show ((-2) : Int) + ((1) * x 1 + 0) = x 1 - 2; omega)
    have E14 : y_ev x (0, [(9, 1)]) = x 9 := (l_e1 _ _)
    have T0 : q_run2 (t_b v) (y_ev x (0, [(0, 1)])) (y_ev x ((-1), [(1, 1)])) (y_ev x (6, [])) (y_ev x (0, [])) (y_ev x (0, [])) (y_ev x (0, [(2, 1)])) (y_ev x (0, [(3, 1)])) (y_ev x (0, [(4, 1)])) (y_ev x (0, [(5, 1)])) (y_ev x (0, [(10, 1)])) := h.2.2.2.1
    (try rw [E0] at T0); (try rw [E1] at T0); (try rw [E2] at T0); (try rw [E3] at T0); (try rw [E4] at T0); (try rw [E5] at T0); (try rw [E6] at T0); (try rw [E7] at T0); (try rw [E8] at T0)
    have T1 : q_tok (t_b v) (y_ev x (0, [(0, 1)])) (y_ev x ((-1), [(1, 1)])) (y_ev x (2, [])) (y_ev x (0, [(6, 1)])) (y_ev x (0, [(7, 1)])) := h.2.2.2.2.1
    (try rw [E0] at T1); (try rw [E1] at T1); (try rw [E9] at T1); (try rw [E10] at T1); (try rw [E11] at T1)
    have T2 : q_fnd (t_b v) (y_ev x (0, [(0, 1)])) (y_ev x ((-1), [(1, 1)])) (y_ev x (0, [(8, 1)])) := h.2.2.2.2.2.1
    (try rw [E0] at T2); (try rw [E1] at T2); (try rw [E12] at T2)
    have T3 : q_fnd (t_b v) (y_ev x (0, [(0, 1)])) (y_ev x ((-2), [(1, 1)])) (y_ev x (0, [(9, 1)])) := h.2.2.2.2.2.2.1
    (try rw [E0] at T3); (try rw [E13] at T3); (try rw [E14] at T3)
    have K := k_n6_tw (V := v) (n := x 0) (d := x 1) (H := x 2) (L := x 3) (W := x 4) (WP := x 5) (s := x 6) (v := x 7) (r := x 8) (q := x 9) (S := x 10) T0 T1 T2 T3 C0 C1 C2 C3 C4 C5
    refine l_outH rfl (And.intro h.1 ?_)
    have O0 : y_ev x (0, [(0, 1)]) = x 0 := l_e1 _ _
    have O1 : y_ev x (0, [(1, 1)]) = x 1 := l_e1 _ _
    have O2 : y_ev x (7, []) = 7 := l_e0 _ _
    have O3 : y_ev x (0, []) = 0 := l_e0 _ _
    have O4 : y_ev x (0, [(2, 1)]) = x 2 := l_e1 _ _
    have O5 : y_ev x (0, [(3, 1)]) = x 3 := l_e1 _ _
    have O6 : y_ev x (3, []) = 3 := l_e0 _ _
    have O7 : y_ev x (0, [(6, 1)]) = x 6 := l_e1 _ _
    have O8 : y_ev x (0, [(10, 1)]) = x 10 := l_e1 _ _
    show (True) ∧ (q_run2 (t_b v) (y_ev x (0, [(0, 1)])) (y_ev x (0, [(1, 1)])) (y_ev x (7, [])) (y_ev x (0, [])) (y_ev x (0, [])) (y_ev x (0, [(2, 1)])) (y_ev x (0, [(3, 1)])) (y_ev x (3, [])) (y_ev x (0, [(6, 1)])) (y_ev x (0, [(10, 1)])) ∧ True)
    (try rw [O0]); (try rw [O1]); (try rw [O2]); (try rw [O3]); (try rw [O4]); (try rw [O5]); (try rw [O6]); (try rw [O7]); (try rw [O8])
    exact K
def lm_310p : zS := ((lm_124pi_0 (lm_124pi_1 [])), [(12, false)], [(400, [(1, (-1))]), (0, [(8, 1)]), ((-1), [(8, 1), (9, (-1))])], [], [], [(0, (false, 11, 0, []), 0, 0, 0, [(1, 1)])], [(40, [(0, [(0, 1)]), ((-1), [(1, 1)]), (6, []), (0, []), (0, []), (0, [(2, 1)]), (0, [(3, 1)]), (0, [(4, 1)]), (0, [(5, 1)]), (0, [(10, 1)])]), (36, [(0, [(0, 1)]), ((-1), [(1, 1)]), (2, []), (0, [(6, 1)]), (0, [(7, 1)])]), (44, [(0, [(0, 1)]), ((-1), [(1, 1)]), (0, [(8, 1)])]), (44, [(0, [(0, 1)]), ((-2), [(1, 1)]), (0, [(9, 1)])])])
def lm_310 : zLem := (lm_310p, [([((-2147483648), 2147483647), ((-2147483648), 2147483647), ((-2147483648), 2147483647), ((-2147483648), 2147483647), ((-2147483648), 2147483647), ((-2147483648), 2147483647), ((-2147483648), 2147483647), ((-9223372036854775808), 9223372036854775807), ((-2147483648), 2147483647), ((-2147483648), 2147483647), ((-2147483648), 2147483647)], [(12, false)], [], [], [], [], [(40, [(0, [(0, 1)]), (0, [(1, 1)]), (7, []), (0, []), (0, []), (0, [(2, 1)]), (0, [(3, 1)]), (0, [(4, 1)]), (0, [(5, 1)]), (0, [(10, 1)])])])])
theorem lk_310 : l_core lm_310 := by
  first
  | skip
    intro v x h
    have K := k_n6_ya (V := v) (n := x 0) (d := x 1) (H := x 2) (L := x 3) (W := x 4) (WP := x 5) (s := x 6) (v := x 7) (r := x 8) (q := x 9) (S := x 10) (l_c9 (fun w0 w1 w2 w3 w4 w5 w6 w7 w8 : Int => q_run2 (t_b v) w0 w1 w2 w3 w3 w4 w5 w6 w7 w8) (l_e1 x 0) (l_q2 1 x 1) (l_e0 x (6)) (l_e0 x (0)) (l_e1 x 2) (l_e1 x 3) (l_e1 x 4) (l_e1 x 5) (l_e1 x 10) (h.2.2.2.1)) (l_c5 (fun w0 w1 w2 w3 w4 : Int => q_tok (t_b v) w0 w1 w2 w3 w4) (l_e1 x 0) (l_q2 1 x 1) (l_e0 x (2)) (l_e1 x 6) (l_e1 x 7) (h.2.2.2.2.1)) (l_c3 (fun w0 w1 w2 : Int => q_fnd (t_b v) w0 w1 w2) (l_e1 x 0) (l_q2 1 x 1) (l_e1 x 8) (h.2.2.2.2.2.1)) (l_c3 (fun w0 w1 w2 : Int => q_fnd (t_b v) w0 w1 w2) (l_e1 x 0) (l_q2 2 x 1) (l_e1 x 9) (h.2.2.2.2.2.2.1)) (l_cc (l_q1 400 x 1) (h.2.1.1)) (l_cc (l_e1 x 8) (h.2.1.2.1)) (l_cc (l_q8 1 x 8 9) (h.2.1.2.2.1))
    refine l_outH rfl (And.intro h.1 ?_)
    exact l_o9 (fun w0 w1 w2 w3 w4 w5 w6 w7 w8 : Int => (True) ∧ (q_run2 (t_b v) w0 w1 w2 w3 w3 w4 w5 w6 w7 w8 ∧ True)) (l_e1 x 0) (l_e1 x 1) (l_e0 x (7)) (l_e0 x (0)) (l_e1 x 2) (l_e1 x 3) (l_e1 x 4) (l_e1 x 5) (l_e1 x 10) K
  | skip
    intro v x h
    have C0 : (0 : Int) ≤ 400 - x 1 := l_cc (a := y_ev x (400, [(1, (-1))])) (by show ((400) : Int) + ((-1) * x 1 + 0) = 400 - x 1; omega) (h.2.1.1)
    have C1 : (0 : Int) ≤ x 8 := l_cc (a := y_ev x (0, [(8, 1)])) (l_e1 _ _) (h.2.1.2.1)
    have C2 : (0 : Int) ≤ x 8 - x 9 - 1 := l_cc (a := y_ev x ((-1), [(8, 1), (9, (-1))])) (by show ((-1) : Int) + ((1) * x 8 + ((-1) * x 9 + 0)) = x 8 - x 9 - 1; omega) (h.2.1.2.2.1)
    have E0 : y_ev x (0, [(0, 1)]) = x 0 := (l_e1 _ _)
    have E1 : y_ev x ((-1), [(1, 1)]) = x 1 - 1 := (by show ((-1) : Int) + ((1) * x 1 + 0) = x 1 - 1; omega)
    have E2 : y_ev x (6, []) = 6 := (l_e0 _ _)
    have E3 : y_ev x (0, []) = 0 := (l_e0 _ _)
    have E4 : y_ev x (0, [(2, 1)]) = x 2 := (l_e1 _ _)
    have E5 : y_ev x (0, [(3, 1)]) = x 3 := (l_e1 _ _)
    have E6 : y_ev x (0, [(4, 1)]) = x 4 := (l_e1 _ _)
    have E7 : y_ev x (0, [(5, 1)]) = x 5 := (l_e1 _ _)
    have E8 : y_ev x (0, [(10, 1)]) = x 10 := (l_e1 _ _)
    have E9 : y_ev x (2, []) = 2 := (l_e0 _ _)
    have E10 : y_ev x (0, [(6, 1)]) = x 6 := (l_e1 _ _)
    have E11 : y_ev x (0, [(7, 1)]) = x 7 := (l_e1 _ _)
    have E12 : y_ev x (0, [(8, 1)]) = x 8 := (l_e1 _ _)
    have E13 : y_ev x ((-2), [(1, 1)]) = x 1 - 2 := (by show ((-2) : Int) + ((1) * x 1 + 0) = x 1 - 2; omega)
    have E14 : y_ev x (0, [(9, 1)]) = x 9 := (l_e1 _ _)
    have T0 : q_run2 (t_b v) (y_ev x (0, [(0, 1)])) (y_ev x ((-1), [(1, 1)])) (y_ev x (6, [])) (y_ev x (0, [])) (y_ev x (0, [])) (y_ev x (0, [(2, 1)])) (y_ev x (0, [(3, 1)])) (y_ev x (0, [(4, 1)])) (y_ev x (0, [(5, 1)])) (y_ev x (0, [(10, 1)])) := h.2.2.2.1
    (try rw [E0] at T0); (try rw [E1] at T0); (try rw [E2] at T0); (try rw [E3] at T0); (try rw [E4] at T0); (try rw [E5] at T0); (try rw [E6] at T0); (try rw [E7] at T0); (try rw [E8] at T0)
    have T1 : q_tok (t_b v) (y_ev x (0, [(0, 1)])) (y_ev x ((-1), [(1, 1)])) (y_ev x (2, [])) (y_ev x (0, [(6, 1)])) (y_ev x (0, [(7, 1)])) := h.2.2.2.2.1
    (try rw [E0] at T1); (try rw [E1] at T1); (try rw [E9] at T1); (try rw [E10] at T1); (try rw [E11] at T1)
    have T2 : q_fnd (t_b v) (y_ev x (0, [(0, 1)])) (y_ev x ((-1), [(1, 1)])) (y_ev x (0, [(8, 1)])) := h.2.2.2.2.2.1
    (try rw [E0] at T2); (try rw [E1] at T2); (try rw [E12] at T2)
    have T3 : q_fnd (t_b v) (y_ev x (0, [(0, 1)])) (y_ev x ((-2), [(1, 1)])) (y_ev x (0, [(9, 1)])) := h.2.2.2.2.2.2.1
    (try rw [E0] at T3); (try rw [E13] at T3); (try rw [E14] at T3)
    have K := k_n6_ya (V := v) (n := x 0) (d := x 1) (H := x 2) (L := x 3) (W := x 4) (WP := x 5) (s := x 6) (v := x 7) (r := x 8) (q := x 9) (S := x 10) T0 T1 T2 T3 C0 C1 C2
    refine l_outH rfl (And.intro h.1 ?_)
    have O0 : y_ev x (0, [(0, 1)]) = x 0 := l_e1 _ _
    have O1 : y_ev x (0, [(1, 1)]) = x 1 := l_e1 _ _
    have O2 : y_ev x (7, []) = 7 := l_e0 _ _
    have O3 : y_ev x (0, []) = 0 := l_e0 _ _
    have O4 : y_ev x (0, [(2, 1)]) = x 2 := l_e1 _ _
    have O5 : y_ev x (0, [(3, 1)]) = x 3 := l_e1 _ _
    have O6 : y_ev x (0, [(4, 1)]) = x 4 := l_e1 _ _
    have O7 : y_ev x (0, [(5, 1)]) = x 5 := l_e1 _ _
    have O8 : y_ev x (0, [(10, 1)]) = x 10 := l_e1 _ _
    show (True) ∧ (q_run2 (t_b v) (y_ev x (0, [(0, 1)])) (y_ev x (0, [(1, 1)])) (y_ev x (7, [])) (y_ev x (0, [])) (y_ev x (0, [])) (y_ev x (0, [(2, 1)])) (y_ev x (0, [(3, 1)])) (y_ev x (0, [(4, 1)])) (y_ev x (0, [(5, 1)])) (y_ev x (0, [(10, 1)])) ∧ True)
    (try rw [O0]); (try rw [O1]); (try rw [O2]); (try rw [O3]); (try rw [O4]); (try rw [O5]); (try rw [O6]); (try rw [O7]); (try rw [O8])
    exact K
def lm_311p : zS := ((lm_124pi_0 (lm_124pi_1 [])), [(12, false)], [(400, [(1, (-1))]), (0, [(8, 1)]), ((-1), [(8, (-1)), (9, 1)])], [], [], [(0, (false, 11, 0, []), 0, 0, 0, [(1, 1)])], [(40, [(0, [(0, 1)]), ((-1), [(1, 1)]), (6, []), (0, []), (0, []), (0, [(2, 1)]), (0, [(3, 1)]), (0, [(4, 1)]), (0, [(5, 1)]), (0, [(10, 1)])]), (36, [(0, [(0, 1)]), ((-1), [(1, 1)]), (2, []), (0, [(6, 1)]), (0, [(7, 1)])]), (44, [(0, [(0, 1)]), ((-1), [(1, 1)]), (0, [(8, 1)])]), (44, [(0, [(0, 1)]), ((-2), [(1, 1)]), (0, [(9, 1)])])])
def lm_311 : zLem := (lm_311p, [([((-2147483648), 2147483647), ((-2147483648), 2147483647), ((-2147483648), 2147483647), ((-2147483648), 2147483647), ((-2147483648), 2147483647), ((-2147483648), 2147483647), ((-2147483648), 2147483647), ((-9223372036854775808), 9223372036854775807), ((-2147483648), 2147483647), ((-2147483648), 2147483647), ((-2147483648), 2147483647)], [(12, false)], [], [], [], [], [(40, [(0, [(0, 1)]), (0, [(1, 1)]), (7, []), (0, []), (0, []), (0, [(2, 1)]), (0, [(3, 1)]), (0, [(4, 1)]), (0, [(5, 1)]), (0, [(10, 1)])])])])
theorem lk_311 : l_core lm_311 := by
  first
  | skip
    intro v x h
    have K := k_n6_yb (V := v) (n := x 0) (d := x 1) (H := x 2) (L := x 3) (W := x 4) (WP := x 5) (s := x 6) (v := x 7) (r := x 8) (q := x 9) (S := x 10) (l_c9 (fun w0 w1 w2 w3 w4 w5 w6 w7 w8 : Int => q_run2 (t_b v) w0 w1 w2 w3 w3 w4 w5 w6 w7 w8) (l_e1 x 0) (l_q2 1 x 1) (l_e0 x (6)) (l_e0 x (0)) (l_e1 x 2) (l_e1 x 3) (l_e1 x 4) (l_e1 x 5) (l_e1 x 10) (h.2.2.2.1)) (l_c5 (fun w0 w1 w2 w3 w4 : Int => q_tok (t_b v) w0 w1 w2 w3 w4) (l_e1 x 0) (l_q2 1 x 1) (l_e0 x (2)) (l_e1 x 6) (l_e1 x 7) (h.2.2.2.2.1)) (l_c3 (fun w0 w1 w2 : Int => q_fnd (t_b v) w0 w1 w2) (l_e1 x 0) (l_q2 1 x 1) (l_e1 x 8) (h.2.2.2.2.2.1)) (l_c3 (fun w0 w1 w2 : Int => q_fnd (t_b v) w0 w1 w2) (l_e1 x 0) (l_q2 2 x 1) (l_e1 x 9) (h.2.2.2.2.2.2.1)) (l_cc (l_q1 400 x 1) (h.2.1.1)) (l_cc (l_e1 x 8) (h.2.1.2.1)) (l_cc (l_q6 1 x 8 9) (h.2.1.2.2.1))
    refine l_outH rfl (And.intro h.1 ?_)
    exact l_o9 (fun w0 w1 w2 w3 w4 w5 w6 w7 w8 : Int => (True) ∧ (q_run2 (t_b v) w0 w1 w2 w3 w3 w4 w5 w6 w7 w8 ∧ True)) (l_e1 x 0) (l_e1 x 1) (l_e0 x (7)) (l_e0 x (0)) (l_e1 x 2) (l_e1 x 3) (l_e1 x 4) (l_e1 x 5) (l_e1 x 10) K
  | skip
    intro v x h
    have C0 : (0 : Int) ≤ 400 - x 1 := l_cc (a := y_ev x (400, [(1, (-1))])) (by show ((400) : Int) + ((-1) * x 1 + 0) = 400 - x 1; omega) (h.2.1.1)
    have C1 : (0 : Int) ≤ x 8 := l_cc (a := y_ev x (0, [(8, 1)])) (l_e1 _ _) (h.2.1.2.1)
    have C2 : (0 : Int) ≤ x 9 - x 8 - 1 := l_cc (a := y_ev x ((-1), [(8, (-1)), (9, 1)])) (by show ((-1) : Int) + ((-1) * x 8 + ((1) * x 9 + 0)) = x 9 - x 8 - 1; omega) (h.2.1.2.2.1)
    have E0 : y_ev x (0, [(0, 1)]) = x 0 := (l_e1 _ _)
    have E1 : y_ev x ((-1), [(1, 1)]) = x 1 - 1 := (by show ((-1) : Int) + ((1) * x 1 + 0) = x 1 - 1; omega)
    have E2 : y_ev x (6, []) = 6 := (l_e0 _ _)
    have E3 : y_ev x (0, []) = 0 := (l_e0 _ _)
    have E4 : y_ev x (0, [(2, 1)]) = x 2 := (l_e1 _ _)
    have E5 : y_ev x (0, [(3, 1)]) = x 3 := (l_e1 _ _)
    have E6 : y_ev x (0, [(4, 1)]) = x 4 := (l_e1 _ _)
    have E7 : y_ev x (0, [(5, 1)]) = x 5 := (l_e1 _ _)
    have E8 : y_ev x (0, [(10, 1)]) = x 10 := (l_e1 _ _)
    have E9 : y_ev x (2, []) = 2 := (l_e0 _ _)
    have E10 : y_ev x (0, [(6, 1)]) = x 6 := (l_e1 _ _)
    have E11 : y_ev x (0, [(7, 1)]) = x 7 := (l_e1 _ _)
    have E12 : y_ev x (0, [(8, 1)]) = x 8 := (l_e1 _ _)
    have E13 : y_ev x ((-2), [(1, 1)]) = x 1 - 2 := (by show ((-2) : Int) + ((1) * x 1 + 0) = x 1 - 2; omega)
    have E14 : y_ev x (0, [(9, 1)]) = x 9 := (l_e1 _ _)
    have T0 : q_run2 (t_b v) (y_ev x (0, [(0, 1)])) (y_ev x ((-1), [(1, 1)])) (y_ev x (6, [])) (y_ev x (0, [])) (y_ev x (0, [])) (y_ev x (0, [(2, 1)])) (y_ev x (0, [(3, 1)])) (y_ev x (0, [(4, 1)])) (y_ev x (0, [(5, 1)])) (y_ev x (0, [(10, 1)])) := h.2.2.2.1
    (try rw [E0] at T0); (try rw [E1] at T0); (try rw [E2] at T0); (try rw [E3] at T0); (try rw [E4] at T0); (try rw [E5] at T0); (try rw [E6] at T0); (try rw [E7] at T0); (try rw [E8] at T0)
    have T1 : q_tok (t_b v) (y_ev x (0, [(0, 1)])) (y_ev x ((-1), [(1, 1)])) (y_ev x (2, [])) (y_ev x (0, [(6, 1)])) (y_ev x (0, [(7, 1)])) := h.2.2.2.2.1
    (try rw [E0] at T1); (try rw [E1] at T1); (try rw [E9] at T1); (try rw [E10] at T1); (try rw [E11] at T1)
    have T2 : q_fnd (t_b v) (y_ev x (0, [(0, 1)])) (y_ev x ((-1), [(1, 1)])) (y_ev x (0, [(8, 1)])) := h.2.2.2.2.2.1
    (try rw [E0] at T2); (try rw [E1] at T2); (try rw [E12] at T2)
    have T3 : q_fnd (t_b v) (y_ev x (0, [(0, 1)])) (y_ev x ((-2), [(1, 1)])) (y_ev x (0, [(9, 1)])) := h.2.2.2.2.2.2.1
    (try rw [E0] at T3); (try rw [E13] at T3); (try rw [E14] at T3)
    have K := k_n6_yb (V := v) (n := x 0) (d := x 1) (H := x 2) (L := x 3) (W := x 4) (WP := x 5) (s := x 6) (v := x 7) (r := x 8) (q := x 9) (S := x 10) T0 T1 T2 T3 C0 C1 C2
    refine l_outH rfl (And.intro h.1 ?_)
    have O0 : y_ev x (0, [(0, 1)]) = x 0 := l_e1 _ _
    have O1 : y_ev x (0, [(1, 1)]) = x 1 := l_e1 _ _
    have O2 : y_ev x (7, []) = 7 := l_e0 _ _
    have O3 : y_ev x (0, []) = 0 := l_e0 _ _
    have O4 : y_ev x (0, [(2, 1)]) = x 2 := l_e1 _ _
    have O5 : y_ev x (0, [(3, 1)]) = x 3 := l_e1 _ _
    have O6 : y_ev x (0, [(4, 1)]) = x 4 := l_e1 _ _
    have O7 : y_ev x (0, [(5, 1)]) = x 5 := l_e1 _ _
    have O8 : y_ev x (0, [(10, 1)]) = x 10 := l_e1 _ _
    show (True) ∧ (q_run2 (t_b v) (y_ev x (0, [(0, 1)])) (y_ev x (0, [(1, 1)])) (y_ev x (7, [])) (y_ev x (0, [])) (y_ev x (0, [])) (y_ev x (0, [(2, 1)])) (y_ev x (0, [(3, 1)])) (y_ev x (0, [(4, 1)])) (y_ev x (0, [(5, 1)])) (y_ev x (0, [(10, 1)])) ∧ True)
    (try rw [O0]); (try rw [O1]); (try rw [O2]); (try rw [O3]); (try rw [O4]); (try rw [O5]); (try rw [O6]); (try rw [O7]); (try rw [O8])
    exact K
end
