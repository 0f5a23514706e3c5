noncomputable section
/-! ===== the lemmas as data, by program ===== -/
set_option maxRecDepth 100000
def lm_1273pg_0 (t : List zTg) : List zTg := (101, [(0, [(3, 1)]), (0, [(5, 1)]), (0, [(7, 1)])]) :: (341, [(0, [(6, 1)]), (0, [(5, 1)])]) :: (330, [(0, [(8, 1)]), (0, [(9, 1)]), (0, [(10, 1)]), (0, [(11, 1)]), (0, [(12, 1)]), (0, [(13, 1)]), (0, [(14, 1)]), (0, [(2, 1)]), (0, [(6, 1)])]) :: (337, [(0, [(8, 1)]), (0, [(9, 1)]), (0, [(10, 1)]), (0, [(11, 1)]), (0, [(12, 1)]), (0, [(13, 1)]), (0, [(14, 1)]), (0, [(1, 1)]), (0, [(2, 1)]), (0, [(4, 1)]), (0, [])]) :: (340, [(0, [(8, 1)]), (0, [(9, 1)]), (0, [(10, 1)]), (0, [(11, 1)]), (0, [(12, 1)]), (0, [(13, 1)]), (0, [(14, 1)]), (0, [(0, 1)]), (0, [(1, 1)]), (0, [(2, 1)]), (0, [(3, 1)])]) :: t
def lm_1273p : zS := ((lm_624pi_0 (lm_624pi_1 [])), [], [(0, [(0, (-1)), (4, 1)]), (0, [(0, 1)]), (0, [(3, 1)]), (63, [(3, (-1))]), (0, [(5, 1)]), (63, [(5, (-1))])], [], [(0, 0, 0, [(7, 1)])], [], (lm_1273pg_0 []))
def lm_1273 : zLem := (lm_1273p, [([((-2147483648), 2147483647), ((-2147483648), 2147483647), ((-2147483648), 2147483647), ((-2147483648), 2147483647), ((-2147483648), 2147483647), ((-2147483648), 2147483647), ((-2147483648), 2147483647), ((-2147483648), 2147483647), ((-2147483648), 2147483647), ((-2147483648), 2147483647), ((-2147483648), 2147483647), ((-2147483648), 2147483647), ((-2147483648), 2147483647), ((-2147483648), 2147483647), ((-2147483648), 2147483647)], [], [(0, [(7, 1)]), (63, [(7, (-1))])], [], [], [], [(340, [(0, [(8, 1)]), (0, [(9, 1)]), (0, [(10, 1)]), (0, [(11, 1)]), (0, [(12, 1)]), (0, [(13, 1)]), (0, [(14, 1)]), (0, [(0, 1)]), (0, [(1, 1)]), (1, [(2, 1)]), (0, [(7, 1)])])])])
theorem lk_1273 : l_core lm_1273 := by
  first
  | skip
    intro v x h
    have K := k_mneB (V := v) (w := x 0) (W := x 1) (k := x 2) (i := x 3) (v := x 4) (s_ := x 5) (m := x 6) (u := x 7) (q := x 8) (b := x 9) (s := x 10) (o := x 11) (a1 := x 12) (a2 := x 13) (a3 := x 14) (l_c3 (fun w0 w1 w2 : Int => (mOP 101 (Int32.ofInt w0) (Int32.ofInt w1)).toInt = w2) (l_e1 x 3) (l_e1 x 5) (l_e1 x 7) (h.2.2.2.1)) (l_c2 (fun w0 w1 : Int => (0 ≤ w0 ∧ w0 ≤ 6) ∧ w1 = o_t (o_l (v 87) w0.toNat)) (l_e1 x 6) (l_e1 x 5) (h.2.2.2.2.1)) (l_c9 (fun w0 w1 w2 w3 w4 w5 w6 w7 w8 : Int => q_cur (v 87) (g_F v w0 w1 w2 w3 w4 w5 w6 (g_nw v)) w7 w8) (l_e1 x 8) (l_e1 x 9) (l_e1 x 10) (l_e1 x 11) (l_e1 x 12) (l_e1 x 13) (l_e1 x 14) (l_e1 x 2) (l_e1 x 6) (h.2.2.2.2.2.1)) (l_c11 (fun w0 w1 w2 w3 w4 w5 w6 w7 w8 w9 w10 : Int => o_v v (g_jy v w0 (g_F v w0 w1 w2 w3 w4 w5 w6 (g_nw v)) w10) (g_F v w0 w1 w2 w3 w4 w5 w6 (g_nw v)) w7 w8 w9) (l_e1 x 8) (l_e1 x 9) (l_e1 x 10) (l_e1 x 11) (l_e1 x 12) (l_e1 x 13) (l_e1 x 14) (l_e1 x 1) (l_e1 x 2) (l_e1 x 4) (l_e0 x (0)) (h.2.2.2.2.2.2.1)) (l_c11 (fun w0 w1 w2 w3 w4 w5 w6 w7 w8 w9 w10 : Int => q_mne v (g_jy v w0 (g_F v w0 w1 w2 w3 w4 w5 w6 (g_nw v)) 0) (g_F v w0 w1 w2 w3 w4 w5 w6 (g_nw v)) w7 w8 w9 w10) (l_e1 x 8) (l_e1 x 9) (l_e1 x 10) (l_e1 x 11) (l_e1 x 12) (l_e1 x 13) (l_e1 x 14) (l_e1 x 0) (l_e1 x 1) (l_e1 x 2) (l_e1 x 3) (h.2.2.2.2.2.2.2.1)) (l_cc (l_q4 x 0 4) (h.2.1.1)) (l_cc (l_e1 x 0) (h.2.1.2.1)) (l_cc (l_e1 x 3) (h.2.1.2.2.1)) (l_cc (l_q1 63 x 3) (h.2.1.2.2.2.1)) (l_cc (l_e1 x 5) (h.2.1.2.2.2.2.1)) (l_cc (l_q1 63 x 5) (h.2.1.2.2.2.2.2.1))
    refine l_outH rfl (And.intro h.1 ?_)
    exact l_o12 (fun w0 w1 w2 w3 w4 w5 w6 w7 w8 w9 w10 w11 : Int => (0 ≤ w0 ∧ 0 ≤ w1 ∧ True) ∧ (q_mne v (g_jy v w2 (g_F v w2 w3 w4 w5 w6 w7 w8 (g_nw v)) 0) (g_F v w2 w3 w4 w5 w6 w7 w8 (g_nw v)) w9 w10 w11 w0 ∧ True)) (l_e1 x 7) (l_q1 63 x 7) (l_e1 x 8) (l_e1 x 9) (l_e1 x 10) (l_e1 x 11) (l_e1 x 12) (l_e1 x 13) (l_e1 x 14) (l_e1 x 0) (l_e1 x 1) (l_q3 1 x 2) K
  | skip
    intro v x h
    have C0 : (0 : Int) ≤ x 4 - x 0 := l_cc (a := y_ev x (0, [(0, (-1)), (4, 1)])) (by show ((0) : Int) + ((-1) * x 0 + ((1) * x 4 + 0)) = x 4 - x 0; omega) (h.2.1.1)
    have C1 : (0 : Int) ≤ x 0 := l_cc (a := y_ev x (0, [(0, 1)])) (l_e1 _ _) (h.2.1.2.1)
    have C2 : (0 : Int) ≤ x 3 := l_cc (a := y_ev x (0, [(3, 1)])) (l_e1 _ _) (h.2.1.2.2.1)
    have C3 : (0 : Int) ≤ 63 - x 3 := l_cc (a := y_ev x (63, [(3, (-1))])) (by show ((63) : Int) + ((-1) * x 3 + 0) = 63 - x 3; omega) (h.2.1.2.2.2.1)
    have C4 : (0 : Int) ≤ x 5 := l_cc (a := y_ev x (0, [(5, 1)])) (l_e1 _ _) (h.2.1.2.2.2.2.1)
    have C5 : (0 : Int) ≤ 63 - x 5 := l_cc (a := y_ev x (63, [(5, (-1))])) (by show ((63) : Int) + ((-1) * x 5 + 0) = 63 - x 5; omega) (h.2.1.2.2.2.2.2.1)
    have E0 : y_ev x (0, [(3, 1)]) = x 3 := (l_e1 _ _)
    have E1 : y_ev x (0, [(5, 1)]) = x 5 := (l_e1 _ _)
    have E2 : y_ev x (0, [(7, 1)]) = x 7 := (l_e1 _ _)
    have E3 : y_ev x (0, [(6, 1)]) = x 6 := (l_e1 _ _)
    have E4 : y_ev x (0, [(8, 1)]) = x 8 := (l_e1 _ _)
    have E5 : y_ev x (0, [(9, 1)]) = x 9 := (l_e1 _ _)
    have E6 : y_ev x (0, [(10, 1)]) = x 10 := (l_e1 _ _)
    have E7 : y_ev x (0, [(11, 1)]) = x 11 := (l_e1 _ _)
    have E8 : y_ev x (0, [(12, 1)]) = x 12 := (l_e1 _ _)
    have E9 : y_ev x (0, [(13, 1)]) = x 13 := (l_e1 _ _)
    have E10 : y_ev x (0, [(14, 1)]) = x 14 := (l_e1 _ _)
    have E11 : y_ev x (0, [(2, 1)]) = x 2 := (l_e1 _ _)
    have E12 : y_ev x (0, [(1, 1)]) = x 1 := (l_e1 _ _)
    have E13 : y_ev x (0, [(4, 1)]) = x 4 := (l_e1 _ _)
    have E14 : y_ev x (0, []) = 0 := (l_e0 _ _)
    have E15 : y_ev x (0, [(0, 1)]) = x 0 := (l_e1 _ _)
    have T0 : (mOP 101 (Int32.ofInt (y_ev x (0, [(3, 1)]))) (Int32.ofInt (y_ev x (0, [(5, 1)])))).toInt = (y_ev x (0, [(7, 1)])) := h.2.2.2.1
    (try rw [E0] at T0); (try rw [E1] at T0); (try rw [E2] at T0)
    have T1 : (0 ≤ (y_ev x (0, [(6, 1)])) ∧ (y_ev x (0, [(6, 1)])) ≤ 6) ∧ (y_ev x (0, [(5, 1)])) = o_t (o_l (v 87) (y_ev x (0, [(6, 1)])).toNat) := h.2.2.2.2.1
    (try rw [E3] at T1); (try rw [E1] at T1)
    have T2 : q_cur (v 87) (g_F v (y_ev x (0, [(8, 1)])) (y_ev x (0, [(9, 1)])) (y_ev x (0, [(10, 1)])) (y_ev x (0, [(11, 1)])) (y_ev x (0, [(12, 1)])) (y_ev x (0, [(13, 1)])) (y_ev x (0, [(14, 1)])) (g_nw v)) (y_ev x (0, [(2, 1)])) (y_ev x (0, [(6, 1)])) := h.2.2.2.2.2.1
    (try rw [E4] at T2); (try rw [E5] at T2); (try rw [E6] at T2); (try rw [E7] at T2); (try rw [E8] at T2); (try rw [E9] at T2); (try rw [E10] at T2); (try rw [E11] at T2); (try rw [E3] at T2)
    have T3 : o_v v (g_jy v (y_ev x (0, [(8, 1)])) (g_F v (y_ev x (0, [(8, 1)])) (y_ev x (0, [(9, 1)])) (y_ev x (0, [(10, 1)])) (y_ev x (0, [(11, 1)])) (y_ev x (0, [(12, 1)])) (y_ev x (0, [(13, 1)])) (y_ev x (0, [(14, 1)])) (g_nw v)) (y_ev x (0, []))) (g_F v (y_ev x (0, [(8, 1)])) (y_ev x (0, [(9, 1)])) (y_ev x (0, [(10, 1)])) (y_ev x (0, [(11, 1)])) (y_ev x (0, [(12, 1)])) (y_ev x (0, [(13, 1)])) (y_ev x (0, [(14, 1)])) (g_nw v)) (y_ev x (0, [(1, 1)])) (y_ev x (0, [(2, 1)])) (y_ev x (0, [(4, 1)])) := h.2.2.2.2.2.2.1
    (try rw [E4] at T3); (try rw [E5] at T3); (try rw [E6] at T3); (try rw [E7] at T3); (try rw [E8] at T3); (try rw [E9] at T3); (try rw [E10] at T3); (try rw [E12] at T3); (try rw [E11] at T3); (try rw [E13] at T3); (try rw [E14] at T3)
    have T4 : q_mne v (g_jy v (y_ev x (0, [(8, 1)])) (g_F v (y_ev x (0, [(8, 1)])) (y_ev x (0, [(9, 1)])) (y_ev x (0, [(10, 1)])) (y_ev x (0, [(11, 1)])) (y_ev x (0, [(12, 1)])) (y_ev x (0, [(13, 1)])) (y_ev x (0, [(14, 1)])) (g_nw v)) 0) (g_F v (y_ev x (0, [(8, 1)])) (y_ev x (0, [(9, 1)])) (y_ev x (0, [(10, 1)])) (y_ev x (0, [(11, 1)])) (y_ev x (0, [(12, 1)])) (y_ev x (0, [(13, 1)])) (y_ev x (0, [(14, 1)])) (g_nw v)) (y_ev x (0, [(0, 1)])) (y_ev x (0, [(1, 1)])) (y_ev x (0, [(2, 1)])) (y_ev x (0, [(3, 1)])) := h.2.2.2.2.2.2.2.1
    (try rw [E4] at T4); (try rw [E5] at T4); (try rw [E6] at T4); (try rw [E7] at T4); (try rw [E8] at T4); (try rw [E9] at T4); (try rw [E10] at T4); (try rw [E15] at T4); (try rw [E12] at T4); (try rw [E11] at T4); (try rw [E0] at T4)
    have K := k_mneB (V := v) (w := x 0) (W := x 1) (k := x 2) (i := x 3) (v := x 4) (s_ := x 5) (m := x 6) (u := x 7) (q := x 8) (b := x 9) (s := x 10) (o := x 11) (a1 := x 12) (a2 := x 13) (a3 := x 14) T0 T1 T2 T3 T4 C0 C1 C2 C3 C4 C5
    refine l_outH rfl (And.intro h.1 ?_)
    have O0 : y_ev x (0, [(7, 1)]) = x 7 := l_e1 _ _
    have O1 : y_ev x (63, [(7, (-1))]) = 63 - x 7 := by show ((63) : Int) + ((-1) * x 7 + 0) = _; omega
    have O2 : y_ev x (0, [(8, 1)]) = x 8 := l_e1 _ _
    have O3 : y_ev x (0, [(9, 1)]) = x 9 := l_e1 _ _
    have O4 : y_ev x (0, [(10, 1)]) = x 10 := l_e1 _ _
    have O5 : y_ev x (0, [(11, 1)]) = x 11 := l_e1 _ _
    have O6 : y_ev x (0, [(12, 1)]) = x 12 := l_e1 _ _
    have O7 : y_ev x (0, [(13, 1)]) = x 13 := l_e1 _ _
    have O8 : y_ev x (0, [(14, 1)]) = x 14 := l_e1 _ _
    have O9 : y_ev x (0, [(0, 1)]) = x 0 := l_e1 _ _
    have O10 : y_ev x (0, [(1, 1)]) = x 1 := l_e1 _ _
    have O11 : y_ev x (1, [(2, 1)]) = x 2 + 1 := by show ((1) : Int) + ((1) * x 2 + 0) = _; omega
    show (0 ≤ y_ev x (0, [(7, 1)]) ∧ 0 ≤ y_ev x (63, [(7, (-1))]) ∧ True) ∧ (q_mne v (g_jy v (y_ev x (0, [(8, 1)])) (g_F v (y_ev x (0, [(8, 1)])) (y_ev x (0, [(9, 1)])) (y_ev x (0, [(10, 1)])) (y_ev x (0, [(11, 1)])) (y_ev x (0, [(12, 1)])) (y_ev x (0, [(13, 1)])) (y_ev x (0, [(14, 1)])) (g_nw v)) 0) (g_F v (y_ev x (0, [(8, 1)])) (y_ev x (0, [(9, 1)])) (y_ev x (0, [(10, 1)])) (y_ev x (0, [(11, 1)])) (y_ev x (0, [(12, 1)])) (y_ev x (0, [(13, 1)])) (y_ev x (0, [(14, 1)])) (g_nw v)) (y_ev x (0, [(0, 1)])) (y_ev x (0, [(1, 1)])) (y_ev x (1, [(2, 1)])) (y_ev x (0, [(7, 1)])) ∧ True)
    (try rw [O0]); (try rw [O1]); (try rw [O2]); (try rw [O3]); (try rw [O4]); (try rw [O5]); (try rw [O6]); (try rw [O7]); (try rw [O8]); (try rw [O9]); (try rw [O10]); (try rw [O11])
    exact K
def lm_1274pg_0 (t : List zTg) : List zTg := (278, [(0, [(5, 1)]), (0, [(6, 1)]), (0, [(7, 1)]), (0, [(8, 1)]), (0, [(9, 1)]), (0, [(10, 1)]), (0, [(11, 1)]), (6, [])]) :: (331, [(0, [(5, 1)]), (0, [(6, 1)]), (0, [(7, 1)]), (0, [(8, 1)]), (0, [(9, 1)]), (0, [(10, 1)]), (0, [(11, 1)]), (0, [(2, 1)])]) :: (340, [(0, [(5, 1)]), (0, [(6, 1)]), (0, [(7, 1)]), (0, [(8, 1)]), (0, [(9, 1)]), (0, [(10, 1)]), (0, [(11, 1)]), (0, [(0, 1)]), (0, [(1, 1)]), (0, [(2, 1)]), (0, [(3, 1)])]) :: t
def lm_1274p : zS := ((lm_660pi_0 (lm_660pi_1 [])), [], [(0, [(3, 1)]), (0, [(3, (-1)), (4, 1)]), (0, [(3, 1), (4, (-1))])], [], [(0, 0, 0, [(4, 1)])], [], (lm_1274pg_0 []))
def lm_1274 : zLem := (lm_1274p, [([((-2147483648), 2147483647), ((-2147483648), 2147483647), ((-2147483648), 2147483647), ((-2147483648), 2147483647), ((-2147483648), 2147483647), ((-2147483648), 2147483647), ((-2147483648), 2147483647), ((-2147483648), 2147483647), ((-2147483648), 2147483647), ((-2147483648), 2147483647), ((-2147483648), 2147483647), ((-2147483648), 2147483647)], [], [], [], [], [], [(238, [(60, []), (0, [(5, 1)]), (0, [(6, 1)]), (0, [(7, 1)]), (0, [(8, 1)]), (0, [(9, 1)]), (0, [(10, 1)]), (0, [(11, 1)]), (0, [(0, 1)]), (0, [(1, 1)]), (0, [(4, 1)])])])])
theorem lk_1274 : l_core lm_1274 := by
  first
  | skip
    intro v x h
    have K := k_mneE (V := v) (w := x 0) (W := x 1) (k := x 2) (i := x 3) (u := x 4) (q := x 5) (b := x 6) (s := x 7) (o := x 8) (a1 := x 9) (a2 := x 10) (a3 := x 11) (l_c8 (fun w0 w1 w2 w3 w4 w5 w6 w7 : Int => q_lng v w0 w1 w2 w3 w4 w5 w6 w7) (l_e1 x 5) (l_e1 x 6) (l_e1 x 7) (l_e1 x 8) (l_e1 x 9) (l_e1 x 10) (l_e1 x 11) (l_e0 x (6)) (h.2.2.2.1)) (l_c8 (fun w0 w1 w2 w3 w4 w5 w6 w7 : Int => 0 ≤ w7 ∧ (o_A (o_a (g_F v w0 w1 w2 w3 w4 w5 w6 (g_nw v)))).drop w7.toNat = []) (l_e1 x 5) (l_e1 x 6) (l_e1 x 7) (l_e1 x 8) (l_e1 x 9) (l_e1 x 10) (l_e1 x 11) (l_e1 x 2) (h.2.2.2.2.1)) (l_c11 (fun w0 w1 w2 w3 w4 w5 w6 w7 w8 w9 w10 : Int => q_mne v (g_jy v w0 (g_F v w0 w1 w2 w3 w4 w5 w6 (g_nw v)) 0) (g_F v w0 w1 w2 w3 w4 w5 w6 (g_nw v)) w7 w8 w9 w10) (l_e1 x 5) (l_e1 x 6) (l_e1 x 7) (l_e1 x 8) (l_e1 x 9) (l_e1 x 10) (l_e1 x 11) (l_e1 x 0) (l_e1 x 1) (l_e1 x 2) (l_e1 x 3) (h.2.2.2.2.2.1)) (l_cc (l_e1 x 3) (h.2.1.1)) (l_cc (l_q4 x 3 4) (h.2.1.2.1)) (l_cc (l_q5 x 3 4) (h.2.1.2.2.1))
    refine l_outH rfl (And.intro h.1 ?_)
    exact l_o11 (fun w0 w1 w2 w3 w4 w5 w6 w7 w8 w9 w10 : Int => (True) ∧ (q_qry v w0 w1 w2 w3 w4 w5 w6 w7 w8 w9 w10 ∧ True)) (l_e0 x (60)) (l_e1 x 5) (l_e1 x 6) (l_e1 x 7) (l_e1 x 8) (l_e1 x 9) (l_e1 x 10) (l_e1 x 11) (l_e1 x 0) (l_e1 x 1) (l_e1 x 4) K
  | skip
    intro v x h
    have C0 : (0 : Int) ≤ x 3 := l_cc (a := y_ev x (0, [(3, 1)])) (l_e1 _ _) (h.2.1.1)
    have C1 : (0 : Int) ≤ x 4 - x 3 := l_cc (a := y_ev x (0, [(3, (-1)), (4, 1)])) (by show ((0) : Int) + ((-1) * x 3 + ((1) * x 4 + 0)) = x 4 - x 3; omega) (h.2.1.2.1)
    have C2 : (0 : Int) ≤ x 3 - x 4 := l_cc (a := y_ev x (0, [(3, 1), (4, (-1))])) (by show ((0) : Int) + ((1) * x 3 + ((-1) * x 4 + 0)) = x 3 - x 4; omega) (h.2.1.2.2.1)
    have E0 : y_ev x (0, [(5, 1)]) = x 5 := (l_e1 _ _)
    have E1 : y_ev x (0, [(6, 1)]) = x 6 := (l_e1 _ _)
    have E2 : y_ev x (0, [(7, 1)]) = x 7 := (l_e1 _ _)
    have E3 : y_ev x (0, [(8, 1)]) = x 8 := (l_e1 _ _)
    have E4 : y_ev x (0, [(9, 1)]) = x 9 := (l_e1 _ _)
    have E5 : y_ev x (0, [(10, 1)]) = x 10 := (l_e1 _ _)
    have E6 : y_ev x (0, [(11, 1)]) = x 11 := (l_e1 _ _)
    have E7 : y_ev x (6, []) = 6 := (l_e0 _ _)
    have E8 : y_ev x (0, [(2, 1)]) = x 2 := (l_e1 _ _)
    have E9 : y_ev x (0, [(0, 1)]) = x 0 := (l_e1 _ _)
    have E10 : y_ev x (0, [(1, 1)]) = x 1 := (l_e1 _ _)
    have E11 : y_ev x (0, [(3, 1)]) = x 3 := (l_e1 _ _)
    have T0 : q_lng v (y_ev x (0, [(5, 1)])) (y_ev x (0, [(6, 1)])) (y_ev x (0, [(7, 1)])) (y_ev x (0, [(8, 1)])) (y_ev x (0, [(9, 1)])) (y_ev x (0, [(10, 1)])) (y_ev x (0, [(11, 1)])) (y_ev x (6, [])) := h.2.2.2.1
    (try rw [E0] at T0); (try rw [E1] at T0); (try rw [E2] at T0); (try rw [E3] at T0); (try rw [E4] at T0); (try rw [E5] at T0); (try rw [E6] at T0); (try rw [E7] at T0)
    have T1 : 0 ≤ (y_ev x (0, [(2, 1)])) ∧ (o_A (o_a (g_F v (y_ev x (0, [(5, 1)])) (y_ev x (0, [(6, 1)])) (y_ev x (0, [(7, 1)])) (y_ev x (0, [(8, 1)])) (y_ev x (0, [(9, 1)])) (y_ev x (0, [(10, 1)])) (y_ev x (0, [(11, 1)])) (g_nw v)))).drop (y_ev x (0, [(2, 1)])).toNat = [] := h.2.2.2.2.1
    (try rw [E0] at T1); (try rw [E1] at T1); (try rw [E2] at T1); (try rw [E3] at T1); (try rw [E4] at T1); (try rw [E5] at T1); (try rw [E6] at T1); (try rw [E8] at T1)
    have T2 : q_mne v (g_jy v (y_ev x (0, [(5, 1)])) (g_F v (y_ev x (0, [(5, 1)])) (y_ev x (0, [(6, 1)])) (y_ev x (0, [(7, 1)])) (y_ev x (0, [(8, 1)])) (y_ev x (0, [(9, 1)])) (y_ev x (0, [(10, 1)])) (y_ev x (0, [(11, 1)])) (g_nw v)) 0) (g_F v (y_ev x (0, [(5, 1)])) (y_ev x (0, [(6, 1)])) (y_ev x (0, [(7, 1)])) (y_ev x (0, [(8, 1)])) (y_ev x (0, [(9, 1)])) (y_ev x (0, [(10, 1)])) (y_ev x (0, [(11, 1)])) (g_nw v)) (y_ev x (0, [(0, 1)])) (y_ev x (0, [(1, 1)])) (y_ev x (0, [(2, 1)])) (y_ev x (0, [(3, 1)])) := h.2.2.2.2.2.1
    (try rw [E0] at T2); (try rw [E1] at T2); (try rw [E2] at T2); (try rw [E3] at T2); (try rw [E4] at T2); (try rw [E5] at T2); (try rw [E6] at T2); (try rw [E9] at T2); (try rw [E10] at T2); (try rw [E8] at T2); (try rw [E11] at T2)
    have K := k_mneE (V := v) (w := x 0) (W := x 1) (k := x 2) (i := x 3) (u := x 4) (q := x 5) (b := x 6) (s := x 7) (o := x 8) (a1 := x 9) (a2 := x 10) (a3 := x 11) T0 T1 T2 C0 C1 C2
    refine l_outH rfl (And.intro h.1 ?_)
    have O0 : y_ev x (60, []) = 60 := l_e0 _ _
    have O1 : y_ev x (0, [(5, 1)]) = x 5 := l_e1 _ _
    have O2 : y_ev x (0, [(6, 1)]) = x 6 := l_e1 _ _
    have O3 : y_ev x (0, [(7, 1)]) = x 7 := l_e1 _ _
    have O4 : y_ev x (0, [(8, 1)]) = x 8 := l_e1 _ _
    have O5 : y_ev x (0, [(9, 1)]) = x 9 := l_e1 _ _
    have O6 : y_ev x (0, [(10, 1)]) = x 10 := l_e1 _ _
    have O7 : y_ev x (0, [(11, 1)]) = x 11 := l_e1 _ _
    have O8 : y_ev x (0, [(0, 1)]) = x 0 := l_e1 _ _
    have O9 : y_ev x (0, [(1, 1)]) = x 1 := l_e1 _ _
    have O10 : y_ev x (0, [(4, 1)]) = x 4 := l_e1 _ _
    show (True) ∧ (q_qry v (y_ev x (60, [])) (y_ev x (0, [(5, 1)])) (y_ev x (0, [(6, 1)])) (y_ev x (0, [(7, 1)])) (y_ev x (0, [(8, 1)])) (y_ev x (0, [(9, 1)])) (y_ev x (0, [(10, 1)])) (y_ev x (0, [(11, 1)])) (y_ev x (0, [(0, 1)])) (y_ev x (0, [(1, 1)])) (y_ev x (0, [(4, 1)])) ∧ True)
    (try rw [O0]); (try rw [O1]); (try rw [O2]); (try rw [O3]); (try rw [O4]); (try rw [O5]); (try rw [O6]); (try rw [O7]); (try rw [O8]); (try rw [O9]); (try rw [O10])
    exact K
def lm_1275p : zS := ((lm_660pi_0 (lm_660pi_1 [])), [], [((-1), [(3, (-1))]), (2, [(4, 1)]), ((-2), [(4, (-1))])], [], [(0, 0, 0, [(4, 1)])], [], (lm_1274pg_0 []))
def lm_1275 : zLem := (lm_1275p, [([((-2147483648), 2147483647), ((-2147483648), 2147483647), ((-2147483648), 2147483647), ((-2147483648), 2147483647), ((-2147483648), 2147483647), ((-2147483648), 2147483647), ((-2147483648), 2147483647), ((-2147483648), 2147483647), ((-2147483648), 2147483647), ((-2147483648), 2147483647), ((-2147483648), 2147483647), ((-2147483648), 2147483647)], [], [], [], [], [], [(238, [(60, []), (0, [(5, 1)]), (0, [(6, 1)]), (0, [(7, 1)]), (0, [(8, 1)]), (0, [(9, 1)]), (0, [(10, 1)]), (0, [(11, 1)]), (0, [(0, 1)]), (0, [(1, 1)]), ((-2), [])])])])
theorem lk_1275 : l_core lm_1275 := by
  first
  | skip
    intro v x h
    have K := k_mneF (V := v) (w := x 0) (W := x 1) (k := x 2) (i := x 3) (u := x 4) (q := x 5) (b := x 6) (s := x 7) (o := x 8) (a1 := x 9) (a2 := x 10) (a3 := x 11) (l_c8 (fun w0 w1 w2 w3 w4 w5 w6 w7 : Int => q_lng v w0 w1 w2 w3 w4 w5 w6 w7) (l_e1 x 5) (l_e1 x 6) (l_e1 x 7) (l_e1 x 8) (l_e1 x 9) (l_e1 x 10) (l_e1 x 11) (l_e0 x (6)) (h.2.2.2.1)) (l_c8 (fun w0 w1 w2 w3 w4 w5 w6 w7 : Int => 0 ≤ w7 ∧ (o_A (o_a (g_F v w0 w1 w2 w3 w4 w5 w6 (g_nw v)))).drop w7.toNat = []) (l_e1 x 5) (l_e1 x 6) (l_e1 x 7) (l_e1 x 8) (l_e1 x 9) (l_e1 x 10) (l_e1 x 11) (l_e1 x 2) (h.2.2.2.2.1)) (l_c11 (fun w0 w1 w2 w3 w4 w5 w6 w7 w8 w9 w10 : Int => q_mne v (g_jy v w0 (g_F v w0 w1 w2 w3 w4 w5 w6 (g_nw v)) 0) (g_F v w0 w1 w2 w3 w4 w5 w6 (g_nw v)) w7 w8 w9 w10) (l_e1 x 5) (l_e1 x 6) (l_e1 x 7) (l_e1 x 8) (l_e1 x 9) (l_e1 x 10) (l_e1 x 11) (l_e1 x 0) (l_e1 x 1) (l_e1 x 2) (l_e1 x 3) (h.2.2.2.2.2.1)) (l_cc (l_q11 1 x 3) (h.2.1.1)) (l_cc (l_q3 2 x 4) (h.2.1.2.1)) (l_cc (l_q11 2 x 4) (h.2.1.2.2.1))
    refine l_outH rfl (And.intro h.1 ?_)
    exact l_o11 (fun w0 w1 w2 w3 w4 w5 w6 w7 w8 w9 w10 : Int => (True) ∧ (q_qry v w0 w1 w2 w3 w4 w5 w6 w7 w8 w9 w10 ∧ True)) (l_e0 x (60)) (l_e1 x 5) (l_e1 x 6) (l_e1 x 7) (l_e1 x 8) (l_e1 x 9) (l_e1 x 10) (l_e1 x 11) (l_e1 x 0) (l_e1 x 1) (l_e0 x (-2)) K
  | skip
    intro v x h
    have C0 : (0 : Int) ≤ -x 3 - 1 := l_cc (a := y_ev x ((-1), [(3, (-1))])) (by show ((-1) : Int) + ((-1) * x 3 + 0) = -x 3 - 1; omega) (h.2.1.1)
    have C1 : (0 : Int) ≤ x 4 + 2 := l_cc (a := y_ev x (2, [(4, 1)])) (by show ((2) : Int) + ((1) * x 4 + 0) = x 4 + 2; omega) (h.2.1.2.1)
    have C2 : (0 : Int) ≤ -x 4 - 2 := l_cc (a := y_ev x ((-2), [(4, (-1))])) (by show ((-2) : Int) + ((-1) * x 4 + 0) = -x 4 - 2; omega) (h.2.1.2.2.1)
    have E0 : y_ev x (0, [(5, 1)]) = x 5 := (l_e1 _ _)
    have E1 : y_ev x (0, [(6, 1)]) = x 6 := (l_e1 _ _)
    have E2 : y_ev x (0, [(7, 1)]) = x 7 := (l_e1 _ _)
    have E3 : y_ev x (0, [(8, 1)]) = x 8 := (l_e1 _ _)
    have E4 : y_ev x (0, [(9, 1)]) = x 9 := (l_e1 _ _)
    have E5 : y_ev x (0, [(10, 1)]) = x 10 := (l_e1 _ _)
    have E6 : y_ev x (0, [(11, 1)]) = x 11 := (l_e1 _ _)
    have E7 : y_ev x (6, []) = 6 := (l_e0 _ _)
    have E8 : y_ev x (0, [(2, 1)]) = x 2 := (l_e1 _ _)
    have E9 : y_ev x (0, [(0, 1)]) = x 0 := (l_e1 _ _)
    have E10 : y_ev x (0, [(1, 1)]) = x 1 := (l_e1 _ _)
    have E11 : y_ev x (0, [(3, 1)]) = x 3 := (l_e1 _ _)
    have T0 : q_lng v (y_ev x (0, [(5, 1)])) (y_ev x (0, [(6, 1)])) (y_ev x (0, [(7, 1)])) (y_ev x (0, [(8, 1)])) (y_ev x (0, [(9, 1)])) (y_ev x (0, [(10, 1)])) (y_ev x (0, [(11, 1)])) (y_ev x (6, [])) := h.2.2.2.1
    (try rw [E0] at T0); (try rw [E1] at T0); (try rw [E2] at T0); (try rw [E3] at T0); (try rw [E4] at T0); (try rw [E5] at T0); (try rw [E6] at T0); (try rw [E7] at T0)
    have T1 : 0 ≤ (y_ev x (0, [(2, 1)])) ∧ (o_A (o_a (g_F v (y_ev x (0, [(5, 1)])) (y_ev x (0, [(6, 1)])) (y_ev x (0, [(7, 1)])) (y_ev x (0, [(8, 1)])) (y_ev x (0, [(9, 1)])) (y_ev x (0, [(10, 1)])) (y_ev x (0, [(11, 1)])) (g_nw v)))).drop (y_ev x (0, [(2, 1)])).toNat = [] := h.2.2.2.2.1
    (try rw [E0] at T1); (try rw [E1] at T1); (try rw [E2] at T1); (try rw [E3] at T1); (try rw [E4] at T1); (try rw [E5] at T1); (try rw [E6] at T1); (try rw [E8] at T1)
    have T2 : q_mne v (g_jy v (y_ev x (0, [(5, 1)])) (g_F v (y_ev x (0, [(5, 1)])) (y_ev x (0, [(6, 1)])) (y_ev x (0, [(7, 1)])) (y_ev x (0, [(8, 1)])) (y_ev x (0, [(9, 1)])) (y_ev x (0, [(10, 1)])) (y_ev x (0, [(11, 1)])) (g_nw v)) 0) (g_F v (y_ev x (0, [(5, 1)])) (y_ev x (0, [(6, 1)])) (y_ev x (0, [(7, 1)])) (y_ev x (0, [(8, 1)])) (y_ev x (0, [(9, 1)])) (y_ev x (0, [(10, 1)])) (y_ev x (0, [(11, 1)])) (g_nw v)) (y_ev x (0, [(0, 1)])) (y_ev x (0, [(1, 1)])) (y_ev x (0, [(2, 1)])) (y_ev x (0, [(3, 1)])) := h.2.2.2.2.2.1
    (try rw [E0] at T2); (try rw [E1] at T2); (try rw [E2] at T2); (try rw [E3] at T2); (try rw [E4] at T2); (try rw [E5] at T2); (try rw [E6] at T2); (try rw [E9] at T2); (try rw [E10] at T2); (try rw [E8] at T2); (try rw [E11] at T2)
    have K := k_mneF (V := v) (w := x 0) (W := x 1) (k := x 2) (i := x 3) (u := x 4) (q := x 5) (b := x 6) (s := x 7) (o := x 8) (a1 := x 9) (a2 := x 10) (a3 := x 11) T0 T1 T2 C0 C1 C2
    refine l_outH rfl (And.intro h.1 ?_)
    have O0 : y_ev x (60, []) = 60 := l_e0 _ _
    have O1 : y_ev x (0, [(5, 1)]) = x 5 := l_e1 _ _
    have O2 : y_ev x (0, [(6, 1)]) = x 6 := l_e1 _ _
    have O3 : y_ev x (0, [(7, 1)]) = x 7 := l_e1 _ _
    have O4 : y_ev x (0, [(8, 1)]) = x 8 := l_e1 _ _
    have O5 : y_ev x (0, [(9, 1)]) = x 9 := l_e1 _ _
    have O6 : y_ev x (0, [(10, 1)]) = x 10 := l_e1 _ _
    have O7 : y_ev x (0, [(11, 1)]) = x 11 := l_e1 _ _
    have O8 : y_ev x (0, [(0, 1)]) = x 0 := l_e1 _ _
    have O9 : y_ev x (0, [(1, 1)]) = x 1 := l_e1 _ _
    have O10 : y_ev x ((-2), []) = (-2) := l_e0 _ _
    show (True) ∧ (q_qry v (y_ev x (60, [])) (y_ev x (0, [(5, 1)])) (y_ev x (0, [(6, 1)])) (y_ev x (0, [(7, 1)])) (y_ev x (0, [(8, 1)])) (y_ev x (0, [(9, 1)])) (y_ev x (0, [(10, 1)])) (y_ev x (0, [(11, 1)])) (y_ev x (0, [(0, 1)])) (y_ev x (0, [(1, 1)])) (y_ev x ((-2), [])) ∧ True)
    (try rw [O0]); (try rw [O1]); (try rw [O2]); (try rw [O3]); (try rw [O4]); (try rw [O5]); (try rw [O6]); (try rw [O7]); (try rw [O8]); (try rw [O9]); (try rw [O10])
    exact K
def lm_1276 : zLem := (([((-2147483648), 2147483647), ((-2147483648), 2147483647), ((-2147483648), 2147483647), ((-2147483648), 2147483647), ((-2147483648), 2147483647), ((-2147483648), 2147483647), ((-2147483648), 2147483647), ((-2147483648), 2147483647), ((-2147483648), 2147483647)], [], [], [], [], [], [(330, [(0, [(2, 1)]), (0, [(3, 1)]), (0, [(4, 1)]), (0, [(5, 1)]), (0, [(6, 1)]), (0, [(7, 1)]), (0, [(8, 1)]), (0, [(0, 1)]), (0, [(1, 1)])])]), [([((-2147483648), 2147483647), ((-2147483648), 2147483647), ((-2147483648), 2147483647), ((-2147483648), 2147483647), ((-2147483648), 2147483647), ((-2147483648), 2147483647), ((-2147483648), 2147483647), ((-2147483648), 2147483647), ((-2147483648), 2147483647)], [], [], [], [], [], [(341, [(0, []), (0, [])])])])
theorem lk_1276 : l_core lm_1276 := by
  first
  | skip
    intro v x h
    have K := k_mbs0 (V := v) (k := x 0) (m := x 1) (q := x 2) (b := x 3) (s := x 4) (o := x 5) (a1 := x 6) (a2 := x 7) (a3 := x 8) (l_c9 (fun w0 w1 w2 w3 w4 w5 w6 w7 w8 : Int => q_cur (v 87) (g_F v w0 w1 w2 w3 w4 w5 w6 (g_nw v)) w7 w8) (l_e1 x 2) (l_e1 x 3) (l_e1 x 4) (l_e1 x 5) (l_e1 x 6) (l_e1 x 7) (l_e1 x 8) (l_e1 x 0) (l_e1 x 1) (h.2.2.2.1))
    refine l_outH rfl (And.intro h.1 ?_)
    exact l_o1 (fun w0 : Int => (True) ∧ (((0 ≤ w0 ∧ w0 ≤ 6) ∧ w0 = o_t (o_l (v 87) w0.toNat)) ∧ True)) (l_e0 x (0)) K
  | skip
    intro v x h
    have E0 : y_ev x (0, [(2, 1)]) = x 2 := (l_e1 _ _)
    have E1 : y_ev x (0, [(3, 1)]) = x 3 := (l_e1 _ _)
    have E2 : y_ev x (0, [(4, 1)]) = x 4 := (l_e1 _ _)
    have E3 : y_ev x (0, [(5, 1)]) = x 5 := (l_e1 _ _)
    have E4 : y_ev x (0, [(6, 1)]) = x 6 := (l_e1 _ _)
    have E5 : y_ev x (0, [(7, 1)]) = x 7 := (l_e1 _ _)
    have E6 : y_ev x (0, [(8, 1)]) = x 8 := (l_e1 _ _)
    have E7 : y_ev x (0, [(0, 1)]) = x 0 := (l_e1 _ _)
    have E8 : y_ev x (0, [(1, 1)]) = x 1 := (l_e1 _ _)
    have T0 : q_cur (v 87) (g_F v (y_ev x (0, [(2, 1)])) (y_ev x (0, [(3, 1)])) (y_ev x (0, [(4, 1)])) (y_ev x (0, [(5, 1)])) (y_ev x (0, [(6, 1)])) (y_ev x (0, [(7, 1)])) (y_ev x (0, [(8, 1)])) (g_nw v)) (y_ev x (0, [(0, 1)])) (y_ev x (0, [(1, 1)])) := h.2.2.2.1
    (try rw [E0] at T0); (try rw [E1] at T0); (try rw [E2] at T0); (try rw [E3] at T0); (try rw [E4] at T0); (try rw [E5] at T0); (try rw [E6] at T0); (try rw [E7] at T0); (try rw [E8] at T0)
    have K := k_mbs0 (V := v) (k := x 0) (m := x 1) (q := x 2) (b := x 3) (s := x 4) (o := x 5) (a1 := x 6) (a2 := x 7) (a3 := x 8) T0
    refine l_outH rfl (And.intro h.1 ?_)
    have O0 : y_ev x (0, []) = 0 := l_e0 _ _
    show (True) ∧ (((0 ≤ (y_ev x (0, [])) ∧ (y_ev x (0, [])) ≤ 6) ∧ (y_ev x (0, [])) = o_t (o_l (v 87) (y_ev x (0, [])).toNat)) ∧ True)
    (try rw [O0])
    exact K
def lm_1277p : zS := ((lm_716pi_0 (lm_716pi_1 [])), [(87, false)], [(0, [(0, 1)]), ((-1), [(0, (-1)), (6, 1)]), (6, [(6, (-1))]), (0, [(2, 1)]), (63, [(2, (-1))])], [], [(0, 0, 0, [(0, 1)]), (0, 0, 0, [(4, 1)])], [(0, (true, 0, 0, [(0, 1)]), 0, 0, 0, [(1, 1)])], [(102, [(0, [(2, 1)]), (0, [(3, 1)]), (0, [(4, 1)])]), (104, [(1, []), (0, [(1, 1)]), (0, [(3, 1)])]), (341, [(0, [(0, 1)]), (0, [(2, 1)])]), (330, [(0, [(7, 1)]), (0, [(8, 1)]), (0, [(9, 1)]), (0, [(10, 1)]), (0, [(11, 1)]), (0, [(12, 1)]), (0, [(13, 1)]), (0, [(5, 1)]), (0, [(6, 1)])])])
def lm_1277 : zLem := (lm_1277p, [([((-2147483648), 2147483647), ((-2147483648), 2147483647), ((-2147483648), 2147483647), ((-2147483648), 2147483647), ((-2147483648), 2147483647), ((-2147483648), 2147483647), ((-2147483648), 2147483647), ((-2147483648), 2147483647), ((-2147483648), 2147483647), ((-2147483648), 2147483647), ((-2147483648), 2147483647), ((-2147483648), 2147483647), ((-2147483648), 2147483647), ((-2147483648), 2147483647)], [(87, false)], [(0, [(4, 1)]), (63, [(4, (-1))])], [], [], [], [(341, [(1, [(0, 1)]), (0, [(4, 1)])])])])
theorem lk_1277 : l_core lm_1277 := by
  first
  | skip
    intro v x h
    have G0 := h.2.2.1
    have K := k_mbsS (V := v) (i := x 0) (h := x 1) (s_ := x 2) (n := x 3) (u := x 4) (k := x 5) (m := x 6) (q := x 7) (b := x 8) (s := x 9) (o := x 10) (a1 := x 11) (a2 := x 12) (a3 := x 13) (l_c3 (fun w0 w1 w2 : Int => (mOP 102 (Int32.ofInt w0) (Int32.ofInt w1)).toInt = w2) (l_e1 x 2) (l_e1 x 3) (l_e1 x 4) (h.2.2.2.1)) (l_c3 (fun w0 w1 w2 : Int => (mOP 104 (Int32.ofInt w0) (Int32.ofInt w1)).toInt = w2) (l_e0 x (1)) (l_e1 x 1) (l_e1 x 3) (h.2.2.2.2.1)) (l_c2 (fun w0 w1 : Int => (0 ≤ w0 ∧ w0 ≤ 6) ∧ w1 = o_t (o_l (v 87) w0.toNat)) (l_e1 x 0) (l_e1 x 2) (h.2.2.2.2.2.1)) (l_c9 (fun w0 w1 w2 w3 w4 w5 w6 w7 w8 : Int => q_cur (v 87) (g_F v w0 w1 w2 w3 w4 w5 w6 (g_nw v)) w7 w8) (l_e1 x 7) (l_e1 x 8) (l_e1 x 9) (l_e1 x 10) (l_e1 x 11) (l_e1 x 12) (l_e1 x 13) (l_e1 x 5) (l_e1 x 6) (h.2.2.2.2.2.2.1)) (l_cc (l_e1 x 0) (h.2.1.1)) (l_cc (l_q6 1 x 0 6) (h.2.1.2.1)) (l_cc (l_q1 6 x 6) (h.2.1.2.2.1)) (l_cc (l_e1 x 2) (h.2.1.2.2.2.1)) (l_cc (l_q1 63 x 2) (h.2.1.2.2.2.2.1)) (l_ff (f := v 87) (L := j_len 87) (l_e1 x 0) (l_e1 x 1) (G0.1.1))
    refine l_outH rfl (And.intro h.1 ?_)
    exact l_o3 (fun w0 w1 w2 : Int => (0 ≤ w0 ∧ 0 ≤ w1 ∧ True) ∧ (((0 ≤ w2 ∧ w2 ≤ 6) ∧ w0 = o_t (o_l (v 87) w2.toNat)) ∧ True)) (l_e1 x 4) (l_q1 63 x 4) (l_q3 1 x 0) K
  | skip
    intro v x h
    have G0 := h.2.2.1
    have C0 : (0 : Int) ≤ x 0 := l_cc (a := y_ev x (0, [(0, 1)])) (l_e1 _ _) (h.2.1.1)
    have C1 : (0 : Int) ≤ x 6 - x 0 - 1 := l_cc (a := y_ev x ((-1), [(0, (-1)), (6, 1)])) (by show ((-1) : Int) + ((-1) * x 0 + ((1) * x 6 + 0)) = x 6 - x 0 - 1; omega) (h.2.1.2.1)
    have C2 : (0 : Int) ≤ 6 - x 6 := l_cc (a := y_ev x (6, [(6, (-1))])) (by show ((6) : Int) + ((-1) * x 6 + 0) = 6 - x 6; omega) (h.2.1.2.2.1)
    have C3 : (0 : Int) ≤ x 2 := l_cc (a := y_ev x (0, [(2, 1)])) (l_e1 _ _) (h.2.1.2.2.2.1)
    have C4 : (0 : Int) ≤ 63 - x 2 := l_cc (a := y_ev x (63, [(2, (-1))])) (by show ((63) : Int) + ((-1) * x 2 + 0) = 63 - x 2; omega) (h.2.1.2.2.2.2.1)
    have F0 : (0 : Int) ≤ x 0 ∧ (x 0 : Int) < j_len 87 ∧ v 87 (x 0) = x 1 := l_ff (f := v 87) (L := j_len 87) (a := y_ev x (0, [(0, 1)])) (b := y_ev x (0, [(1, 1)])) (l_e1 _ _) (l_e1 _ _) (G0.1.1)
    have E0 : y_ev x (0, [(2, 1)]) = x 2 := (l_e1 _ _)
    have E1 : y_ev x (0, [(3, 1)]) = x 3 := (l_e1 _ _)
    have E2 : y_ev x (0, [(4, 1)]) = x 4 := (l_e1 _ _)
    have E3 : y_ev x (1, []) = 1 := (l_e0 _ _)
    have E4 : y_ev x (0, [(1, 1)]) = x 1 := (l_e1 _ _)
    have E5 : y_ev x (0, [(0, 1)]) = x 0 := (l_e1 _ _)
    have E6 : y_ev x (0, [(7, 1)]) = x 7 := (l_e1 _ _)
    have E7 : y_ev x (0, [(8, 1)]) = x 8 := (l_e1 _ _)
    have E8 : y_ev x (0, [(9, 1)]) = x 9 := (l_e1 _ _)
    have E9 : y_ev x (0, [(10, 1)]) = x 10 := (l_e1 _ _)
    have E10 : y_ev x (0, [(11, 1)]) = x 11 := (l_e1 _ _)
    have E11 : y_ev x (0, [(12, 1)]) = x 12 := (l_e1 _ _)
    have E12 : y_ev x (0, [(13, 1)]) = x 13 := (l_e1 _ _)
    have E13 : y_ev x (0, [(5, 1)]) = x 5 := (l_e1 _ _)
    have E14 : y_ev x (0, [(6, 1)]) = x 6 := (l_e1 _ _)
    have T0 : (mOP 102 (Int32.ofInt (y_ev x (0, [(2, 1)]))) (Int32.ofInt (y_ev x (0, [(3, 1)])))).toInt = (y_ev x (0, [(4, 1)])) := h.2.2.2.1
    (try rw [E0] at T0); (try rw [E1] at T0); (try rw [E2] at T0)
    have T1 : (mOP 104 (Int32.ofInt (y_ev x (1, []))) (Int32.ofInt (y_ev x (0, [(1, 1)])))).toInt = (y_ev x (0, [(3, 1)])) := h.2.2.2.2.1
    (try rw [E3] at T1); (try rw [E4] at T1); (try rw [E1] at T1)
    have T2 : (0 ≤ (y_ev x (0, [(0, 1)])) ∧ (y_ev x (0, [(0, 1)])) ≤ 6) ∧ (y_ev x (0, [(2, 1)])) = o_t (o_l (v 87) (y_ev x (0, [(0, 1)])).toNat) := h.2.2.2.2.2.1
    (try rw [E5] at T2); (try rw [E0] at T2)
    have T3 : q_cur (v 87) (g_F v (y_ev x (0, [(7, 1)])) (y_ev x (0, [(8, 1)])) (y_ev x (0, [(9, 1)])) (y_ev x (0, [(10, 1)])) (y_ev x (0, [(11, 1)])) (y_ev x (0, [(12, 1)])) (y_ev x (0, [(13, 1)])) (g_nw v)) (y_ev x (0, [(5, 1)])) (y_ev x (0, [(6, 1)])) := h.2.2.2.2.2.2.1
    (try rw [E6] at T3); (try rw [E7] at T3); (try rw [E8] at T3); (try rw [E9] at T3); (try rw [E10] at T3); (try rw [E11] at T3); (try rw [E12] at T3); (try rw [E13] at T3); (try rw [E14] at T3)
    have K := k_mbsS (V := v) (i := x 0) (h := x 1) (s_ := x 2) (n := x 3) (u := x 4) (k := x 5) (m := x 6) (q := x 7) (b := x 8) (s := x 9) (o := x 10) (a1 := x 11) (a2 := x 12) (a3 := x 13) T0 T1 T2 T3 C0 C1 C2 C3 C4 F0
    refine l_outH rfl (And.intro h.1 ?_)
    have O0 : y_ev x (0, [(4, 1)]) = x 4 := l_e1 _ _
    have O1 : y_ev x (63, [(4, (-1))]) = 63 - x 4 := by show ((63) : Int) + ((-1) * x 4 + 0) = _; omega
    have O2 : y_ev x (1, [(0, 1)]) = x 0 + 1 := by show ((1) : Int) + ((1) * x 0 + 0) = _; omega
    show (0 ≤ y_ev x (0, [(4, 1)]) ∧ 0 ≤ y_ev x (63, [(4, (-1))]) ∧ True) ∧ (((0 ≤ (y_ev x (1, [(0, 1)])) ∧ (y_ev x (1, [(0, 1)])) ≤ 6) ∧ (y_ev x (0, [(4, 1)])) = o_t (o_l (v 87) (y_ev x (1, [(0, 1)])).toNat)) ∧ True)
    (try rw [O0]); (try rw [O1]); (try rw [O2])
    exact K
def lm_1278 : zLem := (([((-2147483648), 2147483647), ((-2147483648), 2147483647), ((-2147483648), 2147483647), ((-2147483648), 2147483647), ((-2147483648), 2147483647)], [], [], [], [], [], [(260, [(58, []), (0, [(0, 1)]), (0, []), (0, []), (0, []), (0, []), (0, []), (0, []), (0, [(1, 1)]), (0, [(4, 1)]), (0, [(2, 1)])]), (238, [(58, []), (0, [(0, 1)]), (0, []), (0, []), (0, []), (0, []), (0, []), (0, []), (0, [(1, 1)]), (0, [(4, 1)]), (0, [(3, 1)])])]), [([((-2147483648), 2147483647), ((-2147483648), 2147483647), ((-2147483648), 2147483647), ((-2147483648), 2147483647), ((-2147483648), 2147483647)], [], [(0, [(2, 1), (3, (-1))]), (0, [(2, (-1)), (3, 1)])], [], [], [], [])])
theorem lk_1278 : l_core lm_1278 := by
  first
  | skip
    intro v x h
    have K := k_qeOr (V := v) (q := x 0) (x := x 1) (u := x 2) (w := x 3) (y := x 4) (l_c6 (fun w0 w1 w2 w3 w4 w5 : Int => q_qry v w0 w1 w2 w2 w2 w2 w2 w2 w3 w4 w5) (l_e0 x (58)) (l_e1 x 0) (l_e0 x (0)) (l_e1 x 1) (l_e1 x 4) (l_e1 x 2) (h.2.2.2.1)) (l_c6 (fun w0 w1 w2 w3 w4 w5 : Int => q_qry v w0 w1 w2 w2 w2 w2 w2 w2 w3 w4 w5) (l_e0 x (58)) (l_e1 x 0) (l_e0 x (0)) (l_e1 x 1) (l_e1 x 4) (l_e1 x 3) (h.2.2.2.2.1))
    refine l_outH rfl (And.intro h.1 ?_)
    exact l_o2 (fun w0 w1 : Int => (0 ≤ w0 ∧ 0 ≤ w1 ∧ True) ∧ (True)) (l_q5 x 2 3) (l_q4 x 2 3) K
  | skip
    intro v x h
    have E0 : y_ev x (58, []) = 58 := (l_e0 _ _)
    have E1 : y_ev x (0, [(0, 1)]) = x 0 := (l_e1 _ _)
    have E2 : y_ev x (0, []) = 0 := (l_e0 _ _)
    have E3 : y_ev x (0, [(1, 1)]) = x 1 := (l_e1 _ _)
    have E4 : y_ev x (0, [(4, 1)]) = x 4 := (l_e1 _ _)
    have E5 : y_ev x (0, [(2, 1)]) = x 2 := (l_e1 _ _)
    have E6 : y_ev x (0, [(3, 1)]) = x 3 := (l_e1 _ _)
    have T0 : q_qry v (y_ev x (58, [])) (y_ev x (0, [(0, 1)])) (y_ev x (0, [])) (y_ev x (0, [])) (y_ev x (0, [])) (y_ev x (0, [])) (y_ev x (0, [])) (y_ev x (0, [])) (y_ev x (0, [(1, 1)])) (y_ev x (0, [(4, 1)])) (y_ev x (0, [(2, 1)])) := h.2.2.2.1
    (try rw [E0] at T0); (try rw [E1] at T0); (try rw [E2] at T0); (try rw [E3] at T0); (try rw [E4] at T0); (try rw [E5] at T0)
    have T1 : q_qry v (y_ev x (58, [])) (y_ev x (0, [(0, 1)])) (y_ev x (0, [])) (y_ev x (0, [])) (y_ev x (0, [])) (y_ev x (0, [])) (y_ev x (0, [])) (y_ev x (0, [])) (y_ev x (0, [(1, 1)])) (y_ev x (0, [(4, 1)])) (y_ev x (0, [(3, 1)])) := h.2.2.2.2.1
    (try rw [E0] at T1); (try rw [E1] at T1); (try rw [E2] at T1); (try rw [E3] at T1); (try rw [E4] at T1); (try rw [E6] at T1)
    have K := k_qeOr (V := v) (q := x 0) (x := x 1) (u := x 2) (w := x 3) (y := x 4) T0 T1
    refine l_outH rfl (And.intro h.1 ?_)
    have O0 : y_ev x (0, [(2, 1), (3, (-1))]) = x 2 - x 3 := by show ((0) : Int) + ((1) * x 2 + ((-1) * x 3 + 0)) = _; omega
    have O1 : y_ev x (0, [(2, (-1)), (3, 1)]) = x 3 - x 2 := by show ((0) : Int) + ((-1) * x 2 + ((1) * x 3 + 0)) = _; omega
    show (0 ≤ y_ev x (0, [(2, 1), (3, (-1))]) ∧ 0 ≤ y_ev x (0, [(2, (-1)), (3, 1)]) ∧ True) ∧ (True)
    (try rw [O0]); (try rw [O1])
    exact K
def lm_1279 : zLem := (([((-2147483648), 2147483647), ((-2147483648), 2147483647), ((-2147483648), 2147483647), ((-2147483648), 2147483647)], [], [], [], [], [], [(260, [(59, []), (0, [(0, 1)]), (0, []), (0, []), (0, []), (0, []), (0, []), (0, []), (0, [(1, 1)]), (0, []), (0, [(2, 1)])]), (238, [(59, []), (0, [(0, 1)]), (0, []), (0, []), (0, []), (0, []), (0, []), (0, []), (0, [(1, 1)]), (0, []), (0, [(3, 1)])])]), [([((-2147483648), 2147483647), ((-2147483648), 2147483647), ((-2147483648), 2147483647), ((-2147483648), 2147483647)], [], [(0, [(2, 1), (3, (-1))]), (0, [(2, (-1)), (3, 1)])], [], [], [], [])])
theorem lk_1279 : l_core lm_1279 := by
  first
  | skip
    intro v x h
    have K := k_qePr (V := v) (q := x 0) (x := x 1) (u := x 2) (w := x 3) (l_c5 (fun w0 w1 w2 w3 w4 : Int => q_qry v w0 w1 w2 w2 w2 w2 w2 w2 w3 w2 w4) (l_e0 x (59)) (l_e1 x 0) (l_e0 x (0)) (l_e1 x 1) (l_e1 x 2) (h.2.2.2.1)) (l_c5 (fun w0 w1 w2 w3 w4 : Int => q_qry v w0 w1 w2 w2 w2 w2 w2 w2 w3 w2 w4) (l_e0 x (59)) (l_e1 x 0) (l_e0 x (0)) (l_e1 x 1) (l_e1 x 3) (h.2.2.2.2.1))
    refine l_outH rfl (And.intro h.1 ?_)
    exact l_o2 (fun w0 w1 : Int => (0 ≤ w0 ∧ 0 ≤ w1 ∧ True) ∧ (True)) (l_q5 x 2 3) (l_q4 x 2 3) K
  | skip
    intro v x h
    have E0 : y_ev x (59, []) = 59 := (l_e0 _ _)
    have E1 : y_ev x (0, [(0, 1)]) = x 0 := (l_e1 _ _)
    have E2 : y_ev x (0, []) = 0 := (l_e0 _ _)
    have E3 : y_ev x (0, [(1, 1)]) = x 1 := (l_e1 _ _)
    have E4 : y_ev x (0, [(2, 1)]) = x 2 := (l_e1 _ _)
    have E5 : y_ev x (0, [(3, 1)]) = x 3 := (l_e1 _ _)
    have T0 : q_qry v (y_ev x (59, [])) (y_ev x (0, [(0, 1)])) (y_ev x (0, [])) (y_ev x (0, [])) (y_ev x (0, [])) (y_ev x (0, [])) (y_ev x (0, [])) (y_ev x (0, [])) (y_ev x (0, [(1, 1)])) (y_ev x (0, [])) (y_ev x (0, [(2, 1)])) := h.2.2.2.1
    (try rw [E0] at T0); (try rw [E1] at T0); (try rw [E2] at T0); (try rw [E3] at T0); (try rw [E4] at T0)
    have T1 : q_qry v (y_ev x (59, [])) (y_ev x (0, [(0, 1)])) (y_ev x (0, [])) (y_ev x (0, [])) (y_ev x (0, [])) (y_ev x (0, [])) (y_ev x (0, [])) (y_ev x (0, [])) (y_ev x (0, [(1, 1)])) (y_ev x (0, [])) (y_ev x (0, [(3, 1)])) := h.2.2.2.2.1
    (try rw [E0] at T1); (try rw [E1] at T1); (try rw [E2] at T1); (try rw [E3] at T1); (try rw [E5] at T1)
    have K := k_qePr (V := v) (q := x 0) (x := x 1) (u := x 2) (w := x 3) T0 T1
    refine l_outH rfl (And.intro h.1 ?_)
    have O0 : y_ev x (0, [(2, 1), (3, (-1))]) = x 2 - x 3 := by show ((0) : Int) + ((1) * x 2 + ((-1) * x 3 + 0)) = _; omega
    have O1 : y_ev x (0, [(2, (-1)), (3, 1)]) = x 3 - x 2 := by show ((0) : Int) + ((-1) * x 2 + ((1) * x 3 + 0)) = _; omega
    show (0 ≤ y_ev x (0, [(2, 1), (3, (-1))]) ∧ 0 ≤ y_ev x (0, [(2, (-1)), (3, 1)]) ∧ True) ∧ (True)
    (try rw [O0]); (try rw [O1])
    exact K
def lm_1280 : zLem := (([((-2147483648), 2147483647), ((-2147483648), 2147483647), ((-2147483648), 2147483647), ((-2147483648), 2147483647), ((-2147483648), 2147483647)], [], [], [], [], [], [(260, [(60, []), (0, [(0, 1)]), (0, []), (0, []), (0, []), (0, []), (0, []), (0, []), (0, [(1, 1)]), (0, [(4, 1)]), (0, [(2, 1)])]), (238, [(60, []), (0, [(0, 1)]), (0, []), (0, []), (0, []), (0, []), (0, []), (0, []), (0, [(1, 1)]), (0, [(4, 1)]), (0, [(3, 1)])])]), [([((-2147483648), 2147483647), ((-2147483648), 2147483647), ((-2147483648), 2147483647), ((-2147483648), 2147483647), ((-2147483648), 2147483647)], [], [(0, [(2, 1), (3, (-1))]), (0, [(2, (-1)), (3, 1)])], [], [], [], [])])
theorem lk_1280 : l_core lm_1280 := by
  first
  | skip
    intro v x h
    have K := k_qeNr (V := v) (q := x 0) (x := x 1) (u := x 2) (w := x 3) (y := x 4) (l_c6 (fun w0 w1 w2 w3 w4 w5 : Int => q_qry v w0 w1 w2 w2 w2 w2 w2 w2 w3 w4 w5) (l_e0 x (60)) (l_e1 x 0) (l_e0 x (0)) (l_e1 x 1) (l_e1 x 4) (l_e1 x 2) (h.2.2.2.1)) (l_c6 (fun w0 w1 w2 w3 w4 w5 : Int => q_qry v w0 w1 w2 w2 w2 w2 w2 w2 w3 w4 w5) (l_e0 x (60)) (l_e1 x 0) (l_e0 x (0)) (l_e1 x 1) (l_e1 x 4) (l_e1 x 3) (h.2.2.2.2.1))
    refine l_outH rfl (And.intro h.1 ?_)
    exact l_o2 (fun w0 w1 : Int => (0 ≤ w0 ∧ 0 ≤ w1 ∧ True) ∧ (True)) (l_q5 x 2 3) (l_q4 x 2 3) K
  | skip
    intro v x h
    have E0 : y_ev x (60, []) = 60 := (l_e0 _ _)
    have E1 : y_ev x (0, [(0, 1)]) = x 0 := (l_e1 _ _)
    have E2 : y_ev x (0, []) = 0 := (l_e0 _ _)
    have E3 : y_ev x (0, [(1, 1)]) = x 1 := (l_e1 _ _)
    have E4 : y_ev x (0, [(4, 1)]) = x 4 := (l_e1 _ _)
    have E5 : y_ev x (0, [(2, 1)]) = x 2 := (l_e1 _ _)
    have E6 : y_ev x (0, [(3, 1)]) = x 3 := (l_e1 _ _)
    have T0 : q_qry v (y_ev x (60, [])) (y_ev x (0, [(0, 1)])) (y_ev x (0, [])) (y_ev x (0, [])) (y_ev x (0, [])) (y_ev x (0, [])) (y_ev x (0, [])) (y_ev x (0, [])) (y_ev x (0, [(1, 1)])) (y_ev x (0, [(4, 1)])) (y_ev x (0, [(2, 1)])) := h.2.2.2.1
    (try rw [E0] at T0); (try rw [E1] at T0); (try rw [E2] at T0); (try rw [E3] at T0); (try rw [E4] at T0); (try rw [E5] at T0)
    have T1 : q_qry v (y_ev x (60, [])) (y_ev x (0, [(0, 1)])) (y_ev x (0, [])) (y_ev x (0, [])) (y_ev x (0, [])) (y_ev x (0, [])) (y_ev x (0, [])) (y_ev x (0, [])) (y_ev x (0, [(1, 1)])) (y_ev x (0, [(4, 1)])) (y_ev x (0, [(3, 1)])) := h.2.2.2.2.1
    (try rw [E0] at T1); (try rw [E1] at T1); (try rw [E2] at T1); (try rw [E3] at T1); (try rw [E4] at T1); (try rw [E6] at T1)
    have K := k_qeNr (V := v) (q := x 0) (x := x 1) (u := x 2) (w := x 3) (y := x 4) T0 T1
    refine l_outH rfl (And.intro h.1 ?_)
    have O0 : y_ev x (0, [(2, 1), (3, (-1))]) = x 2 - x 3 := by show ((0) : Int) + ((1) * x 2 + ((-1) * x 3 + 0)) = _; omega
    have O1 : y_ev x (0, [(2, (-1)), (3, 1)]) = x 3 - x 2 := by show ((0) : Int) + ((-1) * x 2 + ((1) * x 3 + 0)) = _; omega
    show (0 ≤ y_ev x (0, [(2, 1), (3, (-1))]) ∧ 0 ≤ y_ev x (0, [(2, (-1)), (3, 1)]) ∧ True) ∧ (True)
    (try rw [O0]); (try rw [O1])
    exact K
def lm_1281 : zLem := (([((-2147483648), 2147483647), ((-2147483648), 2147483647), ((-2147483648), 2147483647), ((-2147483648), 2147483647), ((-2147483648), 2147483647), ((-2147483648), 2147483647), ((-2147483648), 2147483647)], [(3, false), (2, false)], [(0, [(0, 1)]), (0, [(1, 1)]), (6, [(1, (-1))])], [], [(0, 0, 0, [(0, 1)])], [(0, (false, 4, 0, []), 0, 0, 0, [(5, 1)]), (1, (false, 7, 0, []), 0, 0, 0, [(6, 1)])], [(235, [(0, [(1, 1)]), (0, [(2, 1)]), (0, [(3, 1)]), (0, [(4, 1)]), (0, []), (0, []), (0, []), (0, []), (0, []), (0, []), (0, [])])]), [([((-2147483648), 2147483647), ((-2147483648), 2147483647), ((-2147483648), 2147483647), ((-2147483648), 2147483647), ((-2147483648), 2147483647), ((-2147483648), 2147483647), ((-2147483648), 2147483647)], [(3, false), (2, false)], [], [], [], [], [(238, [(62, []), (0, [(5, 1)]), (0, []), (0, []), (0, []), (0, []), (0, []), (0, []), (0, [(0, 10), (1, 1)]), (0, [(6, 1)]), (0, [])])])])
theorem lk_1281 : l_core lm_1281 := by
  first
  | skip
    intro v x h
    have K := k_nso0 (V := v) (w := x 0) (H := x 1) (p := x 2) (y := x 3) (d := x 4) (q := x 5) (W := x 6) (l_c5 (fun w0 w1 w2 w3 w4 : Int => q_sto v 0 w0 w1 w2 w3 w4 w4 w4 w4 w4 w4 w4) (l_e1 x 1) (l_e1 x 2) (l_e1 x 3) (l_e1 x 4) (l_e0 x (0)) (h.2.2.2.1)) (l_cc (l_e1 x 0) (h.2.1.1)) (l_cc (l_e1 x 1) (h.2.1.2.1)) (l_cc (l_q1 6 x 1) (h.2.1.2.2.1))
    refine l_outH rfl (And.intro h.1 ?_)
    exact l_o5 (fun w0 w1 w2 w3 w4 : Int => (True) ∧ (q_qry v w0 w1 w2 w2 w2 w2 w2 w2 w3 w4 w2 ∧ True)) (l_e0 x (62)) (l_e1 x 5) (l_e0 x (0)) (l_q10 10 x 0 1) (l_e1 x 6) K
  | skip
    intro v x h
    have C0 : (0 : Int) ≤ x 0 := l_cc (a := y_ev x (0, [(0, 1)])) (l_e1 _ _) (h.2.1.1)
    have C1 : (0 : Int) ≤ x 1 := l_cc (a := y_ev x (0, [(1, 1)])) (l_e1 _ _) (h.2.1.2.1)
    have C2 : (0 : Int) ≤ 6 - x 1 := l_cc (a := y_ev x (6, [(1, (-1))])) (by show ((6) : Int) + ((-1) * x 1 + 0) = 6 - x 1; omega) (h.2.1.2.2.1)
    have E0 : y_ev x (0, [(1, 1)]) = x 1 := (l_e1 _ _)
    have E1 : y_ev x (0, [(2, 1)]) = x 2 := (l_e1 _ _)
    have E2 : y_ev x (0, [(3, 1)]) = x 3 := (l_e1 _ _)
    have E3 : y_ev x (0, [(4, 1)]) = x 4 := (l_e1 _ _)
    have E4 : y_ev x (0, []) = 0 := (l_e0 _ _)
    have T0 : q_sto v 0 (y_ev x (0, [(1, 1)])) (y_ev x (0, [(2, 1)])) (y_ev x (0, [(3, 1)])) (y_ev x (0, [(4, 1)])) (y_ev x (0, [])) (y_ev x (0, [])) (y_ev x (0, [])) (y_ev x (0, [])) (y_ev x (0, [])) (y_ev x (0, [])) (y_ev x (0, [])) := h.2.2.2.1
    (try rw [E0] at T0); (try rw [E1] at T0); (try rw [E2] at T0); (try rw [E3] at T0); (try rw [E4] at T0)
    have K := k_nso0 (V := v) (w := x 0) (H := x 1) (p := x 2) (y := x 3) (d := x 4) (q := x 5) (W := x 6) T0 C0 C1 C2
    refine l_outH rfl (And.intro h.1 ?_)
    have O0 : y_ev x (62, []) = 62 := l_e0 _ _
    have O1 : y_ev x (0, [(5, 1)]) = x 5 := l_e1 _ _
    have O2 : y_ev x (0, []) = 0 := l_e0 _ _
    have O3 : y_ev x (0, [(0, 10), (1, 1)]) = 10 * x 0 + x 1 := by show ((0) : Int) + ((10) * x 0 + ((1) * x 1 + 0)) = _; omega
    have O4 : y_ev x (0, [(6, 1)]) = x 6 := l_e1 _ _
    show (True) ∧ (q_qry v (y_ev x (62, [])) (y_ev x (0, [(5, 1)])) (y_ev x (0, [])) (y_ev x (0, [])) (y_ev x (0, [])) (y_ev x (0, [])) (y_ev x (0, [])) (y_ev x (0, [])) (y_ev x (0, [(0, 10), (1, 1)])) (y_ev x (0, [(6, 1)])) (y_ev x (0, [])) ∧ True)
    (try rw [O0]); (try rw [O1]); (try rw [O2]); (try rw [O3]); (try rw [O4])
    exact K
def lm_1282pc_0 (t : List zL) : List zL := (0, [(1, (-10)), (2, 1), (3, (-1))]) :: (0, [(1, 10), (2, (-1)), (3, 1)]) :: (0, [(1, 1)]) :: (0, [(3, 1)]) :: (6, [(3, (-1))]) :: (0, [(0, 1)]) :: (60, [(0, (-1))]) :: (999, [(1, (-1))]) :: t
def lm_1282pc_1 (t : List zL) : List zL := ((-1), [(6, 1)]) :: t
def lm_1282pg_0 (t : List zTg) : List zTg := (236, [(0, [(3, 1)]), (0, [(11, 1)]), (0, [(12, 1)]), (0, [(13, 1)]), (0, [(14, 1)]), (0, []), (0, []), (4, []), (0, [(0, 1)]), (0, []), (0, [(3, 1)])]) :: (324, [(0, [(1, 1)]), (0, [(4, 1)]), (0, [(5, 1)]), (384, []), (0, [(6, 1)]), (0, [(7, 1)]), (0, [(8, 1)])]) :: (317, [(0, [(1, 1)]), (0, [(5, 1)]), (384, [])]) :: (315, [(0, [(14, 1)]), (0, []), (0, []), (4, []), (0, [(0, 1)]), (0, []), (0, [(3, 1)]), (0, [(3, 1)])]) :: (316, [(0, [(14, 1)]), (0, []), (0, []), (4, []), (0, [(0, 1)]), (0, []), (0, [(3, 1)]), (0, [(3, 1)]), (0, []), (0, [(9, 1)]), (0, [])]) :: (277, [(0, [(14, 1)]), (0, []), (0, []), (4, []), (0, [(0, 1)]), (0, []), (0, [(3, 1)]), (0, [(10, 1)])]) :: (104, [(1, []), (0, [(3, 1)]), (0, [(10, 1)])]) :: (238, [(46, []), (0, [(14, 1)]), (0, []), (0, []), (4, []), (0, [(0, 1)]), (0, []), (0, [(3, 1)]), (6, []), (0, []), (0, [(5, 1)])]) :: t
def lm_1282pg_1 (t : List zTg) : List zTg := (238, [(62, []), (0, [(14, 1)]), (0, []), (0, []), (0, []), (0, []), (0, []), (0, []), (0, [(2, 1)]), (0, [(4, 1)]), (0, [(0, 1)])]) :: t
def lm_1282p : zS := ((lm_624pi_0 (lm_624pi_1 [])), [], (lm_1282pc_0 (lm_1282pc_1 [])), [], [(0, 0, 0, [(1, 1)]), (0, 0, 0, [(0, 1)])], [], (lm_1282pg_0 (lm_1282pg_1 [])))
def lm_1282 : zLem := (lm_1282p, [([((-2147483648), 2147483647), ((-2147483648), 2147483647), ((-2147483648), 2147483647), ((-2147483648), 2147483647), ((-2147483648), 2147483647), ((-2147483648), 2147483647), ((-2147483648), 2147483647), ((-2147483648), 2147483647), ((-2147483648), 2147483647), ((-2147483648), 2147483647), ((-2147483648), 2147483647), ((-2147483648), 2147483647), ((-2147483648), 2147483647), ((-2147483648), 2147483647), ((-2147483648), 2147483647)], [], [], [], [], [], [(260, [(61, []), (0, [(14, 1)]), (0, []), (0, []), (0, []), (0, []), (0, []), (0, []), (0, [(2, 1)]), (0, [(4, 1)]), (0, [(0, 1)])])])])
theorem lk_1282 : l_core lm_1282 := by
  first
  | skip
    intro v x h
    have K := k_sonY (V := v) (n := x 0) (w := x 1) (x := x 2) (H := x 3) (W := x 4) (a_ := x 5) (r := x 6) (p_ := x 7) (i := x 8) (z := x 9) (n2 := x 10) (p := x 11) (y := x 12) (d := x 13) (q := x 14) (l_c8 (fun w0 w1 w2 w3 w4 w5 w6 w7 : Int => q_sto v 1 w0 w1 w2 w3 w4 w5 w5 w6 w7 w5 w0) (l_e1 x 3) (l_e1 x 11) (l_e1 x 12) (l_e1 x 13) (l_e1 x 14) (l_e0 x (0)) (l_e0 x (4)) (l_e1 x 0) (h.2.2.2.1)) (l_c7 (fun w0 w1 w2 w3 w4 w5 w6 : Int => q_not (v 40) (v 34) (o_J (v 35)) w0 w1 w2 w3 w4 w5 w6) (l_e1 x 1) (l_e1 x 4) (l_e1 x 5) (l_e0 x (384)) (l_e1 x 6) (l_e1 x 7) (l_e1 x 8) (h.2.2.2.2.1)) (l_c3 (fun w0 w1 w2 : Int => q_dpt (v 37) (v 38) (v 40) (v 34) (o_J (v 35)) w0 w1 w2) (l_e1 x 1) (l_e1 x 5) (l_e0 x (384)) (h.2.2.2.2.2.1)) (l_c5 (fun w0 w1 w2 w3 w4 : Int => q_sts (v 34) (fun i_ => g_sg (v 20) (g_F v w0 w1 w1 w2 w3 w1 w4 (g_nw v)) i_) w4) (l_e1 x 14) (l_e0 x (0)) (l_e0 x (4)) (l_e1 x 0) (l_e1 x 3) (h.2.2.2.2.2.2.1)) (l_c6 (fun w0 w1 w2 w3 w4 w5 : Int => q_jrw (v 35) (g_jy v w0 (g_F v w0 w1 w1 w2 w3 w1 w4 (g_nw v)) w1) (g_F v w0 w1 w1 w2 w3 w1 w4 (g_nw v)) w4 w1 w5) (l_e1 x 14) (l_e0 x (0)) (l_e0 x (4)) (l_e1 x 0) (l_e1 x 3) (l_e1 x 9) (h.2.2.2.2.2.2.2.1)) (l_c6 (fun w0 w1 w2 w3 w4 w5 : Int => q_smp v w0 w1 w1 w2 w3 w1 w4 w5) (l_e1 x 14) (l_e0 x (0)) (l_e0 x (4)) (l_e1 x 0) (l_e1 x 3) (l_e1 x 10) (h.2.2.2.2.2.2.2.2.1)) (l_c3 (fun w0 w1 w2 : Int => (mOP 104 (Int32.ofInt w0) (Int32.ofInt w1)).toInt = w2) (l_e0 x (1)) (l_e1 x 3) (l_e1 x 10) (h.2.2.2.2.2.2.2.2.2.1)) (l_c8 (fun w0 w1 w2 w3 w4 w5 w6 w7 : Int => q_qry v w0 w1 w2 w2 w3 w4 w2 w5 w6 w2 w7) (l_e0 x (46)) (l_e1 x 14) (l_e0 x (0)) (l_e0 x (4)) (l_e1 x 0) (l_e1 x 3) (l_e0 x (6)) (l_e1 x 5) (h.2.2.2.2.2.2.2.2.2.2.1)) (l_c6 (fun w0 w1 w2 w3 w4 w5 : Int => q_qry v w0 w1 w2 w2 w2 w2 w2 w2 w3 w4 w5) (l_e0 x (62)) (l_e1 x 14) (l_e0 x (0)) (l_e1 x 2) (l_e1 x 4) (l_e1 x 0) (h.2.2.2.2.2.2.2.2.2.2.2.1)) (l_cc (show y_ev x (0, [(1, (-10)), (2, 1), (3, (-1))]) = x 2 - 10 * x 1 - x 3 by show ((0) : Int) + ((-10) * x 1 + ((1) * x 2 + ((-1) * x 3 + 0))) = _; omega) (h.2.1.1)) (l_cc (show y_ev x (0, [(1, 10), (2, (-1)), (3, 1)]) = 10 * x 1 + x 3 - x 2 by show ((0) : Int) + ((10) * x 1 + ((-1) * x 2 + ((1) * x 3 + 0))) = _; omega) (h.2.1.2.1)) (l_cc (l_e1 x 1) (h.2.1.2.2.1)) (l_cc (l_e1 x 3) (h.2.1.2.2.2.1)) (l_cc (l_q1 6 x 3) (h.2.1.2.2.2.2.1)) (l_cc (l_e1 x 0) (h.2.1.2.2.2.2.2.1)) (l_cc (l_q1 60 x 0) (h.2.1.2.2.2.2.2.2.1)) (l_cc (l_q1 999 x 1) (h.2.1.2.2.2.2.2.2.2.1)) (l_cc (l_q2 1 x 6) (h.2.1.2.2.2.2.2.2.2.2.1))
    refine l_outH rfl (And.intro h.1 ?_)
    exact l_o6 (fun w0 w1 w2 w3 w4 w5 : Int => (True) ∧ (q_qry v w0 w1 w2 w2 w2 w2 w2 w2 w3 w4 w5 ∧ True)) (l_e0 x (61)) (l_e1 x 14) (l_e0 x (0)) (l_e1 x 2) (l_e1 x 4) (l_e1 x 0) K
  | skip
    intro v x h
    have C0 : (0 : Int) ≤ x 2 - 10 * x 1 - x 3 := l_cc (a := y_ev x (0, [(1, (-10)), (2, 1), (3, (-1))])) (by show ((0) : Int) + ((-10) * x 1 + ((1) * x 2 + ((-1) * x 3 + 0))) = x 2 - 10 * x 1 - x 3; omega) (h.2.1.1)
    have C1 : (0 : Int) ≤ 10 * x 1 + x 3 - x 2 := l_cc (a := y_ev x (0, [(1, 10), (2, (-1)), (3, 1)])) (by show ((0) : Int) + ((10) * x 1 + ((-1) * x 2 + ((1) * x 3 + 0))) = 10 * x 1 + x 3 - x 2; omega) (h.2.1.2.1)
    have C2 : (0 : Int) ≤ x 1 := l_cc (a := y_ev x (0, [(1, 1)])) (l_e1 _ _) (h.2.1.2.2.1)
    have C3 : (0 : Int) ≤ x 3 := l_cc (a := y_ev x (0, [(3, 1)])) (l_e1 _ _) (h.2.1.2.2.2.1)
    have C4 : (0 : Int) ≤ 6 - x 3 := l_cc (a := y_ev x (6, [(3, (-1))])) (by show ((6) : Int) + ((-1) * x 3 + 0) = 6 - x 3; omega) (h.2.1.2.2.2.2.1)
    have C5 : (0 : Int) ≤ x 0 := l_cc (a := y_ev x (0, [(0, 1)])) (l_e1 _ _) (h.2.1.2.2.2.2.2.1)
    have C6 : (0 : Int) ≤ 60 - x 0 := l_cc (a := y_ev x (60, [(0, (-1))])) (by show ((60) : Int) + ((-1) * x 0 + 0) = 60 - x 0; omega) (h.2.1.2.2.2.2.2.2.1)
    have C7 : (0 : Int) ≤ 999 - x 1 := l_cc (a := y_ev x (999, [(1, (-1))])) (by show ((999) : Int) + ((-1) * x 1 + 0) = 999 - x 1; omega) (h.2.1.2.2.2.2.2.2.2.1)
    have C8 : (0 : Int) ≤ x 6 - 1 := l_cc (a := y_ev x ((-1), [(6, 1)])) (by show ((-1) : Int) + ((1) * x 6 + 0) = x 6 - 1; omega) (h.2.1.2.2.2.2.2.2.2.2.1)
    have E0 : y_ev x (0, [(3, 1)]) = x 3 := (l_e1 _ _)
    have E1 : y_ev x (0, [(11, 1)]) = x 11 := (l_e1 _ _)
    have E2 : y_ev x (0, [(12, 1)]) = x 12 := (l_e1 _ _)
    have E3 : y_ev x (0, [(13, 1)]) = x 13 := (l_e1 _ _)
    have E4 : y_ev x (0, [(14, 1)]) = x 14 := (l_e1 _ _)
    have E5 : y_ev x (0, []) = 0 := (l_e0 _ _)
    have E6 : y_ev x (4, []) = 4 := (l_e0 _ _)
    have E7 : y_ev x (0, [(0, 1)]) = x 0 := (l_e1 _ _)
    have E8 : y_ev x (0, [(1, 1)]) = x 1 := (l_e1 _ _)
    have E9 : y_ev x (0, [(4, 1)]) = x 4 := (l_e1 _ _)
    have E10 : y_ev x (0, [(5, 1)]) = x 5 := (l_e1 _ _)
    have E11 : y_ev x (384, []) = 384 := (l_e0 _ _)
    have E12 : y_ev x (0, [(6, 1)]) = x 6 := (l_e1 _ _)
    have E13 : y_ev x (0, [(7, 1)]) = x 7 := (l_e1 _ _)
    have E14 : y_ev x (0, [(8, 1)]) = x 8 := (l_e1 _ _)
    have E15 : y_ev x (0, [(9, 1)]) = x 9 := (l_e1 _ _)
    have E16 : y_ev x (0, [(10, 1)]) = x 10 := (l_e1 _ _)
    have E17 : y_ev x (1, []) = 1 := (l_e0 _ _)
    have E18 : y_ev x (46, []) = 46 := (l_e0 _ _)
    have E19 : y_ev x (6, []) = 6 := (l_e0 _ _)
    have E20 : y_ev x (62, []) = 62 := (l_e0 _ _)
    have E21 : y_ev x (0, [(2, 1)]) = x 2 := (l_e1 _ _)
    have T0 : q_sto v 1 (y_ev x (0, [(3, 1)])) (y_ev x (0, [(11, 1)])) (y_ev x (0, [(12, 1)])) (y_ev x (0, [(13, 1)])) (y_ev x (0, [(14, 1)])) (y_ev x (0, [])) (y_ev x (0, [])) (y_ev x (4, [])) (y_ev x (0, [(0, 1)])) (y_ev x (0, [])) (y_ev x (0, [(3, 1)])) := h.2.2.2.1
    (try rw [E0] at T0); (try rw [E1] at T0); (try rw [E2] at T0); (try rw [E3] at T0); (try rw [E4] at T0); (try rw [E5] at T0); (try rw [E6] at T0); (try rw [E7] at T0)
    have T1 : q_not (v 40) (v 34) (o_J (v 35)) (y_ev x (0, [(1, 1)])) (y_ev x (0, [(4, 1)])) (y_ev x (0, [(5, 1)])) (y_ev x (384, [])) (y_ev x (0, [(6, 1)])) (y_ev x (0, [(7, 1)])) (y_ev x (0, [(8, 1)])) := h.2.2.2.2.1
    (try rw [E8] at T1); (try rw [E9] at T1); (try rw [E10] at T1); (try rw [E11] at T1); (try rw [E12] at T1); (try rw [E13] at T1); (try rw [E14] at T1)
    have T2 : q_dpt (v 37) (v 38) (v 40) (v 34) (o_J (v 35)) (y_ev x (0, [(1, 1)])) (y_ev x (0, [(5, 1)])) (y_ev x (384, [])) := h.2.2.2.2.2.1
    (try rw [E8] at T2); (try rw [E10] at T2); (try rw [E11] at T2)
    have T3 : q_sts (v 34) (fun i_ => g_sg (v 20) (g_F v (y_ev x (0, [(14, 1)])) (y_ev x (0, [])) (y_ev x (0, [])) (y_ev x (4, [])) (y_ev x (0, [(0, 1)])) (y_ev x (0, [])) (y_ev x (0, [(3, 1)])) (g_nw v)) i_) (y_ev x (0, [(3, 1)])) := h.2.2.2.2.2.2.1
    (try rw [E4] at T3); (try rw [E5] at T3); (try rw [E6] at T3); (try rw [E7] at T3); (try rw [E0] at T3)
    have T4 : q_jrw (v 35) (g_jy v (y_ev x (0, [(14, 1)])) (g_F v (y_ev x (0, [(14, 1)])) (y_ev x (0, [])) (y_ev x (0, [])) (y_ev x (4, [])) (y_ev x (0, [(0, 1)])) (y_ev x (0, [])) (y_ev x (0, [(3, 1)])) (g_nw v)) (y_ev x (0, []))) (g_F v (y_ev x (0, [(14, 1)])) (y_ev x (0, [])) (y_ev x (0, [])) (y_ev x (4, [])) (y_ev x (0, [(0, 1)])) (y_ev x (0, [])) (y_ev x (0, [(3, 1)])) (g_nw v)) (y_ev x (0, [(3, 1)])) (y_ev x (0, [])) (y_ev x (0, [(9, 1)])) := h.2.2.2.2.2.2.2.1
    (try rw [E4] at T4); (try rw [E5] at T4); (try rw [E6] at T4); (try rw [E7] at T4); (try rw [E0] at T4); (try rw [E15] at T4)
    have T5 : q_smp v (y_ev x (0, [(14, 1)])) (y_ev x (0, [])) (y_ev x (0, [])) (y_ev x (4, [])) (y_ev x (0, [(0, 1)])) (y_ev x (0, [])) (y_ev x (0, [(3, 1)])) (y_ev x (0, [(10, 1)])) := h.2.2.2.2.2.2.2.2.1
    (try rw [E4] at T5); (try rw [E5] at T5); (try rw [E6] at T5); (try rw [E7] at T5); (try rw [E0] at T5); (try rw [E16] at T5)
    have T6 : (mOP 104 (Int32.ofInt (y_ev x (1, []))) (Int32.ofInt (y_ev x (0, [(3, 1)])))).toInt = (y_ev x (0, [(10, 1)])) := h.2.2.2.2.2.2.2.2.2.1
    (try rw [E17] at T6); (try rw [E0] at T6); (try rw [E16] at T6)
    have T7 : q_qry v (y_ev x (46, [])) (y_ev x (0, [(14, 1)])) (y_ev x (0, [])) (y_ev x (0, [])) (y_ev x (4, [])) (y_ev x (0, [(0, 1)])) (y_ev x (0, [])) (y_ev x (0, [(3, 1)])) (y_ev x (6, [])) (y_ev x (0, [])) (y_ev x (0, [(5, 1)])) := h.2.2.2.2.2.2.2.2.2.2.1
    (try rw [E18] at T7); (try rw [E4] at T7); (try rw [E5] at T7); (try rw [E6] at T7); (try rw [E7] at T7); (try rw [E0] at T7); (try rw [E19] at T7); (try rw [E10] at T7)
    have T8 : q_qry v (y_ev x (62, [])) (y_ev x (0, [(14, 1)])) (y_ev x (0, [])) (y_ev x (0, [])) (y_ev x (0, [])) (y_ev x (0, [])) (y_ev x (0, [])) (y_ev x (0, [])) (y_ev x (0, [(2, 1)])) (y_ev x (0, [(4, 1)])) (y_ev x (0, [(0, 1)])) := h.2.2.2.2.2.2.2.2.2.2.2.1
    (try rw [E20] at T8); (try rw [E4] at T8); (try rw [E5] at T8); (try rw [E21] at T8); (try rw [E9] at T8); (try rw [E7] at T8)
    have K := k_sonY (V := v) (n := x 0) (w := x 1) (x := x 2) (H := x 3) (W := x 4) (a_ := x 5) (r := x 6) (p_ := x 7) (i := x 8) (z := x 9) (n2 := x 10) (p := x 11) (y := x 12) (d := x 13) (q := x 14) T0 T1 T2 T3 T4 T5 T6 T7 T8 C0 C1 C2 C3 C4 C5 C6 C7 C8
    refine l_outH rfl (And.intro h.1 ?_)
    have O0 : y_ev x (61, []) = 61 := l_e0 _ _
    have O1 : y_ev x (0, [(14, 1)]) = x 14 := l_e1 _ _
    have O2 : y_ev x (0, []) = 0 := l_e0 _ _
    have O3 : y_ev x (0, [(2, 1)]) = x 2 := l_e1 _ _
    have O4 : y_ev x (0, [(4, 1)]) = x 4 := l_e1 _ _
    have O5 : y_ev x (0, [(0, 1)]) = x 0 := l_e1 _ _
    show (True) ∧ (q_qry v (y_ev x (61, [])) (y_ev x (0, [(14, 1)])) (y_ev x (0, [])) (y_ev x (0, [])) (y_ev x (0, [])) (y_ev x (0, [])) (y_ev x (0, [])) (y_ev x (0, [])) (y_ev x (0, [(2, 1)])) (y_ev x (0, [(4, 1)])) (y_ev x (0, [(0, 1)])) ∧ True)
    (try rw [O0]); (try rw [O1]); (try rw [O2]); (try rw [O3]); (try rw [O4]); (try rw [O5])
    exact K
def lm_1283p : zS := ((lm_624pi_0 (lm_624pi_1 [])), [], [(0, [(1, (-10)), (2, 1), (3, (-1))]), (0, [(1, 10), (2, (-1)), (3, 1)]), (0, [(1, 1)]), (0, [(3, 1)]), (6, [(3, (-1))]), (0, [(0, 1)]), (999, [(1, (-1))]), (0, [(6, (-1))])], [], [(0, 0, 0, [(1, 1)]), (0, 0, 0, [(0, 1)])], [], (lm_1282pg_0 (lm_1282pg_1 [])))
def lm_1283 : zLem := (lm_1283p, [([((-2147483648), 2147483647), ((-2147483648), 2147483647), ((-2147483648), 2147483647), ((-2147483648), 2147483647), ((-2147483648), 2147483647), ((-2147483648), 2147483647), ((-2147483648), 2147483647), ((-2147483648), 2147483647), ((-2147483648), 2147483647), ((-2147483648), 2147483647), ((-2147483648), 2147483647), ((-2147483648), 2147483647), ((-2147483648), 2147483647), ((-2147483648), 2147483647), ((-2147483648), 2147483647)], [], [], [], [], [], [(238, [(62, []), (0, [(14, 1)]), (0, []), (0, []), (0, []), (0, []), (0, []), (0, []), (0, [(2, 1)]), (0, [(4, 1)]), (1, [(0, 1)])])])])
theorem lk_1283 : l_core lm_1283 := by
  first
  | skip
    intro v x h
    have K := k_sonN (V := v) (n := x 0) (w := x 1) (x := x 2) (H := x 3) (W := x 4) (a_ := x 5) (r := x 6) (p_ := x 7) (i := x 8) (z := x 9) (n2 := x 10) (p := x 11) (y := x 12) (d := x 13) (q := x 14) (l_c8 (fun w0 w1 w2 w3 w4 w5 w6 w7 : Int => q_sto v 1 w0 w1 w2 w3 w4 w5 w5 w6 w7 w5 w0) (l_e1 x 3) (l_e1 x 11) (l_e1 x 12) (l_e1 x 13) (l_e1 x 14) (l_e0 x (0)) (l_e0 x (4)) (l_e1 x 0) (h.2.2.2.1)) (l_c7 (fun w0 w1 w2 w3 w4 w5 w6 : Int => q_not (v 40) (v 34) (o_J (v 35)) w0 w1 w2 w3 w4 w5 w6) (l_e1 x 1) (l_e1 x 4) (l_e1 x 5) (l_e0 x (384)) (l_e1 x 6) (l_e1 x 7) (l_e1 x 8) (h.2.2.2.2.1)) (l_c3 (fun w0 w1 w2 : Int => q_dpt (v 37) (v 38) (v 40) (v 34) (o_J (v 35)) w0 w1 w2) (l_e1 x 1) (l_e1 x 5) (l_e0 x (384)) (h.2.2.2.2.2.1)) (l_c5 (fun w0 w1 w2 w3 w4 : Int => q_sts (v 34) (fun i_ => g_sg (v 20) (g_F v w0 w1 w1 w2 w3 w1 w4 (g_nw v)) i_) w4) (l_e1 x 14) (l_e0 x (0)) (l_e0 x (4)) (l_e1 x 0) (l_e1 x 3) (h.2.2.2.2.2.2.1)) (l_c6 (fun w0 w1 w2 w3 w4 w5 : Int => q_jrw (v 35) (g_jy v w0 (g_F v w0 w1 w1 w2 w3 w1 w4 (g_nw v)) w1) (g_F v w0 w1 w1 w2 w3 w1 w4 (g_nw v)) w4 w1 w5) (l_e1 x 14) (l_e0 x (0)) (l_e0 x (4)) (l_e1 x 0) (l_e1 x 3) (l_e1 x 9) (h.2.2.2.2.2.2.2.1)) (l_c6 (fun w0 w1 w2 w3 w4 w5 : Int => q_smp v w0 w1 w1 w2 w3 w1 w4 w5) (l_e1 x 14) (l_e0 x (0)) (l_e0 x (4)) (l_e1 x 0) (l_e1 x 3) (l_e1 x 10) (h.2.2.2.2.2.2.2.2.1)) (l_c3 (fun w0 w1 w2 : Int => (mOP 104 (Int32.ofInt w0) (Int32.ofInt w1)).toInt = w2) (l_e0 x (1)) (l_e1 x 3) (l_e1 x 10) (h.2.2.2.2.2.2.2.2.2.1)) (l_c8 (fun w0 w1 w2 w3 w4 w5 w6 w7 : Int => q_qry v w0 w1 w2 w2 w3 w4 w2 w5 w6 w2 w7) (l_e0 x (46)) (l_e1 x 14) (l_e0 x (0)) (l_e0 x (4)) (l_e1 x 0) (l_e1 x 3) (l_e0 x (6)) (l_e1 x 5) (h.2.2.2.2.2.2.2.2.2.2.1)) (l_c6 (fun w0 w1 w2 w3 w4 w5 : Int => q_qry v w0 w1 w2 w2 w2 w2 w2 w2 w3 w4 w5) (l_e0 x (62)) (l_e1 x 14) (l_e0 x (0)) (l_e1 x 2) (l_e1 x 4) (l_e1 x 0) (h.2.2.2.2.2.2.2.2.2.2.2.1)) (l_cc (show y_ev x (0, [(1, (-10)), (2, 1), (3, (-1))]) = x 2 - 10 * x 1 - x 3 by show ((0) : Int) + ((-10) * x 1 + ((1) * x 2 + ((-1) * x 3 + 0))) = _; omega) (h.2.1.1)) (l_cc (show y_ev x (0, [(1, 10), (2, (-1)), (3, 1)]) = 10 * x 1 + x 3 - x 2 by show ((0) : Int) + ((10) * x 1 + ((-1) * x 2 + ((1) * x 3 + 0))) = _; omega) (h.2.1.2.1)) (l_cc (l_e1 x 1) (h.2.1.2.2.1)) (l_cc (l_e1 x 3) (h.2.1.2.2.2.1)) (l_cc (l_q1 6 x 3) (h.2.1.2.2.2.2.1)) (l_cc (l_e1 x 0) (h.2.1.2.2.2.2.2.1)) (l_cc (l_q1 999 x 1) (h.2.1.2.2.2.2.2.2.1)) (l_cc (l_q7 x 6) (h.2.1.2.2.2.2.2.2.2.1))
    refine l_outH rfl (And.intro h.1 ?_)
    exact l_o6 (fun w0 w1 w2 w3 w4 w5 : Int => (True) ∧ (q_qry v w0 w1 w2 w2 w2 w2 w2 w2 w3 w4 w5 ∧ True)) (l_e0 x (62)) (l_e1 x 14) (l_e0 x (0)) (l_e1 x 2) (l_e1 x 4) (l_q3 1 x 0) K
  | skip
    intro v x h
    have C0 : (0 : Int) ≤ x 2 - 10 * x 1 - x 3 := l_cc (a := y_ev x (0, [(1, (-10)), (2, 1), (3, (-1))])) (by show ((0) : Int) + ((-10) * x 1 + ((1) * x 2 + ((-1) * x 3 + 0))) = x 2 - 10 * x 1 - x 3; omega) (h.2.1.1)
    have C1 : (0 : Int) ≤ 10 * x 1 + x 3 - x 2 := l_cc (a := y_ev x (0, [(1, 10), (2, (-1)), (3, 1)])) (by show ((0) : Int) + ((10) * x 1 + ((-1) * x 2 + ((1) * x 3 + 0))) = 10 * x 1 + x 3 - x 2; omega) (h.2.1.2.1)
    have C2 : (0 : Int) ≤ x 1 := l_cc (a := y_ev x (0, [(1, 1)])) (l_e1 _ _) (h.2.1.2.2.1)
    have C3 : (0 : Int) ≤ x 3 := l_cc (a := y_ev x (0, [(3, 1)])) (l_e1 _ _) (h.2.1.2.2.2.1)
    have C4 : (0 : Int) ≤ 6 - x 3 := l_cc (a := y_ev x (6, [(3, (-1))])) (by show ((6) : Int) + ((-1) * x 3 + 0) = 6 - x 3; omega) (h.2.1.2.2.2.2.1)
    have C5 : (0 : Int) ≤ x 0 := l_cc (a := y_ev x (0, [(0, 1)])) (l_e1 _ _) (h.2.1.2.2.2.2.2.1)
    have C6 : (0 : Int) ≤ 999 - x 1 := l_cc (a := y_ev x (999, [(1, (-1))])) (by show ((999) : Int) + ((-1) * x 1 + 0) = 999 - x 1; omega) (h.2.1.2.2.2.2.2.2.1)
    have C7 : (0 : Int) ≤ -x 6 := l_cc (a := y_ev x (0, [(6, (-1))])) (by show ((0) : Int) + ((-1) * x 6 + 0) = -x 6; omega) (h.2.1.2.2.2.2.2.2.2.1)
    have E0 : y_ev x (0, [(3, 1)]) = x 3 := (l_e1 _ _)
    have E1 : y_ev x (0, [(11, 1)]) = x 11 := (l_e1 _ _)
    have E2 : y_ev x (0, [(12, 1)]) = x 12 := (l_e1 _ _)
    have E3 : y_ev x (0, [(13, 1)]) = x 13 := (l_e1 _ _)
    have E4 : y_ev x (0, [(14, 1)]) = x 14 := (l_e1 _ _)
    have E5 : y_ev x (0, []) = 0 := (l_e0 _ _)
    have E6 : y_ev x (4, []) = 4 := (l_e0 _ _)
    have E7 : y_ev x (0, [(0, 1)]) = x 0 := (l_e1 _ _)
    have E8 : y_ev x (0, [(1, 1)]) = x 1 := (l_e1 _ _)
    have E9 : y_ev x (0, [(4, 1)]) = x 4 := (l_e1 _ _)
    have E10 : y_ev x (0, [(5, 1)]) = x 5 := (l_e1 _ _)
    have E11 : y_ev x (384, []) = 384 := (l_e0 _ _)
    have E12 : y_ev x (0, [(6, 1)]) = x 6 := (l_e1 _ _)
    have E13 : y_ev x (0, [(7, 1)]) = x 7 := (l_e1 _ _)
    have E14 : y_ev x (0, [(8, 1)]) = x 8 := (l_e1 _ _)
    have E15 : y_ev x (0, [(9, 1)]) = x 9 := (l_e1 _ _)
    have E16 : y_ev x (0, [(10, 1)]) = x 10 := (l_e1 _ _)
    have E17 : y_ev x (1, []) = 1 := (l_e0 _ _)
    have E18 : y_ev x (46, []) = 46 := (l_e0 _ _)
    have E19 : y_ev x (6, []) = 6 := (l_e0 _ _)
    have E20 : y_ev x (62, []) = 62 := (l_e0 _ _)
    have E21 : y_ev x (0, [(2, 1)]) = x 2 := (l_e1 _ _)
    have T0 : q_sto v 1 (y_ev x (0, [(3, 1)])) (y_ev x (0, [(11, 1)])) (y_ev x (0, [(12, 1)])) (y_ev x (0, [(13, 1)])) (y_ev x (0, [(14, 1)])) (y_ev x (0, [])) (y_ev x (0, [])) (y_ev x (4, [])) (y_ev x (0, [(0, 1)])) (y_ev x (0, [])) (y_ev x (0, [(3, 1)])) := h.2.2.2.1
    (try rw [E0] at T0); (try rw [E1] at T0); (try rw [E2] at T0); (try rw [E3] at T0); (try rw [E4] at T0); (try rw [E5] at T0); (try rw [E6] at T0); (try rw [E7] at T0)
    have T1 : q_not (v 40) (v 34) (o_J (v 35)) (y_ev x (0, [(1, 1)])) (y_ev x (0, [(4, 1)])) (y_ev x (0, [(5, 1)])) (y_ev x (384, [])) (y_ev x (0, [(6, 1)])) (y_ev x (0, [(7, 1)])) (y_ev x (0, [(8, 1)])) := h.2.2.2.2.1
    (try rw [E8] at T1); (try rw [E9] at T1); (try rw [E10] at T1); (try rw [E11] at T1); (try rw [E12] at T1); (try rw [E13] at T1); (try rw [E14] at T1)
    have T2 : q_dpt (v 37) (v 38) (v 40) (v 34) (o_J (v 35)) (y_ev x (0, [(1, 1)])) (y_ev x (0, [(5, 1)])) (y_ev x (384, [])) := h.2.2.2.2.2.1
    (try rw [E8] at T2); (try rw [E10] at T2); (try rw [E11] at T2)
    have T3 : q_sts (v 34) (fun i_ => g_sg (v 20) (g_F v (y_ev x (0, [(14, 1)])) (y_ev x (0, [])) (y_ev x (0, [])) (y_ev x (4, [])) (y_ev x (0, [(0, 1)])) (y_ev x (0, [])) (y_ev x (0, [(3, 1)])) (g_nw v)) i_) (y_ev x (0, [(3, 1)])) := h.2.2.2.2.2.2.1
    (try rw [E4] at T3); (try rw [E5] at T3); (try rw [E6] at T3); (try rw [E7] at T3); (try rw [E0] at T3)
    have T4 : q_jrw (v 35) (g_jy v (y_ev x (0, [(14, 1)])) (g_F v (y_ev x (0, [(14, 1)])) (y_ev x (0, [])) (y_ev x (0, [])) (y_ev x (4, [])) (y_ev x (0, [(0, 1)])) (y_ev x (0, [])) (y_ev x (0, [(3, 1)])) (g_nw v)) (y_ev x (0, []))) (g_F v (y_ev x (0, [(14, 1)])) (y_ev x (0, [])) (y_ev x (0, [])) (y_ev x (4, [])) (y_ev x (0, [(0, 1)])) (y_ev x (0, [])) (y_ev x (0, [(3, 1)])) (g_nw v)) (y_ev x (0, [(3, 1)])) (y_ev x (0, [])) (y_ev x (0, [(9, 1)])) := h.2.2.2.2.2.2.2.1
    (try rw [E4] at T4); (try rw [E5] at T4); (try rw [E6] at T4); (try rw [E7] at T4); (try rw [E0] at T4); (try rw [E15] at T4)
    have T5 : q_smp v (y_ev x (0, [(14, 1)])) (y_ev x (0, [])) (y_ev x (0, [])) (y_ev x (4, [])) (y_ev x (0, [(0, 1)])) (y_ev x (0, [])) (y_ev x (0, [(3, 1)])) (y_ev x (0, [(10, 1)])) := h.2.2.2.2.2.2.2.2.1
    (try rw [E4] at T5); (try rw [E5] at T5); (try rw [E6] at T5); (try rw [E7] at T5); (try rw [E0] at T5); (try rw [E16] at T5)
    have T6 : (mOP 104 (Int32.ofInt (y_ev x (1, []))) (Int32.ofInt (y_ev x (0, [(3, 1)])))).toInt = (y_ev x (0, [(10, 1)])) := h.2.2.2.2.2.2.2.2.2.1
    (try rw [E17] at T6); (try rw [E0] at T6); (try rw [E16] at T6)
    have T7 : q_qry v (y_ev x (46, [])) (y_ev x (0, [(14, 1)])) (y_ev x (0, [])) (y_ev x (0, [])) (y_ev x (4, [])) (y_ev x (0, [(0, 1)])) (y_ev x (0, [])) (y_ev x (0, [(3, 1)])) (y_ev x (6, [])) (y_ev x (0, [])) (y_ev x (0, [(5, 1)])) := h.2.2.2.2.2.2.2.2.2.2.1
    (try rw [E18] at T7); (try rw [E4] at T7); (try rw [E5] at T7); (try rw [E6] at T7); (try rw [E7] at T7); (try rw [E0] at T7); (try rw [E19] at T7); (try rw [E10] at T7)
    have T8 : q_qry v (y_ev x (62, [])) (y_ev x (0, [(14, 1)])) (y_ev x (0, [])) (y_ev x (0, [])) (y_ev x (0, [])) (y_ev x (0, [])) (y_ev x (0, [])) (y_ev x (0, [])) (y_ev x (0, [(2, 1)])) (y_ev x (0, [(4, 1)])) (y_ev x (0, [(0, 1)])) := h.2.2.2.2.2.2.2.2.2.2.2.1
    (try rw [E20] at T8); (try rw [E4] at T8); (try rw [E5] at T8); (try rw [E21] at T8); (try rw [E9] at T8); (try rw [E7] at T8)
    have K := k_sonN (V := v) (n := x 0) (w := x 1) (x := x 2) (H := x 3) (W := x 4) (a_ := x 5) (r := x 6) (p_ := x 7) (i := x 8) (z := x 9) (n2 := x 10) (p := x 11) (y := x 12) (d := x 13) (q := x 14) T0 T1 T2 T3 T4 T5 T6 T7 T8 C0 C1 C2 C3 C4 C5 C6 C7
    refine l_outH rfl (And.intro h.1 ?_)
    have O0 : y_ev x (62, []) = 62 := l_e0 _ _
    have O1 : y_ev x (0, [(14, 1)]) = x 14 := l_e1 _ _
    have O2 : y_ev x (0, []) = 0 := l_e0 _ _
    have O3 : y_ev x (0, [(2, 1)]) = x 2 := l_e1 _ _
    have O4 : y_ev x (0, [(4, 1)]) = x 4 := l_e1 _ _
    have O5 : y_ev x (1, [(0, 1)]) = x 0 + 1 := by show ((1) : Int) + ((1) * x 0 + 0) = _; omega
    show (True) ∧ (q_qry v (y_ev x (62, [])) (y_ev x (0, [(14, 1)])) (y_ev x (0, [])) (y_ev x (0, [])) (y_ev x (0, [])) (y_ev x (0, [])) (y_ev x (0, [])) (y_ev x (0, [])) (y_ev x (0, [(2, 1)])) (y_ev x (0, [(4, 1)])) (y_ev x (1, [(0, 1)])) ∧ True)
    (try rw [O0]); (try rw [O1]); (try rw [O2]); (try rw [O3]); (try rw [O4]); (try rw [O5])
    exact K
def lm_1284 : zLem := (([((-2147483648), 2147483647), ((-2147483648), 2147483647), ((-2147483648), 2147483647), ((-2147483648), 2147483647)], [], [((-61), [(0, 1)])], [], [(0, 0, 0, [(0, 1)])], [], [(238, [(62, []), (0, [(2, 1)]), (0, []), (0, []), (0, []), (0, []), (0, []), (0, []), (0, [(1, 1)]), (0, [(3, 1)]), (0, [(0, 1)])])]), [([((-2147483648), 2147483647), ((-2147483648), 2147483647), ((-2147483648), 2147483647), ((-2147483648), 2147483647)], [], [], [], [], [], [(260, [(61, []), (0, [(2, 1)]), (0, []), (0, []), (0, []), (0, []), (0, []), (0, []), (0, [(1, 1)]), (0, [(3, 1)]), ((-2), [])])])])
theorem lk_1284 : l_core lm_1284 := by
  first
  | skip
    intro v x h
    have K := k_sonZ (V := v) (n := x 0) (x := x 1) (q := x 2) (W := x 3) (l_c6 (fun w0 w1 w2 w3 w4 w5 : Int => q_qry v w0 w1 w2 w2 w2 w2 w2 w2 w3 w4 w5) (l_e0 x (62)) (l_e1 x 2) (l_e0 x (0)) (l_e1 x 1) (l_e1 x 3) (l_e1 x 0) (h.2.2.2.1)) (l_cc (l_q2 61 x 0) (h.2.1.1))
    refine l_outH rfl (And.intro h.1 ?_)
    exact l_o6 (fun w0 w1 w2 w3 w4 w5 : Int => (True) ∧ (q_qry v w0 w1 w2 w2 w2 w2 w2 w2 w3 w4 w5 ∧ True)) (l_e0 x (61)) (l_e1 x 2) (l_e0 x (0)) (l_e1 x 1) (l_e1 x 3) (l_e0 x (-2)) K
  | skip
    intro v x h
    have C0 : (0 : Int) ≤ x 0 - 61 := l_cc (a := y_ev x ((-61), [(0, 1)])) (by show ((-61) : Int) + ((1) * x 0 + 0) = x 0 - 61; omega) (h.2.1.1)
    have E0 : y_ev x (62, []) = 62 := (l_e0 _ _)
    have E1 : y_ev x (0, [(2, 1)]) = x 2 := (l_e1 _ _)
    have E2 : y_ev x (0, []) = 0 := (l_e0 _ _)
    have E3 : y_ev x (0, [(1, 1)]) = x 1 := (l_e1 _ _)
    have E4 : y_ev x (0, [(3, 1)]) = x 3 := (l_e1 _ _)
    have E5 : y_ev x (0, [(0, 1)]) = x 0 := (l_e1 _ _)
    have T0 : q_qry v (y_ev x (62, [])) (y_ev x (0, [(2, 1)])) (y_ev x (0, [])) (y_ev x (0, [])) (y_ev x (0, [])) (y_ev x (0, [])) (y_ev x (0, [])) (y_ev x (0, [])) (y_ev x (0, [(1, 1)])) (y_ev x (0, [(3, 1)])) (y_ev x (0, [(0, 1)])) := h.2.2.2.1
    (try rw [E0] at T0); (try rw [E1] at T0); (try rw [E2] at T0); (try rw [E3] at T0); (try rw [E4] at T0); (try rw [E5] at T0)
    have K := k_sonZ (V := v) (n := x 0) (x := x 1) (q := x 2) (W := x 3) T0 C0
    refine l_outH rfl (And.intro h.1 ?_)
    have O0 : y_ev x (61, []) = 61 := l_e0 _ _
    have O1 : y_ev x (0, [(2, 1)]) = x 2 := l_e1 _ _
    have O2 : y_ev x (0, []) = 0 := l_e0 _ _
    have O3 : y_ev x (0, [(1, 1)]) = x 1 := l_e1 _ _
    have O4 : y_ev x (0, [(3, 1)]) = x 3 := l_e1 _ _
    have O5 : y_ev x ((-2), []) = (-2) := l_e0 _ _
    show (True) ∧ (q_qry v (y_ev x (61, [])) (y_ev x (0, [(2, 1)])) (y_ev x (0, [])) (y_ev x (0, [])) (y_ev x (0, [])) (y_ev x (0, [])) (y_ev x (0, [])) (y_ev x (0, [])) (y_ev x (0, [(1, 1)])) (y_ev x (0, [(3, 1)])) (y_ev x ((-2), [])) ∧ True)
    (try rw [O0]); (try rw [O1]); (try rw [O2]); (try rw [O3]); (try rw [O4]); (try rw [O5])
    exact K
def lm_1285 : zLem := (([((-2147483648), 2147483647), ((-2147483648), 2147483647), ((-2147483648), 2147483647), ((-2147483648), 2147483647), ((-2147483648), 2147483647), ((-2147483648), 2147483647), ((-2147483648), 2147483647), ((-2147483648), 2147483647), ((-2147483648), 2147483647), ((-2147483648), 2147483647)], [(12, false)], [(0, [(0, 1)]), (0, [(1, 1)]), (6, [(1, (-1))])], [], [(0, 0, 0, [(0, 1)])], [(0, (false, 18, 0, []), 0, 0, 0, [(6, 1)])], [(235, [(0, [(1, 1)]), (0, [(2, 1)]), (0, [(3, 1)]), (0, [(4, 1)]), (0, []), (0, []), (0, []), (0, []), (0, []), (0, []), (0, [])]), (224, [(0, [(6, 1)]), (0, [(7, 1)]), (1, []), (0, [(5, 1)])]), (88, [(0, [(6, 1)]), (0, [(8, 1)]), (0, [(9, 1)])])]), [([((-2147483648), 2147483647), ((-2147483648), 2147483647), ((-2147483648), 2147483647), ((-2147483648), 2147483647), ((-2147483648), 2147483647), ((-2147483648), 2147483647), ((-2147483648), 2147483647), ((-2147483648), 2147483647), ((-2147483648), 2147483647), ((-2147483648), 2147483647)], [(12, false)], [], [], [], [], [(238, [(62, []), (0, [(5, 1)]), (0, []), (0, []), (0, []), (0, []), (0, []), (0, []), (0, [(0, 10), (1, 1)]), (0, [(8, 1)]), (0, [])])])])
theorem lk_1285 : l_core lm_1285 := by
  first
  | skip
    intro v x h
    have K := k_mso0 (V := v) (w := x 0) (H := x 1) (p := x 2) (y := x 3) (d := x 4) (q := x 5) (l := x 6) (x := x 7) (W := x 8) (z := x 9) (l_c5 (fun w0 w1 w2 w3 w4 : Int => q_sto v 0 w0 w1 w2 w3 w4 w4 w4 w4 w4 w4 w4) (l_e1 x 1) (l_e1 x 2) (l_e1 x 3) (l_e1 x 4) (l_e0 x (0)) (h.2.2.2.1)) (l_c4 (fun w0 w1 w2 w3 : Int => w2 = 1 → q_leq v w0 w1 w3) (l_e1 x 6) (l_e1 x 7) (l_e0 x (1)) (l_e1 x 5) (h.2.2.2.2.1)) (l_c3 (fun w0 w1 w2 : Int => 0 ≤ w0 ∧ w0 ≠ w2 ∧ v 61 w0 = w1) (l_e1 x 6) (l_e1 x 8) (l_e1 x 9) (h.2.2.2.2.2.1)) (l_cc (l_e1 x 0) (h.2.1.1)) (l_cc (l_e1 x 1) (h.2.1.2.1)) (l_cc (l_q1 6 x 1) (h.2.1.2.2.1))
    refine l_outH rfl (And.intro h.1 ?_)
    exact l_o5 (fun w0 w1 w2 w3 w4 : Int => (True) ∧ (q_qry v w0 w1 w2 w2 w2 w2 w2 w2 w3 w4 w2 ∧ True)) (l_e0 x (62)) (l_e1 x 5) (l_e0 x (0)) (l_q10 10 x 0 1) (l_e1 x 8) K
  | skip
    intro v x h
    have C0 : (0 : Int) ≤ x 0 := l_cc (a := y_ev x (0, [(0, 1)])) (l_e1 _ _) (h.2.1.1)
    have C1 : (0 : Int) ≤ x 1 := l_cc (a := y_ev x (0, [(1, 1)])) (l_e1 _ _) (h.2.1.2.1)
    have C2 : (0 : Int) ≤ 6 - x 1 := l_cc (a := y_ev x (6, [(1, (-1))])) (by show ((6) : Int) + ((-1) * x 1 + 0) = 6 - x 1; omega) (h.2.1.2.2.1)
    have E0 : y_ev x (0, [(1, 1)]) = x 1 := (l_e1 _ _)
    have E1 : y_ev x (0, [(2, 1)]) = x 2 := (l_e1 _ _)
    have E2 : y_ev x (0, [(3, 1)]) = x 3 := (l_e1 _ _)
    have E3 : y_ev x (0, [(4, 1)]) = x 4 := (l_e1 _ _)
    have E4 : y_ev x (0, []) = 0 := (l_e0 _ _)
    have E5 : y_ev x (0, [(6, 1)]) = x 6 := (l_e1 _ _)
    have E6 : y_ev x (0, [(7, 1)]) = x 7 := (l_e1 _ _)
    have E7 : y_ev x (1, []) = 1 := (l_e0 _ _)
    have E8 : y_ev x (0, [(5, 1)]) = x 5 := (l_e1 _ _)
    have E9 : y_ev x (0, [(8, 1)]) = x 8 := (l_e1 _ _)
    have E10 : y_ev x (0, [(9, 1)]) = x 9 := (l_e1 _ _)
    have T0 : q_sto v 0 (y_ev x (0, [(1, 1)])) (y_ev x (0, [(2, 1)])) (y_ev x (0, [(3, 1)])) (y_ev x (0, [(4, 1)])) (y_ev x (0, [])) (y_ev x (0, [])) (y_ev x (0, [])) (y_ev x (0, [])) (y_ev x (0, [])) (y_ev x (0, [])) (y_ev x (0, [])) := h.2.2.2.1
    (try rw [E0] at T0); (try rw [E1] at T0); (try rw [E2] at T0); (try rw [E3] at T0); (try rw [E4] at T0)
    have T1 : (y_ev x (1, [])) = 1 → q_leq v (y_ev x (0, [(6, 1)])) (y_ev x (0, [(7, 1)])) (y_ev x (0, [(5, 1)])) := h.2.2.2.2.1
    (try rw [E5] at T1); (try rw [E6] at T1); (try rw [E7] at T1); (try rw [E8] at T1)
    have T2 : 0 ≤ (y_ev x (0, [(6, 1)])) ∧ (y_ev x (0, [(6, 1)])) ≠ (y_ev x (0, [(9, 1)])) ∧ v 61 (y_ev x (0, [(6, 1)])) = (y_ev x (0, [(8, 1)])) := h.2.2.2.2.2.1
    (try rw [E5] at T2); (try rw [E9] at T2); (try rw [E10] at T2)
    have K := k_mso0 (V := v) (w := x 0) (H := x 1) (p := x 2) (y := x 3) (d := x 4) (q := x 5) (l := x 6) (x := x 7) (W := x 8) (z := x 9) T0 T1 T2 C0 C1 C2
    refine l_outH rfl (And.intro h.1 ?_)
    have O0 : y_ev x (62, []) = 62 := l_e0 _ _
    have O1 : y_ev x (0, [(5, 1)]) = x 5 := l_e1 _ _
    have O2 : y_ev x (0, []) = 0 := l_e0 _ _
    have O3 : y_ev x (0, [(0, 10), (1, 1)]) = 10 * x 0 + x 1 := by show ((0) : Int) + ((10) * x 0 + ((1) * x 1 + 0)) = _; omega
    have O4 : y_ev x (0, [(8, 1)]) = x 8 := l_e1 _ _
    show (True) ∧ (q_qry v (y_ev x (62, [])) (y_ev x (0, [(5, 1)])) (y_ev x (0, [])) (y_ev x (0, [])) (y_ev x (0, [])) (y_ev x (0, [])) (y_ev x (0, [])) (y_ev x (0, [])) (y_ev x (0, [(0, 10), (1, 1)])) (y_ev x (0, [(8, 1)])) (y_ev x (0, [])) ∧ True)
    (try rw [O0]); (try rw [O1]); (try rw [O2]); (try rw [O3]); (try rw [O4])
    exact K
def lm_1286p : zS := ([((-2147483648), 2147483647), ((-2147483648), 2147483647), ((-2147483648), 2147483647), ((-2147483648), 2147483647), ((-2147483648), 2147483647), ((-2147483648), 2147483647), ((-2147483648), 2147483647)], [], [(0, [(1, (-10)), (2, 1), (3, (-1))]), (0, [(1, 10), (2, (-1)), (3, 1)]), (0, [(1, 1)]), (0, [(3, 1)]), (6, [(3, (-1))]), (0, [(0, 1)]), (60, [(0, (-1))]), (0, [(1, (-1)), (5, 1)])], [], [(0, 0, 0, [(1, 1)]), (0, 0, 0, [(0, 1)])], [], [(237, [(0, [(3, 1)]), (0, [(6, 1)]), (0, []), (0, []), (4, []), (0, [(0, 1)]), (0, []), (0, [(3, 1)])]), (238, [(59, []), (0, [(6, 1)]), (0, []), (0, []), (4, []), (0, [(0, 1)]), (0, []), (0, [(3, 1)]), (0, [(4, 1)]), (0, []), (0, [(5, 1)])]), (238, [(62, []), (0, [(6, 1)]), (0, []), (0, []), (0, []), (0, []), (0, []), (0, []), (0, [(2, 1)]), (0, [(4, 1)]), (0, [(0, 1)])])])
def lm_1286 : zLem := (lm_1286p, [([((-2147483648), 2147483647), ((-2147483648), 2147483647), ((-2147483648), 2147483647), ((-2147483648), 2147483647), ((-2147483648), 2147483647), ((-2147483648), 2147483647), ((-2147483648), 2147483647)], [], [], [], [], [], [(238, [(61, []), (0, [(6, 1)]), (0, []), (0, []), (0, []), (0, []), (0, []), (0, []), (0, [(2, 1)]), (0, [(4, 1)]), (0, [(0, 1)])])])])
theorem lk_1286 : l_core lm_1286 := by
  first
  | skip
    intro v x h
    have K := k_mshY (V := v) (n := x 0) (w := x 1) (x := x 2) (H := x 3) (W := x 4) (u := x 5) (q := x 6) (l_c5 (fun w0 w1 w2 w3 w4 : Int => q_rwo v w0 w1 w2 w2 w3 w4 w2 w0) (l_e1 x 3) (l_e1 x 6) (l_e0 x (0)) (l_e0 x (4)) (l_e1 x 0) (h.2.2.2.1)) (l_c8 (fun w0 w1 w2 w3 w4 w5 w6 w7 : Int => q_qry v w0 w1 w2 w2 w3 w4 w2 w5 w6 w2 w7) (l_e0 x (59)) (l_e1 x 6) (l_e0 x (0)) (l_e0 x (4)) (l_e1 x 0) (l_e1 x 3) (l_e1 x 4) (l_e1 x 5) (h.2.2.2.2.1)) (l_c6 (fun w0 w1 w2 w3 w4 w5 : Int => q_qry v w0 w1 w2 w2 w2 w2 w2 w2 w3 w4 w5) (l_e0 x (62)) (l_e1 x 6) (l_e0 x (0)) (l_e1 x 2) (l_e1 x 4) (l_e1 x 0) (h.2.2.2.2.2.1)) (l_cc (show y_ev x (0, [(1, (-10)), (2, 1), (3, (-1))]) = x 2 - 10 * x 1 - x 3 by show ((0) : Int) + ((-10) * x 1 + ((1) * x 2 + ((-1) * x 3 + 0))) = _; omega) (h.2.1.1)) (l_cc (show y_ev x (0, [(1, 10), (2, (-1)), (3, 1)]) = 10 * x 1 + x 3 - x 2 by show ((0) : Int) + ((10) * x 1 + ((-1) * x 2 + ((1) * x 3 + 0))) = _; omega) (h.2.1.2.1)) (l_cc (l_e1 x 1) (h.2.1.2.2.1)) (l_cc (l_e1 x 3) (h.2.1.2.2.2.1)) (l_cc (l_q1 6 x 3) (h.2.1.2.2.2.2.1)) (l_cc (l_e1 x 0) (h.2.1.2.2.2.2.2.1)) (l_cc (l_q1 60 x 0) (h.2.1.2.2.2.2.2.2.1)) (l_cc (l_q4 x 1 5) (h.2.1.2.2.2.2.2.2.2.1))
    refine l_outH rfl (And.intro h.1 ?_)
    exact l_o6 (fun w0 w1 w2 w3 w4 w5 : Int => (True) ∧ (q_qry v w0 w1 w2 w2 w2 w2 w2 w2 w3 w4 w5 ∧ True)) (l_e0 x (61)) (l_e1 x 6) (l_e0 x (0)) (l_e1 x 2) (l_e1 x 4) (l_e1 x 0) K
  | skip
    intro v x h
    have C0 : (0 : Int) ≤ x 2 - 10 * x 1 - x 3 := l_cc (a := y_ev x (0, [(1, (-10)), (2, 1), (3, (-1))])) (by show ((0) : Int) + ((-10) * x 1 + ((1) * x 2 + ((-1) * x 3 + 0))) = x 2 - 10 * x 1 - x 3; omega) (h.2.1.1)
    have C1 : (0 : Int) ≤ 10 * x 1 + x 3 - x 2 := l_cc (a := y_ev x (0, [(1, 10), (2, (-1)), (3, 1)])) (by show ((0) : Int) + ((10) * x 1 + ((-1) * x 2 + ((1) * x 3 + 0))) = 10 * x 1 + x 3 - x 2; omega) (h.2.1.2.1)
    have C2 : (0 : Int) ≤ x 1 := l_cc (a := y_ev x (0, [(1, 1)])) (l_e1 _ _) (h.2.1.2.2.1)
    have C3 : (0 : Int) ≤ x 3 := l_cc (a := y_ev x (0, [(3, 1)])) (l_e1 _ _) (h.2.1.2.2.2.1)
    have C4 : (0 : Int) ≤ 6 - x 3 := l_cc (a := y_ev x (6, [(3, (-1))])) (by show ((6) : Int) + ((-1) * x 3 + 0) = 6 - x 3; omega) (h.2.1.2.2.2.2.1)
    have C5 : (0 : Int) ≤ x 0 := l_cc (a := y_ev x (0, [(0, 1)])) (l_e1 _ _) (h.2.1.2.2.2.2.2.1)
    have C6 : (0 : Int) ≤ 60 - x 0 := l_cc (a := y_ev x (60, [(0, (-1))])) (by show ((60) : Int) + ((-1) * x 0 + 0) = 60 - x 0; omega) (h.2.1.2.2.2.2.2.2.1)
    have C7 : (0 : Int) ≤ x 5 - x 1 := l_cc (a := y_ev x (0, [(1, (-1)), (5, 1)])) (by show ((0) : Int) + ((-1) * x 1 + ((1) * x 5 + 0)) = x 5 - x 1; omega) (h.2.1.2.2.2.2.2.2.2.1)
    have E0 : y_ev x (0, [(3, 1)]) = x 3 := (l_e1 _ _)
    have E1 : y_ev x (0, [(6, 1)]) = x 6 := (l_e1 _ _)
    have E2 : y_ev x (0, []) = 0 := (l_e0 _ _)
    have E3 : y_ev x (4, []) = 4 := (l_e0 _ _)
    have E4 : y_ev x (0, [(0, 1)]) = x 0 := (l_e1 _ _)
    have E5 : y_ev x (59, []) = 59 := (l_e0 _ _)
    have E6 : y_ev x (0, [(4, 1)]) = x 4 := (l_e1 _ _)
    have E7 : y_ev x (0, [(5, 1)]) = x 5 := (l_e1 _ _)
    have E8 : y_ev x (62, []) = 62 := (l_e0 _ _)
    have E9 : y_ev x (0, [(2, 1)]) = x 2 := (l_e1 _ _)
    have T0 : q_rwo v (y_ev x (0, [(3, 1)])) (y_ev x (0, [(6, 1)])) (y_ev x (0, [])) (y_ev x (0, [])) (y_ev x (4, [])) (y_ev x (0, [(0, 1)])) (y_ev x (0, [])) (y_ev x (0, [(3, 1)])) := h.2.2.2.1
    (try rw [E0] at T0); (try rw [E1] at T0); (try rw [E2] at T0); (try rw [E3] at T0); (try rw [E4] at T0)
    have T1 : q_qry v (y_ev x (59, [])) (y_ev x (0, [(6, 1)])) (y_ev x (0, [])) (y_ev x (0, [])) (y_ev x (4, [])) (y_ev x (0, [(0, 1)])) (y_ev x (0, [])) (y_ev x (0, [(3, 1)])) (y_ev x (0, [(4, 1)])) (y_ev x (0, [])) (y_ev x (0, [(5, 1)])) := h.2.2.2.2.1
    (try rw [E5] at T1); (try rw [E1] at T1); (try rw [E2] at T1); (try rw [E3] at T1); (try rw [E4] at T1); (try rw [E0] at T1); (try rw [E6] at T1); (try rw [E7] at T1)
    have T2 : q_qry v (y_ev x (62, [])) (y_ev x (0, [(6, 1)])) (y_ev x (0, [])) (y_ev x (0, [])) (y_ev x (0, [])) (y_ev x (0, [])) (y_ev x (0, [])) (y_ev x (0, [])) (y_ev x (0, [(2, 1)])) (y_ev x (0, [(4, 1)])) (y_ev x (0, [(0, 1)])) := h.2.2.2.2.2.1
    (try rw [E8] at T2); (try rw [E1] at T2); (try rw [E2] at T2); (try rw [E9] at T2); (try rw [E6] at T2); (try rw [E4] at T2)
    have K := k_mshY (V := v) (n := x 0) (w := x 1) (x := x 2) (H := x 3) (W := x 4) (u := x 5) (q := x 6) T0 T1 T2 C0 C1 C2 C3 C4 C5 C6 C7
    refine l_outH rfl (And.intro h.1 ?_)
    have O0 : y_ev x (61, []) = 61 := l_e0 _ _
    have O1 : y_ev x (0, [(6, 1)]) = x 6 := l_e1 _ _
    have O2 : y_ev x (0, []) = 0 := l_e0 _ _
    have O3 : y_ev x (0, [(2, 1)]) = x 2 := l_e1 _ _
    have O4 : y_ev x (0, [(4, 1)]) = x 4 := l_e1 _ _
    have O5 : y_ev x (0, [(0, 1)]) = x 0 := l_e1 _ _
    show (True) ∧ (q_qry v (y_ev x (61, [])) (y_ev x (0, [(6, 1)])) (y_ev x (0, [])) (y_ev x (0, [])) (y_ev x (0, [])) (y_ev x (0, [])) (y_ev x (0, [])) (y_ev x (0, [])) (y_ev x (0, [(2, 1)])) (y_ev x (0, [(4, 1)])) (y_ev x (0, [(0, 1)])) ∧ True)
    (try rw [O0]); (try rw [O1]); (try rw [O2]); (try rw [O3]); (try rw [O4]); (try rw [O5])
    exact K
def lm_1287p : zS := ([((-2147483648), 2147483647), ((-2147483648), 2147483647), ((-2147483648), 2147483647), ((-2147483648), 2147483647), ((-2147483648), 2147483647), ((-2147483648), 2147483647), ((-2147483648), 2147483647)], [], [(0, [(1, (-10)), (2, 1), (3, (-1))]), (0, [(1, 10), (2, (-1)), (3, 1)]), (0, [(1, 1)]), (0, [(3, 1)]), (6, [(3, (-1))]), (0, [(0, 1)]), ((-1), [(1, 1), (5, (-1))])], [], [(0, 0, 0, [(1, 1)]), (0, 0, 0, [(0, 1)])], [], [(237, [(0, [(3, 1)]), (0, [(6, 1)]), (0, []), (0, []), (4, []), (0, [(0, 1)]), (0, []), (0, [(3, 1)])]), (238, [(59, []), (0, [(6, 1)]), (0, []), (0, []), (4, []), (0, [(0, 1)]), (0, []), (0, [(3, 1)]), (0, [(4, 1)]), (0, []), (0, [(5, 1)])]), (238, [(62, []), (0, [(6, 1)]), (0, []), (0, []), (0, []), (0, []), (0, []), (0, []), (0, [(2, 1)]), (0, [(4, 1)]), (0, [(0, 1)])])])
def lm_1287 : zLem := (lm_1287p, [([((-2147483648), 2147483647), ((-2147483648), 2147483647), ((-2147483648), 2147483647), ((-2147483648), 2147483647), ((-2147483648), 2147483647), ((-2147483648), 2147483647), ((-2147483648), 2147483647)], [], [], [], [], [], [(238, [(62, []), (0, [(6, 1)]), (0, []), (0, []), (0, []), (0, []), (0, []), (0, []), (0, [(2, 1)]), (0, [(4, 1)]), (1, [(0, 1)])])])])
theorem lk_1287 : l_core lm_1287 := by
  first
  | skip
    intro v x h
    have K := k_mshN (V := v) (n := x 0) (w := x 1) (x := x 2) (H := x 3) (W := x 4) (u := x 5) (q := x 6) (l_c5 (fun w0 w1 w2 w3 w4 : Int => q_rwo v w0 w1 w2 w2 w3 w4 w2 w0) (l_e1 x 3) (l_e1 x 6) (l_e0 x (0)) (l_e0 x (4)) (l_e1 x 0) (h.2.2.2.1)) (l_c8 (fun w0 w1 w2 w3 w4 w5 w6 w7 : Int => q_qry v w0 w1 w2 w2 w3 w4 w2 w5 w6 w2 w7) (l_e0 x (59)) (l_e1 x 6) (l_e0 x (0)) (l_e0 x (4)) (l_e1 x 0) (l_e1 x 3) (l_e1 x 4) (l_e1 x 5) (h.2.2.2.2.1)) (l_c6 (fun w0 w1 w2 w3 w4 w5 : Int => q_qry v w0 w1 w2 w2 w2 w2 w2 w2 w3 w4 w5) (l_e0 x (62)) (l_e1 x 6) (l_e0 x (0)) (l_e1 x 2) (l_e1 x 4) (l_e1 x 0) (h.2.2.2.2.2.1)) (l_cc (show y_ev x (0, [(1, (-10)), (2, 1), (3, (-1))]) = x 2 - 10 * x 1 - x 3 by show ((0) : Int) + ((-10) * x 1 + ((1) * x 2 + ((-1) * x 3 + 0))) = _; omega) (h.2.1.1)) (l_cc (show y_ev x (0, [(1, 10), (2, (-1)), (3, 1)]) = 10 * x 1 + x 3 - x 2 by show ((0) : Int) + ((10) * x 1 + ((-1) * x 2 + ((1) * x 3 + 0))) = _; omega) (h.2.1.2.1)) (l_cc (l_e1 x 1) (h.2.1.2.2.1)) (l_cc (l_e1 x 3) (h.2.1.2.2.2.1)) (l_cc (l_q1 6 x 3) (h.2.1.2.2.2.2.1)) (l_cc (l_e1 x 0) (h.2.1.2.2.2.2.2.1)) (l_cc (l_q8 1 x 1 5) (h.2.1.2.2.2.2.2.2.1))
    refine l_outH rfl (And.intro h.1 ?_)
    exact l_o6 (fun w0 w1 w2 w3 w4 w5 : Int => (True) ∧ (q_qry v w0 w1 w2 w2 w2 w2 w2 w2 w3 w4 w5 ∧ True)) (l_e0 x (62)) (l_e1 x 6) (l_e0 x (0)) (l_e1 x 2) (l_e1 x 4) (l_q3 1 x 0) K
  | skip
    intro v x h
    have C0 : (0 : Int) ≤ x 2 - 10 * x 1 - x 3 := l_cc (a := y_ev x (0, [(1, (-10)), (2, 1), (3, (-1))])) (by show ((0) : Int) + ((-10) * x 1 + ((1) * x 2 + ((-1) * x 3 + 0))) = x 2 - 10 * x 1 - x 3; omega) (h.2.1.1)
    have C1 : (0 : Int) ≤ 10 * x 1 + x 3 - x 2 := l_cc (a := y_ev x (0, [(1, 10), (2, (-1)), (3, 1)])) (by show ((0) : Int) + ((10) * x 1 + ((-1) * x 2 + ((1) * x 3 + 0))) = 10 * x 1 + x 3 - x 2; omega) (h.2.1.2.1)
    have C2 : (0 : Int) ≤ x 1 := l_cc (a := y_ev x (0, [(1, 1)])) (l_e1 _ _) (h.2.1.2.2.1)
    have C3 : (0 : Int) ≤ x 3 := l_cc (a := y_ev x (0, [(3, 1)])) (l_e1 _ _) (h.2.1.2.2.2.1)
    have C4 : (0 : Int) ≤ 6 - x 3 := l_cc (a := y_ev x (6, [(3, (-1))])) (by show ((6) : Int) + ((-1) * x 3 + 0) = 6 - x 3; omega) (h.2.1.2.2.2.2.1)
    have C5 : (0 : Int) ≤ x 0 := l_cc (a := y_ev x (0, [(0, 1)])) (l_e1 _ _) (h.2.1.2.2.2.2.2.1)
    have C6 : (0 : Int) ≤ x 1 - x 5 - 1 := l_cc (a := y_ev x ((-1), [(1, 1), (5, (-1))])) (by show ((-1) : Int) + ((1) * x 1 + ((-1) * x 5 + 0)) = x 1 - x 5 - 1; omega) (h.2.1.2.2.2.2.2.2.1)
    have E0 : y_ev x (0, [(3, 1)]) = x 3 := (l_e1 _ _)
    have E1 : y_ev x (0, [(6, 1)]) = x 6 := (l_e1 _ _)
    have E2 : y_ev x (0, []) = 0 := (l_e0 _ _)
    have E3 : y_ev x (4, []) = 4 := (l_e0 _ _)
    have E4 : y_ev x (0, [(0, 1)]) = x 0 := (l_e1 _ _)
    have E5 : y_ev x (59, []) = 59 := (l_e0 _ _)
    have E6 : y_ev x (0, [(4, 1)]) = x 4 := (l_e1 _ _)
    have E7 : y_ev x (0, [(5, 1)]) = x 5 := (l_e1 _ _)
    have E8 : y_ev x (62, []) = 62 := (l_e0 _ _)
    have E9 : y_ev x (0, [(2, 1)]) = x 2 := (l_e1 _ _)
    have T0 : q_rwo v (y_ev x (0, [(3, 1)])) (y_ev x (0, [(6, 1)])) (y_ev x (0, [])) (y_ev x (0, [])) (y_ev x (4, [])) (y_ev x (0, [(0, 1)])) (y_ev x (0, [])) (y_ev x (0, [(3, 1)])) := h.2.2.2.1
    (try rw [E0] at T0); (try rw [E1] at T0); (try rw [E2] at T0); (try rw [E3] at T0); (try rw [E4] at T0)
    have T1 : q_qry v (y_ev x (59, [])) (y_ev x (0, [(6, 1)])) (y_ev x (0, [])) (y_ev x (0, [])) (y_ev x (4, [])) (y_ev x (0, [(0, 1)])) (y_ev x (0, [])) (y_ev x (0, [(3, 1)])) (y_ev x (0, [(4, 1)])) (y_ev x (0, [])) (y_ev x (0, [(5, 1)])) := h.2.2.2.2.1
    (try rw [E5] at T1); (try rw [E1] at T1); (try rw [E2] at T1); (try rw [E3] at T1); (try rw [E4] at T1); (try rw [E0] at T1); (try rw [E6] at T1); (try rw [E7] at T1)
    have T2 : q_qry v (y_ev x (62, [])) (y_ev x (0, [(6, 1)])) (y_ev x (0, [])) (y_ev x (0, [])) (y_ev x (0, [])) (y_ev x (0, [])) (y_ev x (0, [])) (y_ev x (0, [])) (y_ev x (0, [(2, 1)])) (y_ev x (0, [(4, 1)])) (y_ev x (0, [(0, 1)])) := h.2.2.2.2.2.1
    (try rw [E8] at T2); (try rw [E1] at T2); (try rw [E2] at T2); (try rw [E9] at T2); (try rw [E6] at T2); (try rw [E4] at T2)
    have K := k_mshN (V := v) (n := x 0) (w := x 1) (x := x 2) (H := x 3) (W := x 4) (u := x 5) (q := x 6) T0 T1 T2 C0 C1 C2 C3 C4 C5 C6
    refine l_outH rfl (And.intro h.1 ?_)
    have O0 : y_ev x (62, []) = 62 := l_e0 _ _
    have O1 : y_ev x (0, [(6, 1)]) = x 6 := l_e1 _ _
    have O2 : y_ev x (0, []) = 0 := l_e0 _ _
    have O3 : y_ev x (0, [(2, 1)]) = x 2 := l_e1 _ _
    have O4 : y_ev x (0, [(4, 1)]) = x 4 := l_e1 _ _
    have O5 : y_ev x (1, [(0, 1)]) = x 0 + 1 := by show ((1) : Int) + ((1) * x 0 + 0) = _; omega
    show (True) ∧ (q_qry v (y_ev x (62, [])) (y_ev x (0, [(6, 1)])) (y_ev x (0, [])) (y_ev x (0, [])) (y_ev x (0, [])) (y_ev x (0, [])) (y_ev x (0, [])) (y_ev x (0, [])) (y_ev x (0, [(2, 1)])) (y_ev x (0, [(4, 1)])) (y_ev x (1, [(0, 1)])) ∧ True)
    (try rw [O0]); (try rw [O1]); (try rw [O2]); (try rw [O3]); (try rw [O4]); (try rw [O5])
    exact K
def lm_1288 : zLem := (([((-2147483648), 2147483647), ((-2147483648), 2147483647), ((-2147483648), 2147483647), ((-2147483648), 2147483647)], [], [((-61), [(0, 1)])], [], [(0, 0, 0, [(0, 1)])], [], [(238, [(62, []), (0, [(2, 1)]), (0, []), (0, []), (0, []), (0, []), (0, []), (0, []), (0, [(1, 1)]), (0, [(3, 1)]), (0, [(0, 1)])])]), [([((-2147483648), 2147483647), ((-2147483648), 2147483647), ((-2147483648), 2147483647), ((-2147483648), 2147483647)], [], [], [], [], [], [(238, [(61, []), (0, [(2, 1)]), (0, []), (0, []), (0, []), (0, []), (0, []), (0, []), (0, [(1, 1)]), (0, [(3, 1)]), ((-2), [])])])])
theorem lk_1288 : l_core lm_1288 := by
  first
  | skip
    intro v x h
    have K := k_sonZ (V := v) (n := x 0) (x := x 1) (q := x 2) (W := x 3) (l_c6 (fun w0 w1 w2 w3 w4 w5 : Int => q_qry v w0 w1 w2 w2 w2 w2 w2 w2 w3 w4 w5) (l_e0 x (62)) (l_e1 x 2) (l_e0 x (0)) (l_e1 x 1) (l_e1 x 3) (l_e1 x 0) (h.2.2.2.1)) (l_cc (l_q2 61 x 0) (h.2.1.1))
    refine l_outH rfl (And.intro h.1 ?_)
    exact l_o6 (fun w0 w1 w2 w3 w4 w5 : Int => (True) ∧ (q_qry v w0 w1 w2 w2 w2 w2 w2 w2 w3 w4 w5 ∧ True)) (l_e0 x (61)) (l_e1 x 2) (l_e0 x (0)) (l_e1 x 1) (l_e1 x 3) (l_e0 x (-2)) K
  | skip
    intro v x h
    have C0 : (0 : Int) ≤ x 0 - 61 := l_cc (a := y_ev x ((-61), [(0, 1)])) (by show ((-61) : Int) + ((1) * x 0 + 0) = x 0 - 61; omega) (h.2.1.1)
    have E0 : y_ev x (62, []) = 62 := (l_e0 _ _)
    have E1 : y_ev x (0, [(2, 1)]) = x 2 := (l_e1 _ _)
    have E2 : y_ev x (0, []) = 0 := (l_e0 _ _)
    have E3 : y_ev x (0, [(1, 1)]) = x 1 := (l_e1 _ _)
    have E4 : y_ev x (0, [(3, 1)]) = x 3 := (l_e1 _ _)
    have E5 : y_ev x (0, [(0, 1)]) = x 0 := (l_e1 _ _)
    have T0 : q_qry v (y_ev x (62, [])) (y_ev x (0, [(2, 1)])) (y_ev x (0, [])) (y_ev x (0, [])) (y_ev x (0, [])) (y_ev x (0, [])) (y_ev x (0, [])) (y_ev x (0, [])) (y_ev x (0, [(1, 1)])) (y_ev x (0, [(3, 1)])) (y_ev x (0, [(0, 1)])) := h.2.2.2.1
    (try rw [E0] at T0); (try rw [E1] at T0); (try rw [E2] at T0); (try rw [E3] at T0); (try rw [E4] at T0); (try rw [E5] at T0)
    have K := k_sonZ (V := v) (n := x 0) (x := x 1) (q := x 2) (W := x 3) T0 C0
    refine l_outH rfl (And.intro h.1 ?_)
    have O0 : y_ev x (61, []) = 61 := l_e0 _ _
    have O1 : y_ev x (0, [(2, 1)]) = x 2 := l_e1 _ _
    have O2 : y_ev x (0, []) = 0 := l_e0 _ _
    have O3 : y_ev x (0, [(1, 1)]) = x 1 := l_e1 _ _
    have O4 : y_ev x (0, [(3, 1)]) = x 3 := l_e1 _ _
    have O5 : y_ev x ((-2), []) = (-2) := l_e0 _ _
    show (True) ∧ (q_qry v (y_ev x (61, [])) (y_ev x (0, [(2, 1)])) (y_ev x (0, [])) (y_ev x (0, [])) (y_ev x (0, [])) (y_ev x (0, [])) (y_ev x (0, [])) (y_ev x (0, [])) (y_ev x (0, [(1, 1)])) (y_ev x (0, [(3, 1)])) (y_ev x ((-2), [])) ∧ True)
    (try rw [O0]); (try rw [O1]); (try rw [O2]); (try rw [O3]); (try rw [O4]); (try rw [O5])
    exact K
def lm_1289 : zLem := (([((-2147483648), 2147483647), ((-2147483648), 2147483647), ((-2147483648), 2147483647), ((-2147483648), 2147483647), ((-2147483648), 2147483647)], [], [], [], [], [], [(260, [(61, []), (0, [(0, 1)]), (0, []), (0, []), (0, []), (0, []), (0, []), (0, []), (0, [(1, 1)]), (0, [(2, 1)]), (0, [(3, 1)])]), (238, [(61, []), (0, [(0, 1)]), (0, []), (0, []), (0, []), (0, []), (0, []), (0, []), (0, [(1, 1)]), (0, [(2, 1)]), (0, [(4, 1)])])]), [([((-2147483648), 2147483647), ((-2147483648), 2147483647), ((-2147483648), 2147483647), ((-2147483648), 2147483647), ((-2147483648), 2147483647)], [], [(0, [(3, 1), (4, (-1))]), (0, [(3, (-1)), (4, 1)])], [], [], [], [])])
theorem lk_1289 : l_core lm_1289 := by
  first
  | skip
    intro v x h
    have K := k_qeSo (V := v) (q := x 0) (x := x 1) (W := x 2) (u := x 3) (w := x 4) (l_c6 (fun w0 w1 w2 w3 w4 w5 : Int => q_qry v w0 w1 w2 w2 w2 w2 w2 w2 w3 w4 w5) (l_e0 x (61)) (l_e1 x 0) (l_e0 x (0)) (l_e1 x 1) (l_e1 x 2) (l_e1 x 3) (h.2.2.2.1)) (l_c6 (fun w0 w1 w2 w3 w4 w5 : Int => q_qry v w0 w1 w2 w2 w2 w2 w2 w2 w3 w4 w5) (l_e0 x (61)) (l_e1 x 0) (l_e0 x (0)) (l_e1 x 1) (l_e1 x 2) (l_e1 x 4) (h.2.2.2.2.1))
    refine l_outH rfl (And.intro h.1 ?_)
    exact l_o2 (fun w0 w1 : Int => (0 ≤ w0 ∧ 0 ≤ w1 ∧ True) ∧ (True)) (l_q5 x 3 4) (l_q4 x 3 4) K
  | skip
    intro v x h
    have E0 : y_ev x (61, []) = 61 := (l_e0 _ _)
    have E1 : y_ev x (0, [(0, 1)]) = x 0 := (l_e1 _ _)
    have E2 : y_ev x (0, []) = 0 := (l_e0 _ _)
    have E3 : y_ev x (0, [(1, 1)]) = x 1 := (l_e1 _ _)
    have E4 : y_ev x (0, [(2, 1)]) = x 2 := (l_e1 _ _)
    have E5 : y_ev x (0, [(3, 1)]) = x 3 := (l_e1 _ _)
    have E6 : y_ev x (0, [(4, 1)]) = x 4 := (l_e1 _ _)
    have T0 : q_qry v (y_ev x (61, [])) (y_ev x (0, [(0, 1)])) (y_ev x (0, [])) (y_ev x (0, [])) (y_ev x (0, [])) (y_ev x (0, [])) (y_ev x (0, [])) (y_ev x (0, [])) (y_ev x (0, [(1, 1)])) (y_ev x (0, [(2, 1)])) (y_ev x (0, [(3, 1)])) := h.2.2.2.1
    (try rw [E0] at T0); (try rw [E1] at T0); (try rw [E2] at T0); (try rw [E3] at T0); (try rw [E4] at T0); (try rw [E5] at T0)
    have T1 : q_qry v (y_ev x (61, [])) (y_ev x (0, [(0, 1)])) (y_ev x (0, [])) (y_ev x (0, [])) (y_ev x (0, [])) (y_ev x (0, [])) (y_ev x (0, [])) (y_ev x (0, [])) (y_ev x (0, [(1, 1)])) (y_ev x (0, [(2, 1)])) (y_ev x (0, [(4, 1)])) := h.2.2.2.2.1
    (try rw [E0] at T1); (try rw [E1] at T1); (try rw [E2] at T1); (try rw [E3] at T1); (try rw [E4] at T1); (try rw [E6] at T1)
    have K := k_qeSo (V := v) (q := x 0) (x := x 1) (W := x 2) (u := x 3) (w := x 4) T0 T1
    refine l_outH rfl (And.intro h.1 ?_)
    have O0 : y_ev x (0, [(3, 1), (4, (-1))]) = x 3 - x 4 := by show ((0) : Int) + ((1) * x 3 + ((-1) * x 4 + 0)) = _; omega
    have O1 : y_ev x (0, [(3, (-1)), (4, 1)]) = x 4 - x 3 := by show ((0) : Int) + ((-1) * x 3 + ((1) * x 4 + 0)) = _; omega
    show (0 ≤ y_ev x (0, [(3, 1), (4, (-1))]) ∧ 0 ≤ y_ev x (0, [(3, (-1)), (4, 1)]) ∧ True) ∧ (True)
    (try rw [O0]); (try rw [O1])
    exact K
end
