noncomputable section
/-! ===== the lemmas as data, by program ===== -/
set_option maxRecDepth 100000
def lm_1014 : zLem := (([((-2147483648), 2147483647), ((-2147483648), 2147483647), ((-2147483648), 2147483647)], [(78, false), (57, false)], [(0, [(0, 1)]), (5, [(0, (-1))])], [], [(0, 0, 0, [(0, 1)])], [(0, (true, 0, 0, [(0, 1)]), 0, 0, 0, [(2, 1)]), (1, (true, 0, 0, [(0, 1), (1, 6)]), 0, 0, 0, [(2, 1)])], [(274, [(0, [(1, 1)]), (0, [(0, 1)])])]), [([((-2147483648), 2147483647), ((-2147483648), 2147483647), ((-2147483648), 2147483647)], [(78, false), (57, false)], [], [], [], [], [(273, [(0, [(1, 1)]), (1, [(0, 1)])])])])
theorem lk_1014 : l_core lm_1014 := by
  first
  | skip
    intro v x h
    have G0 := h.2.2.1
    have G1 := G0.2
    have C0 : (0 : Int) ≤ x 0 := l_cc (a := y_ev x (0, [(0, 1)])) (l_e1 _ _) (h.2.1.1)
    have C1 : (0 : Int) ≤ 5 - x 0 := l_cc (a := y_ev x (5, [(0, (-1))])) (by show ((5) : Int) + ((-1) * x 0 + 0) = 5 - x 0; omega) (h.2.1.2.1)
    have F0 : (0 : Int) ≤ x 0 ∧ (x 0 : Int) < j_len 78 ∧ v 78 (x 0) = x 2 := l_ff (f := v 78) (L := j_len 78) (a := y_ev x (0, [(0, 1)])) (b := y_ev x (0, [(2, 1)])) (l_e1 _ _) (l_e1 _ _) (G0.1.1)
    have F1 : (0 : Int) ≤ x 0 + 6 * x 1 ∧ (x 0 + 6 * x 1 : Int) < j_len 57 ∧ v 57 (x 0 + 6 * x 1) = x 2 := l_ff (f := v 57) (L := j_len 57) (a := y_ev x (0, [(0, 1), (1, 6)])) (b := y_ev x (0, [(2, 1)])) (by show ((0) : Int) + ((1) * x 0 + ((6) * x 1 + 0)) = x 0 + 6 * x 1; omega) (l_e1 _ _) (G1.1.1)
    have T0 : q_bgm v true (y_ev x (0, [(1, 1)])) (y_ev x (0, [(0, 1)])) := h.2.2.2.1
    (try simp only [l_e1, l_e0] at T0)
    have K := k_bgmS (V := v) (h := x 0) (l := x 1) (u := x 2) T0 C0 C1 F0 F1
    refine l_outH rfl (And.intro h.1 ?_)
    have O1 : y_ev x (1, [(0, 1)]) = x 0 + 1 := by show ((1) : Int) + ((1) * x 0 + 0) = _; omega
    show (True) ∧ (q_bgm v false (y_ev x (0, [(1, 1)])) (y_ev x (1, [(0, 1)])) ∧ True)
    (try rw [O1]); (try simp only [l_e1, l_e0])
    exact K
  | skip
    intro v x h
    have G0 := h.2.2.1
    have G1 := G0.2
    have C0 : (0 : Int) ≤ x 0 := l_cc (a := y_ev x (0, [(0, 1)])) (l_e1 _ _) (h.2.1.1)
    have C1 : (0 : Int) ≤ 5 - x 0 := l_cc (a := y_ev x (5, [(0, (-1))])) (by show ((5) : Int) + ((-1) * x 0 + 0) = 5 - x 0; omega) (h.2.1.2.1)
    have F0 : (0 : Int) ≤ x 0 ∧ (x 0 : Int) < j_len 78 ∧ v 78 (x 0) = x 2 := l_ff (f := v 78) (L := j_len 78) (a := y_ev x (0, [(0, 1)])) (b := y_ev x (0, [(2, 1)])) (l_e1 _ _) (l_e1 _ _) (G0.1.1)
    have F1 : (0 : Int) ≤ x 0 + 6 * x 1 ∧ (x 0 + 6 * x 1 : Int) < j_len 57 ∧ v 57 (x 0 + 6 * x 1) = x 2 := l_ff (f := v 57) (L := j_len 57) (a := y_ev x (0, [(0, 1), (1, 6)])) (b := y_ev x (0, [(2, 1)])) (by show ((0) : Int) + ((1) * x 0 + ((6) * x 1 + 0)) = x 0 + 6 * x 1; omega) (l_e1 _ _) (G1.1.1)
    have E0 : y_ev x (0, [(1, 1)]) = x 1 := (l_e1 _ _)
    have E1 : y_ev x (0, [(0, 1)]) = x 0 := (l_e1 _ _)
    have T0 : q_bgm v true (y_ev x (0, [(1, 1)])) (y_ev x (0, [(0, 1)])) := h.2.2.2.1
    (try rw [E0] at T0); (try rw [E1] at T0)
    have K := k_bgmS (V := v) (h := x 0) (l := x 1) (u := x 2) T0 C0 C1 F0 F1
    refine l_outH rfl (And.intro h.1 ?_)
    have O0 : y_ev x (0, [(1, 1)]) = x 1 := l_e1 _ _
    have O1 : y_ev x (1, [(0, 1)]) = x 0 + 1 := by show ((1) : Int) + ((1) * x 0 + 0) = _; omega
    show (True) ∧ (q_bgm v false (y_ev x (0, [(1, 1)])) (y_ev x (1, [(0, 1)])) ∧ True)
    (try rw [O0]); (try rw [O1])
    exact K
def lm_1015 : zLem := (([((-2147483648), 2147483647), ((-2147483648), 2147483647)], [], [], [], [], [], [(273, [(0, [(0, 1)]), (0, [(1, 1)])]), (239, [])]), [([((-2147483648), 2147483647), ((-2147483648), 2147483647)], [], [], [], [], [], [(275, [(0, [(0, 1)]), (0, [(1, 1)])])])])
theorem lk_1015 : l_core lm_1015 := by
  first
  | skip
    intro v x h
    have T0 : q_bgm v false (y_ev x (0, [(0, 1)])) (y_ev x (0, [(1, 1)])) := h.2.2.2.1
    (try simp only [l_e1, l_e0] at T0)
    have T1 : q_ner v := h.2.2.2.2.1
    have K := k_nbg (V := v) (l := x 0) (h := x 1) T0 T1
    refine l_outH rfl (And.intro h.1 ?_)
    show (True) ∧ (q_nbg v (y_ev x (0, [(0, 1)])) (y_ev x (0, [(1, 1)])) ∧ True)
    (try simp only [l_e1, l_e0])
    exact K
  | skip
    intro v x h
    have E0 : y_ev x (0, [(0, 1)]) = x 0 := (l_e1 _ _)
    have E1 : y_ev x (0, [(1, 1)]) = x 1 := (l_e1 _ _)
    have T0 : q_bgm v false (y_ev x (0, [(0, 1)])) (y_ev x (0, [(1, 1)])) := h.2.2.2.1
    (try rw [E0] at T0); (try rw [E1] at T0)
    have T1 : q_ner v := h.2.2.2.2.1
    have K := k_nbg (V := v) (l := x 0) (h := x 1) T0 T1
    refine l_outH rfl (And.intro h.1 ?_)
    have O0 : y_ev x (0, [(0, 1)]) = x 0 := l_e1 _ _
    have O1 : y_ev x (0, [(1, 1)]) = x 1 := l_e1 _ _
    show (True) ∧ (q_nbg v (y_ev x (0, [(0, 1)])) (y_ev x (0, [(1, 1)])) ∧ True)
    (try rw [O0]); (try rw [O1])
    exact K
def lm_1016 : zLem := (([((-2147483648), 2147483647), ((-2147483648), 2147483647), ((-2147483648), 2147483647), ((-2147483648), 2147483647), ((-2147483648), 2147483647)], [], [(0, [(1, 1)]), (1, [(1, (-1))])], [], [], [], [(272, []), (275, [(0, [(1, 1)]), (0, [(0, 1)])]), (200, [(0, [(1, 1)]), (0, [(4, 1)]), (1, []), (0, [(0, 1)])]), (94, [(0, [(2, 1)]), (0, [(0, 1)])]), (96, [(0, [(2, 1)]), (0, [(0, 1)]), (0, [(1, 1)])]), (47, [(0, [(2, 1)]), (0, []), (0, [(3, 1)])])]), [([((-2147483648), 2147483647), ((-2147483648), 2147483647), ((-2147483648), 2147483647), ((-2147483648), 2147483647), ((-2147483648), 2147483647)], [], [], [], [], [], [(235, [(0, [(0, 1)]), (0, []), (0, []), (0, []), (0, []), (0, []), (0, []), (0, []), (0, []), (0, []), (0, [])])])])
theorem lk_1016 : l_core lm_1016 := by
  first
  | skip
    intro v x h
    have C0 : (0 : Int) ≤ x 1 := l_cc (a := y_ev x (0, [(1, 1)])) (l_e1 _ _) (h.2.1.1)
    have C1 : (0 : Int) ≤ 1 - x 1 := l_cc (a := y_ev x (1, [(1, (-1))])) (by show ((1) : Int) + ((-1) * x 1 + 0) = 1 - x 1; omega) (h.2.1.2.1)
    have T0 : ∀ i : Int, 0 ≤ i → i < 6 → v 27 i = v 19 i ∧ v 28 i = 0 := h.2.2.2.1
    have T1 : q_nbg v (y_ev x (0, [(1, 1)])) (y_ev x (0, [(0, 1)])) := h.2.2.2.2.1
    (try simp only [l_e1, l_e0] at T1)
    have T2 : (y_ev x (1, [])) = 1 → 0 ≤ (y_ev x (0, [(1, 1)])) ∧ 0 ≤ (y_ev x (0, [(4, 1)])) ∧ (y_ev x (0, [(1, 1)])) + (y_ev x (0, [(4, 1)])) = 1 ∧ (y_ev x (0, [(0, 1)])) ≤ 6 ∧ ∀ i_ : Int, 0 ≤ i_ → i_ < (y_ev x (0, [(0, 1)])) → v 19 i_ = v 57 (6 * (y_ev x (0, [(1, 1)])) + i_) ∧ v 20 i_ = v 58 (6 * (y_ev x (0, [(1, 1)])) + i_) := h.2.2.2.2.2.1
    (try simp only [l_e1, l_e0] at T2)
    have T3 : q_fhs (t_b v) (y_ev x (0, [(2, 1)])) (y_ev x (0, [(0, 1)])) (v 19) (v 20) := h.2.2.2.2.2.2.1
    (try simp only [l_e1, l_e0] at T3)
    have T4 : 0 ≤ (y_ev x (0, [(1, 1)])) ∧ q_fhs (t_b v) (y_ev x (0, [(2, 1)])) (y_ev x (0, [(0, 1)])) (fun i_ => v 57 (6 * (y_ev x (0, [(1, 1)])) + i_)) (fun i_ => v 58 (6 * (y_ev x (0, [(1, 1)])) + i_)) := h.2.2.2.2.2.2.2.1
    (try simp only [l_e1, l_e0] at T4)
    have T5 : q_fin (t_b v) (y_ev x (0, [(2, 1)])) (y_ev x (0, [])) (y_ev x (0, [(3, 1)])) := h.2.2.2.2.2.2.2.2.1
    (try simp only [l_e1, l_e0] at T5)
    have K := k_stb (V := v) (H := x 0) (l := x 1) (n := x 2) (q := x 3) (x := x 4) T0 T1 T2 T3 T4 T5 C0 C1
    refine l_outH rfl (And.intro h.1 ?_)
    show (True) ∧ (q_sto v 0 (y_ev x (0, [(0, 1)])) (y_ev x (0, [])) (y_ev x (0, [])) (y_ev x (0, [])) (y_ev x (0, [])) (y_ev x (0, [])) (y_ev x (0, [])) (y_ev x (0, [])) (y_ev x (0, [])) (y_ev x (0, [])) (y_ev x (0, [])) ∧ True)
    (try simp only [l_e1, l_e0])
    exact K
  | skip
    intro v x h
    have C0 : (0 : Int) ≤ x 1 := l_cc (a := y_ev x (0, [(1, 1)])) (l_e1 _ _) (h.2.1.1)
    have C1 : (0 : Int) ≤ 1 - x 1 := l_cc (a := y_ev x (1, [(1, (-1))])) (by show ((1) : Int) + ((-1) * x 1 + 0) = 1 - x 1; omega) (h.2.1.2.1)
    have E0 : y_ev x (0, [(1, 1)]) = x 1 := (l_e1 _ _)
    have E1 : y_ev x (0, [(0, 1)]) = x 0 := (l_e1 _ _)
    have E2 : y_ev x (0, [(4, 1)]) = x 4 := (l_e1 _ _)
    have E3 : y_ev x (1, []) = 1 := (l_e0 _ _)
    have E4 : y_ev x (0, [(2, 1)]) = x 2 := (l_e1 _ _)
    have E5 : y_ev x (0, []) = 0 := (l_e0 _ _)
    have E6 : y_ev x (0, [(3, 1)]) = x 3 := (l_e1 _ _)
    have T0 : ∀ i : Int, 0 ≤ i → i < 6 → v 27 i = v 19 i ∧ v 28 i = 0 := h.2.2.2.1
    have T1 : q_nbg v (y_ev x (0, [(1, 1)])) (y_ev x (0, [(0, 1)])) := h.2.2.2.2.1
    (try rw [E0] at T1); (try rw [E1] at T1)
    have T2 : (y_ev x (1, [])) = 1 → 0 ≤ (y_ev x (0, [(1, 1)])) ∧ 0 ≤ (y_ev x (0, [(4, 1)])) ∧ (y_ev x (0, [(1, 1)])) + (y_ev x (0, [(4, 1)])) = 1 ∧ (y_ev x (0, [(0, 1)])) ≤ 6 ∧ ∀ i_ : Int, 0 ≤ i_ → i_ < (y_ev x (0, [(0, 1)])) → v 19 i_ = v 57 (6 * (y_ev x (0, [(1, 1)])) + i_) ∧ v 20 i_ = v 58 (6 * (y_ev x (0, [(1, 1)])) + i_) := h.2.2.2.2.2.1
    (try rw [E0] at T2); (try rw [E2] at T2); (try rw [E3] at T2); (try rw [E1] at T2)
    have T3 : q_fhs (t_b v) (y_ev x (0, [(2, 1)])) (y_ev x (0, [(0, 1)])) (v 19) (v 20) := h.2.2.2.2.2.2.1
    (try rw [E4] at T3); (try rw [E1] at T3)
    have T4 : 0 ≤ (y_ev x (0, [(1, 1)])) ∧ q_fhs (t_b v) (y_ev x (0, [(2, 1)])) (y_ev x (0, [(0, 1)])) (fun i_ => v 57 (6 * (y_ev x (0, [(1, 1)])) + i_)) (fun i_ => v 58 (6 * (y_ev x (0, [(1, 1)])) + i_)) := h.2.2.2.2.2.2.2.1
    (try rw [E4] at T4); (try rw [E1] at T4); (try rw [E0] at T4)
    have T5 : q_fin (t_b v) (y_ev x (0, [(2, 1)])) (y_ev x (0, [])) (y_ev x (0, [(3, 1)])) := h.2.2.2.2.2.2.2.2.1
    (try rw [E4] at T5); (try rw [E5] at T5); (try rw [E6] at T5)
    have K := k_stb (V := v) (H := x 0) (l := x 1) (n := x 2) (q := x 3) (x := x 4) T0 T1 T2 T3 T4 T5 C0 C1
    refine l_outH rfl (And.intro h.1 ?_)
    have O0 : y_ev x (0, [(0, 1)]) = x 0 := l_e1 _ _
    have O1 : y_ev x (0, []) = 0 := l_e0 _ _
    show (True) ∧ (q_sto v 0 (y_ev x (0, [(0, 1)])) (y_ev x (0, [])) (y_ev x (0, [])) (y_ev x (0, [])) (y_ev x (0, [])) (y_ev x (0, [])) (y_ev x (0, [])) (y_ev x (0, [])) (y_ev x (0, [])) (y_ev x (0, [])) (y_ev x (0, [])) ∧ True)
    (try rw [O0]); (try rw [O1])
    exact K
def lm_1017 : zLem := (([((-2147483648), 2147483647), ((-2147483648), 2147483647), ((-2147483648), 2147483647), ((-2147483648), 2147483647), ((-2147483648), 2147483647)], [(6, false), (7, false)], [(0, [(1, 1)]), (39, [(1, (-1))])], [], [], [(0, (false, 5, 0, []), 0, 0, 0, [(0, 1)]), (1, (false, 2, 0, []), 0, 0, 0, [(1, 1)]), (1, (false, 3, 0, []), 0, 0, 0, [])], [(235, [(0, [(0, 1)]), (0, [(2, 1)]), (0, [(3, 1)]), (0, [(4, 1)]), (0, []), (0, []), (0, []), (0, []), (0, []), (0, []), (0, [])])]), [([((-2147483648), 2147483647), ((-2147483648), 2147483647), ((-2147483648), 2147483647), ((-2147483648), 2147483647), ((-2147483648), 2147483647)], [(6, false), (7, false)], [], [], [], [], [(242, [(0, [(0, 1)]), (0, [(1, 1)]), (0, []), (0, [])])])])
theorem lk_1017 : l_core lm_1017 := by
  first
  | skip
    intro v x h
    have C0 : (0 : Int) ≤ x 1 := l_cc (a := y_ev x (0, [(1, 1)])) (l_e1 _ _) (h.2.1.1)
    have C1 : (0 : Int) ≤ 39 - x 1 := l_cc (a := y_ev x (39, [(1, (-1))])) (by show ((39) : Int) + ((-1) * x 1 + 0) = 39 - x 1; omega) (h.2.1.2.1)
    have T0 : q_sto v 0 (y_ev x (0, [(0, 1)])) (y_ev x (0, [(2, 1)])) (y_ev x (0, [(3, 1)])) (y_ev x (0, [(4, 1)])) (y_ev x (0, [])) (y_ev x (0, [])) (y_ev x (0, [])) (y_ev x (0, [])) (y_ev x (0, [])) (y_ev x (0, [])) (y_ev x (0, [])) := h.2.2.2.1
    (try simp only [l_e1, l_e0] at T0)
    have K := k_his0 (V := v) (H := x 0) (o := x 1) (p := x 2) (y := x 3) (d := x 4) T0 C0 C1
    refine l_outH rfl (And.intro h.1 ?_)
    show (True) ∧ (q_hx v (-1) (y_ev x (0, [(0, 1)])) (y_ev x (0, [(1, 1)])) (y_ev x (0, [])) (y_ev x (0, [])) ∧ True)
    (try simp only [l_e1, l_e0])
    exact K
  | skip
    intro v x h
    have C0 : (0 : Int) ≤ x 1 := l_cc (a := y_ev x (0, [(1, 1)])) (l_e1 _ _) (h.2.1.1)
    have C1 : (0 : Int) ≤ 39 - x 1 := l_cc (a := y_ev x (39, [(1, (-1))])) (by show ((39) : Int) + ((-1) * x 1 + 0) = 39 - x 1; omega) (h.2.1.2.1)
    have E0 : y_ev x (0, [(0, 1)]) = x 0 := (l_e1 _ _)
    have E1 : y_ev x (0, [(2, 1)]) = x 2 := (l_e1 _ _)
    have E2 : y_ev x (0, [(3, 1)]) = x 3 := (l_e1 _ _)
    have E3 : y_ev x (0, [(4, 1)]) = x 4 := (l_e1 _ _)
    have E4 : y_ev x (0, []) = 0 := (l_e0 _ _)
    have T0 : q_sto v 0 (y_ev x (0, [(0, 1)])) (y_ev x (0, [(2, 1)])) (y_ev x (0, [(3, 1)])) (y_ev x (0, [(4, 1)])) (y_ev x (0, [])) (y_ev x (0, [])) (y_ev x (0, [])) (y_ev x (0, [])) (y_ev x (0, [])) (y_ev x (0, [])) (y_ev x (0, [])) := h.2.2.2.1
    (try rw [E0] at T0); (try rw [E1] at T0); (try rw [E2] at T0); (try rw [E3] at T0); (try rw [E4] at T0)
    have K := k_his0 (V := v) (H := x 0) (o := x 1) (p := x 2) (y := x 3) (d := x 4) T0 C0 C1
    refine l_outH rfl (And.intro h.1 ?_)
    have O0 : y_ev x (0, [(0, 1)]) = x 0 := l_e1 _ _
    have O1 : y_ev x (0, [(1, 1)]) = x 1 := l_e1 _ _
    have O2 : y_ev x (0, []) = 0 := l_e0 _ _
    show (True) ∧ (q_hx v (-1) (y_ev x (0, [(0, 1)])) (y_ev x (0, [(1, 1)])) (y_ev x (0, [])) (y_ev x (0, [])) ∧ True)
    (try rw [O0]); (try rw [O1]); (try rw [O2])
    exact K
def lm_1018 : zLem := (([((-2147483648), 2147483647), ((-2147483648), 2147483647), ((-2147483648), 2147483647), ((-2147483648), 2147483647)], [(6, false)], [], [], [], [(0, (false, 5, 0, []), 0, 0, 0, [(0, 1)])], [(235, [(0, [(0, 1)]), (0, [(1, 1)]), (0, [(2, 1)]), (0, [(3, 1)]), (0, []), (0, []), (0, []), (0, []), (0, []), (0, []), (0, [])])]), [([((-2147483648), 2147483647), ((-2147483648), 2147483647), ((-2147483648), 2147483647), ((-2147483648), 2147483647)], [(6, false)], [], [], [], [], [(246, [(0, [(0, 1)]), (0, []), (0, []), (0, [])])])])
theorem lk_1018 : l_core lm_1018 := by
  first
  | skip
    intro v x h
    have T0 : q_sto v 0 (y_ev x (0, [(0, 1)])) (y_ev x (0, [(1, 1)])) (y_ev x (0, [(2, 1)])) (y_ev x (0, [(3, 1)])) (y_ev x (0, [])) (y_ev x (0, [])) (y_ev x (0, [])) (y_ev x (0, [])) (y_ev x (0, [])) (y_ev x (0, [])) (y_ev x (0, [])) := h.2.2.2.1
    (try simp only [l_e1, l_e0] at T0)
    have K := k_slt0 (V := v) (H := x 0) (p := x 1) (y := x 2) (d := x 3) T0
    refine l_outH rfl (And.intro h.1 ?_)
    show (True) ∧ (q_sl v (-1) (y_ev x (0, [(0, 1)])) (y_ev x (0, [])) (y_ev x (0, [])) (y_ev x (0, [])) ∧ True)
    (try simp only [l_e1, l_e0])
    exact K
  | skip
    intro v x h
    have E0 : y_ev x (0, [(0, 1)]) = x 0 := (l_e1 _ _)
    have E1 : y_ev x (0, [(1, 1)]) = x 1 := (l_e1 _ _)
    have E2 : y_ev x (0, [(2, 1)]) = x 2 := (l_e1 _ _)
    have E3 : y_ev x (0, [(3, 1)]) = x 3 := (l_e1 _ _)
    have E4 : y_ev x (0, []) = 0 := (l_e0 _ _)
    have T0 : q_sto v 0 (y_ev x (0, [(0, 1)])) (y_ev x (0, [(1, 1)])) (y_ev x (0, [(2, 1)])) (y_ev x (0, [(3, 1)])) (y_ev x (0, [])) (y_ev x (0, [])) (y_ev x (0, [])) (y_ev x (0, [])) (y_ev x (0, [])) (y_ev x (0, [])) (y_ev x (0, [])) := h.2.2.2.1
    (try rw [E0] at T0); (try rw [E1] at T0); (try rw [E2] at T0); (try rw [E3] at T0); (try rw [E4] at T0)
    have K := k_slt0 (V := v) (H := x 0) (p := x 1) (y := x 2) (d := x 3) T0
    refine l_outH rfl (And.intro h.1 ?_)
    have O0 : y_ev x (0, [(0, 1)]) = x 0 := l_e1 _ _
    have O1 : y_ev x (0, []) = 0 := l_e0 _ _
    show (True) ∧ (q_sl v (-1) (y_ev x (0, [(0, 1)])) (y_ev x (0, [])) (y_ev x (0, [])) (y_ev x (0, [])) ∧ True)
    (try rw [O0]); (try rw [O1])
    exact K
def lm_1019 : zLem := (([((-2147483648), 2147483647), ((-2147483648), 2147483647), ((-2147483648), 2147483647), ((-2147483648), 2147483647), ((-2147483648), 2147483647), ((-2147483648), 2147483647)], [(77, false)], [(0, [(0, 1)]), (5, [(0, (-1))])], [], [(0, 0, 0, [(0, 1)])], [(0, (true, 0, 25, [(0, 1)]), 0, 0, 0, [(1, 1)])], [(235, [(0, [(2, 1)]), (0, [(3, 1)]), (0, [(4, 1)]), (0, [(5, 1)]), (0, []), (0, []), (0, []), (0, []), (0, []), (0, []), (0, [])])]), [([((-2147483648), 2147483647), ((-2147483648), 2147483647), ((-2147483648), 2147483647), ((-2147483648), 2147483647), ((-2147483648), 2147483647), ((-2147483648), 2147483647)], [(77, false)], [], [], [], [], [(238, [(8, []), (0, []), (0, []), (0, []), (0, []), (0, []), (0, []), (0, []), (25, [(0, 1)]), (0, []), (0, [(1, 1)])])])])
theorem lk_1019 : l_core lm_1019 := by
  first
  | skip
    intro v x h
    have G0 := h.2.2.1
    have C0 : (0 : Int) ≤ x 0 := l_cc (a := y_ev x (0, [(0, 1)])) (l_e1 _ _) (h.2.1.1)
    have C1 : (0 : Int) ≤ 5 - x 0 := l_cc (a := y_ev x (5, [(0, (-1))])) (by show ((5) : Int) + ((-1) * x 0 + 0) = 5 - x 0; omega) (h.2.1.2.1)
    have F0 : (0 : Int) ≤ x 0 + 25 ∧ (x 0 + 25 : Int) < j_len 77 ∧ v 77 (x 0 + 25) = x 1 := l_ff (f := v 77) (L := j_len 77) (a := y_ev x (25, [(0, 1)])) (b := y_ev x (0, [(1, 1)])) (by show ((25) : Int) + ((1) * x 0 + 0) = x 0 + 25; omega) (l_e1 _ _) (G0.1.1)
    have T0 : q_sto v 0 (y_ev x (0, [(2, 1)])) (y_ev x (0, [(3, 1)])) (y_ev x (0, [(4, 1)])) (y_ev x (0, [(5, 1)])) (y_ev x (0, [])) (y_ev x (0, [])) (y_ev x (0, [])) (y_ev x (0, [])) (y_ev x (0, [])) (y_ev x (0, [])) (y_ev x (0, [])) := h.2.2.2.1
    (try simp only [l_e1, l_e0] at T0)
    have K := k_ncel (V := v) (i := x 0) (u := x 1) (H := x 2) (p := x 3) (y := x 4) (d := x 5) T0 C0 C1 F0
    refine l_outH rfl (And.intro h.1 ?_)
    have O2 : y_ev x (25, [(0, 1)]) = x 0 + 25 := by show ((25) : Int) + ((1) * x 0 + 0) = _; omega
    show (True) ∧ (q_qry v (y_ev x (8, [])) (y_ev x (0, [])) (y_ev x (0, [])) (y_ev x (0, [])) (y_ev x (0, [])) (y_ev x (0, [])) (y_ev x (0, [])) (y_ev x (0, [])) (y_ev x (25, [(0, 1)])) (y_ev x (0, [])) (y_ev x (0, [(1, 1)])) ∧ True)
    (try rw [O2]); (try simp only [l_e1, l_e0])
    exact K
  | skip
    intro v x h
    have G0 := h.2.2.1
    have C0 : (0 : Int) ≤ x 0 := l_cc (a := y_ev x (0, [(0, 1)])) (l_e1 _ _) (h.2.1.1)
    have C1 : (0 : Int) ≤ 5 - x 0 := l_cc (a := y_ev x (5, [(0, (-1))])) (by show ((5) : Int) + ((-1) * x 0 + 0) = 5 - x 0; omega) (h.2.1.2.1)
    have F0 : (0 : Int) ≤ x 0 + 25 ∧ (x 0 + 25 : Int) < j_len 77 ∧ v 77 (x 0 + 25) = x 1 := l_ff (f := v 77) (L := j_len 77) (a := y_ev x (25, [(0, 1)])) (b := y_ev x (0, [(1, 1)])) (by show ((25) : Int) + ((1) * x 0 + 0) = x 0 + 25; omega) (l_e1 _ _) (G0.1.1)
    have E0 : y_ev x (0, [(2, 1)]) = x 2 := (l_e1 _ _)
    have E1 : y_ev x (0, [(3, 1)]) = x 3 := (l_e1 _ _)
    have E2 : y_ev x (0, [(4, 1)]) = x 4 := (l_e1 _ _)
    have E3 : y_ev x (0, [(5, 1)]) = x 5 := (l_e1 _ _)
    have E4 : y_ev x (0, []) = 0 := (l_e0 _ _)
    have T0 : q_sto v 0 (y_ev x (0, [(2, 1)])) (y_ev x (0, [(3, 1)])) (y_ev x (0, [(4, 1)])) (y_ev x (0, [(5, 1)])) (y_ev x (0, [])) (y_ev x (0, [])) (y_ev x (0, [])) (y_ev x (0, [])) (y_ev x (0, [])) (y_ev x (0, [])) (y_ev x (0, [])) := h.2.2.2.1
    (try rw [E0] at T0); (try rw [E1] at T0); (try rw [E2] at T0); (try rw [E3] at T0); (try rw [E4] at T0)
    have K := k_ncel (V := v) (i := x 0) (u := x 1) (H := x 2) (p := x 3) (y := x 4) (d := x 5) T0 C0 C1 F0
    refine l_outH rfl (And.intro h.1 ?_)
    have O0 : y_ev x (8, []) = 8 := l_e0 _ _
    have O1 : y_ev x (0, []) = 0 := l_e0 _ _
    have O2 : y_ev x (25, [(0, 1)]) = x 0 + 25 := by show ((25) : Int) + ((1) * x 0 + 0) = _; omega
    have O3 : y_ev x (0, [(1, 1)]) = x 1 := l_e1 _ _
    show (True) ∧ (q_qry v (y_ev x (8, [])) (y_ev x (0, [])) (y_ev x (0, [])) (y_ev x (0, [])) (y_ev x (0, [])) (y_ev x (0, [])) (y_ev x (0, [])) (y_ev x (0, [])) (y_ev x (25, [(0, 1)])) (y_ev x (0, [])) (y_ev x (0, [(1, 1)])) ∧ True)
    (try rw [O0]); (try rw [O1]); (try rw [O2]); (try rw [O3])
    exact K
def lm_1020 : zLem := (([((-2147483648), 2147483647), ((-2147483648), 2147483647), ((-2147483648), 2147483647)], [], [], [], [(0, 0, 0, [(0, 1)])], [], [(260, [(8, []), (0, []), (0, []), (0, []), (0, []), (0, []), (0, []), (0, []), (25, [(0, 1)]), (0, []), (0, [(1, 1)])]), (238, [(8, []), (0, []), (0, []), (0, []), (0, []), (0, []), (0, []), (0, []), (25, [(0, 1)]), (0, []), (0, [(2, 1)])])]), [([((-2147483648), 2147483647), ((-2147483648), 2147483647), ((-2147483648), 2147483647)], [], [(0, [(1, 1), (2, (-1))]), (0, [(1, (-1)), (2, 1)])], [], [], [], [])])
theorem lk_1020 : l_core lm_1020 := by
  first
  | skip
    intro v x h
    have E2 : y_ev x (25, [(0, 1)]) = x 0 + 25 := (by show ((25) : Int) + ((1) * x 0 + 0) = x 0 + 25; omega)
    have T0 : q_qry v (y_ev x (8, [])) (y_ev x (0, [])) (y_ev x (0, [])) (y_ev x (0, [])) (y_ev x (0, [])) (y_ev x (0, [])) (y_ev x (0, [])) (y_ev x (0, [])) (y_ev x (25, [(0, 1)])) (y_ev x (0, [])) (y_ev x (0, [(1, 1)])) := h.2.2.2.1
    (try rw [E2] at T0); (try simp only [l_e1, l_e0] at T0)
    have T1 : q_qry v (y_ev x (8, [])) (y_ev x (0, [])) (y_ev x (0, [])) (y_ev x (0, [])) (y_ev x (0, [])) (y_ev x (0, [])) (y_ev x (0, [])) (y_ev x (0, [])) (y_ev x (25, [(0, 1)])) (y_ev x (0, [])) (y_ev x (0, [(2, 1)])) := h.2.2.2.2.1
    (try rw [E2] at T1); (try simp only [l_e1, l_e0] at T1)
    have K := k_qeA (V := v) (i := x 0) (u := x 1) (w := x 2) T0 T1
    refine l_outH rfl (And.intro h.1 ?_)
    have O0 : y_ev x (0, [(1, 1), (2, (-1))]) = x 1 - x 2 := by show ((0) : Int) + ((1) * x 1 + ((-1) * x 2 + 0)) = _; omega
    have O1 : y_ev x (0, [(1, (-1)), (2, 1)]) = x 2 - x 1 := by show ((0) : Int) + ((-1) * x 1 + ((1) * x 2 + 0)) = _; omega
    show (0 ≤ y_ev x (0, [(1, 1), (2, (-1))]) ∧ 0 ≤ y_ev x (0, [(1, (-1)), (2, 1)]) ∧ True) ∧ (True)
    (try rw [O0]); (try rw [O1])
    exact K
  | skip
    intro v x h
    have E0 : y_ev x (8, []) = 8 := (l_e0 _ _)
    have E1 : y_ev x (0, []) = 0 := (l_e0 _ _)
    have E2 : y_ev x (25, [(0, 1)]) = x 0 + 25 := (by show ((25) : Int) + ((1) * x 0 + 0) = x 0 + 25; omega)
    have E3 : y_ev x (0, [(1, 1)]) = x 1 := (l_e1 _ _)
    have E4 : y_ev x (0, [(2, 1)]) = x 2 := (l_e1 _ _)
    have T0 : q_qry v (y_ev x (8, [])) (y_ev x (0, [])) (y_ev x (0, [])) (y_ev x (0, [])) (y_ev x (0, [])) (y_ev x (0, [])) (y_ev x (0, [])) (y_ev x (0, [])) (y_ev x (25, [(0, 1)])) (y_ev x (0, [])) (y_ev x (0, [(1, 1)])) := h.2.2.2.1
    (try rw [E0] at T0); (try rw [E1] at T0); (try rw [E2] at T0); (try rw [E3] at T0)
    have T1 : q_qry v (y_ev x (8, [])) (y_ev x (0, [])) (y_ev x (0, [])) (y_ev x (0, [])) (y_ev x (0, [])) (y_ev x (0, [])) (y_ev x (0, [])) (y_ev x (0, [])) (y_ev x (25, [(0, 1)])) (y_ev x (0, [])) (y_ev x (0, [(2, 1)])) := h.2.2.2.2.1
    (try rw [E0] at T1); (try rw [E1] at T1); (try rw [E2] at T1); (try rw [E4] at T1)
    have K := k_qeA (V := v) (i := x 0) (u := x 1) (w := x 2) T0 T1
    refine l_outH rfl (And.intro h.1 ?_)
    have O0 : y_ev x (0, [(1, 1), (2, (-1))]) = x 1 - x 2 := by show ((0) : Int) + ((1) * x 1 + ((-1) * x 2 + 0)) = _; omega
    have O1 : y_ev x (0, [(1, (-1)), (2, 1)]) = x 2 - x 1 := by show ((0) : Int) + ((-1) * x 1 + ((1) * x 2 + 0)) = _; omega
    show (0 ≤ y_ev x (0, [(1, 1), (2, (-1))]) ∧ 0 ≤ y_ev x (0, [(1, (-1)), (2, 1)]) ∧ True) ∧ (True)
    (try rw [O0]); (try rw [O1])
    exact K
def lm_1021 : zLem := (([((-2147483648), 2147483647), ((-2147483648), 2147483647), ((-2147483648), 2147483647), ((-2147483648), 2147483647), ((-2147483648), 2147483647), ((-2147483648), 2147483647)], [(77, false)], [(0, [(0, 1), (1, (-1))]), (0, [(1, 1), (2, (-1))]), ((-1), [(0, (-1)), (2, 1)])], [], [(0, 0, 0, [(0, 1)])], [(0, (true, 0, 24, []), 0, 0, 0, [(1, 1)])], [(235, [(0, [(3, 1)]), (0, [(2, 1)]), (0, [(4, 1)]), (0, [(5, 1)]), (0, []), (0, []), (0, []), (0, []), (0, []), (0, []), (0, [])])]), [([((-2147483648), 2147483647), ((-2147483648), 2147483647), ((-2147483648), 2147483647), ((-2147483648), 2147483647), ((-2147483648), 2147483647), ((-2147483648), 2147483647)], [(77, false)], [((-1), [])], [], [], [], [])])
theorem lk_1021 : l_core lm_1021 := by
  first
  | skip
    intro v x h
    have G0 := h.2.2.1
    have C0 : (0 : Int) ≤ x 0 - x 1 := l_cc (a := y_ev x (0, [(0, 1), (1, (-1))])) (by show ((0) : Int) + ((1) * x 0 + ((-1) * x 1 + 0)) = x 0 - x 1; omega) (h.2.1.1)
    have C1 : (0 : Int) ≤ x 1 - x 2 := l_cc (a := y_ev x (0, [(1, 1), (2, (-1))])) (by show ((0) : Int) + ((1) * x 1 + ((-1) * x 2 + 0)) = x 1 - x 2; omega) (h.2.1.2.1)
    have C2 : (0 : Int) ≤ x 2 - x 0 - 1 := l_cc (a := y_ev x ((-1), [(0, (-1)), (2, 1)])) (by show ((-1) : Int) + ((-1) * x 0 + ((1) * x 2 + 0)) = x 2 - x 0 - 1; omega) (h.2.1.2.2.1)
    have F0 : (0 : Int) ≤ 24 ∧ (24 : Int) < j_len 77 ∧ v 77 (24) = x 1 := l_ff (f := v 77) (L := j_len 77) (a := y_ev x (24, [])) (b := y_ev x (0, [(1, 1)])) (l_e0 _ _) (l_e1 _ _) (G0.1.1)
    have T0 : q_sto v 0 (y_ev x (0, [(3, 1)])) (y_ev x (0, [(2, 1)])) (y_ev x (0, [(4, 1)])) (y_ev x (0, [(5, 1)])) (y_ev x (0, [])) (y_ev x (0, [])) (y_ev x (0, [])) (y_ev x (0, [])) (y_ev x (0, [])) (y_ev x (0, [])) (y_ev x (0, [])) := h.2.2.2.1
    (try simp only [l_e1, l_e0] at T0)
    have K := k_atx (V := v) (i := x 0) (u := x 1) (p := x 2) (H := x 3) (y := x 4) (d := x 5) T0 C0 C1 C2 F0
    refine l_outH rfl (And.intro h.1 ?_)
    show (0 ≤ y_ev x ((-1), []) ∧ True) ∧ (True)
    (try simp only [l_e1, l_e0])
    exact K
  | skip
    intro v x h
    have G0 := h.2.2.1
    have C0 : (0 : Int) ≤ x 0 - x 1 := l_cc (a := y_ev x (0, [(0, 1), (1, (-1))])) (by show ((0) : Int) + ((1) * x 0 + ((-1) * x 1 + 0)) = x 0 - x 1; omega) (h.2.1.1)
    have C1 : (0 : Int) ≤ x 1 - x 2 := l_cc (a := y_ev x (0, [(1, 1), (2, (-1))])) (by show ((0) : Int) + ((1) * x 1 + ((-1) * x 2 + 0)) = x 1 - x 2; omega) (h.2.1.2.1)
    have C2 : (0 : Int) ≤ x 2 - x 0 - 1 := l_cc (a := y_ev x ((-1), [(0, (-1)), (2, 1)])) (by show ((-1) : Int) + ((-1) * x 0 + ((1) * x 2 + 0)) = x 2 - x 0 - 1; omega) (h.2.1.2.2.1)
    have F0 : (0 : Int) ≤ 24 ∧ (24 : Int) < j_len 77 ∧ v 77 (24) = x 1 := l_ff (f := v 77) (L := j_len 77) (a := y_ev x (24, [])) (b := y_ev x (0, [(1, 1)])) (l_e0 _ _) (l_e1 _ _) (G0.1.1)
    have E0 : y_ev x (0, [(3, 1)]) = x 3 := (l_e1 _ _)
    have E1 : y_ev x (0, [(2, 1)]) = x 2 := (l_e1 _ _)
    have E2 : y_ev x (0, [(4, 1)]) = x 4 := (l_e1 _ _)
    have E3 : y_ev x (0, [(5, 1)]) = x 5 := (l_e1 _ _)
    have E4 : y_ev x (0, []) = 0 := (l_e0 _ _)
    have T0 : q_sto v 0 (y_ev x (0, [(3, 1)])) (y_ev x (0, [(2, 1)])) (y_ev x (0, [(4, 1)])) (y_ev x (0, [(5, 1)])) (y_ev x (0, [])) (y_ev x (0, [])) (y_ev x (0, [])) (y_ev x (0, [])) (y_ev x (0, [])) (y_ev x (0, [])) (y_ev x (0, [])) := h.2.2.2.1
    (try rw [E0] at T0); (try rw [E1] at T0); (try rw [E2] at T0); (try rw [E3] at T0); (try rw [E4] at T0)
    have K := k_atx (V := v) (i := x 0) (u := x 1) (p := x 2) (H := x 3) (y := x 4) (d := x 5) T0 C0 C1 C2 F0
    refine l_outH rfl (And.intro h.1 ?_)
    have O0 : y_ev x ((-1), []) = (-1) := l_e0 _ _
    show (0 ≤ y_ev x ((-1), []) ∧ True) ∧ (True)
    (try rw [O0])
    exact K
def lm_1022 : zLem := (([((-2147483648), 2147483647), ((-2147483648), 2147483647), ((-2147483648), 2147483647), ((-2147483648), 2147483647), ((-2147483648), 2147483647), ((-2147483648), 2147483647)], [(77, false)], [((-1), [(0, (-1)), (1, 1)]), (0, [(1, (-1)), (2, 1)]), (0, [(0, 1), (2, (-1))])], [], [(0, 0, 0, [(0, 1)])], [(0, (true, 0, 24, []), 0, 0, 0, [(1, 1)])], [(235, [(0, [(3, 1)]), (0, [(2, 1)]), (0, [(4, 1)]), (0, [(5, 1)]), (0, []), (0, []), (0, []), (0, []), (0, []), (0, []), (0, [])])]), [([((-2147483648), 2147483647), ((-2147483648), 2147483647), ((-2147483648), 2147483647), ((-2147483648), 2147483647), ((-2147483648), 2147483647), ((-2147483648), 2147483647)], [(77, false)], [((-1), [])], [], [], [], [])])
theorem lk_1022 : l_core lm_1022 := by
  first
  | skip
    intro v x h
    have G0 := h.2.2.1
    have C0 : (0 : Int) ≤ x 1 - x 0 - 1 := l_cc (a := y_ev x ((-1), [(0, (-1)), (1, 1)])) (by show ((-1) : Int) + ((-1) * x 0 + ((1) * x 1 + 0)) = x 1 - x 0 - 1; omega) (h.2.1.1)
    have C1 : (0 : Int) ≤ x 2 - x 1 := l_cc (a := y_ev x (0, [(1, (-1)), (2, 1)])) (by show ((0) : Int) + ((-1) * x 1 + ((1) * x 2 + 0)) = x 2 - x 1; omega) (h.2.1.2.1)
    have C2 : (0 : Int) ≤ x 0 - x 2 := l_cc (a := y_ev x (0, [(0, 1), (2, (-1))])) (by show ((0) : Int) + ((1) * x 0 + ((-1) * x 2 + 0)) = x 0 - x 2; omega) (h.2.1.2.2.1)
    have F0 : (0 : Int) ≤ 24 ∧ (24 : Int) < j_len 77 ∧ v 77 (24) = x 1 := l_ff (f := v 77) (L := j_len 77) (a := y_ev x (24, [])) (b := y_ev x (0, [(1, 1)])) (l_e0 _ _) (l_e1 _ _) (G0.1.1)
    have T0 : q_sto v 0 (y_ev x (0, [(3, 1)])) (y_ev x (0, [(2, 1)])) (y_ev x (0, [(4, 1)])) (y_ev x (0, [(5, 1)])) (y_ev x (0, [])) (y_ev x (0, [])) (y_ev x (0, [])) (y_ev x (0, [])) (y_ev x (0, [])) (y_ev x (0, [])) (y_ev x (0, [])) := h.2.2.2.1
    (try simp only [l_e1, l_e0] at T0)
    have K := k_aty (V := v) (i := x 0) (u := x 1) (p := x 2) (H := x 3) (y := x 4) (d := x 5) T0 C0 C1 C2 F0
    refine l_outH rfl (And.intro h.1 ?_)
    show (0 ≤ y_ev x ((-1), []) ∧ True) ∧ (True)
    (try simp only [l_e1, l_e0])
    exact K
  | skip
    intro v x h
    have G0 := h.2.2.1
    have C0 : (0 : Int) ≤ x 1 - x 0 - 1 := l_cc (a := y_ev x ((-1), [(0, (-1)), (1, 1)])) (by show ((-1) : Int) + ((-1) * x 0 + ((1) * x 1 + 0)) = x 1 - x 0 - 1; omega) (h.2.1.1)
    have C1 : (0 : Int) ≤ x 2 - x 1 := l_cc (a := y_ev x (0, [(1, (-1)), (2, 1)])) (by show ((0) : Int) + ((-1) * x 1 + ((1) * x 2 + 0)) = x 2 - x 1; omega) (h.2.1.2.1)
    have C2 : (0 : Int) ≤ x 0 - x 2 := l_cc (a := y_ev x (0, [(0, 1), (2, (-1))])) (by show ((0) : Int) + ((1) * x 0 + ((-1) * x 2 + 0)) = x 0 - x 2; omega) (h.2.1.2.2.1)
    have F0 : (0 : Int) ≤ 24 ∧ (24 : Int) < j_len 77 ∧ v 77 (24) = x 1 := l_ff (f := v 77) (L := j_len 77) (a := y_ev x (24, [])) (b := y_ev x (0, [(1, 1)])) (l_e0 _ _) (l_e1 _ _) (G0.1.1)
    have E0 : y_ev x (0, [(3, 1)]) = x 3 := (l_e1 _ _)
    have E1 : y_ev x (0, [(2, 1)]) = x 2 := (l_e1 _ _)
    have E2 : y_ev x (0, [(4, 1)]) = x 4 := (l_e1 _ _)
    have E3 : y_ev x (0, [(5, 1)]) = x 5 := (l_e1 _ _)
    have E4 : y_ev x (0, []) = 0 := (l_e0 _ _)
    have T0 : q_sto v 0 (y_ev x (0, [(3, 1)])) (y_ev x (0, [(2, 1)])) (y_ev x (0, [(4, 1)])) (y_ev x (0, [(5, 1)])) (y_ev x (0, [])) (y_ev x (0, [])) (y_ev x (0, [])) (y_ev x (0, [])) (y_ev x (0, [])) (y_ev x (0, [])) (y_ev x (0, [])) := h.2.2.2.1
    (try rw [E0] at T0); (try rw [E1] at T0); (try rw [E2] at T0); (try rw [E3] at T0); (try rw [E4] at T0)
    have K := k_aty (V := v) (i := x 0) (u := x 1) (p := x 2) (H := x 3) (y := x 4) (d := x 5) T0 C0 C1 C2 F0
    refine l_outH rfl (And.intro h.1 ?_)
    have O0 : y_ev x ((-1), []) = (-1) := l_e0 _ _
    show (0 ≤ y_ev x ((-1), []) ∧ True) ∧ (True)
    (try rw [O0])
    exact K
def lm_1023 : zLem := (([((-2147483648), 2147483647), ((-2147483648), 2147483647), ((-2147483648), 2147483647), ((-2147483648), 2147483647)], [], [], [], [(0, 0, 0, [(0, 1)])], [], [(260, [(1, []), (0, []), (0, []), (0, []), (0, []), (0, []), (0, []), (0, []), (1, [(0, 1)]), (0, [(1, 1)]), (0, [(2, 1)])]), (238, [(1, []), (0, []), (0, []), (0, []), (0, []), (0, []), (0, []), (0, []), (1, [(0, 1)]), (0, [(1, 1)]), (0, [(3, 1)])])]), [([((-2147483648), 2147483647), ((-2147483648), 2147483647), ((-2147483648), 2147483647), ((-2147483648), 2147483647)], [], [(0, [(2, 1), (3, (-1))]), (0, [(2, (-1)), (3, 1)])], [], [], [], [])])
theorem lk_1023 : l_core lm_1023 := by
  first
  | skip
    intro v x h
    have E2 : y_ev x (1, [(0, 1)]) = x 0 + 1 := (by show ((1) : Int) + ((1) * x 0 + 0) = x 0 + 1; omega)
    have T0 : q_qry v (y_ev x (1, [])) (y_ev x (0, [])) (y_ev x (0, [])) (y_ev x (0, [])) (y_ev x (0, [])) (y_ev x (0, [])) (y_ev x (0, [])) (y_ev x (0, [])) (y_ev x (1, [(0, 1)])) (y_ev x (0, [(1, 1)])) (y_ev x (0, [(2, 1)])) := h.2.2.2.1
    (try rw [E2] at T0); (try simp only [l_e1, l_e0] at T0)
    have T1 : q_qry v (y_ev x (1, [])) (y_ev x (0, [])) (y_ev x (0, [])) (y_ev x (0, [])) (y_ev x (0, [])) (y_ev x (0, [])) (y_ev x (0, [])) (y_ev x (0, [])) (y_ev x (1, [(0, 1)])) (y_ev x (0, [(1, 1)])) (y_ev x (0, [(3, 1)])) := h.2.2.2.2.1
    (try rw [E2] at T1); (try simp only [l_e1, l_e0] at T1)
    have K := k_qeW (V := v) (i := x 0) (p := x 1) (u := x 2) (w := x 3) T0 T1
    refine l_outH rfl (And.intro h.1 ?_)
    have O0 : y_ev x (0, [(2, 1), (3, (-1))]) = x 2 - x 3 := by show ((0) : Int) + ((1) * x 2 + ((-1) * x 3 + 0)) = _; omega
    have O1 : y_ev x (0, [(2, (-1)), (3, 1)]) = x 3 - x 2 := by show ((0) : Int) + ((-1) * x 2 + ((1) * x 3 + 0)) = _; omega
    show (0 ≤ y_ev x (0, [(2, 1), (3, (-1))]) ∧ 0 ≤ y_ev x (0, [(2, (-1)), (3, 1)]) ∧ True) ∧ (True)
    (try rw [O0]); (try rw [O1])
    exact K
  | skip
    intro v x h
    have E0 : y_ev x (1, []) = 1 := (l_e0 _ _)
    have E1 : y_ev x (0, []) = 0 := (l_e0 _ _)
    have E2 : y_ev x (1, [(0, 1)]) = x 0 + 1 := (by show ((1) : Int) + ((1) * x 0 + 0) = x 0 + 1; omega)
    have E3 : y_ev x (0, [(1, 1)]) = x 1 := (l_e1 _ _)
    have E4 : y_ev x (0, [(2, 1)]) = x 2 := (l_e1 _ _)
    have E5 : y_ev x (0, [(3, 1)]) = x 3 := (l_e1 _ _)
    have T0 : q_qry v (y_ev x (1, [])) (y_ev x (0, [])) (y_ev x (0, [])) (y_ev x (0, [])) (y_ev x (0, [])) (y_ev x (0, [])) (y_ev x (0, [])) (y_ev x (0, [])) (y_ev x (1, [(0, 1)])) (y_ev x (0, [(1, 1)])) (y_ev x (0, [(2, 1)])) := h.2.2.2.1
    (try rw [E0] at T0); (try rw [E1] at T0); (try rw [E2] at T0); (try rw [E3] at T0); (try rw [E4] at T0)
    have T1 : q_qry v (y_ev x (1, [])) (y_ev x (0, [])) (y_ev x (0, [])) (y_ev x (0, [])) (y_ev x (0, [])) (y_ev x (0, [])) (y_ev x (0, [])) (y_ev x (0, [])) (y_ev x (1, [(0, 1)])) (y_ev x (0, [(1, 1)])) (y_ev x (0, [(3, 1)])) := h.2.2.2.2.1
    (try rw [E0] at T1); (try rw [E1] at T1); (try rw [E2] at T1); (try rw [E3] at T1); (try rw [E5] at T1)
    have K := k_qeW (V := v) (i := x 0) (p := x 1) (u := x 2) (w := x 3) T0 T1
    refine l_outH rfl (And.intro h.1 ?_)
    have O0 : y_ev x (0, [(2, 1), (3, (-1))]) = x 2 - x 3 := by show ((0) : Int) + ((1) * x 2 + ((-1) * x 3 + 0)) = _; omega
    have O1 : y_ev x (0, [(2, (-1)), (3, 1)]) = x 3 - x 2 := by show ((0) : Int) + ((-1) * x 2 + ((1) * x 3 + 0)) = _; omega
    show (0 ≤ y_ev x (0, [(2, 1), (3, (-1))]) ∧ 0 ≤ y_ev x (0, [(2, (-1)), (3, 1)]) ∧ True) ∧ (True)
    (try rw [O0]); (try rw [O1])
    exact K
def lm_1024 : zLem := (([((-2147483648), 2147483647), ((-2147483648), 2147483647), ((-2147483648), 2147483647), ((-2147483648), 2147483647), ((-2147483648), 2147483647), ((-2147483648), 2147483647)], [(78, false)], [(0, [(0, 1), (1, (-1))]), (0, [(1, 1), (2, (-1))]), ((-1), [(0, (-1)), (2, 1)])], [], [(0, 0, 0, [(0, 1)])], [(0, (true, 0, 24, []), 0, 0, 0, [(1, 1)])], [(235, [(0, [(3, 1)]), (0, [(2, 1)]), (0, [(4, 1)]), (0, [(5, 1)]), (0, []), (0, []), (0, []), (0, []), (0, []), (0, []), (0, [])])]), [([((-2147483648), 2147483647), ((-2147483648), 2147483647), ((-2147483648), 2147483647), ((-2147483648), 2147483647), ((-2147483648), 2147483647), ((-2147483648), 2147483647)], [(78, false)], [((-1), [])], [], [], [], [])])
theorem lk_1024 : l_core lm_1024 := by
  first
  | skip
    intro v x h
    have G0 := h.2.2.1
    have C0 : (0 : Int) ≤ x 0 - x 1 := l_cc (a := y_ev x (0, [(0, 1), (1, (-1))])) (by show ((0) : Int) + ((1) * x 0 + ((-1) * x 1 + 0)) = x 0 - x 1; omega) (h.2.1.1)
    have C1 : (0 : Int) ≤ x 1 - x 2 := l_cc (a := y_ev x (0, [(1, 1), (2, (-1))])) (by show ((0) : Int) + ((1) * x 1 + ((-1) * x 2 + 0)) = x 1 - x 2; omega) (h.2.1.2.1)
    have C2 : (0 : Int) ≤ x 2 - x 0 - 1 := l_cc (a := y_ev x ((-1), [(0, (-1)), (2, 1)])) (by show ((-1) : Int) + ((-1) * x 0 + ((1) * x 2 + 0)) = x 2 - x 0 - 1; omega) (h.2.1.2.2.1)
    have F0 : (0 : Int) ≤ 24 ∧ (24 : Int) < j_len 78 ∧ v 78 (24) = x 1 := l_ff (f := v 78) (L := j_len 78) (a := y_ev x (24, [])) (b := y_ev x (0, [(1, 1)])) (l_e0 _ _) (l_e1 _ _) (G0.1.1)
    have T0 : q_sto v 0 (y_ev x (0, [(3, 1)])) (y_ev x (0, [(2, 1)])) (y_ev x (0, [(4, 1)])) (y_ev x (0, [(5, 1)])) (y_ev x (0, [])) (y_ev x (0, [])) (y_ev x (0, [])) (y_ev x (0, [])) (y_ev x (0, [])) (y_ev x (0, [])) (y_ev x (0, [])) := h.2.2.2.1
    (try simp only [l_e1, l_e0] at T0)
    have K := k_bex (V := v) (i := x 0) (u := x 1) (p := x 2) (H := x 3) (y := x 4) (d := x 5) T0 C0 C1 C2 F0
    refine l_outH rfl (And.intro h.1 ?_)
    show (0 ≤ y_ev x ((-1), []) ∧ True) ∧ (True)
    (try simp only [l_e1, l_e0])
    exact K
  | skip
    intro v x h
    have G0 := h.2.2.1
    have C0 : (0 : Int) ≤ x 0 - x 1 := l_cc (a := y_ev x (0, [(0, 1), (1, (-1))])) (by show ((0) : Int) + ((1) * x 0 + ((-1) * x 1 + 0)) = x 0 - x 1; omega) (h.2.1.1)
    have C1 : (0 : Int) ≤ x 1 - x 2 := l_cc (a := y_ev x (0, [(1, 1), (2, (-1))])) (by show ((0) : Int) + ((1) * x 1 + ((-1) * x 2 + 0)) = x 1 - x 2; omega) (h.2.1.2.1)
    have C2 : (0 : Int) ≤ x 2 - x 0 - 1 := l_cc (a := y_ev x ((-1), [(0, (-1)), (2, 1)])) (by show ((-1) : Int) + ((-1) * x 0 + ((1) * x 2 + 0)) = x 2 - x 0 - 1; omega) (h.2.1.2.2.1)
    have F0 : (0 : Int) ≤ 24 ∧ (24 : Int) < j_len 78 ∧ v 78 (24) = x 1 := l_ff (f := v 78) (L := j_len 78) (a := y_ev x (24, [])) (b := y_ev x (0, [(1, 1)])) (l_e0 _ _) (l_e1 _ _) (G0.1.1)
    have E0 : y_ev x (0, [(3, 1)]) = x 3 := (l_e1 _ _)
    have E1 : y_ev x (0, [(2, 1)]) = x 2 := (l_e1 _ _)
    have E2 : y_ev x (0, [(4, 1)]) = x 4 := (l_e1 _ _)
    have E3 : y_ev x (0, [(5, 1)]) = x 5 := (l_e1 _ _)
    have E4 : y_ev x (0, []) = 0 := (l_e0 _ _)
    have T0 : q_sto v 0 (y_ev x (0, [(3, 1)])) (y_ev x (0, [(2, 1)])) (y_ev x (0, [(4, 1)])) (y_ev x (0, [(5, 1)])) (y_ev x (0, [])) (y_ev x (0, [])) (y_ev x (0, [])) (y_ev x (0, [])) (y_ev x (0, [])) (y_ev x (0, [])) (y_ev x (0, [])) := h.2.2.2.1
    (try rw [E0] at T0); (try rw [E1] at T0); (try rw [E2] at T0); (try rw [E3] at T0); (try rw [E4] at T0)
    have K := k_bex (V := v) (i := x 0) (u := x 1) (p := x 2) (H := x 3) (y := x 4) (d := x 5) T0 C0 C1 C2 F0
    refine l_outH rfl (And.intro h.1 ?_)
    have O0 : y_ev x ((-1), []) = (-1) := l_e0 _ _
    show (0 ≤ y_ev x ((-1), []) ∧ True) ∧ (True)
    (try rw [O0])
    exact K
def lm_1025 : zLem := (([((-2147483648), 2147483647), ((-2147483648), 2147483647), ((-2147483648), 2147483647), ((-2147483648), 2147483647), ((-2147483648), 2147483647), ((-2147483648), 2147483647)], [(78, false)], [((-1), [(0, (-1)), (1, 1)]), (0, [(1, (-1)), (2, 1)]), (0, [(0, 1), (2, (-1))])], [], [(0, 0, 0, [(0, 1)])], [(0, (true, 0, 24, []), 0, 0, 0, [(1, 1)])], [(235, [(0, [(3, 1)]), (0, [(2, 1)]), (0, [(4, 1)]), (0, [(5, 1)]), (0, []), (0, []), (0, []), (0, []), (0, []), (0, []), (0, [])])]), [([((-2147483648), 2147483647), ((-2147483648), 2147483647), ((-2147483648), 2147483647), ((-2147483648), 2147483647), ((-2147483648), 2147483647), ((-2147483648), 2147483647)], [(78, false)], [((-1), [])], [], [], [], [])])
theorem lk_1025 : l_core lm_1025 := by
  first
  | skip
    intro v x h
    have G0 := h.2.2.1
    have C0 : (0 : Int) ≤ x 1 - x 0 - 1 := l_cc (a := y_ev x ((-1), [(0, (-1)), (1, 1)])) (by show ((-1) : Int) + ((-1) * x 0 + ((1) * x 1 + 0)) = x 1 - x 0 - 1; omega) (h.2.1.1)
    have C1 : (0 : Int) ≤ x 2 - x 1 := l_cc (a := y_ev x (0, [(1, (-1)), (2, 1)])) (by show ((0) : Int) + ((-1) * x 1 + ((1) * x 2 + 0)) = x 2 - x 1; omega) (h.2.1.2.1)
    have C2 : (0 : Int) ≤ x 0 - x 2 := l_cc (a := y_ev x (0, [(0, 1), (2, (-1))])) (by show ((0) : Int) + ((1) * x 0 + ((-1) * x 2 + 0)) = x 0 - x 2; omega) (h.2.1.2.2.1)
    have F0 : (0 : Int) ≤ 24 ∧ (24 : Int) < j_len 78 ∧ v 78 (24) = x 1 := l_ff (f := v 78) (L := j_len 78) (a := y_ev x (24, [])) (b := y_ev x (0, [(1, 1)])) (l_e0 _ _) (l_e1 _ _) (G0.1.1)
    have T0 : q_sto v 0 (y_ev x (0, [(3, 1)])) (y_ev x (0, [(2, 1)])) (y_ev x (0, [(4, 1)])) (y_ev x (0, [(5, 1)])) (y_ev x (0, [])) (y_ev x (0, [])) (y_ev x (0, [])) (y_ev x (0, [])) (y_ev x (0, [])) (y_ev x (0, [])) (y_ev x (0, [])) := h.2.2.2.1
    (try simp only [l_e1, l_e0] at T0)
    have K := k_bey (V := v) (i := x 0) (u := x 1) (p := x 2) (H := x 3) (y := x 4) (d := x 5) T0 C0 C1 C2 F0
    refine l_outH rfl (And.intro h.1 ?_)
    show (0 ≤ y_ev x ((-1), []) ∧ True) ∧ (True)
    (try simp only [l_e1, l_e0])
    exact K
  | skip
    intro v x h
    have G0 := h.2.2.1
    have C0 : (0 : Int) ≤ x 1 - x 0 - 1 := l_cc (a := y_ev x ((-1), [(0, (-1)), (1, 1)])) (by show ((-1) : Int) + ((-1) * x 0 + ((1) * x 1 + 0)) = x 1 - x 0 - 1; omega) (h.2.1.1)
    have C1 : (0 : Int) ≤ x 2 - x 1 := l_cc (a := y_ev x (0, [(1, (-1)), (2, 1)])) (by show ((0) : Int) + ((-1) * x 1 + ((1) * x 2 + 0)) = x 2 - x 1; omega) (h.2.1.2.1)
    have C2 : (0 : Int) ≤ x 0 - x 2 := l_cc (a := y_ev x (0, [(0, 1), (2, (-1))])) (by show ((0) : Int) + ((1) * x 0 + ((-1) * x 2 + 0)) = x 0 - x 2; omega) (h.2.1.2.2.1)
    have F0 : (0 : Int) ≤ 24 ∧ (24 : Int) < j_len 78 ∧ v 78 (24) = x 1 := l_ff (f := v 78) (L := j_len 78) (a := y_ev x (24, [])) (b := y_ev x (0, [(1, 1)])) (l_e0 _ _) (l_e1 _ _) (G0.1.1)
    have E0 : y_ev x (0, [(3, 1)]) = x 3 := (l_e1 _ _)
    have E1 : y_ev x (0, [(2, 1)]) = x 2 := (l_e1 _ _)
    have E2 : y_ev x (0, [(4, 1)]) = x 4 := (l_e1 _ _)
    have E3 : y_ev x (0, [(5, 1)]) = x 5 := (l_e1 _ _)
    have E4 : y_ev x (0, []) = 0 := (l_e0 _ _)
    have T0 : q_sto v 0 (y_ev x (0, [(3, 1)])) (y_ev x (0, [(2, 1)])) (y_ev x (0, [(4, 1)])) (y_ev x (0, [(5, 1)])) (y_ev x (0, [])) (y_ev x (0, [])) (y_ev x (0, [])) (y_ev x (0, [])) (y_ev x (0, [])) (y_ev x (0, [])) (y_ev x (0, [])) := h.2.2.2.1
    (try rw [E0] at T0); (try rw [E1] at T0); (try rw [E2] at T0); (try rw [E3] at T0); (try rw [E4] at T0)
    have K := k_bey (V := v) (i := x 0) (u := x 1) (p := x 2) (H := x 3) (y := x 4) (d := x 5) T0 C0 C1 C2 F0
    refine l_outH rfl (And.intro h.1 ?_)
    have O0 : y_ev x ((-1), []) = (-1) := l_e0 _ _
    show (0 ≤ y_ev x ((-1), []) ∧ True) ∧ (True)
    (try rw [O0])
    exact K
def lm_1026 : zLem := (([((-2147483648), 2147483647), ((-2147483648), 2147483647), ((-2147483648), 2147483647), ((-2147483648), 2147483647), ((-2147483648), 2147483647)], [], [], [], [(0, 0, 0, [(4, 1)])], [], [(238, [(5, []), (0, [(0, 1)]), (0, []), (0, []), (0, []), (0, []), (0, []), (0, []), (0, [(1, 1)]), (0, [(2, 1)]), (0, [(4, 1)])]), (260, [(5, []), (0, [(0, 1)]), (0, []), (0, []), (0, []), (0, []), (0, []), (0, []), (0, [(1, 1)]), (0, [(2, 1)]), (0, [(3, 1)])])]), [([((-2147483648), 2147483647), ((-2147483648), 2147483647), ((-2147483648), 2147483647), ((-2147483648), 2147483647), ((-2147483648), 2147483647)], [], [(0, [(3, 1), (4, (-1))]), (0, [(3, (-1)), (4, 1)])], [], [], [], [])])
theorem lk_1026 : l_core lm_1026 := by
  first
  | skip
    intro v x h
    have T0 : q_qry v (y_ev x (5, [])) (y_ev x (0, [(0, 1)])) (y_ev x (0, [])) (y_ev x (0, [])) (y_ev x (0, [])) (y_ev x (0, [])) (y_ev x (0, [])) (y_ev x (0, [])) (y_ev x (0, [(1, 1)])) (y_ev x (0, [(2, 1)])) (y_ev x (0, [(4, 1)])) := h.2.2.2.1
    (try simp only [l_e1, l_e0] at T0)
    have T1 : q_qry v (y_ev x (5, [])) (y_ev x (0, [(0, 1)])) (y_ev x (0, [])) (y_ev x (0, [])) (y_ev x (0, [])) (y_ev x (0, [])) (y_ev x (0, [])) (y_ev x (0, [])) (y_ev x (0, [(1, 1)])) (y_ev x (0, [(2, 1)])) (y_ev x (0, [(3, 1)])) := h.2.2.2.2.1
    (try simp only [l_e1, l_e0] at T1)
    have K := k_qeJ (V := v) (q := x 0) (i := x 1) (j := x 2) (u := x 3) (w := x 4) T0 T1
    refine l_outH rfl (And.intro h.1 ?_)
    have O0 : y_ev x (0, [(3, 1), (4, (-1))]) = x 3 - x 4 := by show ((0) : Int) + ((1) * x 3 + ((-1) * x 4 + 0)) = _; omega
    have O1 : y_ev x (0, [(3, (-1)), (4, 1)]) = x 4 - x 3 := by show ((0) : Int) + ((-1) * x 3 + ((1) * x 4 + 0)) = _; omega
    show (0 ≤ y_ev x (0, [(3, 1), (4, (-1))]) ∧ 0 ≤ y_ev x (0, [(3, (-1)), (4, 1)]) ∧ True) ∧ (True)
    (try rw [O0]); (try rw [O1])
    exact K
  | skip
    intro v x h
    have E0 : y_ev x (5, []) = 5 := (l_e0 _ _)
    have E1 : y_ev x (0, [(0, 1)]) = x 0 := (l_e1 _ _)
    have E2 : y_ev x (0, []) = 0 := (l_e0 _ _)
    have E3 : y_ev x (0, [(1, 1)]) = x 1 := (l_e1 _ _)
    have E4 : y_ev x (0, [(2, 1)]) = x 2 := (l_e1 _ _)
    have E5 : y_ev x (0, [(4, 1)]) = x 4 := (l_e1 _ _)
    have E6 : y_ev x (0, [(3, 1)]) = x 3 := (l_e1 _ _)
    have T0 : q_qry v (y_ev x (5, [])) (y_ev x (0, [(0, 1)])) (y_ev x (0, [])) (y_ev x (0, [])) (y_ev x (0, [])) (y_ev x (0, [])) (y_ev x (0, [])) (y_ev x (0, [])) (y_ev x (0, [(1, 1)])) (y_ev x (0, [(2, 1)])) (y_ev x (0, [(4, 1)])) := h.2.2.2.1
    (try rw [E0] at T0); (try rw [E1] at T0); (try rw [E2] at T0); (try rw [E3] at T0); (try rw [E4] at T0); (try rw [E5] at T0)
    have T1 : q_qry v (y_ev x (5, [])) (y_ev x (0, [(0, 1)])) (y_ev x (0, [])) (y_ev x (0, [])) (y_ev x (0, [])) (y_ev x (0, [])) (y_ev x (0, [])) (y_ev x (0, [])) (y_ev x (0, [(1, 1)])) (y_ev x (0, [(2, 1)])) (y_ev x (0, [(3, 1)])) := h.2.2.2.2.1
    (try rw [E0] at T1); (try rw [E1] at T1); (try rw [E2] at T1); (try rw [E3] at T1); (try rw [E4] at T1); (try rw [E6] at T1)
    have K := k_qeJ (V := v) (q := x 0) (i := x 1) (j := x 2) (u := x 3) (w := x 4) T0 T1
    refine l_outH rfl (And.intro h.1 ?_)
    have O0 : y_ev x (0, [(3, 1), (4, (-1))]) = x 3 - x 4 := by show ((0) : Int) + ((1) * x 3 + ((-1) * x 4 + 0)) = _; omega
    have O1 : y_ev x (0, [(3, (-1)), (4, 1)]) = x 4 - x 3 := by show ((0) : Int) + ((-1) * x 3 + ((1) * x 4 + 0)) = _; omega
    show (0 ≤ y_ev x (0, [(3, 1), (4, (-1))]) ∧ 0 ≤ y_ev x (0, [(3, (-1)), (4, 1)]) ∧ True) ∧ (True)
    (try rw [O0]); (try rw [O1])
    exact K
def lm_1027 : zLem := (([((-2147483648), 2147483647), ((-2147483648), 2147483647), ((-2147483648), 2147483647), ((-2147483648), 2147483647), ((-2147483648), 2147483647)], [], [(0, [(0, 1)]), ((-1), [(0, (-1)), (1, 1)]), (6, [(1, (-1))])], [], [(0, 0, 0, [(0, 1)])], [], [(235, [(0, [(1, 1)]), (0, [(2, 1)]), (0, [(3, 1)]), (0, [(4, 1)]), (0, []), (0, []), (0, []), (0, []), (0, []), (0, []), (0, [])]), (238, [(6, []), (0, []), (0, []), (0, []), (0, []), (0, []), (0, []), (0, []), (0, [(0, 1)]), (0, []), ((-1), [])])]), [([((-2147483648), 2147483647), ((-2147483648), 2147483647), ((-2147483648), 2147483647), ((-2147483648), 2147483647), ((-2147483648), 2147483647)], [], [], [], [], [], [(238, [(8, []), (0, []), (0, []), (0, []), (0, []), (0, []), (0, []), (0, []), (6, [(0, 1)]), (0, []), (0, [])])])])
theorem lk_1027 : l_core lm_1027 := by
  first
  | skip
    intro v x h
    have C0 : (0 : Int) ≤ x 0 := l_cc (a := y_ev x (0, [(0, 1)])) (l_e1 _ _) (h.2.1.1)
    have C1 : (0 : Int) ≤ x 1 - x 0 - 1 := l_cc (a := y_ev x ((-1), [(0, (-1)), (1, 1)])) (by show ((-1) : Int) + ((-1) * x 0 + ((1) * x 1 + 0)) = x 1 - x 0 - 1; omega) (h.2.1.2.1)
    have C2 : (0 : Int) ≤ 6 - x 1 := l_cc (a := y_ev x (6, [(1, (-1))])) (by show ((6) : Int) + ((-1) * x 1 + 0) = 6 - x 1; omega) (h.2.1.2.2.1)
    have T0 : q_sto v 0 (y_ev x (0, [(1, 1)])) (y_ev x (0, [(2, 1)])) (y_ev x (0, [(3, 1)])) (y_ev x (0, [(4, 1)])) (y_ev x (0, [])) (y_ev x (0, [])) (y_ev x (0, [])) (y_ev x (0, [])) (y_ev x (0, [])) (y_ev x (0, [])) (y_ev x (0, [])) := h.2.2.2.1
    (try simp only [l_e1, l_e0] at T0)
    have T1 : q_qry v (y_ev x (6, [])) (y_ev x (0, [])) (y_ev x (0, [])) (y_ev x (0, [])) (y_ev x (0, [])) (y_ev x (0, [])) (y_ev x (0, [])) (y_ev x (0, [])) (y_ev x (0, [(0, 1)])) (y_ev x (0, [])) (y_ev x ((-1), [])) := h.2.2.2.2.1
    (try simp only [l_e1, l_e0] at T1)
    have K := k_celL0 (V := v) (h := x 0) (H := x 1) (p := x 2) (y := x 3) (d := x 4) T0 T1 C0 C1 C2
    refine l_outH rfl (And.intro h.1 ?_)
    have O2 : y_ev x (6, [(0, 1)]) = x 0 + 6 := by show ((6) : Int) + ((1) * x 0 + 0) = _; omega
    show (True) ∧ (q_qry v (y_ev x (8, [])) (y_ev x (0, [])) (y_ev x (0, [])) (y_ev x (0, [])) (y_ev x (0, [])) (y_ev x (0, [])) (y_ev x (0, [])) (y_ev x (0, [])) (y_ev x (6, [(0, 1)])) (y_ev x (0, [])) (y_ev x (0, [])) ∧ True)
    (try rw [O2]); (try simp only [l_e1, l_e0])
    exact K
  | skip
    intro v x h
    have C0 : (0 : Int) ≤ x 0 := l_cc (a := y_ev x (0, [(0, 1)])) (l_e1 _ _) (h.2.1.1)
    have C1 : (0 : Int) ≤ x 1 - x 0 - 1 := l_cc (a := y_ev x ((-1), [(0, (-1)), (1, 1)])) (by show ((-1) : Int) + ((-1) * x 0 + ((1) * x 1 + 0)) = x 1 - x 0 - 1; omega) (h.2.1.2.1)
    have C2 : (0 : Int) ≤ 6 - x 1 := l_cc (a := y_ev x (6, [(1, (-1))])) (by show ((6) : Int) + ((-1) * x 1 + 0) = 6 - x 1; omega) (h.2.1.2.2.1)
    have E0 : y_ev x (0, [(1, 1)]) = x 1 := (l_e1 _ _)
    have E1 : y_ev x (0, [(2, 1)]) = x 2 := (l_e1 _ _)
    have E2 : y_ev x (0, [(3, 1)]) = x 3 := (l_e1 _ _)
    have E3 : y_ev x (0, [(4, 1)]) = x 4 := (l_e1 _ _)
    have E4 : y_ev x (0, []) = 0 := (l_e0 _ _)
    have E5 : y_ev x (6, []) = 6 := (l_e0 _ _)
    have E6 : y_ev x (0, [(0, 1)]) = x 0 := (l_e1 _ _)
    have E7 : y_ev x ((-1), []) = (-1) := (l_e0 _ _)
    have T0 : q_sto v 0 (y_ev x (0, [(1, 1)])) (y_ev x (0, [(2, 1)])) (y_ev x (0, [(3, 1)])) (y_ev x (0, [(4, 1)])) (y_ev x (0, [])) (y_ev x (0, [])) (y_ev x (0, [])) (y_ev x (0, [])) (y_ev x (0, [])) (y_ev x (0, [])) (y_ev x (0, [])) := h.2.2.2.1
    (try rw [E0] at T0); (try rw [E1] at T0); (try rw [E2] at T0); (try rw [E3] at T0); (try rw [E4] at T0)
    have T1 : q_qry v (y_ev x (6, [])) (y_ev x (0, [])) (y_ev x (0, [])) (y_ev x (0, [])) (y_ev x (0, [])) (y_ev x (0, [])) (y_ev x (0, [])) (y_ev x (0, [])) (y_ev x (0, [(0, 1)])) (y_ev x (0, [])) (y_ev x ((-1), [])) := h.2.2.2.2.1
    (try rw [E5] at T1); (try rw [E4] at T1); (try rw [E6] at T1); (try rw [E7] at T1)
    have K := k_celL0 (V := v) (h := x 0) (H := x 1) (p := x 2) (y := x 3) (d := x 4) T0 T1 C0 C1 C2
    refine l_outH rfl (And.intro h.1 ?_)
    have O0 : y_ev x (8, []) = 8 := l_e0 _ _
    have O1 : y_ev x (0, []) = 0 := l_e0 _ _
    have O2 : y_ev x (6, [(0, 1)]) = x 0 + 6 := by show ((6) : Int) + ((1) * x 0 + 0) = _; omega
    show (True) ∧ (q_qry v (y_ev x (8, [])) (y_ev x (0, [])) (y_ev x (0, [])) (y_ev x (0, [])) (y_ev x (0, [])) (y_ev x (0, [])) (y_ev x (0, [])) (y_ev x (0, [])) (y_ev x (6, [(0, 1)])) (y_ev x (0, [])) (y_ev x (0, [])) ∧ True)
    (try rw [O0]); (try rw [O1]); (try rw [O2])
    exact K
def lm_1028 : zLem := (([((-2147483648), 2147483647), ((-2147483648), 2147483647), ((-2147483648), 2147483647), ((-2147483648), 2147483647), ((-2147483648), 2147483647)], [], [(0, [(0, 1)]), ((-1), [(0, (-1)), (1, 1)]), (6, [(1, (-1))])], [], [(0, 0, 0, [(0, 1)])], [], [(235, [(0, [(1, 1)]), (0, [(2, 1)]), (0, [(3, 1)]), (0, [(4, 1)]), (0, []), (0, []), (0, []), (0, []), (0, []), (0, []), (0, [])]), (238, [(6, []), (0, []), (0, []), (0, []), (0, []), (0, []), (0, []), (0, []), (0, [(0, 1)]), (0, []), ((-1), [])])]), [([((-2147483648), 2147483647), ((-2147483648), 2147483647), ((-2147483648), 2147483647), ((-2147483648), 2147483647), ((-2147483648), 2147483647)], [], [], [], [], [], [(238, [(8, []), (0, []), (0, []), (0, []), (0, []), (0, []), (0, []), (0, []), (12, [(0, 1)]), (0, []), (0, [])])])])
theorem lk_1028 : l_core lm_1028 := by
  first
  | skip
    intro v x h
    have C0 : (0 : Int) ≤ x 0 := l_cc (a := y_ev x (0, [(0, 1)])) (l_e1 _ _) (h.2.1.1)
    have C1 : (0 : Int) ≤ x 1 - x 0 - 1 := l_cc (a := y_ev x ((-1), [(0, (-1)), (1, 1)])) (by show ((-1) : Int) + ((-1) * x 0 + ((1) * x 1 + 0)) = x 1 - x 0 - 1; omega) (h.2.1.2.1)
    have C2 : (0 : Int) ≤ 6 - x 1 := l_cc (a := y_ev x (6, [(1, (-1))])) (by show ((6) : Int) + ((-1) * x 1 + 0) = 6 - x 1; omega) (h.2.1.2.2.1)
    have T0 : q_sto v 0 (y_ev x (0, [(1, 1)])) (y_ev x (0, [(2, 1)])) (y_ev x (0, [(3, 1)])) (y_ev x (0, [(4, 1)])) (y_ev x (0, [])) (y_ev x (0, [])) (y_ev x (0, [])) (y_ev x (0, [])) (y_ev x (0, [])) (y_ev x (0, [])) (y_ev x (0, [])) := h.2.2.2.1
    (try simp only [l_e1, l_e0] at T0)
    have T1 : q_qry v (y_ev x (6, [])) (y_ev x (0, [])) (y_ev x (0, [])) (y_ev x (0, [])) (y_ev x (0, [])) (y_ev x (0, [])) (y_ev x (0, [])) (y_ev x (0, [])) (y_ev x (0, [(0, 1)])) (y_ev x (0, [])) (y_ev x ((-1), [])) := h.2.2.2.2.1
    (try simp only [l_e1, l_e0] at T1)
    have K := k_celS0 (V := v) (h := x 0) (H := x 1) (p := x 2) (y := x 3) (d := x 4) T0 T1 C0 C1 C2
    refine l_outH rfl (And.intro h.1 ?_)
    have O2 : y_ev x (12, [(0, 1)]) = x 0 + 12 := by show ((12) : Int) + ((1) * x 0 + 0) = _; omega
    show (True) ∧ (q_qry v (y_ev x (8, [])) (y_ev x (0, [])) (y_ev x (0, [])) (y_ev x (0, [])) (y_ev x (0, [])) (y_ev x (0, [])) (y_ev x (0, [])) (y_ev x (0, [])) (y_ev x (12, [(0, 1)])) (y_ev x (0, [])) (y_ev x (0, [])) ∧ True)
    (try rw [O2]); (try simp only [l_e1, l_e0])
    exact K
  | skip
    intro v x h
    have C0 : (0 : Int) ≤ x 0 := l_cc (a := y_ev x (0, [(0, 1)])) (l_e1 _ _) (h.2.1.1)
    have C1 : (0 : Int) ≤ x 1 - x 0 - 1 := l_cc (a := y_ev x ((-1), [(0, (-1)), (1, 1)])) (by show ((-1) : Int) + ((-1) * x 0 + ((1) * x 1 + 0)) = x 1 - x 0 - 1; omega) (h.2.1.2.1)
    have C2 : (0 : Int) ≤ 6 - x 1 := l_cc (a := y_ev x (6, [(1, (-1))])) (by show ((6) : Int) + ((-1) * x 1 + 0) = 6 - x 1; omega) (h.2.1.2.2.1)
    have E0 : y_ev x (0, [(1, 1)]) = x 1 := (l_e1 _ _)
    have E1 : y_ev x (0, [(2, 1)]) = x 2 := (l_e1 _ _)
    have E2 : y_ev x (0, [(3, 1)]) = x 3 := (l_e1 _ _)
    have E3 : y_ev x (0, [(4, 1)]) = x 4 := (l_e1 _ _)
    have E4 : y_ev x (0, []) = 0 := (l_e0 _ _)
    have E5 : y_ev x (6, []) = 6 := (l_e0 _ _)
    have E6 : y_ev x (0, [(0, 1)]) = x 0 := (l_e1 _ _)
    have E7 : y_ev x ((-1), []) = (-1) := (l_e0 _ _)
    have T0 : q_sto v 0 (y_ev x (0, [(1, 1)])) (y_ev x (0, [(2, 1)])) (y_ev x (0, [(3, 1)])) (y_ev x (0, [(4, 1)])) (y_ev x (0, [])) (y_ev x (0, [])) (y_ev x (0, [])) (y_ev x (0, [])) (y_ev x (0, [])) (y_ev x (0, [])) (y_ev x (0, [])) := h.2.2.2.1
    (try rw [E0] at T0); (try rw [E1] at T0); (try rw [E2] at T0); (try rw [E3] at T0); (try rw [E4] at T0)
    have T1 : q_qry v (y_ev x (6, [])) (y_ev x (0, [])) (y_ev x (0, [])) (y_ev x (0, [])) (y_ev x (0, [])) (y_ev x (0, [])) (y_ev x (0, [])) (y_ev x (0, [])) (y_ev x (0, [(0, 1)])) (y_ev x (0, [])) (y_ev x ((-1), [])) := h.2.2.2.2.1
    (try rw [E5] at T1); (try rw [E4] at T1); (try rw [E6] at T1); (try rw [E7] at T1)
    have K := k_celS0 (V := v) (h := x 0) (H := x 1) (p := x 2) (y := x 3) (d := x 4) T0 T1 C0 C1 C2
    refine l_outH rfl (And.intro h.1 ?_)
    have O0 : y_ev x (8, []) = 8 := l_e0 _ _
    have O1 : y_ev x (0, []) = 0 := l_e0 _ _
    have O2 : y_ev x (12, [(0, 1)]) = x 0 + 12 := by show ((12) : Int) + ((1) * x 0 + 0) = _; omega
    show (True) ∧ (q_qry v (y_ev x (8, [])) (y_ev x (0, [])) (y_ev x (0, [])) (y_ev x (0, [])) (y_ev x (0, [])) (y_ev x (0, [])) (y_ev x (0, [])) (y_ev x (0, [])) (y_ev x (12, [(0, 1)])) (y_ev x (0, [])) (y_ev x (0, [])) ∧ True)
    (try rw [O0]); (try rw [O1]); (try rw [O2])
    exact K
def lm_1029 : zLem := (([((-2147483648), 2147483647), ((-2147483648), 2147483647), ((-2147483648), 2147483647)], [], [], [], [], [], [(260, [(8, []), (0, []), (0, []), (0, []), (0, []), (0, []), (0, []), (0, []), (0, [(0, 1)]), (0, []), (0, [(1, 1)])]), (238, [(8, []), (0, []), (0, []), (0, []), (0, []), (0, []), (0, []), (0, []), (0, [(0, 1)]), (0, []), (0, [(2, 1)])])]), [([((-2147483648), 2147483647), ((-2147483648), 2147483647), ((-2147483648), 2147483647)], [], [(0, [(1, 1), (2, (-1))]), (0, [(1, (-1)), (2, 1)])], [], [], [], [])])
theorem lk_1029 : l_core lm_1029 := by
  first
  | skip
    intro v x h
    have T0 : q_qry v (y_ev x (8, [])) (y_ev x (0, [])) (y_ev x (0, [])) (y_ev x (0, [])) (y_ev x (0, [])) (y_ev x (0, [])) (y_ev x (0, [])) (y_ev x (0, [])) (y_ev x (0, [(0, 1)])) (y_ev x (0, [])) (y_ev x (0, [(1, 1)])) := h.2.2.2.1
    (try simp only [l_e1, l_e0] at T0)
    have T1 : q_qry v (y_ev x (8, [])) (y_ev x (0, [])) (y_ev x (0, [])) (y_ev x (0, [])) (y_ev x (0, [])) (y_ev x (0, [])) (y_ev x (0, [])) (y_ev x (0, [])) (y_ev x (0, [(0, 1)])) (y_ev x (0, [])) (y_ev x (0, [(2, 1)])) := h.2.2.2.2.1
    (try simp only [l_e1, l_e0] at T1)
    have K := k_qeC (V := v) (h := x 0) (u := x 1) (w := x 2) T0 T1
    refine l_outH rfl (And.intro h.1 ?_)
    have O0 : y_ev x (0, [(1, 1), (2, (-1))]) = x 1 - x 2 := by show ((0) : Int) + ((1) * x 1 + ((-1) * x 2 + 0)) = _; omega
    have O1 : y_ev x (0, [(1, (-1)), (2, 1)]) = x 2 - x 1 := by show ((0) : Int) + ((-1) * x 1 + ((1) * x 2 + 0)) = _; omega
    show (0 ≤ y_ev x (0, [(1, 1), (2, (-1))]) ∧ 0 ≤ y_ev x (0, [(1, (-1)), (2, 1)]) ∧ True) ∧ (True)
    (try rw [O0]); (try rw [O1])
    exact K
  | skip
    intro v x h
    have E0 : y_ev x (8, []) = 8 := (l_e0 _ _)
    have E1 : y_ev x (0, []) = 0 := (l_e0 _ _)
    have E2 : y_ev x (0, [(0, 1)]) = x 0 := (l_e1 _ _)
    have E3 : y_ev x (0, [(1, 1)]) = x 1 := (l_e1 _ _)
    have E4 : y_ev x (0, [(2, 1)]) = x 2 := (l_e1 _ _)
    have T0 : q_qry v (y_ev x (8, [])) (y_ev x (0, [])) (y_ev x (0, [])) (y_ev x (0, [])) (y_ev x (0, [])) (y_ev x (0, [])) (y_ev x (0, [])) (y_ev x (0, [])) (y_ev x (0, [(0, 1)])) (y_ev x (0, [])) (y_ev x (0, [(1, 1)])) := h.2.2.2.1
    (try rw [E0] at T0); (try rw [E1] at T0); (try rw [E2] at T0); (try rw [E3] at T0)
    have T1 : q_qry v (y_ev x (8, [])) (y_ev x (0, [])) (y_ev x (0, [])) (y_ev x (0, [])) (y_ev x (0, [])) (y_ev x (0, [])) (y_ev x (0, [])) (y_ev x (0, [])) (y_ev x (0, [(0, 1)])) (y_ev x (0, [])) (y_ev x (0, [(2, 1)])) := h.2.2.2.2.1
    (try rw [E0] at T1); (try rw [E1] at T1); (try rw [E2] at T1); (try rw [E4] at T1)
    have K := k_qeC (V := v) (h := x 0) (u := x 1) (w := x 2) T0 T1
    refine l_outH rfl (And.intro h.1 ?_)
    have O0 : y_ev x (0, [(1, 1), (2, (-1))]) = x 1 - x 2 := by show ((0) : Int) + ((1) * x 1 + ((-1) * x 2 + 0)) = _; omega
    have O1 : y_ev x (0, [(1, (-1)), (2, 1)]) = x 2 - x 1 := by show ((0) : Int) + ((-1) * x 1 + ((1) * x 2 + 0)) = _; omega
    show (0 ≤ y_ev x (0, [(1, 1), (2, (-1))]) ∧ 0 ≤ y_ev x (0, [(1, (-1)), (2, 1)]) ∧ True) ∧ (True)
    (try rw [O0]); (try rw [O1])
    exact K
def lm_1030 : zLem := (([((-2147483648), 2147483647), ((-2147483648), 2147483647), ((-2147483648), 2147483647)], [], [], [], [], [], [(260, [(6, []), (0, []), (0, []), (0, []), (0, []), (0, []), (0, []), (0, []), (0, [(0, 1)]), (0, []), (0, [(1, 1)])]), (238, [(6, []), (0, []), (0, []), (0, []), (0, []), (0, []), (0, []), (0, []), (0, [(0, 1)]), (0, []), (0, [(2, 1)])])]), [([((-2147483648), 2147483647), ((-2147483648), 2147483647), ((-2147483648), 2147483647)], [], [(0, [(1, 1), (2, (-1))]), (0, [(1, (-1)), (2, 1)])], [], [], [], [])])
theorem lk_1030 : l_core lm_1030 := by
  first
  | skip
    intro v x h
    have T0 : q_qry v (y_ev x (6, [])) (y_ev x (0, [])) (y_ev x (0, [])) (y_ev x (0, [])) (y_ev x (0, [])) (y_ev x (0, [])) (y_ev x (0, [])) (y_ev x (0, [])) (y_ev x (0, [(0, 1)])) (y_ev x (0, [])) (y_ev x (0, [(1, 1)])) := h.2.2.2.1
    (try simp only [l_e1, l_e0] at T0)
    have T1 : q_qry v (y_ev x (6, [])) (y_ev x (0, [])) (y_ev x (0, [])) (y_ev x (0, [])) (y_ev x (0, [])) (y_ev x (0, [])) (y_ev x (0, [])) (y_ev x (0, [])) (y_ev x (0, [(0, 1)])) (y_ev x (0, [])) (y_ev x (0, [(2, 1)])) := h.2.2.2.2.1
    (try simp only [l_e1, l_e0] at T1)
    have K := k_qePl (V := v) (h := x 0) (u := x 1) (w := x 2) T0 T1
    refine l_outH rfl (And.intro h.1 ?_)
    have O0 : y_ev x (0, [(1, 1), (2, (-1))]) = x 1 - x 2 := by show ((0) : Int) + ((1) * x 1 + ((-1) * x 2 + 0)) = _; omega
    have O1 : y_ev x (0, [(1, (-1)), (2, 1)]) = x 2 - x 1 := by show ((0) : Int) + ((-1) * x 1 + ((1) * x 2 + 0)) = _; omega
    show (0 ≤ y_ev x (0, [(1, 1), (2, (-1))]) ∧ 0 ≤ y_ev x (0, [(1, (-1)), (2, 1)]) ∧ True) ∧ (True)
    (try rw [O0]); (try rw [O1])
    exact K
  | skip
    intro v x h
    have E0 : y_ev x (6, []) = 6 := (l_e0 _ _)
    have E1 : y_ev x (0, []) = 0 := (l_e0 _ _)
    have E2 : y_ev x (0, [(0, 1)]) = x 0 := (l_e1 _ _)
    have E3 : y_ev x (0, [(1, 1)]) = x 1 := (l_e1 _ _)
    have E4 : y_ev x (0, [(2, 1)]) = x 2 := (l_e1 _ _)
    have T0 : q_qry v (y_ev x (6, [])) (y_ev x (0, [])) (y_ev x (0, [])) (y_ev x (0, [])) (y_ev x (0, [])) (y_ev x (0, [])) (y_ev x (0, [])) (y_ev x (0, [])) (y_ev x (0, [(0, 1)])) (y_ev x (0, [])) (y_ev x (0, [(1, 1)])) := h.2.2.2.1
    (try rw [E0] at T0); (try rw [E1] at T0); (try rw [E2] at T0); (try rw [E3] at T0)
    have T1 : q_qry v (y_ev x (6, [])) (y_ev x (0, [])) (y_ev x (0, [])) (y_ev x (0, [])) (y_ev x (0, [])) (y_ev x (0, [])) (y_ev x (0, [])) (y_ev x (0, [])) (y_ev x (0, [(0, 1)])) (y_ev x (0, [])) (y_ev x (0, [(2, 1)])) := h.2.2.2.2.1
    (try rw [E0] at T1); (try rw [E1] at T1); (try rw [E2] at T1); (try rw [E4] at T1)
    have K := k_qePl (V := v) (h := x 0) (u := x 1) (w := x 2) T0 T1
    refine l_outH rfl (And.intro h.1 ?_)
    have O0 : y_ev x (0, [(1, 1), (2, (-1))]) = x 1 - x 2 := by show ((0) : Int) + ((1) * x 1 + ((-1) * x 2 + 0)) = _; omega
    have O1 : y_ev x (0, [(1, (-1)), (2, 1)]) = x 2 - x 1 := by show ((0) : Int) + ((-1) * x 1 + ((1) * x 2 + 0)) = _; omega
    show (0 ≤ y_ev x (0, [(1, 1), (2, (-1))]) ∧ 0 ≤ y_ev x (0, [(1, (-1)), (2, 1)]) ∧ True) ∧ (True)
    (try rw [O0]); (try rw [O1])
    exact K
def lm_1031 : zLem := (([((-2147483648), 2147483647), ((-2147483648), 2147483647), ((-2147483648), 2147483647), ((-2147483648), 2147483647), ((-2147483648), 2147483647)], [], [], [], [], [], [(260, [(4, []), (0, [(0, 1)]), (0, []), (0, []), (0, []), (0, []), (0, []), (0, []), (0, [(1, 1)]), (0, [(2, 1)]), (0, [(3, 1)])]), (238, [(4, []), (0, [(0, 1)]), (0, []), (0, []), (0, []), (0, []), (0, []), (0, []), (0, [(1, 1)]), (0, [(2, 1)]), (0, [(4, 1)])])]), [([((-2147483648), 2147483647), ((-2147483648), 2147483647), ((-2147483648), 2147483647), ((-2147483648), 2147483647), ((-2147483648), 2147483647)], [], [(0, [(3, 1), (4, (-1))]), (0, [(3, (-1)), (4, 1)])], [], [], [], [])])
theorem lk_1031 : l_core lm_1031 := by
  first
  | skip
    intro v x h
    have T0 : q_qry v (y_ev x (4, [])) (y_ev x (0, [(0, 1)])) (y_ev x (0, [])) (y_ev x (0, [])) (y_ev x (0, [])) (y_ev x (0, [])) (y_ev x (0, [])) (y_ev x (0, [])) (y_ev x (0, [(1, 1)])) (y_ev x (0, [(2, 1)])) (y_ev x (0, [(3, 1)])) := h.2.2.2.1
    (try simp only [l_e1, l_e0] at T0)
    have T1 : q_qry v (y_ev x (4, [])) (y_ev x (0, [(0, 1)])) (y_ev x (0, [])) (y_ev x (0, [])) (y_ev x (0, [])) (y_ev x (0, [])) (y_ev x (0, [])) (y_ev x (0, [])) (y_ev x (0, [(1, 1)])) (y_ev x (0, [(2, 1)])) (y_ev x (0, [(4, 1)])) := h.2.2.2.2.1
    (try simp only [l_e1, l_e0] at T1)
    have K := k_qeLw (V := v) (q := x 0) (k := x 1) (h := x 2) (u := x 3) (w := x 4) T0 T1
    refine l_outH rfl (And.intro h.1 ?_)
    have O0 : y_ev x (0, [(3, 1), (4, (-1))]) = x 3 - x 4 := by show ((0) : Int) + ((1) * x 3 + ((-1) * x 4 + 0)) = _; omega
    have O1 : y_ev x (0, [(3, (-1)), (4, 1)]) = x 4 - x 3 := by show ((0) : Int) + ((-1) * x 3 + ((1) * x 4 + 0)) = _; omega
    show (0 ≤ y_ev x (0, [(3, 1), (4, (-1))]) ∧ 0 ≤ y_ev x (0, [(3, (-1)), (4, 1)]) ∧ True) ∧ (True)
    (try rw [O0]); (try rw [O1])
    exact K
  | skip
    intro v x h
    have E0 : y_ev x (4, []) = 4 := (l_e0 _ _)
    have E1 : y_ev x (0, [(0, 1)]) = x 0 := (l_e1 _ _)
    have E2 : y_ev x (0, []) = 0 := (l_e0 _ _)
    have E3 : y_ev x (0, [(1, 1)]) = x 1 := (l_e1 _ _)
    have E4 : y_ev x (0, [(2, 1)]) = x 2 := (l_e1 _ _)
    have E5 : y_ev x (0, [(3, 1)]) = x 3 := (l_e1 _ _)
    have E6 : y_ev x (0, [(4, 1)]) = x 4 := (l_e1 _ _)
    have T0 : q_qry v (y_ev x (4, [])) (y_ev x (0, [(0, 1)])) (y_ev x (0, [])) (y_ev x (0, [])) (y_ev x (0, [])) (y_ev x (0, [])) (y_ev x (0, [])) (y_ev x (0, [])) (y_ev x (0, [(1, 1)])) (y_ev x (0, [(2, 1)])) (y_ev x (0, [(3, 1)])) := h.2.2.2.1
    (try rw [E0] at T0); (try rw [E1] at T0); (try rw [E2] at T0); (try rw [E3] at T0); (try rw [E4] at T0); (try rw [E5] at T0)
    have T1 : q_qry v (y_ev x (4, [])) (y_ev x (0, [(0, 1)])) (y_ev x (0, [])) (y_ev x (0, [])) (y_ev x (0, [])) (y_ev x (0, [])) (y_ev x (0, [])) (y_ev x (0, [])) (y_ev x (0, [(1, 1)])) (y_ev x (0, [(2, 1)])) (y_ev x (0, [(4, 1)])) := h.2.2.2.2.1
    (try rw [E0] at T1); (try rw [E1] at T1); (try rw [E2] at T1); (try rw [E3] at T1); (try rw [E4] at T1); (try rw [E6] at T1)
    have K := k_qeLw (V := v) (q := x 0) (k := x 1) (h := x 2) (u := x 3) (w := x 4) T0 T1
    refine l_outH rfl (And.intro h.1 ?_)
    have O0 : y_ev x (0, [(3, 1), (4, (-1))]) = x 3 - x 4 := by show ((0) : Int) + ((1) * x 3 + ((-1) * x 4 + 0)) = _; omega
    have O1 : y_ev x (0, [(3, (-1)), (4, 1)]) = x 4 - x 3 := by show ((0) : Int) + ((-1) * x 3 + ((1) * x 4 + 0)) = _; omega
    show (0 ≤ y_ev x (0, [(3, 1), (4, (-1))]) ∧ 0 ≤ y_ev x (0, [(3, (-1)), (4, 1)]) ∧ True) ∧ (True)
    (try rw [O0]); (try rw [O1])
    exact K
def lm_1032 : zLem := (([((-2147483648), 2147483647), ((-2147483648), 2147483647)], [(20, false)], [(0, [(0, 1)]), (5, [(0, (-1))])], [], [(0, 0, 0, [(0, 1)])], [(0, (true, 0, 0, [(0, 1)]), 0, 0, 0, [(1, 1)])], []), [([((-2147483648), 2147483647), ((-2147483648), 2147483647)], [(20, false)], [], [], [], [], [(262, [(0, [(0, 1)]), (0, [(1, 1)])])])])
theorem lk_1032 : l_core lm_1032 := by
  first
  | skip
    intro v x h
    have G0 := h.2.2.1
    have C0 : (0 : Int) ≤ x 0 := l_cc (a := y_ev x (0, [(0, 1)])) (l_e1 _ _) (h.2.1.1)
    have C1 : (0 : Int) ≤ 5 - x 0 := l_cc (a := y_ev x (5, [(0, (-1))])) (by show ((5) : Int) + ((-1) * x 0 + 0) = 5 - x 0; omega) (h.2.1.2.1)
    have F0 : (0 : Int) ≤ x 0 ∧ (x 0 : Int) < j_len 20 ∧ v 20 (x 0) = x 1 := l_ff (f := v 20) (L := j_len 20) (a := y_ev x (0, [(0, 1)])) (b := y_ev x (0, [(1, 1)])) (l_e1 _ _) (l_e1 _ _) (G0.1.1)
    have K := k_sfvC (V := v) (h := x 0) (u := x 1) C0 C1 F0
    refine l_outH rfl (And.intro h.1 ?_)
    show (True) ∧ ((v 20 (y_ev x (0, [(0, 1)])) = (y_ev x (0, [(1, 1)]))) ∧ True)
    (try simp only [l_e1, l_e0])
    exact K
  | skip
    intro v x h
    have G0 := h.2.2.1
    have C0 : (0 : Int) ≤ x 0 := l_cc (a := y_ev x (0, [(0, 1)])) (l_e1 _ _) (h.2.1.1)
    have C1 : (0 : Int) ≤ 5 - x 0 := l_cc (a := y_ev x (5, [(0, (-1))])) (by show ((5) : Int) + ((-1) * x 0 + 0) = 5 - x 0; omega) (h.2.1.2.1)
    have F0 : (0 : Int) ≤ x 0 ∧ (x 0 : Int) < j_len 20 ∧ v 20 (x 0) = x 1 := l_ff (f := v 20) (L := j_len 20) (a := y_ev x (0, [(0, 1)])) (b := y_ev x (0, [(1, 1)])) (l_e1 _ _) (l_e1 _ _) (G0.1.1)
    have K := k_sfvC (V := v) (h := x 0) (u := x 1) C0 C1 F0
    refine l_outH rfl (And.intro h.1 ?_)
    have O0 : y_ev x (0, [(0, 1)]) = x 0 := l_e1 _ _
    have O1 : y_ev x (0, [(1, 1)]) = x 1 := l_e1 _ _
    show (True) ∧ ((v 20 (y_ev x (0, [(0, 1)])) = (y_ev x (0, [(1, 1)]))) ∧ True)
    (try rw [O0]); (try rw [O1])
    exact K
def lm_1033 : zLem := (([((-2147483648), 2147483647), ((-2147483648), 2147483647), ((-2147483648), 2147483647)], [], [], [], [(0, 0, 0, [(1, 1)]), (0, 0, 0, [(2, 1)])], [], [(262, [(0, [(0, 1)]), (0, [(1, 1)])]), (262, [(0, [(0, 1)]), (0, [(2, 1)])])]), [([((-2147483648), 2147483647), ((-2147483648), 2147483647), ((-2147483648), 2147483647)], [], [(0, [(1, 1), (2, (-1))]), (0, [(1, (-1)), (2, 1)])], [], [], [], [])])
theorem lk_1033 : l_core lm_1033 := by
  first
  | skip
    intro v x h
    have T0 : v 20 (y_ev x (0, [(0, 1)])) = (y_ev x (0, [(1, 1)])) := h.2.2.2.1
    (try simp only [l_e1, l_e0] at T0)
    have T1 : v 20 (y_ev x (0, [(0, 1)])) = (y_ev x (0, [(2, 1)])) := h.2.2.2.2.1
    (try simp only [l_e1, l_e0] at T1)
    have K := k_sfe (V := v) (h := x 0) (u := x 1) (w := x 2) T0 T1
    refine l_outH rfl (And.intro h.1 ?_)
    have O0 : y_ev x (0, [(1, 1), (2, (-1))]) = x 1 - x 2 := by show ((0) : Int) + ((1) * x 1 + ((-1) * x 2 + 0)) = _; omega
    have O1 : y_ev x (0, [(1, (-1)), (2, 1)]) = x 2 - x 1 := by show ((0) : Int) + ((-1) * x 1 + ((1) * x 2 + 0)) = _; omega
    show (0 ≤ y_ev x (0, [(1, 1), (2, (-1))]) ∧ 0 ≤ y_ev x (0, [(1, (-1)), (2, 1)]) ∧ True) ∧ (True)
    (try rw [O0]); (try rw [O1])
    exact K
  | skip
    intro v x h
    have E0 : y_ev x (0, [(0, 1)]) = x 0 := (l_e1 _ _)
    have E1 : y_ev x (0, [(1, 1)]) = x 1 := (l_e1 _ _)
    have E2 : y_ev x (0, [(2, 1)]) = x 2 := (l_e1 _ _)
    have T0 : v 20 (y_ev x (0, [(0, 1)])) = (y_ev x (0, [(1, 1)])) := h.2.2.2.1
    (try rw [E0] at T0); (try rw [E1] at T0)
    have T1 : v 20 (y_ev x (0, [(0, 1)])) = (y_ev x (0, [(2, 1)])) := h.2.2.2.2.1
    (try rw [E0] at T1); (try rw [E2] at T1)
    have K := k_sfe (V := v) (h := x 0) (u := x 1) (w := x 2) T0 T1
    refine l_outH rfl (And.intro h.1 ?_)
    have O0 : y_ev x (0, [(1, 1), (2, (-1))]) = x 1 - x 2 := by show ((0) : Int) + ((1) * x 1 + ((-1) * x 2 + 0)) = _; omega
    have O1 : y_ev x (0, [(1, (-1)), (2, 1)]) = x 2 - x 1 := by show ((0) : Int) + ((-1) * x 1 + ((1) * x 2 + 0)) = _; omega
    show (0 ≤ y_ev x (0, [(1, 1), (2, (-1))]) ∧ 0 ≤ y_ev x (0, [(1, (-1)), (2, 1)]) ∧ True) ∧ (True)
    (try rw [O0]); (try rw [O1])
    exact K
def lm_1034 : zLem := (([((-2147483648), 2147483647), ((-2147483648), 2147483647), ((-2147483648), 2147483647)], [(78, false)], [(0, [(0, 1)]), (5, [(0, (-1))])], [], [(0, 0, 0, [(0, 1)])], [(0, (true, 0, 12, [(0, 1)]), 0, 0, 0, [(1, 1)])], [(237, [(0, [(2, 1)]), (0, []), (0, []), (0, []), (0, []), (0, []), (0, []), (0, [])])]), [([((-2147483648), 2147483647), ((-2147483648), 2147483647), ((-2147483648), 2147483647)], [(78, false)], [], [], [], [], [(238, [(8, []), (0, []), (0, []), (0, []), (0, []), (0, []), (0, []), (0, []), (12, [(0, 1)]), (0, []), (0, [(1, 1)])])])])
theorem lk_1034 : l_core lm_1034 := by
  first
  | skip
    intro v x h
    have G0 := h.2.2.1
    have C0 : (0 : Int) ≤ x 0 := l_cc (a := y_ev x (0, [(0, 1)])) (l_e1 _ _) (h.2.1.1)
    have C1 : (0 : Int) ≤ 5 - x 0 := l_cc (a := y_ev x (5, [(0, (-1))])) (by show ((5) : Int) + ((-1) * x 0 + 0) = 5 - x 0; omega) (h.2.1.2.1)
    have F0 : (0 : Int) ≤ x 0 + 12 ∧ (x 0 + 12 : Int) < j_len 78 ∧ v 78 (x 0 + 12) = x 1 := l_ff (f := v 78) (L := j_len 78) (a := y_ev x (12, [(0, 1)])) (b := y_ev x (0, [(1, 1)])) (by show ((12) : Int) + ((1) * x 0 + 0) = x 0 + 12; omega) (l_e1 _ _) (G0.1.1)
    have T0 : q_rwo v (y_ev x (0, [(2, 1)])) (y_ev x (0, [])) (y_ev x (0, [])) (y_ev x (0, [])) (y_ev x (0, [])) (y_ev x (0, [])) (y_ev x (0, [])) (y_ev x (0, [])) := h.2.2.2.1
    (try simp only [l_e1, l_e0] at T0)
    have K := k_rcelz12 (V := v) (h := x 0) (u := x 1) (H := x 2) T0 C0 C1 F0
    refine l_outH rfl (And.intro h.1 ?_)
    have O2 : y_ev x (12, [(0, 1)]) = x 0 + 12 := by show ((12) : Int) + ((1) * x 0 + 0) = _; omega
    show (True) ∧ (q_qry v (y_ev x (8, [])) (y_ev x (0, [])) (y_ev x (0, [])) (y_ev x (0, [])) (y_ev x (0, [])) (y_ev x (0, [])) (y_ev x (0, [])) (y_ev x (0, [])) (y_ev x (12, [(0, 1)])) (y_ev x (0, [])) (y_ev x (0, [(1, 1)])) ∧ True)
    (try rw [O2]); (try simp only [l_e1, l_e0])
    exact K
  | skip
    intro v x h
    have G0 := h.2.2.1
    have C0 : (0 : Int) ≤ x 0 := l_cc (a := y_ev x (0, [(0, 1)])) (l_e1 _ _) (h.2.1.1)
    have C1 : (0 : Int) ≤ 5 - x 0 := l_cc (a := y_ev x (5, [(0, (-1))])) (by show ((5) : Int) + ((-1) * x 0 + 0) = 5 - x 0; omega) (h.2.1.2.1)
    have F0 : (0 : Int) ≤ x 0 + 12 ∧ (x 0 + 12 : Int) < j_len 78 ∧ v 78 (x 0 + 12) = x 1 := l_ff (f := v 78) (L := j_len 78) (a := y_ev x (12, [(0, 1)])) (b := y_ev x (0, [(1, 1)])) (by show ((12) : Int) + ((1) * x 0 + 0) = x 0 + 12; omega) (l_e1 _ _) (G0.1.1)
    have E0 : y_ev x (0, [(2, 1)]) = x 2 := (l_e1 _ _)
    have E1 : y_ev x (0, []) = 0 := (l_e0 _ _)
    have T0 : q_rwo v (y_ev x (0, [(2, 1)])) (y_ev x (0, [])) (y_ev x (0, [])) (y_ev x (0, [])) (y_ev x (0, [])) (y_ev x (0, [])) (y_ev x (0, [])) (y_ev x (0, [])) := h.2.2.2.1
    (try rw [E0] at T0); (try rw [E1] at T0)
    have K := k_rcelz12 (V := v) (h := x 0) (u := x 1) (H := x 2) T0 C0 C1 F0
    refine l_outH rfl (And.intro h.1 ?_)
    have O0 : y_ev x (8, []) = 8 := l_e0 _ _
    have O1 : y_ev x (0, []) = 0 := l_e0 _ _
    have O2 : y_ev x (12, [(0, 1)]) = x 0 + 12 := by show ((12) : Int) + ((1) * x 0 + 0) = _; omega
    have O3 : y_ev x (0, [(1, 1)]) = x 1 := l_e1 _ _
    show (True) ∧ (q_qry v (y_ev x (8, [])) (y_ev x (0, [])) (y_ev x (0, [])) (y_ev x (0, [])) (y_ev x (0, [])) (y_ev x (0, [])) (y_ev x (0, [])) (y_ev x (0, [])) (y_ev x (12, [(0, 1)])) (y_ev x (0, [])) (y_ev x (0, [(1, 1)])) ∧ True)
    (try rw [O0]); (try rw [O1]); (try rw [O2]); (try rw [O3])
    exact K
def lm_1035 : zLem := (([((-2147483648), 2147483647), ((-2147483648), 2147483647), ((-2147483648), 2147483647)], [], [(0, [(0, 1)]), (5, [(0, (-1))]), (0, [(1, (-1))])], [], [(0, 0, 0, [(0, 1)])], [], [(237, [(0, [(2, 1)]), (0, []), (0, []), (0, []), (0, []), (0, []), (0, []), (0, [])]), (238, [(8, []), (0, []), (0, []), (0, []), (0, []), (0, []), (0, []), (0, []), (6, [(0, 1)]), (0, []), (0, [(1, 1)])])]), [([((-2147483648), 2147483647), ((-2147483648), 2147483647), ((-2147483648), 2147483647)], [], [], [], [], [], [(238, [(6, []), (0, []), (0, []), (0, []), (0, []), (0, []), (0, []), (0, []), (0, [(0, 1)]), (0, []), ((-1), [])])])])
theorem lk_1035 : l_core lm_1035 := by
  first
  | skip
    intro v x h
    have C0 : (0 : Int) ≤ x 0 := l_cc (a := y_ev x (0, [(0, 1)])) (l_e1 _ _) (h.2.1.1)
    have C1 : (0 : Int) ≤ 5 - x 0 := l_cc (a := y_ev x (5, [(0, (-1))])) (by show ((5) : Int) + ((-1) * x 0 + 0) = 5 - x 0; omega) (h.2.1.2.1)
    have C2 : (0 : Int) ≤ -x 1 := l_cc (a := y_ev x (0, [(1, (-1))])) (by show ((0) : Int) + ((-1) * x 1 + 0) = -x 1; omega) (h.2.1.2.2.1)
    have E3 : y_ev x (6, [(0, 1)]) = x 0 + 6 := (by show ((6) : Int) + ((1) * x 0 + 0) = x 0 + 6; omega)
    have T0 : q_rwo v (y_ev x (0, [(2, 1)])) (y_ev x (0, [])) (y_ev x (0, [])) (y_ev x (0, [])) (y_ev x (0, [])) (y_ev x (0, [])) (y_ev x (0, [])) (y_ev x (0, [])) := h.2.2.2.1
    (try simp only [l_e1, l_e0] at T0)
    have T1 : q_qry v (y_ev x (8, [])) (y_ev x (0, [])) (y_ev x (0, [])) (y_ev x (0, [])) (y_ev x (0, [])) (y_ev x (0, [])) (y_ev x (0, [])) (y_ev x (0, [])) (y_ev x (6, [(0, 1)])) (y_ev x (0, [])) (y_ev x (0, [(1, 1)])) := h.2.2.2.2.1
    (try rw [E3] at T1); (try simp only [l_e1, l_e0] at T1)
    have K := k_plcN (V := v) (h := x 0) (x := x 1) (H := x 2) T0 T1 C0 C1 C2
    refine l_outH rfl (And.intro h.1 ?_)
    show (True) ∧ (q_qry v (y_ev x (6, [])) (y_ev x (0, [])) (y_ev x (0, [])) (y_ev x (0, [])) (y_ev x (0, [])) (y_ev x (0, [])) (y_ev x (0, [])) (y_ev x (0, [])) (y_ev x (0, [(0, 1)])) (y_ev x (0, [])) (y_ev x ((-1), [])) ∧ True)
    (try simp only [l_e1, l_e0])
    exact K
  | skip
    intro v x h
    have C0 : (0 : Int) ≤ x 0 := l_cc (a := y_ev x (0, [(0, 1)])) (l_e1 _ _) (h.2.1.1)
    have C1 : (0 : Int) ≤ 5 - x 0 := l_cc (a := y_ev x (5, [(0, (-1))])) (by show ((5) : Int) + ((-1) * x 0 + 0) = 5 - x 0; omega) (h.2.1.2.1)
    have C2 : (0 : Int) ≤ -x 1 := l_cc (a := y_ev x (0, [(1, (-1))])) (by show ((0) : Int) + ((-1) * x 1 + 0) = -x 1; omega) (h.2.1.2.2.1)
    have E0 : y_ev x (0, [(2, 1)]) = x 2 := (l_e1 _ _)
    have E1 : y_ev x (0, []) = 0 := (l_e0 _ _)
    have E2 : y_ev x (8, []) = 8 := (l_e0 _ _)
    have E3 : y_ev x (6, [(0, 1)]) = x 0 + 6 := (by show ((6) : Int) + ((1) * x 0 + 0) = x 0 + 6; omega)
    have E4 : y_ev x (0, [(1, 1)]) = x 1 := (l_e1 _ _)
    have T0 : q_rwo v (y_ev x (0, [(2, 1)])) (y_ev x (0, [])) (y_ev x (0, [])) (y_ev x (0, [])) (y_ev x (0, [])) (y_ev x (0, [])) (y_ev x (0, [])) (y_ev x (0, [])) := h.2.2.2.1
    (try rw [E0] at T0); (try rw [E1] at T0)
    have T1 : q_qry v (y_ev x (8, [])) (y_ev x (0, [])) (y_ev x (0, [])) (y_ev x (0, [])) (y_ev x (0, [])) (y_ev x (0, [])) (y_ev x (0, [])) (y_ev x (0, [])) (y_ev x (6, [(0, 1)])) (y_ev x (0, [])) (y_ev x (0, [(1, 1)])) := h.2.2.2.2.1
    (try rw [E2] at T1); (try rw [E1] at T1); (try rw [E3] at T1); (try rw [E4] at T1)
    have K := k_plcN (V := v) (h := x 0) (x := x 1) (H := x 2) T0 T1 C0 C1 C2
    refine l_outH rfl (And.intro h.1 ?_)
    have O0 : y_ev x (6, []) = 6 := l_e0 _ _
    have O1 : y_ev x (0, []) = 0 := l_e0 _ _
    have O2 : y_ev x (0, [(0, 1)]) = x 0 := l_e1 _ _
    have O3 : y_ev x ((-1), []) = (-1) := l_e0 _ _
    show (True) ∧ (q_qry v (y_ev x (6, [])) (y_ev x (0, [])) (y_ev x (0, [])) (y_ev x (0, [])) (y_ev x (0, [])) (y_ev x (0, [])) (y_ev x (0, [])) (y_ev x (0, [])) (y_ev x (0, [(0, 1)])) (y_ev x (0, [])) (y_ev x ((-1), [])) ∧ True)
    (try rw [O0]); (try rw [O1]); (try rw [O2]); (try rw [O3])
    exact K
def lm_1036 : zLem := (([((-2147483648), 2147483647), ((-2147483648), 2147483647), ((-2147483648), 2147483647), ((-2147483648), 2147483647), ((-2147483648), 2147483647), ((-2147483648), 2147483647), ((-2147483648), 2147483647)], [], [(0, [(0, 1)]), (6, [(3, (-1))]), (0, [(1, (-1))])], [], [(0, 0, 0, [(0, 1)]), (0, 0, 0, [(1, 1)])], [], [(235, [(0, [(2, 1)]), (0, [(3, 1)]), (0, [(4, 1)]), (0, [(5, 1)]), (0, []), (0, []), (0, []), (0, []), (0, []), (0, []), (0, [])]), (238, [(6, []), (0, []), (0, []), (0, []), (0, []), (0, []), (0, []), (0, []), (0, [(6, 1)]), (0, []), (0, [(0, 1)])]), (238, [(1, []), (0, []), (0, []), (0, []), (0, []), (0, []), (0, []), (0, []), (0, []), (0, [(3, 1)]), (0, [(1, 1)])])]), [([((-2147483648), 2147483647), ((-2147483648), 2147483647), ((-2147483648), 2147483647), ((-2147483648), 2147483647), ((-2147483648), 2147483647), ((-2147483648), 2147483647), ((-2147483648), 2147483647)], [], [((-1), [])], [], [], [], [])])
theorem lk_1036 : l_core lm_1036 := by
  first
  | skip
    intro v x h
    have C0 : (0 : Int) ≤ x 0 := l_cc (a := y_ev x (0, [(0, 1)])) (l_e1 _ _) (h.2.1.1)
    have C1 : (0 : Int) ≤ 6 - x 3 := l_cc (a := y_ev x (6, [(3, (-1))])) (by show ((6) : Int) + ((-1) * x 3 + 0) = 6 - x 3; omega) (h.2.1.2.1)
    have C2 : (0 : Int) ≤ -x 1 := l_cc (a := y_ev x (0, [(1, (-1))])) (by show ((0) : Int) + ((-1) * x 1 + 0) = -x 1; omega) (h.2.1.2.2.1)
    have T0 : q_sto v 0 (y_ev x (0, [(2, 1)])) (y_ev x (0, [(3, 1)])) (y_ev x (0, [(4, 1)])) (y_ev x (0, [(5, 1)])) (y_ev x (0, [])) (y_ev x (0, [])) (y_ev x (0, [])) (y_ev x (0, [])) (y_ev x (0, [])) (y_ev x (0, [])) (y_ev x (0, [])) := h.2.2.2.1
    (try simp only [l_e1, l_e0] at T0)
    have T1 : q_qry v (y_ev x (6, [])) (y_ev x (0, [])) (y_ev x (0, [])) (y_ev x (0, [])) (y_ev x (0, [])) (y_ev x (0, [])) (y_ev x (0, [])) (y_ev x (0, [])) (y_ev x (0, [(6, 1)])) (y_ev x (0, [])) (y_ev x (0, [(0, 1)])) := h.2.2.2.2.1
    (try simp only [l_e1, l_e0] at T1)
    have T2 : q_qry v (y_ev x (1, [])) (y_ev x (0, [])) (y_ev x (0, [])) (y_ev x (0, [])) (y_ev x (0, [])) (y_ev x (0, [])) (y_ev x (0, [])) (y_ev x (0, [])) (y_ev x (0, [])) (y_ev x (0, [(3, 1)])) (y_ev x (0, [(1, 1)])) := h.2.2.2.2.2.1
    (try simp only [l_e1, l_e0] at T2)
    have K := k_suml (V := v) (i := x 0) (n := x 1) (H := x 2) (p := x 3) (y := x 4) (d := x 5) (h := x 6) T0 T1 T2 C0 C1 C2
    refine l_outH rfl (And.intro h.1 ?_)
    show (0 ≤ y_ev x ((-1), []) ∧ True) ∧ (True)
    (try simp only [l_e1, l_e0])
    exact K
  | skip
    intro v x h
    have C0 : (0 : Int) ≤ x 0 := l_cc (a := y_ev x (0, [(0, 1)])) (l_e1 _ _) (h.2.1.1)
    have C1 : (0 : Int) ≤ 6 - x 3 := l_cc (a := y_ev x (6, [(3, (-1))])) (by show ((6) : Int) + ((-1) * x 3 + 0) = 6 - x 3; omega) (h.2.1.2.1)
    have C2 : (0 : Int) ≤ -x 1 := l_cc (a := y_ev x (0, [(1, (-1))])) (by show ((0) : Int) + ((-1) * x 1 + 0) = -x 1; omega) (h.2.1.2.2.1)
    have E0 : y_ev x (0, [(2, 1)]) = x 2 := (l_e1 _ _)
    have E1 : y_ev x (0, [(3, 1)]) = x 3 := (l_e1 _ _)
    have E2 : y_ev x (0, [(4, 1)]) = x 4 := (l_e1 _ _)
    have E3 : y_ev x (0, [(5, 1)]) = x 5 := (l_e1 _ _)
    have E4 : y_ev x (0, []) = 0 := (l_e0 _ _)
    have E5 : y_ev x (6, []) = 6 := (l_e0 _ _)
    have E6 : y_ev x (0, [(6, 1)]) = x 6 := (l_e1 _ _)
    have E7 : y_ev x (0, [(0, 1)]) = x 0 := (l_e1 _ _)
    have E8 : y_ev x (1, []) = 1 := (l_e0 _ _)
    have E9 : y_ev x (0, [(1, 1)]) = x 1 := (l_e1 _ _)
    have T0 : q_sto v 0 (y_ev x (0, [(2, 1)])) (y_ev x (0, [(3, 1)])) (y_ev x (0, [(4, 1)])) (y_ev x (0, [(5, 1)])) (y_ev x (0, [])) (y_ev x (0, [])) (y_ev x (0, [])) (y_ev x (0, [])) (y_ev x (0, [])) (y_ev x (0, [])) (y_ev x (0, [])) := h.2.2.2.1
    (try rw [E0] at T0); (try rw [E1] at T0); (try rw [E2] at T0); (try rw [E3] at T0); (try rw [E4] at T0)
    have T1 : q_qry v (y_ev x (6, [])) (y_ev x (0, [])) (y_ev x (0, [])) (y_ev x (0, [])) (y_ev x (0, [])) (y_ev x (0, [])) (y_ev x (0, [])) (y_ev x (0, [])) (y_ev x (0, [(6, 1)])) (y_ev x (0, [])) (y_ev x (0, [(0, 1)])) := h.2.2.2.2.1
    (try rw [E5] at T1); (try rw [E4] at T1); (try rw [E6] at T1); (try rw [E7] at T1)
    have T2 : q_qry v (y_ev x (1, [])) (y_ev x (0, [])) (y_ev x (0, [])) (y_ev x (0, [])) (y_ev x (0, [])) (y_ev x (0, [])) (y_ev x (0, [])) (y_ev x (0, [])) (y_ev x (0, [])) (y_ev x (0, [(3, 1)])) (y_ev x (0, [(1, 1)])) := h.2.2.2.2.2.1
    (try rw [E8] at T2); (try rw [E4] at T2); (try rw [E1] at T2); (try rw [E9] at T2)
    have K := k_suml (V := v) (i := x 0) (n := x 1) (H := x 2) (p := x 3) (y := x 4) (d := x 5) (h := x 6) T0 T1 T2 C0 C1 C2
    refine l_outH rfl (And.intro h.1 ?_)
    have O0 : y_ev x ((-1), []) = (-1) := l_e0 _ _
    show (0 ≤ y_ev x ((-1), []) ∧ True) ∧ (True)
    (try rw [O0])
    exact K
def lm_1037 : zLem := (([((-2147483648), 2147483647), ((-2147483648), 2147483647), ((-2147483648), 2147483647), ((-2147483648), 2147483647), ((-2147483648), 2147483647)], [(78, false)], [(0, [(0, 1)]), (5, [(0, (-1))]), ((-1), [(1, 1)])], [], [(0, 0, 0, [(0, 1)]), (0, 0, 0, [(3, 1)])], [(0, (true, 0, 24, []), 0, 0, 0, [(2, 1)])], [(237, [(0, [(4, 1)]), (0, []), (0, []), (0, []), (0, []), (0, []), (0, []), (0, [])]), (238, [(8, []), (0, []), (0, []), (0, []), (0, []), (0, []), (0, []), (0, []), (6, [(0, 1)]), (0, []), (0, [(1, 1)])]), (238, [(1, []), (0, []), (0, []), (0, []), (0, []), (0, []), (0, []), (0, []), (0, []), (0, [(2, 1)]), (0, [(3, 1)])])]), [([((-2147483648), 2147483647), ((-2147483648), 2147483647), ((-2147483648), 2147483647), ((-2147483648), 2147483647), ((-2147483648), 2147483647)], [(78, false)], [((-1), [(3, 1)])], [], [], [], [])])
theorem lk_1037 : l_core lm_1037 := by
  first
  | skip
    intro v x h
    have G0 := h.2.2.1
    have C0 : (0 : Int) ≤ x 0 := l_cc (a := y_ev x (0, [(0, 1)])) (l_e1 _ _) (h.2.1.1)
    have C1 : (0 : Int) ≤ 5 - x 0 := l_cc (a := y_ev x (5, [(0, (-1))])) (by show ((5) : Int) + ((-1) * x 0 + 0) = 5 - x 0; omega) (h.2.1.2.1)
    have C2 : (0 : Int) ≤ x 1 - 1 := l_cc (a := y_ev x ((-1), [(1, 1)])) (by show ((-1) : Int) + ((1) * x 1 + 0) = x 1 - 1; omega) (h.2.1.2.2.1)
    have F0 : (0 : Int) ≤ 24 ∧ (24 : Int) < j_len 78 ∧ v 78 (24) = x 2 := l_ff (f := v 78) (L := j_len 78) (a := y_ev x (24, [])) (b := y_ev x (0, [(2, 1)])) (l_e0 _ _) (l_e1 _ _) (G0.1.1)
    have E3 : y_ev x (6, [(0, 1)]) = x 0 + 6 := (by show ((6) : Int) + ((1) * x 0 + 0) = x 0 + 6; omega)
    have T0 : q_rwo v (y_ev x (0, [(4, 1)])) (y_ev x (0, [])) (y_ev x (0, [])) (y_ev x (0, [])) (y_ev x (0, [])) (y_ev x (0, [])) (y_ev x (0, [])) (y_ev x (0, [])) := h.2.2.2.1
    (try simp only [l_e1, l_e0] at T0)
    have T1 : q_qry v (y_ev x (8, [])) (y_ev x (0, [])) (y_ev x (0, [])) (y_ev x (0, [])) (y_ev x (0, [])) (y_ev x (0, [])) (y_ev x (0, [])) (y_ev x (0, [])) (y_ev x (6, [(0, 1)])) (y_ev x (0, [])) (y_ev x (0, [(1, 1)])) := h.2.2.2.2.1
    (try rw [E3] at T1); (try simp only [l_e1, l_e0] at T1)
    have T2 : q_qry v (y_ev x (1, [])) (y_ev x (0, [])) (y_ev x (0, [])) (y_ev x (0, [])) (y_ev x (0, [])) (y_ev x (0, [])) (y_ev x (0, [])) (y_ev x (0, [])) (y_ev x (0, [])) (y_ev x (0, [(2, 1)])) (y_ev x (0, [(3, 1)])) := h.2.2.2.2.2.1
    (try simp only [l_e1, l_e0] at T2)
    have K := k_msuml (V := v) (h := x 0) (x := x 1) (p := x 2) (n := x 3) (H := x 4) T0 T1 T2 C0 C1 C2 F0
    refine l_outH rfl (And.intro h.1 ?_)
    have O0 : y_ev x ((-1), [(3, 1)]) = x 3 - 1 := by show ((-1) : Int) + ((1) * x 3 + 0) = _; omega
    show (0 ≤ y_ev x ((-1), [(3, 1)]) ∧ True) ∧ (True)
    (try rw [O0])
    exact K
  | skip
    intro v x h
    have G0 := h.2.2.1
    have C0 : (0 : Int) ≤ x 0 := l_cc (a := y_ev x (0, [(0, 1)])) (l_e1 _ _) (h.2.1.1)
    have C1 : (0 : Int) ≤ 5 - x 0 := l_cc (a := y_ev x (5, [(0, (-1))])) (by show ((5) : Int) + ((-1) * x 0 + 0) = 5 - x 0; omega) (h.2.1.2.1)
    have C2 : (0 : Int) ≤ x 1 - 1 := l_cc (a := y_ev x ((-1), [(1, 1)])) (by show ((-1) : Int) + ((1) * x 1 + 0) = x 1 - 1; omega) (h.2.1.2.2.1)
    have F0 : (0 : Int) ≤ 24 ∧ (24 : Int) < j_len 78 ∧ v 78 (24) = x 2 := l_ff (f := v 78) (L := j_len 78) (a := y_ev x (24, [])) (b := y_ev x (0, [(2, 1)])) (l_e0 _ _) (l_e1 _ _) (G0.1.1)
    have E0 : y_ev x (0, [(4, 1)]) = x 4 := (l_e1 _ _)
    have E1 : y_ev x (0, []) = 0 := (l_e0 _ _)
    have E2 : y_ev x (8, []) = 8 := (l_e0 _ _)
    have E3 : y_ev x (6, [(0, 1)]) = x 0 + 6 := (by show ((6) : Int) + ((1) * x 0 + 0) = x 0 + 6; omega)
    have E4 : y_ev x (0, [(1, 1)]) = x 1 := (l_e1 _ _)
    have E5 : y_ev x (1, []) = 1 := (l_e0 _ _)
    have E6 : y_ev x (0, [(2, 1)]) = x 2 := (l_e1 _ _)
    have E7 : y_ev x (0, [(3, 1)]) = x 3 := (l_e1 _ _)
    have T0 : q_rwo v (y_ev x (0, [(4, 1)])) (y_ev x (0, [])) (y_ev x (0, [])) (y_ev x (0, [])) (y_ev x (0, [])) (y_ev x (0, [])) (y_ev x (0, [])) (y_ev x (0, [])) := h.2.2.2.1
    (try rw [E0] at T0); (try rw [E1] at T0)
    have T1 : q_qry v (y_ev x (8, [])) (y_ev x (0, [])) (y_ev x (0, [])) (y_ev x (0, [])) (y_ev x (0, [])) (y_ev x (0, [])) (y_ev x (0, [])) (y_ev x (0, [])) (y_ev x (6, [(0, 1)])) (y_ev x (0, [])) (y_ev x (0, [(1, 1)])) := h.2.2.2.2.1
    (try rw [E2] at T1); (try rw [E1] at T1); (try rw [E3] at T1); (try rw [E4] at T1)
    have T2 : q_qry v (y_ev x (1, [])) (y_ev x (0, [])) (y_ev x (0, [])) (y_ev x (0, [])) (y_ev x (0, [])) (y_ev x (0, [])) (y_ev x (0, [])) (y_ev x (0, [])) (y_ev x (0, [])) (y_ev x (0, [(2, 1)])) (y_ev x (0, [(3, 1)])) := h.2.2.2.2.2.1
    (try rw [E5] at T2); (try rw [E1] at T2); (try rw [E6] at T2); (try rw [E7] at T2)
    have K := k_msuml (V := v) (h := x 0) (x := x 1) (p := x 2) (n := x 3) (H := x 4) T0 T1 T2 C0 C1 C2 F0
    refine l_outH rfl (And.intro h.1 ?_)
    have O0 : y_ev x ((-1), [(3, 1)]) = x 3 - 1 := by show ((-1) : Int) + ((1) * x 3 + 0) = _; omega
    show (0 ≤ y_ev x ((-1), [(3, 1)]) ∧ True) ∧ (True)
    (try rw [O0])
    exact K
def lm_1038 : zLem := (([((-2147483648), 2147483647), ((-2147483648), 2147483647), ((-2147483648), 2147483647), ((-2147483648), 2147483647), ((-2147483648), 2147483647), ((-2147483648), 2147483647)], [], [(0, [(0, 1), (1, (-1))]), (0, [(0, (-1)), (1, 1)]), (0, [(2, 1), (3, (-1))]), (0, [(2, (-1)), (3, 1)])], [], [(0, 0, 0, [(4, 1)]), (0, 0, 0, [(5, 1)])], [], [(107, [(0, [(0, 1)]), (0, [(2, 1)]), (0, [(4, 1)])]), (107, [(0, [(1, 1)]), (0, [(3, 1)]), (0, [(5, 1)])])]), [([((-2147483648), 2147483647), ((-2147483648), 2147483647), ((-2147483648), 2147483647), ((-2147483648), 2147483647), ((-2147483648), 2147483647), ((-2147483648), 2147483647)], [], [(0, [(4, 1), (5, (-1))]), (0, [(4, (-1)), (5, 1)])], [], [], [], [])])
theorem lk_1038 : l_core lm_1038 := by
  first
  | skip
    intro v x h
    have C0 : (0 : Int) ≤ x 0 - x 1 := l_cc (a := y_ev x (0, [(0, 1), (1, (-1))])) (by show ((0) : Int) + ((1) * x 0 + ((-1) * x 1 + 0)) = x 0 - x 1; omega) (h.2.1.1)
    have C1 : (0 : Int) ≤ x 1 - x 0 := l_cc (a := y_ev x (0, [(0, (-1)), (1, 1)])) (by show ((0) : Int) + ((-1) * x 0 + ((1) * x 1 + 0)) = x 1 - x 0; omega) (h.2.1.2.1)
    have C2 : (0 : Int) ≤ x 2 - x 3 := l_cc (a := y_ev x (0, [(2, 1), (3, (-1))])) (by show ((0) : Int) + ((1) * x 2 + ((-1) * x 3 + 0)) = x 2 - x 3; omega) (h.2.1.2.2.1)
    have C3 : (0 : Int) ≤ x 3 - x 2 := l_cc (a := y_ev x (0, [(2, (-1)), (3, 1)])) (by show ((0) : Int) + ((-1) * x 2 + ((1) * x 3 + 0)) = x 3 - x 2; omega) (h.2.1.2.2.2.1)
    have T0 : (mOP 107 (Int32.ofInt (y_ev x (0, [(0, 1)]))) (Int32.ofInt (y_ev x (0, [(2, 1)])))).toInt = (y_ev x (0, [(4, 1)])) := h.2.2.2.1
    (try simp only [l_e1, l_e0] at T0)
    have T1 : (mOP 107 (Int32.ofInt (y_ev x (0, [(1, 1)]))) (Int32.ofInt (y_ev x (0, [(3, 1)])))).toInt = (y_ev x (0, [(5, 1)])) := h.2.2.2.2.1
    (try simp only [l_e1, l_e0] at T1)
    have K := k_qdiv (V := v) (a := x 0) (b := x 1) (n := x 2) (k := x 3) (u := x 4) (w := x 5) T0 T1 C0 C1 C2 C3
    refine l_outH rfl (And.intro h.1 ?_)
    have O0 : y_ev x (0, [(4, 1), (5, (-1))]) = x 4 - x 5 := by show ((0) : Int) + ((1) * x 4 + ((-1) * x 5 + 0)) = _; omega
    have O1 : y_ev x (0, [(4, (-1)), (5, 1)]) = x 5 - x 4 := by show ((0) : Int) + ((-1) * x 4 + ((1) * x 5 + 0)) = _; omega
    show (0 ≤ y_ev x (0, [(4, 1), (5, (-1))]) ∧ 0 ≤ y_ev x (0, [(4, (-1)), (5, 1)]) ∧ True) ∧ (True)
    (try rw [O0]); (try rw [O1])
    exact K
  | skip
    intro v x h
    have C0 : (0 : Int) ≤ x 0 - x 1 := l_cc (a := y_ev x (0, [(0, 1), (1, (-1))])) (by show ((0) : Int) + ((1) * x 0 + ((-1) * x 1 + 0)) = x 0 - x 1; omega) (h.2.1.1)
    have C1 : (0 : Int) ≤ x 1 - x 0 := l_cc (a := y_ev x (0, [(0, (-1)), (1, 1)])) (by show ((0) : Int) + ((-1) * x 0 + ((1) * x 1 + 0)) = x 1 - x 0; omega) (h.2.1.2.1)
    have C2 : (0 : Int) ≤ x 2 - x 3 := l_cc (a := y_ev x (0, [(2, 1), (3, (-1))])) (by show ((0) : Int) + ((1) * x 2 + ((-1) * x 3 + 0)) = x 2 - x 3; omega) (h.2.1.2.2.1)
    have C3 : (0 : Int) ≤ x 3 - x 2 := l_cc (a := y_ev x (0, [(2, (-1)), (3, 1)])) (by show ((0) : Int) + ((-1) * x 2 + ((1) * x 3 + 0)) = x 3 - x 2; omega) (h.2.1.2.2.2.1)
    have E0 : y_ev x (0, [(0, 1)]) = x 0 := (l_e1 _ _)
    have E1 : y_ev x (0, [(2, 1)]) = x 2 := (l_e1 _ _)
    have E2 : y_ev x (0, [(4, 1)]) = x 4 := (l_e1 _ _)
    have E3 : y_ev x (0, [(1, 1)]) = x 1 := (l_e1 _ _)
    have E4 : y_ev x (0, [(3, 1)]) = x 3 := (l_e1 _ _)
    have E5 : y_ev x (0, [(5, 1)]) = x 5 := (l_e1 _ _)
    have T0 : (mOP 107 (Int32.ofInt (y_ev x (0, [(0, 1)]))) (Int32.ofInt (y_ev x (0, [(2, 1)])))).toInt = (y_ev x (0, [(4, 1)])) := h.2.2.2.1
    (try rw [E0] at T0); (try rw [E1] at T0); (try rw [E2] at T0)
    have T1 : (mOP 107 (Int32.ofInt (y_ev x (0, [(1, 1)]))) (Int32.ofInt (y_ev x (0, [(3, 1)])))).toInt = (y_ev x (0, [(5, 1)])) := h.2.2.2.2.1
    (try rw [E3] at T1); (try rw [E4] at T1); (try rw [E5] at T1)
    have K := k_qdiv (V := v) (a := x 0) (b := x 1) (n := x 2) (k := x 3) (u := x 4) (w := x 5) T0 T1 C0 C1 C2 C3
    refine l_outH rfl (And.intro h.1 ?_)
    have O0 : y_ev x (0, [(4, 1), (5, (-1))]) = x 4 - x 5 := by show ((0) : Int) + ((1) * x 4 + ((-1) * x 5 + 0)) = _; omega
    have O1 : y_ev x (0, [(4, (-1)), (5, 1)]) = x 5 - x 4 := by show ((0) : Int) + ((-1) * x 4 + ((1) * x 5 + 0)) = _; omega
    show (0 ≤ y_ev x (0, [(4, 1), (5, (-1))]) ∧ 0 ≤ y_ev x (0, [(4, (-1)), (5, 1)]) ∧ True) ∧ (True)
    (try rw [O0]); (try rw [O1])
    exact K
def lm_1039pg_0 (t : List zTg) : List zTg := (260, [(8, []), (0, []), (0, []), (0, []), (0, []), (0, []), (0, []), (0, []), (0, [(6, 1)]), (0, []), (0, [(8, 1)])]) :: (238, [(8, []), (0, []), (0, []), (0, []), (0, []), (0, []), (0, []), (0, []), (0, [(6, 1)]), (0, []), (0, [(9, 1)])]) :: (260, [(1, []), (0, []), (0, []), (0, []), (0, []), (0, []), (0, []), (0, []), (0, []), (0, [(7, 1)]), (0, [(2, 1)])]) :: (238, [(1, []), (0, []), (0, []), (0, []), (0, []), (0, []), (0, []), (0, []), (0, []), (0, [(7, 1)]), (0, [(3, 1)])]) :: (107, [(0, [(0, 1)]), (0, [(2, 1)]), (0, [(4, 1)])]) :: (107, [(0, [(1, 1)]), (0, [(3, 1)]), (0, [(5, 1)])]) :: t
def lm_1039p : zS := ((lm_473pi_0 (lm_473pi_1 [])), [], [(0, [(0, 1), (8, (-1000))]), (0, [(0, (-1)), (8, 1000)]), (0, [(1, 1), (9, (-1000))]), (0, [(1, (-1)), (9, 1000)])], [], [(0, 0, 0, [(4, 1)]), (0, 0, 0, [(5, 1)])], [], (lm_1039pg_0 []))
def lm_1039 : zLem := (lm_1039p, [([((-2147483648), 2147483647), ((-2147483648), 2147483647), ((-2147483648), 2147483647), ((-2147483648), 2147483647), ((-2147483648), 2147483647), ((-2147483648), 2147483647), ((-2147483648), 2147483647), ((-2147483648), 2147483647), ((-2147483648), 2147483647), ((-2147483648), 2147483647)], [], [(0, [(4, 1), (5, (-1))]), (0, [(4, (-1)), (5, 1)])], [], [], [], [])])
theorem lk_1039 : l_core lm_1039 := by
  first
  | skip
    intro v x h
    have C0 : (0 : Int) ≤ x 0 - 1000 * x 8 := l_cc (a := y_ev x (0, [(0, 1), (8, (-1000))])) (by show ((0) : Int) + ((1) * x 0 + ((-1000) * x 8 + 0)) = x 0 - 1000 * x 8; omega) (h.2.1.1)
    have C1 : (0 : Int) ≤ 1000 * x 8 - x 0 := l_cc (a := y_ev x (0, [(0, (-1)), (8, 1000)])) (by show ((0) : Int) + ((-1) * x 0 + ((1000) * x 8 + 0)) = 1000 * x 8 - x 0; omega) (h.2.1.2.1)
    have C2 : (0 : Int) ≤ x 1 - 1000 * x 9 := l_cc (a := y_ev x (0, [(1, 1), (9, (-1000))])) (by show ((0) : Int) + ((1) * x 1 + ((-1000) * x 9 + 0)) = x 1 - 1000 * x 9; omega) (h.2.1.2.2.1)
    have C3 : (0 : Int) ≤ 1000 * x 9 - x 1 := l_cc (a := y_ev x (0, [(1, (-1)), (9, 1000)])) (by show ((0) : Int) + ((-1) * x 1 + ((1000) * x 9 + 0)) = 1000 * x 9 - x 1; omega) (h.2.1.2.2.2.1)
    have T0 : q_qry v (y_ev x (8, [])) (y_ev x (0, [])) (y_ev x (0, [])) (y_ev x (0, [])) (y_ev x (0, [])) (y_ev x (0, [])) (y_ev x (0, [])) (y_ev x (0, [])) (y_ev x (0, [(6, 1)])) (y_ev x (0, [])) (y_ev x (0, [(8, 1)])) := h.2.2.2.1
    (try simp only [l_e1, l_e0] at T0)
    have T1 : q_qry v (y_ev x (8, [])) (y_ev x (0, [])) (y_ev x (0, [])) (y_ev x (0, [])) (y_ev x (0, [])) (y_ev x (0, [])) (y_ev x (0, [])) (y_ev x (0, [])) (y_ev x (0, [(6, 1)])) (y_ev x (0, [])) (y_ev x (0, [(9, 1)])) := h.2.2.2.2.1
    (try simp only [l_e1, l_e0] at T1)
    have T2 : q_qry v (y_ev x (1, [])) (y_ev x (0, [])) (y_ev x (0, [])) (y_ev x (0, [])) (y_ev x (0, [])) (y_ev x (0, [])) (y_ev x (0, [])) (y_ev x (0, [])) (y_ev x (0, [])) (y_ev x (0, [(7, 1)])) (y_ev x (0, [(2, 1)])) := h.2.2.2.2.2.1
    (try simp only [l_e1, l_e0] at T2)
    have T3 : q_qry v (y_ev x (1, [])) (y_ev x (0, [])) (y_ev x (0, [])) (y_ev x (0, [])) (y_ev x (0, [])) (y_ev x (0, [])) (y_ev x (0, [])) (y_ev x (0, [])) (y_ev x (0, [])) (y_ev x (0, [(7, 1)])) (y_ev x (0, [(3, 1)])) := h.2.2.2.2.2.2.1
    (try simp only [l_e1, l_e0] at T3)
    have T4 : (mOP 107 (Int32.ofInt (y_ev x (0, [(0, 1)]))) (Int32.ofInt (y_ev x (0, [(2, 1)])))).toInt = (y_ev x (0, [(4, 1)])) := h.2.2.2.2.2.2.2.1
    (try simp only [l_e1, l_e0] at T4)
    have T5 : (mOP 107 (Int32.ofInt (y_ev x (0, [(1, 1)]))) (Int32.ofInt (y_ev x (0, [(3, 1)])))).toInt = (y_ev x (0, [(5, 1)])) := h.2.2.2.2.2.2.2.2.1
    (try simp only [l_e1, l_e0] at T5)
    have K := k_qshr (V := v) (a := x 0) (b := x 1) (n := x 2) (k := x 3) (u := x 4) (w := x 5) (h := x 6) (p := x 7) (x := x 8) (y := x 9) T0 T1 T2 T3 T4 T5 C0 C1 C2 C3
    refine l_outH rfl (And.intro h.1 ?_)
    have O0 : y_ev x (0, [(4, 1), (5, (-1))]) = x 4 - x 5 := by show ((0) : Int) + ((1) * x 4 + ((-1) * x 5 + 0)) = _; omega
    have O1 : y_ev x (0, [(4, (-1)), (5, 1)]) = x 5 - x 4 := by show ((0) : Int) + ((-1) * x 4 + ((1) * x 5 + 0)) = _; omega
    show (0 ≤ y_ev x (0, [(4, 1), (5, (-1))]) ∧ 0 ≤ y_ev x (0, [(4, (-1)), (5, 1)]) ∧ True) ∧ (True)
    (try rw [O0]); (try rw [O1])
    exact K
  | skip
    intro v x h
    have C0 : (0 : Int) ≤ x 0 - 1000 * x 8 := l_cc (a := y_ev x (0, [(0, 1), (8, (-1000))])) (by show ((0) : Int) + ((1) * x 0 + ((-1000) * x 8 + 0)) = x 0 - 1000 * x 8; omega) (h.2.1.1)
    have C1 : (0 : Int) ≤ 1000 * x 8 - x 0 := l_cc (a := y_ev x (0, [(0, (-1)), (8, 1000)])) (by show ((0) : Int) + ((-1) * x 0 + ((1000) * x 8 + 0)) = 1000 * x 8 - x 0; omega) (h.2.1.2.1)
    have C2 : (0 : Int) ≤ x 1 - 1000 * x 9 := l_cc (a := y_ev x (0, [(1, 1), (9, (-1000))])) (by show ((0) : Int) + ((1) * x 1 + ((-1000) * x 9 + 0)) = x 1 - 1000 * x 9; omega) (h.2.1.2.2.1)
    have C3 : (0 : Int) ≤ 1000 * x 9 - x 1 := l_cc (a := y_ev x (0, [(1, (-1)), (9, 1000)])) (by show ((0) : Int) + ((-1) * x 1 + ((1000) * x 9 + 0)) = 1000 * x 9 - x 1; omega) (h.2.1.2.2.2.1)
    have E0 : y_ev x (8, []) = 8 := (l_e0 _ _)
    have E1 : y_ev x (0, []) = 0 := (l_e0 _ _)
    have E2 : y_ev x (0, [(6, 1)]) = x 6 := (l_e1 _ _)
    have E3 : y_ev x (0, [(8, 1)]) = x 8 := (l_e1 _ _)
    have E4 : y_ev x (0, [(9, 1)]) = x 9 := (l_e1 _ _)
    have E5 : y_ev x (1, []) = 1 := (l_e0 _ _)
    have E6 : y_ev x (0, [(7, 1)]) = x 7 := (l_e1 _ _)
    have E7 : y_ev x (0, [(2, 1)]) = x 2 := (l_e1 _ _)
    have E8 : y_ev x (0, [(3, 1)]) = x 3 := (l_e1 _ _)
    have E9 : y_ev x (0, [(0, 1)]) = x 0 := (l_e1 _ _)
    have E10 : y_ev x (0, [(4, 1)]) = x 4 := (l_e1 _ _)
    have E11 : y_ev x (0, [(1, 1)]) = x 1 := (l_e1 _ _)
    have E12 : y_ev x (0, [(5, 1)]) = x 5 := (l_e1 _ _)
    have T0 : q_qry v (y_ev x (8, [])) (y_ev x (0, [])) (y_ev x (0, [])) (y_ev x (0, [])) (y_ev x (0, [])) (y_ev x (0, [])) (y_ev x (0, [])) (y_ev x (0, [])) (y_ev x (0, [(6, 1)])) (y_ev x (0, [])) (y_ev x (0, [(8, 1)])) := h.2.2.2.1
    (try rw [E0] at T0); (try rw [E1] at T0); (try rw [E2] at T0); (try rw [E3] at T0)
    have T1 : q_qry v (y_ev x (8, [])) (y_ev x (0, [])) (y_ev x (0, [])) (y_ev x (0, [])) (y_ev x (0, [])) (y_ev x (0, [])) (y_ev x (0, [])) (y_ev x (0, [])) (y_ev x (0, [(6, 1)])) (y_ev x (0, [])) (y_ev x (0, [(9, 1)])) := h.2.2.2.2.1
    (try rw [E0] at T1); (try rw [E1] at T1); (try rw [E2] at T1); (try rw [E4] at T1)
    have T2 : q_qry v (y_ev x (1, [])) (y_ev x (0, [])) (y_ev x (0, [])) (y_ev x (0, [])) (y_ev x (0, [])) (y_ev x (0, [])) (y_ev x (0, [])) (y_ev x (0, [])) (y_ev x (0, [])) (y_ev x (0, [(7, 1)])) (y_ev x (0, [(2, 1)])) := h.2.2.2.2.2.1
    (try rw [E5] at T2); (try rw [E1] at T2); (try rw [E6] at T2); (try rw [E7] at T2)
    have T3 : q_qry v (y_ev x (1, [])) (y_ev x (0, [])) (y_ev x (0, [])) (y_ev x (0, [])) (y_ev x (0, [])) (y_ev x (0, [])) (y_ev x (0, [])) (y_ev x (0, [])) (y_ev x (0, [])) (y_ev x (0, [(7, 1)])) (y_ev x (0, [(3, 1)])) := h.2.2.2.2.2.2.1
    (try rw [E5] at T3); (try rw [E1] at T3); (try rw [E6] at T3); (try rw [E8] at T3)
    have T4 : (mOP 107 (Int32.ofInt (y_ev x (0, [(0, 1)]))) (Int32.ofInt (y_ev x (0, [(2, 1)])))).toInt = (y_ev x (0, [(4, 1)])) := h.2.2.2.2.2.2.2.1
    (try rw [E9] at T4); (try rw [E7] at T4); (try rw [E10] at T4)
    have T5 : (mOP 107 (Int32.ofInt (y_ev x (0, [(1, 1)]))) (Int32.ofInt (y_ev x (0, [(3, 1)])))).toInt = (y_ev x (0, [(5, 1)])) := h.2.2.2.2.2.2.2.2.1
    (try rw [E11] at T5); (try rw [E8] at T5); (try rw [E12] at T5)
    have K := k_qshr (V := v) (a := x 0) (b := x 1) (n := x 2) (k := x 3) (u := x 4) (w := x 5) (h := x 6) (p := x 7) (x := x 8) (y := x 9) T0 T1 T2 T3 T4 T5 C0 C1 C2 C3
    refine l_outH rfl (And.intro h.1 ?_)
    have O0 : y_ev x (0, [(4, 1), (5, (-1))]) = x 4 - x 5 := by show ((0) : Int) + ((1) * x 4 + ((-1) * x 5 + 0)) = _; omega
    have O1 : y_ev x (0, [(4, (-1)), (5, 1)]) = x 5 - x 4 := by show ((0) : Int) + ((-1) * x 4 + ((1) * x 5 + 0)) = _; omega
    show (0 ≤ y_ev x (0, [(4, 1), (5, (-1))]) ∧ 0 ≤ y_ev x (0, [(4, (-1)), (5, 1)]) ∧ True) ∧ (True)
    (try rw [O0]); (try rw [O1])
    exact K
def lm_1040 : zLem := (([((-2147483648), 2147483647), ((-2147483648), 2147483647), ((-2147483648), 2147483647), ((-2147483648), 2147483647), ((-2147483648), 2147483647), ((-2147483648), 2147483647), ((-2147483648), 2147483647), ((-2147483648), 2147483647)], [], [], [], [], [], [(252, [(0, [(1, 1)]), (0, [(2, 1)]), (0, [(3, 1)]), (0, [(4, 1)]), (0, [(5, 1)]), (0, [(6, 1)]), (0, [(7, 1)]), ((-2), []), (0, [(0, 1)])])]), [([((-2147483648), 2147483647), ((-2147483648), 2147483647), ((-2147483648), 2147483647), ((-2147483648), 2147483647), ((-2147483648), 2147483647), ((-2147483648), 2147483647), ((-2147483648), 2147483647), ((-2147483648), 2147483647)], [], [], [], [], [], [(238, [(26, []), (0, [(1, 1)]), (0, [(2, 1)]), (0, [(3, 1)]), (0, [(4, 1)]), (0, [(5, 1)]), (0, [(6, 1)]), (0, [(7, 1)]), (999, []), (1, []), (999, [])])])])
theorem lk_1040 : l_core lm_1040 := by
  first
  | skip
    intro v x h
    have T0 : q_mgn v (y_ev x (0, [(1, 1)])) (y_ev x (0, [(2, 1)])) (y_ev x (0, [(3, 1)])) (y_ev x (0, [(4, 1)])) (y_ev x (0, [(5, 1)])) (y_ev x (0, [(6, 1)])) (y_ev x (0, [(7, 1)])) (y_ev x ((-2), [])) (y_ev x (0, [(0, 1)])) := h.2.2.2.1
    (try simp only [l_e1, l_e0] at T0)
    have K := k_min0 (V := v) (m := x 0) (q := x 1) (b := x 2) (s := x 3) (o := x 4) (a1 := x 5) (a2 := x 6) (a3 := x 7) T0
    refine l_outH rfl (And.intro h.1 ?_)
    show (True) ∧ (q_qry v (y_ev x (26, [])) (y_ev x (0, [(1, 1)])) (y_ev x (0, [(2, 1)])) (y_ev x (0, [(3, 1)])) (y_ev x (0, [(4, 1)])) (y_ev x (0, [(5, 1)])) (y_ev x (0, [(6, 1)])) (y_ev x (0, [(7, 1)])) (y_ev x (999, [])) (y_ev x (1, [])) (y_ev x (999, [])) ∧ True)
    (try simp only [l_e1, l_e0])
    exact K
  | skip
    intro v x h
    have E0 : y_ev x (0, [(1, 1)]) = x 1 := (l_e1 _ _)
    have E1 : y_ev x (0, [(2, 1)]) = x 2 := (l_e1 _ _)
    have E2 : y_ev x (0, [(3, 1)]) = x 3 := (l_e1 _ _)
    have E3 : y_ev x (0, [(4, 1)]) = x 4 := (l_e1 _ _)
    have E4 : y_ev x (0, [(5, 1)]) = x 5 := (l_e1 _ _)
    have E5 : y_ev x (0, [(6, 1)]) = x 6 := (l_e1 _ _)
    have E6 : y_ev x (0, [(7, 1)]) = x 7 := (l_e1 _ _)
    have E7 : y_ev x ((-2), []) = (-2) := (l_e0 _ _)
    have E8 : y_ev x (0, [(0, 1)]) = x 0 := (l_e1 _ _)
    have T0 : q_mgn v (y_ev x (0, [(1, 1)])) (y_ev x (0, [(2, 1)])) (y_ev x (0, [(3, 1)])) (y_ev x (0, [(4, 1)])) (y_ev x (0, [(5, 1)])) (y_ev x (0, [(6, 1)])) (y_ev x (0, [(7, 1)])) (y_ev x ((-2), [])) (y_ev x (0, [(0, 1)])) := h.2.2.2.1
    (try rw [E0] at T0); (try rw [E1] at T0); (try rw [E2] at T0); (try rw [E3] at T0); (try rw [E4] at T0); (try rw [E5] at T0); (try rw [E6] at T0); (try rw [E7] at T0); (try rw [E8] at T0)
    have K := k_min0 (V := v) (m := x 0) (q := x 1) (b := x 2) (s := x 3) (o := x 4) (a1 := x 5) (a2 := x 6) (a3 := x 7) T0
    refine l_outH rfl (And.intro h.1 ?_)
    have O0 : y_ev x (26, []) = 26 := l_e0 _ _
    have O1 : y_ev x (0, [(1, 1)]) = x 1 := l_e1 _ _
    have O2 : y_ev x (0, [(2, 1)]) = x 2 := l_e1 _ _
    have O3 : y_ev x (0, [(3, 1)]) = x 3 := l_e1 _ _
    have O4 : y_ev x (0, [(4, 1)]) = x 4 := l_e1 _ _
    have O5 : y_ev x (0, [(5, 1)]) = x 5 := l_e1 _ _
    have O6 : y_ev x (0, [(6, 1)]) = x 6 := l_e1 _ _
    have O7 : y_ev x (0, [(7, 1)]) = x 7 := l_e1 _ _
    have O8 : y_ev x (999, []) = 999 := l_e0 _ _
    have O9 : y_ev x (1, []) = 1 := l_e0 _ _
    show (True) ∧ (q_qry v (y_ev x (26, [])) (y_ev x (0, [(1, 1)])) (y_ev x (0, [(2, 1)])) (y_ev x (0, [(3, 1)])) (y_ev x (0, [(4, 1)])) (y_ev x (0, [(5, 1)])) (y_ev x (0, [(6, 1)])) (y_ev x (0, [(7, 1)])) (y_ev x (999, [])) (y_ev x (1, [])) (y_ev x (999, [])) ∧ True)
    (try rw [O0]); (try rw [O1]); (try rw [O2]); (try rw [O3]); (try rw [O4]); (try rw [O5]); (try rw [O6]); (try rw [O7]); (try rw [O8]); (try rw [O9])
    exact K
def lm_1041p : zS := ((lm_416pi_0 (lm_416pi_1 [])), [(25, false)], [(0, [(1, 1)]), ((-1), [(1, (-1)), (3, 1)]), (0, [(0, (-1)), (2, 1)])], [], [(0, 0, 0, [(0, 1)]), (0, 0, 0, [(1, 1)])], [(0, (true, 0, 0, [(1, 1)]), 0, 0, 0, [(2, 1)])], [(252, [(0, [(4, 1)]), (0, [(5, 1)]), (0, [(6, 1)]), (0, [(7, 1)]), (0, [(8, 1)]), (0, [(9, 1)]), (0, [(10, 1)]), ((-2), []), (0, [(3, 1)])]), (238, [(26, []), (0, [(4, 1)]), (0, [(5, 1)]), (0, [(6, 1)]), (0, [(7, 1)]), (0, [(8, 1)]), (0, [(9, 1)]), (0, [(10, 1)]), (999, []), (1, [(1, 1)]), (0, [(0, 1)])])])
def lm_1041 : zLem := (lm_1041p, [([((-2147483648), 2147483647), ((-2147483648), 2147483647), ((-2147483648), 2147483647), ((-2147483648), 2147483647), ((-2147483648), 2147483647), ((-2147483648), 2147483647), ((-2147483648), 2147483647), ((-2147483648), 2147483647), ((-2147483648), 2147483647), ((-2147483648), 2147483647), ((-2147483648), 2147483647)], [(25, false)], [], [], [], [], [(238, [(26, []), (0, [(4, 1)]), (0, [(5, 1)]), (0, [(6, 1)]), (0, [(7, 1)]), (0, [(8, 1)]), (0, [(9, 1)]), (0, [(10, 1)]), (999, []), (2, [(1, 1)]), (0, [(0, 1)])])])])
theorem lk_1041 : l_core lm_1041 := by
  first
  | skip
    intro v x h
    have G0 := h.2.2.1
    have C0 : (0 : Int) ≤ x 1 := l_cc (a := y_ev x (0, [(1, 1)])) (l_e1 _ _) (h.2.1.1)
    have C1 : (0 : Int) ≤ x 3 - x 1 - 1 := l_cc (a := y_ev x ((-1), [(1, (-1)), (3, 1)])) (by show ((-1) : Int) + ((-1) * x 1 + ((1) * x 3 + 0)) = x 3 - x 1 - 1; omega) (h.2.1.2.1)
    have C2 : (0 : Int) ≤ x 2 - x 0 := l_cc (a := y_ev x (0, [(0, (-1)), (2, 1)])) (by show ((0) : Int) + ((-1) * x 0 + ((1) * x 2 + 0)) = x 2 - x 0; omega) (h.2.1.2.2.1)
    have F0 : (0 : Int) ≤ x 1 ∧ (x 1 : Int) < j_len 25 ∧ v 25 (x 1) = x 2 := l_ff (f := v 25) (L := j_len 25) (a := y_ev x (0, [(1, 1)])) (b := y_ev x (0, [(2, 1)])) (l_e1 _ _) (l_e1 _ _) (G0.1.1)
    have E11 : y_ev x (1, [(1, 1)]) = x 1 + 1 := (by show ((1) : Int) + ((1) * x 1 + 0) = x 1 + 1; omega)
    have T0 : q_mgn v (y_ev x (0, [(4, 1)])) (y_ev x (0, [(5, 1)])) (y_ev x (0, [(6, 1)])) (y_ev x (0, [(7, 1)])) (y_ev x (0, [(8, 1)])) (y_ev x (0, [(9, 1)])) (y_ev x (0, [(10, 1)])) (y_ev x ((-2), [])) (y_ev x (0, [(3, 1)])) := h.2.2.2.1
    (try simp only [l_e1, l_e0] at T0)
    have T1 : q_qry v (y_ev x (26, [])) (y_ev x (0, [(4, 1)])) (y_ev x (0, [(5, 1)])) (y_ev x (0, [(6, 1)])) (y_ev x (0, [(7, 1)])) (y_ev x (0, [(8, 1)])) (y_ev x (0, [(9, 1)])) (y_ev x (0, [(10, 1)])) (y_ev x (999, [])) (y_ev x (1, [(1, 1)])) (y_ev x (0, [(0, 1)])) := h.2.2.2.2.1
    (try rw [E11] at T1); (try simp only [l_e1, l_e0] at T1)
    have K := k_minA (V := v) (z := x 0) (i := x 1) (u := x 2) (m := x 3) (q := x 4) (b := x 5) (s := x 6) (o := x 7) (a1 := x 8) (a2 := x 9) (a3 := x 10) T0 T1 C0 C1 C2 F0
    refine l_outH rfl (And.intro h.1 ?_)
    have O9 : y_ev x (2, [(1, 1)]) = x 1 + 2 := by show ((2) : Int) + ((1) * x 1 + 0) = _; omega
    show (True) ∧ (q_qry v (y_ev x (26, [])) (y_ev x (0, [(4, 1)])) (y_ev x (0, [(5, 1)])) (y_ev x (0, [(6, 1)])) (y_ev x (0, [(7, 1)])) (y_ev x (0, [(8, 1)])) (y_ev x (0, [(9, 1)])) (y_ev x (0, [(10, 1)])) (y_ev x (999, [])) (y_ev x (2, [(1, 1)])) (y_ev x (0, [(0, 1)])) ∧ True)
    (try rw [O9]); (try simp only [l_e1, l_e0])
    exact K
  | skip
    intro v x h
    have G0 := h.2.2.1
    have C0 : (0 : Int) ≤ x 1 := l_cc (a := y_ev x (0, [(1, 1)])) (l_e1 _ _) (h.2.1.1)
    have C1 : (0 : Int) ≤ x 3 - x 1 - 1 := l_cc (a := y_ev x ((-1), [(1, (-1)), (3, 1)])) (by show ((-1) : Int) + ((-1) * x 1 + ((1) * x 3 + 0)) = x 3 - x 1 - 1; omega) (h.2.1.2.1)
    have C2 : (0 : Int) ≤ x 2 - x 0 := l_cc (a := y_ev x (0, [(0, (-1)), (2, 1)])) (by show ((0) : Int) + ((-1) * x 0 + ((1) * x 2 + 0)) = x 2 - x 0; omega) (h.2.1.2.2.1)
    have F0 : (0 : Int) ≤ x 1 ∧ (x 1 : Int) < j_len 25 ∧ v 25 (x 1) = x 2 := l_ff (f := v 25) (L := j_len 25) (a := y_ev x (0, [(1, 1)])) (b := y_ev x (0, [(2, 1)])) (l_e1 _ _) (l_e1 _ _) (G0.1.1)
    have E0 : y_ev x (0, [(4, 1)]) = x 4 := (l_e1 _ _)
    have E1 : y_ev x (0, [(5, 1)]) = x 5 := (l_e1 _ _)
    have E2 : y_ev x (0, [(6, 1)]) = x 6 := (l_e1 _ _)
    have E3 : y_ev x (0, [(7, 1)]) = x 7 := (l_e1 _ _)
    have E4 : y_ev x (0, [(8, 1)]) = x 8 := (l_e1 _ _)
    have E5 : y_ev x (0, [(9, 1)]) = x 9 := (l_e1 _ _)
    have E6 : y_ev x (0, [(10, 1)]) = x 10 := (l_e1 _ _)
    have E7 : y_ev x ((-2), []) = (-2) := (l_e0 _ _)
    have E8 : y_ev x (0, [(3, 1)]) = x 3 := (l_e1 _ _)
    have E9 : y_ev x (26, []) = 26 := (l_e0 _ _)
    have E10 : y_ev x (999, []) = 999 := (l_e0 _ _)
    have E11 : y_ev x (1, [(1, 1)]) = x 1 + 1 := (by show ((1) : Int) + ((1) * x 1 + 0) = x 1 + 1; omega)
    have E12 : y_ev x (0, [(0, 1)]) = x 0 := (l_e1 _ _)
    have T0 : q_mgn v (y_ev x (0, [(4, 1)])) (y_ev x (0, [(5, 1)])) (y_ev x (0, [(6, 1)])) (y_ev x (0, [(7, 1)])) (y_ev x (0, [(8, 1)])) (y_ev x (0, [(9, 1)])) (y_ev x (0, [(10, 1)])) (y_ev x ((-2), [])) (y_ev x (0, [(3, 1)])) := h.2.2.2.1
    (try rw [E0] at T0); (try rw [E1] at T0); (try rw [E2] at T0); (try rw [E3] at T0); (try rw [E4] at T0); (try rw [E5] at T0); (try rw [E6] at T0); (try rw [E7] at T0); (try rw [E8] at T0)
    have T1 : q_qry v (y_ev x (26, [])) (y_ev x (0, [(4, 1)])) (y_ev x (0, [(5, 1)])) (y_ev x (0, [(6, 1)])) (y_ev x (0, [(7, 1)])) (y_ev x (0, [(8, 1)])) (y_ev x (0, [(9, 1)])) (y_ev x (0, [(10, 1)])) (y_ev x (999, [])) (y_ev x (1, [(1, 1)])) (y_ev x (0, [(0, 1)])) := h.2.2.2.2.1
    (try rw [E9] at T1); (try rw [E0] at T1); (try rw [E1] at T1); (try rw [E2] at T1); (try rw [E3] at T1); (try rw [E4] at T1); (try rw [E5] at T1); (try rw [E6] at T1); (try rw [E10] at T1); (try rw [E11] at T1); (try rw [E12] at T1)
    have K := k_minA (V := v) (z := x 0) (i := x 1) (u := x 2) (m := x 3) (q := x 4) (b := x 5) (s := x 6) (o := x 7) (a1 := x 8) (a2 := x 9) (a3 := x 10) T0 T1 C0 C1 C2 F0
    refine l_outH rfl (And.intro h.1 ?_)
    have O0 : y_ev x (26, []) = 26 := l_e0 _ _
    have O1 : y_ev x (0, [(4, 1)]) = x 4 := l_e1 _ _
    have O2 : y_ev x (0, [(5, 1)]) = x 5 := l_e1 _ _
    have O3 : y_ev x (0, [(6, 1)]) = x 6 := l_e1 _ _
    have O4 : y_ev x (0, [(7, 1)]) = x 7 := l_e1 _ _
    have O5 : y_ev x (0, [(8, 1)]) = x 8 := l_e1 _ _
    have O6 : y_ev x (0, [(9, 1)]) = x 9 := l_e1 _ _
    have O7 : y_ev x (0, [(10, 1)]) = x 10 := l_e1 _ _
    have O8 : y_ev x (999, []) = 999 := l_e0 _ _
    have O9 : y_ev x (2, [(1, 1)]) = x 1 + 2 := by show ((2) : Int) + ((1) * x 1 + 0) = _; omega
    have O10 : y_ev x (0, [(0, 1)]) = x 0 := l_e1 _ _
    show (True) ∧ (q_qry v (y_ev x (26, [])) (y_ev x (0, [(4, 1)])) (y_ev x (0, [(5, 1)])) (y_ev x (0, [(6, 1)])) (y_ev x (0, [(7, 1)])) (y_ev x (0, [(8, 1)])) (y_ev x (0, [(9, 1)])) (y_ev x (0, [(10, 1)])) (y_ev x (999, [])) (y_ev x (2, [(1, 1)])) (y_ev x (0, [(0, 1)])) ∧ True)
    (try rw [O0]); (try rw [O1]); (try rw [O2]); (try rw [O3]); (try rw [O4]); (try rw [O5]); (try rw [O6]); (try rw [O7]); (try rw [O8]); (try rw [O9]); (try rw [O10])
    exact K
def lm_1042p : zS := ((lm_416pi_0 (lm_416pi_1 [])), [(25, false)], [(0, [(1, 1)]), ((-1), [(1, (-1)), (3, 1)]), ((-1), [(0, 1), (2, (-1))])], [], [(0, 0, 0, [(0, 1)]), (0, 0, 0, [(1, 1)])], [(0, (true, 0, 0, [(1, 1)]), 0, 0, 0, [(2, 1)])], [(252, [(0, [(4, 1)]), (0, [(5, 1)]), (0, [(6, 1)]), (0, [(7, 1)]), (0, [(8, 1)]), (0, [(9, 1)]), (0, [(10, 1)]), ((-2), []), (0, [(3, 1)])]), (238, [(26, []), (0, [(4, 1)]), (0, [(5, 1)]), (0, [(6, 1)]), (0, [(7, 1)]), (0, [(8, 1)]), (0, [(9, 1)]), (0, [(10, 1)]), (999, []), (1, [(1, 1)]), (0, [(0, 1)])])])
def lm_1042 : zLem := (lm_1042p, [([((-2147483648), 2147483647), ((-2147483648), 2147483647), ((-2147483648), 2147483647), ((-2147483648), 2147483647), ((-2147483648), 2147483647), ((-2147483648), 2147483647), ((-2147483648), 2147483647), ((-2147483648), 2147483647), ((-2147483648), 2147483647), ((-2147483648), 2147483647), ((-2147483648), 2147483647)], [(25, false)], [], [], [], [], [(238, [(26, []), (0, [(4, 1)]), (0, [(5, 1)]), (0, [(6, 1)]), (0, [(7, 1)]), (0, [(8, 1)]), (0, [(9, 1)]), (0, [(10, 1)]), (999, []), (2, [(1, 1)]), (0, [(2, 1)])])])])
theorem lk_1042 : l_core lm_1042 := by
  first
  | skip
    intro v x h
    have G0 := h.2.2.1
    have C0 : (0 : Int) ≤ x 1 := l_cc (a := y_ev x (0, [(1, 1)])) (l_e1 _ _) (h.2.1.1)
    have C1 : (0 : Int) ≤ x 3 - x 1 - 1 := l_cc (a := y_ev x ((-1), [(1, (-1)), (3, 1)])) (by show ((-1) : Int) + ((-1) * x 1 + ((1) * x 3 + 0)) = x 3 - x 1 - 1; omega) (h.2.1.2.1)
    have C2 : (0 : Int) ≤ x 0 - x 2 - 1 := l_cc (a := y_ev x ((-1), [(0, 1), (2, (-1))])) (by show ((-1) : Int) + ((1) * x 0 + ((-1) * x 2 + 0)) = x 0 - x 2 - 1; omega) (h.2.1.2.2.1)
    have F0 : (0 : Int) ≤ x 1 ∧ (x 1 : Int) < j_len 25 ∧ v 25 (x 1) = x 2 := l_ff (f := v 25) (L := j_len 25) (a := y_ev x (0, [(1, 1)])) (b := y_ev x (0, [(2, 1)])) (l_e1 _ _) (l_e1 _ _) (G0.1.1)
    have E11 : y_ev x (1, [(1, 1)]) = x 1 + 1 := (by show ((1) : Int) + ((1) * x 1 + 0) = x 1 + 1; omega)
    have T0 : q_mgn v (y_ev x (0, [(4, 1)])) (y_ev x (0, [(5, 1)])) (y_ev x (0, [(6, 1)])) (y_ev x (0, [(7, 1)])) (y_ev x (0, [(8, 1)])) (y_ev x (0, [(9, 1)])) (y_ev x (0, [(10, 1)])) (y_ev x ((-2), [])) (y_ev x (0, [(3, 1)])) := h.2.2.2.1
    (try simp only [l_e1, l_e0] at T0)
    have T1 : q_qry v (y_ev x (26, [])) (y_ev x (0, [(4, 1)])) (y_ev x (0, [(5, 1)])) (y_ev x (0, [(6, 1)])) (y_ev x (0, [(7, 1)])) (y_ev x (0, [(8, 1)])) (y_ev x (0, [(9, 1)])) (y_ev x (0, [(10, 1)])) (y_ev x (999, [])) (y_ev x (1, [(1, 1)])) (y_ev x (0, [(0, 1)])) := h.2.2.2.2.1
    (try rw [E11] at T1); (try simp only [l_e1, l_e0] at T1)
    have K := k_minB (V := v) (z := x 0) (i := x 1) (u := x 2) (m := x 3) (q := x 4) (b := x 5) (s := x 6) (o := x 7) (a1 := x 8) (a2 := x 9) (a3 := x 10) T0 T1 C0 C1 C2 F0
    refine l_outH rfl (And.intro h.1 ?_)
    have O9 : y_ev x (2, [(1, 1)]) = x 1 + 2 := by show ((2) : Int) + ((1) * x 1 + 0) = _; omega
    show (True) ∧ (q_qry v (y_ev x (26, [])) (y_ev x (0, [(4, 1)])) (y_ev x (0, [(5, 1)])) (y_ev x (0, [(6, 1)])) (y_ev x (0, [(7, 1)])) (y_ev x (0, [(8, 1)])) (y_ev x (0, [(9, 1)])) (y_ev x (0, [(10, 1)])) (y_ev x (999, [])) (y_ev x (2, [(1, 1)])) (y_ev x (0, [(2, 1)])) ∧ True)
    (try rw [O9]); (try simp only [l_e1, l_e0])
    exact K
  | skip
    intro v x h
    have G0 := h.2.2.1
    have C0 : (0 : Int) ≤ x 1 := l_cc (a := y_ev x (0, [(1, 1)])) (l_e1 _ _) (h.2.1.1)
    have C1 : (0 : Int) ≤ x 3 - x 1 - 1 := l_cc (a := y_ev x ((-1), [(1, (-1)), (3, 1)])) (by show ((-1) : Int) + ((-1) * x 1 + ((1) * x 3 + 0)) = x 3 - x 1 - 1; omega) (h.2.1.2.1)
    have C2 : (0 : Int) ≤ x 0 - x 2 - 1 := l_cc (a := y_ev x ((-1), [(0, 1), (2, (-1))])) (by show ((-1) : Int) + ((1) * x 0 + ((-1) * x 2 + 0)) = x 0 - x 2 - 1; omega) (h.2.1.2.2.1)
    have F0 : (0 : Int) ≤ x 1 ∧ (x 1 : Int) < j_len 25 ∧ v 25 (x 1) = x 2 := l_ff (f := v 25) (L := j_len 25) (a := y_ev x (0, [(1, 1)])) (b := y_ev x (0, [(2, 1)])) (l_e1 _ _) (l_e1 _ _) (G0.1.1)
    have E0 : y_ev x (0, [(4, 1)]) = x 4 := (l_e1 _ _)
    have E1 : y_ev x (0, [(5, 1)]) = x 5 := (l_e1 _ _)
    have E2 : y_ev x (0, [(6, 1)]) = x 6 := (l_e1 _ _)
    have E3 : y_ev x (0, [(7, 1)]) = x 7 := (l_e1 _ _)
    have E4 : y_ev x (0, [(8, 1)]) = x 8 := (l_e1 _ _)
    have E5 : y_ev x (0, [(9, 1)]) = x 9 := (l_e1 _ _)
    have E6 : y_ev x (0, [(10, 1)]) = x 10 := (l_e1 _ _)
    have E7 : y_ev x ((-2), []) = (-2) := (l_e0 _ _)
    have E8 : y_ev x (0, [(3, 1)]) = x 3 := (l_e1 _ _)
    have E9 : y_ev x (26, []) = 26 := (l_e0 _ _)
    have E10 : y_ev x (999, []) = 999 := (l_e0 _ _)
    have E11 : y_ev x (1, [(1, 1)]) = x 1 + 1 := (by show ((1) : Int) + ((1) * x 1 + 0) = x 1 + 1; omega)
    have E12 : y_ev x (0, [(0, 1)]) = x 0 := (l_e1 _ _)
    have T0 : q_mgn v (y_ev x (0, [(4, 1)])) (y_ev x (0, [(5, 1)])) (y_ev x (0, [(6, 1)])) (y_ev x (0, [(7, 1)])) (y_ev x (0, [(8, 1)])) (y_ev x (0, [(9, 1)])) (y_ev x (0, [(10, 1)])) (y_ev x ((-2), [])) (y_ev x (0, [(3, 1)])) := h.2.2.2.1
    (try rw [E0] at T0); (try rw [E1] at T0); (try rw [E2] at T0); (try rw [E3] at T0); (try rw [E4] at T0); (try rw [E5] at T0); (try rw [E6] at T0); (try rw [E7] at T0); (try rw [E8] at T0)
    have T1 : q_qry v (y_ev x (26, [])) (y_ev x (0, [(4, 1)])) (y_ev x (0, [(5, 1)])) (y_ev x (0, [(6, 1)])) (y_ev x (0, [(7, 1)])) (y_ev x (0, [(8, 1)])) (y_ev x (0, [(9, 1)])) (y_ev x (0, [(10, 1)])) (y_ev x (999, [])) (y_ev x (1, [(1, 1)])) (y_ev x (0, [(0, 1)])) := h.2.2.2.2.1
    (try rw [E9] at T1); (try rw [E0] at T1); (try rw [E1] at T1); (try rw [E2] at T1); (try rw [E3] at T1); (try rw [E4] at T1); (try rw [E5] at T1); (try rw [E6] at T1); (try rw [E10] at T1); (try rw [E11] at T1); (try rw [E12] at T1)
    have K := k_minB (V := v) (z := x 0) (i := x 1) (u := x 2) (m := x 3) (q := x 4) (b := x 5) (s := x 6) (o := x 7) (a1 := x 8) (a2 := x 9) (a3 := x 10) T0 T1 C0 C1 C2 F0
    refine l_outH rfl (And.intro h.1 ?_)
    have O0 : y_ev x (26, []) = 26 := l_e0 _ _
    have O1 : y_ev x (0, [(4, 1)]) = x 4 := l_e1 _ _
    have O2 : y_ev x (0, [(5, 1)]) = x 5 := l_e1 _ _
    have O3 : y_ev x (0, [(6, 1)]) = x 6 := l_e1 _ _
    have O4 : y_ev x (0, [(7, 1)]) = x 7 := l_e1 _ _
    have O5 : y_ev x (0, [(8, 1)]) = x 8 := l_e1 _ _
    have O6 : y_ev x (0, [(9, 1)]) = x 9 := l_e1 _ _
    have O7 : y_ev x (0, [(10, 1)]) = x 10 := l_e1 _ _
    have O8 : y_ev x (999, []) = 999 := l_e0 _ _
    have O9 : y_ev x (2, [(1, 1)]) = x 1 + 2 := by show ((2) : Int) + ((1) * x 1 + 0) = _; omega
    have O10 : y_ev x (0, [(2, 1)]) = x 2 := l_e1 _ _
    show (True) ∧ (q_qry v (y_ev x (26, [])) (y_ev x (0, [(4, 1)])) (y_ev x (0, [(5, 1)])) (y_ev x (0, [(6, 1)])) (y_ev x (0, [(7, 1)])) (y_ev x (0, [(8, 1)])) (y_ev x (0, [(9, 1)])) (y_ev x (0, [(10, 1)])) (y_ev x (999, [])) (y_ev x (2, [(1, 1)])) (y_ev x (0, [(2, 1)])) ∧ True)
    (try rw [O0]); (try rw [O1]); (try rw [O2]); (try rw [O3]); (try rw [O4]); (try rw [O5]); (try rw [O6]); (try rw [O7]); (try rw [O8]); (try rw [O9]); (try rw [O10])
    exact K
def lm_1043p : zS := ((lm_473pi_0 (lm_473pi_1 [])), [], [(0, [(1, 1), (2, (-1))]), (0, [(1, (-1)), (2, 1)]), ((-1), [(0, (-1))])], [], [(0, 0, 0, [(0, 1)]), (0, 0, 0, [(1, 1)])], [], [(252, [(0, [(3, 1)]), (0, [(4, 1)]), (0, [(5, 1)]), (0, [(6, 1)]), (0, [(7, 1)]), (0, [(8, 1)]), (0, [(9, 1)]), ((-2), []), (0, [(2, 1)])]), (238, [(26, []), (0, [(3, 1)]), (0, [(4, 1)]), (0, [(5, 1)]), (0, [(6, 1)]), (0, [(7, 1)]), (0, [(8, 1)]), (0, [(9, 1)]), (999, []), (1, [(1, 1)]), (0, [(0, 1)])])])
def lm_1043 : zLem := (lm_1043p, [([((-2147483648), 2147483647), ((-2147483648), 2147483647), ((-2147483648), 2147483647), ((-2147483648), 2147483647), ((-2147483648), 2147483647), ((-2147483648), 2147483647), ((-2147483648), 2147483647), ((-2147483648), 2147483647), ((-2147483648), 2147483647), ((-2147483648), 2147483647)], [], [], [], [], [], [(238, [(27, []), (0, [(3, 1)]), (0, [(4, 1)]), (0, [(5, 1)]), (0, [(6, 1)]), (0, [(7, 1)]), (0, [(8, 1)]), (0, [(9, 1)]), (0, []), (0, []), ((-2), [])])])])
theorem lk_1043 : l_core lm_1043 := by
  first
  | skip
    intro v x h
    have C0 : (0 : Int) ≤ x 1 - x 2 := l_cc (a := y_ev x (0, [(1, 1), (2, (-1))])) (by show ((0) : Int) + ((1) * x 1 + ((-1) * x 2 + 0)) = x 1 - x 2; omega) (h.2.1.1)
    have C1 : (0 : Int) ≤ x 2 - x 1 := l_cc (a := y_ev x (0, [(1, (-1)), (2, 1)])) (by show ((0) : Int) + ((-1) * x 1 + ((1) * x 2 + 0)) = x 2 - x 1; omega) (h.2.1.2.1)
    have C2 : (0 : Int) ≤ -x 0 - 1 := l_cc (a := y_ev x ((-1), [(0, (-1))])) (by show ((-1) : Int) + ((-1) * x 0 + 0) = -x 0 - 1; omega) (h.2.1.2.2.1)
    have E11 : y_ev x (1, [(1, 1)]) = x 1 + 1 := (by show ((1) : Int) + ((1) * x 1 + 0) = x 1 + 1; omega)
    have T0 : q_mgn v (y_ev x (0, [(3, 1)])) (y_ev x (0, [(4, 1)])) (y_ev x (0, [(5, 1)])) (y_ev x (0, [(6, 1)])) (y_ev x (0, [(7, 1)])) (y_ev x (0, [(8, 1)])) (y_ev x (0, [(9, 1)])) (y_ev x ((-2), [])) (y_ev x (0, [(2, 1)])) := h.2.2.2.1
    (try simp only [l_e1, l_e0] at T0)
    have T1 : q_qry v (y_ev x (26, [])) (y_ev x (0, [(3, 1)])) (y_ev x (0, [(4, 1)])) (y_ev x (0, [(5, 1)])) (y_ev x (0, [(6, 1)])) (y_ev x (0, [(7, 1)])) (y_ev x (0, [(8, 1)])) (y_ev x (0, [(9, 1)])) (y_ev x (999, [])) (y_ev x (1, [(1, 1)])) (y_ev x (0, [(0, 1)])) := h.2.2.2.2.1
    (try rw [E11] at T1); (try simp only [l_e1, l_e0] at T1)
    have K := k_mosN (V := v) (z := x 0) (i := x 1) (m := x 2) (q := x 3) (b := x 4) (s := x 5) (o := x 6) (a1 := x 7) (a2 := x 8) (a3 := x 9) T0 T1 C0 C1 C2
    refine l_outH rfl (And.intro h.1 ?_)
    show (True) ∧ (q_qry v (y_ev x (27, [])) (y_ev x (0, [(3, 1)])) (y_ev x (0, [(4, 1)])) (y_ev x (0, [(5, 1)])) (y_ev x (0, [(6, 1)])) (y_ev x (0, [(7, 1)])) (y_ev x (0, [(8, 1)])) (y_ev x (0, [(9, 1)])) (y_ev x (0, [])) (y_ev x (0, [])) (y_ev x ((-2), [])) ∧ True)
    (try simp only [l_e1, l_e0])
    exact K
  | skip
    intro v x h
    have C0 : (0 : Int) ≤ x 1 - x 2 := l_cc (a := y_ev x (0, [(1, 1), (2, (-1))])) (by show ((0) : Int) + ((1) * x 1 + ((-1) * x 2 + 0)) = x 1 - x 2; omega) (h.2.1.1)
    have C1 : (0 : Int) ≤ x 2 - x 1 := l_cc (a := y_ev x (0, [(1, (-1)), (2, 1)])) (by show ((0) : Int) + ((-1) * x 1 + ((1) * x 2 + 0)) = x 2 - x 1; omega) (h.2.1.2.1)
    have C2 : (0 : Int) ≤ -x 0 - 1 := l_cc (a := y_ev x ((-1), [(0, (-1))])) (by show ((-1) : Int) + ((-1) * x 0 + 0) = -x 0 - 1; omega) (h.2.1.2.2.1)
    have E0 : y_ev x (0, [(3, 1)]) = x 3 := (l_e1 _ _)
    have E1 : y_ev x (0, [(4, 1)]) = x 4 := (l_e1 _ _)
    have E2 : y_ev x (0, [(5, 1)]) = x 5 := (l_e1 _ _)
    have E3 : y_ev x (0, [(6, 1)]) = x 6 := (l_e1 _ _)
    have E4 : y_ev x (0, [(7, 1)]) = x 7 := (l_e1 _ _)
    have E5 : y_ev x (0, [(8, 1)]) = x 8 := (l_e1 _ _)
    have E6 : y_ev x (0, [(9, 1)]) = x 9 := (l_e1 _ _)
    have E7 : y_ev x ((-2), []) = (-2) := (l_e0 _ _)
    have E8 : y_ev x (0, [(2, 1)]) = x 2 := (l_e1 _ _)
    have E9 : y_ev x (26, []) = 26 := (l_e0 _ _)
    have E10 : y_ev x (999, []) = 999 := (l_e0 _ _)
    have E11 : y_ev x (1, [(1, 1)]) = x 1 + 1 := (by show ((1) : Int) + ((1) * x 1 + 0) = x 1 + 1; omega)
    have E12 : y_ev x (0, [(0, 1)]) = x 0 := (l_e1 _ _)
    have T0 : q_mgn v (y_ev x (0, [(3, 1)])) (y_ev x (0, [(4, 1)])) (y_ev x (0, [(5, 1)])) (y_ev x (0, [(6, 1)])) (y_ev x (0, [(7, 1)])) (y_ev x (0, [(8, 1)])) (y_ev x (0, [(9, 1)])) (y_ev x ((-2), [])) (y_ev x (0, [(2, 1)])) := h.2.2.2.1
    (try rw [E0] at T0); (try rw [E1] at T0); (try rw [E2] at T0); (try rw [E3] at T0); (try rw [E4] at T0); (try rw [E5] at T0); (try rw [E6] at T0); (try rw [E7] at T0); (try rw [E8] at T0)
    have T1 : q_qry v (y_ev x (26, [])) (y_ev x (0, [(3, 1)])) (y_ev x (0, [(4, 1)])) (y_ev x (0, [(5, 1)])) (y_ev x (0, [(6, 1)])) (y_ev x (0, [(7, 1)])) (y_ev x (0, [(8, 1)])) (y_ev x (0, [(9, 1)])) (y_ev x (999, [])) (y_ev x (1, [(1, 1)])) (y_ev x (0, [(0, 1)])) := h.2.2.2.2.1
    (try rw [E9] at T1); (try rw [E0] at T1); (try rw [E1] at T1); (try rw [E2] at T1); (try rw [E3] at T1); (try rw [E4] at T1); (try rw [E5] at T1); (try rw [E6] at T1); (try rw [E10] at T1); (try rw [E11] at T1); (try rw [E12] at T1)
    have K := k_mosN (V := v) (z := x 0) (i := x 1) (m := x 2) (q := x 3) (b := x 4) (s := x 5) (o := x 6) (a1 := x 7) (a2 := x 8) (a3 := x 9) T0 T1 C0 C1 C2
    refine l_outH rfl (And.intro h.1 ?_)
    have O0 : y_ev x (27, []) = 27 := l_e0 _ _
    have O1 : y_ev x (0, [(3, 1)]) = x 3 := l_e1 _ _
    have O2 : y_ev x (0, [(4, 1)]) = x 4 := l_e1 _ _
    have O3 : y_ev x (0, [(5, 1)]) = x 5 := l_e1 _ _
    have O4 : y_ev x (0, [(6, 1)]) = x 6 := l_e1 _ _
    have O5 : y_ev x (0, [(7, 1)]) = x 7 := l_e1 _ _
    have O6 : y_ev x (0, [(8, 1)]) = x 8 := l_e1 _ _
    have O7 : y_ev x (0, [(9, 1)]) = x 9 := l_e1 _ _
    have O8 : y_ev x (0, []) = 0 := l_e0 _ _
    have O9 : y_ev x ((-2), []) = (-2) := l_e0 _ _
    show (True) ∧ (q_qry v (y_ev x (27, [])) (y_ev x (0, [(3, 1)])) (y_ev x (0, [(4, 1)])) (y_ev x (0, [(5, 1)])) (y_ev x (0, [(6, 1)])) (y_ev x (0, [(7, 1)])) (y_ev x (0, [(8, 1)])) (y_ev x (0, [(9, 1)])) (y_ev x (0, [])) (y_ev x (0, [])) (y_ev x ((-2), [])) ∧ True)
    (try rw [O0]); (try rw [O1]); (try rw [O2]); (try rw [O3]); (try rw [O4]); (try rw [O5]); (try rw [O6]); (try rw [O7]); (try rw [O8]); (try rw [O9])
    exact K
def lm_1044p : zS := ((lm_473pi_0 (lm_473pi_1 [])), [], [(0, [(1, 1), (2, (-1))]), (0, [(1, (-1)), (2, 1)]), (0, [(0, 1)])], [], [(0, 0, 0, [(0, 1)]), (0, 0, 0, [(1, 1)])], [], [(252, [(0, [(3, 1)]), (0, [(4, 1)]), (0, [(5, 1)]), (0, [(6, 1)]), (0, [(7, 1)]), (0, [(8, 1)]), (0, [(9, 1)]), ((-2), []), (0, [(2, 1)])]), (238, [(26, []), (0, [(3, 1)]), (0, [(4, 1)]), (0, [(5, 1)]), (0, [(6, 1)]), (0, [(7, 1)]), (0, [(8, 1)]), (0, [(9, 1)]), (999, []), (1, [(1, 1)]), (0, [(0, 1)])])])
def lm_1044 : zLem := (lm_1044p, [([((-2147483648), 2147483647), ((-2147483648), 2147483647), ((-2147483648), 2147483647), ((-2147483648), 2147483647), ((-2147483648), 2147483647), ((-2147483648), 2147483647), ((-2147483648), 2147483647), ((-2147483648), 2147483647), ((-2147483648), 2147483647), ((-2147483648), 2147483647)], [], [], [], [], [], [(238, [(27, []), (0, [(3, 1)]), (0, [(4, 1)]), (0, [(5, 1)]), (0, [(6, 1)]), (0, [(7, 1)]), (0, [(8, 1)]), (0, [(9, 1)]), (0, []), (0, []), (0, [(0, 1)])])])])
theorem lk_1044 : l_core lm_1044 := by
  first
  | skip
    intro v x h
    have C0 : (0 : Int) ≤ x 1 - x 2 := l_cc (a := y_ev x (0, [(1, 1), (2, (-1))])) (by show ((0) : Int) + ((1) * x 1 + ((-1) * x 2 + 0)) = x 1 - x 2; omega) (h.2.1.1)
    have C1 : (0 : Int) ≤ x 2 - x 1 := l_cc (a := y_ev x (0, [(1, (-1)), (2, 1)])) (by show ((0) : Int) + ((-1) * x 1 + ((1) * x 2 + 0)) = x 2 - x 1; omega) (h.2.1.2.1)
    have C2 : (0 : Int) ≤ x 0 := l_cc (a := y_ev x (0, [(0, 1)])) (l_e1 _ _) (h.2.1.2.2.1)
    have E11 : y_ev x (1, [(1, 1)]) = x 1 + 1 := (by show ((1) : Int) + ((1) * x 1 + 0) = x 1 + 1; omega)
    have T0 : q_mgn v (y_ev x (0, [(3, 1)])) (y_ev x (0, [(4, 1)])) (y_ev x (0, [(5, 1)])) (y_ev x (0, [(6, 1)])) (y_ev x (0, [(7, 1)])) (y_ev x (0, [(8, 1)])) (y_ev x (0, [(9, 1)])) (y_ev x ((-2), [])) (y_ev x (0, [(2, 1)])) := h.2.2.2.1
    (try simp only [l_e1, l_e0] at T0)
    have T1 : q_qry v (y_ev x (26, [])) (y_ev x (0, [(3, 1)])) (y_ev x (0, [(4, 1)])) (y_ev x (0, [(5, 1)])) (y_ev x (0, [(6, 1)])) (y_ev x (0, [(7, 1)])) (y_ev x (0, [(8, 1)])) (y_ev x (0, [(9, 1)])) (y_ev x (999, [])) (y_ev x (1, [(1, 1)])) (y_ev x (0, [(0, 1)])) := h.2.2.2.2.1
    (try rw [E11] at T1); (try simp only [l_e1, l_e0] at T1)
    have K := k_mosY (V := v) (z := x 0) (i := x 1) (m := x 2) (q := x 3) (b := x 4) (s := x 5) (o := x 6) (a1 := x 7) (a2 := x 8) (a3 := x 9) T0 T1 C0 C1 C2
    refine l_outH rfl (And.intro h.1 ?_)
    show (True) ∧ (q_qry v (y_ev x (27, [])) (y_ev x (0, [(3, 1)])) (y_ev x (0, [(4, 1)])) (y_ev x (0, [(5, 1)])) (y_ev x (0, [(6, 1)])) (y_ev x (0, [(7, 1)])) (y_ev x (0, [(8, 1)])) (y_ev x (0, [(9, 1)])) (y_ev x (0, [])) (y_ev x (0, [])) (y_ev x (0, [(0, 1)])) ∧ True)
    (try simp only [l_e1, l_e0])
    exact K
  | skip
    intro v x h
    have C0 : (0 : Int) ≤ x 1 - x 2 := l_cc (a := y_ev x (0, [(1, 1), (2, (-1))])) (by show ((0) : Int) + ((1) * x 1 + ((-1) * x 2 + 0)) = x 1 - x 2; omega) (h.2.1.1)
    have C1 : (0 : Int) ≤ x 2 - x 1 := l_cc (a := y_ev x (0, [(1, (-1)), (2, 1)])) (by show ((0) : Int) + ((-1) * x 1 + ((1) * x 2 + 0)) = x 2 - x 1; omega) (h.2.1.2.1)
    have C2 : (0 : Int) ≤ x 0 := l_cc (a := y_ev x (0, [(0, 1)])) (l_e1 _ _) (h.2.1.2.2.1)
    have E0 : y_ev x (0, [(3, 1)]) = x 3 := (l_e1 _ _)
    have E1 : y_ev x (0, [(4, 1)]) = x 4 := (l_e1 _ _)
    have E2 : y_ev x (0, [(5, 1)]) = x 5 := (l_e1 _ _)
    have E3 : y_ev x (0, [(6, 1)]) = x 6 := (l_e1 _ _)
    have E4 : y_ev x (0, [(7, 1)]) = x 7 := (l_e1 _ _)
    have E5 : y_ev x (0, [(8, 1)]) = x 8 := (l_e1 _ _)
    have E6 : y_ev x (0, [(9, 1)]) = x 9 := (l_e1 _ _)
    have E7 : y_ev x ((-2), []) = (-2) := (l_e0 _ _)
    have E8 : y_ev x (0, [(2, 1)]) = x 2 := (l_e1 _ _)
    have E9 : y_ev x (26, []) = 26 := (l_e0 _ _)
    have E10 : y_ev x (999, []) = 999 := (l_e0 _ _)
    have E11 : y_ev x (1, [(1, 1)]) = x 1 + 1 := (by show ((1) : Int) + ((1) * x 1 + 0) = x 1 + 1; omega)
    have E12 : y_ev x (0, [(0, 1)]) = x 0 := (l_e1 _ _)
    have T0 : q_mgn v (y_ev x (0, [(3, 1)])) (y_ev x (0, [(4, 1)])) (y_ev x (0, [(5, 1)])) (y_ev x (0, [(6, 1)])) (y_ev x (0, [(7, 1)])) (y_ev x (0, [(8, 1)])) (y_ev x (0, [(9, 1)])) (y_ev x ((-2), [])) (y_ev x (0, [(2, 1)])) := h.2.2.2.1
    (try rw [E0] at T0); (try rw [E1] at T0); (try rw [E2] at T0); (try rw [E3] at T0); (try rw [E4] at T0); (try rw [E5] at T0); (try rw [E6] at T0); (try rw [E7] at T0); (try rw [E8] at T0)
    have T1 : q_qry v (y_ev x (26, [])) (y_ev x (0, [(3, 1)])) (y_ev x (0, [(4, 1)])) (y_ev x (0, [(5, 1)])) (y_ev x (0, [(6, 1)])) (y_ev x (0, [(7, 1)])) (y_ev x (0, [(8, 1)])) (y_ev x (0, [(9, 1)])) (y_ev x (999, [])) (y_ev x (1, [(1, 1)])) (y_ev x (0, [(0, 1)])) := h.2.2.2.2.1
    (try rw [E9] at T1); (try rw [E0] at T1); (try rw [E1] at T1); (try rw [E2] at T1); (try rw [E3] at T1); (try rw [E4] at T1); (try rw [E5] at T1); (try rw [E6] at T1); (try rw [E10] at T1); (try rw [E11] at T1); (try rw [E12] at T1)
    have K := k_mosY (V := v) (z := x 0) (i := x 1) (m := x 2) (q := x 3) (b := x 4) (s := x 5) (o := x 6) (a1 := x 7) (a2 := x 8) (a3 := x 9) T0 T1 C0 C1 C2
    refine l_outH rfl (And.intro h.1 ?_)
    have O0 : y_ev x (27, []) = 27 := l_e0 _ _
    have O1 : y_ev x (0, [(3, 1)]) = x 3 := l_e1 _ _
    have O2 : y_ev x (0, [(4, 1)]) = x 4 := l_e1 _ _
    have O3 : y_ev x (0, [(5, 1)]) = x 5 := l_e1 _ _
    have O4 : y_ev x (0, [(6, 1)]) = x 6 := l_e1 _ _
    have O5 : y_ev x (0, [(7, 1)]) = x 7 := l_e1 _ _
    have O6 : y_ev x (0, [(8, 1)]) = x 8 := l_e1 _ _
    have O7 : y_ev x (0, [(9, 1)]) = x 9 := l_e1 _ _
    have O8 : y_ev x (0, []) = 0 := l_e0 _ _
    have O9 : y_ev x (0, [(0, 1)]) = x 0 := l_e1 _ _
    show (True) ∧ (q_qry v (y_ev x (27, [])) (y_ev x (0, [(3, 1)])) (y_ev x (0, [(4, 1)])) (y_ev x (0, [(5, 1)])) (y_ev x (0, [(6, 1)])) (y_ev x (0, [(7, 1)])) (y_ev x (0, [(8, 1)])) (y_ev x (0, [(9, 1)])) (y_ev x (0, [])) (y_ev x (0, [])) (y_ev x (0, [(0, 1)])) ∧ True)
    (try rw [O0]); (try rw [O1]); (try rw [O2]); (try rw [O3]); (try rw [O4]); (try rw [O5]); (try rw [O6]); (try rw [O7]); (try rw [O8]); (try rw [O9])
    exact K
def lm_1045 : zLem := (([((-2147483648), 2147483647), ((-2147483648), 2147483647), ((-2147483648), 2147483647), ((-2147483648), 2147483647), ((-2147483648), 2147483647), ((-2147483648), 2147483647), ((-2147483648), 2147483647), ((-2147483648), 2147483647), ((-2147483648), 2147483647), ((-2147483648), 2147483647)], [], [(0, [(2, 1)]), (9999, [(0, (-1))])], [], [(0, 0, 0, [(2, 1)])], [], [(252, [(0, [(3, 1)]), (0, [(4, 1)]), (0, [(5, 1)]), (0, [(6, 1)]), (0, [(7, 1)]), (0, [(8, 1)]), (0, [(9, 1)]), ((-2), []), (0, [(1, 1)])]), (254, [(0, [(0, 1)]), (0, [(1, 1)]), (0, [(2, 1)])])]), [([((-2147483648), 2147483647), ((-2147483648), 2147483647), ((-2147483648), 2147483647), ((-2147483648), 2147483647), ((-2147483648), 2147483647), ((-2147483648), 2147483647), ((-2147483648), 2147483647), ((-2147483648), 2147483647), ((-2147483648), 2147483647), ((-2147483648), 2147483647)], [], [], [], [], [], [(260, [(3, []), (0, [(3, 1)]), (0, [(4, 1)]), (0, [(5, 1)]), (0, [(6, 1)]), (0, [(7, 1)]), (0, [(8, 1)]), (0, [(9, 1)]), (0, [(0, 1)]), (0, []), (1, [(2, 1)])])])])
theorem lk_1045 : l_core lm_1045 := by
  first
  | skip
    intro v x h
    have C0 : (0 : Int) ≤ x 2 := l_cc (a := y_ev x (0, [(2, 1)])) (l_e1 _ _) (h.2.1.1)
    have C1 : (0 : Int) ≤ 9999 - x 0 := l_cc (a := y_ev x (9999, [(0, (-1))])) (by show ((9999) : Int) + ((-1) * x 0 + 0) = 9999 - x 0; omega) (h.2.1.2.1)
    have T0 : q_mgn v (y_ev x (0, [(3, 1)])) (y_ev x (0, [(4, 1)])) (y_ev x (0, [(5, 1)])) (y_ev x (0, [(6, 1)])) (y_ev x (0, [(7, 1)])) (y_ev x (0, [(8, 1)])) (y_ev x (0, [(9, 1)])) (y_ev x ((-2), [])) (y_ev x (0, [(1, 1)])) := h.2.2.2.1
    (try simp only [l_e1, l_e0] at T0)
    have T1 : (0 ≤ (y_ev x (0, [(2, 1)])) ∧ (y_ev x (0, [(2, 1)])) < (y_ev x (0, [(1, 1)])) ∧ v 25 (y_ev x (0, [(2, 1)])) < (y_ev x (0, [(0, 1)])) ∧ ∀ t : Int, 0 ≤ t → t < (y_ev x (0, [(2, 1)])) → (y_ev x (0, [(0, 1)])) ≤ v 25 t) ∨ ((y_ev x (0, [(2, 1)])) = -1 ∧ ∀ t : Int, 0 ≤ t → t < (y_ev x (0, [(1, 1)])) → (y_ev x (0, [(0, 1)])) ≤ v 25 t) := h.2.2.2.2.1
    (try simp only [l_e1, l_e0] at T1)
    have K := k_brk1 (V := v) (w := x 0) (m := x 1) (i := x 2) (q := x 3) (b := x 4) (s := x 5) (o := x 6) (a1 := x 7) (a2 := x 8) (a3 := x 9) T0 T1 C0 C1
    refine l_outH rfl (And.intro h.1 ?_)
    have O10 : y_ev x (1, [(2, 1)]) = x 2 + 1 := by show ((1) : Int) + ((1) * x 2 + 0) = _; omega
    show (True) ∧ (q_qry v (y_ev x (3, [])) (y_ev x (0, [(3, 1)])) (y_ev x (0, [(4, 1)])) (y_ev x (0, [(5, 1)])) (y_ev x (0, [(6, 1)])) (y_ev x (0, [(7, 1)])) (y_ev x (0, [(8, 1)])) (y_ev x (0, [(9, 1)])) (y_ev x (0, [(0, 1)])) (y_ev x (0, [])) (y_ev x (1, [(2, 1)])) ∧ True)
    (try rw [O10]); (try simp only [l_e1, l_e0])
    exact K
  | skip
    intro v x h
    have C0 : (0 : Int) ≤ x 2 := l_cc (a := y_ev x (0, [(2, 1)])) (l_e1 _ _) (h.2.1.1)
    have C1 : (0 : Int) ≤ 9999 - x 0 := l_cc (a := y_ev x (9999, [(0, (-1))])) (by show ((9999) : Int) + ((-1) * x 0 + 0) = 9999 - x 0; omega) (h.2.1.2.1)
    have E0 : y_ev x (0, [(3, 1)]) = x 3 := (l_e1 _ _)
    have E1 : y_ev x (0, [(4, 1)]) = x 4 := (l_e1 _ _)
    have E2 : y_ev x (0, [(5, 1)]) = x 5 := (l_e1 _ _)
    have E3 : y_ev x (0, [(6, 1)]) = x 6 := (l_e1 _ _)
    have E4 : y_ev x (0, [(7, 1)]) = x 7 := (l_e1 _ _)
    have E5 : y_ev x (0, [(8, 1)]) = x 8 := (l_e1 _ _)
    have E6 : y_ev x (0, [(9, 1)]) = x 9 := (l_e1 _ _)
    have E7 : y_ev x ((-2), []) = (-2) := (l_e0 _ _)
    have E8 : y_ev x (0, [(1, 1)]) = x 1 := (l_e1 _ _)
    have E9 : y_ev x (0, [(0, 1)]) = x 0 := (l_e1 _ _)
    have E10 : y_ev x (0, [(2, 1)]) = x 2 := (l_e1 _ _)
    have T0 : q_mgn v (y_ev x (0, [(3, 1)])) (y_ev x (0, [(4, 1)])) (y_ev x (0, [(5, 1)])) (y_ev x (0, [(6, 1)])) (y_ev x (0, [(7, 1)])) (y_ev x (0, [(8, 1)])) (y_ev x (0, [(9, 1)])) (y_ev x ((-2), [])) (y_ev x (0, [(1, 1)])) := h.2.2.2.1
    (try rw [E0] at T0); (try rw [E1] at T0); (try rw [E2] at T0); (try rw [E3] at T0); (try rw [E4] at T0); (try rw [E5] at T0); (try rw [E6] at T0); (try rw [E7] at T0); (try rw [E8] at T0)
    have T1 : (0 ≤ (y_ev x (0, [(2, 1)])) ∧ (y_ev x (0, [(2, 1)])) < (y_ev x (0, [(1, 1)])) ∧ v 25 (y_ev x (0, [(2, 1)])) < (y_ev x (0, [(0, 1)])) ∧ ∀ t : Int, 0 ≤ t → t < (y_ev x (0, [(2, 1)])) → (y_ev x (0, [(0, 1)])) ≤ v 25 t) ∨ ((y_ev x (0, [(2, 1)])) = -1 ∧ ∀ t : Int, 0 ≤ t → t < (y_ev x (0, [(1, 1)])) → (y_ev x (0, [(0, 1)])) ≤ v 25 t) := h.2.2.2.2.1
    (try rw [E9] at T1); (try rw [E8] at T1); (try rw [E10] at T1)
    have K := k_brk1 (V := v) (w := x 0) (m := x 1) (i := x 2) (q := x 3) (b := x 4) (s := x 5) (o := x 6) (a1 := x 7) (a2 := x 8) (a3 := x 9) T0 T1 C0 C1
    refine l_outH rfl (And.intro h.1 ?_)
    have O0 : y_ev x (3, []) = 3 := l_e0 _ _
    have O1 : y_ev x (0, [(3, 1)]) = x 3 := l_e1 _ _
    have O2 : y_ev x (0, [(4, 1)]) = x 4 := l_e1 _ _
    have O3 : y_ev x (0, [(5, 1)]) = x 5 := l_e1 _ _
    have O4 : y_ev x (0, [(6, 1)]) = x 6 := l_e1 _ _
    have O5 : y_ev x (0, [(7, 1)]) = x 7 := l_e1 _ _
    have O6 : y_ev x (0, [(8, 1)]) = x 8 := l_e1 _ _
    have O7 : y_ev x (0, [(9, 1)]) = x 9 := l_e1 _ _
    have O8 : y_ev x (0, [(0, 1)]) = x 0 := l_e1 _ _
    have O9 : y_ev x (0, []) = 0 := l_e0 _ _
    have O10 : y_ev x (1, [(2, 1)]) = x 2 + 1 := by show ((1) : Int) + ((1) * x 2 + 0) = _; omega
    show (True) ∧ (q_qry v (y_ev x (3, [])) (y_ev x (0, [(3, 1)])) (y_ev x (0, [(4, 1)])) (y_ev x (0, [(5, 1)])) (y_ev x (0, [(6, 1)])) (y_ev x (0, [(7, 1)])) (y_ev x (0, [(8, 1)])) (y_ev x (0, [(9, 1)])) (y_ev x (0, [(0, 1)])) (y_ev x (0, [])) (y_ev x (1, [(2, 1)])) ∧ True)
    (try rw [O0]); (try rw [O1]); (try rw [O2]); (try rw [O3]); (try rw [O4]); (try rw [O5]); (try rw [O6]); (try rw [O7]); (try rw [O8]); (try rw [O9]); (try rw [O10])
    exact K
def lm_1046 : zLem := (([((-2147483648), 2147483647), ((-2147483648), 2147483647), ((-2147483648), 2147483647), ((-2147483648), 2147483647), ((-2147483648), 2147483647), ((-2147483648), 2147483647), ((-2147483648), 2147483647), ((-2147483648), 2147483647), ((-2147483648), 2147483647)], [], [(9999, [(0, (-1))])], [], [], [], [(252, [(0, [(2, 1)]), (0, [(3, 1)]), (0, [(4, 1)]), (0, [(5, 1)]), (0, [(6, 1)]), (0, [(7, 1)]), (0, [(8, 1)]), ((-2), []), (0, [(1, 1)])]), (254, [(0, [(0, 1)]), (0, [(1, 1)]), ((-1), [])])]), [([((-2147483648), 2147483647), ((-2147483648), 2147483647), ((-2147483648), 2147483647), ((-2147483648), 2147483647), ((-2147483648), 2147483647), ((-2147483648), 2147483647), ((-2147483648), 2147483647), ((-2147483648), 2147483647), ((-2147483648), 2147483647)], [], [], [], [], [], [(260, [(3, []), (0, [(2, 1)]), (0, [(3, 1)]), (0, [(4, 1)]), (0, [(5, 1)]), (0, [(6, 1)]), (0, [(7, 1)]), (0, [(8, 1)]), (0, [(0, 1)]), (0, []), ((-1), [])])])])
theorem lk_1046 : l_core lm_1046 := by
  first
  | skip
    intro v x h
    have C0 : (0 : Int) ≤ 9999 - x 0 := l_cc (a := y_ev x (9999, [(0, (-1))])) (by show ((9999) : Int) + ((-1) * x 0 + 0) = 9999 - x 0; omega) (h.2.1.1)
    have T0 : q_mgn v (y_ev x (0, [(2, 1)])) (y_ev x (0, [(3, 1)])) (y_ev x (0, [(4, 1)])) (y_ev x (0, [(5, 1)])) (y_ev x (0, [(6, 1)])) (y_ev x (0, [(7, 1)])) (y_ev x (0, [(8, 1)])) (y_ev x ((-2), [])) (y_ev x (0, [(1, 1)])) := h.2.2.2.1
    (try simp only [l_e1, l_e0] at T0)
    have T1 : (0 ≤ (y_ev x ((-1), [])) ∧ (y_ev x ((-1), [])) < (y_ev x (0, [(1, 1)])) ∧ v 25 (y_ev x ((-1), [])) < (y_ev x (0, [(0, 1)])) ∧ ∀ t : Int, 0 ≤ t → t < (y_ev x ((-1), [])) → (y_ev x (0, [(0, 1)])) ≤ v 25 t) ∨ ((y_ev x ((-1), [])) = -1 ∧ ∀ t : Int, 0 ≤ t → t < (y_ev x (0, [(1, 1)])) → (y_ev x (0, [(0, 1)])) ≤ v 25 t) := h.2.2.2.2.1
    (try simp only [l_e1, l_e0] at T1)
    have K := k_brk0 (V := v) (w := x 0) (m := x 1) (q := x 2) (b := x 3) (s := x 4) (o := x 5) (a1 := x 6) (a2 := x 7) (a3 := x 8) T0 T1 C0
    refine l_outH rfl (And.intro h.1 ?_)
    show (True) ∧ (q_qry v (y_ev x (3, [])) (y_ev x (0, [(2, 1)])) (y_ev x (0, [(3, 1)])) (y_ev x (0, [(4, 1)])) (y_ev x (0, [(5, 1)])) (y_ev x (0, [(6, 1)])) (y_ev x (0, [(7, 1)])) (y_ev x (0, [(8, 1)])) (y_ev x (0, [(0, 1)])) (y_ev x (0, [])) (y_ev x ((-1), [])) ∧ True)
    (try simp only [l_e1, l_e0])
    exact K
  | skip
    intro v x h
    have C0 : (0 : Int) ≤ 9999 - x 0 := l_cc (a := y_ev x (9999, [(0, (-1))])) (by show ((9999) : Int) + ((-1) * x 0 + 0) = 9999 - x 0; omega) (h.2.1.1)
    have E0 : y_ev x (0, [(2, 1)]) = x 2 := (l_e1 _ _)
    have E1 : y_ev x (0, [(3, 1)]) = x 3 := (l_e1 _ _)
    have E2 : y_ev x (0, [(4, 1)]) = x 4 := (l_e1 _ _)
    have E3 : y_ev x (0, [(5, 1)]) = x 5 := (l_e1 _ _)
    have E4 : y_ev x (0, [(6, 1)]) = x 6 := (l_e1 _ _)
    have E5 : y_ev x (0, [(7, 1)]) = x 7 := (l_e1 _ _)
    have E6 : y_ev x (0, [(8, 1)]) = x 8 := (l_e1 _ _)
    have E7 : y_ev x ((-2), []) = (-2) := (l_e0 _ _)
    have E8 : y_ev x (0, [(1, 1)]) = x 1 := (l_e1 _ _)
    have E9 : y_ev x (0, [(0, 1)]) = x 0 := (l_e1 _ _)
    have E10 : y_ev x ((-1), []) = (-1) := (l_e0 _ _)
    have T0 : q_mgn v (y_ev x (0, [(2, 1)])) (y_ev x (0, [(3, 1)])) (y_ev x (0, [(4, 1)])) (y_ev x (0, [(5, 1)])) (y_ev x (0, [(6, 1)])) (y_ev x (0, [(7, 1)])) (y_ev x (0, [(8, 1)])) (y_ev x ((-2), [])) (y_ev x (0, [(1, 1)])) := h.2.2.2.1
    (try rw [E0] at T0); (try rw [E1] at T0); (try rw [E2] at T0); (try rw [E3] at T0); (try rw [E4] at T0); (try rw [E5] at T0); (try rw [E6] at T0); (try rw [E7] at T0); (try rw [E8] at T0)
    have T1 : (0 ≤ (y_ev x ((-1), [])) ∧ (y_ev x ((-1), [])) < (y_ev x (0, [(1, 1)])) ∧ v 25 (y_ev x ((-1), [])) < (y_ev x (0, [(0, 1)])) ∧ ∀ t : Int, 0 ≤ t → t < (y_ev x ((-1), [])) → (y_ev x (0, [(0, 1)])) ≤ v 25 t) ∨ ((y_ev x ((-1), [])) = -1 ∧ ∀ t : Int, 0 ≤ t → t < (y_ev x (0, [(1, 1)])) → (y_ev x (0, [(0, 1)])) ≤ v 25 t) := h.2.2.2.2.1
    (try rw [E9] at T1); (try rw [E8] at T1); (try rw [E10] at T1)
    have K := k_brk0 (V := v) (w := x 0) (m := x 1) (q := x 2) (b := x 3) (s := x 4) (o := x 5) (a1 := x 6) (a2 := x 7) (a3 := x 8) T0 T1 C0
    refine l_outH rfl (And.intro h.1 ?_)
    have O0 : y_ev x (3, []) = 3 := l_e0 _ _
    have O1 : y_ev x (0, [(2, 1)]) = x 2 := l_e1 _ _
    have O2 : y_ev x (0, [(3, 1)]) = x 3 := l_e1 _ _
    have O3 : y_ev x (0, [(4, 1)]) = x 4 := l_e1 _ _
    have O4 : y_ev x (0, [(5, 1)]) = x 5 := l_e1 _ _
    have O5 : y_ev x (0, [(6, 1)]) = x 6 := l_e1 _ _
    have O6 : y_ev x (0, [(7, 1)]) = x 7 := l_e1 _ _
    have O7 : y_ev x (0, [(8, 1)]) = x 8 := l_e1 _ _
    have O8 : y_ev x (0, [(0, 1)]) = x 0 := l_e1 _ _
    have O9 : y_ev x (0, []) = 0 := l_e0 _ _
    have O10 : y_ev x ((-1), []) = (-1) := l_e0 _ _
    show (True) ∧ (q_qry v (y_ev x (3, [])) (y_ev x (0, [(2, 1)])) (y_ev x (0, [(3, 1)])) (y_ev x (0, [(4, 1)])) (y_ev x (0, [(5, 1)])) (y_ev x (0, [(6, 1)])) (y_ev x (0, [(7, 1)])) (y_ev x (0, [(8, 1)])) (y_ev x (0, [(0, 1)])) (y_ev x (0, [])) (y_ev x ((-1), [])) ∧ True)
    (try rw [O0]); (try rw [O1]); (try rw [O2]); (try rw [O3]); (try rw [O4]); (try rw [O5]); (try rw [O6]); (try rw [O7]); (try rw [O8]); (try rw [O9]); (try rw [O10])
    exact K
def lm_1047 : zLem := (([((-2147483648), 2147483647), ((-2147483648), 2147483647), ((-2147483648), 2147483647), ((-2147483648), 2147483647), ((-2147483648), 2147483647), ((-2147483648), 2147483647), ((-2147483648), 2147483647), ((-2147483648), 2147483647)], [], [], [], [], [], [(237, [(0, [(0, 1)]), (0, [(1, 1)]), (0, [(2, 1)]), (0, [(3, 1)]), (0, [(4, 1)]), (0, [(5, 1)]), (0, [(6, 1)]), (0, [(7, 1)])])]), [([((-2147483648), 2147483647), ((-2147483648), 2147483647), ((-2147483648), 2147483647), ((-2147483648), 2147483647), ((-2147483648), 2147483647), ((-2147483648), 2147483647), ((-2147483648), 2147483647), ((-2147483648), 2147483647)], [], [], [], [], [], [(238, [(26, []), (0, [(1, 1)]), (0, [(2, 1)]), (0, [(3, 1)]), (0, [(4, 1)]), (0, [(5, 1)]), (0, [(6, 1)]), (0, [(7, 1)]), (9999, []), (0, []), (9999, [])])])])
theorem lk_1047 : l_core lm_1047 := by
  first
  | skip
    intro v x h
    have T0 : q_rwo v (y_ev x (0, [(0, 1)])) (y_ev x (0, [(1, 1)])) (y_ev x (0, [(2, 1)])) (y_ev x (0, [(3, 1)])) (y_ev x (0, [(4, 1)])) (y_ev x (0, [(5, 1)])) (y_ev x (0, [(6, 1)])) (y_ev x (0, [(7, 1)])) := h.2.2.2.1
    (try simp only [l_e1, l_e0] at T0)
    have K := k_mim0 (V := v) (H := x 0) (q := x 1) (b := x 2) (s := x 3) (o := x 4) (a1 := x 5) (a2 := x 6) (a3 := x 7) T0
    refine l_outH rfl (And.intro h.1 ?_)
    show (True) ∧ (q_qry v (y_ev x (26, [])) (y_ev x (0, [(1, 1)])) (y_ev x (0, [(2, 1)])) (y_ev x (0, [(3, 1)])) (y_ev x (0, [(4, 1)])) (y_ev x (0, [(5, 1)])) (y_ev x (0, [(6, 1)])) (y_ev x (0, [(7, 1)])) (y_ev x (9999, [])) (y_ev x (0, [])) (y_ev x (9999, [])) ∧ True)
    (try simp only [l_e1, l_e0])
    exact K
  | skip
    intro v x h
    have E0 : y_ev x (0, [(0, 1)]) = x 0 := (l_e1 _ _)
    have E1 : y_ev x (0, [(1, 1)]) = x 1 := (l_e1 _ _)
    have E2 : y_ev x (0, [(2, 1)]) = x 2 := (l_e1 _ _)
    have E3 : y_ev x (0, [(3, 1)]) = x 3 := (l_e1 _ _)
    have E4 : y_ev x (0, [(4, 1)]) = x 4 := (l_e1 _ _)
    have E5 : y_ev x (0, [(5, 1)]) = x 5 := (l_e1 _ _)
    have E6 : y_ev x (0, [(6, 1)]) = x 6 := (l_e1 _ _)
    have E7 : y_ev x (0, [(7, 1)]) = x 7 := (l_e1 _ _)
    have T0 : q_rwo v (y_ev x (0, [(0, 1)])) (y_ev x (0, [(1, 1)])) (y_ev x (0, [(2, 1)])) (y_ev x (0, [(3, 1)])) (y_ev x (0, [(4, 1)])) (y_ev x (0, [(5, 1)])) (y_ev x (0, [(6, 1)])) (y_ev x (0, [(7, 1)])) := h.2.2.2.1
    (try rw [E0] at T0); (try rw [E1] at T0); (try rw [E2] at T0); (try rw [E3] at T0); (try rw [E4] at T0); (try rw [E5] at T0); (try rw [E6] at T0); (try rw [E7] at T0)
    have K := k_mim0 (V := v) (H := x 0) (q := x 1) (b := x 2) (s := x 3) (o := x 4) (a1 := x 5) (a2 := x 6) (a3 := x 7) T0
    refine l_outH rfl (And.intro h.1 ?_)
    have O0 : y_ev x (26, []) = 26 := l_e0 _ _
    have O1 : y_ev x (0, [(1, 1)]) = x 1 := l_e1 _ _
    have O2 : y_ev x (0, [(2, 1)]) = x 2 := l_e1 _ _
    have O3 : y_ev x (0, [(3, 1)]) = x 3 := l_e1 _ _
    have O4 : y_ev x (0, [(4, 1)]) = x 4 := l_e1 _ _
    have O5 : y_ev x (0, [(5, 1)]) = x 5 := l_e1 _ _
    have O6 : y_ev x (0, [(6, 1)]) = x 6 := l_e1 _ _
    have O7 : y_ev x (0, [(7, 1)]) = x 7 := l_e1 _ _
    have O8 : y_ev x (9999, []) = 9999 := l_e0 _ _
    have O9 : y_ev x (0, []) = 0 := l_e0 _ _
    show (True) ∧ (q_qry v (y_ev x (26, [])) (y_ev x (0, [(1, 1)])) (y_ev x (0, [(2, 1)])) (y_ev x (0, [(3, 1)])) (y_ev x (0, [(4, 1)])) (y_ev x (0, [(5, 1)])) (y_ev x (0, [(6, 1)])) (y_ev x (0, [(7, 1)])) (y_ev x (9999, [])) (y_ev x (0, [])) (y_ev x (9999, [])) ∧ True)
    (try rw [O0]); (try rw [O1]); (try rw [O2]); (try rw [O3]); (try rw [O4]); (try rw [O5]); (try rw [O6]); (try rw [O7]); (try rw [O8]); (try rw [O9])
    exact K
def lm_1048p : zS := ((lm_473pi_0 (lm_473pi_1 [])), [], [(0, [(1, 1)]), (0, [(0, (-1)), (2, 1)])], [], [(0, 0, 0, [(0, 1)]), (0, 0, 0, [(1, 1)])], [], [(238, [(2, []), (0, [(3, 1)]), (0, [(4, 1)]), (0, [(5, 1)]), (0, [(6, 1)]), (0, [(7, 1)]), (0, [(8, 1)]), (0, [(9, 1)]), (0, [(1, 1)]), (0, []), (0, [(2, 1)])]), (238, [(26, []), (0, [(3, 1)]), (0, [(4, 1)]), (0, [(5, 1)]), (0, [(6, 1)]), (0, [(7, 1)]), (0, [(8, 1)]), (0, [(9, 1)]), (9999, []), (0, [(1, 1)]), (0, [(0, 1)])])])
def lm_1048 : zLem := (lm_1048p, [([((-2147483648), 2147483647), ((-2147483648), 2147483647), ((-2147483648), 2147483647), ((-2147483648), 2147483647), ((-2147483648), 2147483647), ((-2147483648), 2147483647), ((-2147483648), 2147483647), ((-2147483648), 2147483647), ((-2147483648), 2147483647), ((-2147483648), 2147483647)], [], [], [], [], [], [(238, [(26, []), (0, [(3, 1)]), (0, [(4, 1)]), (0, [(5, 1)]), (0, [(6, 1)]), (0, [(7, 1)]), (0, [(8, 1)]), (0, [(9, 1)]), (9999, []), (1, [(1, 1)]), (0, [(0, 1)])])])])
theorem lk_1048 : l_core lm_1048 := by
  first
  | skip
    intro v x h
    have C0 : (0 : Int) ≤ x 1 := l_cc (a := y_ev x (0, [(1, 1)])) (l_e1 _ _) (h.2.1.1)
    have C1 : (0 : Int) ≤ x 2 - x 0 := l_cc (a := y_ev x (0, [(0, (-1)), (2, 1)])) (by show ((0) : Int) + ((-1) * x 0 + ((1) * x 2 + 0)) = x 2 - x 0; omega) (h.2.1.2.1)
    have T0 : q_qry v (y_ev x (2, [])) (y_ev x (0, [(3, 1)])) (y_ev x (0, [(4, 1)])) (y_ev x (0, [(5, 1)])) (y_ev x (0, [(6, 1)])) (y_ev x (0, [(7, 1)])) (y_ev x (0, [(8, 1)])) (y_ev x (0, [(9, 1)])) (y_ev x (0, [(1, 1)])) (y_ev x (0, [])) (y_ev x (0, [(2, 1)])) := h.2.2.2.1
    (try simp only [l_e1, l_e0] at T0)
    have T1 : q_qry v (y_ev x (26, [])) (y_ev x (0, [(3, 1)])) (y_ev x (0, [(4, 1)])) (y_ev x (0, [(5, 1)])) (y_ev x (0, [(6, 1)])) (y_ev x (0, [(7, 1)])) (y_ev x (0, [(8, 1)])) (y_ev x (0, [(9, 1)])) (y_ev x (9999, [])) (y_ev x (0, [(1, 1)])) (y_ev x (0, [(0, 1)])) := h.2.2.2.2.1
    (try simp only [l_e1, l_e0] at T1)
    have K := k_mimA (V := v) (z := x 0) (k := x 1) (u := x 2) (q := x 3) (b := x 4) (s := x 5) (o := x 6) (a1 := x 7) (a2 := x 8) (a3 := x 9) T0 T1 C0 C1
    refine l_outH rfl (And.intro h.1 ?_)
    have O9 : y_ev x (1, [(1, 1)]) = x 1 + 1 := by show ((1) : Int) + ((1) * x 1 + 0) = _; omega
    show (True) ∧ (q_qry v (y_ev x (26, [])) (y_ev x (0, [(3, 1)])) (y_ev x (0, [(4, 1)])) (y_ev x (0, [(5, 1)])) (y_ev x (0, [(6, 1)])) (y_ev x (0, [(7, 1)])) (y_ev x (0, [(8, 1)])) (y_ev x (0, [(9, 1)])) (y_ev x (9999, [])) (y_ev x (1, [(1, 1)])) (y_ev x (0, [(0, 1)])) ∧ True)
    (try rw [O9]); (try simp only [l_e1, l_e0])
    exact K
  | skip
    intro v x h
    have C0 : (0 : Int) ≤ x 1 := l_cc (a := y_ev x (0, [(1, 1)])) (l_e1 _ _) (h.2.1.1)
    have C1 : (0 : Int) ≤ x 2 - x 0 := l_cc (a := y_ev x (0, [(0, (-1)), (2, 1)])) (by show ((0) : Int) + ((-1) * x 0 + ((1) * x 2 + 0)) = x 2 - x 0; omega) (h.2.1.2.1)
    have E0 : y_ev x (2, []) = 2 := (l_e0 _ _)
    have E1 : y_ev x (0, [(3, 1)]) = x 3 := (l_e1 _ _)
    have E2 : y_ev x (0, [(4, 1)]) = x 4 := (l_e1 _ _)
    have E3 : y_ev x (0, [(5, 1)]) = x 5 := (l_e1 _ _)
    have E4 : y_ev x (0, [(6, 1)]) = x 6 := (l_e1 _ _)
    have E5 : y_ev x (0, [(7, 1)]) = x 7 := (l_e1 _ _)
    have E6 : y_ev x (0, [(8, 1)]) = x 8 := (l_e1 _ _)
    have E7 : y_ev x (0, [(9, 1)]) = x 9 := (l_e1 _ _)
    have E8 : y_ev x (0, [(1, 1)]) = x 1 := (l_e1 _ _)
    have E9 : y_ev x (0, []) = 0 := (l_e0 _ _)
    have E10 : y_ev x (0, [(2, 1)]) = x 2 := (l_e1 _ _)
    have E11 : y_ev x (26, []) = 26 := (l_e0 _ _)
    have E12 : y_ev x (9999, []) = 9999 := (l_e0 _ _)
    have E13 : y_ev x (0, [(0, 1)]) = x 0 := (l_e1 _ _)
    have T0 : q_qry v (y_ev x (2, [])) (y_ev x (0, [(3, 1)])) (y_ev x (0, [(4, 1)])) (y_ev x (0, [(5, 1)])) (y_ev x (0, [(6, 1)])) (y_ev x (0, [(7, 1)])) (y_ev x (0, [(8, 1)])) (y_ev x (0, [(9, 1)])) (y_ev x (0, [(1, 1)])) (y_ev x (0, [])) (y_ev x (0, [(2, 1)])) := h.2.2.2.1
    (try rw [E0] at T0); (try rw [E1] at T0); (try rw [E2] at T0); (try rw [E3] at T0); (try rw [E4] at T0); (try rw [E5] at T0); (try rw [E6] at T0); (try rw [E7] at T0); (try rw [E8] at T0); (try rw [E9] at T0); (try rw [E10] at T0)
    have T1 : q_qry v (y_ev x (26, [])) (y_ev x (0, [(3, 1)])) (y_ev x (0, [(4, 1)])) (y_ev x (0, [(5, 1)])) (y_ev x (0, [(6, 1)])) (y_ev x (0, [(7, 1)])) (y_ev x (0, [(8, 1)])) (y_ev x (0, [(9, 1)])) (y_ev x (9999, [])) (y_ev x (0, [(1, 1)])) (y_ev x (0, [(0, 1)])) := h.2.2.2.2.1
    (try rw [E11] at T1); (try rw [E1] at T1); (try rw [E2] at T1); (try rw [E3] at T1); (try rw [E4] at T1); (try rw [E5] at T1); (try rw [E6] at T1); (try rw [E7] at T1); (try rw [E12] at T1); (try rw [E8] at T1); (try rw [E13] at T1)
    have K := k_mimA (V := v) (z := x 0) (k := x 1) (u := x 2) (q := x 3) (b := x 4) (s := x 5) (o := x 6) (a1 := x 7) (a2 := x 8) (a3 := x 9) T0 T1 C0 C1
    refine l_outH rfl (And.intro h.1 ?_)
    have O0 : y_ev x (26, []) = 26 := l_e0 _ _
    have O1 : y_ev x (0, [(3, 1)]) = x 3 := l_e1 _ _
    have O2 : y_ev x (0, [(4, 1)]) = x 4 := l_e1 _ _
    have O3 : y_ev x (0, [(5, 1)]) = x 5 := l_e1 _ _
    have O4 : y_ev x (0, [(6, 1)]) = x 6 := l_e1 _ _
    have O5 : y_ev x (0, [(7, 1)]) = x 7 := l_e1 _ _
    have O6 : y_ev x (0, [(8, 1)]) = x 8 := l_e1 _ _
    have O7 : y_ev x (0, [(9, 1)]) = x 9 := l_e1 _ _
    have O8 : y_ev x (9999, []) = 9999 := l_e0 _ _
    have O9 : y_ev x (1, [(1, 1)]) = x 1 + 1 := by show ((1) : Int) + ((1) * x 1 + 0) = _; omega
    have O10 : y_ev x (0, [(0, 1)]) = x 0 := l_e1 _ _
    show (True) ∧ (q_qry v (y_ev x (26, [])) (y_ev x (0, [(3, 1)])) (y_ev x (0, [(4, 1)])) (y_ev x (0, [(5, 1)])) (y_ev x (0, [(6, 1)])) (y_ev x (0, [(7, 1)])) (y_ev x (0, [(8, 1)])) (y_ev x (0, [(9, 1)])) (y_ev x (9999, [])) (y_ev x (1, [(1, 1)])) (y_ev x (0, [(0, 1)])) ∧ True)
    (try rw [O0]); (try rw [O1]); (try rw [O2]); (try rw [O3]); (try rw [O4]); (try rw [O5]); (try rw [O6]); (try rw [O7]); (try rw [O8]); (try rw [O9]); (try rw [O10])
    exact K
def lm_1049pg_0 (t : List zTg) : List zTg := (260, [(2, []), (0, [(4, 1)]), (0, [(5, 1)]), (0, [(6, 1)]), (0, [(7, 1)]), (0, [(8, 1)]), (0, [(9, 1)]), (0, [(10, 1)]), (0, [(1, 1)]), (0, []), (0, [(2, 1)])]) :: (238, [(2, []), (0, [(4, 1)]), (0, [(5, 1)]), (0, [(6, 1)]), (0, [(7, 1)]), (0, [(8, 1)]), (0, [(9, 1)]), (0, [(10, 1)]), (0, [(1, 1)]), (0, []), (0, [(3, 1)])]) :: (238, [(26, []), (0, [(4, 1)]), (0, [(5, 1)]), (0, [(6, 1)]), (0, [(7, 1)]), (0, [(8, 1)]), (0, [(9, 1)]), (0, [(10, 1)]), (9999, []), (0, [(1, 1)]), (0, [(0, 1)])]) :: t
def lm_1049p : zS := ((lm_416pi_0 (lm_416pi_1 [])), [], [(0, [(1, 1)]), ((-1), [(0, 1), (2, (-1))])], [], [(0, 0, 0, [(0, 1)]), (0, 0, 0, [(1, 1)]), (0, 0, 0, [(3, 1)])], [], (lm_1049pg_0 []))
def lm_1049 : zLem := (lm_1049p, [([((-2147483648), 2147483647), ((-2147483648), 2147483647), ((-2147483648), 2147483647), ((-2147483648), 2147483647), ((-2147483648), 2147483647), ((-2147483648), 2147483647), ((-2147483648), 2147483647), ((-2147483648), 2147483647), ((-2147483648), 2147483647), ((-2147483648), 2147483647), ((-2147483648), 2147483647)], [], [], [], [], [], [(238, [(26, []), (0, [(4, 1)]), (0, [(5, 1)]), (0, [(6, 1)]), (0, [(7, 1)]), (0, [(8, 1)]), (0, [(9, 1)]), (0, [(10, 1)]), (9999, []), (1, [(1, 1)]), (0, [(3, 1)])])])])
theorem lk_1049 : l_core lm_1049 := by
  first
  | skip
    intro v x h
    have C0 : (0 : Int) ≤ x 1 := l_cc (a := y_ev x (0, [(1, 1)])) (l_e1 _ _) (h.2.1.1)
    have C1 : (0 : Int) ≤ x 0 - x 2 - 1 := l_cc (a := y_ev x ((-1), [(0, 1), (2, (-1))])) (by show ((-1) : Int) + ((1) * x 0 + ((-1) * x 2 + 0)) = x 0 - x 2 - 1; omega) (h.2.1.2.1)
    have T0 : q_qry v (y_ev x (2, [])) (y_ev x (0, [(4, 1)])) (y_ev x (0, [(5, 1)])) (y_ev x (0, [(6, 1)])) (y_ev x (0, [(7, 1)])) (y_ev x (0, [(8, 1)])) (y_ev x (0, [(9, 1)])) (y_ev x (0, [(10, 1)])) (y_ev x (0, [(1, 1)])) (y_ev x (0, [])) (y_ev x (0, [(2, 1)])) := h.2.2.2.1
    (try simp only [l_e1, l_e0] at T0)
    have T1 : q_qry v (y_ev x (2, [])) (y_ev x (0, [(4, 1)])) (y_ev x (0, [(5, 1)])) (y_ev x (0, [(6, 1)])) (y_ev x (0, [(7, 1)])) (y_ev x (0, [(8, 1)])) (y_ev x (0, [(9, 1)])) (y_ev x (0, [(10, 1)])) (y_ev x (0, [(1, 1)])) (y_ev x (0, [])) (y_ev x (0, [(3, 1)])) := h.2.2.2.2.1
    (try simp only [l_e1, l_e0] at T1)
    have T2 : q_qry v (y_ev x (26, [])) (y_ev x (0, [(4, 1)])) (y_ev x (0, [(5, 1)])) (y_ev x (0, [(6, 1)])) (y_ev x (0, [(7, 1)])) (y_ev x (0, [(8, 1)])) (y_ev x (0, [(9, 1)])) (y_ev x (0, [(10, 1)])) (y_ev x (9999, [])) (y_ev x (0, [(1, 1)])) (y_ev x (0, [(0, 1)])) := h.2.2.2.2.2.1
    (try simp only [l_e1, l_e0] at T2)
    have K := k_mimB (V := v) (z := x 0) (k := x 1) (u := x 2) (w := x 3) (q := x 4) (b := x 5) (s := x 6) (o := x 7) (a1 := x 8) (a2 := x 9) (a3 := x 10) T0 T1 T2 C0 C1
    refine l_outH rfl (And.intro h.1 ?_)
    have O9 : y_ev x (1, [(1, 1)]) = x 1 + 1 := by show ((1) : Int) + ((1) * x 1 + 0) = _; omega
    show (True) ∧ (q_qry v (y_ev x (26, [])) (y_ev x (0, [(4, 1)])) (y_ev x (0, [(5, 1)])) (y_ev x (0, [(6, 1)])) (y_ev x (0, [(7, 1)])) (y_ev x (0, [(8, 1)])) (y_ev x (0, [(9, 1)])) (y_ev x (0, [(10, 1)])) (y_ev x (9999, [])) (y_ev x (1, [(1, 1)])) (y_ev x (0, [(3, 1)])) ∧ True)
    (try rw [O9]); (try simp only [l_e1, l_e0])
    exact K
  | skip
    intro v x h
    have C0 : (0 : Int) ≤ x 1 := l_cc (a := y_ev x (0, [(1, 1)])) (l_e1 _ _) (h.2.1.1)
    have C1 : (0 : Int) ≤ x 0 - x 2 - 1 := l_cc (a := y_ev x ((-1), [(0, 1), (2, (-1))])) (by show ((-1) : Int) + ((1) * x 0 + ((-1) * x 2 + 0)) = x 0 - x 2 - 1; omega) (h.2.1.2.1)
    have E0 : y_ev x (2, []) = 2 := (l_e0 _ _)
    have E1 : y_ev x (0, [(4, 1)]) = x 4 := (l_e1 _ _)
    have E2 : y_ev x (0, [(5, 1)]) = x 5 := (l_e1 _ _)
    have E3 : y_ev x (0, [(6, 1)]) = x 6 := (l_e1 _ _)
    have E4 : y_ev x (0, [(7, 1)]) = x 7 := (l_e1 _ _)
    have E5 : y_ev x (0, [(8, 1)]) = x 8 := (l_e1 _ _)
    have E6 : y_ev x (0, [(9, 1)]) = x 9 := (l_e1 _ _)
    have E7 : y_ev x (0, [(10, 1)]) = x 10 := (l_e1 _ _)
    have E8 : y_ev x (0, [(1, 1)]) = x 1 := (l_e1 _ _)
    have E9 : y_ev x (0, []) = 0 := (l_e0 _ _)
    have E10 : y_ev x (0, [(2, 1)]) = x 2 := (l_e1 _ _)
    have E11 : y_ev x (0, [(3, 1)]) = x 3 := (l_e1 _ _)
    have E12 : y_ev x (26, []) = 26 := (l_e0 _ _)
    have E13 : y_ev x (9999, []) = 9999 := (l_e0 _ _)
    have E14 : y_ev x (0, [(0, 1)]) = x 0 := (l_e1 _ _)
    have T0 : q_qry v (y_ev x (2, [])) (y_ev x (0, [(4, 1)])) (y_ev x (0, [(5, 1)])) (y_ev x (0, [(6, 1)])) (y_ev x (0, [(7, 1)])) (y_ev x (0, [(8, 1)])) (y_ev x (0, [(9, 1)])) (y_ev x (0, [(10, 1)])) (y_ev x (0, [(1, 1)])) (y_ev x (0, [])) (y_ev x (0, [(2, 1)])) := h.2.2.2.1
    (try rw [E0] at T0); (try rw [E1] at T0); (try rw [E2] at T0); (try rw [E3] at T0); (try rw [E4] at T0); (try rw [E5] at T0); (try rw [E6] at T0); (try rw [E7] at T0); (try rw [E8] at T0); (try rw [E9] at T0); (try rw [E10] at T0)
    have T1 : q_qry v (y_ev x (2, [])) (y_ev x (0, [(4, 1)])) (y_ev x (0, [(5, 1)])) (y_ev x (0, [(6, 1)])) (y_ev x (0, [(7, 1)])) (y_ev x (0, [(8, 1)])) (y_ev x (0, [(9, 1)])) (y_ev x (0, [(10, 1)])) (y_ev x (0, [(1, 1)])) (y_ev x (0, [])) (y_ev x (0, [(3, 1)])) := h.2.2.2.2.1
    (try rw [E0] at T1); (try rw [E1] at T1); (try rw [E2] at T1); (try rw [E3] at T1); (try rw [E4] at T1); (try rw [E5] at T1); (try rw [E6] at T1); (try rw [E7] at T1); (try rw [E8] at T1); (try rw [E9] at T1); (try rw [E11] at T1)
    have T2 : q_qry v (y_ev x (26, [])) (y_ev x (0, [(4, 1)])) (y_ev x (0, [(5, 1)])) (y_ev x (0, [(6, 1)])) (y_ev x (0, [(7, 1)])) (y_ev x (0, [(8, 1)])) (y_ev x (0, [(9, 1)])) (y_ev x (0, [(10, 1)])) (y_ev x (9999, [])) (y_ev x (0, [(1, 1)])) (y_ev x (0, [(0, 1)])) := h.2.2.2.2.2.1
    (try rw [E12] at T2); (try rw [E1] at T2); (try rw [E2] at T2); (try rw [E3] at T2); (try rw [E4] at T2); (try rw [E5] at T2); (try rw [E6] at T2); (try rw [E7] at T2); (try rw [E13] at T2); (try rw [E8] at T2); (try rw [E14] at T2)
    have K := k_mimB (V := v) (z := x 0) (k := x 1) (u := x 2) (w := x 3) (q := x 4) (b := x 5) (s := x 6) (o := x 7) (a1 := x 8) (a2 := x 9) (a3 := x 10) T0 T1 T2 C0 C1
    refine l_outH rfl (And.intro h.1 ?_)
    have O0 : y_ev x (26, []) = 26 := l_e0 _ _
    have O1 : y_ev x (0, [(4, 1)]) = x 4 := l_e1 _ _
    have O2 : y_ev x (0, [(5, 1)]) = x 5 := l_e1 _ _
    have O3 : y_ev x (0, [(6, 1)]) = x 6 := l_e1 _ _
    have O4 : y_ev x (0, [(7, 1)]) = x 7 := l_e1 _ _
    have O5 : y_ev x (0, [(8, 1)]) = x 8 := l_e1 _ _
    have O6 : y_ev x (0, [(9, 1)]) = x 9 := l_e1 _ _
    have O7 : y_ev x (0, [(10, 1)]) = x 10 := l_e1 _ _
    have O8 : y_ev x (9999, []) = 9999 := l_e0 _ _
    have O9 : y_ev x (1, [(1, 1)]) = x 1 + 1 := by show ((1) : Int) + ((1) * x 1 + 0) = _; omega
    have O10 : y_ev x (0, [(3, 1)]) = x 3 := l_e1 _ _
    show (True) ∧ (q_qry v (y_ev x (26, [])) (y_ev x (0, [(4, 1)])) (y_ev x (0, [(5, 1)])) (y_ev x (0, [(6, 1)])) (y_ev x (0, [(7, 1)])) (y_ev x (0, [(8, 1)])) (y_ev x (0, [(9, 1)])) (y_ev x (0, [(10, 1)])) (y_ev x (9999, [])) (y_ev x (1, [(1, 1)])) (y_ev x (0, [(3, 1)])) ∧ True)
    (try rw [O0]); (try rw [O1]); (try rw [O2]); (try rw [O3]); (try rw [O4]); (try rw [O5]); (try rw [O6]); (try rw [O7]); (try rw [O8]); (try rw [O9]); (try rw [O10])
    exact K
def lm_1050p : zS := ((lm_416pi_0 (lm_416pi_1 [])), [(78, false)], [((-1), [(0, (-1))]), (0, [(1, 1)]), (0, [(1, (-2)), (10, 1)]), (0, [(1, 2), (10, (-1))])], [], [(0, 0, 0, [(0, 1)])], [(0, (true, 0, 24, []), 0, 0, 0, [(1, 1)])], [(237, [(0, [(2, 1)]), (0, [(3, 1)]), (0, [(4, 1)]), (0, [(5, 1)]), (0, [(6, 1)]), (0, [(7, 1)]), (0, [(8, 1)]), (0, [(9, 1)])]), (238, [(26, []), (0, [(3, 1)]), (0, [(4, 1)]), (0, [(5, 1)]), (0, [(6, 1)]), (0, [(7, 1)]), (0, [(8, 1)]), (0, [(9, 1)]), (9999, []), (0, [(10, 1)]), (0, [(0, 1)])])])
def lm_1050 : zLem := (lm_1050p, [([((-2147483648), 2147483647), ((-2147483648), 2147483647), ((-2147483648), 2147483647), ((-2147483648), 2147483647), ((-2147483648), 2147483647), ((-2147483648), 2147483647), ((-2147483648), 2147483647), ((-2147483648), 2147483647), ((-2147483648), 2147483647), ((-2147483648), 2147483647), ((-2147483648), 2147483647)], [(78, false)], [], [], [], [], [(238, [(27, []), (0, [(3, 1)]), (0, [(4, 1)]), (0, [(5, 1)]), (0, [(6, 1)]), (0, [(7, 1)]), (0, [(8, 1)]), (0, [(9, 1)]), (0, []), (0, []), ((-2), [])])])])
theorem lk_1050 : l_core lm_1050 := by
  first
  | skip
    intro v x h
    have G0 := h.2.2.1
    have C0 : (0 : Int) ≤ -x 0 - 1 := l_cc (a := y_ev x ((-1), [(0, (-1))])) (by show ((-1) : Int) + ((-1) * x 0 + 0) = -x 0 - 1; omega) (h.2.1.1)
    have C1 : (0 : Int) ≤ x 1 := l_cc (a := y_ev x (0, [(1, 1)])) (l_e1 _ _) (h.2.1.2.1)
    have C2 : (0 : Int) ≤ x 10 - 2 * x 1 := l_cc (a := y_ev x (0, [(1, (-2)), (10, 1)])) (by show ((0) : Int) + ((-2) * x 1 + ((1) * x 10 + 0)) = x 10 - 2 * x 1; omega) (h.2.1.2.2.1)
    have C3 : (0 : Int) ≤ 2 * x 1 - x 10 := l_cc (a := y_ev x (0, [(1, 2), (10, (-1))])) (by show ((0) : Int) + ((2) * x 1 + ((-1) * x 10 + 0)) = 2 * x 1 - x 10; omega) (h.2.1.2.2.2.1)
    have F0 : (0 : Int) ≤ 24 ∧ (24 : Int) < j_len 78 ∧ v 78 (24) = x 1 := l_ff (f := v 78) (L := j_len 78) (a := y_ev x (24, [])) (b := y_ev x (0, [(1, 1)])) (l_e0 _ _) (l_e1 _ _) (G0.1.1)
    have T0 : q_rwo v (y_ev x (0, [(2, 1)])) (y_ev x (0, [(3, 1)])) (y_ev x (0, [(4, 1)])) (y_ev x (0, [(5, 1)])) (y_ev x (0, [(6, 1)])) (y_ev x (0, [(7, 1)])) (y_ev x (0, [(8, 1)])) (y_ev x (0, [(9, 1)])) := h.2.2.2.1
    (try simp only [l_e1, l_e0] at T0)
    have T1 : q_qry v (y_ev x (26, [])) (y_ev x (0, [(3, 1)])) (y_ev x (0, [(4, 1)])) (y_ev x (0, [(5, 1)])) (y_ev x (0, [(6, 1)])) (y_ev x (0, [(7, 1)])) (y_ev x (0, [(8, 1)])) (y_ev x (0, [(9, 1)])) (y_ev x (9999, [])) (y_ev x (0, [(10, 1)])) (y_ev x (0, [(0, 1)])) := h.2.2.2.2.1
    (try simp only [l_e1, l_e0] at T1)
    have K := k_mmoN (V := v) (z := x 0) (p := x 1) (H := x 2) (q := x 3) (b := x 4) (s := x 5) (o := x 6) (a1 := x 7) (a2 := x 8) (a3 := x 9) (n := x 10) T0 T1 C0 C1 C2 C3 F0
    refine l_outH rfl (And.intro h.1 ?_)
    show (True) ∧ (q_qry v (y_ev x (27, [])) (y_ev x (0, [(3, 1)])) (y_ev x (0, [(4, 1)])) (y_ev x (0, [(5, 1)])) (y_ev x (0, [(6, 1)])) (y_ev x (0, [(7, 1)])) (y_ev x (0, [(8, 1)])) (y_ev x (0, [(9, 1)])) (y_ev x (0, [])) (y_ev x (0, [])) (y_ev x ((-2), [])) ∧ True)
    (try simp only [l_e1, l_e0])
    exact K
  | skip
    intro v x h
    have G0 := h.2.2.1
    have C0 : (0 : Int) ≤ -x 0 - 1 := l_cc (a := y_ev x ((-1), [(0, (-1))])) (by show ((-1) : Int) + ((-1) * x 0 + 0) = -x 0 - 1; omega) (h.2.1.1)
    have C1 : (0 : Int) ≤ x 1 := l_cc (a := y_ev x (0, [(1, 1)])) (l_e1 _ _) (h.2.1.2.1)
    have C2 : (0 : Int) ≤ x 10 - 2 * x 1 := l_cc (a := y_ev x (0, [(1, (-2)), (10, 1)])) (by show ((0) : Int) + ((-2) * x 1 + ((1) * x 10 + 0)) = x 10 - 2 * x 1; omega) (h.2.1.2.2.1)
    have C3 : (0 : Int) ≤ 2 * x 1 - x 10 := l_cc (a := y_ev x (0, [(1, 2), (10, (-1))])) (by show ((0) : Int) + ((2) * x 1 + ((-1) * x 10 + 0)) = 2 * x 1 - x 10; omega) (h.2.1.2.2.2.1)
    have F0 : (0 : Int) ≤ 24 ∧ (24 : Int) < j_len 78 ∧ v 78 (24) = x 1 := l_ff (f := v 78) (L := j_len 78) (a := y_ev x (24, [])) (b := y_ev x (0, [(1, 1)])) (l_e0 _ _) (l_e1 _ _) (G0.1.1)
    have E0 : y_ev x (0, [(2, 1)]) = x 2 := (l_e1 _ _)
    have E1 : y_ev x (0, [(3, 1)]) = x 3 := (l_e1 _ _)
    have E2 : y_ev x (0, [(4, 1)]) = x 4 := (l_e1 _ _)
    have E3 : y_ev x (0, [(5, 1)]) = x 5 := (l_e1 _ _)
    have E4 : y_ev x (0, [(6, 1)]) = x 6 := (l_e1 _ _)
    have E5 : y_ev x (0, [(7, 1)]) = x 7 := (l_e1 _ _)
    have E6 : y_ev x (0, [(8, 1)]) = x 8 := (l_e1 _ _)
    have E7 : y_ev x (0, [(9, 1)]) = x 9 := (l_e1 _ _)
    have E8 : y_ev x (26, []) = 26 := (l_e0 _ _)
    have E9 : y_ev x (9999, []) = 9999 := (l_e0 _ _)
    have E10 : y_ev x (0, [(10, 1)]) = x 10 := (l_e1 _ _)
    have E11 : y_ev x (0, [(0, 1)]) = x 0 := (l_e1 _ _)
    have T0 : q_rwo v (y_ev x (0, [(2, 1)])) (y_ev x (0, [(3, 1)])) (y_ev x (0, [(4, 1)])) (y_ev x (0, [(5, 1)])) (y_ev x (0, [(6, 1)])) (y_ev x (0, [(7, 1)])) (y_ev x (0, [(8, 1)])) (y_ev x (0, [(9, 1)])) := h.2.2.2.1
    (try rw [E0] at T0); (try rw [E1] at T0); (try rw [E2] at T0); (try rw [E3] at T0); (try rw [E4] at T0); (try rw [E5] at T0); (try rw [E6] at T0); (try rw [E7] at T0)
    have T1 : q_qry v (y_ev x (26, [])) (y_ev x (0, [(3, 1)])) (y_ev x (0, [(4, 1)])) (y_ev x (0, [(5, 1)])) (y_ev x (0, [(6, 1)])) (y_ev x (0, [(7, 1)])) (y_ev x (0, [(8, 1)])) (y_ev x (0, [(9, 1)])) (y_ev x (9999, [])) (y_ev x (0, [(10, 1)])) (y_ev x (0, [(0, 1)])) := h.2.2.2.2.1
    (try rw [E8] at T1); (try rw [E1] at T1); (try rw [E2] at T1); (try rw [E3] at T1); (try rw [E4] at T1); (try rw [E5] at T1); (try rw [E6] at T1); (try rw [E7] at T1); (try rw [E9] at T1); (try rw [E10] at T1); (try rw [E11] at T1)
    have K := k_mmoN (V := v) (z := x 0) (p := x 1) (H := x 2) (q := x 3) (b := x 4) (s := x 5) (o := x 6) (a1 := x 7) (a2 := x 8) (a3 := x 9) (n := x 10) T0 T1 C0 C1 C2 C3 F0
    refine l_outH rfl (And.intro h.1 ?_)
    have O0 : y_ev x (27, []) = 27 := l_e0 _ _
    have O1 : y_ev x (0, [(3, 1)]) = x 3 := l_e1 _ _
    have O2 : y_ev x (0, [(4, 1)]) = x 4 := l_e1 _ _
    have O3 : y_ev x (0, [(5, 1)]) = x 5 := l_e1 _ _
    have O4 : y_ev x (0, [(6, 1)]) = x 6 := l_e1 _ _
    have O5 : y_ev x (0, [(7, 1)]) = x 7 := l_e1 _ _
    have O6 : y_ev x (0, [(8, 1)]) = x 8 := l_e1 _ _
    have O7 : y_ev x (0, [(9, 1)]) = x 9 := l_e1 _ _
    have O8 : y_ev x (0, []) = 0 := l_e0 _ _
    have O9 : y_ev x ((-2), []) = (-2) := l_e0 _ _
    show (True) ∧ (q_qry v (y_ev x (27, [])) (y_ev x (0, [(3, 1)])) (y_ev x (0, [(4, 1)])) (y_ev x (0, [(5, 1)])) (y_ev x (0, [(6, 1)])) (y_ev x (0, [(7, 1)])) (y_ev x (0, [(8, 1)])) (y_ev x (0, [(9, 1)])) (y_ev x (0, [])) (y_ev x (0, [])) (y_ev x ((-2), [])) ∧ True)
    (try rw [O0]); (try rw [O1]); (try rw [O2]); (try rw [O3]); (try rw [O4]); (try rw [O5]); (try rw [O6]); (try rw [O7]); (try rw [O8]); (try rw [O9])
    exact K
def lm_1051p : zS := ((lm_416pi_0 (lm_416pi_1 [])), [(78, false)], [(0, [(0, 1)]), (999, [(0, (-1))]), (0, [(1, 1)]), (0, [(1, (-2)), (10, 1)]), (0, [(1, 2), (10, (-1))])], [], [(0, 0, 0, [(0, 1)])], [(0, (true, 0, 24, []), 0, 0, 0, [(1, 1)])], [(237, [(0, [(2, 1)]), (0, [(3, 1)]), (0, [(4, 1)]), (0, [(5, 1)]), (0, [(6, 1)]), (0, [(7, 1)]), (0, [(8, 1)]), (0, [(9, 1)])]), (238, [(26, []), (0, [(3, 1)]), (0, [(4, 1)]), (0, [(5, 1)]), (0, [(6, 1)]), (0, [(7, 1)]), (0, [(8, 1)]), (0, [(9, 1)]), (9999, []), (0, [(10, 1)]), (0, [(0, 1)])])])
def lm_1051 : zLem := (lm_1051p, [([((-2147483648), 2147483647), ((-2147483648), 2147483647), ((-2147483648), 2147483647), ((-2147483648), 2147483647), ((-2147483648), 2147483647), ((-2147483648), 2147483647), ((-2147483648), 2147483647), ((-2147483648), 2147483647), ((-2147483648), 2147483647), ((-2147483648), 2147483647), ((-2147483648), 2147483647)], [(78, false)], [], [], [], [], [(238, [(27, []), (0, [(3, 1)]), (0, [(4, 1)]), (0, [(5, 1)]), (0, [(6, 1)]), (0, [(7, 1)]), (0, [(8, 1)]), (0, [(9, 1)]), (0, []), (0, []), (0, [(0, 1)])])])])
theorem lk_1051 : l_core lm_1051 := by
  first
  | skip
    intro v x h
    have G0 := h.2.2.1
    have C0 : (0 : Int) ≤ x 0 := l_cc (a := y_ev x (0, [(0, 1)])) (l_e1 _ _) (h.2.1.1)
    have C1 : (0 : Int) ≤ 999 - x 0 := l_cc (a := y_ev x (999, [(0, (-1))])) (by show ((999) : Int) + ((-1) * x 0 + 0) = 999 - x 0; omega) (h.2.1.2.1)
    have C2 : (0 : Int) ≤ x 1 := l_cc (a := y_ev x (0, [(1, 1)])) (l_e1 _ _) (h.2.1.2.2.1)
    have C3 : (0 : Int) ≤ x 10 - 2 * x 1 := l_cc (a := y_ev x (0, [(1, (-2)), (10, 1)])) (by show ((0) : Int) + ((-2) * x 1 + ((1) * x 10 + 0)) = x 10 - 2 * x 1; omega) (h.2.1.2.2.2.1)
    have C4 : (0 : Int) ≤ 2 * x 1 - x 10 := l_cc (a := y_ev x (0, [(1, 2), (10, (-1))])) (by show ((0) : Int) + ((2) * x 1 + ((-1) * x 10 + 0)) = 2 * x 1 - x 10; omega) (h.2.1.2.2.2.2.1)
    have F0 : (0 : Int) ≤ 24 ∧ (24 : Int) < j_len 78 ∧ v 78 (24) = x 1 := l_ff (f := v 78) (L := j_len 78) (a := y_ev x (24, [])) (b := y_ev x (0, [(1, 1)])) (l_e0 _ _) (l_e1 _ _) (G0.1.1)
    have T0 : q_rwo v (y_ev x (0, [(2, 1)])) (y_ev x (0, [(3, 1)])) (y_ev x (0, [(4, 1)])) (y_ev x (0, [(5, 1)])) (y_ev x (0, [(6, 1)])) (y_ev x (0, [(7, 1)])) (y_ev x (0, [(8, 1)])) (y_ev x (0, [(9, 1)])) := h.2.2.2.1
    (try simp only [l_e1, l_e0] at T0)
    have T1 : q_qry v (y_ev x (26, [])) (y_ev x (0, [(3, 1)])) (y_ev x (0, [(4, 1)])) (y_ev x (0, [(5, 1)])) (y_ev x (0, [(6, 1)])) (y_ev x (0, [(7, 1)])) (y_ev x (0, [(8, 1)])) (y_ev x (0, [(9, 1)])) (y_ev x (9999, [])) (y_ev x (0, [(10, 1)])) (y_ev x (0, [(0, 1)])) := h.2.2.2.2.1
    (try simp only [l_e1, l_e0] at T1)
    have K := k_mmoY (V := v) (z := x 0) (p := x 1) (H := x 2) (q := x 3) (b := x 4) (s := x 5) (o := x 6) (a1 := x 7) (a2 := x 8) (a3 := x 9) (n := x 10) T0 T1 C0 C1 C2 C3 C4 F0
    refine l_outH rfl (And.intro h.1 ?_)
    show (True) ∧ (q_qry v (y_ev x (27, [])) (y_ev x (0, [(3, 1)])) (y_ev x (0, [(4, 1)])) (y_ev x (0, [(5, 1)])) (y_ev x (0, [(6, 1)])) (y_ev x (0, [(7, 1)])) (y_ev x (0, [(8, 1)])) (y_ev x (0, [(9, 1)])) (y_ev x (0, [])) (y_ev x (0, [])) (y_ev x (0, [(0, 1)])) ∧ True)
    (try simp only [l_e1, l_e0])
    exact K
  | skip
    intro v x h
    have G0 := h.2.2.1
    have C0 : (0 : Int) ≤ x 0 := l_cc (a := y_ev x (0, [(0, 1)])) (l_e1 _ _) (h.2.1.1)
    have C1 : (0 : Int) ≤ 999 - x 0 := l_cc (a := y_ev x (999, [(0, (-1))])) (by show ((999) : Int) + ((-1) * x 0 + 0) = 999 - x 0; omega) (h.2.1.2.1)
    have C2 : (0 : Int) ≤ x 1 := l_cc (a := y_ev x (0, [(1, 1)])) (l_e1 _ _) (h.2.1.2.2.1)
    have C3 : (0 : Int) ≤ x 10 - 2 * x 1 := l_cc (a := y_ev x (0, [(1, (-2)), (10, 1)])) (by show ((0) : Int) + ((-2) * x 1 + ((1) * x 10 + 0)) = x 10 - 2 * x 1; omega) (h.2.1.2.2.2.1)
    have C4 : (0 : Int) ≤ 2 * x 1 - x 10 := l_cc (a := y_ev x (0, [(1, 2), (10, (-1))])) (by show ((0) : Int) + ((2) * x 1 + ((-1) * x 10 + 0)) = 2 * x 1 - x 10; omega) (h.2.1.2.2.2.2.1)
    have F0 : (0 : Int) ≤ 24 ∧ (24 : Int) < j_len 78 ∧ v 78 (24) = x 1 := l_ff (f := v 78) (L := j_len 78) (a := y_ev x (24, [])) (b := y_ev x (0, [(1, 1)])) (l_e0 _ _) (l_e1 _ _) (G0.1.1)
    have E0 : y_ev x (0, [(2, 1)]) = x 2 := (l_e1 _ _)
    have E1 : y_ev x (0, [(3, 1)]) = x 3 := (l_e1 _ _)
    have E2 : y_ev x (0, [(4, 1)]) = x 4 := (l_e1 _ _)
    have E3 : y_ev x (0, [(5, 1)]) = x 5 := (l_e1 _ _)
    have E4 : y_ev x (0, [(6, 1)]) = x 6 := (l_e1 _ _)
    have E5 : y_ev x (0, [(7, 1)]) = x 7 := (l_e1 _ _)
    have E6 : y_ev x (0, [(8, 1)]) = x 8 := (l_e1 _ _)
    have E7 : y_ev x (0, [(9, 1)]) = x 9 := (l_e1 _ _)
    have E8 : y_ev x (26, []) = 26 := (l_e0 _ _)
    have E9 : y_ev x (9999, []) = 9999 := (l_e0 _ _)
    have E10 : y_ev x (0, [(10, 1)]) = x 10 := (l_e1 _ _)
    have E11 : y_ev x (0, [(0, 1)]) = x 0 := (l_e1 _ _)
    have T0 : q_rwo v (y_ev x (0, [(2, 1)])) (y_ev x (0, [(3, 1)])) (y_ev x (0, [(4, 1)])) (y_ev x (0, [(5, 1)])) (y_ev x (0, [(6, 1)])) (y_ev x (0, [(7, 1)])) (y_ev x (0, [(8, 1)])) (y_ev x (0, [(9, 1)])) := h.2.2.2.1
    (try rw [E0] at T0); (try rw [E1] at T0); (try rw [E2] at T0); (try rw [E3] at T0); (try rw [E4] at T0); (try rw [E5] at T0); (try rw [E6] at T0); (try rw [E7] at T0)
    have T1 : q_qry v (y_ev x (26, [])) (y_ev x (0, [(3, 1)])) (y_ev x (0, [(4, 1)])) (y_ev x (0, [(5, 1)])) (y_ev x (0, [(6, 1)])) (y_ev x (0, [(7, 1)])) (y_ev x (0, [(8, 1)])) (y_ev x (0, [(9, 1)])) (y_ev x (9999, [])) (y_ev x (0, [(10, 1)])) (y_ev x (0, [(0, 1)])) := h.2.2.2.2.1
    (try rw [E8] at T1); (try rw [E1] at T1); (try rw [E2] at T1); (try rw [E3] at T1); (try rw [E4] at T1); (try rw [E5] at T1); (try rw [E6] at T1); (try rw [E7] at T1); (try rw [E9] at T1); (try rw [E10] at T1); (try rw [E11] at T1)
    have K := k_mmoY (V := v) (z := x 0) (p := x 1) (H := x 2) (q := x 3) (b := x 4) (s := x 5) (o := x 6) (a1 := x 7) (a2 := x 8) (a3 := x 9) (n := x 10) T0 T1 C0 C1 C2 C3 C4 F0
    refine l_outH rfl (And.intro h.1 ?_)
    have O0 : y_ev x (27, []) = 27 := l_e0 _ _
    have O1 : y_ev x (0, [(3, 1)]) = x 3 := l_e1 _ _
    have O2 : y_ev x (0, [(4, 1)]) = x 4 := l_e1 _ _
    have O3 : y_ev x (0, [(5, 1)]) = x 5 := l_e1 _ _
    have O4 : y_ev x (0, [(6, 1)]) = x 6 := l_e1 _ _
    have O5 : y_ev x (0, [(7, 1)]) = x 7 := l_e1 _ _
    have O6 : y_ev x (0, [(8, 1)]) = x 8 := l_e1 _ _
    have O7 : y_ev x (0, [(9, 1)]) = x 9 := l_e1 _ _
    have O8 : y_ev x (0, []) = 0 := l_e0 _ _
    have O9 : y_ev x (0, [(0, 1)]) = x 0 := l_e1 _ _
    show (True) ∧ (q_qry v (y_ev x (27, [])) (y_ev x (0, [(3, 1)])) (y_ev x (0, [(4, 1)])) (y_ev x (0, [(5, 1)])) (y_ev x (0, [(6, 1)])) (y_ev x (0, [(7, 1)])) (y_ev x (0, [(8, 1)])) (y_ev x (0, [(9, 1)])) (y_ev x (0, [])) (y_ev x (0, [])) (y_ev x (0, [(0, 1)])) ∧ True)
    (try rw [O0]); (try rw [O1]); (try rw [O2]); (try rw [O3]); (try rw [O4]); (try rw [O5]); (try rw [O6]); (try rw [O7]); (try rw [O8]); (try rw [O9])
    exact K
def lm_1052p : zS := ((lm_416pi_0 (lm_416pi_1 [])), [(78, false)], [((-1000), [(0, 1)]), (0, [(1, 1)]), (0, [(1, (-2)), (10, 1)]), (0, [(1, 2), (10, (-1))])], [], [(0, 0, 0, [(0, 1)])], [(0, (true, 0, 24, []), 0, 0, 0, [(1, 1)])], [(237, [(0, [(2, 1)]), (0, [(3, 1)]), (0, [(4, 1)]), (0, [(5, 1)]), (0, [(6, 1)]), (0, [(7, 1)]), (0, [(8, 1)]), (0, [(9, 1)])]), (238, [(26, []), (0, [(3, 1)]), (0, [(4, 1)]), (0, [(5, 1)]), (0, [(6, 1)]), (0, [(7, 1)]), (0, [(8, 1)]), (0, [(9, 1)]), (9999, []), (0, [(10, 1)]), (0, [(0, 1)])])])
def lm_1052 : zLem := (lm_1052p, [([((-2147483648), 2147483647), ((-2147483648), 2147483647), ((-2147483648), 2147483647), ((-2147483648), 2147483647), ((-2147483648), 2147483647), ((-2147483648), 2147483647), ((-2147483648), 2147483647), ((-2147483648), 2147483647), ((-2147483648), 2147483647), ((-2147483648), 2147483647), ((-2147483648), 2147483647)], [(78, false)], [], [], [], [], [(238, [(27, []), (0, [(3, 1)]), (0, [(4, 1)]), (0, [(5, 1)]), (0, [(6, 1)]), (0, [(7, 1)]), (0, [(8, 1)]), (0, [(9, 1)]), (0, []), (0, []), (999, [])])])])
theorem lk_1052 : l_core lm_1052 := by
  first
  | skip
    intro v x h
    have G0 := h.2.2.1
    have C0 : (0 : Int) ≤ x 0 - 1000 := l_cc (a := y_ev x ((-1000), [(0, 1)])) (by show ((-1000) : Int) + ((1) * x 0 + 0) = x 0 - 1000; omega) (h.2.1.1)
    have C1 : (0 : Int) ≤ x 1 := l_cc (a := y_ev x (0, [(1, 1)])) (l_e1 _ _) (h.2.1.2.1)
    have C2 : (0 : Int) ≤ x 10 - 2 * x 1 := l_cc (a := y_ev x (0, [(1, (-2)), (10, 1)])) (by show ((0) : Int) + ((-2) * x 1 + ((1) * x 10 + 0)) = x 10 - 2 * x 1; omega) (h.2.1.2.2.1)
    have C3 : (0 : Int) ≤ 2 * x 1 - x 10 := l_cc (a := y_ev x (0, [(1, 2), (10, (-1))])) (by show ((0) : Int) + ((2) * x 1 + ((-1) * x 10 + 0)) = 2 * x 1 - x 10; omega) (h.2.1.2.2.2.1)
    have F0 : (0 : Int) ≤ 24 ∧ (24 : Int) < j_len 78 ∧ v 78 (24) = x 1 := l_ff (f := v 78) (L := j_len 78) (a := y_ev x (24, [])) (b := y_ev x (0, [(1, 1)])) (l_e0 _ _) (l_e1 _ _) (G0.1.1)
    have T0 : q_rwo v (y_ev x (0, [(2, 1)])) (y_ev x (0, [(3, 1)])) (y_ev x (0, [(4, 1)])) (y_ev x (0, [(5, 1)])) (y_ev x (0, [(6, 1)])) (y_ev x (0, [(7, 1)])) (y_ev x (0, [(8, 1)])) (y_ev x (0, [(9, 1)])) := h.2.2.2.1
    (try simp only [l_e1, l_e0] at T0)
    have T1 : q_qry v (y_ev x (26, [])) (y_ev x (0, [(3, 1)])) (y_ev x (0, [(4, 1)])) (y_ev x (0, [(5, 1)])) (y_ev x (0, [(6, 1)])) (y_ev x (0, [(7, 1)])) (y_ev x (0, [(8, 1)])) (y_ev x (0, [(9, 1)])) (y_ev x (9999, [])) (y_ev x (0, [(10, 1)])) (y_ev x (0, [(0, 1)])) := h.2.2.2.2.1
    (try simp only [l_e1, l_e0] at T1)
    have K := k_mmo9 (V := v) (z := x 0) (p := x 1) (H := x 2) (q := x 3) (b := x 4) (s := x 5) (o := x 6) (a1 := x 7) (a2 := x 8) (a3 := x 9) (n := x 10) T0 T1 C0 C1 C2 C3 F0
    refine l_outH rfl (And.intro h.1 ?_)
    show (True) ∧ (q_qry v (y_ev x (27, [])) (y_ev x (0, [(3, 1)])) (y_ev x (0, [(4, 1)])) (y_ev x (0, [(5, 1)])) (y_ev x (0, [(6, 1)])) (y_ev x (0, [(7, 1)])) (y_ev x (0, [(8, 1)])) (y_ev x (0, [(9, 1)])) (y_ev x (0, [])) (y_ev x (0, [])) (y_ev x (999, [])) ∧ True)
    (try simp only [l_e1, l_e0])
    exact K
  | skip
    intro v x h
    have G0 := h.2.2.1
    have C0 : (0 : Int) ≤ x 0 - 1000 := l_cc (a := y_ev x ((-1000), [(0, 1)])) (by show ((-1000) : Int) + ((1) * x 0 + 0) = x 0 - 1000; omega) (h.2.1.1)
    have C1 : (0 : Int) ≤ x 1 := l_cc (a := y_ev x (0, [(1, 1)])) (l_e1 _ _) (h.2.1.2.1)
    have C2 : (0 : Int) ≤ x 10 - 2 * x 1 := l_cc (a := y_ev x (0, [(1, (-2)), (10, 1)])) (by show ((0) : Int) + ((-2) * x 1 + ((1) * x 10 + 0)) = x 10 - 2 * x 1; omega) (h.2.1.2.2.1)
    have C3 : (0 : Int) ≤ 2 * x 1 - x 10 := l_cc (a := y_ev x (0, [(1, 2), (10, (-1))])) (by show ((0) : Int) + ((2) * x 1 + ((-1) * x 10 + 0)) = 2 * x 1 - x 10; omega) (h.2.1.2.2.2.1)
    have F0 : (0 : Int) ≤ 24 ∧ (24 : Int) < j_len 78 ∧ v 78 (24) = x 1 := l_ff (f := v 78) (L := j_len 78) (a := y_ev x (24, [])) (b := y_ev x (0, [(1, 1)])) (l_e0 _ _) (l_e1 _ _) (G0.1.1)
    have E0 : y_ev x (0, [(2, 1)]) = x 2 := (l_e1 _ _)
    have E1 : y_ev x (0, [(3, 1)]) = x 3 := (l_e1 _ _)
    have E2 : y_ev x (0, [(4, 1)]) = x 4 := (l_e1 _ _)
    have E3 : y_ev x (0, [(5, 1)]) = x 5 := (l_e1 _ _)
    have E4 : y_ev x (0, [(6, 1)]) = x 6 := (l_e1 _ _)
    have E5 : y_ev x (0, [(7, 1)]) = x 7 := (l_e1 _ _)
    have E6 : y_ev x (0, [(8, 1)]) = x 8 := (l_e1 _ _)
    have E7 : y_ev x (0, [(9, 1)]) = x 9 := (l_e1 _ _)
    have E8 : y_ev x (26, []) = 26 := (l_e0 _ _)
    have E9 : y_ev x (9999, []) = 9999 := (l_e0 _ _)
    have E10 : y_ev x (0, [(10, 1)]) = x 10 := (l_e1 _ _)
    have E11 : y_ev x (0, [(0, 1)]) = x 0 := (l_e1 _ _)
    have T0 : q_rwo v (y_ev x (0, [(2, 1)])) (y_ev x (0, [(3, 1)])) (y_ev x (0, [(4, 1)])) (y_ev x (0, [(5, 1)])) (y_ev x (0, [(6, 1)])) (y_ev x (0, [(7, 1)])) (y_ev x (0, [(8, 1)])) (y_ev x (0, [(9, 1)])) := h.2.2.2.1
    (try rw [E0] at T0); (try rw [E1] at T0); (try rw [E2] at T0); (try rw [E3] at T0); (try rw [E4] at T0); (try rw [E5] at T0); (try rw [E6] at T0); (try rw [E7] at T0)
    have T1 : q_qry v (y_ev x (26, [])) (y_ev x (0, [(3, 1)])) (y_ev x (0, [(4, 1)])) (y_ev x (0, [(5, 1)])) (y_ev x (0, [(6, 1)])) (y_ev x (0, [(7, 1)])) (y_ev x (0, [(8, 1)])) (y_ev x (0, [(9, 1)])) (y_ev x (9999, [])) (y_ev x (0, [(10, 1)])) (y_ev x (0, [(0, 1)])) := h.2.2.2.2.1
    (try rw [E8] at T1); (try rw [E1] at T1); (try rw [E2] at T1); (try rw [E3] at T1); (try rw [E4] at T1); (try rw [E5] at T1); (try rw [E6] at T1); (try rw [E7] at T1); (try rw [E9] at T1); (try rw [E10] at T1); (try rw [E11] at T1)
    have K := k_mmo9 (V := v) (z := x 0) (p := x 1) (H := x 2) (q := x 3) (b := x 4) (s := x 5) (o := x 6) (a1 := x 7) (a2 := x 8) (a3 := x 9) (n := x 10) T0 T1 C0 C1 C2 C3 F0
    refine l_outH rfl (And.intro h.1 ?_)
    have O0 : y_ev x (27, []) = 27 := l_e0 _ _
    have O1 : y_ev x (0, [(3, 1)]) = x 3 := l_e1 _ _
    have O2 : y_ev x (0, [(4, 1)]) = x 4 := l_e1 _ _
    have O3 : y_ev x (0, [(5, 1)]) = x 5 := l_e1 _ _
    have O4 : y_ev x (0, [(6, 1)]) = x 6 := l_e1 _ _
    have O5 : y_ev x (0, [(7, 1)]) = x 7 := l_e1 _ _
    have O6 : y_ev x (0, [(8, 1)]) = x 8 := l_e1 _ _
    have O7 : y_ev x (0, [(9, 1)]) = x 9 := l_e1 _ _
    have O8 : y_ev x (0, []) = 0 := l_e0 _ _
    have O9 : y_ev x (999, []) = 999 := l_e0 _ _
    show (True) ∧ (q_qry v (y_ev x (27, [])) (y_ev x (0, [(3, 1)])) (y_ev x (0, [(4, 1)])) (y_ev x (0, [(5, 1)])) (y_ev x (0, [(6, 1)])) (y_ev x (0, [(7, 1)])) (y_ev x (0, [(8, 1)])) (y_ev x (0, [(9, 1)])) (y_ev x (0, [])) (y_ev x (0, [])) (y_ev x (999, [])) ∧ True)
    (try rw [O0]); (try rw [O1]); (try rw [O2]); (try rw [O3]); (try rw [O4]); (try rw [O5]); (try rw [O6]); (try rw [O7]); (try rw [O8]); (try rw [O9])
    exact K
def lm_1053 : zLem := (([((-2147483648), 2147483647), ((-2147483648), 2147483647)], [], [(0, [(0, 1)]), (100, [(0, (-1))])], [], [(0, 0, 0, [(1, 1)])], [], [(108, [(0, [(0, 1)]), (2, []), (0, [(1, 1)])])]), [([((-2147483648), 2147483647), ((-2147483648), 2147483647)], [], [(0, [(1, 1)]), (1, [(1, (-1))])], [], [], [], [])])
theorem lk_1053 : l_core lm_1053 := by
  first
  | skip
    intro v x h
    have C0 : (0 : Int) ≤ x 0 := l_cc (a := y_ev x (0, [(0, 1)])) (l_e1 _ _) (h.2.1.1)
    have C1 : (0 : Int) ≤ 100 - x 0 := l_cc (a := y_ev x (100, [(0, (-1))])) (by show ((100) : Int) + ((-1) * x 0 + 0) = 100 - x 0; omega) (h.2.1.2.1)
    have T0 : (mOP 108 (Int32.ofInt (y_ev x (0, [(0, 1)]))) (Int32.ofInt (y_ev x (2, [])))).toInt = (y_ev x (0, [(1, 1)])) := h.2.2.2.1
    (try simp only [l_e1, l_e0] at T0)
    have K := k_rem2 (V := v) (n := x 0) (v := x 1) T0 C0 C1
    refine l_outH rfl (And.intro h.1 ?_)
    have O1 : y_ev x (1, [(1, (-1))]) = 1 - x 1 := by show ((1) : Int) + ((-1) * x 1 + 0) = _; omega
    show (0 ≤ y_ev x (0, [(1, 1)]) ∧ 0 ≤ y_ev x (1, [(1, (-1))]) ∧ True) ∧ (True)
    (try rw [O1]); (try simp only [l_e1, l_e0])
    exact K
  | skip
    intro v x h
    have C0 : (0 : Int) ≤ x 0 := l_cc (a := y_ev x (0, [(0, 1)])) (l_e1 _ _) (h.2.1.1)
    have C1 : (0 : Int) ≤ 100 - x 0 := l_cc (a := y_ev x (100, [(0, (-1))])) (by show ((100) : Int) + ((-1) * x 0 + 0) = 100 - x 0; omega) (h.2.1.2.1)
    have E0 : y_ev x (0, [(0, 1)]) = x 0 := (l_e1 _ _)
    have E1 : y_ev x (2, []) = 2 := (l_e0 _ _)
    have E2 : y_ev x (0, [(1, 1)]) = x 1 := (l_e1 _ _)
    have T0 : (mOP 108 (Int32.ofInt (y_ev x (0, [(0, 1)]))) (Int32.ofInt (y_ev x (2, [])))).toInt = (y_ev x (0, [(1, 1)])) := h.2.2.2.1
    (try rw [E0] at T0); (try rw [E1] at T0); (try rw [E2] at T0)
    have K := k_rem2 (V := v) (n := x 0) (v := x 1) T0 C0 C1
    refine l_outH rfl (And.intro h.1 ?_)
    have O0 : y_ev x (0, [(1, 1)]) = x 1 := l_e1 _ _
    have O1 : y_ev x (1, [(1, (-1))]) = 1 - x 1 := by show ((1) : Int) + ((-1) * x 1 + 0) = _; omega
    show (0 ≤ y_ev x (0, [(1, 1)]) ∧ 0 ≤ y_ev x (1, [(1, (-1))]) ∧ True) ∧ (True)
    (try rw [O0]); (try rw [O1])
    exact K
def lm_1054 : zLem := (([((-2147483648), 2147483647), ((-2147483648), 2147483647), ((-2147483648), 2147483647), ((-2147483648), 2147483647), ((-2147483648), 2147483647), ((-2147483648), 2147483647), ((-2147483648), 2147483647), ((-2147483648), 2147483647), ((-2147483648), 2147483647)], [], [], [], [(0, 0, 0, [(1, 1)])], [], [(260, [(27, []), (0, [(2, 1)]), (0, [(3, 1)]), (0, [(4, 1)]), (0, [(5, 1)]), (0, [(6, 1)]), (0, [(7, 1)]), (0, [(8, 1)]), (0, []), (0, []), (0, [(0, 1)])]), (238, [(27, []), (0, [(2, 1)]), (0, [(3, 1)]), (0, [(4, 1)]), (0, [(5, 1)]), (0, [(6, 1)]), (0, [(7, 1)]), (0, [(8, 1)]), (0, []), (0, []), (0, [(1, 1)])])]), [([((-2147483648), 2147483647), ((-2147483648), 2147483647), ((-2147483648), 2147483647), ((-2147483648), 2147483647), ((-2147483648), 2147483647), ((-2147483648), 2147483647), ((-2147483648), 2147483647), ((-2147483648), 2147483647), ((-2147483648), 2147483647)], [], [(0, [(0, 1), (1, (-1))]), (0, [(0, (-1)), (1, 1)])], [], [], [], [])])
theorem lk_1054 : l_core lm_1054 := by
  first
  | skip
    intro v x h
    have T0 : q_qry v (y_ev x (27, [])) (y_ev x (0, [(2, 1)])) (y_ev x (0, [(3, 1)])) (y_ev x (0, [(4, 1)])) (y_ev x (0, [(5, 1)])) (y_ev x (0, [(6, 1)])) (y_ev x (0, [(7, 1)])) (y_ev x (0, [(8, 1)])) (y_ev x (0, [])) (y_ev x (0, [])) (y_ev x (0, [(0, 1)])) := h.2.2.2.1
    (try simp only [l_e1, l_e0] at T0)
    have T1 : q_qry v (y_ev x (27, [])) (y_ev x (0, [(2, 1)])) (y_ev x (0, [(3, 1)])) (y_ev x (0, [(4, 1)])) (y_ev x (0, [(5, 1)])) (y_ev x (0, [(6, 1)])) (y_ev x (0, [(7, 1)])) (y_ev x (0, [(8, 1)])) (y_ev x (0, [])) (y_ev x (0, [])) (y_ev x (0, [(1, 1)])) := h.2.2.2.2.1
    (try simp only [l_e1, l_e0] at T1)
    have K := k_mse (V := v) (u := x 0) (w := x 1) (q := x 2) (b := x 3) (s := x 4) (o := x 5) (a1 := x 6) (a2 := x 7) (a3 := x 8) T0 T1
    refine l_outH rfl (And.intro h.1 ?_)
    have O0 : y_ev x (0, [(0, 1), (1, (-1))]) = x 0 - x 1 := by show ((0) : Int) + ((1) * x 0 + ((-1) * x 1 + 0)) = _; omega
    have O1 : y_ev x (0, [(0, (-1)), (1, 1)]) = x 1 - x 0 := by show ((0) : Int) + ((-1) * x 0 + ((1) * x 1 + 0)) = _; omega
    show (0 ≤ y_ev x (0, [(0, 1), (1, (-1))]) ∧ 0 ≤ y_ev x (0, [(0, (-1)), (1, 1)]) ∧ True) ∧ (True)
    (try rw [O0]); (try rw [O1])
    exact K
  | skip
    intro v x h
    have E0 : y_ev x (27, []) = 27 := (l_e0 _ _)
    have E1 : y_ev x (0, [(2, 1)]) = x 2 := (l_e1 _ _)
    have E2 : y_ev x (0, [(3, 1)]) = x 3 := (l_e1 _ _)
    have E3 : y_ev x (0, [(4, 1)]) = x 4 := (l_e1 _ _)
    have E4 : y_ev x (0, [(5, 1)]) = x 5 := (l_e1 _ _)
    have E5 : y_ev x (0, [(6, 1)]) = x 6 := (l_e1 _ _)
    have E6 : y_ev x (0, [(7, 1)]) = x 7 := (l_e1 _ _)
    have E7 : y_ev x (0, [(8, 1)]) = x 8 := (l_e1 _ _)
    have E8 : y_ev x (0, []) = 0 := (l_e0 _ _)
    have E9 : y_ev x (0, [(0, 1)]) = x 0 := (l_e1 _ _)
    have E10 : y_ev x (0, [(1, 1)]) = x 1 := (l_e1 _ _)
    have T0 : q_qry v (y_ev x (27, [])) (y_ev x (0, [(2, 1)])) (y_ev x (0, [(3, 1)])) (y_ev x (0, [(4, 1)])) (y_ev x (0, [(5, 1)])) (y_ev x (0, [(6, 1)])) (y_ev x (0, [(7, 1)])) (y_ev x (0, [(8, 1)])) (y_ev x (0, [])) (y_ev x (0, [])) (y_ev x (0, [(0, 1)])) := h.2.2.2.1
    (try rw [E0] at T0); (try rw [E1] at T0); (try rw [E2] at T0); (try rw [E3] at T0); (try rw [E4] at T0); (try rw [E5] at T0); (try rw [E6] at T0); (try rw [E7] at T0); (try rw [E8] at T0); (try rw [E9] at T0)
    have T1 : q_qry v (y_ev x (27, [])) (y_ev x (0, [(2, 1)])) (y_ev x (0, [(3, 1)])) (y_ev x (0, [(4, 1)])) (y_ev x (0, [(5, 1)])) (y_ev x (0, [(6, 1)])) (y_ev x (0, [(7, 1)])) (y_ev x (0, [(8, 1)])) (y_ev x (0, [])) (y_ev x (0, [])) (y_ev x (0, [(1, 1)])) := h.2.2.2.2.1
    (try rw [E0] at T1); (try rw [E1] at T1); (try rw [E2] at T1); (try rw [E3] at T1); (try rw [E4] at T1); (try rw [E5] at T1); (try rw [E6] at T1); (try rw [E7] at T1); (try rw [E8] at T1); (try rw [E10] at T1)
    have K := k_mse (V := v) (u := x 0) (w := x 1) (q := x 2) (b := x 3) (s := x 4) (o := x 5) (a1 := x 6) (a2 := x 7) (a3 := x 8) T0 T1
    refine l_outH rfl (And.intro h.1 ?_)
    have O0 : y_ev x (0, [(0, 1), (1, (-1))]) = x 0 - x 1 := by show ((0) : Int) + ((1) * x 0 + ((-1) * x 1 + 0)) = _; omega
    have O1 : y_ev x (0, [(0, (-1)), (1, 1)]) = x 1 - x 0 := by show ((0) : Int) + ((-1) * x 0 + ((1) * x 1 + 0)) = _; omega
    show (0 ≤ y_ev x (0, [(0, 1), (1, (-1))]) ∧ 0 ≤ y_ev x (0, [(0, (-1)), (1, 1)]) ∧ True) ∧ (True)
    (try rw [O0]); (try rw [O1])
    exact K
def lm_1055 : zLem := (([((-2147483648), 2147483647), ((-2147483648), 2147483647), ((-2147483648), 2147483647)], [], [], [], [], [], [(260, [(27, []), (0, [(0, 1)]), (0, []), (0, []), (0, []), (0, []), (0, []), (0, []), (0, []), (0, []), (0, [(1, 1)])]), (238, [(27, []), (0, [(0, 1)]), (0, []), (0, []), (0, []), (0, []), (0, []), (0, []), (0, []), (0, []), (0, [(2, 1)])])]), [([((-2147483648), 2147483647), ((-2147483648), 2147483647), ((-2147483648), 2147483647)], [], [(0, [(1, 1), (2, (-1))]), (0, [(1, (-1)), (2, 1)])], [], [], [], [])])
theorem lk_1055 : l_core lm_1055 := by
  first
  | skip
    intro v x h
    have T0 : q_qry v (y_ev x (27, [])) (y_ev x (0, [(0, 1)])) (y_ev x (0, [])) (y_ev x (0, [])) (y_ev x (0, [])) (y_ev x (0, [])) (y_ev x (0, [])) (y_ev x (0, [])) (y_ev x (0, [])) (y_ev x (0, [])) (y_ev x (0, [(1, 1)])) := h.2.2.2.1
    (try simp only [l_e1, l_e0] at T0)
    have T1 : q_qry v (y_ev x (27, [])) (y_ev x (0, [(0, 1)])) (y_ev x (0, [])) (y_ev x (0, [])) (y_ev x (0, [])) (y_ev x (0, [])) (y_ev x (0, [])) (y_ev x (0, [])) (y_ev x (0, [])) (y_ev x (0, [])) (y_ev x (0, [(2, 1)])) := h.2.2.2.2.1
    (try simp only [l_e1, l_e0] at T1)
    have K := k_qeM (V := v) (q := x 0) (u := x 1) (w := x 2) T0 T1
    refine l_outH rfl (And.intro h.1 ?_)
    have O0 : y_ev x (0, [(1, 1), (2, (-1))]) = x 1 - x 2 := by show ((0) : Int) + ((1) * x 1 + ((-1) * x 2 + 0)) = _; omega
    have O1 : y_ev x (0, [(1, (-1)), (2, 1)]) = x 2 - x 1 := by show ((0) : Int) + ((-1) * x 1 + ((1) * x 2 + 0)) = _; omega
    show (0 ≤ y_ev x (0, [(1, 1), (2, (-1))]) ∧ 0 ≤ y_ev x (0, [(1, (-1)), (2, 1)]) ∧ True) ∧ (True)
    (try rw [O0]); (try rw [O1])
    exact K
  | skip
    intro v x h
    have E0 : y_ev x (27, []) = 27 := (l_e0 _ _)
    have E1 : y_ev x (0, [(0, 1)]) = x 0 := (l_e1 _ _)
    have E2 : y_ev x (0, []) = 0 := (l_e0 _ _)
    have E3 : y_ev x (0, [(1, 1)]) = x 1 := (l_e1 _ _)
    have E4 : y_ev x (0, [(2, 1)]) = x 2 := (l_e1 _ _)
    have T0 : q_qry v (y_ev x (27, [])) (y_ev x (0, [(0, 1)])) (y_ev x (0, [])) (y_ev x (0, [])) (y_ev x (0, [])) (y_ev x (0, [])) (y_ev x (0, [])) (y_ev x (0, [])) (y_ev x (0, [])) (y_ev x (0, [])) (y_ev x (0, [(1, 1)])) := h.2.2.2.1
    (try rw [E0] at T0); (try rw [E1] at T0); (try rw [E2] at T0); (try rw [E3] at T0)
    have T1 : q_qry v (y_ev x (27, [])) (y_ev x (0, [(0, 1)])) (y_ev x (0, [])) (y_ev x (0, [])) (y_ev x (0, [])) (y_ev x (0, [])) (y_ev x (0, [])) (y_ev x (0, [])) (y_ev x (0, [])) (y_ev x (0, [])) (y_ev x (0, [(2, 1)])) := h.2.2.2.2.1
    (try rw [E0] at T1); (try rw [E1] at T1); (try rw [E2] at T1); (try rw [E4] at T1)
    have K := k_qeM (V := v) (q := x 0) (u := x 1) (w := x 2) T0 T1
    refine l_outH rfl (And.intro h.1 ?_)
    have O0 : y_ev x (0, [(1, 1), (2, (-1))]) = x 1 - x 2 := by show ((0) : Int) + ((1) * x 1 + ((-1) * x 2 + 0)) = _; omega
    have O1 : y_ev x (0, [(1, (-1)), (2, 1)]) = x 2 - x 1 := by show ((0) : Int) + ((-1) * x 1 + ((1) * x 2 + 0)) = _; omega
    show (0 ≤ y_ev x (0, [(1, 1), (2, (-1))]) ∧ 0 ≤ y_ev x (0, [(1, (-1)), (2, 1)]) ∧ True) ∧ (True)
    (try rw [O0]); (try rw [O1])
    exact K
def lm_1056 : zLem := (([((-2147483648), 2147483647), ((-2147483648), 2147483647), ((-2147483648), 2147483647), ((-2147483648), 2147483647)], [], [], [], [], [], [(260, [(3, []), (0, [(0, 1)]), (0, []), (0, []), (0, []), (0, []), (0, []), (0, []), (0, [(1, 1)]), (0, []), (0, [(2, 1)])]), (238, [(3, []), (0, [(0, 1)]), (0, []), (0, []), (0, []), (0, []), (0, []), (0, []), (0, [(1, 1)]), (0, []), (0, [(3, 1)])])]), [([((-2147483648), 2147483647), ((-2147483648), 2147483647), ((-2147483648), 2147483647), ((-2147483648), 2147483647)], [], [(0, [(2, 1), (3, (-1))]), (0, [(2, (-1)), (3, 1)])], [], [], [], [])])
theorem lk_1056 : l_core lm_1056 := by
  first
  | skip
    intro v x h
    have T0 : q_qry v (y_ev x (3, [])) (y_ev x (0, [(0, 1)])) (y_ev x (0, [])) (y_ev x (0, [])) (y_ev x (0, [])) (y_ev x (0, [])) (y_ev x (0, [])) (y_ev x (0, [])) (y_ev x (0, [(1, 1)])) (y_ev x (0, [])) (y_ev x (0, [(2, 1)])) := h.2.2.2.1
    (try simp only [l_e1, l_e0] at T0)
    have T1 : q_qry v (y_ev x (3, [])) (y_ev x (0, [(0, 1)])) (y_ev x (0, [])) (y_ev x (0, [])) (y_ev x (0, [])) (y_ev x (0, [])) (y_ev x (0, [])) (y_ev x (0, [])) (y_ev x (0, [(1, 1)])) (y_ev x (0, [])) (y_ev x (0, [(3, 1)])) := h.2.2.2.2.1
    (try simp only [l_e1, l_e0] at T1)
    have K := k_qeB0 (V := v) (q := x 0) (x := x 1) (u := x 2) (w := x 3) T0 T1
    refine l_outH rfl (And.intro h.1 ?_)
    have O0 : y_ev x (0, [(2, 1), (3, (-1))]) = x 2 - x 3 := by show ((0) : Int) + ((1) * x 2 + ((-1) * x 3 + 0)) = _; omega
    have O1 : y_ev x (0, [(2, (-1)), (3, 1)]) = x 3 - x 2 := by show ((0) : Int) + ((-1) * x 2 + ((1) * x 3 + 0)) = _; omega
    show (0 ≤ y_ev x (0, [(2, 1), (3, (-1))]) ∧ 0 ≤ y_ev x (0, [(2, (-1)), (3, 1)]) ∧ True) ∧ (True)
    (try rw [O0]); (try rw [O1])
    exact K
  | skip
    intro v x h
    have E0 : y_ev x (3, []) = 3 := (l_e0 _ _)
    have E1 : y_ev x (0, [(0, 1)]) = x 0 := (l_e1 _ _)
    have E2 : y_ev x (0, []) = 0 := (l_e0 _ _)
    have E3 : y_ev x (0, [(1, 1)]) = x 1 := (l_e1 _ _)
    have E4 : y_ev x (0, [(2, 1)]) = x 2 := (l_e1 _ _)
    have E5 : y_ev x (0, [(3, 1)]) = x 3 := (l_e1 _ _)
    have T0 : q_qry v (y_ev x (3, [])) (y_ev x (0, [(0, 1)])) (y_ev x (0, [])) (y_ev x (0, [])) (y_ev x (0, [])) (y_ev x (0, [])) (y_ev x (0, [])) (y_ev x (0, [])) (y_ev x (0, [(1, 1)])) (y_ev x (0, [])) (y_ev x (0, [(2, 1)])) := h.2.2.2.1
    (try rw [E0] at T0); (try rw [E1] at T0); (try rw [E2] at T0); (try rw [E3] at T0); (try rw [E4] at T0)
    have T1 : q_qry v (y_ev x (3, [])) (y_ev x (0, [(0, 1)])) (y_ev x (0, [])) (y_ev x (0, [])) (y_ev x (0, [])) (y_ev x (0, [])) (y_ev x (0, [])) (y_ev x (0, [])) (y_ev x (0, [(1, 1)])) (y_ev x (0, [])) (y_ev x (0, [(3, 1)])) := h.2.2.2.2.1
    (try rw [E0] at T1); (try rw [E1] at T1); (try rw [E2] at T1); (try rw [E3] at T1); (try rw [E5] at T1)
    have K := k_qeB0 (V := v) (q := x 0) (x := x 1) (u := x 2) (w := x 3) T0 T1
    refine l_outH rfl (And.intro h.1 ?_)
    have O0 : y_ev x (0, [(2, 1), (3, (-1))]) = x 2 - x 3 := by show ((0) : Int) + ((1) * x 2 + ((-1) * x 3 + 0)) = _; omega
    have O1 : y_ev x (0, [(2, (-1)), (3, 1)]) = x 3 - x 2 := by show ((0) : Int) + ((-1) * x 2 + ((1) * x 3 + 0)) = _; omega
    show (0 ≤ y_ev x (0, [(2, 1), (3, (-1))]) ∧ 0 ≤ y_ev x (0, [(2, (-1)), (3, 1)]) ∧ True) ∧ (True)
    (try rw [O0]); (try rw [O1])
    exact K
def lm_1057 : zLem := (([((-2147483648), 2147483647), ((-2147483648), 2147483647), ((-2147483648), 2147483647), ((-2147483648), 2147483647), ((-2147483648), 2147483647)], [], [((-1), [(3, 1), (4, 1)]), (1, [(3, (-1)), (4, (-1))]), ((-1), [(0, (-1)), (1, 1)]), (1, [(0, 1), (1, (-1))]), (0, [(0, 1)]), (100, [(0, (-1))])], [], [(0, 0, 0, [(2, 1)]), (0, 0, 0, [(4, 1)])], [], [(108, [(0, [(0, 1)]), (2, []), (0, [(2, 1)])]), (108, [(0, [(1, 1)]), (2, []), (0, [(3, 1)])])]), [([((-2147483648), 2147483647), ((-2147483648), 2147483647), ((-2147483648), 2147483647), ((-2147483648), 2147483647), ((-2147483648), 2147483647)], [], [(0, [(2, 1), (4, (-1))]), (0, [(2, (-1)), (4, 1)])], [], [], [], [])])
theorem lk_1057 : l_core lm_1057 := by
  first
  | skip
    intro v x h
    have C0 : (0 : Int) ≤ x 3 + x 4 - 1 := l_cc (a := y_ev x ((-1), [(3, 1), (4, 1)])) (by show ((-1) : Int) + ((1) * x 3 + ((1) * x 4 + 0)) = x 3 + x 4 - 1; omega) (h.2.1.1)
    have C1 : (0 : Int) ≤ 1 - x 3 - x 4 := l_cc (a := y_ev x (1, [(3, (-1)), (4, (-1))])) (by show ((1) : Int) + ((-1) * x 3 + ((-1) * x 4 + 0)) = 1 - x 3 - x 4; omega) (h.2.1.2.1)
    have C2 : (0 : Int) ≤ x 1 - x 0 - 1 := l_cc (a := y_ev x ((-1), [(0, (-1)), (1, 1)])) (by show ((-1) : Int) + ((-1) * x 0 + ((1) * x 1 + 0)) = x 1 - x 0 - 1; omega) (h.2.1.2.2.1)
    have C3 : (0 : Int) ≤ x 0 - x 1 + 1 := l_cc (a := y_ev x (1, [(0, 1), (1, (-1))])) (by show ((1) : Int) + ((1) * x 0 + ((-1) * x 1 + 0)) = x 0 - x 1 + 1; omega) (h.2.1.2.2.2.1)
    have C4 : (0 : Int) ≤ x 0 := l_cc (a := y_ev x (0, [(0, 1)])) (l_e1 _ _) (h.2.1.2.2.2.2.1)
    have C5 : (0 : Int) ≤ 100 - x 0 := l_cc (a := y_ev x (100, [(0, (-1))])) (by show ((100) : Int) + ((-1) * x 0 + 0) = 100 - x 0; omega) (h.2.1.2.2.2.2.2.1)
    have T0 : (mOP 108 (Int32.ofInt (y_ev x (0, [(0, 1)]))) (Int32.ofInt (y_ev x (2, [])))).toInt = (y_ev x (0, [(2, 1)])) := h.2.2.2.1
    (try simp only [l_e1, l_e0] at T0)
    have T1 : (mOP 108 (Int32.ofInt (y_ev x (0, [(1, 1)]))) (Int32.ofInt (y_ev x (2, [])))).toInt = (y_ev x (0, [(3, 1)])) := h.2.2.2.2.1
    (try simp only [l_e1, l_e0] at T1)
    have K := k_qrem (V := v) (a := x 0) (b := x 1) (u := x 2) (w := x 3) (x := x 4) T0 T1 C0 C1 C2 C3 C4 C5
    refine l_outH rfl (And.intro h.1 ?_)
    have O0 : y_ev x (0, [(2, 1), (4, (-1))]) = x 2 - x 4 := by show ((0) : Int) + ((1) * x 2 + ((-1) * x 4 + 0)) = _; omega
    have O1 : y_ev x (0, [(2, (-1)), (4, 1)]) = x 4 - x 2 := by show ((0) : Int) + ((-1) * x 2 + ((1) * x 4 + 0)) = _; omega
    show (0 ≤ y_ev x (0, [(2, 1), (4, (-1))]) ∧ 0 ≤ y_ev x (0, [(2, (-1)), (4, 1)]) ∧ True) ∧ (True)
    (try rw [O0]); (try rw [O1])
    exact K
  | skip
    intro v x h
    have C0 : (0 : Int) ≤ x 3 + x 4 - 1 := l_cc (a := y_ev x ((-1), [(3, 1), (4, 1)])) (by show ((-1) : Int) + ((1) * x 3 + ((1) * x 4 + 0)) = x 3 + x 4 - 1; omega) (h.2.1.1)
    have C1 : (0 : Int) ≤ 1 - x 3 - x 4 := l_cc (a := y_ev x (1, [(3, (-1)), (4, (-1))])) (by show ((1) : Int) + ((-1) * x 3 + ((-1) * x 4 + 0)) = 1 - x 3 - x 4; omega) (h.2.1.2.1)
    have C2 : (0 : Int) ≤ x 1 - x 0 - 1 := l_cc (a := y_ev x ((-1), [(0, (-1)), (1, 1)])) (by show ((-1) : Int) + ((-1) * x 0 + ((1) * x 1 + 0)) = x 1 - x 0 - 1; omega) (h.2.1.2.2.1)
    have C3 : (0 : Int) ≤ x 0 - x 1 + 1 := l_cc (a := y_ev x (1, [(0, 1), (1, (-1))])) (by show ((1) : Int) + ((1) * x 0 + ((-1) * x 1 + 0)) = x 0 - x 1 + 1; omega) (h.2.1.2.2.2.1)
    have C4 : (0 : Int) ≤ x 0 := l_cc (a := y_ev x (0, [(0, 1)])) (l_e1 _ _) (h.2.1.2.2.2.2.1)
    have C5 : (0 : Int) ≤ 100 - x 0 := l_cc (a := y_ev x (100, [(0, (-1))])) (by show ((100) : Int) + ((-1) * x 0 + 0) = 100 - x 0; omega) (h.2.1.2.2.2.2.2.1)
    have E0 : y_ev x (0, [(0, 1)]) = x 0 := (l_e1 _ _)
    have E1 : y_ev x (2, []) = 2 := (l_e0 _ _)
    have E2 : y_ev x (0, [(2, 1)]) = x 2 := (l_e1 _ _)
    have E3 : y_ev x (0, [(1, 1)]) = x 1 := (l_e1 _ _)
    have E4 : y_ev x (0, [(3, 1)]) = x 3 := (l_e1 _ _)
    have T0 : (mOP 108 (Int32.ofInt (y_ev x (0, [(0, 1)]))) (Int32.ofInt (y_ev x (2, [])))).toInt = (y_ev x (0, [(2, 1)])) := h.2.2.2.1
    (try rw [E0] at T0); (try rw [E1] at T0); (try rw [E2] at T0)
    have T1 : (mOP 108 (Int32.ofInt (y_ev x (0, [(1, 1)]))) (Int32.ofInt (y_ev x (2, [])))).toInt = (y_ev x (0, [(3, 1)])) := h.2.2.2.2.1
    (try rw [E3] at T1); (try rw [E1] at T1); (try rw [E4] at T1)
    have K := k_qrem (V := v) (a := x 0) (b := x 1) (u := x 2) (w := x 3) (x := x 4) T0 T1 C0 C1 C2 C3 C4 C5
    refine l_outH rfl (And.intro h.1 ?_)
    have O0 : y_ev x (0, [(2, 1), (4, (-1))]) = x 2 - x 4 := by show ((0) : Int) + ((1) * x 2 + ((-1) * x 4 + 0)) = _; omega
    have O1 : y_ev x (0, [(2, (-1)), (4, 1)]) = x 4 - x 2 := by show ((0) : Int) + ((-1) * x 2 + ((1) * x 4 + 0)) = _; omega
    show (0 ≤ y_ev x (0, [(2, 1), (4, (-1))]) ∧ 0 ≤ y_ev x (0, [(2, (-1)), (4, 1)]) ∧ True) ∧ (True)
    (try rw [O0]); (try rw [O1])
    exact K
def lm_1058 : zLem := (([((-2147483648), 2147483647), ((-2147483648), 2147483647), ((-2147483648), 2147483647), ((-2147483648), 2147483647), ((-2147483648), 2147483647), ((-2147483648), 2147483647), ((-2147483648), 2147483647), ((-2147483648), 2147483647), ((-2147483648), 2147483647), ((-2147483648), 2147483647), ((-2147483648), 2147483647)], [], [], [], [], [], [(235, [(0, [(3, 1)]), (0, [(0, 1)]), (0, [(1, 1)]), (0, [(2, 1)]), (0, [(4, 1)]), (0, [(5, 1)]), (0, [(6, 1)]), (0, [(7, 1)]), (0, [(8, 1)]), (0, [(9, 1)]), (0, [(10, 1)])])]), [([((-2147483648), 2147483647), ((-2147483648), 2147483647), ((-2147483648), 2147483647), ((-2147483648), 2147483647), ((-2147483648), 2147483647), ((-2147483648), 2147483647), ((-2147483648), 2147483647), ((-2147483648), 2147483647), ((-2147483648), 2147483647), ((-2147483648), 2147483647), ((-2147483648), 2147483647)], [], [], [], [], [], [(238, [(28, []), (0, [(4, 1)]), (0, [(5, 1)]), (0, [(6, 1)]), (0, [(7, 1)]), (0, [(8, 1)]), (0, [(9, 1)]), (0, [(10, 1)]), (1, []), ((-2), []), ((-2), [])])])])
theorem lk_1058 : l_core lm_1058 := by
  first
  | skip
    intro v x h
    have T0 : q_sto v 0 (y_ev x (0, [(3, 1)])) (y_ev x (0, [(0, 1)])) (y_ev x (0, [(1, 1)])) (y_ev x (0, [(2, 1)])) (y_ev x (0, [(4, 1)])) (y_ev x (0, [(5, 1)])) (y_ev x (0, [(6, 1)])) (y_ev x (0, [(7, 1)])) (y_ev x (0, [(8, 1)])) (y_ev x (0, [(9, 1)])) (y_ev x (0, [(10, 1)])) := h.2.2.2.1
    (try simp only [l_e1, l_e0] at T0)
    have K := k_qua0 (V := v) (p := x 0) (y := x 1) (d := x 2) (H := x 3) (q := x 4) (b := x 5) (s := x 6) (o := x 7) (a1 := x 8) (a2 := x 9) (a3 := x 10) T0
    refine l_outH rfl (And.intro h.1 ?_)
    show (True) ∧ (q_qry v (y_ev x (28, [])) (y_ev x (0, [(4, 1)])) (y_ev x (0, [(5, 1)])) (y_ev x (0, [(6, 1)])) (y_ev x (0, [(7, 1)])) (y_ev x (0, [(8, 1)])) (y_ev x (0, [(9, 1)])) (y_ev x (0, [(10, 1)])) (y_ev x (1, [])) (y_ev x ((-2), [])) (y_ev x ((-2), [])) ∧ True)
    (try simp only [l_e1, l_e0])
    exact K
  | skip
    intro v x h
    have E0 : y_ev x (0, [(3, 1)]) = x 3 := (l_e1 _ _)
    have E1 : y_ev x (0, [(0, 1)]) = x 0 := (l_e1 _ _)
    have E2 : y_ev x (0, [(1, 1)]) = x 1 := (l_e1 _ _)
    have E3 : y_ev x (0, [(2, 1)]) = x 2 := (l_e1 _ _)
    have E4 : y_ev x (0, [(4, 1)]) = x 4 := (l_e1 _ _)
    have E5 : y_ev x (0, [(5, 1)]) = x 5 := (l_e1 _ _)
    have E6 : y_ev x (0, [(6, 1)]) = x 6 := (l_e1 _ _)
    have E7 : y_ev x (0, [(7, 1)]) = x 7 := (l_e1 _ _)
    have E8 : y_ev x (0, [(8, 1)]) = x 8 := (l_e1 _ _)
    have E9 : y_ev x (0, [(9, 1)]) = x 9 := (l_e1 _ _)
    have E10 : y_ev x (0, [(10, 1)]) = x 10 := (l_e1 _ _)
    have T0 : q_sto v 0 (y_ev x (0, [(3, 1)])) (y_ev x (0, [(0, 1)])) (y_ev x (0, [(1, 1)])) (y_ev x (0, [(2, 1)])) (y_ev x (0, [(4, 1)])) (y_ev x (0, [(5, 1)])) (y_ev x (0, [(6, 1)])) (y_ev x (0, [(7, 1)])) (y_ev x (0, [(8, 1)])) (y_ev x (0, [(9, 1)])) (y_ev x (0, [(10, 1)])) := h.2.2.2.1
    (try rw [E0] at T0); (try rw [E1] at T0); (try rw [E2] at T0); (try rw [E3] at T0); (try rw [E4] at T0); (try rw [E5] at T0); (try rw [E6] at T0); (try rw [E7] at T0); (try rw [E8] at T0); (try rw [E9] at T0); (try rw [E10] at T0)
    have K := k_qua0 (V := v) (p := x 0) (y := x 1) (d := x 2) (H := x 3) (q := x 4) (b := x 5) (s := x 6) (o := x 7) (a1 := x 8) (a2 := x 9) (a3 := x 10) T0
    refine l_outH rfl (And.intro h.1 ?_)
    have O0 : y_ev x (28, []) = 28 := l_e0 _ _
    have O1 : y_ev x (0, [(4, 1)]) = x 4 := l_e1 _ _
    have O2 : y_ev x (0, [(5, 1)]) = x 5 := l_e1 _ _
    have O3 : y_ev x (0, [(6, 1)]) = x 6 := l_e1 _ _
    have O4 : y_ev x (0, [(7, 1)]) = x 7 := l_e1 _ _
    have O5 : y_ev x (0, [(8, 1)]) = x 8 := l_e1 _ _
    have O6 : y_ev x (0, [(9, 1)]) = x 9 := l_e1 _ _
    have O7 : y_ev x (0, [(10, 1)]) = x 10 := l_e1 _ _
    have O8 : y_ev x (1, []) = 1 := l_e0 _ _
    have O9 : y_ev x ((-2), []) = (-2) := l_e0 _ _
    show (True) ∧ (q_qry v (y_ev x (28, [])) (y_ev x (0, [(4, 1)])) (y_ev x (0, [(5, 1)])) (y_ev x (0, [(6, 1)])) (y_ev x (0, [(7, 1)])) (y_ev x (0, [(8, 1)])) (y_ev x (0, [(9, 1)])) (y_ev x (0, [(10, 1)])) (y_ev x (1, [])) (y_ev x ((-2), [])) (y_ev x ((-2), [])) ∧ True)
    (try rw [O0]); (try rw [O1]); (try rw [O2]); (try rw [O3]); (try rw [O4]); (try rw [O5]); (try rw [O6]); (try rw [O7]); (try rw [O8]); (try rw [O9])
    exact K
def lm_1059pg_0 (t : List zTg) : List zTg := (235, [(0, [(4, 1)]), (0, [(5, 1)]), (0, [(6, 1)]), (0, [(7, 1)]), (0, [(8, 1)]), (0, [(9, 1)]), (0, [(10, 1)]), (0, [(11, 1)]), (0, [(12, 1)]), (0, [(13, 1)]), (0, [(14, 1)])]) :: (238, [(28, []), (0, [(8, 1)]), (0, [(9, 1)]), (0, [(10, 1)]), (0, [(11, 1)]), (0, [(12, 1)]), (0, [(13, 1)]), (0, [(14, 1)]), (0, [(0, 1)]), (0, [(2, 1)]), (0, [(3, 1)])]) :: (238, [(17, []), (0, [(8, 1)]), (0, [(9, 1)]), (0, [(10, 1)]), (0, [(11, 1)]), (0, [(12, 1)]), (0, [(13, 1)]), (0, [(14, 1)]), (0, [(0, 1)]), (0, []), (0, [(1, 1)])]) :: t
def lm_1059p : zS := ((lm_624pi_0 (lm_624pi_1 [])), [], [((-1), [(0, 1)]), ((-1), [(0, (-1)), (5, 1)]), ((-1), [(2, (-1))])], [], [(0, 0, 0, [(0, 1)]), (0, 0, 0, [(1, 1)])], [], (lm_1059pg_0 []))
def lm_1059 : zLem := (lm_1059p, [([((-2147483648), 2147483647), ((-2147483648), 2147483647), ((-2147483648), 2147483647), ((-2147483648), 2147483647), ((-2147483648), 2147483647), ((-2147483648), 2147483647), ((-2147483648), 2147483647), ((-2147483648), 2147483647), ((-2147483648), 2147483647), ((-2147483648), 2147483647), ((-2147483648), 2147483647), ((-2147483648), 2147483647), ((-2147483648), 2147483647), ((-2147483648), 2147483647), ((-2147483648), 2147483647)], [], [], [], [], [], [(238, [(28, []), (0, [(8, 1)]), (0, [(9, 1)]), (0, [(10, 1)]), (0, [(11, 1)]), (0, [(12, 1)]), (0, [(13, 1)]), (0, [(14, 1)]), (1, [(0, 1)]), (0, [(0, 1)]), (0, [(1, 1)])])])])
theorem lk_1059 : l_core lm_1059 := by
  first
  | skip
    intro v x h
    have C0 : (0 : Int) ≤ x 0 - 1 := l_cc (a := y_ev x ((-1), [(0, 1)])) (by show ((-1) : Int) + ((1) * x 0 + 0) = x 0 - 1; omega) (h.2.1.1)
    have C1 : (0 : Int) ≤ x 5 - x 0 - 1 := l_cc (a := y_ev x ((-1), [(0, (-1)), (5, 1)])) (by show ((-1) : Int) + ((-1) * x 0 + ((1) * x 5 + 0)) = x 5 - x 0 - 1; omega) (h.2.1.2.1)
    have C2 : (0 : Int) ≤ -x 2 - 1 := l_cc (a := y_ev x ((-1), [(2, (-1))])) (by show ((-1) : Int) + ((-1) * x 2 + 0) = -x 2 - 1; omega) (h.2.1.2.2.1)
    have T0 : q_sto v 0 (y_ev x (0, [(4, 1)])) (y_ev x (0, [(5, 1)])) (y_ev x (0, [(6, 1)])) (y_ev x (0, [(7, 1)])) (y_ev x (0, [(8, 1)])) (y_ev x (0, [(9, 1)])) (y_ev x (0, [(10, 1)])) (y_ev x (0, [(11, 1)])) (y_ev x (0, [(12, 1)])) (y_ev x (0, [(13, 1)])) (y_ev x (0, [(14, 1)])) := h.2.2.2.1
    (try simp only [l_e1, l_e0] at T0)
    have T1 : q_qry v (y_ev x (28, [])) (y_ev x (0, [(8, 1)])) (y_ev x (0, [(9, 1)])) (y_ev x (0, [(10, 1)])) (y_ev x (0, [(11, 1)])) (y_ev x (0, [(12, 1)])) (y_ev x (0, [(13, 1)])) (y_ev x (0, [(14, 1)])) (y_ev x (0, [(0, 1)])) (y_ev x (0, [(2, 1)])) (y_ev x (0, [(3, 1)])) := h.2.2.2.2.1
    (try simp only [l_e1, l_e0] at T1)
    have T2 : q_qry v (y_ev x (17, [])) (y_ev x (0, [(8, 1)])) (y_ev x (0, [(9, 1)])) (y_ev x (0, [(10, 1)])) (y_ev x (0, [(11, 1)])) (y_ev x (0, [(12, 1)])) (y_ev x (0, [(13, 1)])) (y_ev x (0, [(14, 1)])) (y_ev x (0, [(0, 1)])) (y_ev x (0, [])) (y_ev x (0, [(1, 1)])) := h.2.2.2.2.2.1
    (try simp only [l_e1, l_e0] at T2)
    have K := k_quaT1 (V := v) (i := x 0) (u := x 1) (bb := x 2) (l := x 3) (H := x 4) (p := x 5) (y := x 6) (d := x 7) (q := x 8) (b := x 9) (s := x 10) (o := x 11) (a1 := x 12) (a2 := x 13) (a3 := x 14) T0 T1 T2 C0 C1 C2
    refine l_outH rfl (And.intro h.1 ?_)
    have O8 : y_ev x (1, [(0, 1)]) = x 0 + 1 := by show ((1) : Int) + ((1) * x 0 + 0) = _; omega
    show (True) ∧ (q_qry v (y_ev x (28, [])) (y_ev x (0, [(8, 1)])) (y_ev x (0, [(9, 1)])) (y_ev x (0, [(10, 1)])) (y_ev x (0, [(11, 1)])) (y_ev x (0, [(12, 1)])) (y_ev x (0, [(13, 1)])) (y_ev x (0, [(14, 1)])) (y_ev x (1, [(0, 1)])) (y_ev x (0, [(0, 1)])) (y_ev x (0, [(1, 1)])) ∧ True)
    (try rw [O8]); (try simp only [l_e1, l_e0])
    exact K
  | skip
    intro v x h
    have C0 : (0 : Int) ≤ x 0 - 1 := l_cc (a := y_ev x ((-1), [(0, 1)])) (by show ((-1) : Int) + ((1) * x 0 + 0) = x 0 - 1; omega) (h.2.1.1)
    have C1 : (0 : Int) ≤ x 5 - x 0 - 1 := l_cc (a := y_ev x ((-1), [(0, (-1)), (5, 1)])) (by show ((-1) : Int) + ((-1) * x 0 + ((1) * x 5 + 0)) = x 5 - x 0 - 1; omega) (h.2.1.2.1)
    have C2 : (0 : Int) ≤ -x 2 - 1 := l_cc (a := y_ev x ((-1), [(2, (-1))])) (by show ((-1) : Int) + ((-1) * x 2 + 0) = -x 2 - 1; omega) (h.2.1.2.2.1)
    have E0 : y_ev x (0, [(4, 1)]) = x 4 := (l_e1 _ _)
    have E1 : y_ev x (0, [(5, 1)]) = x 5 := (l_e1 _ _)
    have E2 : y_ev x (0, [(6, 1)]) = x 6 := (l_e1 _ _)
    have E3 : y_ev x (0, [(7, 1)]) = x 7 := (l_e1 _ _)
    have E4 : y_ev x (0, [(8, 1)]) = x 8 := (l_e1 _ _)
    have E5 : y_ev x (0, [(9, 1)]) = x 9 := (l_e1 _ _)
    have E6 : y_ev x (0, [(10, 1)]) = x 10 := (l_e1 _ _)
    have E7 : y_ev x (0, [(11, 1)]) = x 11 := (l_e1 _ _)
    have E8 : y_ev x (0, [(12, 1)]) = x 12 := (l_e1 _ _)
    have E9 : y_ev x (0, [(13, 1)]) = x 13 := (l_e1 _ _)
    have E10 : y_ev x (0, [(14, 1)]) = x 14 := (l_e1 _ _)
    have E11 : y_ev x (28, []) = 28 := (l_e0 _ _)
    have E12 : y_ev x (0, [(0, 1)]) = x 0 := (l_e1 _ _)
    have E13 : y_ev x (0, [(2, 1)]) = x 2 := (l_e1 _ _)
    have E14 : y_ev x (0, [(3, 1)]) = x 3 := (l_e1 _ _)
    have E15 : y_ev x (17, []) = 17 := (l_e0 _ _)
    have E16 : y_ev x (0, []) = 0 := (l_e0 _ _)
    have E17 : y_ev x (0, [(1, 1)]) = x 1 := (l_e1 _ _)
    have T0 : q_sto v 0 (y_ev x (0, [(4, 1)])) (y_ev x (0, [(5, 1)])) (y_ev x (0, [(6, 1)])) (y_ev x (0, [(7, 1)])) (y_ev x (0, [(8, 1)])) (y_ev x (0, [(9, 1)])) (y_ev x (0, [(10, 1)])) (y_ev x (0, [(11, 1)])) (y_ev x (0, [(12, 1)])) (y_ev x (0, [(13, 1)])) (y_ev x (0, [(14, 1)])) := h.2.2.2.1
    (try rw [E0] at T0); (try rw [E1] at T0); (try rw [E2] at T0); (try rw [E3] at T0); (try rw [E4] at T0); (try rw [E5] at T0); (try rw [E6] at T0); (try rw [E7] at T0); (try rw [E8] at T0); (try rw [E9] at T0); (try rw [E10] at T0)
    have T1 : q_qry v (y_ev x (28, [])) (y_ev x (0, [(8, 1)])) (y_ev x (0, [(9, 1)])) (y_ev x (0, [(10, 1)])) (y_ev x (0, [(11, 1)])) (y_ev x (0, [(12, 1)])) (y_ev x (0, [(13, 1)])) (y_ev x (0, [(14, 1)])) (y_ev x (0, [(0, 1)])) (y_ev x (0, [(2, 1)])) (y_ev x (0, [(3, 1)])) := h.2.2.2.2.1
    (try rw [E11] at T1); (try rw [E4] at T1); (try rw [E5] at T1); (try rw [E6] at T1); (try rw [E7] at T1); (try rw [E8] at T1); (try rw [E9] at T1); (try rw [E10] at T1); (try rw [E12] at T1); (try rw [E13] at T1); (try rw [E14] at T1)
    have T2 : q_qry v (y_ev x (17, [])) (y_ev x (0, [(8, 1)])) (y_ev x (0, [(9, 1)])) (y_ev x (0, [(10, 1)])) (y_ev x (0, [(11, 1)])) (y_ev x (0, [(12, 1)])) (y_ev x (0, [(13, 1)])) (y_ev x (0, [(14, 1)])) (y_ev x (0, [(0, 1)])) (y_ev x (0, [])) (y_ev x (0, [(1, 1)])) := h.2.2.2.2.2.1
    (try rw [E15] at T2); (try rw [E4] at T2); (try rw [E5] at T2); (try rw [E6] at T2); (try rw [E7] at T2); (try rw [E8] at T2); (try rw [E9] at T2); (try rw [E10] at T2); (try rw [E12] at T2); (try rw [E16] at T2); (try rw [E17] at T2)
    have K := k_quaT1 (V := v) (i := x 0) (u := x 1) (bb := x 2) (l := x 3) (H := x 4) (p := x 5) (y := x 6) (d := x 7) (q := x 8) (b := x 9) (s := x 10) (o := x 11) (a1 := x 12) (a2 := x 13) (a3 := x 14) T0 T1 T2 C0 C1 C2
    refine l_outH rfl (And.intro h.1 ?_)
    have O0 : y_ev x (28, []) = 28 := l_e0 _ _
    have O1 : y_ev x (0, [(8, 1)]) = x 8 := l_e1 _ _
    have O2 : y_ev x (0, [(9, 1)]) = x 9 := l_e1 _ _
    have O3 : y_ev x (0, [(10, 1)]) = x 10 := l_e1 _ _
    have O4 : y_ev x (0, [(11, 1)]) = x 11 := l_e1 _ _
    have O5 : y_ev x (0, [(12, 1)]) = x 12 := l_e1 _ _
    have O6 : y_ev x (0, [(13, 1)]) = x 13 := l_e1 _ _
    have O7 : y_ev x (0, [(14, 1)]) = x 14 := l_e1 _ _
    have O8 : y_ev x (1, [(0, 1)]) = x 0 + 1 := by show ((1) : Int) + ((1) * x 0 + 0) = _; omega
    have O9 : y_ev x (0, [(0, 1)]) = x 0 := l_e1 _ _
    have O10 : y_ev x (0, [(1, 1)]) = x 1 := l_e1 _ _
    show (True) ∧ (q_qry v (y_ev x (28, [])) (y_ev x (0, [(8, 1)])) (y_ev x (0, [(9, 1)])) (y_ev x (0, [(10, 1)])) (y_ev x (0, [(11, 1)])) (y_ev x (0, [(12, 1)])) (y_ev x (0, [(13, 1)])) (y_ev x (0, [(14, 1)])) (y_ev x (1, [(0, 1)])) (y_ev x (0, [(0, 1)])) (y_ev x (0, [(1, 1)])) ∧ True)
    (try rw [O0]); (try rw [O1]); (try rw [O2]); (try rw [O3]); (try rw [O4]); (try rw [O5]); (try rw [O6]); (try rw [O7]); (try rw [O8]); (try rw [O9]); (try rw [O10])
    exact K
def lm_1060pg_0 (t : List zTg) : List zTg := (237, [(0, [(5, 1)]), (0, [(6, 1)]), (0, [(7, 1)]), (0, [(8, 1)]), (0, [(9, 1)]), (0, [(10, 1)]), (0, [(11, 1)]), (0, [(12, 1)])]) :: (238, [(28, []), (0, [(6, 1)]), (0, [(7, 1)]), (0, [(8, 1)]), (0, [(9, 1)]), (0, [(10, 1)]), (0, [(11, 1)]), (0, [(12, 1)]), (0, [(0, 1)]), (0, [(2, 1)]), (0, [(3, 1)])]) :: (238, [(17, []), (0, [(6, 1)]), (0, [(7, 1)]), (0, [(8, 1)]), (0, [(9, 1)]), (0, [(10, 1)]), (0, [(11, 1)]), (0, [(12, 1)]), (0, [(0, 1)]), (0, []), (0, [(1, 1)])]) :: t
def lm_1060p : zS := ((lm_650pi_0 (lm_650pi_1 [])), [(78, false)], [((-1), [(0, 1)]), ((-1), [(0, (-1)), (4, 1)]), ((-1), [(2, (-1))])], [], [(0, 0, 0, [(0, 1)]), (0, 0, 0, [(1, 1)])], [(0, (true, 0, 24, []), 0, 0, 0, [(4, 1)])], (lm_1060pg_0 []))
def lm_1060 : zLem := (lm_1060p, [([((-2147483648), 2147483647), ((-2147483648), 2147483647), ((-2147483648), 2147483647), ((-2147483648), 2147483647), ((-2147483648), 2147483647), ((-2147483648), 2147483647), ((-2147483648), 2147483647), ((-2147483648), 2147483647), ((-2147483648), 2147483647), ((-2147483648), 2147483647), ((-2147483648), 2147483647), ((-2147483648), 2147483647), ((-2147483648), 2147483647)], [(78, false)], [], [], [], [], [(238, [(28, []), (0, [(6, 1)]), (0, [(7, 1)]), (0, [(8, 1)]), (0, [(9, 1)]), (0, [(10, 1)]), (0, [(11, 1)]), (0, [(12, 1)]), (1, [(0, 1)]), (0, [(0, 1)]), (0, [(1, 1)])])])])
theorem lk_1060 : l_core lm_1060 := by
  first
  | skip
    intro v x h
    have G0 := h.2.2.1
    have C0 : (0 : Int) ≤ x 0 - 1 := l_cc (a := y_ev x ((-1), [(0, 1)])) (by show ((-1) : Int) + ((1) * x 0 + 0) = x 0 - 1; omega) (h.2.1.1)
    have C1 : (0 : Int) ≤ x 4 - x 0 - 1 := l_cc (a := y_ev x ((-1), [(0, (-1)), (4, 1)])) (by show ((-1) : Int) + ((-1) * x 0 + ((1) * x 4 + 0)) = x 4 - x 0 - 1; omega) (h.2.1.2.1)
    have C2 : (0 : Int) ≤ -x 2 - 1 := l_cc (a := y_ev x ((-1), [(2, (-1))])) (by show ((-1) : Int) + ((-1) * x 2 + 0) = -x 2 - 1; omega) (h.2.1.2.2.1)
    have F0 : (0 : Int) ≤ 24 ∧ (24 : Int) < j_len 78 ∧ v 78 (24) = x 4 := l_ff (f := v 78) (L := j_len 78) (a := y_ev x (24, [])) (b := y_ev x (0, [(4, 1)])) (l_e0 _ _) (l_e1 _ _) (G0.1.1)
    have T0 : q_rwo v (y_ev x (0, [(5, 1)])) (y_ev x (0, [(6, 1)])) (y_ev x (0, [(7, 1)])) (y_ev x (0, [(8, 1)])) (y_ev x (0, [(9, 1)])) (y_ev x (0, [(10, 1)])) (y_ev x (0, [(11, 1)])) (y_ev x (0, [(12, 1)])) := h.2.2.2.1
    (try simp only [l_e1, l_e0] at T0)
    have T1 : q_qry v (y_ev x (28, [])) (y_ev x (0, [(6, 1)])) (y_ev x (0, [(7, 1)])) (y_ev x (0, [(8, 1)])) (y_ev x (0, [(9, 1)])) (y_ev x (0, [(10, 1)])) (y_ev x (0, [(11, 1)])) (y_ev x (0, [(12, 1)])) (y_ev x (0, [(0, 1)])) (y_ev x (0, [(2, 1)])) (y_ev x (0, [(3, 1)])) := h.2.2.2.2.1
    (try simp only [l_e1, l_e0] at T1)
    have T2 : q_qry v (y_ev x (17, [])) (y_ev x (0, [(6, 1)])) (y_ev x (0, [(7, 1)])) (y_ev x (0, [(8, 1)])) (y_ev x (0, [(9, 1)])) (y_ev x (0, [(10, 1)])) (y_ev x (0, [(11, 1)])) (y_ev x (0, [(12, 1)])) (y_ev x (0, [(0, 1)])) (y_ev x (0, [])) (y_ev x (0, [(1, 1)])) := h.2.2.2.2.2.1
    (try simp only [l_e1, l_e0] at T2)
    have K := k_mquT1 (V := v) (i := x 0) (u := x 1) (bb := x 2) (l := x 3) (p := x 4) (H := x 5) (q := x 6) (b := x 7) (s := x 8) (o := x 9) (a1 := x 10) (a2 := x 11) (a3 := x 12) T0 T1 T2 C0 C1 C2 F0
    refine l_outH rfl (And.intro h.1 ?_)
    have O8 : y_ev x (1, [(0, 1)]) = x 0 + 1 := by show ((1) : Int) + ((1) * x 0 + 0) = _; omega
    show (True) ∧ (q_qry v (y_ev x (28, [])) (y_ev x (0, [(6, 1)])) (y_ev x (0, [(7, 1)])) (y_ev x (0, [(8, 1)])) (y_ev x (0, [(9, 1)])) (y_ev x (0, [(10, 1)])) (y_ev x (0, [(11, 1)])) (y_ev x (0, [(12, 1)])) (y_ev x (1, [(0, 1)])) (y_ev x (0, [(0, 1)])) (y_ev x (0, [(1, 1)])) ∧ True)
    (try rw [O8]); (try simp only [l_e1, l_e0])
    exact K
  | skip
    intro v x h
    have G0 := h.2.2.1
    have C0 : (0 : Int) ≤ x 0 - 1 := l_cc (a := y_ev x ((-1), [(0, 1)])) (by show ((-1) : Int) + ((1) * x 0 + 0) = x 0 - 1; omega) (h.2.1.1)
    have C1 : (0 : Int) ≤ x 4 - x 0 - 1 := l_cc (a := y_ev x ((-1), [(0, (-1)), (4, 1)])) (by show ((-1) : Int) + ((-1) * x 0 + ((1) * x 4 + 0)) = x 4 - x 0 - 1; omega) (h.2.1.2.1)
    have C2 : (0 : Int) ≤ -x 2 - 1 := l_cc (a := y_ev x ((-1), [(2, (-1))])) (by show ((-1) : Int) + ((-1) * x 2 + 0) = -x 2 - 1; omega) (h.2.1.2.2.1)
    have F0 : (0 : Int) ≤ 24 ∧ (24 : Int) < j_len 78 ∧ v 78 (24) = x 4 := l_ff (f := v 78) (L := j_len 78) (a := y_ev x (24, [])) (b := y_ev x (0, [(4, 1)])) (l_e0 _ _) (l_e1 _ _) (G0.1.1)
    have E0 : y_ev x (0, [(5, 1)]) = x 5 := (l_e1 _ _)
    have E1 : y_ev x (0, [(6, 1)]) = x 6 := (l_e1 _ _)
    have E2 : y_ev x (0, [(7, 1)]) = x 7 := (l_e1 _ _)
    have E3 : y_ev x (0, [(8, 1)]) = x 8 := (l_e1 _ _)
    have E4 : y_ev x (0, [(9, 1)]) = x 9 := (l_e1 _ _)
    have E5 : y_ev x (0, [(10, 1)]) = x 10 := (l_e1 _ _)
    have E6 : y_ev x (0, [(11, 1)]) = x 11 := (l_e1 _ _)
    have E7 : y_ev x (0, [(12, 1)]) = x 12 := (l_e1 _ _)
    have E8 : y_ev x (28, []) = 28 := (l_e0 _ _)
    have E9 : y_ev x (0, [(0, 1)]) = x 0 := (l_e1 _ _)
    have E10 : y_ev x (0, [(2, 1)]) = x 2 := (l_e1 _ _)
    have E11 : y_ev x (0, [(3, 1)]) = x 3 := (l_e1 _ _)
    have E12 : y_ev x (17, []) = 17 := (l_e0 _ _)
    have E13 : y_ev x (0, []) = 0 := (l_e0 _ _)
    have E14 : y_ev x (0, [(1, 1)]) = x 1 := (l_e1 _ _)
    have T0 : q_rwo v (y_ev x (0, [(5, 1)])) (y_ev x (0, [(6, 1)])) (y_ev x (0, [(7, 1)])) (y_ev x (0, [(8, 1)])) (y_ev x (0, [(9, 1)])) (y_ev x (0, [(10, 1)])) (y_ev x (0, [(11, 1)])) (y_ev x (0, [(12, 1)])) := h.2.2.2.1
    (try rw [E0] at T0); (try rw [E1] at T0); (try rw [E2] at T0); (try rw [E3] at T0); (try rw [E4] at T0); (try rw [E5] at T0); (try rw [E6] at T0); (try rw [E7] at T0)
    have T1 : q_qry v (y_ev x (28, [])) (y_ev x (0, [(6, 1)])) (y_ev x (0, [(7, 1)])) (y_ev x (0, [(8, 1)])) (y_ev x (0, [(9, 1)])) (y_ev x (0, [(10, 1)])) (y_ev x (0, [(11, 1)])) (y_ev x (0, [(12, 1)])) (y_ev x (0, [(0, 1)])) (y_ev x (0, [(2, 1)])) (y_ev x (0, [(3, 1)])) := h.2.2.2.2.1
    (try rw [E8] at T1); (try rw [E1] at T1); (try rw [E2] at T1); (try rw [E3] at T1); (try rw [E4] at T1); (try rw [E5] at T1); (try rw [E6] at T1); (try rw [E7] at T1); (try rw [E9] at T1); (try rw [E10] at T1); (try rw [E11] at T1)
    have T2 : q_qry v (y_ev x (17, [])) (y_ev x (0, [(6, 1)])) (y_ev x (0, [(7, 1)])) (y_ev x (0, [(8, 1)])) (y_ev x (0, [(9, 1)])) (y_ev x (0, [(10, 1)])) (y_ev x (0, [(11, 1)])) (y_ev x (0, [(12, 1)])) (y_ev x (0, [(0, 1)])) (y_ev x (0, [])) (y_ev x (0, [(1, 1)])) := h.2.2.2.2.2.1
    (try rw [E12] at T2); (try rw [E1] at T2); (try rw [E2] at T2); (try rw [E3] at T2); (try rw [E4] at T2); (try rw [E5] at T2); (try rw [E6] at T2); (try rw [E7] at T2); (try rw [E9] at T2); (try rw [E13] at T2); (try rw [E14] at T2)
    have K := k_mquT1 (V := v) (i := x 0) (u := x 1) (bb := x 2) (l := x 3) (p := x 4) (H := x 5) (q := x 6) (b := x 7) (s := x 8) (o := x 9) (a1 := x 10) (a2 := x 11) (a3 := x 12) T0 T1 T2 C0 C1 C2 F0
    refine l_outH rfl (And.intro h.1 ?_)
    have O0 : y_ev x (28, []) = 28 := l_e0 _ _
    have O1 : y_ev x (0, [(6, 1)]) = x 6 := l_e1 _ _
    have O2 : y_ev x (0, [(7, 1)]) = x 7 := l_e1 _ _
    have O3 : y_ev x (0, [(8, 1)]) = x 8 := l_e1 _ _
    have O4 : y_ev x (0, [(9, 1)]) = x 9 := l_e1 _ _
    have O5 : y_ev x (0, [(10, 1)]) = x 10 := l_e1 _ _
    have O6 : y_ev x (0, [(11, 1)]) = x 11 := l_e1 _ _
    have O7 : y_ev x (0, [(12, 1)]) = x 12 := l_e1 _ _
    have O8 : y_ev x (1, [(0, 1)]) = x 0 + 1 := by show ((1) : Int) + ((1) * x 0 + 0) = _; omega
    have O9 : y_ev x (0, [(0, 1)]) = x 0 := l_e1 _ _
    have O10 : y_ev x (0, [(1, 1)]) = x 1 := l_e1 _ _
    show (True) ∧ (q_qry v (y_ev x (28, [])) (y_ev x (0, [(6, 1)])) (y_ev x (0, [(7, 1)])) (y_ev x (0, [(8, 1)])) (y_ev x (0, [(9, 1)])) (y_ev x (0, [(10, 1)])) (y_ev x (0, [(11, 1)])) (y_ev x (0, [(12, 1)])) (y_ev x (1, [(0, 1)])) (y_ev x (0, [(0, 1)])) (y_ev x (0, [(1, 1)])) ∧ True)
    (try rw [O0]); (try rw [O1]); (try rw [O2]); (try rw [O3]); (try rw [O4]); (try rw [O5]); (try rw [O6]); (try rw [O7]); (try rw [O8]); (try rw [O9]); (try rw [O10])
    exact K
def lm_1061p : zS := ((lm_624pi_0 (lm_624pi_1 [])), [], [((-1), [(0, 1)]), ((-1), [(0, (-1)), (5, 1)]), (0, [(2, 1)]), ((-1), [(1, (-1)), (3, 1)])], [], [(0, 0, 0, [(0, 1)]), (0, 0, 0, [(1, 1)])], [], (lm_1059pg_0 []))
def lm_1061 : zLem := (lm_1061p, [([((-2147483648), 2147483647), ((-2147483648), 2147483647), ((-2147483648), 2147483647), ((-2147483648), 2147483647), ((-2147483648), 2147483647), ((-2147483648), 2147483647), ((-2147483648), 2147483647), ((-2147483648), 2147483647), ((-2147483648), 2147483647), ((-2147483648), 2147483647), ((-2147483648), 2147483647), ((-2147483648), 2147483647), ((-2147483648), 2147483647), ((-2147483648), 2147483647), ((-2147483648), 2147483647)], [], [], [], [], [], [(238, [(28, []), (0, [(8, 1)]), (0, [(9, 1)]), (0, [(10, 1)]), (0, [(11, 1)]), (0, [(12, 1)]), (0, [(13, 1)]), (0, [(14, 1)]), (1, [(0, 1)]), (0, [(0, 1)]), (0, [(1, 1)])])])])
theorem lk_1061 : l_core lm_1061 := by
  first
  | skip
    intro v x h
    have C0 : (0 : Int) ≤ x 0 - 1 := l_cc (a := y_ev x ((-1), [(0, 1)])) (by show ((-1) : Int) + ((1) * x 0 + 0) = x 0 - 1; omega) (h.2.1.1)
    have C1 : (0 : Int) ≤ x 5 - x 0 - 1 := l_cc (a := y_ev x ((-1), [(0, (-1)), (5, 1)])) (by show ((-1) : Int) + ((-1) * x 0 + ((1) * x 5 + 0)) = x 5 - x 0 - 1; omega) (h.2.1.2.1)
    have C2 : (0 : Int) ≤ x 2 := l_cc (a := y_ev x (0, [(2, 1)])) (l_e1 _ _) (h.2.1.2.2.1)
    have C3 : (0 : Int) ≤ x 3 - x 1 - 1 := l_cc (a := y_ev x ((-1), [(1, (-1)), (3, 1)])) (by show ((-1) : Int) + ((-1) * x 1 + ((1) * x 3 + 0)) = x 3 - x 1 - 1; omega) (h.2.1.2.2.2.1)
    have T0 : q_sto v 0 (y_ev x (0, [(4, 1)])) (y_ev x (0, [(5, 1)])) (y_ev x (0, [(6, 1)])) (y_ev x (0, [(7, 1)])) (y_ev x (0, [(8, 1)])) (y_ev x (0, [(9, 1)])) (y_ev x (0, [(10, 1)])) (y_ev x (0, [(11, 1)])) (y_ev x (0, [(12, 1)])) (y_ev x (0, [(13, 1)])) (y_ev x (0, [(14, 1)])) := h.2.2.2.1
    (try simp only [l_e1, l_e0] at T0)
    have T1 : q_qry v (y_ev x (28, [])) (y_ev x (0, [(8, 1)])) (y_ev x (0, [(9, 1)])) (y_ev x (0, [(10, 1)])) (y_ev x (0, [(11, 1)])) (y_ev x (0, [(12, 1)])) (y_ev x (0, [(13, 1)])) (y_ev x (0, [(14, 1)])) (y_ev x (0, [(0, 1)])) (y_ev x (0, [(2, 1)])) (y_ev x (0, [(3, 1)])) := h.2.2.2.2.1
    (try simp only [l_e1, l_e0] at T1)
    have T2 : q_qry v (y_ev x (17, [])) (y_ev x (0, [(8, 1)])) (y_ev x (0, [(9, 1)])) (y_ev x (0, [(10, 1)])) (y_ev x (0, [(11, 1)])) (y_ev x (0, [(12, 1)])) (y_ev x (0, [(13, 1)])) (y_ev x (0, [(14, 1)])) (y_ev x (0, [(0, 1)])) (y_ev x (0, [])) (y_ev x (0, [(1, 1)])) := h.2.2.2.2.2.1
    (try simp only [l_e1, l_e0] at T2)
    have K := k_quaT2 (V := v) (i := x 0) (u := x 1) (bb := x 2) (l := x 3) (H := x 4) (p := x 5) (y := x 6) (d := x 7) (q := x 8) (b := x 9) (s := x 10) (o := x 11) (a1 := x 12) (a2 := x 13) (a3 := x 14) T0 T1 T2 C0 C1 C2 C3
    refine l_outH rfl (And.intro h.1 ?_)
    have O8 : y_ev x (1, [(0, 1)]) = x 0 + 1 := by show ((1) : Int) + ((1) * x 0 + 0) = _; omega
    show (True) ∧ (q_qry v (y_ev x (28, [])) (y_ev x (0, [(8, 1)])) (y_ev x (0, [(9, 1)])) (y_ev x (0, [(10, 1)])) (y_ev x (0, [(11, 1)])) (y_ev x (0, [(12, 1)])) (y_ev x (0, [(13, 1)])) (y_ev x (0, [(14, 1)])) (y_ev x (1, [(0, 1)])) (y_ev x (0, [(0, 1)])) (y_ev x (0, [(1, 1)])) ∧ True)
    (try rw [O8]); (try simp only [l_e1, l_e0])
    exact K
  | skip
    intro v x h
    have C0 : (0 : Int) ≤ x 0 - 1 := l_cc (a := y_ev x ((-1), [(0, 1)])) (by show ((-1) : Int) + ((1) * x 0 + 0) = x 0 - 1; omega) (h.2.1.1)
    have C1 : (0 : Int) ≤ x 5 - x 0 - 1 := l_cc (a := y_ev x ((-1), [(0, (-1)), (5, 1)])) (by show ((-1) : Int) + ((-1) * x 0 + ((1) * x 5 + 0)) = x 5 - x 0 - 1; omega) (h.2.1.2.1)
    have C2 : (0 : Int) ≤ x 2 := l_cc (a := y_ev x (0, [(2, 1)])) (l_e1 _ _) (h.2.1.2.2.1)
    have C3 : (0 : Int) ≤ x 3 - x 1 - 1 := l_cc (a := y_ev x ((-1), [(1, (-1)), (3, 1)])) (by show ((-1) : Int) + ((-1) * x 1 + ((1) * x 3 + 0)) = x 3 - x 1 - 1; omega) (h.2.1.2.2.2.1)
    have E0 : y_ev x (0, [(4, 1)]) = x 4 := (l_e1 _ _)
    have E1 : y_ev x (0, [(5, 1)]) = x 5 := (l_e1 _ _)
    have E2 : y_ev x (0, [(6, 1)]) = x 6 := (l_e1 _ _)
    have E3 : y_ev x (0, [(7, 1)]) = x 7 := (l_e1 _ _)
    have E4 : y_ev x (0, [(8, 1)]) = x 8 := (l_e1 _ _)
    have E5 : y_ev x (0, [(9, 1)]) = x 9 := (l_e1 _ _)
    have E6 : y_ev x (0, [(10, 1)]) = x 10 := (l_e1 _ _)
    have E7 : y_ev x (0, [(11, 1)]) = x 11 := (l_e1 _ _)
    have E8 : y_ev x (0, [(12, 1)]) = x 12 := (l_e1 _ _)
    have E9 : y_ev x (0, [(13, 1)]) = x 13 := (l_e1 _ _)
    have E10 : y_ev x (0, [(14, 1)]) = x 14 := (l_e1 _ _)
    have E11 : y_ev x (28, []) = 28 := (l_e0 _ _)
    have E12 : y_ev x (0, [(0, 1)]) = x 0 := (l_e1 _ _)
    have E13 : y_ev x (0, [(2, 1)]) = x 2 := (l_e1 _ _)
    have E14 : y_ev x (0, [(3, 1)]) = x 3 := (l_e1 _ _)
    have E15 : y_ev x (17, []) = 17 := (l_e0 _ _)
    have E16 : y_ev x (0, []) = 0 := (l_e0 _ _)
    have E17 : y_ev x (0, [(1, 1)]) = x 1 := (l_e1 _ _)
    have T0 : q_sto v 0 (y_ev x (0, [(4, 1)])) (y_ev x (0, [(5, 1)])) (y_ev x (0, [(6, 1)])) (y_ev x (0, [(7, 1)])) (y_ev x (0, [(8, 1)])) (y_ev x (0, [(9, 1)])) (y_ev x (0, [(10, 1)])) (y_ev x (0, [(11, 1)])) (y_ev x (0, [(12, 1)])) (y_ev x (0, [(13, 1)])) (y_ev x (0, [(14, 1)])) := h.2.2.2.1
    (try rw [E0] at T0); (try rw [E1] at T0); (try rw [E2] at T0); (try rw [E3] at T0); (try rw [E4] at T0); (try rw [E5] at T0); (try rw [E6] at T0); (try rw [E7] at T0); (try rw [E8] at T0); (try rw [E9] at T0); (try rw [E10] at T0)
    have T1 : q_qry v (y_ev x (28, [])) (y_ev x (0, [(8, 1)])) (y_ev x (0, [(9, 1)])) (y_ev x (0, [(10, 1)])) (y_ev x (0, [(11, 1)])) (y_ev x (0, [(12, 1)])) (y_ev x (0, [(13, 1)])) (y_ev x (0, [(14, 1)])) (y_ev x (0, [(0, 1)])) (y_ev x (0, [(2, 1)])) (y_ev x (0, [(3, 1)])) := h.2.2.2.2.1
    (try rw [E11] at T1); (try rw [E4] at T1); (try rw [E5] at T1); (try rw [E6] at T1); (try rw [E7] at T1); (try rw [E8] at T1); (try rw [E9] at T1); (try rw [E10] at T1); (try rw [E12] at T1); (try rw [E13] at T1); (try rw [E14] at T1)
    have T2 : q_qry v (y_ev x (17, [])) (y_ev x (0, [(8, 1)])) (y_ev x (0, [(9, 1)])) (y_ev x (0, [(10, 1)])) (y_ev x (0, [(11, 1)])) (y_ev x (0, [(12, 1)])) (y_ev x (0, [(13, 1)])) (y_ev x (0, [(14, 1)])) (y_ev x (0, [(0, 1)])) (y_ev x (0, [])) (y_ev x (0, [(1, 1)])) := h.2.2.2.2.2.1
    (try rw [E15] at T2); (try rw [E4] at T2); (try rw [E5] at T2); (try rw [E6] at T2); (try rw [E7] at T2); (try rw [E8] at T2); (try rw [E9] at T2); (try rw [E10] at T2); (try rw [E12] at T2); (try rw [E16] at T2); (try rw [E17] at T2)
    have K := k_quaT2 (V := v) (i := x 0) (u := x 1) (bb := x 2) (l := x 3) (H := x 4) (p := x 5) (y := x 6) (d := x 7) (q := x 8) (b := x 9) (s := x 10) (o := x 11) (a1 := x 12) (a2 := x 13) (a3 := x 14) T0 T1 T2 C0 C1 C2 C3
    refine l_outH rfl (And.intro h.1 ?_)
    have O0 : y_ev x (28, []) = 28 := l_e0 _ _
    have O1 : y_ev x (0, [(8, 1)]) = x 8 := l_e1 _ _
    have O2 : y_ev x (0, [(9, 1)]) = x 9 := l_e1 _ _
    have O3 : y_ev x (0, [(10, 1)]) = x 10 := l_e1 _ _
    have O4 : y_ev x (0, [(11, 1)]) = x 11 := l_e1 _ _
    have O5 : y_ev x (0, [(12, 1)]) = x 12 := l_e1 _ _
    have O6 : y_ev x (0, [(13, 1)]) = x 13 := l_e1 _ _
    have O7 : y_ev x (0, [(14, 1)]) = x 14 := l_e1 _ _
    have O8 : y_ev x (1, [(0, 1)]) = x 0 + 1 := by show ((1) : Int) + ((1) * x 0 + 0) = _; omega
    have O9 : y_ev x (0, [(0, 1)]) = x 0 := l_e1 _ _
    have O10 : y_ev x (0, [(1, 1)]) = x 1 := l_e1 _ _
    show (True) ∧ (q_qry v (y_ev x (28, [])) (y_ev x (0, [(8, 1)])) (y_ev x (0, [(9, 1)])) (y_ev x (0, [(10, 1)])) (y_ev x (0, [(11, 1)])) (y_ev x (0, [(12, 1)])) (y_ev x (0, [(13, 1)])) (y_ev x (0, [(14, 1)])) (y_ev x (1, [(0, 1)])) (y_ev x (0, [(0, 1)])) (y_ev x (0, [(1, 1)])) ∧ True)
    (try rw [O0]); (try rw [O1]); (try rw [O2]); (try rw [O3]); (try rw [O4]); (try rw [O5]); (try rw [O6]); (try rw [O7]); (try rw [O8]); (try rw [O9]); (try rw [O10])
    exact K
def lm_1062p : zS := ((lm_650pi_0 (lm_650pi_1 [])), [(78, false)], [((-1), [(0, 1)]), ((-1), [(0, (-1)), (4, 1)]), (0, [(2, 1)]), ((-1), [(1, (-1)), (3, 1)])], [], [(0, 0, 0, [(0, 1)]), (0, 0, 0, [(1, 1)])], [(0, (true, 0, 24, []), 0, 0, 0, [(4, 1)])], (lm_1060pg_0 []))
def lm_1062 : zLem := (lm_1062p, [([((-2147483648), 2147483647), ((-2147483648), 2147483647), ((-2147483648), 2147483647), ((-2147483648), 2147483647), ((-2147483648), 2147483647), ((-2147483648), 2147483647), ((-2147483648), 2147483647), ((-2147483648), 2147483647), ((-2147483648), 2147483647), ((-2147483648), 2147483647), ((-2147483648), 2147483647), ((-2147483648), 2147483647), ((-2147483648), 2147483647)], [(78, false)], [], [], [], [], [(238, [(28, []), (0, [(6, 1)]), (0, [(7, 1)]), (0, [(8, 1)]), (0, [(9, 1)]), (0, [(10, 1)]), (0, [(11, 1)]), (0, [(12, 1)]), (1, [(0, 1)]), (0, [(0, 1)]), (0, [(1, 1)])])])])
theorem lk_1062 : l_core lm_1062 := by
  first
  | skip
    intro v x h
    have G0 := h.2.2.1
    have C0 : (0 : Int) ≤ x 0 - 1 := l_cc (a := y_ev x ((-1), [(0, 1)])) (by show ((-1) : Int) + ((1) * x 0 + 0) = x 0 - 1; omega) (h.2.1.1)
    have C1 : (0 : Int) ≤ x 4 - x 0 - 1 := l_cc (a := y_ev x ((-1), [(0, (-1)), (4, 1)])) (by show ((-1) : Int) + ((-1) * x 0 + ((1) * x 4 + 0)) = x 4 - x 0 - 1; omega) (h.2.1.2.1)
    have C2 : (0 : Int) ≤ x 2 := l_cc (a := y_ev x (0, [(2, 1)])) (l_e1 _ _) (h.2.1.2.2.1)
    have C3 : (0 : Int) ≤ x 3 - x 1 - 1 := l_cc (a := y_ev x ((-1), [(1, (-1)), (3, 1)])) (by show ((-1) : Int) + ((-1) * x 1 + ((1) * x 3 + 0)) = x 3 - x 1 - 1; omega) (h.2.1.2.2.2.1)
    have F0 : (0 : Int) ≤ 24 ∧ (24 : Int) < j_len 78 ∧ v 78 (24) = x 4 := l_ff (f := v 78) (L := j_len 78) (a := y_ev x (24, [])) (b := y_ev x (0, [(4, 1)])) (l_e0 _ _) (l_e1 _ _) (G0.1.1)
    have T0 : q_rwo v (y_ev x (0, [(5, 1)])) (y_ev x (0, [(6, 1)])) (y_ev x (0, [(7, 1)])) (y_ev x (0, [(8, 1)])) (y_ev x (0, [(9, 1)])) (y_ev x (0, [(10, 1)])) (y_ev x (0, [(11, 1)])) (y_ev x (0, [(12, 1)])) := h.2.2.2.1
    (try simp only [l_e1, l_e0] at T0)
    have T1 : q_qry v (y_ev x (28, [])) (y_ev x (0, [(6, 1)])) (y_ev x (0, [(7, 1)])) (y_ev x (0, [(8, 1)])) (y_ev x (0, [(9, 1)])) (y_ev x (0, [(10, 1)])) (y_ev x (0, [(11, 1)])) (y_ev x (0, [(12, 1)])) (y_ev x (0, [(0, 1)])) (y_ev x (0, [(2, 1)])) (y_ev x (0, [(3, 1)])) := h.2.2.2.2.1
    (try simp only [l_e1, l_e0] at T1)
    have T2 : q_qry v (y_ev x (17, [])) (y_ev x (0, [(6, 1)])) (y_ev x (0, [(7, 1)])) (y_ev x (0, [(8, 1)])) (y_ev x (0, [(9, 1)])) (y_ev x (0, [(10, 1)])) (y_ev x (0, [(11, 1)])) (y_ev x (0, [(12, 1)])) (y_ev x (0, [(0, 1)])) (y_ev x (0, [])) (y_ev x (0, [(1, 1)])) := h.2.2.2.2.2.1
    (try simp only [l_e1, l_e0] at T2)
    have K := k_mquT2 (V := v) (i := x 0) (u := x 1) (bb := x 2) (l := x 3) (p := x 4) (H := x 5) (q := x 6) (b := x 7) (s := x 8) (o := x 9) (a1 := x 10) (a2 := x 11) (a3 := x 12) T0 T1 T2 C0 C1 C2 C3 F0
    refine l_outH rfl (And.intro h.1 ?_)
    have O8 : y_ev x (1, [(0, 1)]) = x 0 + 1 := by show ((1) : Int) + ((1) * x 0 + 0) = _; omega
    show (True) ∧ (q_qry v (y_ev x (28, [])) (y_ev x (0, [(6, 1)])) (y_ev x (0, [(7, 1)])) (y_ev x (0, [(8, 1)])) (y_ev x (0, [(9, 1)])) (y_ev x (0, [(10, 1)])) (y_ev x (0, [(11, 1)])) (y_ev x (0, [(12, 1)])) (y_ev x (1, [(0, 1)])) (y_ev x (0, [(0, 1)])) (y_ev x (0, [(1, 1)])) ∧ True)
    (try rw [O8]); (try simp only [l_e1, l_e0])
    exact K
  | skip
    intro v x h
    have G0 := h.2.2.1
    have C0 : (0 : Int) ≤ x 0 - 1 := l_cc (a := y_ev x ((-1), [(0, 1)])) (by show ((-1) : Int) + ((1) * x 0 + 0) = x 0 - 1; omega) (h.2.1.1)
    have C1 : (0 : Int) ≤ x 4 - x 0 - 1 := l_cc (a := y_ev x ((-1), [(0, (-1)), (4, 1)])) (by show ((-1) : Int) + ((-1) * x 0 + ((1) * x 4 + 0)) = x 4 - x 0 - 1; omega) (h.2.1.2.1)
    have C2 : (0 : Int) ≤ x 2 := l_cc (a := y_ev x (0, [(2, 1)])) (l_e1 _ _) (h.2.1.2.2.1)
    have C3 : (0 : Int) ≤ x 3 - x 1 - 1 := l_cc (a := y_ev x ((-1), [(1, (-1)), (3, 1)])) (by show ((-1) : Int) + ((-1) * x 1 + ((1) * x 3 + 0)) = x 3 - x 1 - 1; omega) (h.2.1.2.2.2.1)
    have F0 : (0 : Int) ≤ 24 ∧ (24 : Int) < j_len 78 ∧ v 78 (24) = x 4 := l_ff (f := v 78) (L := j_len 78) (a := y_ev x (24, [])) (b := y_ev x (0, [(4, 1)])) (l_e0 _ _) (l_e1 _ _) (G0.1.1)
    have E0 : y_ev x (0, [(5, 1)]) = x 5 := (l_e1 _ _)
    have E1 : y_ev x (0, [(6, 1)]) = x 6 := (l_e1 _ _)
    have E2 : y_ev x (0, [(7, 1)]) = x 7 := (l_e1 _ _)
    have E3 : y_ev x (0, [(8, 1)]) = x 8 := (l_e1 _ _)
    have E4 : y_ev x (0, [(9, 1)]) = x 9 := (l_e1 _ _)
    have E5 : y_ev x (0, [(10, 1)]) = x 10 := (l_e1 _ _)
    have E6 : y_ev x (0, [(11, 1)]) = x 11 := (l_e1 _ _)
    have E7 : y_ev x (0, [(12, 1)]) = x 12 := (l_e1 _ _)
    have E8 : y_ev x (28, []) = 28 := (l_e0 _ _)
    have E9 : y_ev x (0, [(0, 1)]) = x 0 := (l_e1 _ _)
    have E10 : y_ev x (0, [(2, 1)]) = x 2 := (l_e1 _ _)
    have E11 : y_ev x (0, [(3, 1)]) = x 3 := (l_e1 _ _)
    have E12 : y_ev x (17, []) = 17 := (l_e0 _ _)
    have E13 : y_ev x (0, []) = 0 := (l_e0 _ _)
    have E14 : y_ev x (0, [(1, 1)]) = x 1 := (l_e1 _ _)
    have T0 : q_rwo v (y_ev x (0, [(5, 1)])) (y_ev x (0, [(6, 1)])) (y_ev x (0, [(7, 1)])) (y_ev x (0, [(8, 1)])) (y_ev x (0, [(9, 1)])) (y_ev x (0, [(10, 1)])) (y_ev x (0, [(11, 1)])) (y_ev x (0, [(12, 1)])) := h.2.2.2.1
    (try rw [E0] at T0); (try rw [E1] at T0); (try rw [E2] at T0); (try rw [E3] at T0); (try rw [E4] at T0); (try rw [E5] at T0); (try rw [E6] at T0); (try rw [E7] at T0)
    have T1 : q_qry v (y_ev x (28, [])) (y_ev x (0, [(6, 1)])) (y_ev x (0, [(7, 1)])) (y_ev x (0, [(8, 1)])) (y_ev x (0, [(9, 1)])) (y_ev x (0, [(10, 1)])) (y_ev x (0, [(11, 1)])) (y_ev x (0, [(12, 1)])) (y_ev x (0, [(0, 1)])) (y_ev x (0, [(2, 1)])) (y_ev x (0, [(3, 1)])) := h.2.2.2.2.1
    (try rw [E8] at T1); (try rw [E1] at T1); (try rw [E2] at T1); (try rw [E3] at T1); (try rw [E4] at T1); (try rw [E5] at T1); (try rw [E6] at T1); (try rw [E7] at T1); (try rw [E9] at T1); (try rw [E10] at T1); (try rw [E11] at T1)
    have T2 : q_qry v (y_ev x (17, [])) (y_ev x (0, [(6, 1)])) (y_ev x (0, [(7, 1)])) (y_ev x (0, [(8, 1)])) (y_ev x (0, [(9, 1)])) (y_ev x (0, [(10, 1)])) (y_ev x (0, [(11, 1)])) (y_ev x (0, [(12, 1)])) (y_ev x (0, [(0, 1)])) (y_ev x (0, [])) (y_ev x (0, [(1, 1)])) := h.2.2.2.2.2.1
    (try rw [E12] at T2); (try rw [E1] at T2); (try rw [E2] at T2); (try rw [E3] at T2); (try rw [E4] at T2); (try rw [E5] at T2); (try rw [E6] at T2); (try rw [E7] at T2); (try rw [E9] at T2); (try rw [E13] at T2); (try rw [E14] at T2)
    have K := k_mquT2 (V := v) (i := x 0) (u := x 1) (bb := x 2) (l := x 3) (p := x 4) (H := x 5) (q := x 6) (b := x 7) (s := x 8) (o := x 9) (a1 := x 10) (a2 := x 11) (a3 := x 12) T0 T1 T2 C0 C1 C2 C3 F0
    refine l_outH rfl (And.intro h.1 ?_)
    have O0 : y_ev x (28, []) = 28 := l_e0 _ _
    have O1 : y_ev x (0, [(6, 1)]) = x 6 := l_e1 _ _
    have O2 : y_ev x (0, [(7, 1)]) = x 7 := l_e1 _ _
    have O3 : y_ev x (0, [(8, 1)]) = x 8 := l_e1 _ _
    have O4 : y_ev x (0, [(9, 1)]) = x 9 := l_e1 _ _
    have O5 : y_ev x (0, [(10, 1)]) = x 10 := l_e1 _ _
    have O6 : y_ev x (0, [(11, 1)]) = x 11 := l_e1 _ _
    have O7 : y_ev x (0, [(12, 1)]) = x 12 := l_e1 _ _
    have O8 : y_ev x (1, [(0, 1)]) = x 0 + 1 := by show ((1) : Int) + ((1) * x 0 + 0) = _; omega
    have O9 : y_ev x (0, [(0, 1)]) = x 0 := l_e1 _ _
    have O10 : y_ev x (0, [(1, 1)]) = x 1 := l_e1 _ _
    show (True) ∧ (q_qry v (y_ev x (28, [])) (y_ev x (0, [(6, 1)])) (y_ev x (0, [(7, 1)])) (y_ev x (0, [(8, 1)])) (y_ev x (0, [(9, 1)])) (y_ev x (0, [(10, 1)])) (y_ev x (0, [(11, 1)])) (y_ev x (0, [(12, 1)])) (y_ev x (1, [(0, 1)])) (y_ev x (0, [(0, 1)])) (y_ev x (0, [(1, 1)])) ∧ True)
    (try rw [O0]); (try rw [O1]); (try rw [O2]); (try rw [O3]); (try rw [O4]); (try rw [O5]); (try rw [O6]); (try rw [O7]); (try rw [O8]); (try rw [O9]); (try rw [O10])
    exact K
def lm_1063p : zS := ((lm_624pi_0 (lm_624pi_1 [])), [], [((-1), [(0, 1)]), ((-1), [(0, (-1)), (5, 1)]), (0, [(2, 1)]), (0, [(1, 1), (3, (-1))])], [], [(0, 0, 0, [(0, 1)]), (0, 0, 0, [(2, 1)]), (0, 0, 0, [(3, 1)]), (0, 0, 0, [(1, 1)])], [], (lm_1059pg_0 []))
def lm_1063 : zLem := (lm_1063p, [([((-2147483648), 2147483647), ((-2147483648), 2147483647), ((-2147483648), 2147483647), ((-2147483648), 2147483647), ((-2147483648), 2147483647), ((-2147483648), 2147483647), ((-2147483648), 2147483647), ((-2147483648), 2147483647), ((-2147483648), 2147483647), ((-2147483648), 2147483647), ((-2147483648), 2147483647), ((-2147483648), 2147483647), ((-2147483648), 2147483647), ((-2147483648), 2147483647), ((-2147483648), 2147483647)], [], [], [], [], [], [(238, [(28, []), (0, [(8, 1)]), (0, [(9, 1)]), (0, [(10, 1)]), (0, [(11, 1)]), (0, [(12, 1)]), (0, [(13, 1)]), (0, [(14, 1)]), (1, [(0, 1)]), (0, [(2, 1)]), (0, [(3, 1)])])])])
theorem lk_1063 : l_core lm_1063 := by
  first
  | skip
    intro v x h
    have C0 : (0 : Int) ≤ x 0 - 1 := l_cc (a := y_ev x ((-1), [(0, 1)])) (by show ((-1) : Int) + ((1) * x 0 + 0) = x 0 - 1; omega) (h.2.1.1)
    have C1 : (0 : Int) ≤ x 5 - x 0 - 1 := l_cc (a := y_ev x ((-1), [(0, (-1)), (5, 1)])) (by show ((-1) : Int) + ((-1) * x 0 + ((1) * x 5 + 0)) = x 5 - x 0 - 1; omega) (h.2.1.2.1)
    have C2 : (0 : Int) ≤ x 2 := l_cc (a := y_ev x (0, [(2, 1)])) (l_e1 _ _) (h.2.1.2.2.1)
    have C3 : (0 : Int) ≤ x 1 - x 3 := l_cc (a := y_ev x (0, [(1, 1), (3, (-1))])) (by show ((0) : Int) + ((1) * x 1 + ((-1) * x 3 + 0)) = x 1 - x 3; omega) (h.2.1.2.2.2.1)
    have T0 : q_sto v 0 (y_ev x (0, [(4, 1)])) (y_ev x (0, [(5, 1)])) (y_ev x (0, [(6, 1)])) (y_ev x (0, [(7, 1)])) (y_ev x (0, [(8, 1)])) (y_ev x (0, [(9, 1)])) (y_ev x (0, [(10, 1)])) (y_ev x (0, [(11, 1)])) (y_ev x (0, [(12, 1)])) (y_ev x (0, [(13, 1)])) (y_ev x (0, [(14, 1)])) := h.2.2.2.1
    (try simp only [l_e1, l_e0] at T0)
    have T1 : q_qry v (y_ev x (28, [])) (y_ev x (0, [(8, 1)])) (y_ev x (0, [(9, 1)])) (y_ev x (0, [(10, 1)])) (y_ev x (0, [(11, 1)])) (y_ev x (0, [(12, 1)])) (y_ev x (0, [(13, 1)])) (y_ev x (0, [(14, 1)])) (y_ev x (0, [(0, 1)])) (y_ev x (0, [(2, 1)])) (y_ev x (0, [(3, 1)])) := h.2.2.2.2.1
    (try simp only [l_e1, l_e0] at T1)
    have T2 : q_qry v (y_ev x (17, [])) (y_ev x (0, [(8, 1)])) (y_ev x (0, [(9, 1)])) (y_ev x (0, [(10, 1)])) (y_ev x (0, [(11, 1)])) (y_ev x (0, [(12, 1)])) (y_ev x (0, [(13, 1)])) (y_ev x (0, [(14, 1)])) (y_ev x (0, [(0, 1)])) (y_ev x (0, [])) (y_ev x (0, [(1, 1)])) := h.2.2.2.2.2.1
    (try simp only [l_e1, l_e0] at T2)
    have K := k_quaN (V := v) (i := x 0) (u := x 1) (bb := x 2) (l := x 3) (H := x 4) (p := x 5) (y := x 6) (d := x 7) (q := x 8) (b := x 9) (s := x 10) (o := x 11) (a1 := x 12) (a2 := x 13) (a3 := x 14) T0 T1 T2 C0 C1 C2 C3
    refine l_outH rfl (And.intro h.1 ?_)
    have O8 : y_ev x (1, [(0, 1)]) = x 0 + 1 := by show ((1) : Int) + ((1) * x 0 + 0) = _; omega
    show (True) ∧ (q_qry v (y_ev x (28, [])) (y_ev x (0, [(8, 1)])) (y_ev x (0, [(9, 1)])) (y_ev x (0, [(10, 1)])) (y_ev x (0, [(11, 1)])) (y_ev x (0, [(12, 1)])) (y_ev x (0, [(13, 1)])) (y_ev x (0, [(14, 1)])) (y_ev x (1, [(0, 1)])) (y_ev x (0, [(2, 1)])) (y_ev x (0, [(3, 1)])) ∧ True)
    (try rw [O8]); (try simp only [l_e1, l_e0])
    exact K
  | skip
    intro v x h
    have C0 : (0 : Int) ≤ x 0 - 1 := l_cc (a := y_ev x ((-1), [(0, 1)])) (by show ((-1) : Int) + ((1) * x 0 + 0) = x 0 - 1; omega) (h.2.1.1)
    have C1 : (0 : Int) ≤ x 5 - x 0 - 1 := l_cc (a := y_ev x ((-1), [(0, (-1)), (5, 1)])) (by show ((-1) : Int) + ((-1) * x 0 + ((1) * x 5 + 0)) = x 5 - x 0 - 1; omega) (h.2.1.2.1)
    have C2 : (0 : Int) ≤ x 2 := l_cc (a := y_ev x (0, [(2, 1)])) (l_e1 _ _) (h.2.1.2.2.1)
    have C3 : (0 : Int) ≤ x 1 - x 3 := l_cc (a := y_ev x (0, [(1, 1), (3, (-1))])) (by show ((0) : Int) + ((1) * x 1 + ((-1) * x 3 + 0)) = x 1 - x 3; omega) (h.2.1.2.2.2.1)
    have E0 : y_ev x (0, [(4, 1)]) = x 4 := (l_e1 _ _)
    have E1 : y_ev x (0, [(5, 1)]) = x 5 := (l_e1 _ _)
    have E2 : y_ev x (0, [(6, 1)]) = x 6 := (l_e1 _ _)
    have E3 : y_ev x (0, [(7, 1)]) = x 7 := (l_e1 _ _)
    have E4 : y_ev x (0, [(8, 1)]) = x 8 := (l_e1 _ _)
    have E5 : y_ev x (0, [(9, 1)]) = x 9 := (l_e1 _ _)
    have E6 : y_ev x (0, [(10, 1)]) = x 10 := (l_e1 _ _)
    have E7 : y_ev x (0, [(11, 1)]) = x 11 := (l_e1 _ _)
    have E8 : y_ev x (0, [(12, 1)]) = x 12 := (l_e1 _ _)
    have E9 : y_ev x (0, [(13, 1)]) = x 13 := (l_e1 _ _)
    have E10 : y_ev x (0, [(14, 1)]) = x 14 := (l_e1 _ _)
    have E11 : y_ev x (28, []) = 28 := (l_e0 _ _)
    have E12 : y_ev x (0, [(0, 1)]) = x 0 := (l_e1 _ _)
    have E13 : y_ev x (0, [(2, 1)]) = x 2 := (l_e1 _ _)
    have E14 : y_ev x (0, [(3, 1)]) = x 3 := (l_e1 _ _)
    have E15 : y_ev x (17, []) = 17 := (l_e0 _ _)
    have E16 : y_ev x (0, []) = 0 := (l_e0 _ _)
    have E17 : y_ev x (0, [(1, 1)]) = x 1 := (l_e1 _ _)
    have T0 : q_sto v 0 (y_ev x (0, [(4, 1)])) (y_ev x (0, [(5, 1)])) (y_ev x (0, [(6, 1)])) (y_ev x (0, [(7, 1)])) (y_ev x (0, [(8, 1)])) (y_ev x (0, [(9, 1)])) (y_ev x (0, [(10, 1)])) (y_ev x (0, [(11, 1)])) (y_ev x (0, [(12, 1)])) (y_ev x (0, [(13, 1)])) (y_ev x (0, [(14, 1)])) := h.2.2.2.1
    (try rw [E0] at T0); (try rw [E1] at T0); (try rw [E2] at T0); (try rw [E3] at T0); (try rw [E4] at T0); (try rw [E5] at T0); (try rw [E6] at T0); (try rw [E7] at T0); (try rw [E8] at T0); (try rw [E9] at T0); (try rw [E10] at T0)
    have T1 : q_qry v (y_ev x (28, [])) (y_ev x (0, [(8, 1)])) (y_ev x (0, [(9, 1)])) (y_ev x (0, [(10, 1)])) (y_ev x (0, [(11, 1)])) (y_ev x (0, [(12, 1)])) (y_ev x (0, [(13, 1)])) (y_ev x (0, [(14, 1)])) (y_ev x (0, [(0, 1)])) (y_ev x (0, [(2, 1)])) (y_ev x (0, [(3, 1)])) := h.2.2.2.2.1
    (try rw [E11] at T1); (try rw [E4] at T1); (try rw [E5] at T1); (try rw [E6] at T1); (try rw [E7] at T1); (try rw [E8] at T1); (try rw [E9] at T1); (try rw [E10] at T1); (try rw [E12] at T1); (try rw [E13] at T1); (try rw [E14] at T1)
    have T2 : q_qry v (y_ev x (17, [])) (y_ev x (0, [(8, 1)])) (y_ev x (0, [(9, 1)])) (y_ev x (0, [(10, 1)])) (y_ev x (0, [(11, 1)])) (y_ev x (0, [(12, 1)])) (y_ev x (0, [(13, 1)])) (y_ev x (0, [(14, 1)])) (y_ev x (0, [(0, 1)])) (y_ev x (0, [])) (y_ev x (0, [(1, 1)])) := h.2.2.2.2.2.1
    (try rw [E15] at T2); (try rw [E4] at T2); (try rw [E5] at T2); (try rw [E6] at T2); (try rw [E7] at T2); (try rw [E8] at T2); (try rw [E9] at T2); (try rw [E10] at T2); (try rw [E12] at T2); (try rw [E16] at T2); (try rw [E17] at T2)
    have K := k_quaN (V := v) (i := x 0) (u := x 1) (bb := x 2) (l := x 3) (H := x 4) (p := x 5) (y := x 6) (d := x 7) (q := x 8) (b := x 9) (s := x 10) (o := x 11) (a1 := x 12) (a2 := x 13) (a3 := x 14) T0 T1 T2 C0 C1 C2 C3
    refine l_outH rfl (And.intro h.1 ?_)
    have O0 : y_ev x (28, []) = 28 := l_e0 _ _
    have O1 : y_ev x (0, [(8, 1)]) = x 8 := l_e1 _ _
    have O2 : y_ev x (0, [(9, 1)]) = x 9 := l_e1 _ _
    have O3 : y_ev x (0, [(10, 1)]) = x 10 := l_e1 _ _
    have O4 : y_ev x (0, [(11, 1)]) = x 11 := l_e1 _ _
    have O5 : y_ev x (0, [(12, 1)]) = x 12 := l_e1 _ _
    have O6 : y_ev x (0, [(13, 1)]) = x 13 := l_e1 _ _
    have O7 : y_ev x (0, [(14, 1)]) = x 14 := l_e1 _ _
    have O8 : y_ev x (1, [(0, 1)]) = x 0 + 1 := by show ((1) : Int) + ((1) * x 0 + 0) = _; omega
    have O9 : y_ev x (0, [(2, 1)]) = x 2 := l_e1 _ _
    have O10 : y_ev x (0, [(3, 1)]) = x 3 := l_e1 _ _
    show (True) ∧ (q_qry v (y_ev x (28, [])) (y_ev x (0, [(8, 1)])) (y_ev x (0, [(9, 1)])) (y_ev x (0, [(10, 1)])) (y_ev x (0, [(11, 1)])) (y_ev x (0, [(12, 1)])) (y_ev x (0, [(13, 1)])) (y_ev x (0, [(14, 1)])) (y_ev x (1, [(0, 1)])) (y_ev x (0, [(2, 1)])) (y_ev x (0, [(3, 1)])) ∧ True)
    (try rw [O0]); (try rw [O1]); (try rw [O2]); (try rw [O3]); (try rw [O4]); (try rw [O5]); (try rw [O6]); (try rw [O7]); (try rw [O8]); (try rw [O9]); (try rw [O10])
    exact K
def lm_1064p : zS := ((lm_650pi_0 (lm_650pi_1 [])), [(78, false)], [((-1), [(0, 1)]), ((-1), [(0, (-1)), (4, 1)]), (0, [(2, 1)]), (0, [(1, 1), (3, (-1))])], [], [(0, 0, 0, [(0, 1)]), (0, 0, 0, [(2, 1)]), (0, 0, 0, [(3, 1)]), (0, 0, 0, [(1, 1)])], [(0, (true, 0, 24, []), 0, 0, 0, [(4, 1)])], (lm_1060pg_0 []))
def lm_1064 : zLem := (lm_1064p, [([((-2147483648), 2147483647), ((-2147483648), 2147483647), ((-2147483648), 2147483647), ((-2147483648), 2147483647), ((-2147483648), 2147483647), ((-2147483648), 2147483647), ((-2147483648), 2147483647), ((-2147483648), 2147483647), ((-2147483648), 2147483647), ((-2147483648), 2147483647), ((-2147483648), 2147483647), ((-2147483648), 2147483647), ((-2147483648), 2147483647)], [(78, false)], [], [], [], [], [(238, [(28, []), (0, [(6, 1)]), (0, [(7, 1)]), (0, [(8, 1)]), (0, [(9, 1)]), (0, [(10, 1)]), (0, [(11, 1)]), (0, [(12, 1)]), (1, [(0, 1)]), (0, [(2, 1)]), (0, [(3, 1)])])])])
theorem lk_1064 : l_core lm_1064 := by
  first
  | skip
    intro v x h
    have G0 := h.2.2.1
    have C0 : (0 : Int) ≤ x 0 - 1 := l_cc (a := y_ev x ((-1), [(0, 1)])) (by show ((-1) : Int) + ((1) * x 0 + 0) = x 0 - 1; omega) (h.2.1.1)
    have C1 : (0 : Int) ≤ x 4 - x 0 - 1 := l_cc (a := y_ev x ((-1), [(0, (-1)), (4, 1)])) (by show ((-1) : Int) + ((-1) * x 0 + ((1) * x 4 + 0)) = x 4 - x 0 - 1; omega) (h.2.1.2.1)
    have C2 : (0 : Int) ≤ x 2 := l_cc (a := y_ev x (0, [(2, 1)])) (l_e1 _ _) (h.2.1.2.2.1)
    have C3 : (0 : Int) ≤ x 1 - x 3 := l_cc (a := y_ev x (0, [(1, 1), (3, (-1))])) (by show ((0) : Int) + ((1) * x 1 + ((-1) * x 3 + 0)) = x 1 - x 3; omega) (h.2.1.2.2.2.1)
    have F0 : (0 : Int) ≤ 24 ∧ (24 : Int) < j_len 78 ∧ v 78 (24) = x 4 := l_ff (f := v 78) (L := j_len 78) (a := y_ev x (24, [])) (b := y_ev x (0, [(4, 1)])) (l_e0 _ _) (l_e1 _ _) (G0.1.1)
    have T0 : q_rwo v (y_ev x (0, [(5, 1)])) (y_ev x (0, [(6, 1)])) (y_ev x (0, [(7, 1)])) (y_ev x (0, [(8, 1)])) (y_ev x (0, [(9, 1)])) (y_ev x (0, [(10, 1)])) (y_ev x (0, [(11, 1)])) (y_ev x (0, [(12, 1)])) := h.2.2.2.1
    (try simp only [l_e1, l_e0] at T0)
    have T1 : q_qry v (y_ev x (28, [])) (y_ev x (0, [(6, 1)])) (y_ev x (0, [(7, 1)])) (y_ev x (0, [(8, 1)])) (y_ev x (0, [(9, 1)])) (y_ev x (0, [(10, 1)])) (y_ev x (0, [(11, 1)])) (y_ev x (0, [(12, 1)])) (y_ev x (0, [(0, 1)])) (y_ev x (0, [(2, 1)])) (y_ev x (0, [(3, 1)])) := h.2.2.2.2.1
    (try simp only [l_e1, l_e0] at T1)
    have T2 : q_qry v (y_ev x (17, [])) (y_ev x (0, [(6, 1)])) (y_ev x (0, [(7, 1)])) (y_ev x (0, [(8, 1)])) (y_ev x (0, [(9, 1)])) (y_ev x (0, [(10, 1)])) (y_ev x (0, [(11, 1)])) (y_ev x (0, [(12, 1)])) (y_ev x (0, [(0, 1)])) (y_ev x (0, [])) (y_ev x (0, [(1, 1)])) := h.2.2.2.2.2.1
    (try simp only [l_e1, l_e0] at T2)
    have K := k_mquN (V := v) (i := x 0) (u := x 1) (bb := x 2) (l := x 3) (p := x 4) (H := x 5) (q := x 6) (b := x 7) (s := x 8) (o := x 9) (a1 := x 10) (a2 := x 11) (a3 := x 12) T0 T1 T2 C0 C1 C2 C3 F0
    refine l_outH rfl (And.intro h.1 ?_)
    have O8 : y_ev x (1, [(0, 1)]) = x 0 + 1 := by show ((1) : Int) + ((1) * x 0 + 0) = _; omega
    show (True) ∧ (q_qry v (y_ev x (28, [])) (y_ev x (0, [(6, 1)])) (y_ev x (0, [(7, 1)])) (y_ev x (0, [(8, 1)])) (y_ev x (0, [(9, 1)])) (y_ev x (0, [(10, 1)])) (y_ev x (0, [(11, 1)])) (y_ev x (0, [(12, 1)])) (y_ev x (1, [(0, 1)])) (y_ev x (0, [(2, 1)])) (y_ev x (0, [(3, 1)])) ∧ True)
    (try rw [O8]); (try simp only [l_e1, l_e0])
    exact K
  | skip
    intro v x h
    have G0 := h.2.2.1
    have C0 : (0 : Int) ≤ x 0 - 1 := l_cc (a := y_ev x ((-1), [(0, 1)])) (by show ((-1) : Int) + ((1) * x 0 + 0) = x 0 - 1; omega) (h.2.1.1)
    have C1 : (0 : Int) ≤ x 4 - x 0 - 1 := l_cc (a := y_ev x ((-1), [(0, (-1)), (4, 1)])) (by show ((-1) : Int) + ((-1) * x 0 + ((1) * x 4 + 0)) = x 4 - x 0 - 1; omega) (h.2.1.2.1)
    have C2 : (0 : Int) ≤ x 2 := l_cc (a := y_ev x (0, [(2, 1)])) (l_e1 _ _) (h.2.1.2.2.1)
    have C3 : (0 : Int) ≤ x 1 - x 3 := l_cc (a := y_ev x (0, [(1, 1), (3, (-1))])) (by show ((0) : Int) + ((1) * x 1 + ((-1) * x 3 + 0)) = x 1 - x 3; omega) (h.2.1.2.2.2.1)
    have F0 : (0 : Int) ≤ 24 ∧ (24 : Int) < j_len 78 ∧ v 78 (24) = x 4 := l_ff (f := v 78) (L := j_len 78) (a := y_ev x (24, [])) (b := y_ev x (0, [(4, 1)])) (l_e0 _ _) (l_e1 _ _) (G0.1.1)
    have E0 : y_ev x (0, [(5, 1)]) = x 5 := (l_e1 _ _)
    have E1 : y_ev x (0, [(6, 1)]) = x 6 := (l_e1 _ _)
    have E2 : y_ev x (0, [(7, 1)]) = x 7 := (l_e1 _ _)
    have E3 : y_ev x (0, [(8, 1)]) = x 8 := (l_e1 _ _)
    have E4 : y_ev x (0, [(9, 1)]) = x 9 := (l_e1 _ _)
    have E5 : y_ev x (0, [(10, 1)]) = x 10 := (l_e1 _ _)
    have E6 : y_ev x (0, [(11, 1)]) = x 11 := (l_e1 _ _)
    have E7 : y_ev x (0, [(12, 1)]) = x 12 := (l_e1 _ _)
    have E8 : y_ev x (28, []) = 28 := (l_e0 _ _)
    have E9 : y_ev x (0, [(0, 1)]) = x 0 := (l_e1 _ _)
    have E10 : y_ev x (0, [(2, 1)]) = x 2 := (l_e1 _ _)
    have E11 : y_ev x (0, [(3, 1)]) = x 3 := (l_e1 _ _)
    have E12 : y_ev x (17, []) = 17 := (l_e0 _ _)
    have E13 : y_ev x (0, []) = 0 := (l_e0 _ _)
    have E14 : y_ev x (0, [(1, 1)]) = x 1 := (l_e1 _ _)
    have T0 : q_rwo v (y_ev x (0, [(5, 1)])) (y_ev x (0, [(6, 1)])) (y_ev x (0, [(7, 1)])) (y_ev x (0, [(8, 1)])) (y_ev x (0, [(9, 1)])) (y_ev x (0, [(10, 1)])) (y_ev x (0, [(11, 1)])) (y_ev x (0, [(12, 1)])) := h.2.2.2.1
    (try rw [E0] at T0); (try rw [E1] at T0); (try rw [E2] at T0); (try rw [E3] at T0); (try rw [E4] at T0); (try rw [E5] at T0); (try rw [E6] at T0); (try rw [E7] at T0)
    have T1 : q_qry v (y_ev x (28, [])) (y_ev x (0, [(6, 1)])) (y_ev x (0, [(7, 1)])) (y_ev x (0, [(8, 1)])) (y_ev x (0, [(9, 1)])) (y_ev x (0, [(10, 1)])) (y_ev x (0, [(11, 1)])) (y_ev x (0, [(12, 1)])) (y_ev x (0, [(0, 1)])) (y_ev x (0, [(2, 1)])) (y_ev x (0, [(3, 1)])) := h.2.2.2.2.1
    (try rw [E8] at T1); (try rw [E1] at T1); (try rw [E2] at T1); (try rw [E3] at T1); (try rw [E4] at T1); (try rw [E5] at T1); (try rw [E6] at T1); (try rw [E7] at T1); (try rw [E9] at T1); (try rw [E10] at T1); (try rw [E11] at T1)
    have T2 : q_qry v (y_ev x (17, [])) (y_ev x (0, [(6, 1)])) (y_ev x (0, [(7, 1)])) (y_ev x (0, [(8, 1)])) (y_ev x (0, [(9, 1)])) (y_ev x (0, [(10, 1)])) (y_ev x (0, [(11, 1)])) (y_ev x (0, [(12, 1)])) (y_ev x (0, [(0, 1)])) (y_ev x (0, [])) (y_ev x (0, [(1, 1)])) := h.2.2.2.2.2.1
    (try rw [E12] at T2); (try rw [E1] at T2); (try rw [E2] at T2); (try rw [E3] at T2); (try rw [E4] at T2); (try rw [E5] at T2); (try rw [E6] at T2); (try rw [E7] at T2); (try rw [E9] at T2); (try rw [E13] at T2); (try rw [E14] at T2)
    have K := k_mquN (V := v) (i := x 0) (u := x 1) (bb := x 2) (l := x 3) (p := x 4) (H := x 5) (q := x 6) (b := x 7) (s := x 8) (o := x 9) (a1 := x 10) (a2 := x 11) (a3 := x 12) T0 T1 T2 C0 C1 C2 C3 F0
    refine l_outH rfl (And.intro h.1 ?_)
    have O0 : y_ev x (28, []) = 28 := l_e0 _ _
    have O1 : y_ev x (0, [(6, 1)]) = x 6 := l_e1 _ _
    have O2 : y_ev x (0, [(7, 1)]) = x 7 := l_e1 _ _
    have O3 : y_ev x (0, [(8, 1)]) = x 8 := l_e1 _ _
    have O4 : y_ev x (0, [(9, 1)]) = x 9 := l_e1 _ _
    have O5 : y_ev x (0, [(10, 1)]) = x 10 := l_e1 _ _
    have O6 : y_ev x (0, [(11, 1)]) = x 11 := l_e1 _ _
    have O7 : y_ev x (0, [(12, 1)]) = x 12 := l_e1 _ _
    have O8 : y_ev x (1, [(0, 1)]) = x 0 + 1 := by show ((1) : Int) + ((1) * x 0 + 0) = _; omega
    have O9 : y_ev x (0, [(2, 1)]) = x 2 := l_e1 _ _
    have O10 : y_ev x (0, [(3, 1)]) = x 3 := l_e1 _ _
    show (True) ∧ (q_qry v (y_ev x (28, [])) (y_ev x (0, [(6, 1)])) (y_ev x (0, [(7, 1)])) (y_ev x (0, [(8, 1)])) (y_ev x (0, [(9, 1)])) (y_ev x (0, [(10, 1)])) (y_ev x (0, [(11, 1)])) (y_ev x (0, [(12, 1)])) (y_ev x (1, [(0, 1)])) (y_ev x (0, [(2, 1)])) (y_ev x (0, [(3, 1)])) ∧ True)
    (try rw [O0]); (try rw [O1]); (try rw [O2]); (try rw [O3]); (try rw [O4]); (try rw [O5]); (try rw [O6]); (try rw [O7]); (try rw [O8]); (try rw [O9]); (try rw [O10])
    exact K
def lm_1065p : zS := ((lm_716pi_0 (lm_716pi_1 [])), [], [(0, [(0, 1), (4, (-1))])], [], [(0, 0, 0, [(1, 1)]), (0, 0, 0, [(2, 1)]), (0, 0, 0, [(0, 1)])], [], [(235, [(0, [(3, 1)]), (0, [(4, 1)]), (0, [(5, 1)]), (0, [(6, 1)]), (0, [(7, 1)]), (0, [(8, 1)]), (0, [(9, 1)]), (0, [(10, 1)]), (0, [(11, 1)]), (0, [(12, 1)]), (0, [(13, 1)])]), (238, [(28, []), (0, [(7, 1)]), (0, [(8, 1)]), (0, [(9, 1)]), (0, [(10, 1)]), (0, [(11, 1)]), (0, [(12, 1)]), (0, [(13, 1)]), (0, [(0, 1)]), (0, [(1, 1)]), (0, [(2, 1)])])])
def lm_1065 : zLem := (lm_1065p, [([((-2147483648), 2147483647), ((-2147483648), 2147483647), ((-2147483648), 2147483647), ((-2147483648), 2147483647), ((-2147483648), 2147483647), ((-2147483648), 2147483647), ((-2147483648), 2147483647), ((-2147483648), 2147483647), ((-2147483648), 2147483647), ((-2147483648), 2147483647), ((-2147483648), 2147483647), ((-2147483648), 2147483647), ((-2147483648), 2147483647), ((-2147483648), 2147483647)], [], [], [], [], [], [(260, [(28, []), (0, [(7, 1)]), (0, [(8, 1)]), (0, [(9, 1)]), (0, [(10, 1)]), (0, [(11, 1)]), (0, [(12, 1)]), (0, [(13, 1)]), (0, [(4, 1)]), (0, [(1, 1)]), (0, [(2, 1)])])])])
theorem lk_1065 : l_core lm_1065 := by
  first
  | skip
    intro v x h
    have C0 : (0 : Int) ≤ x 0 - x 4 := l_cc (a := y_ev x (0, [(0, 1), (4, (-1))])) (by show ((0) : Int) + ((1) * x 0 + ((-1) * x 4 + 0)) = x 0 - x 4; omega) (h.2.1.1)
    have T0 : q_sto v 0 (y_ev x (0, [(3, 1)])) (y_ev x (0, [(4, 1)])) (y_ev x (0, [(5, 1)])) (y_ev x (0, [(6, 1)])) (y_ev x (0, [(7, 1)])) (y_ev x (0, [(8, 1)])) (y_ev x (0, [(9, 1)])) (y_ev x (0, [(10, 1)])) (y_ev x (0, [(11, 1)])) (y_ev x (0, [(12, 1)])) (y_ev x (0, [(13, 1)])) := h.2.2.2.1
    (try simp only [l_e1, l_e0] at T0)
    have T1 : q_qry v (y_ev x (28, [])) (y_ev x (0, [(7, 1)])) (y_ev x (0, [(8, 1)])) (y_ev x (0, [(9, 1)])) (y_ev x (0, [(10, 1)])) (y_ev x (0, [(11, 1)])) (y_ev x (0, [(12, 1)])) (y_ev x (0, [(13, 1)])) (y_ev x (0, [(0, 1)])) (y_ev x (0, [(1, 1)])) (y_ev x (0, [(2, 1)])) := h.2.2.2.2.1
    (try simp only [l_e1, l_e0] at T1)
    have K := k_quaE (V := v) (i := x 0) (bb := x 1) (l := x 2) (H := x 3) (p := x 4) (y := x 5) (d := x 6) (q := x 7) (b := x 8) (s := x 9) (o := x 10) (a1 := x 11) (a2 := x 12) (a3 := x 13) T0 T1 C0
    refine l_outH rfl (And.intro h.1 ?_)
    show (True) ∧ (q_qry v (y_ev x (28, [])) (y_ev x (0, [(7, 1)])) (y_ev x (0, [(8, 1)])) (y_ev x (0, [(9, 1)])) (y_ev x (0, [(10, 1)])) (y_ev x (0, [(11, 1)])) (y_ev x (0, [(12, 1)])) (y_ev x (0, [(13, 1)])) (y_ev x (0, [(4, 1)])) (y_ev x (0, [(1, 1)])) (y_ev x (0, [(2, 1)])) ∧ True)
    (try simp only [l_e1, l_e0])
    exact K
  | skip
    intro v x h
    have C0 : (0 : Int) ≤ x 0 - x 4 := l_cc (a := y_ev x (0, [(0, 1), (4, (-1))])) (by show ((0) : Int) + ((1) * x 0 + ((-1) * x 4 + 0)) = x 0 - x 4; omega) (h.2.1.1)
    have E0 : y_ev x (0, [(3, 1)]) = x 3 := (l_e1 _ _)
    have E1 : y_ev x (0, [(4, 1)]) = x 4 := (l_e1 _ _)
    have E2 : y_ev x (0, [(5, 1)]) = x 5 := (l_e1 _ _)
    have E3 : y_ev x (0, [(6, 1)]) = x 6 := (l_e1 _ _)
    have E4 : y_ev x (0, [(7, 1)]) = x 7 := (l_e1 _ _)
    have E5 : y_ev x (0, [(8, 1)]) = x 8 := (l_e1 _ _)
    have E6 : y_ev x (0, [(9, 1)]) = x 9 := (l_e1 _ _)
    have E7 : y_ev x (0, [(10, 1)]) = x 10 := (l_e1 _ _)
    have E8 : y_ev x (0, [(11, 1)]) = x 11 := (l_e1 _ _)
    have E9 : y_ev x (0, [(12, 1)]) = x 12 := (l_e1 _ _)
    have E10 : y_ev x (0, [(13, 1)]) = x 13 := (l_e1 _ _)
    have E11 : y_ev x (28, []) = 28 := (l_e0 _ _)
    have E12 : y_ev x (0, [(0, 1)]) = x 0 := (l_e1 _ _)
    have E13 : y_ev x (0, [(1, 1)]) = x 1 := (l_e1 _ _)
    have E14 : y_ev x (0, [(2, 1)]) = x 2 := (l_e1 _ _)
    have T0 : q_sto v 0 (y_ev x (0, [(3, 1)])) (y_ev x (0, [(4, 1)])) (y_ev x (0, [(5, 1)])) (y_ev x (0, [(6, 1)])) (y_ev x (0, [(7, 1)])) (y_ev x (0, [(8, 1)])) (y_ev x (0, [(9, 1)])) (y_ev x (0, [(10, 1)])) (y_ev x (0, [(11, 1)])) (y_ev x (0, [(12, 1)])) (y_ev x (0, [(13, 1)])) := h.2.2.2.1
    (try rw [E0] at T0); (try rw [E1] at T0); (try rw [E2] at T0); (try rw [E3] at T0); (try rw [E4] at T0); (try rw [E5] at T0); (try rw [E6] at T0); (try rw [E7] at T0); (try rw [E8] at T0); (try rw [E9] at T0); (try rw [E10] at T0)
    have T1 : q_qry v (y_ev x (28, [])) (y_ev x (0, [(7, 1)])) (y_ev x (0, [(8, 1)])) (y_ev x (0, [(9, 1)])) (y_ev x (0, [(10, 1)])) (y_ev x (0, [(11, 1)])) (y_ev x (0, [(12, 1)])) (y_ev x (0, [(13, 1)])) (y_ev x (0, [(0, 1)])) (y_ev x (0, [(1, 1)])) (y_ev x (0, [(2, 1)])) := h.2.2.2.2.1
    (try rw [E11] at T1); (try rw [E4] at T1); (try rw [E5] at T1); (try rw [E6] at T1); (try rw [E7] at T1); (try rw [E8] at T1); (try rw [E9] at T1); (try rw [E10] at T1); (try rw [E12] at T1); (try rw [E13] at T1); (try rw [E14] at T1)
    have K := k_quaE (V := v) (i := x 0) (bb := x 1) (l := x 2) (H := x 3) (p := x 4) (y := x 5) (d := x 6) (q := x 7) (b := x 8) (s := x 9) (o := x 10) (a1 := x 11) (a2 := x 12) (a3 := x 13) T0 T1 C0
    refine l_outH rfl (And.intro h.1 ?_)
    have O0 : y_ev x (28, []) = 28 := l_e0 _ _
    have O1 : y_ev x (0, [(7, 1)]) = x 7 := l_e1 _ _
    have O2 : y_ev x (0, [(8, 1)]) = x 8 := l_e1 _ _
    have O3 : y_ev x (0, [(9, 1)]) = x 9 := l_e1 _ _
    have O4 : y_ev x (0, [(10, 1)]) = x 10 := l_e1 _ _
    have O5 : y_ev x (0, [(11, 1)]) = x 11 := l_e1 _ _
    have O6 : y_ev x (0, [(12, 1)]) = x 12 := l_e1 _ _
    have O7 : y_ev x (0, [(13, 1)]) = x 13 := l_e1 _ _
    have O8 : y_ev x (0, [(4, 1)]) = x 4 := l_e1 _ _
    have O9 : y_ev x (0, [(1, 1)]) = x 1 := l_e1 _ _
    have O10 : y_ev x (0, [(2, 1)]) = x 2 := l_e1 _ _
    show (True) ∧ (q_qry v (y_ev x (28, [])) (y_ev x (0, [(7, 1)])) (y_ev x (0, [(8, 1)])) (y_ev x (0, [(9, 1)])) (y_ev x (0, [(10, 1)])) (y_ev x (0, [(11, 1)])) (y_ev x (0, [(12, 1)])) (y_ev x (0, [(13, 1)])) (y_ev x (0, [(4, 1)])) (y_ev x (0, [(1, 1)])) (y_ev x (0, [(2, 1)])) ∧ True)
    (try rw [O0]); (try rw [O1]); (try rw [O2]); (try rw [O3]); (try rw [O4]); (try rw [O5]); (try rw [O6]); (try rw [O7]); (try rw [O8]); (try rw [O9]); (try rw [O10])
    exact K
def lm_1066p : zS := ((lm_660pi_0 (lm_660pi_1 [])), [(78, false)], [(0, [(0, 1), (3, (-1))])], [], [(0, 0, 0, [(1, 1)]), (0, 0, 0, [(2, 1)]), (0, 0, 0, [(0, 1)])], [(0, (true, 0, 24, []), 0, 0, 0, [(3, 1)])], [(237, [(0, [(4, 1)]), (0, [(5, 1)]), (0, [(6, 1)]), (0, [(7, 1)]), (0, [(8, 1)]), (0, [(9, 1)]), (0, [(10, 1)]), (0, [(11, 1)])]), (238, [(28, []), (0, [(5, 1)]), (0, [(6, 1)]), (0, [(7, 1)]), (0, [(8, 1)]), (0, [(9, 1)]), (0, [(10, 1)]), (0, [(11, 1)]), (0, [(0, 1)]), (0, [(1, 1)]), (0, [(2, 1)])])])
def lm_1066 : zLem := (lm_1066p, [([((-2147483648), 2147483647), ((-2147483648), 2147483647), ((-2147483648), 2147483647), ((-2147483648), 2147483647), ((-2147483648), 2147483647), ((-2147483648), 2147483647), ((-2147483648), 2147483647), ((-2147483648), 2147483647), ((-2147483648), 2147483647), ((-2147483648), 2147483647), ((-2147483648), 2147483647), ((-2147483648), 2147483647)], [(78, false)], [], [], [], [], [(238, [(28, []), (0, [(5, 1)]), (0, [(6, 1)]), (0, [(7, 1)]), (0, [(8, 1)]), (0, [(9, 1)]), (0, [(10, 1)]), (0, [(11, 1)]), (0, [(3, 1)]), (0, [(1, 1)]), (0, [(2, 1)])])])])
theorem lk_1066 : l_core lm_1066 := by
  first
  | skip
    intro v x h
    have G0 := h.2.2.1
    have C0 : (0 : Int) ≤ x 0 - x 3 := l_cc (a := y_ev x (0, [(0, 1), (3, (-1))])) (by show ((0) : Int) + ((1) * x 0 + ((-1) * x 3 + 0)) = x 0 - x 3; omega) (h.2.1.1)
    have F0 : (0 : Int) ≤ 24 ∧ (24 : Int) < j_len 78 ∧ v 78 (24) = x 3 := l_ff (f := v 78) (L := j_len 78) (a := y_ev x (24, [])) (b := y_ev x (0, [(3, 1)])) (l_e0 _ _) (l_e1 _ _) (G0.1.1)
    have T0 : q_rwo v (y_ev x (0, [(4, 1)])) (y_ev x (0, [(5, 1)])) (y_ev x (0, [(6, 1)])) (y_ev x (0, [(7, 1)])) (y_ev x (0, [(8, 1)])) (y_ev x (0, [(9, 1)])) (y_ev x (0, [(10, 1)])) (y_ev x (0, [(11, 1)])) := h.2.2.2.1
    (try simp only [l_e1, l_e0] at T0)
    have T1 : q_qry v (y_ev x (28, [])) (y_ev x (0, [(5, 1)])) (y_ev x (0, [(6, 1)])) (y_ev x (0, [(7, 1)])) (y_ev x (0, [(8, 1)])) (y_ev x (0, [(9, 1)])) (y_ev x (0, [(10, 1)])) (y_ev x (0, [(11, 1)])) (y_ev x (0, [(0, 1)])) (y_ev x (0, [(1, 1)])) (y_ev x (0, [(2, 1)])) := h.2.2.2.2.1
    (try simp only [l_e1, l_e0] at T1)
    have K := k_mquE (V := v) (i := x 0) (bb := x 1) (l := x 2) (p := x 3) (H := x 4) (q := x 5) (b := x 6) (s := x 7) (o := x 8) (a1 := x 9) (a2 := x 10) (a3 := x 11) T0 T1 C0 F0
    refine l_outH rfl (And.intro h.1 ?_)
    show (True) ∧ (q_qry v (y_ev x (28, [])) (y_ev x (0, [(5, 1)])) (y_ev x (0, [(6, 1)])) (y_ev x (0, [(7, 1)])) (y_ev x (0, [(8, 1)])) (y_ev x (0, [(9, 1)])) (y_ev x (0, [(10, 1)])) (y_ev x (0, [(11, 1)])) (y_ev x (0, [(3, 1)])) (y_ev x (0, [(1, 1)])) (y_ev x (0, [(2, 1)])) ∧ True)
    (try simp only [l_e1, l_e0])
    exact K
  | skip
    intro v x h
    have G0 := h.2.2.1
    have C0 : (0 : Int) ≤ x 0 - x 3 := l_cc (a := y_ev x (0, [(0, 1), (3, (-1))])) (by show ((0) : Int) + ((1) * x 0 + ((-1) * x 3 + 0)) = x 0 - x 3; omega) (h.2.1.1)
    have F0 : (0 : Int) ≤ 24 ∧ (24 : Int) < j_len 78 ∧ v 78 (24) = x 3 := l_ff (f := v 78) (L := j_len 78) (a := y_ev x (24, [])) (b := y_ev x (0, [(3, 1)])) (l_e0 _ _) (l_e1 _ _) (G0.1.1)
    have E0 : y_ev x (0, [(4, 1)]) = x 4 := (l_e1 _ _)
    have E1 : y_ev x (0, [(5, 1)]) = x 5 := (l_e1 _ _)
    have E2 : y_ev x (0, [(6, 1)]) = x 6 := (l_e1 _ _)
    have E3 : y_ev x (0, [(7, 1)]) = x 7 := (l_e1 _ _)
    have E4 : y_ev x (0, [(8, 1)]) = x 8 := (l_e1 _ _)
    have E5 : y_ev x (0, [(9, 1)]) = x 9 := (l_e1 _ _)
    have E6 : y_ev x (0, [(10, 1)]) = x 10 := (l_e1 _ _)
    have E7 : y_ev x (0, [(11, 1)]) = x 11 := (l_e1 _ _)
    have E8 : y_ev x (28, []) = 28 := (l_e0 _ _)
    have E9 : y_ev x (0, [(0, 1)]) = x 0 := (l_e1 _ _)
    have E10 : y_ev x (0, [(1, 1)]) = x 1 := (l_e1 _ _)
    have E11 : y_ev x (0, [(2, 1)]) = x 2 := (l_e1 _ _)
    have T0 : q_rwo v (y_ev x (0, [(4, 1)])) (y_ev x (0, [(5, 1)])) (y_ev x (0, [(6, 1)])) (y_ev x (0, [(7, 1)])) (y_ev x (0, [(8, 1)])) (y_ev x (0, [(9, 1)])) (y_ev x (0, [(10, 1)])) (y_ev x (0, [(11, 1)])) := h.2.2.2.1
    (try rw [E0] at T0); (try rw [E1] at T0); (try rw [E2] at T0); (try rw [E3] at T0); (try rw [E4] at T0); (try rw [E5] at T0); (try rw [E6] at T0); (try rw [E7] at T0)
    have T1 : q_qry v (y_ev x (28, [])) (y_ev x (0, [(5, 1)])) (y_ev x (0, [(6, 1)])) (y_ev x (0, [(7, 1)])) (y_ev x (0, [(8, 1)])) (y_ev x (0, [(9, 1)])) (y_ev x (0, [(10, 1)])) (y_ev x (0, [(11, 1)])) (y_ev x (0, [(0, 1)])) (y_ev x (0, [(1, 1)])) (y_ev x (0, [(2, 1)])) := h.2.2.2.2.1
    (try rw [E8] at T1); (try rw [E1] at T1); (try rw [E2] at T1); (try rw [E3] at T1); (try rw [E4] at T1); (try rw [E5] at T1); (try rw [E6] at T1); (try rw [E7] at T1); (try rw [E9] at T1); (try rw [E10] at T1); (try rw [E11] at T1)
    have K := k_mquE (V := v) (i := x 0) (bb := x 1) (l := x 2) (p := x 3) (H := x 4) (q := x 5) (b := x 6) (s := x 7) (o := x 8) (a1 := x 9) (a2 := x 10) (a3 := x 11) T0 T1 C0 F0
    refine l_outH rfl (And.intro h.1 ?_)
    have O0 : y_ev x (28, []) = 28 := l_e0 _ _
    have O1 : y_ev x (0, [(5, 1)]) = x 5 := l_e1 _ _
    have O2 : y_ev x (0, [(6, 1)]) = x 6 := l_e1 _ _
    have O3 : y_ev x (0, [(7, 1)]) = x 7 := l_e1 _ _
    have O4 : y_ev x (0, [(8, 1)]) = x 8 := l_e1 _ _
    have O5 : y_ev x (0, [(9, 1)]) = x 9 := l_e1 _ _
    have O6 : y_ev x (0, [(10, 1)]) = x 10 := l_e1 _ _
    have O7 : y_ev x (0, [(11, 1)]) = x 11 := l_e1 _ _
    have O8 : y_ev x (0, [(3, 1)]) = x 3 := l_e1 _ _
    have O9 : y_ev x (0, [(1, 1)]) = x 1 := l_e1 _ _
    have O10 : y_ev x (0, [(2, 1)]) = x 2 := l_e1 _ _
    show (True) ∧ (q_qry v (y_ev x (28, [])) (y_ev x (0, [(5, 1)])) (y_ev x (0, [(6, 1)])) (y_ev x (0, [(7, 1)])) (y_ev x (0, [(8, 1)])) (y_ev x (0, [(9, 1)])) (y_ev x (0, [(10, 1)])) (y_ev x (0, [(11, 1)])) (y_ev x (0, [(3, 1)])) (y_ev x (0, [(1, 1)])) (y_ev x (0, [(2, 1)])) ∧ True)
    (try rw [O0]); (try rw [O1]); (try rw [O2]); (try rw [O3]); (try rw [O4]); (try rw [O5]); (try rw [O6]); (try rw [O7]); (try rw [O8]); (try rw [O9]); (try rw [O10])
    exact K
def lm_1067 : zLem := (([((-2147483648), 2147483647), ((-2147483648), 2147483647), ((-2147483648), 2147483647), ((-2147483648), 2147483647), ((-2147483648), 2147483647), ((-2147483648), 2147483647), ((-2147483648), 2147483647), ((-2147483648), 2147483647)], [], [], [], [], [], [(237, [(0, [(0, 1)]), (0, [(1, 1)]), (0, [(2, 1)]), (0, [(3, 1)]), (0, [(4, 1)]), (0, [(5, 1)]), (0, [(6, 1)]), (0, [(7, 1)])])]), [([((-2147483648), 2147483647), ((-2147483648), 2147483647), ((-2147483648), 2147483647), ((-2147483648), 2147483647), ((-2147483648), 2147483647), ((-2147483648), 2147483647), ((-2147483648), 2147483647), ((-2147483648), 2147483647)], [], [], [], [], [], [(238, [(28, []), (0, [(1, 1)]), (0, [(2, 1)]), (0, [(3, 1)]), (0, [(4, 1)]), (0, [(5, 1)]), (0, [(6, 1)]), (0, [(7, 1)]), (1, []), ((-2), []), ((-2), [])])])])
theorem lk_1067 : l_core lm_1067 := by
  first
  | skip
    intro v x h
    have T0 : q_rwo v (y_ev x (0, [(0, 1)])) (y_ev x (0, [(1, 1)])) (y_ev x (0, [(2, 1)])) (y_ev x (0, [(3, 1)])) (y_ev x (0, [(4, 1)])) (y_ev x (0, [(5, 1)])) (y_ev x (0, [(6, 1)])) (y_ev x (0, [(7, 1)])) := h.2.2.2.1
    (try simp only [l_e1, l_e0] at T0)
    have K := k_mqu0 (V := v) (H := x 0) (q := x 1) (b := x 2) (s := x 3) (o := x 4) (a1 := x 5) (a2 := x 6) (a3 := x 7) T0
    refine l_outH rfl (And.intro h.1 ?_)
    show (True) ∧ (q_qry v (y_ev x (28, [])) (y_ev x (0, [(1, 1)])) (y_ev x (0, [(2, 1)])) (y_ev x (0, [(3, 1)])) (y_ev x (0, [(4, 1)])) (y_ev x (0, [(5, 1)])) (y_ev x (0, [(6, 1)])) (y_ev x (0, [(7, 1)])) (y_ev x (1, [])) (y_ev x ((-2), [])) (y_ev x ((-2), [])) ∧ True)
    (try simp only [l_e1, l_e0])
    exact K
  | skip
    intro v x h
    have E0 : y_ev x (0, [(0, 1)]) = x 0 := (l_e1 _ _)
    have E1 : y_ev x (0, [(1, 1)]) = x 1 := (l_e1 _ _)
    have E2 : y_ev x (0, [(2, 1)]) = x 2 := (l_e1 _ _)
    have E3 : y_ev x (0, [(3, 1)]) = x 3 := (l_e1 _ _)
    have E4 : y_ev x (0, [(4, 1)]) = x 4 := (l_e1 _ _)
    have E5 : y_ev x (0, [(5, 1)]) = x 5 := (l_e1 _ _)
    have E6 : y_ev x (0, [(6, 1)]) = x 6 := (l_e1 _ _)
    have E7 : y_ev x (0, [(7, 1)]) = x 7 := (l_e1 _ _)
    have T0 : q_rwo v (y_ev x (0, [(0, 1)])) (y_ev x (0, [(1, 1)])) (y_ev x (0, [(2, 1)])) (y_ev x (0, [(3, 1)])) (y_ev x (0, [(4, 1)])) (y_ev x (0, [(5, 1)])) (y_ev x (0, [(6, 1)])) (y_ev x (0, [(7, 1)])) := h.2.2.2.1
    (try rw [E0] at T0); (try rw [E1] at T0); (try rw [E2] at T0); (try rw [E3] at T0); (try rw [E4] at T0); (try rw [E5] at T0); (try rw [E6] at T0); (try rw [E7] at T0)
    have K := k_mqu0 (V := v) (H := x 0) (q := x 1) (b := x 2) (s := x 3) (o := x 4) (a1 := x 5) (a2 := x 6) (a3 := x 7) T0
    refine l_outH rfl (And.intro h.1 ?_)
    have O0 : y_ev x (28, []) = 28 := l_e0 _ _
    have O1 : y_ev x (0, [(1, 1)]) = x 1 := l_e1 _ _
    have O2 : y_ev x (0, [(2, 1)]) = x 2 := l_e1 _ _
    have O3 : y_ev x (0, [(3, 1)]) = x 3 := l_e1 _ _
    have O4 : y_ev x (0, [(4, 1)]) = x 4 := l_e1 _ _
    have O5 : y_ev x (0, [(5, 1)]) = x 5 := l_e1 _ _
    have O6 : y_ev x (0, [(6, 1)]) = x 6 := l_e1 _ _
    have O7 : y_ev x (0, [(7, 1)]) = x 7 := l_e1 _ _
    have O8 : y_ev x (1, []) = 1 := l_e0 _ _
    have O9 : y_ev x ((-2), []) = (-2) := l_e0 _ _
    show (True) ∧ (q_qry v (y_ev x (28, [])) (y_ev x (0, [(1, 1)])) (y_ev x (0, [(2, 1)])) (y_ev x (0, [(3, 1)])) (y_ev x (0, [(4, 1)])) (y_ev x (0, [(5, 1)])) (y_ev x (0, [(6, 1)])) (y_ev x (0, [(7, 1)])) (y_ev x (1, [])) (y_ev x ((-2), [])) (y_ev x ((-2), [])) ∧ True)
    (try rw [O0]); (try rw [O1]); (try rw [O2]); (try rw [O3]); (try rw [O4]); (try rw [O5]); (try rw [O6]); (try rw [O7]); (try rw [O8]); (try rw [O9])
    exact K
def lm_1068p : zS := ((lm_650pi_0 (lm_650pi_1 [])), [(78, false)], [((-1), [(0, 1)]), ((-1), [(0, (-1)), (4, 1)]), (5, [(0, (-1))])], [], [(0, 0, 0, [(0, 1)]), (0, 0, 0, [(3, 1)])], [(0, (true, 0, 24, [(0, 1)]), 0, 0, 0, [(1, 1)]), (0, (true, 0, 25, [(0, 1)]), 0, 0, 0, [(2, 1)]), (0, (true, 0, 24, []), 0, 0, 0, [(4, 1)])], [(238, [(5, []), (0, [(5, 1)]), (0, [(6, 1)]), (0, [(7, 1)]), (0, [(8, 1)]), (0, [(9, 1)]), (0, [(10, 1)]), (0, [(11, 1)]), (0, [(1, 1)]), (0, [(2, 1)]), (0, [(3, 1)])]), (237, [(0, [(12, 1)]), (0, [(5, 1)]), (0, [(6, 1)]), (0, [(7, 1)]), (0, [(8, 1)]), (0, [(9, 1)]), (0, [(10, 1)]), (0, [(11, 1)])])])
def lm_1068 : zLem := (lm_1068p, [([((-2147483648), 2147483647), ((-2147483648), 2147483647), ((-2147483648), 2147483647), ((-2147483648), 2147483647), ((-2147483648), 2147483647), ((-2147483648), 2147483647), ((-2147483648), 2147483647), ((-2147483648), 2147483647), ((-2147483648), 2147483647), ((-2147483648), 2147483647), ((-2147483648), 2147483647), ((-2147483648), 2147483647), ((-2147483648), 2147483647)], [(78, false)], [], [], [], [], [(238, [(17, []), (0, [(5, 1)]), (0, [(6, 1)]), (0, [(7, 1)]), (0, [(8, 1)]), (0, [(9, 1)]), (0, [(10, 1)]), (0, [(11, 1)]), (0, [(0, 1)]), (0, []), (0, [(3, 1)])])])])
theorem lk_1068 : l_core lm_1068 := by
  first
  | skip
    intro v x h
    have G0 := h.2.2.1
    have G1 := G0.2
    have G2 := G1.2
    have C0 : (0 : Int) ≤ x 0 - 1 := l_cc (a := y_ev x ((-1), [(0, 1)])) (by show ((-1) : Int) + ((1) * x 0 + 0) = x 0 - 1; omega) (h.2.1.1)
    have C1 : (0 : Int) ≤ x 4 - x 0 - 1 := l_cc (a := y_ev x ((-1), [(0, (-1)), (4, 1)])) (by show ((-1) : Int) + ((-1) * x 0 + ((1) * x 4 + 0)) = x 4 - x 0 - 1; omega) (h.2.1.2.1)
    have C2 : (0 : Int) ≤ 5 - x 0 := l_cc (a := y_ev x (5, [(0, (-1))])) (by show ((5) : Int) + ((-1) * x 0 + 0) = 5 - x 0; omega) (h.2.1.2.2.1)
    have F0 : (0 : Int) ≤ x 0 + 24 ∧ (x 0 + 24 : Int) < j_len 78 ∧ v 78 (x 0 + 24) = x 1 := l_ff (f := v 78) (L := j_len 78) (a := y_ev x (24, [(0, 1)])) (b := y_ev x (0, [(1, 1)])) (by show ((24) : Int) + ((1) * x 0 + 0) = x 0 + 24; omega) (l_e1 _ _) (G0.1.1)
    have F1 : (0 : Int) ≤ x 0 + 25 ∧ (x 0 + 25 : Int) < j_len 78 ∧ v 78 (x 0 + 25) = x 2 := l_ff (f := v 78) (L := j_len 78) (a := y_ev x (25, [(0, 1)])) (b := y_ev x (0, [(2, 1)])) (by show ((25) : Int) + ((1) * x 0 + 0) = x 0 + 25; omega) (l_e1 _ _) (G1.1.1)
    have F2 : (0 : Int) ≤ 24 ∧ (24 : Int) < j_len 78 ∧ v 78 (24) = x 4 := l_ff (f := v 78) (L := j_len 78) (a := y_ev x (24, [])) (b := y_ev x (0, [(4, 1)])) (l_e0 _ _) (l_e1 _ _) (G2.1.1)
    have T0 : q_qry v (y_ev x (5, [])) (y_ev x (0, [(5, 1)])) (y_ev x (0, [(6, 1)])) (y_ev x (0, [(7, 1)])) (y_ev x (0, [(8, 1)])) (y_ev x (0, [(9, 1)])) (y_ev x (0, [(10, 1)])) (y_ev x (0, [(11, 1)])) (y_ev x (0, [(1, 1)])) (y_ev x (0, [(2, 1)])) (y_ev x (0, [(3, 1)])) := h.2.2.2.1
    (try simp only [l_e1, l_e0] at T0)
    have T1 : q_rwo v (y_ev x (0, [(12, 1)])) (y_ev x (0, [(5, 1)])) (y_ev x (0, [(6, 1)])) (y_ev x (0, [(7, 1)])) (y_ev x (0, [(8, 1)])) (y_ev x (0, [(9, 1)])) (y_ev x (0, [(10, 1)])) (y_ev x (0, [(11, 1)])) := h.2.2.2.2.1
    (try simp only [l_e1, l_e0] at T1)
    have K := k_mjab (V := v) (i := x 0) (a := x 1) (g := x 2) (u := x 3) (p := x 4) (q := x 5) (b := x 6) (s := x 7) (o := x 8) (a1 := x 9) (a2 := x 10) (a3 := x 11) (H := x 12) T0 T1 C0 C1 C2 F0 F1 F2
    refine l_outH rfl (And.intro h.1 ?_)
    show (True) ∧ (q_qry v (y_ev x (17, [])) (y_ev x (0, [(5, 1)])) (y_ev x (0, [(6, 1)])) (y_ev x (0, [(7, 1)])) (y_ev x (0, [(8, 1)])) (y_ev x (0, [(9, 1)])) (y_ev x (0, [(10, 1)])) (y_ev x (0, [(11, 1)])) (y_ev x (0, [(0, 1)])) (y_ev x (0, [])) (y_ev x (0, [(3, 1)])) ∧ True)
    (try simp only [l_e1, l_e0])
    exact K
  | skip
    intro v x h
    have G0 := h.2.2.1
    have G1 := G0.2
    have G2 := G1.2
    have C0 : (0 : Int) ≤ x 0 - 1 := l_cc (a := y_ev x ((-1), [(0, 1)])) (by show ((-1) : Int) + ((1) * x 0 + 0) = x 0 - 1; omega) (h.2.1.1)
    have C1 : (0 : Int) ≤ x 4 - x 0 - 1 := l_cc (a := y_ev x ((-1), [(0, (-1)), (4, 1)])) (by show ((-1) : Int) + ((-1) * x 0 + ((1) * x 4 + 0)) = x 4 - x 0 - 1; omega) (h.2.1.2.1)
    have C2 : (0 : Int) ≤ 5 - x 0 := l_cc (a := y_ev x (5, [(0, (-1))])) (by show ((5) : Int) + ((-1) * x 0 + 0) = 5 - x 0; omega) (h.2.1.2.2.1)
    have F0 : (0 : Int) ≤ x 0 + 24 ∧ (x 0 + 24 : Int) < j_len 78 ∧ v 78 (x 0 + 24) = x 1 := l_ff (f := v 78) (L := j_len 78) (a := y_ev x (24, [(0, 1)])) (b := y_ev x (0, [(1, 1)])) (by show ((24) : Int) + ((1) * x 0 + 0) = x 0 + 24; omega) (l_e1 _ _) (G0.1.1)
    have F1 : (0 : Int) ≤ x 0 + 25 ∧ (x 0 + 25 : Int) < j_len 78 ∧ v 78 (x 0 + 25) = x 2 := l_ff (f := v 78) (L := j_len 78) (a := y_ev x (25, [(0, 1)])) (b := y_ev x (0, [(2, 1)])) (by show ((25) : Int) + ((1) * x 0 + 0) = x 0 + 25; omega) (l_e1 _ _) (G1.1.1)
    have F2 : (0 : Int) ≤ 24 ∧ (24 : Int) < j_len 78 ∧ v 78 (24) = x 4 := l_ff (f := v 78) (L := j_len 78) (a := y_ev x (24, [])) (b := y_ev x (0, [(4, 1)])) (l_e0 _ _) (l_e1 _ _) (G2.1.1)
    have E0 : y_ev x (5, []) = 5 := (l_e0 _ _)
    have E1 : y_ev x (0, [(5, 1)]) = x 5 := (l_e1 _ _)
    have E2 : y_ev x (0, [(6, 1)]) = x 6 := (l_e1 _ _)
    have E3 : y_ev x (0, [(7, 1)]) = x 7 := (l_e1 _ _)
    have E4 : y_ev x (0, [(8, 1)]) = x 8 := (l_e1 _ _)
    have E5 : y_ev x (0, [(9, 1)]) = x 9 := (l_e1 _ _)
    have E6 : y_ev x (0, [(10, 1)]) = x 10 := (l_e1 _ _)
    have E7 : y_ev x (0, [(11, 1)]) = x 11 := (l_e1 _ _)
    have E8 : y_ev x (0, [(1, 1)]) = x 1 := (l_e1 _ _)
    have E9 : y_ev x (0, [(2, 1)]) = x 2 := (l_e1 _ _)
    have E10 : y_ev x (0, [(3, 1)]) = x 3 := (l_e1 _ _)
    have E11 : y_ev x (0, [(12, 1)]) = x 12 := (l_e1 _ _)
    have T0 : q_qry v (y_ev x (5, [])) (y_ev x (0, [(5, 1)])) (y_ev x (0, [(6, 1)])) (y_ev x (0, [(7, 1)])) (y_ev x (0, [(8, 1)])) (y_ev x (0, [(9, 1)])) (y_ev x (0, [(10, 1)])) (y_ev x (0, [(11, 1)])) (y_ev x (0, [(1, 1)])) (y_ev x (0, [(2, 1)])) (y_ev x (0, [(3, 1)])) := h.2.2.2.1
    (try rw [E0] at T0); (try rw [E1] at T0); (try rw [E2] at T0); (try rw [E3] at T0); (try rw [E4] at T0); (try rw [E5] at T0); (try rw [E6] at T0); (try rw [E7] at T0); (try rw [E8] at T0); (try rw [E9] at T0); (try rw [E10] at T0)
    have T1 : q_rwo v (y_ev x (0, [(12, 1)])) (y_ev x (0, [(5, 1)])) (y_ev x (0, [(6, 1)])) (y_ev x (0, [(7, 1)])) (y_ev x (0, [(8, 1)])) (y_ev x (0, [(9, 1)])) (y_ev x (0, [(10, 1)])) (y_ev x (0, [(11, 1)])) := h.2.2.2.2.1
    (try rw [E11] at T1); (try rw [E1] at T1); (try rw [E2] at T1); (try rw [E3] at T1); (try rw [E4] at T1); (try rw [E5] at T1); (try rw [E6] at T1); (try rw [E7] at T1)
    have K := k_mjab (V := v) (i := x 0) (a := x 1) (g := x 2) (u := x 3) (p := x 4) (q := x 5) (b := x 6) (s := x 7) (o := x 8) (a1 := x 9) (a2 := x 10) (a3 := x 11) (H := x 12) T0 T1 C0 C1 C2 F0 F1 F2
    refine l_outH rfl (And.intro h.1 ?_)
    have O0 : y_ev x (17, []) = 17 := l_e0 _ _
    have O1 : y_ev x (0, [(5, 1)]) = x 5 := l_e1 _ _
    have O2 : y_ev x (0, [(6, 1)]) = x 6 := l_e1 _ _
    have O3 : y_ev x (0, [(7, 1)]) = x 7 := l_e1 _ _
    have O4 : y_ev x (0, [(8, 1)]) = x 8 := l_e1 _ _
    have O5 : y_ev x (0, [(9, 1)]) = x 9 := l_e1 _ _
    have O6 : y_ev x (0, [(10, 1)]) = x 10 := l_e1 _ _
    have O7 : y_ev x (0, [(11, 1)]) = x 11 := l_e1 _ _
    have O8 : y_ev x (0, [(0, 1)]) = x 0 := l_e1 _ _
    have O9 : y_ev x (0, []) = 0 := l_e0 _ _
    have O10 : y_ev x (0, [(3, 1)]) = x 3 := l_e1 _ _
    show (True) ∧ (q_qry v (y_ev x (17, [])) (y_ev x (0, [(5, 1)])) (y_ev x (0, [(6, 1)])) (y_ev x (0, [(7, 1)])) (y_ev x (0, [(8, 1)])) (y_ev x (0, [(9, 1)])) (y_ev x (0, [(10, 1)])) (y_ev x (0, [(11, 1)])) (y_ev x (0, [(0, 1)])) (y_ev x (0, [])) (y_ev x (0, [(3, 1)])) ∧ True)
    (try rw [O0]); (try rw [O1]); (try rw [O2]); (try rw [O3]); (try rw [O4]); (try rw [O5]); (try rw [O6]); (try rw [O7]); (try rw [O8]); (try rw [O9]); (try rw [O10])
    exact K
def lm_1069 : zLem := (([((-2147483648), 2147483647), ((-2147483648), 2147483647), ((-2147483648), 2147483647), ((-2147483648), 2147483647), ((-2147483648), 2147483647), ((-2147483648), 2147483647)], [], [], [], [], [], [(260, [(28, []), (0, [(0, 1)]), (0, []), (0, []), (0, []), (0, []), (0, []), (0, []), (0, [(1, 1)]), (0, [(2, 1)]), (0, [(3, 1)])]), (238, [(28, []), (0, [(0, 1)]), (0, []), (0, []), (0, []), (0, []), (0, []), (0, []), (0, [(1, 1)]), (0, [(4, 1)]), (0, [(5, 1)])])]), [([((-2147483648), 2147483647), ((-2147483648), 2147483647), ((-2147483648), 2147483647), ((-2147483648), 2147483647), ((-2147483648), 2147483647), ((-2147483648), 2147483647)], [], [(0, [(2, 1), (4, (-1))]), (0, [(2, (-1)), (4, 1)]), (0, [(3, 1), (5, (-1))]), (0, [(3, (-1)), (5, 1)])], [], [], [], [])])
theorem lk_1069 : l_core lm_1069 := by
  first
  | skip
    intro v x h
    have T0 : q_qry v (y_ev x (28, [])) (y_ev x (0, [(0, 1)])) (y_ev x (0, [])) (y_ev x (0, [])) (y_ev x (0, [])) (y_ev x (0, [])) (y_ev x (0, [])) (y_ev x (0, [])) (y_ev x (0, [(1, 1)])) (y_ev x (0, [(2, 1)])) (y_ev x (0, [(3, 1)])) := h.2.2.2.1
    (try simp only [l_e1, l_e0] at T0)
    have T1 : q_qry v (y_ev x (28, [])) (y_ev x (0, [(0, 1)])) (y_ev x (0, [])) (y_ev x (0, [])) (y_ev x (0, [])) (y_ev x (0, [])) (y_ev x (0, [])) (y_ev x (0, [])) (y_ev x (0, [(1, 1)])) (y_ev x (0, [(4, 1)])) (y_ev x (0, [(5, 1)])) := h.2.2.2.2.1
    (try simp only [l_e1, l_e0] at T1)
    have K := k_qeQ (V := v) (q := x 0) (p := x 1) (bb := x 2) (l := x 3) (bc := x 4) (k := x 5) T0 T1
    refine l_outH rfl (And.intro h.1 ?_)
    have O0 : y_ev x (0, [(2, 1), (4, (-1))]) = x 2 - x 4 := by show ((0) : Int) + ((1) * x 2 + ((-1) * x 4 + 0)) = _; omega
    have O1 : y_ev x (0, [(2, (-1)), (4, 1)]) = x 4 - x 2 := by show ((0) : Int) + ((-1) * x 2 + ((1) * x 4 + 0)) = _; omega
    have O2 : y_ev x (0, [(3, 1), (5, (-1))]) = x 3 - x 5 := by show ((0) : Int) + ((1) * x 3 + ((-1) * x 5 + 0)) = _; omega
    have O3 : y_ev x (0, [(3, (-1)), (5, 1)]) = x 5 - x 3 := by show ((0) : Int) + ((-1) * x 3 + ((1) * x 5 + 0)) = _; omega
    show (0 ≤ y_ev x (0, [(2, 1), (4, (-1))]) ∧ 0 ≤ y_ev x (0, [(2, (-1)), (4, 1)]) ∧ 0 ≤ y_ev x (0, [(3, 1), (5, (-1))]) ∧ 0 ≤ y_ev x (0, [(3, (-1)), (5, 1)]) ∧ True) ∧ (True)
    (try rw [O0]); (try rw [O1]); (try rw [O2]); (try rw [O3])
    exact K
  | skip
    intro v x h
    have E0 : y_ev x (28, []) = 28 := (l_e0 _ _)
    have E1 : y_ev x (0, [(0, 1)]) = x 0 := (l_e1 _ _)
    have E2 : y_ev x (0, []) = 0 := (l_e0 _ _)
    have E3 : y_ev x (0, [(1, 1)]) = x 1 := (l_e1 _ _)
    have E4 : y_ev x (0, [(2, 1)]) = x 2 := (l_e1 _ _)
    have E5 : y_ev x (0, [(3, 1)]) = x 3 := (l_e1 _ _)
    have E6 : y_ev x (0, [(4, 1)]) = x 4 := (l_e1 _ _)
    have E7 : y_ev x (0, [(5, 1)]) = x 5 := (l_e1 _ _)
    have T0 : q_qry v (y_ev x (28, [])) (y_ev x (0, [(0, 1)])) (y_ev x (0, [])) (y_ev x (0, [])) (y_ev x (0, [])) (y_ev x (0, [])) (y_ev x (0, [])) (y_ev x (0, [])) (y_ev x (0, [(1, 1)])) (y_ev x (0, [(2, 1)])) (y_ev x (0, [(3, 1)])) := h.2.2.2.1
    (try rw [E0] at T0); (try rw [E1] at T0); (try rw [E2] at T0); (try rw [E3] at T0); (try rw [E4] at T0); (try rw [E5] at T0)
    have T1 : q_qry v (y_ev x (28, [])) (y_ev x (0, [(0, 1)])) (y_ev x (0, [])) (y_ev x (0, [])) (y_ev x (0, [])) (y_ev x (0, [])) (y_ev x (0, [])) (y_ev x (0, [])) (y_ev x (0, [(1, 1)])) (y_ev x (0, [(4, 1)])) (y_ev x (0, [(5, 1)])) := h.2.2.2.2.1
    (try rw [E0] at T1); (try rw [E1] at T1); (try rw [E2] at T1); (try rw [E3] at T1); (try rw [E6] at T1); (try rw [E7] at T1)
    have K := k_qeQ (V := v) (q := x 0) (p := x 1) (bb := x 2) (l := x 3) (bc := x 4) (k := x 5) T0 T1
    refine l_outH rfl (And.intro h.1 ?_)
    have O0 : y_ev x (0, [(2, 1), (4, (-1))]) = x 2 - x 4 := by show ((0) : Int) + ((1) * x 2 + ((-1) * x 4 + 0)) = _; omega
    have O1 : y_ev x (0, [(2, (-1)), (4, 1)]) = x 4 - x 2 := by show ((0) : Int) + ((-1) * x 2 + ((1) * x 4 + 0)) = _; omega
    have O2 : y_ev x (0, [(3, 1), (5, (-1))]) = x 3 - x 5 := by show ((0) : Int) + ((1) * x 3 + ((-1) * x 5 + 0)) = _; omega
    have O3 : y_ev x (0, [(3, (-1)), (5, 1)]) = x 5 - x 3 := by show ((0) : Int) + ((-1) * x 3 + ((1) * x 5 + 0)) = _; omega
    show (0 ≤ y_ev x (0, [(2, 1), (4, (-1))]) ∧ 0 ≤ y_ev x (0, [(2, (-1)), (4, 1)]) ∧ 0 ≤ y_ev x (0, [(3, 1), (5, (-1))]) ∧ 0 ≤ y_ev x (0, [(3, (-1)), (5, 1)]) ∧ True) ∧ (True)
    (try rw [O0]); (try rw [O1]); (try rw [O2]); (try rw [O3])
    exact K
def lm_1070 : zLem := (([((-2147483648), 2147483647), ((-2147483648), 2147483647), ((-2147483648), 2147483647), ((-2147483648), 2147483647)], [], [], [], [], [], [(235, [(0, [(3, 1)]), (0, [(0, 1)]), (0, [(1, 1)]), (0, [(2, 1)]), (0, []), (0, []), (0, []), (0, []), (0, []), (0, []), (0, [])])]), [([((-2147483648), 2147483647), ((-2147483648), 2147483647), ((-2147483648), 2147483647), ((-2147483648), 2147483647)], [], [], [], [], [], [(238, [(29, []), (0, []), (0, []), (0, []), (0, []), (0, []), (0, []), (0, []), (0, []), ((-2), []), ((-2), [])])])])
theorem lk_1070 : l_core lm_1070 := by
  first
  | skip
    intro v x h
    have T0 : q_sto v 0 (y_ev x (0, [(3, 1)])) (y_ev x (0, [(0, 1)])) (y_ev x (0, [(1, 1)])) (y_ev x (0, [(2, 1)])) (y_ev x (0, [])) (y_ev x (0, [])) (y_ev x (0, [])) (y_ev x (0, [])) (y_ev x (0, [])) (y_ev x (0, [])) (y_ev x (0, [])) := h.2.2.2.1
    (try simp only [l_e1, l_e0] at T0)
    have K := k_gre0 (V := v) (p := x 0) (y := x 1) (d := x 2) (H := x 3) T0
    refine l_outH rfl (And.intro h.1 ?_)
    show (True) ∧ (q_qry v (y_ev x (29, [])) (y_ev x (0, [])) (y_ev x (0, [])) (y_ev x (0, [])) (y_ev x (0, [])) (y_ev x (0, [])) (y_ev x (0, [])) (y_ev x (0, [])) (y_ev x (0, [])) (y_ev x ((-2), [])) (y_ev x ((-2), [])) ∧ True)
    (try simp only [l_e1, l_e0])
    exact K
  | skip
    intro v x h
    have E0 : y_ev x (0, [(3, 1)]) = x 3 := (l_e1 _ _)
    have E1 : y_ev x (0, [(0, 1)]) = x 0 := (l_e1 _ _)
    have E2 : y_ev x (0, [(1, 1)]) = x 1 := (l_e1 _ _)
    have E3 : y_ev x (0, [(2, 1)]) = x 2 := (l_e1 _ _)
    have E4 : y_ev x (0, []) = 0 := (l_e0 _ _)
    have T0 : q_sto v 0 (y_ev x (0, [(3, 1)])) (y_ev x (0, [(0, 1)])) (y_ev x (0, [(1, 1)])) (y_ev x (0, [(2, 1)])) (y_ev x (0, [])) (y_ev x (0, [])) (y_ev x (0, [])) (y_ev x (0, [])) (y_ev x (0, [])) (y_ev x (0, [])) (y_ev x (0, [])) := h.2.2.2.1
    (try rw [E0] at T0); (try rw [E1] at T0); (try rw [E2] at T0); (try rw [E3] at T0); (try rw [E4] at T0)
    have K := k_gre0 (V := v) (p := x 0) (y := x 1) (d := x 2) (H := x 3) T0
    refine l_outH rfl (And.intro h.1 ?_)
    have O0 : y_ev x (29, []) = 29 := l_e0 _ _
    have O1 : y_ev x (0, []) = 0 := l_e0 _ _
    have O2 : y_ev x ((-2), []) = (-2) := l_e0 _ _
    show (True) ∧ (q_qry v (y_ev x (29, [])) (y_ev x (0, [])) (y_ev x (0, [])) (y_ev x (0, [])) (y_ev x (0, [])) (y_ev x (0, [])) (y_ev x (0, [])) (y_ev x (0, [])) (y_ev x (0, [])) (y_ev x ((-2), [])) (y_ev x ((-2), [])) ∧ True)
    (try rw [O0]); (try rw [O1]); (try rw [O2])
    exact K
def lm_1071p : zS := ([((-2147483648), 2147483647), ((-2147483648), 2147483647), ((-2147483648), 2147483647), ((-2147483648), 2147483647), ((-2147483648), 2147483647), ((-2147483648), 2147483647), ((-2147483648), 2147483647), ((-2147483648), 2147483647)], [], [(0, [(0, 1)]), ((-1), [(0, (-1)), (5, 1)]), ((-1), [(2, (-1))])], [], [(0, 0, 0, [(0, 1)]), (0, 0, 0, [(1, 1)])], [], [(235, [(0, [(4, 1)]), (0, [(5, 1)]), (0, [(6, 1)]), (0, [(7, 1)]), (0, []), (0, []), (0, []), (0, []), (0, []), (0, []), (0, [])]), (238, [(29, []), (0, []), (0, []), (0, []), (0, []), (0, []), (0, []), (0, []), (0, [(0, 1)]), (0, [(2, 1)]), (0, [(3, 1)])]), (238, [(18, []), (0, []), (0, []), (0, []), (0, []), (0, []), (0, []), (0, []), (0, [(0, 1)]), (0, []), (0, [(1, 1)])])])
def lm_1071 : zLem := (lm_1071p, [([((-2147483648), 2147483647), ((-2147483648), 2147483647), ((-2147483648), 2147483647), ((-2147483648), 2147483647), ((-2147483648), 2147483647), ((-2147483648), 2147483647), ((-2147483648), 2147483647), ((-2147483648), 2147483647)], [], [], [], [], [], [(238, [(29, []), (0, []), (0, []), (0, []), (0, []), (0, []), (0, []), (0, []), (1, [(0, 1)]), (0, [(0, 1)]), (0, [(1, 1)])])])])
theorem lk_1071 : l_core lm_1071 := by
  first
  | skip
    intro v x h
    have C0 : (0 : Int) ≤ x 0 := l_cc (a := y_ev x (0, [(0, 1)])) (l_e1 _ _) (h.2.1.1)
    have C1 : (0 : Int) ≤ x 5 - x 0 - 1 := l_cc (a := y_ev x ((-1), [(0, (-1)), (5, 1)])) (by show ((-1) : Int) + ((-1) * x 0 + ((1) * x 5 + 0)) = x 5 - x 0 - 1; omega) (h.2.1.2.1)
    have C2 : (0 : Int) ≤ -x 2 - 1 := l_cc (a := y_ev x ((-1), [(2, (-1))])) (by show ((-1) : Int) + ((-1) * x 2 + 0) = -x 2 - 1; omega) (h.2.1.2.2.1)
    have T0 : q_sto v 0 (y_ev x (0, [(4, 1)])) (y_ev x (0, [(5, 1)])) (y_ev x (0, [(6, 1)])) (y_ev x (0, [(7, 1)])) (y_ev x (0, [])) (y_ev x (0, [])) (y_ev x (0, [])) (y_ev x (0, [])) (y_ev x (0, [])) (y_ev x (0, [])) (y_ev x (0, [])) := h.2.2.2.1
    (try simp only [l_e1, l_e0] at T0)
    have T1 : q_qry v (y_ev x (29, [])) (y_ev x (0, [])) (y_ev x (0, [])) (y_ev x (0, [])) (y_ev x (0, [])) (y_ev x (0, [])) (y_ev x (0, [])) (y_ev x (0, [])) (y_ev x (0, [(0, 1)])) (y_ev x (0, [(2, 1)])) (y_ev x (0, [(3, 1)])) := h.2.2.2.2.1
    (try simp only [l_e1, l_e0] at T1)
    have T2 : q_qry v (y_ev x (18, [])) (y_ev x (0, [])) (y_ev x (0, [])) (y_ev x (0, [])) (y_ev x (0, [])) (y_ev x (0, [])) (y_ev x (0, [])) (y_ev x (0, [])) (y_ev x (0, [(0, 1)])) (y_ev x (0, [])) (y_ev x (0, [(1, 1)])) := h.2.2.2.2.2.1
    (try simp only [l_e1, l_e0] at T2)
    have K := k_greT1 (V := v) (i := x 0) (u := x 1) (bb := x 2) (l := x 3) (H := x 4) (p := x 5) (y := x 6) (d := x 7) T0 T1 T2 C0 C1 C2
    refine l_outH rfl (And.intro h.1 ?_)
    have O2 : y_ev x (1, [(0, 1)]) = x 0 + 1 := by show ((1) : Int) + ((1) * x 0 + 0) = _; omega
    show (True) ∧ (q_qry v (y_ev x (29, [])) (y_ev x (0, [])) (y_ev x (0, [])) (y_ev x (0, [])) (y_ev x (0, [])) (y_ev x (0, [])) (y_ev x (0, [])) (y_ev x (0, [])) (y_ev x (1, [(0, 1)])) (y_ev x (0, [(0, 1)])) (y_ev x (0, [(1, 1)])) ∧ True)
    (try rw [O2]); (try simp only [l_e1, l_e0])
    exact K
  | skip
    intro v x h
    have C0 : (0 : Int) ≤ x 0 := l_cc (a := y_ev x (0, [(0, 1)])) (l_e1 _ _) (h.2.1.1)
    have C1 : (0 : Int) ≤ x 5 - x 0 - 1 := l_cc (a := y_ev x ((-1), [(0, (-1)), (5, 1)])) (by show ((-1) : Int) + ((-1) * x 0 + ((1) * x 5 + 0)) = x 5 - x 0 - 1; omega) (h.2.1.2.1)
    have C2 : (0 : Int) ≤ -x 2 - 1 := l_cc (a := y_ev x ((-1), [(2, (-1))])) (by show ((-1) : Int) + ((-1) * x 2 + 0) = -x 2 - 1; omega) (h.2.1.2.2.1)
    have E0 : y_ev x (0, [(4, 1)]) = x 4 := (l_e1 _ _)
    have E1 : y_ev x (0, [(5, 1)]) = x 5 := (l_e1 _ _)
    have E2 : y_ev x (0, [(6, 1)]) = x 6 := (l_e1 _ _)
    have E3 : y_ev x (0, [(7, 1)]) = x 7 := (l_e1 _ _)
    have E4 : y_ev x (0, []) = 0 := (l_e0 _ _)
    have E5 : y_ev x (29, []) = 29 := (l_e0 _ _)
    have E6 : y_ev x (0, [(0, 1)]) = x 0 := (l_e1 _ _)
    have E7 : y_ev x (0, [(2, 1)]) = x 2 := (l_e1 _ _)
    have E8 : y_ev x (0, [(3, 1)]) = x 3 := (l_e1 _ _)
    have E9 : y_ev x (18, []) = 18 := (l_e0 _ _)
    have E10 : y_ev x (0, [(1, 1)]) = x 1 := (l_e1 _ _)
    have T0 : q_sto v 0 (y_ev x (0, [(4, 1)])) (y_ev x (0, [(5, 1)])) (y_ev x (0, [(6, 1)])) (y_ev x (0, [(7, 1)])) (y_ev x (0, [])) (y_ev x (0, [])) (y_ev x (0, [])) (y_ev x (0, [])) (y_ev x (0, [])) (y_ev x (0, [])) (y_ev x (0, [])) := h.2.2.2.1
    (try rw [E0] at T0); (try rw [E1] at T0); (try rw [E2] at T0); (try rw [E3] at T0); (try rw [E4] at T0)
    have T1 : q_qry v (y_ev x (29, [])) (y_ev x (0, [])) (y_ev x (0, [])) (y_ev x (0, [])) (y_ev x (0, [])) (y_ev x (0, [])) (y_ev x (0, [])) (y_ev x (0, [])) (y_ev x (0, [(0, 1)])) (y_ev x (0, [(2, 1)])) (y_ev x (0, [(3, 1)])) := h.2.2.2.2.1
    (try rw [E5] at T1); (try rw [E4] at T1); (try rw [E6] at T1); (try rw [E7] at T1); (try rw [E8] at T1)
    have T2 : q_qry v (y_ev x (18, [])) (y_ev x (0, [])) (y_ev x (0, [])) (y_ev x (0, [])) (y_ev x (0, [])) (y_ev x (0, [])) (y_ev x (0, [])) (y_ev x (0, [])) (y_ev x (0, [(0, 1)])) (y_ev x (0, [])) (y_ev x (0, [(1, 1)])) := h.2.2.2.2.2.1
    (try rw [E9] at T2); (try rw [E4] at T2); (try rw [E6] at T2); (try rw [E10] at T2)
    have K := k_greT1 (V := v) (i := x 0) (u := x 1) (bb := x 2) (l := x 3) (H := x 4) (p := x 5) (y := x 6) (d := x 7) T0 T1 T2 C0 C1 C2
    refine l_outH rfl (And.intro h.1 ?_)
    have O0 : y_ev x (29, []) = 29 := l_e0 _ _
    have O1 : y_ev x (0, []) = 0 := l_e0 _ _
    have O2 : y_ev x (1, [(0, 1)]) = x 0 + 1 := by show ((1) : Int) + ((1) * x 0 + 0) = _; omega
    have O3 : y_ev x (0, [(0, 1)]) = x 0 := l_e1 _ _
    have O4 : y_ev x (0, [(1, 1)]) = x 1 := l_e1 _ _
    show (True) ∧ (q_qry v (y_ev x (29, [])) (y_ev x (0, [])) (y_ev x (0, [])) (y_ev x (0, [])) (y_ev x (0, [])) (y_ev x (0, [])) (y_ev x (0, [])) (y_ev x (0, [])) (y_ev x (1, [(0, 1)])) (y_ev x (0, [(0, 1)])) (y_ev x (0, [(1, 1)])) ∧ True)
    (try rw [O0]); (try rw [O1]); (try rw [O2]); (try rw [O3]); (try rw [O4])
    exact K
def lm_1072p : zS := ([((-2147483648), 2147483647), ((-2147483648), 2147483647), ((-2147483648), 2147483647), ((-2147483648), 2147483647), ((-2147483648), 2147483647), ((-2147483648), 2147483647), ((-2147483648), 2147483647), ((-2147483648), 2147483647)], [], [(0, [(0, 1)]), ((-1), [(0, (-1)), (5, 1)]), (0, [(2, 1)]), ((-1), [(1, (-1)), (3, 1)])], [], [(0, 0, 0, [(0, 1)]), (0, 0, 0, [(1, 1)])], [], [(235, [(0, [(4, 1)]), (0, [(5, 1)]), (0, [(6, 1)]), (0, [(7, 1)]), (0, []), (0, []), (0, []), (0, []), (0, []), (0, []), (0, [])]), (238, [(29, []), (0, []), (0, []), (0, []), (0, []), (0, []), (0, []), (0, []), (0, [(0, 1)]), (0, [(2, 1)]), (0, [(3, 1)])]), (238, [(18, []), (0, []), (0, []), (0, []), (0, []), (0, []), (0, []), (0, []), (0, [(0, 1)]), (0, []), (0, [(1, 1)])])])
def lm_1072 : zLem := (lm_1072p, [([((-2147483648), 2147483647), ((-2147483648), 2147483647), ((-2147483648), 2147483647), ((-2147483648), 2147483647), ((-2147483648), 2147483647), ((-2147483648), 2147483647), ((-2147483648), 2147483647), ((-2147483648), 2147483647)], [], [], [], [], [], [(238, [(29, []), (0, []), (0, []), (0, []), (0, []), (0, []), (0, []), (0, []), (1, [(0, 1)]), (0, [(0, 1)]), (0, [(1, 1)])])])])
theorem lk_1072 : l_core lm_1072 := by
  first
  | skip
    intro v x h
    have C0 : (0 : Int) ≤ x 0 := l_cc (a := y_ev x (0, [(0, 1)])) (l_e1 _ _) (h.2.1.1)
    have C1 : (0 : Int) ≤ x 5 - x 0 - 1 := l_cc (a := y_ev x ((-1), [(0, (-1)), (5, 1)])) (by show ((-1) : Int) + ((-1) * x 0 + ((1) * x 5 + 0)) = x 5 - x 0 - 1; omega) (h.2.1.2.1)
    have C2 : (0 : Int) ≤ x 2 := l_cc (a := y_ev x (0, [(2, 1)])) (l_e1 _ _) (h.2.1.2.2.1)
    have C3 : (0 : Int) ≤ x 3 - x 1 - 1 := l_cc (a := y_ev x ((-1), [(1, (-1)), (3, 1)])) (by show ((-1) : Int) + ((-1) * x 1 + ((1) * x 3 + 0)) = x 3 - x 1 - 1; omega) (h.2.1.2.2.2.1)
    have T0 : q_sto v 0 (y_ev x (0, [(4, 1)])) (y_ev x (0, [(5, 1)])) (y_ev x (0, [(6, 1)])) (y_ev x (0, [(7, 1)])) (y_ev x (0, [])) (y_ev x (0, [])) (y_ev x (0, [])) (y_ev x (0, [])) (y_ev x (0, [])) (y_ev x (0, [])) (y_ev x (0, [])) := h.2.2.2.1
    (try simp only [l_e1, l_e0] at T0)
    have T1 : q_qry v (y_ev x (29, [])) (y_ev x (0, [])) (y_ev x (0, [])) (y_ev x (0, [])) (y_ev x (0, [])) (y_ev x (0, [])) (y_ev x (0, [])) (y_ev x (0, [])) (y_ev x (0, [(0, 1)])) (y_ev x (0, [(2, 1)])) (y_ev x (0, [(3, 1)])) := h.2.2.2.2.1
    (try simp only [l_e1, l_e0] at T1)
    have T2 : q_qry v (y_ev x (18, [])) (y_ev x (0, [])) (y_ev x (0, [])) (y_ev x (0, [])) (y_ev x (0, [])) (y_ev x (0, [])) (y_ev x (0, [])) (y_ev x (0, [])) (y_ev x (0, [(0, 1)])) (y_ev x (0, [])) (y_ev x (0, [(1, 1)])) := h.2.2.2.2.2.1
    (try simp only [l_e1, l_e0] at T2)
    have K := k_greT2 (V := v) (i := x 0) (u := x 1) (bb := x 2) (l := x 3) (H := x 4) (p := x 5) (y := x 6) (d := x 7) T0 T1 T2 C0 C1 C2 C3
    refine l_outH rfl (And.intro h.1 ?_)
    have O2 : y_ev x (1, [(0, 1)]) = x 0 + 1 := by show ((1) : Int) + ((1) * x 0 + 0) = _; omega
    show (True) ∧ (q_qry v (y_ev x (29, [])) (y_ev x (0, [])) (y_ev x (0, [])) (y_ev x (0, [])) (y_ev x (0, [])) (y_ev x (0, [])) (y_ev x (0, [])) (y_ev x (0, [])) (y_ev x (1, [(0, 1)])) (y_ev x (0, [(0, 1)])) (y_ev x (0, [(1, 1)])) ∧ True)
    (try rw [O2]); (try simp only [l_e1, l_e0])
    exact K
  | skip
    intro v x h
    have C0 : (0 : Int) ≤ x 0 := l_cc (a := y_ev x (0, [(0, 1)])) (l_e1 _ _) (h.2.1.1)
    have C1 : (0 : Int) ≤ x 5 - x 0 - 1 := l_cc (a := y_ev x ((-1), [(0, (-1)), (5, 1)])) (by show ((-1) : Int) + ((-1) * x 0 + ((1) * x 5 + 0)) = x 5 - x 0 - 1; omega) (h.2.1.2.1)
    have C2 : (0 : Int) ≤ x 2 := l_cc (a := y_ev x (0, [(2, 1)])) (l_e1 _ _) (h.2.1.2.2.1)
    have C3 : (0 : Int) ≤ x 3 - x 1 - 1 := l_cc (a := y_ev x ((-1), [(1, (-1)), (3, 1)])) (by show ((-1) : Int) + ((-1) * x 1 + ((1) * x 3 + 0)) = x 3 - x 1 - 1; omega) (h.2.1.2.2.2.1)
    have E0 : y_ev x (0, [(4, 1)]) = x 4 := (l_e1 _ _)
    have E1 : y_ev x (0, [(5, 1)]) = x 5 := (l_e1 _ _)
    have E2 : y_ev x (0, [(6, 1)]) = x 6 := (l_e1 _ _)
    have E3 : y_ev x (0, [(7, 1)]) = x 7 := (l_e1 _ _)
    have E4 : y_ev x (0, []) = 0 := (l_e0 _ _)
    have E5 : y_ev x (29, []) = 29 := (l_e0 _ _)
    have E6 : y_ev x (0, [(0, 1)]) = x 0 := (l_e1 _ _)
    have E7 : y_ev x (0, [(2, 1)]) = x 2 := (l_e1 _ _)
    have E8 : y_ev x (0, [(3, 1)]) = x 3 := (l_e1 _ _)
    have E9 : y_ev x (18, []) = 18 := (l_e0 _ _)
    have E10 : y_ev x (0, [(1, 1)]) = x 1 := (l_e1 _ _)
    have T0 : q_sto v 0 (y_ev x (0, [(4, 1)])) (y_ev x (0, [(5, 1)])) (y_ev x (0, [(6, 1)])) (y_ev x (0, [(7, 1)])) (y_ev x (0, [])) (y_ev x (0, [])) (y_ev x (0, [])) (y_ev x (0, [])) (y_ev x (0, [])) (y_ev x (0, [])) (y_ev x (0, [])) := h.2.2.2.1
    (try rw [E0] at T0); (try rw [E1] at T0); (try rw [E2] at T0); (try rw [E3] at T0); (try rw [E4] at T0)
    have T1 : q_qry v (y_ev x (29, [])) (y_ev x (0, [])) (y_ev x (0, [])) (y_ev x (0, [])) (y_ev x (0, [])) (y_ev x (0, [])) (y_ev x (0, [])) (y_ev x (0, [])) (y_ev x (0, [(0, 1)])) (y_ev x (0, [(2, 1)])) (y_ev x (0, [(3, 1)])) := h.2.2.2.2.1
    (try rw [E5] at T1); (try rw [E4] at T1); (try rw [E6] at T1); (try rw [E7] at T1); (try rw [E8] at T1)
    have T2 : q_qry v (y_ev x (18, [])) (y_ev x (0, [])) (y_ev x (0, [])) (y_ev x (0, [])) (y_ev x (0, [])) (y_ev x (0, [])) (y_ev x (0, [])) (y_ev x (0, [])) (y_ev x (0, [(0, 1)])) (y_ev x (0, [])) (y_ev x (0, [(1, 1)])) := h.2.2.2.2.2.1
    (try rw [E9] at T2); (try rw [E4] at T2); (try rw [E6] at T2); (try rw [E10] at T2)
    have K := k_greT2 (V := v) (i := x 0) (u := x 1) (bb := x 2) (l := x 3) (H := x 4) (p := x 5) (y := x 6) (d := x 7) T0 T1 T2 C0 C1 C2 C3
    refine l_outH rfl (And.intro h.1 ?_)
    have O0 : y_ev x (29, []) = 29 := l_e0 _ _
    have O1 : y_ev x (0, []) = 0 := l_e0 _ _
    have O2 : y_ev x (1, [(0, 1)]) = x 0 + 1 := by show ((1) : Int) + ((1) * x 0 + 0) = _; omega
    have O3 : y_ev x (0, [(0, 1)]) = x 0 := l_e1 _ _
    have O4 : y_ev x (0, [(1, 1)]) = x 1 := l_e1 _ _
    show (True) ∧ (q_qry v (y_ev x (29, [])) (y_ev x (0, [])) (y_ev x (0, [])) (y_ev x (0, [])) (y_ev x (0, [])) (y_ev x (0, [])) (y_ev x (0, [])) (y_ev x (0, [])) (y_ev x (1, [(0, 1)])) (y_ev x (0, [(0, 1)])) (y_ev x (0, [(1, 1)])) ∧ True)
    (try rw [O0]); (try rw [O1]); (try rw [O2]); (try rw [O3]); (try rw [O4])
    exact K
def lm_1073p : zS := ([((-2147483648), 2147483647), ((-2147483648), 2147483647), ((-2147483648), 2147483647), ((-2147483648), 2147483647), ((-2147483648), 2147483647), ((-2147483648), 2147483647), ((-2147483648), 2147483647), ((-2147483648), 2147483647)], [], [(0, [(0, 1)]), ((-1), [(0, (-1)), (5, 1)]), (0, [(2, 1)]), (0, [(1, 1), (3, (-1))])], [], [(0, 0, 0, [(0, 1)]), (0, 0, 0, [(2, 1)]), (0, 0, 0, [(3, 1)]), (0, 0, 0, [(1, 1)])], [], [(235, [(0, [(4, 1)]), (0, [(5, 1)]), (0, [(6, 1)]), (0, [(7, 1)]), (0, []), (0, []), (0, []), (0, []), (0, []), (0, []), (0, [])]), (238, [(29, []), (0, []), (0, []), (0, []), (0, []), (0, []), (0, []), (0, []), (0, [(0, 1)]), (0, [(2, 1)]), (0, [(3, 1)])]), (238, [(18, []), (0, []), (0, []), (0, []), (0, []), (0, []), (0, []), (0, []), (0, [(0, 1)]), (0, []), (0, [(1, 1)])])])
def lm_1073 : zLem := (lm_1073p, [([((-2147483648), 2147483647), ((-2147483648), 2147483647), ((-2147483648), 2147483647), ((-2147483648), 2147483647), ((-2147483648), 2147483647), ((-2147483648), 2147483647), ((-2147483648), 2147483647), ((-2147483648), 2147483647)], [], [], [], [], [], [(238, [(29, []), (0, []), (0, []), (0, []), (0, []), (0, []), (0, []), (0, []), (1, [(0, 1)]), (0, [(2, 1)]), (0, [(3, 1)])])])])
theorem lk_1073 : l_core lm_1073 := by
  first
  | skip
    intro v x h
    have C0 : (0 : Int) ≤ x 0 := l_cc (a := y_ev x (0, [(0, 1)])) (l_e1 _ _) (h.2.1.1)
    have C1 : (0 : Int) ≤ x 5 - x 0 - 1 := l_cc (a := y_ev x ((-1), [(0, (-1)), (5, 1)])) (by show ((-1) : Int) + ((-1) * x 0 + ((1) * x 5 + 0)) = x 5 - x 0 - 1; omega) (h.2.1.2.1)
    have C2 : (0 : Int) ≤ x 2 := l_cc (a := y_ev x (0, [(2, 1)])) (l_e1 _ _) (h.2.1.2.2.1)
    have C3 : (0 : Int) ≤ x 1 - x 3 := l_cc (a := y_ev x (0, [(1, 1), (3, (-1))])) (by show ((0) : Int) + ((1) * x 1 + ((-1) * x 3 + 0)) = x 1 - x 3; omega) (h.2.1.2.2.2.1)
    have T0 : q_sto v 0 (y_ev x (0, [(4, 1)])) (y_ev x (0, [(5, 1)])) (y_ev x (0, [(6, 1)])) (y_ev x (0, [(7, 1)])) (y_ev x (0, [])) (y_ev x (0, [])) (y_ev x (0, [])) (y_ev x (0, [])) (y_ev x (0, [])) (y_ev x (0, [])) (y_ev x (0, [])) := h.2.2.2.1
    (try simp only [l_e1, l_e0] at T0)
    have T1 : q_qry v (y_ev x (29, [])) (y_ev x (0, [])) (y_ev x (0, [])) (y_ev x (0, [])) (y_ev x (0, [])) (y_ev x (0, [])) (y_ev x (0, [])) (y_ev x (0, [])) (y_ev x (0, [(0, 1)])) (y_ev x (0, [(2, 1)])) (y_ev x (0, [(3, 1)])) := h.2.2.2.2.1
    (try simp only [l_e1, l_e0] at T1)
    have T2 : q_qry v (y_ev x (18, [])) (y_ev x (0, [])) (y_ev x (0, [])) (y_ev x (0, [])) (y_ev x (0, [])) (y_ev x (0, [])) (y_ev x (0, [])) (y_ev x (0, [])) (y_ev x (0, [(0, 1)])) (y_ev x (0, [])) (y_ev x (0, [(1, 1)])) := h.2.2.2.2.2.1
    (try simp only [l_e1, l_e0] at T2)
    have K := k_greN (V := v) (i := x 0) (u := x 1) (bb := x 2) (l := x 3) (H := x 4) (p := x 5) (y := x 6) (d := x 7) T0 T1 T2 C0 C1 C2 C3
    refine l_outH rfl (And.intro h.1 ?_)
    have O2 : y_ev x (1, [(0, 1)]) = x 0 + 1 := by show ((1) : Int) + ((1) * x 0 + 0) = _; omega
    show (True) ∧ (q_qry v (y_ev x (29, [])) (y_ev x (0, [])) (y_ev x (0, [])) (y_ev x (0, [])) (y_ev x (0, [])) (y_ev x (0, [])) (y_ev x (0, [])) (y_ev x (0, [])) (y_ev x (1, [(0, 1)])) (y_ev x (0, [(2, 1)])) (y_ev x (0, [(3, 1)])) ∧ True)
    (try rw [O2]); (try simp only [l_e1, l_e0])
    exact K
  | skip
    intro v x h
    have C0 : (0 : Int) ≤ x 0 := l_cc (a := y_ev x (0, [(0, 1)])) (l_e1 _ _) (h.2.1.1)
    have C1 : (0 : Int) ≤ x 5 - x 0 - 1 := l_cc (a := y_ev x ((-1), [(0, (-1)), (5, 1)])) (by show ((-1) : Int) + ((-1) * x 0 + ((1) * x 5 + 0)) = x 5 - x 0 - 1; omega) (h.2.1.2.1)
    have C2 : (0 : Int) ≤ x 2 := l_cc (a := y_ev x (0, [(2, 1)])) (l_e1 _ _) (h.2.1.2.2.1)
    have C3 : (0 : Int) ≤ x 1 - x 3 := l_cc (a := y_ev x (0, [(1, 1), (3, (-1))])) (by show ((0) : Int) + ((1) * x 1 + ((-1) * x 3 + 0)) = x 1 - x 3; omega) (h.2.1.2.2.2.1)
    have E0 : y_ev x (0, [(4, 1)]) = x 4 := (l_e1 _ _)
    have E1 : y_ev x (0, [(5, 1)]) = x 5 := (l_e1 _ _)
    have E2 : y_ev x (0, [(6, 1)]) = x 6 := (l_e1 _ _)
    have E3 : y_ev x (0, [(7, 1)]) = x 7 := (l_e1 _ _)
    have E4 : y_ev x (0, []) = 0 := (l_e0 _ _)
    have E5 : y_ev x (29, []) = 29 := (l_e0 _ _)
    have E6 : y_ev x (0, [(0, 1)]) = x 0 := (l_e1 _ _)
    have E7 : y_ev x (0, [(2, 1)]) = x 2 := (l_e1 _ _)
    have E8 : y_ev x (0, [(3, 1)]) = x 3 := (l_e1 _ _)
    have E9 : y_ev x (18, []) = 18 := (l_e0 _ _)
    have E10 : y_ev x (0, [(1, 1)]) = x 1 := (l_e1 _ _)
    have T0 : q_sto v 0 (y_ev x (0, [(4, 1)])) (y_ev x (0, [(5, 1)])) (y_ev x (0, [(6, 1)])) (y_ev x (0, [(7, 1)])) (y_ev x (0, [])) (y_ev x (0, [])) (y_ev x (0, [])) (y_ev x (0, [])) (y_ev x (0, [])) (y_ev x (0, [])) (y_ev x (0, [])) := h.2.2.2.1
    (try rw [E0] at T0); (try rw [E1] at T0); (try rw [E2] at T0); (try rw [E3] at T0); (try rw [E4] at T0)
    have T1 : q_qry v (y_ev x (29, [])) (y_ev x (0, [])) (y_ev x (0, [])) (y_ev x (0, [])) (y_ev x (0, [])) (y_ev x (0, [])) (y_ev x (0, [])) (y_ev x (0, [])) (y_ev x (0, [(0, 1)])) (y_ev x (0, [(2, 1)])) (y_ev x (0, [(3, 1)])) := h.2.2.2.2.1
    (try rw [E5] at T1); (try rw [E4] at T1); (try rw [E6] at T1); (try rw [E7] at T1); (try rw [E8] at T1)
    have T2 : q_qry v (y_ev x (18, [])) (y_ev x (0, [])) (y_ev x (0, [])) (y_ev x (0, [])) (y_ev x (0, [])) (y_ev x (0, [])) (y_ev x (0, [])) (y_ev x (0, [])) (y_ev x (0, [(0, 1)])) (y_ev x (0, [])) (y_ev x (0, [(1, 1)])) := h.2.2.2.2.2.1
    (try rw [E9] at T2); (try rw [E4] at T2); (try rw [E6] at T2); (try rw [E10] at T2)
    have K := k_greN (V := v) (i := x 0) (u := x 1) (bb := x 2) (l := x 3) (H := x 4) (p := x 5) (y := x 6) (d := x 7) T0 T1 T2 C0 C1 C2 C3
    refine l_outH rfl (And.intro h.1 ?_)
    have O0 : y_ev x (29, []) = 29 := l_e0 _ _
    have O1 : y_ev x (0, []) = 0 := l_e0 _ _
    have O2 : y_ev x (1, [(0, 1)]) = x 0 + 1 := by show ((1) : Int) + ((1) * x 0 + 0) = _; omega
    have O3 : y_ev x (0, [(2, 1)]) = x 2 := l_e1 _ _
    have O4 : y_ev x (0, [(3, 1)]) = x 3 := l_e1 _ _
    show (True) ∧ (q_qry v (y_ev x (29, [])) (y_ev x (0, [])) (y_ev x (0, [])) (y_ev x (0, [])) (y_ev x (0, [])) (y_ev x (0, [])) (y_ev x (0, [])) (y_ev x (0, [])) (y_ev x (1, [(0, 1)])) (y_ev x (0, [(2, 1)])) (y_ev x (0, [(3, 1)])) ∧ True)
    (try rw [O0]); (try rw [O1]); (try rw [O2]); (try rw [O3]); (try rw [O4])
    exact K
def lm_1074 : zLem := (([((-2147483648), 2147483647), ((-2147483648), 2147483647), ((-2147483648), 2147483647), ((-2147483648), 2147483647), ((-2147483648), 2147483647), ((-2147483648), 2147483647), ((-2147483648), 2147483647)], [], [(0, [(0, 1), (4, (-1))])], [], [(0, 0, 0, [(1, 1)]), (0, 0, 0, [(2, 1)]), (0, 0, 0, [(0, 1)])], [], [(235, [(0, [(3, 1)]), (0, [(4, 1)]), (0, [(5, 1)]), (0, [(6, 1)]), (0, []), (0, []), (0, []), (0, []), (0, []), (0, []), (0, [])]), (238, [(29, []), (0, []), (0, []), (0, []), (0, []), (0, []), (0, []), (0, []), (0, [(0, 1)]), (0, [(1, 1)]), (0, [(2, 1)])])]), [([((-2147483648), 2147483647), ((-2147483648), 2147483647), ((-2147483648), 2147483647), ((-2147483648), 2147483647), ((-2147483648), 2147483647), ((-2147483648), 2147483647), ((-2147483648), 2147483647)], [], [], [], [], [], [(260, [(29, []), (0, []), (0, []), (0, []), (0, []), (0, []), (0, []), (0, []), (0, [(4, 1)]), (0, [(1, 1)]), (0, [(2, 1)])])])])
theorem lk_1074 : l_core lm_1074 := by
  first
  | skip
    intro v x h
    have C0 : (0 : Int) ≤ x 0 - x 4 := l_cc (a := y_ev x (0, [(0, 1), (4, (-1))])) (by show ((0) : Int) + ((1) * x 0 + ((-1) * x 4 + 0)) = x 0 - x 4; omega) (h.2.1.1)
    have T0 : q_sto v 0 (y_ev x (0, [(3, 1)])) (y_ev x (0, [(4, 1)])) (y_ev x (0, [(5, 1)])) (y_ev x (0, [(6, 1)])) (y_ev x (0, [])) (y_ev x (0, [])) (y_ev x (0, [])) (y_ev x (0, [])) (y_ev x (0, [])) (y_ev x (0, [])) (y_ev x (0, [])) := h.2.2.2.1
    (try simp only [l_e1, l_e0] at T0)
    have T1 : q_qry v (y_ev x (29, [])) (y_ev x (0, [])) (y_ev x (0, [])) (y_ev x (0, [])) (y_ev x (0, [])) (y_ev x (0, [])) (y_ev x (0, [])) (y_ev x (0, [])) (y_ev x (0, [(0, 1)])) (y_ev x (0, [(1, 1)])) (y_ev x (0, [(2, 1)])) := h.2.2.2.2.1
    (try simp only [l_e1, l_e0] at T1)
    have K := k_greE (V := v) (i := x 0) (bb := x 1) (l := x 2) (H := x 3) (p := x 4) (y := x 5) (d := x 6) T0 T1 C0
    refine l_outH rfl (And.intro h.1 ?_)
    show (True) ∧ (q_qry v (y_ev x (29, [])) (y_ev x (0, [])) (y_ev x (0, [])) (y_ev x (0, [])) (y_ev x (0, [])) (y_ev x (0, [])) (y_ev x (0, [])) (y_ev x (0, [])) (y_ev x (0, [(4, 1)])) (y_ev x (0, [(1, 1)])) (y_ev x (0, [(2, 1)])) ∧ True)
    (try simp only [l_e1, l_e0])
    exact K
  | skip
    intro v x h
    have C0 : (0 : Int) ≤ x 0 - x 4 := l_cc (a := y_ev x (0, [(0, 1), (4, (-1))])) (by show ((0) : Int) + ((1) * x 0 + ((-1) * x 4 + 0)) = x 0 - x 4; omega) (h.2.1.1)
    have E0 : y_ev x (0, [(3, 1)]) = x 3 := (l_e1 _ _)
    have E1 : y_ev x (0, [(4, 1)]) = x 4 := (l_e1 _ _)
    have E2 : y_ev x (0, [(5, 1)]) = x 5 := (l_e1 _ _)
    have E3 : y_ev x (0, [(6, 1)]) = x 6 := (l_e1 _ _)
    have E4 : y_ev x (0, []) = 0 := (l_e0 _ _)
    have E5 : y_ev x (29, []) = 29 := (l_e0 _ _)
    have E6 : y_ev x (0, [(0, 1)]) = x 0 := (l_e1 _ _)
    have E7 : y_ev x (0, [(1, 1)]) = x 1 := (l_e1 _ _)
    have E8 : y_ev x (0, [(2, 1)]) = x 2 := (l_e1 _ _)
    have T0 : q_sto v 0 (y_ev x (0, [(3, 1)])) (y_ev x (0, [(4, 1)])) (y_ev x (0, [(5, 1)])) (y_ev x (0, [(6, 1)])) (y_ev x (0, [])) (y_ev x (0, [])) (y_ev x (0, [])) (y_ev x (0, [])) (y_ev x (0, [])) (y_ev x (0, [])) (y_ev x (0, [])) := h.2.2.2.1
    (try rw [E0] at T0); (try rw [E1] at T0); (try rw [E2] at T0); (try rw [E3] at T0); (try rw [E4] at T0)
    have T1 : q_qry v (y_ev x (29, [])) (y_ev x (0, [])) (y_ev x (0, [])) (y_ev x (0, [])) (y_ev x (0, [])) (y_ev x (0, [])) (y_ev x (0, [])) (y_ev x (0, [])) (y_ev x (0, [(0, 1)])) (y_ev x (0, [(1, 1)])) (y_ev x (0, [(2, 1)])) := h.2.2.2.2.1
    (try rw [E5] at T1); (try rw [E4] at T1); (try rw [E6] at T1); (try rw [E7] at T1); (try rw [E8] at T1)
    have K := k_greE (V := v) (i := x 0) (bb := x 1) (l := x 2) (H := x 3) (p := x 4) (y := x 5) (d := x 6) T0 T1 C0
    refine l_outH rfl (And.intro h.1 ?_)
    have O0 : y_ev x (29, []) = 29 := l_e0 _ _
    have O1 : y_ev x (0, []) = 0 := l_e0 _ _
    have O2 : y_ev x (0, [(4, 1)]) = x 4 := l_e1 _ _
    have O3 : y_ev x (0, [(1, 1)]) = x 1 := l_e1 _ _
    have O4 : y_ev x (0, [(2, 1)]) = x 2 := l_e1 _ _
    show (True) ∧ (q_qry v (y_ev x (29, [])) (y_ev x (0, [])) (y_ev x (0, [])) (y_ev x (0, [])) (y_ev x (0, [])) (y_ev x (0, [])) (y_ev x (0, [])) (y_ev x (0, [])) (y_ev x (0, [(4, 1)])) (y_ev x (0, [(1, 1)])) (y_ev x (0, [(2, 1)])) ∧ True)
    (try rw [O0]); (try rw [O1]); (try rw [O2]); (try rw [O3]); (try rw [O4])
    exact K
def lm_1075 : zLem := (([((-2147483648), 2147483647), ((-2147483648), 2147483647), ((-2147483648), 2147483647), ((-2147483648), 2147483647), ((-2147483648), 2147483647), ((-2147483648), 2147483647), ((-2147483648), 2147483647)], [(77, false)], [(0, [(0, 1)]), ((-1), [(0, (-1)), (3, 1)]), (5, [(0, (-1))])], [], [(0, 0, 0, [(0, 1)]), (0, 0, 0, [(1, 1)])], [(0, (true, 0, 25, [(0, 1)]), 0, 0, 0, [(2, 1)]), (0, (true, 0, 12, [(2, 1)]), 0, 0, 0, [(1, 1)])], [(235, [(0, [(4, 1)]), (0, [(3, 1)]), (0, [(5, 1)]), (0, [(6, 1)]), (0, []), (0, []), (0, []), (0, []), (0, []), (0, []), (0, [])])]), [([((-2147483648), 2147483647), ((-2147483648), 2147483647), ((-2147483648), 2147483647), ((-2147483648), 2147483647), ((-2147483648), 2147483647), ((-2147483648), 2147483647), ((-2147483648), 2147483647)], [(77, false)], [], [], [], [], [(238, [(18, []), (0, []), (0, []), (0, []), (0, []), (0, []), (0, []), (0, []), (0, [(0, 1)]), (0, []), (0, [(1, 1)])])])])
theorem lk_1075 : l_core lm_1075 := by
  first
  | skip
    intro v x h
    have G0 := h.2.2.1
    have G1 := G0.2
    have C0 : (0 : Int) ≤ x 0 := l_cc (a := y_ev x (0, [(0, 1)])) (l_e1 _ _) (h.2.1.1)
    have C1 : (0 : Int) ≤ x 3 - x 0 - 1 := l_cc (a := y_ev x ((-1), [(0, (-1)), (3, 1)])) (by show ((-1) : Int) + ((-1) * x 0 + ((1) * x 3 + 0)) = x 3 - x 0 - 1; omega) (h.2.1.2.1)
    have C2 : (0 : Int) ≤ 5 - x 0 := l_cc (a := y_ev x (5, [(0, (-1))])) (by show ((5) : Int) + ((-1) * x 0 + 0) = 5 - x 0; omega) (h.2.1.2.2.1)
    have F0 : (0 : Int) ≤ x 0 + 25 ∧ (x 0 + 25 : Int) < j_len 77 ∧ v 77 (x 0 + 25) = x 2 := l_ff (f := v 77) (L := j_len 77) (a := y_ev x (25, [(0, 1)])) (b := y_ev x (0, [(2, 1)])) (by show ((25) : Int) + ((1) * x 0 + 0) = x 0 + 25; omega) (l_e1 _ _) (G0.1.1)
    have F1 : (0 : Int) ≤ x 2 + 12 ∧ (x 2 + 12 : Int) < j_len 77 ∧ v 77 (x 2 + 12) = x 1 := l_ff (f := v 77) (L := j_len 77) (a := y_ev x (12, [(2, 1)])) (b := y_ev x (0, [(1, 1)])) (by show ((12) : Int) + ((1) * x 2 + 0) = x 2 + 12; omega) (l_e1 _ _) (G1.1.1)
    have T0 : q_sto v 0 (y_ev x (0, [(4, 1)])) (y_ev x (0, [(3, 1)])) (y_ev x (0, [(5, 1)])) (y_ev x (0, [(6, 1)])) (y_ev x (0, [])) (y_ev x (0, [])) (y_ev x (0, [])) (y_ev x (0, [])) (y_ev x (0, [])) (y_ev x (0, [])) (y_ev x (0, [])) := h.2.2.2.1
    (try simp only [l_e1, l_e0] at T0)
    have K := k_nstp (V := v) (i := x 0) (v := x 1) (w := x 2) (p := x 3) (H := x 4) (y := x 5) (d := x 6) T0 C0 C1 C2 F0 F1
    refine l_outH rfl (And.intro h.1 ?_)
    show (True) ∧ (q_qry v (y_ev x (18, [])) (y_ev x (0, [])) (y_ev x (0, [])) (y_ev x (0, [])) (y_ev x (0, [])) (y_ev x (0, [])) (y_ev x (0, [])) (y_ev x (0, [])) (y_ev x (0, [(0, 1)])) (y_ev x (0, [])) (y_ev x (0, [(1, 1)])) ∧ True)
    (try simp only [l_e1, l_e0])
    exact K
  | skip
    intro v x h
    have G0 := h.2.2.1
    have G1 := G0.2
    have C0 : (0 : Int) ≤ x 0 := l_cc (a := y_ev x (0, [(0, 1)])) (l_e1 _ _) (h.2.1.1)
    have C1 : (0 : Int) ≤ x 3 - x 0 - 1 := l_cc (a := y_ev x ((-1), [(0, (-1)), (3, 1)])) (by show ((-1) : Int) + ((-1) * x 0 + ((1) * x 3 + 0)) = x 3 - x 0 - 1; omega) (h.2.1.2.1)
    have C2 : (0 : Int) ≤ 5 - x 0 := l_cc (a := y_ev x (5, [(0, (-1))])) (by show ((5) : Int) + ((-1) * x 0 + 0) = 5 - x 0; omega) (h.2.1.2.2.1)
    have F0 : (0 : Int) ≤ x 0 + 25 ∧ (x 0 + 25 : Int) < j_len 77 ∧ v 77 (x 0 + 25) = x 2 := l_ff (f := v 77) (L := j_len 77) (a := y_ev x (25, [(0, 1)])) (b := y_ev x (0, [(2, 1)])) (by show ((25) : Int) + ((1) * x 0 + 0) = x 0 + 25; omega) (l_e1 _ _) (G0.1.1)
    have F1 : (0 : Int) ≤ x 2 + 12 ∧ (x 2 + 12 : Int) < j_len 77 ∧ v 77 (x 2 + 12) = x 1 := l_ff (f := v 77) (L := j_len 77) (a := y_ev x (12, [(2, 1)])) (b := y_ev x (0, [(1, 1)])) (by show ((12) : Int) + ((1) * x 2 + 0) = x 2 + 12; omega) (l_e1 _ _) (G1.1.1)
    have E0 : y_ev x (0, [(4, 1)]) = x 4 := (l_e1 _ _)
    have E1 : y_ev x (0, [(3, 1)]) = x 3 := (l_e1 _ _)
    have E2 : y_ev x (0, [(5, 1)]) = x 5 := (l_e1 _ _)
    have E3 : y_ev x (0, [(6, 1)]) = x 6 := (l_e1 _ _)
    have E4 : y_ev x (0, []) = 0 := (l_e0 _ _)
    have T0 : q_sto v 0 (y_ev x (0, [(4, 1)])) (y_ev x (0, [(3, 1)])) (y_ev x (0, [(5, 1)])) (y_ev x (0, [(6, 1)])) (y_ev x (0, [])) (y_ev x (0, [])) (y_ev x (0, [])) (y_ev x (0, [])) (y_ev x (0, [])) (y_ev x (0, [])) (y_ev x (0, [])) := h.2.2.2.1
    (try rw [E0] at T0); (try rw [E1] at T0); (try rw [E2] at T0); (try rw [E3] at T0); (try rw [E4] at T0)
    have K := k_nstp (V := v) (i := x 0) (v := x 1) (w := x 2) (p := x 3) (H := x 4) (y := x 5) (d := x 6) T0 C0 C1 C2 F0 F1
    refine l_outH rfl (And.intro h.1 ?_)
    have O0 : y_ev x (18, []) = 18 := l_e0 _ _
    have O1 : y_ev x (0, []) = 0 := l_e0 _ _
    have O2 : y_ev x (0, [(0, 1)]) = x 0 := l_e1 _ _
    have O3 : y_ev x (0, [(1, 1)]) = x 1 := l_e1 _ _
    show (True) ∧ (q_qry v (y_ev x (18, [])) (y_ev x (0, [])) (y_ev x (0, [])) (y_ev x (0, [])) (y_ev x (0, [])) (y_ev x (0, [])) (y_ev x (0, [])) (y_ev x (0, [])) (y_ev x (0, [(0, 1)])) (y_ev x (0, [])) (y_ev x (0, [(1, 1)])) ∧ True)
    (try rw [O0]); (try rw [O1]); (try rw [O2]); (try rw [O3])
    exact K
def lm_1076 : zLem := (([((-2147483648), 2147483647), ((-2147483648), 2147483647), ((-2147483648), 2147483647), ((-2147483648), 2147483647), ((-2147483648), 2147483647), ((-2147483648), 2147483647), ((-2147483648), 2147483647), ((-2147483648), 2147483647)], [(77, false)], [(0, [(0, 1)]), ((-1), [(0, (-1)), (7, 1)]), (0, [(3, 1), (7, (-1))]), (0, [(3, (-1)), (7, 1)]), (5, [(0, (-1))])], [], [(0, 0, 0, [(0, 1)]), (0, 0, 0, [(1, 1)])], [(0, (true, 0, 25, [(0, 1)]), 0, 0, 0, [(2, 1)]), (0, (true, 0, 12, [(2, 1)]), 0, 0, 0, [(1, 1)]), (0, (true, 0, 24, []), 0, 0, 0, [(7, 1)])], [(235, [(0, [(4, 1)]), (0, [(3, 1)]), (0, [(5, 1)]), (0, [(6, 1)]), (0, []), (0, []), (0, []), (0, []), (0, []), (0, []), (0, [])])]), [([((-2147483648), 2147483647), ((-2147483648), 2147483647), ((-2147483648), 2147483647), ((-2147483648), 2147483647), ((-2147483648), 2147483647), ((-2147483648), 2147483647), ((-2147483648), 2147483647), ((-2147483648), 2147483647)], [(77, false)], [], [], [], [], [(238, [(18, []), (0, []), (0, []), (0, []), (0, []), (0, []), (0, []), (0, []), (0, [(0, 1)]), (0, []), (0, [(1, 1)])])])])
theorem lk_1076 : l_core lm_1076 := by
  first
  | skip
    intro v x h
    have G0 := h.2.2.1
    have G1 := G0.2
    have G2 := G1.2
    have C0 : (0 : Int) ≤ x 0 := l_cc (a := y_ev x (0, [(0, 1)])) (l_e1 _ _) (h.2.1.1)
    have C1 : (0 : Int) ≤ x 7 - x 0 - 1 := l_cc (a := y_ev x ((-1), [(0, (-1)), (7, 1)])) (by show ((-1) : Int) + ((-1) * x 0 + ((1) * x 7 + 0)) = x 7 - x 0 - 1; omega) (h.2.1.2.1)
    have C2 : (0 : Int) ≤ x 3 - x 7 := l_cc (a := y_ev x (0, [(3, 1), (7, (-1))])) (by show ((0) : Int) + ((1) * x 3 + ((-1) * x 7 + 0)) = x 3 - x 7; omega) (h.2.1.2.2.1)
    have C3 : (0 : Int) ≤ x 7 - x 3 := l_cc (a := y_ev x (0, [(3, (-1)), (7, 1)])) (by show ((0) : Int) + ((-1) * x 3 + ((1) * x 7 + 0)) = x 7 - x 3; omega) (h.2.1.2.2.2.1)
    have C4 : (0 : Int) ≤ 5 - x 0 := l_cc (a := y_ev x (5, [(0, (-1))])) (by show ((5) : Int) + ((-1) * x 0 + 0) = 5 - x 0; omega) (h.2.1.2.2.2.2.1)
    have F0 : (0 : Int) ≤ x 0 + 25 ∧ (x 0 + 25 : Int) < j_len 77 ∧ v 77 (x 0 + 25) = x 2 := l_ff (f := v 77) (L := j_len 77) (a := y_ev x (25, [(0, 1)])) (b := y_ev x (0, [(2, 1)])) (by show ((25) : Int) + ((1) * x 0 + 0) = x 0 + 25; omega) (l_e1 _ _) (G0.1.1)
    have F1 : (0 : Int) ≤ x 2 + 12 ∧ (x 2 + 12 : Int) < j_len 77 ∧ v 77 (x 2 + 12) = x 1 := l_ff (f := v 77) (L := j_len 77) (a := y_ev x (12, [(2, 1)])) (b := y_ev x (0, [(1, 1)])) (by show ((12) : Int) + ((1) * x 2 + 0) = x 2 + 12; omega) (l_e1 _ _) (G1.1.1)
    have F2 : (0 : Int) ≤ 24 ∧ (24 : Int) < j_len 77 ∧ v 77 (24) = x 7 := l_ff (f := v 77) (L := j_len 77) (a := y_ev x (24, [])) (b := y_ev x (0, [(7, 1)])) (l_e0 _ _) (l_e1 _ _) (G2.1.1)
    have T0 : q_sto v 0 (y_ev x (0, [(4, 1)])) (y_ev x (0, [(3, 1)])) (y_ev x (0, [(5, 1)])) (y_ev x (0, [(6, 1)])) (y_ev x (0, [])) (y_ev x (0, [])) (y_ev x (0, [])) (y_ev x (0, [])) (y_ev x (0, [])) (y_ev x (0, [])) (y_ev x (0, [])) := h.2.2.2.1
    (try simp only [l_e1, l_e0] at T0)
    have K := k_nstq (V := v) (i := x 0) (v := x 1) (w := x 2) (p := x 3) (H := x 4) (y := x 5) (d := x 6) (n := x 7) T0 C0 C1 C2 C3 C4 F0 F1 F2
    refine l_outH rfl (And.intro h.1 ?_)
    show (True) ∧ (q_qry v (y_ev x (18, [])) (y_ev x (0, [])) (y_ev x (0, [])) (y_ev x (0, [])) (y_ev x (0, [])) (y_ev x (0, [])) (y_ev x (0, [])) (y_ev x (0, [])) (y_ev x (0, [(0, 1)])) (y_ev x (0, [])) (y_ev x (0, [(1, 1)])) ∧ True)
    (try simp only [l_e1, l_e0])
    exact K
  | skip
    intro v x h
    have G0 := h.2.2.1
    have G1 := G0.2
    have G2 := G1.2
    have C0 : (0 : Int) ≤ x 0 := l_cc (a := y_ev x (0, [(0, 1)])) (l_e1 _ _) (h.2.1.1)
    have C1 : (0 : Int) ≤ x 7 - x 0 - 1 := l_cc (a := y_ev x ((-1), [(0, (-1)), (7, 1)])) (by show ((-1) : Int) + ((-1) * x 0 + ((1) * x 7 + 0)) = x 7 - x 0 - 1; omega) (h.2.1.2.1)
    have C2 : (0 : Int) ≤ x 3 - x 7 := l_cc (a := y_ev x (0, [(3, 1), (7, (-1))])) (by show ((0) : Int) + ((1) * x 3 + ((-1) * x 7 + 0)) = x 3 - x 7; omega) (h.2.1.2.2.1)
    have C3 : (0 : Int) ≤ x 7 - x 3 := l_cc (a := y_ev x (0, [(3, (-1)), (7, 1)])) (by show ((0) : Int) + ((-1) * x 3 + ((1) * x 7 + 0)) = x 7 - x 3; omega) (h.2.1.2.2.2.1)
    have C4 : (0 : Int) ≤ 5 - x 0 := l_cc (a := y_ev x (5, [(0, (-1))])) (by show ((5) : Int) + ((-1) * x 0 + 0) = 5 - x 0; omega) (h.2.1.2.2.2.2.1)
    have F0 : (0 : Int) ≤ x 0 + 25 ∧ (x 0 + 25 : Int) < j_len 77 ∧ v 77 (x 0 + 25) = x 2 := l_ff (f := v 77) (L := j_len 77) (a := y_ev x (25, [(0, 1)])) (b := y_ev x (0, [(2, 1)])) (by show ((25) : Int) + ((1) * x 0 + 0) = x 0 + 25; omega) (l_e1 _ _) (G0.1.1)
    have F1 : (0 : Int) ≤ x 2 + 12 ∧ (x 2 + 12 : Int) < j_len 77 ∧ v 77 (x 2 + 12) = x 1 := l_ff (f := v 77) (L := j_len 77) (a := y_ev x (12, [(2, 1)])) (b := y_ev x (0, [(1, 1)])) (by show ((12) : Int) + ((1) * x 2 + 0) = x 2 + 12; omega) (l_e1 _ _) (G1.1.1)
    have F2 : (0 : Int) ≤ 24 ∧ (24 : Int) < j_len 77 ∧ v 77 (24) = x 7 := l_ff (f := v 77) (L := j_len 77) (a := y_ev x (24, [])) (b := y_ev x (0, [(7, 1)])) (l_e0 _ _) (l_e1 _ _) (G2.1.1)
    have E0 : y_ev x (0, [(4, 1)]) = x 4 := (l_e1 _ _)
    have E1 : y_ev x (0, [(3, 1)]) = x 3 := (l_e1 _ _)
    have E2 : y_ev x (0, [(5, 1)]) = x 5 := (l_e1 _ _)
    have E3 : y_ev x (0, [(6, 1)]) = x 6 := (l_e1 _ _)
    have E4 : y_ev x (0, []) = 0 := (l_e0 _ _)
    have T0 : q_sto v 0 (y_ev x (0, [(4, 1)])) (y_ev x (0, [(3, 1)])) (y_ev x (0, [(5, 1)])) (y_ev x (0, [(6, 1)])) (y_ev x (0, [])) (y_ev x (0, [])) (y_ev x (0, [])) (y_ev x (0, [])) (y_ev x (0, [])) (y_ev x (0, [])) (y_ev x (0, [])) := h.2.2.2.1
    (try rw [E0] at T0); (try rw [E1] at T0); (try rw [E2] at T0); (try rw [E3] at T0); (try rw [E4] at T0)
    have K := k_nstq (V := v) (i := x 0) (v := x 1) (w := x 2) (p := x 3) (H := x 4) (y := x 5) (d := x 6) (n := x 7) T0 C0 C1 C2 C3 C4 F0 F1 F2
    refine l_outH rfl (And.intro h.1 ?_)
    have O0 : y_ev x (18, []) = 18 := l_e0 _ _
    have O1 : y_ev x (0, []) = 0 := l_e0 _ _
    have O2 : y_ev x (0, [(0, 1)]) = x 0 := l_e1 _ _
    have O3 : y_ev x (0, [(1, 1)]) = x 1 := l_e1 _ _
    show (True) ∧ (q_qry v (y_ev x (18, [])) (y_ev x (0, [])) (y_ev x (0, [])) (y_ev x (0, [])) (y_ev x (0, [])) (y_ev x (0, [])) (y_ev x (0, [])) (y_ev x (0, [])) (y_ev x (0, [(0, 1)])) (y_ev x (0, [])) (y_ev x (0, [(1, 1)])) ∧ True)
    (try rw [O0]); (try rw [O1]); (try rw [O2]); (try rw [O3])
    exact K
def lm_1077 : zLem := (([((-2147483648), 2147483647), ((-2147483648), 2147483647), ((-2147483648), 2147483647), ((-2147483648), 2147483647)], [], [], [], [], [], [(235, [(0, [(3, 1)]), (0, [(0, 1)]), (0, [(1, 1)]), (0, [(2, 1)]), (0, []), (0, []), (0, []), (0, []), (0, []), (0, []), (0, [])])]), [([((-2147483648), 2147483647), ((-2147483648), 2147483647), ((-2147483648), 2147483647), ((-2147483648), 2147483647)], [], [], [], [], [], [(238, [(30, []), (0, []), (0, []), (0, []), (0, []), (0, []), (0, []), (0, []), (0, []), ((-2), []), (0, [])])])])
theorem lk_1077 : l_core lm_1077 := by
  first
  | skip
    intro v x h
    have T0 : q_sto v 0 (y_ev x (0, [(3, 1)])) (y_ev x (0, [(0, 1)])) (y_ev x (0, [(1, 1)])) (y_ev x (0, [(2, 1)])) (y_ev x (0, [])) (y_ev x (0, [])) (y_ev x (0, [])) (y_ev x (0, [])) (y_ev x (0, [])) (y_ev x (0, [])) (y_ev x (0, [])) := h.2.2.2.1
    (try simp only [l_e1, l_e0] at T0)
    have K := k_grx0 (V := v) (p := x 0) (y := x 1) (d := x 2) (H := x 3) T0
    refine l_outH rfl (And.intro h.1 ?_)
    show (True) ∧ (q_qry v (y_ev x (30, [])) (y_ev x (0, [])) (y_ev x (0, [])) (y_ev x (0, [])) (y_ev x (0, [])) (y_ev x (0, [])) (y_ev x (0, [])) (y_ev x (0, [])) (y_ev x (0, [])) (y_ev x ((-2), [])) (y_ev x (0, [])) ∧ True)
    (try simp only [l_e1, l_e0])
    exact K
  | skip
    intro v x h
    have E0 : y_ev x (0, [(3, 1)]) = x 3 := (l_e1 _ _)
    have E1 : y_ev x (0, [(0, 1)]) = x 0 := (l_e1 _ _)
    have E2 : y_ev x (0, [(1, 1)]) = x 1 := (l_e1 _ _)
    have E3 : y_ev x (0, [(2, 1)]) = x 2 := (l_e1 _ _)
    have E4 : y_ev x (0, []) = 0 := (l_e0 _ _)
    have T0 : q_sto v 0 (y_ev x (0, [(3, 1)])) (y_ev x (0, [(0, 1)])) (y_ev x (0, [(1, 1)])) (y_ev x (0, [(2, 1)])) (y_ev x (0, [])) (y_ev x (0, [])) (y_ev x (0, [])) (y_ev x (0, [])) (y_ev x (0, [])) (y_ev x (0, [])) (y_ev x (0, [])) := h.2.2.2.1
    (try rw [E0] at T0); (try rw [E1] at T0); (try rw [E2] at T0); (try rw [E3] at T0); (try rw [E4] at T0)
    have K := k_grx0 (V := v) (p := x 0) (y := x 1) (d := x 2) (H := x 3) T0
    refine l_outH rfl (And.intro h.1 ?_)
    have O0 : y_ev x (30, []) = 30 := l_e0 _ _
    have O1 : y_ev x (0, []) = 0 := l_e0 _ _
    have O2 : y_ev x ((-2), []) = (-2) := l_e0 _ _
    show (True) ∧ (q_qry v (y_ev x (30, [])) (y_ev x (0, [])) (y_ev x (0, [])) (y_ev x (0, [])) (y_ev x (0, [])) (y_ev x (0, [])) (y_ev x (0, [])) (y_ev x (0, [])) (y_ev x (0, [])) (y_ev x ((-2), [])) (y_ev x (0, [])) ∧ True)
    (try rw [O0]); (try rw [O1]); (try rw [O2])
    exact K
def lm_1078 : zLem := (([((-2147483648), 2147483647), ((-2147483648), 2147483647), ((-2147483648), 2147483647), ((-2147483648), 2147483647), ((-2147483648), 2147483647), ((-2147483648), 2147483647), ((-2147483648), 2147483647)], [(77, false)], [(0, [(1, 1)]), ((-1), [(0, 1), (1, (-1))]), (0, [(0, (-1)), (4, 1)]), (0, [(0, 1), (4, (-1))]), ((-1), [(2, (-1))])], [], [(0, 0, 0, [(1, 1)]), (0, 0, 0, [(2, 1)])], [(0, (true, 0, 24, []), 0, 0, 0, [(0, 1)])], [(235, [(0, [(3, 1)]), (0, [(4, 1)]), (0, [(5, 1)]), (0, [(6, 1)]), (0, []), (0, []), (0, []), (0, []), (0, []), (0, []), (0, [])]), (238, [(30, []), (0, []), (0, []), (0, []), (0, []), (0, []), (0, []), (0, []), (0, [(1, 1)]), (0, [(2, 1)]), (0, [])])]), [([((-2147483648), 2147483647), ((-2147483648), 2147483647), ((-2147483648), 2147483647), ((-2147483648), 2147483647), ((-2147483648), 2147483647), ((-2147483648), 2147483647), ((-2147483648), 2147483647)], [(77, false)], [((-1), [(1, (-1)), (4, 1)])], [], [], [], [(238, [(30, []), (0, []), (0, []), (0, []), (0, []), (0, []), (0, []), (0, []), (1, [(1, 1)]), (0, [(1, 1)]), (0, [])])])])
theorem lk_1078 : l_core lm_1078 := by
  first
  | skip
    intro v x h
    have G0 := h.2.2.1
    have C0 : (0 : Int) ≤ x 1 := l_cc (a := y_ev x (0, [(1, 1)])) (l_e1 _ _) (h.2.1.1)
    have C1 : (0 : Int) ≤ x 0 - x 1 - 1 := l_cc (a := y_ev x ((-1), [(0, 1), (1, (-1))])) (by show ((-1) : Int) + ((1) * x 0 + ((-1) * x 1 + 0)) = x 0 - x 1 - 1; omega) (h.2.1.2.1)
    have C2 : (0 : Int) ≤ x 4 - x 0 := l_cc (a := y_ev x (0, [(0, (-1)), (4, 1)])) (by show ((0) : Int) + ((-1) * x 0 + ((1) * x 4 + 0)) = x 4 - x 0; omega) (h.2.1.2.2.1)
    have C3 : (0 : Int) ≤ x 0 - x 4 := l_cc (a := y_ev x (0, [(0, 1), (4, (-1))])) (by show ((0) : Int) + ((1) * x 0 + ((-1) * x 4 + 0)) = x 0 - x 4; omega) (h.2.1.2.2.2.1)
    have C4 : (0 : Int) ≤ -x 2 - 1 := l_cc (a := y_ev x ((-1), [(2, (-1))])) (by show ((-1) : Int) + ((-1) * x 2 + 0) = -x 2 - 1; omega) (h.2.1.2.2.2.2.1)
    have F0 : (0 : Int) ≤ 24 ∧ (24 : Int) < j_len 77 ∧ v 77 (24) = x 0 := l_ff (f := v 77) (L := j_len 77) (a := y_ev x (24, [])) (b := y_ev x (0, [(0, 1)])) (l_e0 _ _) (l_e1 _ _) (G0.1.1)
    have T0 : q_sto v 0 (y_ev x (0, [(3, 1)])) (y_ev x (0, [(4, 1)])) (y_ev x (0, [(5, 1)])) (y_ev x (0, [(6, 1)])) (y_ev x (0, [])) (y_ev x (0, [])) (y_ev x (0, [])) (y_ev x (0, [])) (y_ev x (0, [])) (y_ev x (0, [])) (y_ev x (0, [])) := h.2.2.2.1
    (try simp only [l_e1, l_e0] at T0)
    have T1 : q_qry v (y_ev x (30, [])) (y_ev x (0, [])) (y_ev x (0, [])) (y_ev x (0, [])) (y_ev x (0, [])) (y_ev x (0, [])) (y_ev x (0, [])) (y_ev x (0, [])) (y_ev x (0, [(1, 1)])) (y_ev x (0, [(2, 1)])) (y_ev x (0, [])) := h.2.2.2.2.1
    (try simp only [l_e1, l_e0] at T1)
    have K := k_grxA (V := v) (n := x 0) (i := x 1) (bb := x 2) (H := x 3) (p := x 4) (y := x 5) (d := x 6) T0 T1 C0 C1 C2 C3 C4 F0
    refine l_outH rfl (And.intro h.1 ?_)
    have O0 : y_ev x ((-1), [(1, (-1)), (4, 1)]) = x 4 - x 1 - 1 := by show ((-1) : Int) + ((-1) * x 1 + ((1) * x 4 + 0)) = _; omega
    have O3 : y_ev x (1, [(1, 1)]) = x 1 + 1 := by show ((1) : Int) + ((1) * x 1 + 0) = _; omega
    show (0 ≤ y_ev x ((-1), [(1, (-1)), (4, 1)]) ∧ True) ∧ (q_qry v (y_ev x (30, [])) (y_ev x (0, [])) (y_ev x (0, [])) (y_ev x (0, [])) (y_ev x (0, [])) (y_ev x (0, [])) (y_ev x (0, [])) (y_ev x (0, [])) (y_ev x (1, [(1, 1)])) (y_ev x (0, [(1, 1)])) (y_ev x (0, [])) ∧ True)
    (try rw [O0]); (try rw [O3]); (try simp only [l_e1, l_e0])
    exact K
  | skip
    intro v x h
    have G0 := h.2.2.1
    have C0 : (0 : Int) ≤ x 1 := l_cc (a := y_ev x (0, [(1, 1)])) (l_e1 _ _) (h.2.1.1)
    have C1 : (0 : Int) ≤ x 0 - x 1 - 1 := l_cc (a := y_ev x ((-1), [(0, 1), (1, (-1))])) (by show ((-1) : Int) + ((1) * x 0 + ((-1) * x 1 + 0)) = x 0 - x 1 - 1; omega) (h.2.1.2.1)
    have C2 : (0 : Int) ≤ x 4 - x 0 := l_cc (a := y_ev x (0, [(0, (-1)), (4, 1)])) (by show ((0) : Int) + ((-1) * x 0 + ((1) * x 4 + 0)) = x 4 - x 0; omega) (h.2.1.2.2.1)
    have C3 : (0 : Int) ≤ x 0 - x 4 := l_cc (a := y_ev x (0, [(0, 1), (4, (-1))])) (by show ((0) : Int) + ((1) * x 0 + ((-1) * x 4 + 0)) = x 0 - x 4; omega) (h.2.1.2.2.2.1)
    have C4 : (0 : Int) ≤ -x 2 - 1 := l_cc (a := y_ev x ((-1), [(2, (-1))])) (by show ((-1) : Int) + ((-1) * x 2 + 0) = -x 2 - 1; omega) (h.2.1.2.2.2.2.1)
    have F0 : (0 : Int) ≤ 24 ∧ (24 : Int) < j_len 77 ∧ v 77 (24) = x 0 := l_ff (f := v 77) (L := j_len 77) (a := y_ev x (24, [])) (b := y_ev x (0, [(0, 1)])) (l_e0 _ _) (l_e1 _ _) (G0.1.1)
    have E0 : y_ev x (0, [(3, 1)]) = x 3 := (l_e1 _ _)
    have E1 : y_ev x (0, [(4, 1)]) = x 4 := (l_e1 _ _)
    have E2 : y_ev x (0, [(5, 1)]) = x 5 := (l_e1 _ _)
    have E3 : y_ev x (0, [(6, 1)]) = x 6 := (l_e1 _ _)
    have E4 : y_ev x (0, []) = 0 := (l_e0 _ _)
    have E5 : y_ev x (30, []) = 30 := (l_e0 _ _)
    have E6 : y_ev x (0, [(1, 1)]) = x 1 := (l_e1 _ _)
    have E7 : y_ev x (0, [(2, 1)]) = x 2 := (l_e1 _ _)
    have T0 : q_sto v 0 (y_ev x (0, [(3, 1)])) (y_ev x (0, [(4, 1)])) (y_ev x (0, [(5, 1)])) (y_ev x (0, [(6, 1)])) (y_ev x (0, [])) (y_ev x (0, [])) (y_ev x (0, [])) (y_ev x (0, [])) (y_ev x (0, [])) (y_ev x (0, [])) (y_ev x (0, [])) := h.2.2.2.1
    (try rw [E0] at T0); (try rw [E1] at T0); (try rw [E2] at T0); (try rw [E3] at T0); (try rw [E4] at T0)
    have T1 : q_qry v (y_ev x (30, [])) (y_ev x (0, [])) (y_ev x (0, [])) (y_ev x (0, [])) (y_ev x (0, [])) (y_ev x (0, [])) (y_ev x (0, [])) (y_ev x (0, [])) (y_ev x (0, [(1, 1)])) (y_ev x (0, [(2, 1)])) (y_ev x (0, [])) := h.2.2.2.2.1
    (try rw [E5] at T1); (try rw [E4] at T1); (try rw [E6] at T1); (try rw [E7] at T1)
    have K := k_grxA (V := v) (n := x 0) (i := x 1) (bb := x 2) (H := x 3) (p := x 4) (y := x 5) (d := x 6) T0 T1 C0 C1 C2 C3 C4 F0
    refine l_outH rfl (And.intro h.1 ?_)
    have O0 : y_ev x ((-1), [(1, (-1)), (4, 1)]) = x 4 - x 1 - 1 := by show ((-1) : Int) + ((-1) * x 1 + ((1) * x 4 + 0)) = _; omega
    have O1 : y_ev x (30, []) = 30 := l_e0 _ _
    have O2 : y_ev x (0, []) = 0 := l_e0 _ _
    have O3 : y_ev x (1, [(1, 1)]) = x 1 + 1 := by show ((1) : Int) + ((1) * x 1 + 0) = _; omega
    have O4 : y_ev x (0, [(1, 1)]) = x 1 := l_e1 _ _
    show (0 ≤ y_ev x ((-1), [(1, (-1)), (4, 1)]) ∧ True) ∧ (q_qry v (y_ev x (30, [])) (y_ev x (0, [])) (y_ev x (0, [])) (y_ev x (0, [])) (y_ev x (0, [])) (y_ev x (0, [])) (y_ev x (0, [])) (y_ev x (0, [])) (y_ev x (1, [(1, 1)])) (y_ev x (0, [(1, 1)])) (y_ev x (0, [])) ∧ True)
    (try rw [O0]); (try rw [O1]); (try rw [O2]); (try rw [O3]); (try rw [O4])
    exact K
def lm_1079pg_0 (t : List zTg) : List zTg := (235, [(0, [(5, 1)]), (0, [(6, 1)]), (0, [(7, 1)]), (0, [(8, 1)]), (0, []), (0, []), (0, []), (0, []), (0, []), (0, []), (0, [])]) :: (238, [(30, []), (0, []), (0, []), (0, []), (0, []), (0, []), (0, []), (0, []), (0, [(1, 1)]), (0, [(2, 1)]), (0, [])]) :: (238, [(18, []), (0, []), (0, []), (0, []), (0, []), (0, []), (0, []), (0, []), (0, [(1, 1)]), (0, []), (0, [(3, 1)])]) :: (238, [(18, []), (0, []), (0, []), (0, []), (0, []), (0, []), (0, []), (0, []), (0, [(2, 1)]), (0, []), (0, [(4, 1)])]) :: t
def lm_1079p : zS := ((lm_474pi_0 (lm_474pi_1 [])), [(77, false)], [(0, [(1, 1)]), ((-1), [(0, 1), (1, (-1))]), (0, [(0, (-1)), (6, 1)]), (0, [(0, 1), (6, (-1))]), (0, [(2, 1)]), ((-1), [(3, (-1)), (4, 1)])], [], [(0, 0, 0, [(1, 1)]), (0, 0, 0, [(2, 1)])], [(0, (true, 0, 24, []), 0, 0, 0, [(0, 1)])], (lm_1079pg_0 []))
def lm_1079 : zLem := (lm_1079p, [([((-2147483648), 2147483647), ((-2147483648), 2147483647), ((-2147483648), 2147483647), ((-2147483648), 2147483647), ((-2147483648), 2147483647), ((-2147483648), 2147483647), ((-2147483648), 2147483647), ((-2147483648), 2147483647), ((-2147483648), 2147483647)], [(77, false)], [((-1), [(1, (-1)), (6, 1)])], [], [], [], [(238, [(30, []), (0, []), (0, []), (0, []), (0, []), (0, []), (0, []), (0, []), (1, [(1, 1)]), (0, [(1, 1)]), (0, [])])])])
theorem lk_1079 : l_core lm_1079 := by
  first
  | skip
    intro v x h
    have G0 := h.2.2.1
    have C0 : (0 : Int) ≤ x 1 := l_cc (a := y_ev x (0, [(1, 1)])) (l_e1 _ _) (h.2.1.1)
    have C1 : (0 : Int) ≤ x 0 - x 1 - 1 := l_cc (a := y_ev x ((-1), [(0, 1), (1, (-1))])) (by show ((-1) : Int) + ((1) * x 0 + ((-1) * x 1 + 0)) = x 0 - x 1 - 1; omega) (h.2.1.2.1)
    have C2 : (0 : Int) ≤ x 6 - x 0 := l_cc (a := y_ev x (0, [(0, (-1)), (6, 1)])) (by show ((0) : Int) + ((-1) * x 0 + ((1) * x 6 + 0)) = x 6 - x 0; omega) (h.2.1.2.2.1)
    have C3 : (0 : Int) ≤ x 0 - x 6 := l_cc (a := y_ev x (0, [(0, 1), (6, (-1))])) (by show ((0) : Int) + ((1) * x 0 + ((-1) * x 6 + 0)) = x 0 - x 6; omega) (h.2.1.2.2.2.1)
    have C4 : (0 : Int) ≤ x 2 := l_cc (a := y_ev x (0, [(2, 1)])) (l_e1 _ _) (h.2.1.2.2.2.2.1)
    have C5 : (0 : Int) ≤ x 4 - x 3 - 1 := l_cc (a := y_ev x ((-1), [(3, (-1)), (4, 1)])) (by show ((-1) : Int) + ((-1) * x 3 + ((1) * x 4 + 0)) = x 4 - x 3 - 1; omega) (h.2.1.2.2.2.2.2.1)
    have F0 : (0 : Int) ≤ 24 ∧ (24 : Int) < j_len 77 ∧ v 77 (24) = x 0 := l_ff (f := v 77) (L := j_len 77) (a := y_ev x (24, [])) (b := y_ev x (0, [(0, 1)])) (l_e0 _ _) (l_e1 _ _) (G0.1.1)
    have T0 : q_sto v 0 (y_ev x (0, [(5, 1)])) (y_ev x (0, [(6, 1)])) (y_ev x (0, [(7, 1)])) (y_ev x (0, [(8, 1)])) (y_ev x (0, [])) (y_ev x (0, [])) (y_ev x (0, [])) (y_ev x (0, [])) (y_ev x (0, [])) (y_ev x (0, [])) (y_ev x (0, [])) := h.2.2.2.1
    (try simp only [l_e1, l_e0] at T0)
    have T1 : q_qry v (y_ev x (30, [])) (y_ev x (0, [])) (y_ev x (0, [])) (y_ev x (0, [])) (y_ev x (0, [])) (y_ev x (0, [])) (y_ev x (0, [])) (y_ev x (0, [])) (y_ev x (0, [(1, 1)])) (y_ev x (0, [(2, 1)])) (y_ev x (0, [])) := h.2.2.2.2.1
    (try simp only [l_e1, l_e0] at T1)
    have T2 : q_qry v (y_ev x (18, [])) (y_ev x (0, [])) (y_ev x (0, [])) (y_ev x (0, [])) (y_ev x (0, [])) (y_ev x (0, [])) (y_ev x (0, [])) (y_ev x (0, [])) (y_ev x (0, [(1, 1)])) (y_ev x (0, [])) (y_ev x (0, [(3, 1)])) := h.2.2.2.2.2.1
    (try simp only [l_e1, l_e0] at T2)
    have T3 : q_qry v (y_ev x (18, [])) (y_ev x (0, [])) (y_ev x (0, [])) (y_ev x (0, [])) (y_ev x (0, [])) (y_ev x (0, [])) (y_ev x (0, [])) (y_ev x (0, [])) (y_ev x (0, [(2, 1)])) (y_ev x (0, [])) (y_ev x (0, [(4, 1)])) := h.2.2.2.2.2.2.1
    (try simp only [l_e1, l_e0] at T3)
    have K := k_grxB (V := v) (n := x 0) (i := x 1) (bb := x 2) (v := x 3) (w := x 4) (H := x 5) (p := x 6) (y := x 7) (d := x 8) T0 T1 T2 T3 C0 C1 C2 C3 C4 C5 F0
    refine l_outH rfl (And.intro h.1 ?_)
    have O0 : y_ev x ((-1), [(1, (-1)), (6, 1)]) = x 6 - x 1 - 1 := by show ((-1) : Int) + ((-1) * x 1 + ((1) * x 6 + 0)) = _; omega
    have O3 : y_ev x (1, [(1, 1)]) = x 1 + 1 := by show ((1) : Int) + ((1) * x 1 + 0) = _; omega
    show (0 ≤ y_ev x ((-1), [(1, (-1)), (6, 1)]) ∧ True) ∧ (q_qry v (y_ev x (30, [])) (y_ev x (0, [])) (y_ev x (0, [])) (y_ev x (0, [])) (y_ev x (0, [])) (y_ev x (0, [])) (y_ev x (0, [])) (y_ev x (0, [])) (y_ev x (1, [(1, 1)])) (y_ev x (0, [(1, 1)])) (y_ev x (0, [])) ∧ True)
    (try rw [O0]); (try rw [O3]); (try simp only [l_e1, l_e0])
    exact K
  | skip
    intro v x h
    have G0 := h.2.2.1
    have C0 : (0 : Int) ≤ x 1 := l_cc (a := y_ev x (0, [(1, 1)])) (l_e1 _ _) (h.2.1.1)
    have C1 : (0 : Int) ≤ x 0 - x 1 - 1 := l_cc (a := y_ev x ((-1), [(0, 1), (1, (-1))])) (by show ((-1) : Int) + ((1) * x 0 + ((-1) * x 1 + 0)) = x 0 - x 1 - 1; omega) (h.2.1.2.1)
    have C2 : (0 : Int) ≤ x 6 - x 0 := l_cc (a := y_ev x (0, [(0, (-1)), (6, 1)])) (by show ((0) : Int) + ((-1) * x 0 + ((1) * x 6 + 0)) = x 6 - x 0; omega) (h.2.1.2.2.1)
    have C3 : (0 : Int) ≤ x 0 - x 6 := l_cc (a := y_ev x (0, [(0, 1), (6, (-1))])) (by show ((0) : Int) + ((1) * x 0 + ((-1) * x 6 + 0)) = x 0 - x 6; omega) (h.2.1.2.2.2.1)
    have C4 : (0 : Int) ≤ x 2 := l_cc (a := y_ev x (0, [(2, 1)])) (l_e1 _ _) (h.2.1.2.2.2.2.1)
    have C5 : (0 : Int) ≤ x 4 - x 3 - 1 := l_cc (a := y_ev x ((-1), [(3, (-1)), (4, 1)])) (by show ((-1) : Int) + ((-1) * x 3 + ((1) * x 4 + 0)) = x 4 - x 3 - 1; omega) (h.2.1.2.2.2.2.2.1)
    have F0 : (0 : Int) ≤ 24 ∧ (24 : Int) < j_len 77 ∧ v 77 (24) = x 0 := l_ff (f := v 77) (L := j_len 77) (a := y_ev x (24, [])) (b := y_ev x (0, [(0, 1)])) (l_e0 _ _) (l_e1 _ _) (G0.1.1)
    have E0 : y_ev x (0, [(5, 1)]) = x 5 := (l_e1 _ _)
    have E1 : y_ev x (0, [(6, 1)]) = x 6 := (l_e1 _ _)
    have E2 : y_ev x (0, [(7, 1)]) = x 7 := (l_e1 _ _)
    have E3 : y_ev x (0, [(8, 1)]) = x 8 := (l_e1 _ _)
    have E4 : y_ev x (0, []) = 0 := (l_e0 _ _)
    have E5 : y_ev x (30, []) = 30 := (l_e0 _ _)
    have E6 : y_ev x (0, [(1, 1)]) = x 1 := (l_e1 _ _)
    have E7 : y_ev x (0, [(2, 1)]) = x 2 := (l_e1 _ _)
    have E8 : y_ev x (18, []) = 18 := (l_e0 _ _)
    have E9 : y_ev x (0, [(3, 1)]) = x 3 := (l_e1 _ _)
    have E10 : y_ev x (0, [(4, 1)]) = x 4 := (l_e1 _ _)
    have T0 : q_sto v 0 (y_ev x (0, [(5, 1)])) (y_ev x (0, [(6, 1)])) (y_ev x (0, [(7, 1)])) (y_ev x (0, [(8, 1)])) (y_ev x (0, [])) (y_ev x (0, [])) (y_ev x (0, [])) (y_ev x (0, [])) (y_ev x (0, [])) (y_ev x (0, [])) (y_ev x (0, [])) := h.2.2.2.1
    (try rw [E0] at T0); (try rw [E1] at T0); (try rw [E2] at T0); (try rw [E3] at T0); (try rw [E4] at T0)
    have T1 : q_qry v (y_ev x (30, [])) (y_ev x (0, [])) (y_ev x (0, [])) (y_ev x (0, [])) (y_ev x (0, [])) (y_ev x (0, [])) (y_ev x (0, [])) (y_ev x (0, [])) (y_ev x (0, [(1, 1)])) (y_ev x (0, [(2, 1)])) (y_ev x (0, [])) := h.2.2.2.2.1
    (try rw [E5] at T1); (try rw [E4] at T1); (try rw [E6] at T1); (try rw [E7] at T1)
    have T2 : q_qry v (y_ev x (18, [])) (y_ev x (0, [])) (y_ev x (0, [])) (y_ev x (0, [])) (y_ev x (0, [])) (y_ev x (0, [])) (y_ev x (0, [])) (y_ev x (0, [])) (y_ev x (0, [(1, 1)])) (y_ev x (0, [])) (y_ev x (0, [(3, 1)])) := h.2.2.2.2.2.1
    (try rw [E8] at T2); (try rw [E4] at T2); (try rw [E6] at T2); (try rw [E9] at T2)
    have T3 : q_qry v (y_ev x (18, [])) (y_ev x (0, [])) (y_ev x (0, [])) (y_ev x (0, [])) (y_ev x (0, [])) (y_ev x (0, [])) (y_ev x (0, [])) (y_ev x (0, [])) (y_ev x (0, [(2, 1)])) (y_ev x (0, [])) (y_ev x (0, [(4, 1)])) := h.2.2.2.2.2.2.1
    (try rw [E8] at T3); (try rw [E4] at T3); (try rw [E7] at T3); (try rw [E10] at T3)
    have K := k_grxB (V := v) (n := x 0) (i := x 1) (bb := x 2) (v := x 3) (w := x 4) (H := x 5) (p := x 6) (y := x 7) (d := x 8) T0 T1 T2 T3 C0 C1 C2 C3 C4 C5 F0
    refine l_outH rfl (And.intro h.1 ?_)
    have O0 : y_ev x ((-1), [(1, (-1)), (6, 1)]) = x 6 - x 1 - 1 := by show ((-1) : Int) + ((-1) * x 1 + ((1) * x 6 + 0)) = _; omega
    have O1 : y_ev x (30, []) = 30 := l_e0 _ _
    have O2 : y_ev x (0, []) = 0 := l_e0 _ _
    have O3 : y_ev x (1, [(1, 1)]) = x 1 + 1 := by show ((1) : Int) + ((1) * x 1 + 0) = _; omega
    have O4 : y_ev x (0, [(1, 1)]) = x 1 := l_e1 _ _
    show (0 ≤ y_ev x ((-1), [(1, (-1)), (6, 1)]) ∧ True) ∧ (q_qry v (y_ev x (30, [])) (y_ev x (0, [])) (y_ev x (0, [])) (y_ev x (0, [])) (y_ev x (0, [])) (y_ev x (0, [])) (y_ev x (0, [])) (y_ev x (0, [])) (y_ev x (1, [(1, 1)])) (y_ev x (0, [(1, 1)])) (y_ev x (0, [])) ∧ True)
    (try rw [O0]); (try rw [O1]); (try rw [O2]); (try rw [O3]); (try rw [O4])
    exact K
def lm_1080p : zS := ((lm_474pi_0 (lm_474pi_1 [])), [(77, false)], [(0, [(1, 1)]), ((-1), [(0, 1), (1, (-1))]), (0, [(0, (-1)), (6, 1)]), (0, [(0, 1), (6, (-1))]), (0, [(2, 1)]), (0, [(3, 1), (4, (-1))])], [], [(0, 0, 0, [(1, 1)]), (0, 0, 0, [(2, 1)])], [(0, (true, 0, 24, []), 0, 0, 0, [(0, 1)])], (lm_1079pg_0 []))
def lm_1080 : zLem := (lm_1080p, [([((-2147483648), 2147483647), ((-2147483648), 2147483647), ((-2147483648), 2147483647), ((-2147483648), 2147483647), ((-2147483648), 2147483647), ((-2147483648), 2147483647), ((-2147483648), 2147483647), ((-2147483648), 2147483647), ((-2147483648), 2147483647)], [(77, false)], [], [], [], [], [(238, [(30, []), (0, []), (0, []), (0, []), (0, []), (0, []), (0, []), (0, []), (1, [(1, 1)]), (0, [(2, 1)]), (0, [])])])])
theorem lk_1080 : l_core lm_1080 := by
  first
  | skip
    intro v x h
    have G0 := h.2.2.1
    have C0 : (0 : Int) ≤ x 1 := l_cc (a := y_ev x (0, [(1, 1)])) (l_e1 _ _) (h.2.1.1)
    have C1 : (0 : Int) ≤ x 0 - x 1 - 1 := l_cc (a := y_ev x ((-1), [(0, 1), (1, (-1))])) (by show ((-1) : Int) + ((1) * x 0 + ((-1) * x 1 + 0)) = x 0 - x 1 - 1; omega) (h.2.1.2.1)
    have C2 : (0 : Int) ≤ x 6 - x 0 := l_cc (a := y_ev x (0, [(0, (-1)), (6, 1)])) (by show ((0) : Int) + ((-1) * x 0 + ((1) * x 6 + 0)) = x 6 - x 0; omega) (h.2.1.2.2.1)
    have C3 : (0 : Int) ≤ x 0 - x 6 := l_cc (a := y_ev x (0, [(0, 1), (6, (-1))])) (by show ((0) : Int) + ((1) * x 0 + ((-1) * x 6 + 0)) = x 0 - x 6; omega) (h.2.1.2.2.2.1)
    have C4 : (0 : Int) ≤ x 2 := l_cc (a := y_ev x (0, [(2, 1)])) (l_e1 _ _) (h.2.1.2.2.2.2.1)
    have C5 : (0 : Int) ≤ x 3 - x 4 := l_cc (a := y_ev x (0, [(3, 1), (4, (-1))])) (by show ((0) : Int) + ((1) * x 3 + ((-1) * x 4 + 0)) = x 3 - x 4; omega) (h.2.1.2.2.2.2.2.1)
    have F0 : (0 : Int) ≤ 24 ∧ (24 : Int) < j_len 77 ∧ v 77 (24) = x 0 := l_ff (f := v 77) (L := j_len 77) (a := y_ev x (24, [])) (b := y_ev x (0, [(0, 1)])) (l_e0 _ _) (l_e1 _ _) (G0.1.1)
    have T0 : q_sto v 0 (y_ev x (0, [(5, 1)])) (y_ev x (0, [(6, 1)])) (y_ev x (0, [(7, 1)])) (y_ev x (0, [(8, 1)])) (y_ev x (0, [])) (y_ev x (0, [])) (y_ev x (0, [])) (y_ev x (0, [])) (y_ev x (0, [])) (y_ev x (0, [])) (y_ev x (0, [])) := h.2.2.2.1
    (try simp only [l_e1, l_e0] at T0)
    have T1 : q_qry v (y_ev x (30, [])) (y_ev x (0, [])) (y_ev x (0, [])) (y_ev x (0, [])) (y_ev x (0, [])) (y_ev x (0, [])) (y_ev x (0, [])) (y_ev x (0, [])) (y_ev x (0, [(1, 1)])) (y_ev x (0, [(2, 1)])) (y_ev x (0, [])) := h.2.2.2.2.1
    (try simp only [l_e1, l_e0] at T1)
    have T2 : q_qry v (y_ev x (18, [])) (y_ev x (0, [])) (y_ev x (0, [])) (y_ev x (0, [])) (y_ev x (0, [])) (y_ev x (0, [])) (y_ev x (0, [])) (y_ev x (0, [])) (y_ev x (0, [(1, 1)])) (y_ev x (0, [])) (y_ev x (0, [(3, 1)])) := h.2.2.2.2.2.1
    (try simp only [l_e1, l_e0] at T2)
    have T3 : q_qry v (y_ev x (18, [])) (y_ev x (0, [])) (y_ev x (0, [])) (y_ev x (0, [])) (y_ev x (0, [])) (y_ev x (0, [])) (y_ev x (0, [])) (y_ev x (0, [])) (y_ev x (0, [(2, 1)])) (y_ev x (0, [])) (y_ev x (0, [(4, 1)])) := h.2.2.2.2.2.2.1
    (try simp only [l_e1, l_e0] at T3)
    have K := k_grxN (V := v) (n := x 0) (i := x 1) (bb := x 2) (v := x 3) (w := x 4) (H := x 5) (p := x 6) (y := x 7) (d := x 8) T0 T1 T2 T3 C0 C1 C2 C3 C4 C5 F0
    refine l_outH rfl (And.intro h.1 ?_)
    have O2 : y_ev x (1, [(1, 1)]) = x 1 + 1 := by show ((1) : Int) + ((1) * x 1 + 0) = _; omega
    show (True) ∧ (q_qry v (y_ev x (30, [])) (y_ev x (0, [])) (y_ev x (0, [])) (y_ev x (0, [])) (y_ev x (0, [])) (y_ev x (0, [])) (y_ev x (0, [])) (y_ev x (0, [])) (y_ev x (1, [(1, 1)])) (y_ev x (0, [(2, 1)])) (y_ev x (0, [])) ∧ True)
    (try rw [O2]); (try simp only [l_e1, l_e0])
    exact K
  | skip
    intro v x h
    have G0 := h.2.2.1
    have C0 : (0 : Int) ≤ x 1 := l_cc (a := y_ev x (0, [(1, 1)])) (l_e1 _ _) (h.2.1.1)
    have C1 : (0 : Int) ≤ x 0 - x 1 - 1 := l_cc (a := y_ev x ((-1), [(0, 1), (1, (-1))])) (by show ((-1) : Int) + ((1) * x 0 + ((-1) * x 1 + 0)) = x 0 - x 1 - 1; omega) (h.2.1.2.1)
    have C2 : (0 : Int) ≤ x 6 - x 0 := l_cc (a := y_ev x (0, [(0, (-1)), (6, 1)])) (by show ((0) : Int) + ((-1) * x 0 + ((1) * x 6 + 0)) = x 6 - x 0; omega) (h.2.1.2.2.1)
    have C3 : (0 : Int) ≤ x 0 - x 6 := l_cc (a := y_ev x (0, [(0, 1), (6, (-1))])) (by show ((0) : Int) + ((1) * x 0 + ((-1) * x 6 + 0)) = x 0 - x 6; omega) (h.2.1.2.2.2.1)
    have C4 : (0 : Int) ≤ x 2 := l_cc (a := y_ev x (0, [(2, 1)])) (l_e1 _ _) (h.2.1.2.2.2.2.1)
    have C5 : (0 : Int) ≤ x 3 - x 4 := l_cc (a := y_ev x (0, [(3, 1), (4, (-1))])) (by show ((0) : Int) + ((1) * x 3 + ((-1) * x 4 + 0)) = x 3 - x 4; omega) (h.2.1.2.2.2.2.2.1)
    have F0 : (0 : Int) ≤ 24 ∧ (24 : Int) < j_len 77 ∧ v 77 (24) = x 0 := l_ff (f := v 77) (L := j_len 77) (a := y_ev x (24, [])) (b := y_ev x (0, [(0, 1)])) (l_e0 _ _) (l_e1 _ _) (G0.1.1)
    have E0 : y_ev x (0, [(5, 1)]) = x 5 := (l_e1 _ _)
    have E1 : y_ev x (0, [(6, 1)]) = x 6 := (l_e1 _ _)
    have E2 : y_ev x (0, [(7, 1)]) = x 7 := (l_e1 _ _)
    have E3 : y_ev x (0, [(8, 1)]) = x 8 := (l_e1 _ _)
    have E4 : y_ev x (0, []) = 0 := (l_e0 _ _)
    have E5 : y_ev x (30, []) = 30 := (l_e0 _ _)
    have E6 : y_ev x (0, [(1, 1)]) = x 1 := (l_e1 _ _)
    have E7 : y_ev x (0, [(2, 1)]) = x 2 := (l_e1 _ _)
    have E8 : y_ev x (18, []) = 18 := (l_e0 _ _)
    have E9 : y_ev x (0, [(3, 1)]) = x 3 := (l_e1 _ _)
    have E10 : y_ev x (0, [(4, 1)]) = x 4 := (l_e1 _ _)
    have T0 : q_sto v 0 (y_ev x (0, [(5, 1)])) (y_ev x (0, [(6, 1)])) (y_ev x (0, [(7, 1)])) (y_ev x (0, [(8, 1)])) (y_ev x (0, [])) (y_ev x (0, [])) (y_ev x (0, [])) (y_ev x (0, [])) (y_ev x (0, [])) (y_ev x (0, [])) (y_ev x (0, [])) := h.2.2.2.1
    (try rw [E0] at T0); (try rw [E1] at T0); (try rw [E2] at T0); (try rw [E3] at T0); (try rw [E4] at T0)
    have T1 : q_qry v (y_ev x (30, [])) (y_ev x (0, [])) (y_ev x (0, [])) (y_ev x (0, [])) (y_ev x (0, [])) (y_ev x (0, [])) (y_ev x (0, [])) (y_ev x (0, [])) (y_ev x (0, [(1, 1)])) (y_ev x (0, [(2, 1)])) (y_ev x (0, [])) := h.2.2.2.2.1
    (try rw [E5] at T1); (try rw [E4] at T1); (try rw [E6] at T1); (try rw [E7] at T1)
    have T2 : q_qry v (y_ev x (18, [])) (y_ev x (0, [])) (y_ev x (0, [])) (y_ev x (0, [])) (y_ev x (0, [])) (y_ev x (0, [])) (y_ev x (0, [])) (y_ev x (0, [])) (y_ev x (0, [(1, 1)])) (y_ev x (0, [])) (y_ev x (0, [(3, 1)])) := h.2.2.2.2.2.1
    (try rw [E8] at T2); (try rw [E4] at T2); (try rw [E6] at T2); (try rw [E9] at T2)
    have T3 : q_qry v (y_ev x (18, [])) (y_ev x (0, [])) (y_ev x (0, [])) (y_ev x (0, [])) (y_ev x (0, [])) (y_ev x (0, [])) (y_ev x (0, [])) (y_ev x (0, [])) (y_ev x (0, [(2, 1)])) (y_ev x (0, [])) (y_ev x (0, [(4, 1)])) := h.2.2.2.2.2.2.1
    (try rw [E8] at T3); (try rw [E4] at T3); (try rw [E7] at T3); (try rw [E10] at T3)
    have K := k_grxN (V := v) (n := x 0) (i := x 1) (bb := x 2) (v := x 3) (w := x 4) (H := x 5) (p := x 6) (y := x 7) (d := x 8) T0 T1 T2 T3 C0 C1 C2 C3 C4 C5 F0
    refine l_outH rfl (And.intro h.1 ?_)
    have O0 : y_ev x (30, []) = 30 := l_e0 _ _
    have O1 : y_ev x (0, []) = 0 := l_e0 _ _
    have O2 : y_ev x (1, [(1, 1)]) = x 1 + 1 := by show ((1) : Int) + ((1) * x 1 + 0) = _; omega
    have O3 : y_ev x (0, [(2, 1)]) = x 2 := l_e1 _ _
    show (True) ∧ (q_qry v (y_ev x (30, [])) (y_ev x (0, [])) (y_ev x (0, [])) (y_ev x (0, [])) (y_ev x (0, [])) (y_ev x (0, [])) (y_ev x (0, [])) (y_ev x (0, [])) (y_ev x (1, [(1, 1)])) (y_ev x (0, [(2, 1)])) (y_ev x (0, [])) ∧ True)
    (try rw [O0]); (try rw [O1]); (try rw [O2]); (try rw [O3])
    exact K
def lm_1081 : zLem := (([((-2147483648), 2147483647), ((-2147483648), 2147483647), ((-2147483648), 2147483647), ((-2147483648), 2147483647), ((-2147483648), 2147483647), ((-2147483648), 2147483647), ((-2147483648), 2147483647)], [(77, false)], [(0, [(0, (-1)), (1, 1)]), (0, [(0, (-1)), (4, 1)]), (0, [(0, 1), (4, (-1))])], [], [(0, 0, 0, [(2, 1)]), (0, 0, 0, [(1, 1)])], [(0, (true, 0, 24, []), 0, 0, 0, [(0, 1)])], [(235, [(0, [(3, 1)]), (0, [(4, 1)]), (0, [(5, 1)]), (0, [(6, 1)]), (0, []), (0, []), (0, []), (0, []), (0, []), (0, []), (0, [])]), (238, [(30, []), (0, []), (0, []), (0, []), (0, []), (0, []), (0, []), (0, []), (0, [(1, 1)]), (0, [(2, 1)]), (0, [])])]), [([((-2147483648), 2147483647), ((-2147483648), 2147483647), ((-2147483648), 2147483647), ((-2147483648), 2147483647), ((-2147483648), 2147483647), ((-2147483648), 2147483647), ((-2147483648), 2147483647)], [(77, false)], [], [], [], [], [(238, [(30, []), (0, []), (0, []), (0, []), (0, []), (0, []), (0, []), (0, []), (0, [(4, 1)]), (0, [(2, 1)]), (0, [])])])])
theorem lk_1081 : l_core lm_1081 := by
  first
  | skip
    intro v x h
    have G0 := h.2.2.1
    have C0 : (0 : Int) ≤ x 1 - x 0 := l_cc (a := y_ev x (0, [(0, (-1)), (1, 1)])) (by show ((0) : Int) + ((-1) * x 0 + ((1) * x 1 + 0)) = x 1 - x 0; omega) (h.2.1.1)
    have C1 : (0 : Int) ≤ x 4 - x 0 := l_cc (a := y_ev x (0, [(0, (-1)), (4, 1)])) (by show ((0) : Int) + ((-1) * x 0 + ((1) * x 4 + 0)) = x 4 - x 0; omega) (h.2.1.2.1)
    have C2 : (0 : Int) ≤ x 0 - x 4 := l_cc (a := y_ev x (0, [(0, 1), (4, (-1))])) (by show ((0) : Int) + ((1) * x 0 + ((-1) * x 4 + 0)) = x 0 - x 4; omega) (h.2.1.2.2.1)
    have F0 : (0 : Int) ≤ 24 ∧ (24 : Int) < j_len 77 ∧ v 77 (24) = x 0 := l_ff (f := v 77) (L := j_len 77) (a := y_ev x (24, [])) (b := y_ev x (0, [(0, 1)])) (l_e0 _ _) (l_e1 _ _) (G0.1.1)
    have T0 : q_sto v 0 (y_ev x (0, [(3, 1)])) (y_ev x (0, [(4, 1)])) (y_ev x (0, [(5, 1)])) (y_ev x (0, [(6, 1)])) (y_ev x (0, [])) (y_ev x (0, [])) (y_ev x (0, [])) (y_ev x (0, [])) (y_ev x (0, [])) (y_ev x (0, [])) (y_ev x (0, [])) := h.2.2.2.1
    (try simp only [l_e1, l_e0] at T0)
    have T1 : q_qry v (y_ev x (30, [])) (y_ev x (0, [])) (y_ev x (0, [])) (y_ev x (0, [])) (y_ev x (0, [])) (y_ev x (0, [])) (y_ev x (0, [])) (y_ev x (0, [])) (y_ev x (0, [(1, 1)])) (y_ev x (0, [(2, 1)])) (y_ev x (0, [])) := h.2.2.2.2.1
    (try simp only [l_e1, l_e0] at T1)
    have K := k_grxE (V := v) (n := x 0) (i := x 1) (bb := x 2) (H := x 3) (p := x 4) (y := x 5) (d := x 6) T0 T1 C0 C1 C2 F0
    refine l_outH rfl (And.intro h.1 ?_)
    show (True) ∧ (q_qry v (y_ev x (30, [])) (y_ev x (0, [])) (y_ev x (0, [])) (y_ev x (0, [])) (y_ev x (0, [])) (y_ev x (0, [])) (y_ev x (0, [])) (y_ev x (0, [])) (y_ev x (0, [(4, 1)])) (y_ev x (0, [(2, 1)])) (y_ev x (0, [])) ∧ True)
    (try simp only [l_e1, l_e0])
    exact K
  | skip
    intro v x h
    have G0 := h.2.2.1
    have C0 : (0 : Int) ≤ x 1 - x 0 := l_cc (a := y_ev x (0, [(0, (-1)), (1, 1)])) (by show ((0) : Int) + ((-1) * x 0 + ((1) * x 1 + 0)) = x 1 - x 0; omega) (h.2.1.1)
    have C1 : (0 : Int) ≤ x 4 - x 0 := l_cc (a := y_ev x (0, [(0, (-1)), (4, 1)])) (by show ((0) : Int) + ((-1) * x 0 + ((1) * x 4 + 0)) = x 4 - x 0; omega) (h.2.1.2.1)
    have C2 : (0 : Int) ≤ x 0 - x 4 := l_cc (a := y_ev x (0, [(0, 1), (4, (-1))])) (by show ((0) : Int) + ((1) * x 0 + ((-1) * x 4 + 0)) = x 0 - x 4; omega) (h.2.1.2.2.1)
    have F0 : (0 : Int) ≤ 24 ∧ (24 : Int) < j_len 77 ∧ v 77 (24) = x 0 := l_ff (f := v 77) (L := j_len 77) (a := y_ev x (24, [])) (b := y_ev x (0, [(0, 1)])) (l_e0 _ _) (l_e1 _ _) (G0.1.1)
    have E0 : y_ev x (0, [(3, 1)]) = x 3 := (l_e1 _ _)
    have E1 : y_ev x (0, [(4, 1)]) = x 4 := (l_e1 _ _)
    have E2 : y_ev x (0, [(5, 1)]) = x 5 := (l_e1 _ _)
    have E3 : y_ev x (0, [(6, 1)]) = x 6 := (l_e1 _ _)
    have E4 : y_ev x (0, []) = 0 := (l_e0 _ _)
    have E5 : y_ev x (30, []) = 30 := (l_e0 _ _)
    have E6 : y_ev x (0, [(1, 1)]) = x 1 := (l_e1 _ _)
    have E7 : y_ev x (0, [(2, 1)]) = x 2 := (l_e1 _ _)
    have T0 : q_sto v 0 (y_ev x (0, [(3, 1)])) (y_ev x (0, [(4, 1)])) (y_ev x (0, [(5, 1)])) (y_ev x (0, [(6, 1)])) (y_ev x (0, [])) (y_ev x (0, [])) (y_ev x (0, [])) (y_ev x (0, [])) (y_ev x (0, [])) (y_ev x (0, [])) (y_ev x (0, [])) := h.2.2.2.1
    (try rw [E0] at T0); (try rw [E1] at T0); (try rw [E2] at T0); (try rw [E3] at T0); (try rw [E4] at T0)
    have T1 : q_qry v (y_ev x (30, [])) (y_ev x (0, [])) (y_ev x (0, [])) (y_ev x (0, [])) (y_ev x (0, [])) (y_ev x (0, [])) (y_ev x (0, [])) (y_ev x (0, [])) (y_ev x (0, [(1, 1)])) (y_ev x (0, [(2, 1)])) (y_ev x (0, [])) := h.2.2.2.2.1
    (try rw [E5] at T1); (try rw [E4] at T1); (try rw [E6] at T1); (try rw [E7] at T1)
    have K := k_grxE (V := v) (n := x 0) (i := x 1) (bb := x 2) (H := x 3) (p := x 4) (y := x 5) (d := x 6) T0 T1 C0 C1 C2 F0
    refine l_outH rfl (And.intro h.1 ?_)
    have O0 : y_ev x (30, []) = 30 := l_e0 _ _
    have O1 : y_ev x (0, []) = 0 := l_e0 _ _
    have O2 : y_ev x (0, [(4, 1)]) = x 4 := l_e1 _ _
    have O3 : y_ev x (0, [(2, 1)]) = x 2 := l_e1 _ _
    show (True) ∧ (q_qry v (y_ev x (30, [])) (y_ev x (0, [])) (y_ev x (0, [])) (y_ev x (0, [])) (y_ev x (0, [])) (y_ev x (0, [])) (y_ev x (0, [])) (y_ev x (0, [])) (y_ev x (0, [(4, 1)])) (y_ev x (0, [(2, 1)])) (y_ev x (0, [])) ∧ True)
    (try rw [O0]); (try rw [O1]); (try rw [O2]); (try rw [O3])
    exact K
def lm_1082 : zLem := (([((-2147483648), 2147483647), ((-2147483648), 2147483647), ((-2147483648), 2147483647), ((-2147483648), 2147483647)], [], [], [], [], [], [(260, [(29, []), (0, []), (0, []), (0, []), (0, []), (0, []), (0, []), (0, []), (0, [(0, 1)]), (0, [(1, 1)]), (0, [(2, 1)])]), (238, [(30, []), (0, []), (0, []), (0, []), (0, []), (0, []), (0, []), (0, []), (0, [(0, 1)]), (0, [(3, 1)]), (0, [])])]), [([((-2147483648), 2147483647), ((-2147483648), 2147483647), ((-2147483648), 2147483647), ((-2147483648), 2147483647)], [], [(0, [(1, 1), (3, (-1))]), (0, [(1, (-1)), (3, 1)])], [], [], [], [])])
theorem lk_1082 : l_core lm_1082 := by
  first
  | skip
    intro v x h
    have T0 : q_qry v (y_ev x (29, [])) (y_ev x (0, [])) (y_ev x (0, [])) (y_ev x (0, [])) (y_ev x (0, [])) (y_ev x (0, [])) (y_ev x (0, [])) (y_ev x (0, [])) (y_ev x (0, [(0, 1)])) (y_ev x (0, [(1, 1)])) (y_ev x (0, [(2, 1)])) := h.2.2.2.1
    (try simp only [l_e1, l_e0] at T0)
    have T1 : q_qry v (y_ev x (30, [])) (y_ev x (0, [])) (y_ev x (0, [])) (y_ev x (0, [])) (y_ev x (0, [])) (y_ev x (0, [])) (y_ev x (0, [])) (y_ev x (0, [])) (y_ev x (0, [(0, 1)])) (y_ev x (0, [(3, 1)])) (y_ev x (0, [])) := h.2.2.2.2.1
    (try simp only [l_e1, l_e0] at T1)
    have K := k_qeG (V := v) (p := x 0) (bb := x 1) (l := x 2) (bc := x 3) T0 T1
    refine l_outH rfl (And.intro h.1 ?_)
    have O0 : y_ev x (0, [(1, 1), (3, (-1))]) = x 1 - x 3 := by show ((0) : Int) + ((1) * x 1 + ((-1) * x 3 + 0)) = _; omega
    have O1 : y_ev x (0, [(1, (-1)), (3, 1)]) = x 3 - x 1 := by show ((0) : Int) + ((-1) * x 1 + ((1) * x 3 + 0)) = _; omega
    show (0 ≤ y_ev x (0, [(1, 1), (3, (-1))]) ∧ 0 ≤ y_ev x (0, [(1, (-1)), (3, 1)]) ∧ True) ∧ (True)
    (try rw [O0]); (try rw [O1])
    exact K
  | skip
    intro v x h
    have E0 : y_ev x (29, []) = 29 := (l_e0 _ _)
    have E1 : y_ev x (0, []) = 0 := (l_e0 _ _)
    have E2 : y_ev x (0, [(0, 1)]) = x 0 := (l_e1 _ _)
    have E3 : y_ev x (0, [(1, 1)]) = x 1 := (l_e1 _ _)
    have E4 : y_ev x (0, [(2, 1)]) = x 2 := (l_e1 _ _)
    have E5 : y_ev x (30, []) = 30 := (l_e0 _ _)
    have E6 : y_ev x (0, [(3, 1)]) = x 3 := (l_e1 _ _)
    have T0 : q_qry v (y_ev x (29, [])) (y_ev x (0, [])) (y_ev x (0, [])) (y_ev x (0, [])) (y_ev x (0, [])) (y_ev x (0, [])) (y_ev x (0, [])) (y_ev x (0, [])) (y_ev x (0, [(0, 1)])) (y_ev x (0, [(1, 1)])) (y_ev x (0, [(2, 1)])) := h.2.2.2.1
    (try rw [E0] at T0); (try rw [E1] at T0); (try rw [E2] at T0); (try rw [E3] at T0); (try rw [E4] at T0)
    have T1 : q_qry v (y_ev x (30, [])) (y_ev x (0, [])) (y_ev x (0, [])) (y_ev x (0, [])) (y_ev x (0, [])) (y_ev x (0, [])) (y_ev x (0, [])) (y_ev x (0, [])) (y_ev x (0, [(0, 1)])) (y_ev x (0, [(3, 1)])) (y_ev x (0, [])) := h.2.2.2.2.1
    (try rw [E5] at T1); (try rw [E1] at T1); (try rw [E2] at T1); (try rw [E6] at T1)
    have K := k_qeG (V := v) (p := x 0) (bb := x 1) (l := x 2) (bc := x 3) T0 T1
    refine l_outH rfl (And.intro h.1 ?_)
    have O0 : y_ev x (0, [(1, 1), (3, (-1))]) = x 1 - x 3 := by show ((0) : Int) + ((1) * x 1 + ((-1) * x 3 + 0)) = _; omega
    have O1 : y_ev x (0, [(1, (-1)), (3, 1)]) = x 3 - x 1 := by show ((0) : Int) + ((-1) * x 1 + ((1) * x 3 + 0)) = _; omega
    show (0 ≤ y_ev x (0, [(1, 1), (3, (-1))]) ∧ 0 ≤ y_ev x (0, [(1, (-1)), (3, 1)]) ∧ True) ∧ (True)
    (try rw [O0]); (try rw [O1])
    exact K
def lm_1083 : zLem := (([((-2147483648), 2147483647), ((-2147483648), 2147483647), ((-2147483648), 2147483647), ((-2147483648), 2147483647)], [], [((-1), [(3, (-1))])], [], [], [], [(260, [(29, []), (0, []), (0, []), (0, []), (0, []), (0, []), (0, []), (0, []), (0, [(0, 1)]), (0, [(1, 1)]), (0, [(2, 1)])]), (238, [(30, []), (0, []), (0, []), (0, []), (0, []), (0, []), (0, []), (0, []), (0, [(0, 1)]), (0, [(3, 1)]), (0, [])])]), [([((-2147483648), 2147483647), ((-2147483648), 2147483647), ((-2147483648), 2147483647), ((-2147483648), 2147483647)], [], [(0, [(2, 1), (3, (-1))]), (0, [(2, (-1)), (3, 1)])], [], [], [], [])])
theorem lk_1083 : l_core lm_1083 := by
  first
  | skip
    intro v x h
    have C0 : (0 : Int) ≤ -x 3 - 1 := l_cc (a := y_ev x ((-1), [(3, (-1))])) (by show ((-1) : Int) + ((-1) * x 3 + 0) = -x 3 - 1; omega) (h.2.1.1)
    have T0 : q_qry v (y_ev x (29, [])) (y_ev x (0, [])) (y_ev x (0, [])) (y_ev x (0, [])) (y_ev x (0, [])) (y_ev x (0, [])) (y_ev x (0, [])) (y_ev x (0, [])) (y_ev x (0, [(0, 1)])) (y_ev x (0, [(1, 1)])) (y_ev x (0, [(2, 1)])) := h.2.2.2.1
    (try simp only [l_e1, l_e0] at T0)
    have T1 : q_qry v (y_ev x (30, [])) (y_ev x (0, [])) (y_ev x (0, [])) (y_ev x (0, [])) (y_ev x (0, [])) (y_ev x (0, [])) (y_ev x (0, [])) (y_ev x (0, [])) (y_ev x (0, [(0, 1)])) (y_ev x (0, [(3, 1)])) (y_ev x (0, [])) := h.2.2.2.2.1
    (try simp only [l_e1, l_e0] at T1)
    have K := k_qeGN (V := v) (p := x 0) (bb := x 1) (l := x 2) (bc := x 3) T0 T1 C0
    refine l_outH rfl (And.intro h.1 ?_)
    have O0 : y_ev x (0, [(2, 1), (3, (-1))]) = x 2 - x 3 := by show ((0) : Int) + ((1) * x 2 + ((-1) * x 3 + 0)) = _; omega
    have O1 : y_ev x (0, [(2, (-1)), (3, 1)]) = x 3 - x 2 := by show ((0) : Int) + ((-1) * x 2 + ((1) * x 3 + 0)) = _; omega
    show (0 ≤ y_ev x (0, [(2, 1), (3, (-1))]) ∧ 0 ≤ y_ev x (0, [(2, (-1)), (3, 1)]) ∧ True) ∧ (True)
    (try rw [O0]); (try rw [O1])
    exact K
  | skip
    intro v x h
    have C0 : (0 : Int) ≤ -x 3 - 1 := l_cc (a := y_ev x ((-1), [(3, (-1))])) (by show ((-1) : Int) + ((-1) * x 3 + 0) = -x 3 - 1; omega) (h.2.1.1)
    have E0 : y_ev x (29, []) = 29 := (l_e0 _ _)
    have E1 : y_ev x (0, []) = 0 := (l_e0 _ _)
    have E2 : y_ev x (0, [(0, 1)]) = x 0 := (l_e1 _ _)
    have E3 : y_ev x (0, [(1, 1)]) = x 1 := (l_e1 _ _)
    have E4 : y_ev x (0, [(2, 1)]) = x 2 := (l_e1 _ _)
    have E5 : y_ev x (30, []) = 30 := (l_e0 _ _)
    have E6 : y_ev x (0, [(3, 1)]) = x 3 := (l_e1 _ _)
    have T0 : q_qry v (y_ev x (29, [])) (y_ev x (0, [])) (y_ev x (0, [])) (y_ev x (0, [])) (y_ev x (0, [])) (y_ev x (0, [])) (y_ev x (0, [])) (y_ev x (0, [])) (y_ev x (0, [(0, 1)])) (y_ev x (0, [(1, 1)])) (y_ev x (0, [(2, 1)])) := h.2.2.2.1
    (try rw [E0] at T0); (try rw [E1] at T0); (try rw [E2] at T0); (try rw [E3] at T0); (try rw [E4] at T0)
    have T1 : q_qry v (y_ev x (30, [])) (y_ev x (0, [])) (y_ev x (0, [])) (y_ev x (0, [])) (y_ev x (0, [])) (y_ev x (0, [])) (y_ev x (0, [])) (y_ev x (0, [])) (y_ev x (0, [(0, 1)])) (y_ev x (0, [(3, 1)])) (y_ev x (0, [])) := h.2.2.2.2.1
    (try rw [E5] at T1); (try rw [E1] at T1); (try rw [E2] at T1); (try rw [E6] at T1)
    have K := k_qeGN (V := v) (p := x 0) (bb := x 1) (l := x 2) (bc := x 3) T0 T1 C0
    refine l_outH rfl (And.intro h.1 ?_)
    have O0 : y_ev x (0, [(2, 1), (3, (-1))]) = x 2 - x 3 := by show ((0) : Int) + ((1) * x 2 + ((-1) * x 3 + 0)) = _; omega
    have O1 : y_ev x (0, [(2, (-1)), (3, 1)]) = x 3 - x 2 := by show ((0) : Int) + ((-1) * x 2 + ((1) * x 3 + 0)) = _; omega
    show (0 ≤ y_ev x (0, [(2, 1), (3, (-1))]) ∧ 0 ≤ y_ev x (0, [(2, (-1)), (3, 1)]) ∧ True) ∧ (True)
    (try rw [O0]); (try rw [O1])
    exact K
end
